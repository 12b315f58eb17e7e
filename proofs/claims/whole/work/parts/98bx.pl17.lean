/-! the plan of the reference: takes of a showing -/
theorem MM.s {h : QH} {W : Nat → Nat} (M : MM h W) (d : Nat) {i f : Nat} (hi : i < 60) (hf : f < 5) : qcl (d + 1) 250 [qR (some 56), qI (nZ i), qI (nZ f)] h = some (some (qI (nZ (W (100 + f + 5 * i)))), h) := by
  rw [n250 M d hi hf, show 100 + 5 * i + f = 100 + f + 5 * i by omega]
theorem m266 {h : QH} {W : Nat → Nat} {o : Option (List CL)} (X : MX h W o) (d i : Nat) (L : Nat → Nat) (hi : i < 60) (P : mL h L) : ∃ k, qcl (d + 103) 266 [qR (some 56), qI (nZ i)] h = some (some (qI (nZ (pTk W o L i))), k) ∧ Fr fQ h k := by
  have H := X.1
  have M := X.mm
  obtain ⟨b0, b1, b2, b3, b4⟩ := X.2.2.1.sh hi
  have e1 : qcl (d + 102) 250 [qR (some 56), qI (nZ i), qI 1] h = some (some (qI (nZ (W (101 + 5 * i)))), h) := M.s (d + 101) hi (f := 1) (by decide)
  have e2 : qcl (d + 102) 250 [qR (some 56), qI (nZ i), qI 2] h = some (some (qI (nZ (W (102 + 5 * i)))), h) := M.s (d + 101) hi (f := 2) (by decide)
  have e3 : qcl (d + 102) 250 [qR (some 56), qI (nZ i), qI 3] h = some (some (qI (nZ (W (103 + 5 * i)))), h) := M.s (d + 101) hi (f := 3) (by decide)
  have e168 : qcl (d + 102) 168 [qR (some 56), qI (nZ (W (102 + 5 * i))), qI 0] h = some (some (qI (nZ (W (40 + 4 * W (102 + 5 * i))))), h) := n168 M (d + 101) (a := W (102 + 5 * i)) (f := 0) b2 (by decide)
  unfold pTk
  by_cases c : W (103 + 5 * i) = 0
  · rw [if_pos c]
    have m0 : nZ (W (103 + 5 * i)) = (0 : Int32) := by
      rw [c]
      rfl
    refine ⟨h, ?_, Fr.refl⟩
    rw [E266, ck56 H, ob_some, e1, jI, e2, jI, e3, jI, if_pos m0, e168, jI]
  · rw [if_neg c]
    have m0 : ¬(nZ (W (103 + 5 * i)) = (0 : Int32)) := by
      rw [L0, nZ_eq (by omega) (by decide)]
      exact c
    obtain ⟨k, ek, Fk⟩ := m266_37 X d i L hi P (by omega) (tz (W (103 + 5 * i))) 0 (by omega)
    refine ⟨k, ?_, Fk⟩
    rw [E266, ck56 H, ob_some, e1, jI, e2, jI, e3, jI, if_neg m0]
    exact ek

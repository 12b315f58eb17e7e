/-! the plan of the reference: takes -/
theorem m266_37 {h : QH} {W : Nat → Nat} {o : Option (List CL)} (X : MX h W o) (d i : Nat) (L : Nat → Nat) (hi : i < 60) (P : mL h L) (h0 : 1 ≤ W (103 + 5 * i)) : ∀ m b, b + m = tz (W (103 + 5 * i)) → ∃ k, qbig (d + 103) 266 37 [sR (some 56), sI (nZ i), sI (nZ (W (101 + 5 * i))), sI (nZ (W (102 + 5 * i))), sI (nZ (W (103 + 5 * i))), sI (nZ b)] [] h = some (some (qI (nZ (tw o 2 (pq W L i (tz (W (103 + 5 * i)))) (W (40 + 4 * W (102 + 5 * i)))))), k) ∧ Fr fQ h k
  | 0, b, e => by
    have H := X.1
    have M := X.mm
    obtain ⟨b0, b1, b2, b3, b4⟩ := X.2.2.1.sh hi
    obtain ⟨t1, t2, t3⟩ := tz_ok _ b3 h0
    have e' : b = tz (W (103 + 5 * i)) := by omega
    have bp := pc_le _ b3
    have e196 := m196 (d + 101) (W (103 + 5 * i)) (tz (W (103 + 5 * i))) h (by omega) (by omega)
    rw [bI_t t2] at e196
    have z10 : ¬(nZ 1 = (0 : Int32)) := by decide
    have ix : (5 : Int32) * nZ (W (101 + 5 * i)) + nZ (W (102 + 5 * i)) = nZ (5 * W (101 + 5 * i) + W (102 + 5 * i)) := by rw [L5, nZ_mul, nZ_add]
    have ix2 : (5 : Int32) * nZ (tz (W (103 + 5 * i))) + nZ (W (102 + 5 * i)) = nZ (5 * tz (W (103 + 5 * i)) + W (102 + 5 * i)) := by rw [L5, nZ_mul, nZ_add]
    obtain ⟨x5, y5⟩ := P _ _ b1 b2
    obtain ⟨x8, y8⟩ := P _ _ t1 b2
    have e250 : qcl (d + 102) 250 [qR (some 56), qI (nZ i), qI 0] h = some (some (qI (nZ (W (100 + 5 * i)))), h) := n250 M (d + 101) (s := i) (f := 0) hi (by decide)
    have e228 := m228 (d + 101) _ b3 h
    obtain ⟨h2, e170, F2, q2⟩ := m170 X (d + 100) (W (102 + 5 * i)) (W (100 + 5 * i)) (pc (W (103 + 5 * i))) (W (101 + 5 * i)) (L (5 * W (101 + 5 * i) + W (102 + 5 * i))) (tz (W (103 + 5 * i))) (L (5 * tz (W (103 + 5 * i)) + W (102 + 5 * i))) b1 t1 b2 (by omega) (by omega) (by omega) (by omega)
    obtain ⟨h3, e265, F3⟩ := m265 (X.fr F2 (fun j => rfl)) (q := pq W L i (tz (W (103 + 5 * i)))) q2 d b2
    refine ⟨h3, ?_, F2.trans F3⟩
    rw [e', E266_37, e196, jI, if_neg z10, g56_23 H, ob_some, ob_some, ix, A68 H (by omega), ob_some, x5, ob_some, ob_some, ix2, A68 H (by omega), ob_some, x8, e250, jI, e228, jI, e170, jV, e265, jI]
    rfl
  | m + 1, b, e => by
    obtain ⟨b0, b1, b2, b3, b4⟩ := X.2.2.1.sh hi
    obtain ⟨t1, t2, t3⟩ := tz_ok _ b3 h0
    obtain ⟨k, ek, Fk⟩ := m266_37 X d i L hi P h0 m (b + 1) (by omega)
    have e196 := m196 (d + 101) (W (103 + 5 * i)) b h (by omega) (by omega)
    rw [bI_f (by rw [t3 b (by omega) (by omega)]; decide)] at e196
    have z00 : nZ 0 = (0 : Int32) := rfl
    have ip : nZ b + 1 = nZ (b + 1) := by rw [L1, nZ_add]
    refine ⟨k, ?_, Fk⟩
    rw [E266_37, e196, jI, if_pos z00, ip]
    exact ek

/-! the plan of the reference: handing over to all -/
theorem m194l {W : Nat → Nat} {o : Option (List CL)} (d i tk B : Nat) (L Z0 : Nat → Nat) (s : PlS) (hi : i < 60) (u : ∀ l, l < W 408 → (W (103 + 5 * i)).testBit l = true → s.2.2 l + tk ≤ W (4 * l + 2)) : ∀ m l h, l + m = W 408 → MX h W o → mL h L → mZ h Z0 → mS h W B (pHs W o L Z0 i tk s l) → ∃ k, qbig (d + 103) 194 46 [sR (some 56), sI (nZ i), sI (nZ (W (101 + 5 * i))), sI (nZ (W (102 + 5 * i))), sI (nZ tk), sI (nZ l), none] [] h = some (none, k) ∧ Fr fR h k ∧ mS k W B (pHs W o L Z0 i tk s (W 408))
  | 0, l, h, e, X, P, Z, S => by
    have e' : l = W 408 := by omega
    have M := X.mm
    have n8 := M.n8
    have e232 := n232 M (d + 101)
    have lt1 : ¬(nZ l < nZ (W 408)) := by
      rw [nZ_lt (by omega) (by omega)]
      omega
    rw [e'] at S
    refine ⟨h, ?_, Fr.refl, S⟩
    rw [E194_46, e232, jI, if_neg lt1]
  | m + 1, l, h, e, X, P, Z, S => by
    obtain ⟨k, ek, Fk, Sk⟩ := m194s X d i tk l B L Z0 _ hi (by omega) P Z S (fun b => by
      rw [pHs_u l l, if_neg (by omega)]
      exact u l (by omega) b)
    obtain ⟨k2, ek2, Fk2, Sk2⟩ := m194l d i tk B L Z0 s hi u m (l + 1) k (by omega) (X.fr Fk (fun j => rfl)) (P.fr Fk (fun j => rfl)) (Z.fr Fk (fun j => rfl)) Sk
    exact ⟨k2, ek.trans ek2, Fk.trans Fk2, Sk2⟩
/-- what a reason of nought gives -/
theorem pR_0 {W : Nat → Nat} {o : Option (List CL)} {L U : Nat → Nat} {i : Nat} (c : pR W o L U i = 0) : pTk W o L i ≤ W (4 * W (101 + 5 * i) + 2) - U (W (101 + 5 * i)) ∧ ¬((W (103 + 5 * i)).testBit (W (101 + 5 * i)) = true) ∧ ∀ l, l < W 408 → (W (103 + 5 * i)).testBit l = true → pTk W o L i ≤ W (4 * l + 2) - U l := by
  unfold pR at c
  by_cases ct : rT W L U i (pTk W o L i) = 0
  · rw [if_pos ct] at c
    generalize pTk W o L i = tk at *
    have t3 : ¬(W (4 * W (101 + 5 * i) + 2) - U (W (101 + 5 * i)) < tk) ∧ ¬((W (103 + 5 * i)).testBit (W (101 + 5 * i)) = true) := by
      unfold rT at ct
      refine ⟨fun z => ?_, fun z => ?_⟩
      · rw [if_pos z] at ct
        split at ct
        · cases ct
        · split at ct <;> cases ct
      · rw [if_pos (Or.inr (Or.inr z))] at ct
        split at ct
        · cases ct
        · split at ct
          · cases ct
          · split at ct <;> cases ct
    refine ⟨by omega, t3.2, fun l hl b => ?_⟩
    have e0 := rLs_0 _ c l hl b
    have e8 : rL8 W L U i tk l = 0 := by
      unfold rL at e0
      by_cases z : rL8 W L U i tk l = 0
      · exact z
      · rw [if_neg z] at e0
        exact e0
    have e7 : ¬(W (4 * l + 2) - U l < tk) := fun z => by
      unfold rL8 at e8
      rw [if_pos z] at e8
      split at e8
      · cases e8
      · split at e8 <;> cases e8
    omega
  · rw [if_neg ct] at c
    exact absurd c ct
theorem m194 {h : QH} {W : Nat → Nat} {o : Option (List CL)} (X : MX h W o) (d i B : Nat) (L Z0 : Nat → Nat) (s : PlS) (hi' : i < W 410) (P : mL h L) (Z : mZ h Z0) (S : mS h W B s) (U9 : ∀ l, l < 8 → s.2.2 l ≤ W (4 * l + 2)) (c : pR W o L s.2.2 i = 0) : ∃ k, qcl (d + 104) 194 [qR (some 56), qI (nZ i)] h = some (none, k) ∧ Fr fR h k ∧ mS k W B (pS1 W o L Z0 i s) := by
  have H := X.1
  have M := X.mm
  have n60 := M.n60
  have n8 := M.n8
  have hi : i < 60 := by omega
  obtain ⟨b0, b1, b2, b3, b4⟩ := X.2.2.1.sh hi
  have b8 := (X.2.2.1.2.2.2.2.1 i hi').1
  obtain ⟨r1, r2, r3⟩ := pR_0 c
  have s1' : qcl (d + 103) 250 [qR (some 56), qI (nZ i), qI 1] h = some (some (qI (nZ (W (101 + 5 * i)))), h) := M.s (d + 102) hi (f := 1) (by decide)
  have s2' : qcl (d + 103) 250 [qR (some 56), qI (nZ i), qI 2] h = some (some (qI (nZ (W (102 + 5 * i)))), h) := M.s (d + 102) hi (f := 2) (by decide)
  obtain ⟨k, e266, Fk⟩ := m266 X d i L hi P
  have ht := pTk_le X.2.2.1 (o := o) (L := L) hi
  unfold pS1
  rw [if_pos c]
  unfold pG
  generalize pTk W o L i = tk at *
  have Xk := X.fr Fk (fun j => rfl)
  have Hk := Xk.1
  have Sk := S.fr Fk
  have up9 := U9 _ b1
  obtain ⟨v1, v2⟩ := m194h Sk (W (101 + 5 * i)) tk b8 (by omega)
  have S2 := Sk.hrs (W (101 + 5 * i)) tk b1
  have H0 : Sh (hsI k 72 (W (101 + 5 * i)) (nZ (W (4 * W (101 + 5 * i) + 2) - (s.2.2 (W (101 + 5 * i)) + tk)))) := Hk
  have q30 : hI (hsI k 72 (W (101 + 5 * i)) (nZ (W (4 * W (101 + 5 * i) + 2) - (s.2.2 (W (101 + 5 * i)) + tk)))) 56 30 = hI k 56 30 := hI_ne (by omega)
  have F1 : Fr fR k (hsI (hsI k 72 (W (101 + 5 * i)) (nZ (W (4 * W (101 + 5 * i) + 2) - (s.2.2 (W (101 + 5 * i)) + tk)))) 56 30 (nZ (B + sU s.2.2 + tk))) := Fr.si rfl (Fr.si rfl Fr.refl)
  have F2 := (Fk.mono fQ_R).trans F1
  obtain ⟨k2, ek2, Fk2, Sk2⟩ := m194l (o := o) (d + 1) i tk B L Z0 (s.1, s.2.1, up s.2.2 (W (101 + 5 * i)) (s.2.2 (W (101 + 5 * i)) + tk)) hi (fun l hl b => by
    have u8 := U9 l (by omega)
    have r4 := r3 l hl b
    have ne : l ≠ W (101 + 5 * i) := fun e => r2 (by rw [← e]; exact b)
    show up s.2.2 (W (101 + 5 * i)) (s.2.2 (W (101 + 5 * i)) + tk) l + tk ≤ _
    rw [up_ne ne]
    omega) (W 408) 0 _ (by omega) (X.fr F2 (fun j => rfl)) (P.fr F2 (fun j => rfl)) (Z.fr F2 (fun j => rfl)) S2
  refine ⟨k2, ?_, F2.trans Fk2, Sk2⟩
  rw [E194, ck56 H, ob_some, s1', jI, s2', jI, e266, jI, g56_27 Hk, ob_some, ob_some, A72 Hk (by omega), ob_some, ob_some, v1, S72 Hk (by omega), ob_some, g56_30 H0, ob_some, q30, v2, p56_30 H0, ob_some]
  exact ek2

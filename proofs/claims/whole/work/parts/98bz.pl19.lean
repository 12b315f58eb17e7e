/-! the plan of the reference: what a showing lacks, all of it -/
theorem m213l {W : Nat → Nat} {o : Option (List CL)} (d i tk : Nat) (L U : Nat → Nat) (hi : i < 60) (ht : tk < 1000) : ∀ m l h, l + m = W 408 → MX h W o → mL h L → mU h W U → ∃ k, qbig (d + 103) 213 119 [sR (some 56), none, sI (nZ (W (100 + 5 * i))), sI (nZ (W (101 + 5 * i))), sI (nZ (W (102 + 5 * i))), sI (nZ (W (103 + 5 * i))), sI (nZ (pc (W (103 + 5 * i)))), sI (nZ tk), sI (nZ (tn (rLs W o L U i tk l))), sI (nZ l)] [] h = some (some (qI (nZ (rLs W o L U i tk (W 408)))), k) ∧ Fr fQ h k
  | 0, l, h, e, X, P, Q => by
    have e' : l = W 408 := by omega
    have M := X.mm
    have n8 := M.n8
    have e232 := n232 M (d + 101)
    have lt1 : ¬(nZ l < nZ (W 408)) := by
      rw [nZ_lt (by omega) (by omega)]
      omega
    have f9 := rLs_le (W := W) (o := o) (L := L) (U := U) (i := i) (tk := tk) l
    refine ⟨h, ?_, Fr.refl⟩
    rw [E213_119, e232, jI, if_neg lt1, ← e']
    generalize rLs W o L U i tk l = f at *
    by_cases c : f = 0
    · rw [c, if_pos (by decide)]
      rfl
    · have t : tn f = f := by
        unfold tn
        rw [if_neg c]
      have t10 : ¬(nZ f = (10 : Int32)) := by
        rw [L10, nZ_eq (by omega) (by decide)]
        omega
      rw [t, if_neg t10]
  | m + 1, l, h, e, X, P, Q => by
    obtain ⟨k, ek, Fk⟩ := m213s X d i tk l L U hi (by omega) ht P Q
    obtain ⟨k2, ek2, Fk2⟩ := m213l d i tk L U hi ht m (l + 1) k (by omega) (X.fr Fk (fun j => rfl)) (P.fr Fk (fun j => rfl)) (Q.fr Fk (fun j => rfl))
    exact ⟨k2, ek.trans ek2, Fk.trans Fk2⟩
theorem m213 {h : QH} {W : Nat → Nat} {o : Option (List CL)} (X : MX h W o) (d i : Nat) (L U : Nat → Nat) (hi' : i < W 410) (P : mL h L) (Q : mU h W U) : ∃ k, qcl (d + 104) 213 [qR (some 56), qI (nZ i)] h = some (some (qI (nZ (pR W o L U i))), k) ∧ Fr fQ h k := by
  have H := X.1
  have M := X.mm
  have n60 := M.n60
  have n8 := M.n8
  have hi : i < 60 := by omega
  obtain ⟨b0, b1, b2, b3, b4⟩ := X.2.2.1.sh hi
  have b8 := (X.2.2.1.2.2.2.2.1 i hi').1
  have bp := pc_le _ b3
  have s0 : qcl (d + 103) 250 [qR (some 56), qI (nZ i), qI 0] h = some (some (qI (nZ (W (100 + 5 * i)))), h) := M.s (d + 102) hi (f := 0) (by decide)
  have s1' : qcl (d + 103) 250 [qR (some 56), qI (nZ i), qI 1] h = some (some (qI (nZ (W (101 + 5 * i)))), h) := M.s (d + 102) hi (f := 1) (by decide)
  have s2' : qcl (d + 103) 250 [qR (some 56), qI (nZ i), qI 2] h = some (some (qI (nZ (W (102 + 5 * i)))), h) := M.s (d + 102) hi (f := 2) (by decide)
  have s3' : qcl (d + 103) 250 [qR (some 56), qI (nZ i), qI 3] h = some (some (qI (nZ (W (103 + 5 * i)))), h) := M.s (d + 102) hi (f := 3) (by decide)
  have e228 := m228 (d + 102) _ b3 h
  obtain ⟨k, e266, Fk⟩ := m266 X d i L hi P
  have Xk := X.fr Fk (fun j => rfl)
  have Mk := Xk.mm
  have Hk := Xk.1
  have ht := pTk_le X.2.2.1 (o := o) (L := L) hi
  have Pk := P.fr Fk (fun j => rfl)
  have Qk := Q.fr Fk (fun j => rfl)
  obtain ⟨x7, y7⟩ := Pk _ _ b1 b2
  obtain ⟨x12, y12⟩ := Qk _ b8
  have ix : (5 : Int32) * nZ (W (101 + 5 * i)) + nZ (W (102 + 5 * i)) = nZ (5 * W (101 + 5 * i) + W (102 + 5 * i)) := by rw [L5, nZ_mul, nZ_add]
  have e201 := n201 Mk (d + 101) (p := W (101 + 5 * i)) (k := W (100 + 5 * i)) (by omega) (by omega)
  have e168 : qcl (d + 103) 168 [qR (some 56), qI (nZ (W (102 + 5 * i))), qI 1] k = some (some (qI (nZ (W (40 + 4 * W (102 + 5 * i) + 1)))), k) := n168 Mk (d + 102) (a := W (102 + 5 * i)) (f := 1) b2 (by decide)
  have b41 : W (40 + 4 * W (102 + 5 * i) + 1) < 2147483648 := M.b (by omega) (by omega)
  have bh : W (4 * W (101 + 5 * i) + 2) < 2147483648 := M.b (by omega) (by omega)
  have e218 : qcl (d + 103) 218 [qI (nZ (pc (W (103 + 5 * i)))), qI 1, qI (nZ (W (40 + 4 * W (102 + 5 * i) + 1)))] k = some (some (qI (bI (inR (nZ (pc (W (103 + 5 * i)))) 1 (W (40 + 4 * W (102 + 5 * i) + 1))))), k) := m218 (d + 102) (nZ (pc (W (103 + 5 * i)))) 1 (W (40 + 4 * W (102 + 5 * i) + 1)) (by decide) b41 k
  have e196 := m196 (d + 102) (W (103 + 5 * i)) (W (101 + 5 * i)) k (by omega) (by omega)
  have z00 : nZ 0 = (0 : Int32) := rfl
  have z10 : ¬(nZ 1 = (0 : Int32)) := by decide
  obtain ⟨k2, ek2, Fk2⟩ := m213l (o := o) (d + 1) i (pTk W o L i) L U hi (by omega) (W 408) 0 k (by omega) Xk Pk Qk
  unfold pR
  have l9 := rLs_le (W := W) (o := o) (L := L) (U := U) (i := i) (tk := pTk W o L i) (W 408)
  have ek2' : qbig (d + 104) 213 119 [sR (some 56), none, sI (nZ (W (100 + 5 * i))), sI (nZ (W (101 + 5 * i))), sI (nZ (W (102 + 5 * i))), sI (nZ (W (103 + 5 * i))), sI (nZ (pc (W (103 + 5 * i)))), sI (nZ (pTk W o L i)), sI 10, sI 0] [] k = some (some (qI (nZ (rLs W o L U i (pTk W o L i) (W 408)))), k2) := ek2
  generalize rLs W o L U i (pTk W o L i) (W 408) = v at *
  clear ek2
  generalize pTk W o L i = tk at *
  unfold rT
  generalize L (5 * W (101 + 5 * i) + W (102 + 5 * i)) = lv at *
  have g0 : ∀ e, qbig (d + 104) 213 30 [sR (some 56), sI (nZ i), sI (nZ (W (100 + 5 * i))), sI (nZ (W (101 + 5 * i))), sI (nZ (W (102 + 5 * i))), sI (nZ (W (103 + 5 * i))), none, none, none, none] [] h = e → qcl (d + 104) 213 [qR (some 56), qI (nZ i)] h = e := by
    intro e he
    rw [E213, ck56 H, ob_some, s0, jI, s1', jI, s2', jI, s3', jI]
    exact he
  by_cases c0 : lv = 0
  · rw [if_pos c0, if_neg (by decide)]
    have f1 : nZ lv < 1 := by
      rw [L1, nZ_lt (by omega) (by decide)]
      omega
    refine ⟨k, g0 _ ?_, Fk⟩
    rw [E213_30, e228, jI, e266, jI, g56_23 Hk, ob_some, ob_some, ix, A68 Hk (by omega), ob_some, x7, if_pos f1]
    rfl
  rw [if_neg c0]
  have f1 : ¬(nZ lv < 1) := by
    rw [L1, nZ_lt (by omega) (by decide)]
    omega
  by_cases c1' : (W (4 * W (101 + 5 * i) + 3)).testBit (W (100 + 5 * i)) = true
  · rw [if_pos c1', if_neg (by decide)]
    rw [bI_t c1'] at e201
    refine ⟨k, g0 _ ?_, Fk⟩
    rw [E213_30, e228, jI, e266, jI, g56_23 Hk, ob_some, ob_some, ix, A68 Hk (by omega), ob_some, x7, if_neg f1, e201, jI, if_neg z10]
    rfl
  rw [if_neg c1']
  rw [bI_f c1'] at e201
  by_cases c2' : W (4 * W (101 + 5 * i) + 2) - U (W (101 + 5 * i)) < tk
  · rw [if_pos c2', if_neg (by decide)]
    have f2 : nZ (W (4 * W (101 + 5 * i) + 2) - U (W (101 + 5 * i))) < nZ tk := by
      rw [nZ_lt (by omega) (by omega)]
      exact c2'
    refine ⟨k, g0 _ ?_, Fk⟩
    rw [E213_30, e228, jI, e266, jI, g56_23 Hk, ob_some, ob_some, ix, A68 Hk (by omega), ob_some, x7, if_neg f1, e201, jI, if_pos z00, g56_27 Hk, ob_some, ob_some, A72 Hk (by omega), ob_some, x12, if_pos f2]
    rfl
  rw [if_neg c2']
  have f2 : ¬(nZ (W (4 * W (101 + 5 * i) + 2) - U (W (101 + 5 * i))) < nZ tk) := by
    rw [nZ_lt (by omega) (by omega)]
    exact c2'
  by_cases c3 : 1 ≤ pc (W (103 + 5 * i)) ∧ pc (W (103 + 5 * i)) ≤ W (40 + 4 * W (102 + 5 * i) + 1)
  case neg =>
    have cc : pc (W (103 + 5 * i)) < 1 ∨ W (40 + 4 * W (102 + 5 * i) + 1) < pc (W (103 + 5 * i)) ∨ (W (103 + 5 * i)).testBit (W (101 + 5 * i)) = true := by
      by_cases q : pc (W (103 + 5 * i)) < 1
      · exact Or.inl q
      · exact Or.inr (Or.inl (by omega))
    rw [if_pos cc, if_neg (by decide)]
    have c3' : ¬inR (nZ (pc (W (103 + 5 * i)))) 1 (W (40 + 4 * W (102 + 5 * i) + 1)) := by
      rw [inR_n (by omega)]
      exact c3
    rw [bI_f c3'] at e218
    refine ⟨k, g0 _ ?_, Fk⟩
    rw [E213_30, e228, jI, e266, jI, g56_23 Hk, ob_some, ob_some, ix, A68 Hk (by omega), ob_some, x7, if_neg f1, e201, jI, if_pos z00, g56_27 Hk, ob_some, ob_some, A72 Hk (by omega), ob_some, x12, if_neg f2, e168, jI, e218, jI, if_pos z00]
    rfl
  have c3' : inR (nZ (pc (W (103 + 5 * i)))) 1 (W (40 + 4 * W (102 + 5 * i) + 1)) := by
    rw [inR_n (by omega)]
    exact c3
  rw [bI_t c3'] at e218
  by_cases c4 : (W (103 + 5 * i)).testBit (W (101 + 5 * i)) = true
  · have cc : pc (W (103 + 5 * i)) < 1 ∨ W (40 + 4 * W (102 + 5 * i) + 1) < pc (W (103 + 5 * i)) ∨ (W (103 + 5 * i)).testBit (W (101 + 5 * i)) = true := Or.inr (Or.inr c4)
    rw [if_pos cc, if_neg (by decide)]
    rw [bI_t c4] at e196
    refine ⟨k, g0 _ ?_, Fk⟩
    rw [E213_30, e228, jI, e266, jI, g56_23 Hk, ob_some, ob_some, ix, A68 Hk (by omega), ob_some, x7, if_neg f1, e201, jI, if_pos z00, g56_27 Hk, ob_some, ob_some, A72 Hk (by omega), ob_some, x12, if_neg f2, e168, jI, e218, jI, if_neg z10, e196, jI, if_neg z10]
    rfl
  rw [bI_f c4] at e196
  have cc : ¬(pc (W (103 + 5 * i)) < 1 ∨ W (40 + 4 * W (102 + 5 * i) + 1) < pc (W (103 + 5 * i)) ∨ (W (103 + 5 * i)).testBit (W (101 + 5 * i)) = true) := fun z => by
    rcases z with z | z | z
    · omega
    · omega
    · exact c4 z
  rw [if_neg cc, if_pos rfl]
  refine ⟨k2, g0 _ ?_, Fk.trans Fk2⟩
  rw [E213_30, e228, jI, e266, jI, g56_23 Hk, ob_some, ob_some, ix, A68 Hk (by omega), ob_some, x7, if_neg f1, e201, jI, if_pos z00, g56_27 Hk, ob_some, ob_some, A72 Hk (by omega), ob_some, x12, if_neg f2, e168, jI, e218, jI, if_neg z10, e196, jI, if_pos z00]
  exact ek2'

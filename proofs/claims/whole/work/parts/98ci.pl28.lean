/-! judge: the call -/
theorem c90_16 {h : QH} {W : Nat → Nat} {c : Nat} {T : Nat → Nat} (K : K0 h W c T) (d y p : Nat) (L : Nat → Nat) (hy : y < 30) (hp : p < 8) (P : ∀ p a, p < 8 → a < 5 → hI h 41 ((y + 1) * 40 + (p * 5 + a)) = nZ (L (5 * p + a)) ∧ L (5 * p + a) ≤ 9) : ∀ m a, a + m = W 409 → qbig (d + 2) 90 16 [sR (some 40), sR (some 11), sI (nZ y), sI (nZ p), sI (nZ a), none] [] h = if rdP W L p m a = true then qbig (d + 2) 90 2 [sR (some 40), sR (some 11), sI (nZ y), sI (nZ (p + 1)), none, none] [] h else some (some (qI (nZ 0)), h)
  | 0, a, e => by
    have H := K.sh
    have n5 := K.n5
    have n0 := K.c17
    have lt1 : ¬(nZ a < nZ (W 409)) := by
      rw [nZ_lt (by omega) (by omega)]
      omega
    have ip : nZ p + 1 = nZ (p + 1) := by rw [L1, nZ_add]
    rw [E90_16, ob_some, g11_1 H, ob_some, ob_some, g17_0 H, ob_some, n0, if_neg lt1, ip]
    rfl
  | m + 1, a, e => by
    have H := K.sh
    have n5 := K.n5
    have n0 := K.c17
    have lt1 : nZ a < nZ (W 409) := by
      rw [nZ_lt (by omega) (by omega)]
      omega
    have ip : nZ a + 1 = nZ (a + 1) := by rw [L1, nZ_add]
    have ix : (nZ y + 1) * 40 + nZ (p * 5 + a) = nZ ((y + 1) * 40 + (p * 5 + a)) := by rw [L1, L40, nZ_add, nZ_mul, nZ_add]
    have ih := c90_16 K d y p L hy hp P m (a + 1) (by omega)
    obtain ⟨x5, b5⟩ := P p a hp (by omega)
    have e2 : qcl (d + 1) 71 [qR (some 17), qI (nZ a), qI 2] h = some (some (qI (nZ (W (42 + 4 * a)))), h) := by
      rw [show 42 + 4 * a = 40 + 4 * a + 2 by omega]
      exact k71 K d (a := a) (f := 2) (by omega) (by decide)
    have b42 : W (42 + 4 * a) < 2147483648 := Nat.lt_of_le_of_lt (K.wi.1 (42 + 4 * a) (by omega) (by omega)) (bnd_big _)
    have er : rdP W L p (m + 1) a = if L (5 * p + a) < W (42 + 4 * a) then false else rdP W L p m (a + 1) := rfl
    by_cases c : L (5 * p + a) < W (42 + 4 * a)
    · have f1 : nZ (L (5 * p + a)) < nZ (W (42 + 4 * a)) := by
        rw [nZ_lt (by omega) b42]
        exact c
      rw [er, if_pos c, if_neg (by decide), E90_16, ob_some, g11_1 H, ob_some, ob_some, g17_0 H, ob_some, n0, if_pos lt1, g40_0 H, ob_some, c18, jI, ob_some, ix, A41 H (by omega), ob_some, x5, ob_some, g11_1 H, ob_some, e2, jI, if_pos f1, if_pos (by decide)]
      rfl
    · have f1 : ¬(nZ (L (5 * p + a)) < nZ (W (42 + 4 * a))) := by
        rw [nZ_lt (by omega) b42]
        exact c
      rw [er, if_neg c, E90_16, ob_some, g11_1 H, ob_some, ob_some, g17_0 H, ob_some, n0, if_pos lt1, g40_0 H, ob_some, c18, jI, ob_some, ix, A41 H (by omega), ob_some, x5, ob_some, g11_1 H, ob_some, e2, jI, if_neg f1, ip]
      exact ih
theorem c90_2 {h : QH} {W : Nat → Nat} {c : Nat} {T : Nat → Nat} (K : K0 h W c T) (d y : Nat) (L : Nat → Nat) (hy : y < 30) (P : ∀ p a, p < 8 → a < 5 → hI h 41 ((y + 1) * 40 + (p * 5 + a)) = nZ (L (5 * p + a)) ∧ L (5 * p + a) ≤ 9) : ∀ m p, p + m = W 408 → qbig (d + 2) 90 2 [sR (some 40), sR (some 11), sI (nZ y), sI (nZ p), none, none] [] h = some (some (qI (bI (rdA W L m p = true))), h)
  | 0, p, e => by
    have H := K.sh
    have n8 := K.n8
    have n0 := K.c12
    have lt1 : ¬(nZ p < nZ (W 408)) := by
      rw [nZ_lt (by omega) (by omega)]
      omega
    have eb : bI (rdA W L 0 p = true) = nZ 1 := bI_t rfl
    rw [eb, E90_2, ob_some, g11_0 H, ob_some, ob_some, g12_0 H, ob_some, n0, if_neg lt1, if_pos (by decide)]
    rfl
  | m + 1, p, e => by
    have H := K.sh
    have n8 := K.n8
    have n0 := K.c12
    have lt1 : nZ p < nZ (W 408) := by
      rw [nZ_lt (by omega) (by omega)]
      omega
    have ih := c90_2 K d y L hy P m (p + 1) (by omega)
    have e12 : qbig (d + 2) 90 16 [sR (some 40), sR (some 11), sI (nZ y), sI (nZ p), sI 0, none] [] h = _ := c90_16 K d y p L hy (by omega) P (W 409) 0 (by omega)
    have er : rdA W L (m + 1) p = if rdP W L p (W 409) 0 = true then rdA W L m (p + 1) else false := rfl
    rw [E90_2, ob_some, g11_0 H, ob_some, ob_some, g12_0 H, ob_some, n0, if_pos lt1, e12, er]
    by_cases c : rdP W L p (W 409) 0 = true
    · rw [if_pos c, if_pos c]
      exact ih
    · rw [if_neg c, if_neg c]
      rfl
theorem c95_2 {h : QH} {W : Nat → Nat} {c : Nat} {T : Nat → Nat} {o : Option (List CL)} (K : K0 h W c T) (d : Nat) (A : pA W o 30 h) : ∀ m y, y + m = 30 → (∀ x, x < y → rdD W o x = false) → ∃ v, qbig (d + 3) 95 2 [sR (some 40), sR (some 11), sI (nZ y)] [] h = some (some (qI v), h) ∧ fs1 (rdD W o) 30 v
  | 0, y, e, z => by
    have e' : y = 30 := by omega
    subst e'
    refine ⟨-1, ?_, Or.inl ⟨rfl, z⟩⟩
    rw [E95_2, if_neg (by decide)]
  | m + 1, y, e, z => by
    have H := K.sh
    have lt1 : nZ y < 30 := by
      rw [L30, nZ_lt (by omega) (by decide)]
      omega
    have ip : nZ y + 1 = nZ (y + 1) := by rw [L1, nZ_add]
    have z00 : nZ 0 = (0 : Int32) := rfl
    have z10 : ¬(nZ 1 = (0 : Int32)) := by decide
    have e90 : qcl (d + 2) 90 [qR (some 40), qR (some 11), qI (nZ y)] h = some (some (qI (bI (rdA W (pY W o (y + 1)).1 (W 408) 0 = true))), h) := by
      rw [E90, ck40 H, ob_some]
      exact c90_2 K d y (pY W o (y + 1)).1 (by omega) (fun p a hp ha => A.1 (y + 1) (by omega) p a hp ha) (W 408) 0 (by omega)
    by_cases cr : rdA W (pY W o (y + 1)).1 (W 408) 0 = true
    · rw [bI_t cr] at e90
      refine ⟨nZ y, ?_, Or.inr ⟨y, by omega, rfl, cr, z⟩⟩
      rw [E95_2, if_pos lt1, e90, jI, if_neg z10]
    · rw [bI_f cr] at e90
      obtain ⟨v, ev, fv⟩ := c95_2 K d A m (y + 1) (by omega) (fun x hx => by
        by_cases cx : x = y
        · rw [cx]
          exact Bool.eq_false_iff.2 cr
        · exact z x (by omega))
      refine ⟨v, ?_, fv⟩
      rw [E95_2, if_pos lt1, e90, jI, if_pos z00, ip]
      exact ev
theorem op_judge {h : QH} {W : Nat → Nat} {c : Nat} {T : Nat → Nat} (KK : K1 h W c T) (R : PlR h W c) (d : Nat) (a1 : Int32) : Op (d + 120) 33 209 [qI a1] h (fun k => PlanP h k W c T) := by
  have K := KK.1
  have H := K.sh
  have n8 := K.n8
  have n5 := K.n5
  have kc : hI h 10 10 = nZ c := K.2.2.2.2.2.1.1
  have z00 : nZ 0 = (0 : Int32) := rfl
  have z10 : ¬(nZ 1 = (0 : Int32)) := by decide
  have e218 : ∀ k, qcl (d + 119) 218 [qI a1, qI 0, qI 4] k = some (some (qI (bI (inR a1 0 4))), k) := fun k => m218 (d + 118) a1 0 4 (by decide) (by decide) k
  by_cases h1 : inR a1 0 4
  case neg =>
    obtain ⟨o, k, F, e96, Fk, Ak, Kk, Rk⟩ := pl_run KK R (d + 112)
    have e218' := e218 k
    rw [bI_f h1] at e218'
    have n0 : ¬(a1 = 0) := fun z => cast (out_ne h1 0 (by decide) (by decide) (by decide)) z
    have n1 : ¬(a1 = 1) := fun z => cast (out_ne h1 1 (by decide) (by decide) (by decide)) z
    have n2 : ¬(a1 = 2) := fun z => cast (out_ne h1 2 (by decide) (by decide) (by decide)) z
    have n3 : ¬(a1 = 3) := fun z => cast (out_ne h1 3 (by decide) (by decide) (by decide)) z
    have n4 : ¬(a1 = 4) := fun z => cast (out_ne h1 4 (by decide) (by decide) (by decide)) z
    refine ⟨-1, k, k, ?_, ?_, Kk, Fk.mono fPl_N, Rk⟩
    · rw [E33, ck10 H, ob_some, g10_5 H, ob_some, g10_0 H, ob_some, g10_4 H, ob_some, g10_10 H, ob_some, kc, e96, jV]
      rw [if_neg n0, if_neg n1, if_neg n2, if_neg n3, if_neg n4]
    · rw [E209, ck56 Kk.sh, ob_some, e218', jI, if_pos z00]
  obtain ⟨o, k, m, F, e96, Ak, Kk, e219, Im, PP⟩ := both_run KK R d 29 (by decide)
  have Hk := Kk.sh
  have Hm := PP.1.sh
  have Mm : MM m W := ⟨Hm, PP.1.mk, PP.1.wi⟩
  have n60 := Mm.n60
  have e218' := e218 k
  rw [bI_t h1] at e218'
  have k19 : hI k 19 0 = nZ (W 410) := Kk.c19
  have f44 : ∀ j, j < W 410 → hI k 44 j = nZ (pW W o j) ∧ pW W o j ≤ 9 := fun j hj => ⟨Ak.2.2.2 j hj (K.wi.sh (i := j) (by omega)).1, by
    unfold pW pR
    split
    · exact rLs_le _
    · exact rT_le⟩
  have ed : ∀ j, j < W 410 → dP W o 30 0 j = decide (pW W o j ≠ 0) := fun j hj => by
    have b := (K.wi.sh (i := j) (by omega)).1
    unfold dP
    apply decide_eq_decide.2
    exact ⟨fun z => z.1, fun z => ⟨z, Or.inl b⟩⟩
  have e219' : qcl (d + 119) 219 [qR (some 56), qI 29] k = some (none, m) := e219
  have e94 : qcl (d + 119) 94 [qR (some 40), qI (nZ (W 410))] k = some (some (qI (nZ (cN (fun j => decide (pW W o j ≠ 0)) (W 410)))), k) := by
    rw [E94, ck40 Hk, ob_some]
    exact c94_4 Hk (d + 118) (W 410) (pW W o) n60 f44 (W 410) 0 (by omega)
  obtain ⟨v93, e93, s93⟩ := c93_2 Hk (d + 118) (W 410) (pW W o) n60 f44 (W 410) 0 (by omega) (fun j hj => by omega)
  have e93' : qcl (d + 119) 93 [qR (some 40), qI (nZ (W 410))] k = some (some (qI v93), k) := by
    rw [E93, ck40 Hk, ob_some]
    exact e93
  have e91 : qcl (d + 119) 91 [qR (some 40)] k = some (some (qI (nZ (hB W o 30))), k) := by
    rw [E91, ck40 Hk, ob_some, ← hB_s 30]
    exact c91_4 Hk (d + 118) (fun j => (pK W o (j / 8) (W 410)).2.2 (j % 8)) (fun j hj => by
      have e := Ak.2.2.1 (j / 8) (by omega) (j % 8) (by omega)
      rw [if_pos (by omega), show j / 8 * 8 + j % 8 = j by omega] at e
      exact e) 240 0 (by decide)
  obtain ⟨v95, e95, s95⟩ := c95_2 Kk (d + 116) Ak 30 0 (by decide) (fun x hx => by omega)
  have e95' : qcl (d + 119) 95 [qR (some 40), qR (some 11)] k = some (some (qI v95), k) := by
    rw [E95, ck40 Hk, ob_some]
    exact e95
  have e104 : qcl (d + 119) 104 [qR (some 40)] k = some (some (qI (nZ (sN (pY W o 30).2 40))), k) := by
    rw [E104, ck40 Hk, ob_some]
    exact c104_6 Hk (d + 118) (pY W o 30).2 (fun j hj => by
      have e := Ak.2.1 30 (by decide) (j / 5) (j % 5) (by omega) (by omega)
      rw [show 30 * 40 + (j / 5 * 5 + j % 5) = 1200 + j by omega, show 5 * (j / 5) + j % 5 = j by omega] at e
      exact e) 40 0 (by decide)
  have w0 := m209_21 Mm (d + 118) (pY W o 30).2 a1 Im.2.1 (W 408) 0 (by omega)
  rw [← wr_eq K.wi n8 n5 30] at w0
  have w0' : qbig (d + 120) 209 21 [sR (some 56), sI a1, sI 0, sI 0, none] [] m = qbig (d + 120) 209 21 [sR (some 56), sI a1, sI (nZ (sN (pY W o 30).2 40)), sI (nZ (W 408)), none] [] m := w0
  have e232 := n232 Mm (d + 118)
  have lt1 : ¬(nZ (W 408) < nZ (W 408)) := by
    rw [nZ_lt (by omega) (by omega)]
    omega
  have i28 : hI m 56 28 = nZ (cN (fun j => decide (pW W o j ≠ 0)) (W 410)) := by
    rw [← cN_congr _ ed]
    exact Im.2.2.1
  have i29 : hI m 56 29 = v93 := fs1_u (fs1_c ed Im.2.2.2.1) s93
  have i30 : hI m 56 30 = nZ (hB W o 30) := Im.2.2.2.2.1
  have i31 : hI m 56 31 = v95 := fs1_u Im.2.2.2.2.2.1 s95
  obtain ⟨x, -, hx, rfl⟩ := inR_ex h1
  have hc : x = 0 ∨ x = 1 ∨ x = 2 ∨ x = 3 ∨ x = 4 := by omega
  have fin : ∀ v, qbig (d + 120) 209 21 [sR (some 56), sI (nZ x), sI (nZ (sN (pY W o 30).2 40)), sI (nZ (W 408)), none] [] m = some (some (qI v), m) → qcl (d + 120) 209 [qR (some 56), qI (nZ x)] k = some (some (qI v), m) := fun v ev => by
    rw [E209, ck56 Hk, ob_some, e218', jI, if_neg z10, e219', jV, w0']
    exact ev
  rcases hc with e | e | e | e | e <;> subst e
  · refine ⟨(nZ (cN (fun j => decide (pW W o j ≠ 0)) (W 410))), k, m, ?_, fin _ ?_, PP⟩
    rotate_left
    · rw [E209_21, e232, jI, if_neg lt1, if_pos (by decide), g56_28 Hm, ob_some, i28]
    · rw [E33, ck10 H, ob_some, g10_5 H, ob_some, g10_0 H, ob_some, g10_4 H, ob_some, g10_10 H, ob_some, kc, e96, jV, if_pos (by decide), g10_5 Hk, ob_some, g10_0 Hk, ob_some, ob_some, g11_2 Hk, ob_some, ob_some, g19_0 Hk, ob_some, k19, e94, jI]
  · refine ⟨v93, k, m, ?_, fin _ ?_, PP⟩
    rotate_left
    · rw [E209_21, e232, jI, if_neg lt1, if_neg (by decide), if_pos (by decide), g56_29 Hm, ob_some, i29]
    · rw [E33, ck10 H, ob_some, g10_5 H, ob_some, g10_0 H, ob_some, g10_4 H, ob_some, g10_10 H, ob_some, kc, e96, jV, if_neg (by decide), if_pos (by decide), g10_5 Hk, ob_some, g10_0 Hk, ob_some, ob_some, g11_2 Hk, ob_some, ob_some, g19_0 Hk, ob_some, k19, e93', jI]
  · refine ⟨(nZ (hB W o 30)), k, m, ?_, fin _ ?_, PP⟩
    rotate_left
    · rw [E209_21, e232, jI, if_neg lt1, if_neg (by decide), if_neg (by decide), if_pos (by decide), g56_30 Hm, ob_some, i30]
    · rw [E33, ck10 H, ob_some, g10_5 H, ob_some, g10_0 H, ob_some, g10_4 H, ob_some, g10_10 H, ob_some, kc, e96, jV, if_neg (by decide), if_neg (by decide), if_pos (by decide), g10_5 Hk, ob_some, e91, jI]
  · refine ⟨v95, k, m, ?_, fin _ ?_, PP⟩
    rotate_left
    · rw [E209_21, e232, jI, if_neg lt1, if_neg (by decide), if_neg (by decide), if_neg (by decide), if_pos (by decide), g56_31 Hm, ob_some, i31]
    · rw [E33, ck10 H, ob_some, g10_5 H, ob_some, g10_0 H, ob_some, g10_4 H, ob_some, g10_10 H, ob_some, kc, e96, jV, if_neg (by decide), if_neg (by decide), if_neg (by decide), if_pos (by decide), g10_5 Hk, ob_some, g10_0 Hk, ob_some, e95', jI]
  · refine ⟨(nZ (sN (pY W o 30).2 40)), k, m, ?_, fin _ ?_, PP⟩
    rotate_left
    · rw [E209_21, e232, jI, if_neg lt1, if_neg (by decide), if_neg (by decide), if_neg (by decide), if_neg (by decide)]
    · rw [E33, ck10 H, ob_some, g10_5 H, ob_some, g10_0 H, ob_some, g10_4 H, ob_some, g10_10 H, ob_some, kc, e96, jV, if_neg (by decide), if_neg (by decide), if_neg (by decide), if_neg (by decide), if_pos (by decide), g10_5 Hk, ob_some, e104, jI]

theorem cnt_same {P Q : Nat → Bool} : ∀ k j, (∀ i, j ≤ i → i < j + k → P i = Q i) → cnt P j k = cnt Q j k := by
  intro k
  induction k with
  | zero => exact fun j _ => rfl
  | succ k ih =>
    intro j h
    show (if P j then 1 else 0) + cnt P (j + 1) k = (if Q j then 1 else 0) + cnt Q (j + 1) k
    rw [h j (by omega) (by omega), ih (j + 1) (fun i h1 h2 => h i (by omega) (by omega))]
theorem cnt_add {P Q : Nat → Bool} {i : Nat} (hi : P i = false) (hq : Q i = true) (hr : ∀ r, r ≠ i → P r = Q r) : ∀ k j, j ≤ i → i < j + k → cnt Q j k = cnt P j k + 1 := by
  intro k
  induction k with
  | zero =>
    intro j h1 h2
    omega
  | succ k ih =>
    intro j h1 h2
    show (if Q j then 1 else 0) + cnt Q (j + 1) k = (if P j then 1 else 0) + cnt P (j + 1) k + 1
    by_cases e : j = i
    · subst e
      rw [hi, hq, cnt_same k (j + 1) (fun r h3 h4 => hr r (by omega))]
      simp
      omega
    · rw [ih (j + 1) (by omega) (by omega), hr j e]
      omega
theorem cnt_full {P : Nat → Bool} : ∀ k j, cnt P j k = k → ∀ i, j ≤ i → i < j + k → P i = true := by
  intro k
  induction k with
  | zero =>
    intro j _ i h1 h2
    omega
  | succ k ih =>
    intro j e i h1 h2
    have e' : (if P j then 1 else 0) + cnt P (j + 1) k = k + 1 := e
    have l := cnt_le P k (j + 1)
    by_cases c : P j = true
    · rw [if_pos c] at e'
      by_cases z : i = j
      · rw [z]
        exact c
      · exact ih (j + 1) (by omega) i (by omega) (by omega)
    · rw [if_neg c] at e'
      omega
theorem ordA_neg {W : Nat → Nat} {x : Int32} (hx : x < -nZ 1) : ∀ k n pl, n + k < 100 → ordA W x pl n k = -nZ 1 := by
  have h1 : ¬x = -nZ 1 := by
    intro z
    rw [z] at hx
    exact absurd hx (by decide)
  have h2 : ∀ n, n < 100 → ¬nZ n = x := by
    intro n hn z
    rw [← z, nZ_nlt (by omega)] at hx
    exact hx
  intro k
  induction k with
  | zero =>
    intro n pl _
    unfold ordA
    rw [if_neg h1]
  | succ k ih =>
    intro n pl hn
    unfold ordA
    split
    · rw [if_neg h1]
    · rw [if_neg (h2 n (by omega))]
      exact ih (n + 1) _ (by omega)
theorem m229_loop {h : QH} {W : Nat → Nat} (M1 : MM h W) (d : Nat) (x : Int32) : ∀ k n pl, W 409 - n = k → n ≤ W 409 → pl < 32 → cnt (fun i => pl.testBit i) 0 (W 409) = n → qbig (d + 3) 229 14 [sR (some 56), sI x, sI (nZ pl), sI (nZ n), sI (nZ 1), none] [] h = some (some (qI (ordA W x pl n k)), h) := by
  have H1 := M1.1
  have n5 := M1.n5
  have z10 : (nZ 1 = nZ 0) = False := by decide
  have fin : ∀ pl n, qbig (d + 3) 229 14 [sR (some 56), sI x, sI (nZ pl), sI (nZ n), sI (nZ 0), none] [] h = some (some (qI (if x = -nZ 1 then nZ n else -nZ 1)), h) := by
    intro pl n
    rw [E229_14]
    simp (disch := first | assumption | omega | (simp only [Sh_si, Sh_sA]; assumption)) only [p56_0, g56_0, p56_1, g56_1, g56_2, g56_3, g56_4, g56_5, p56_6, g56_6, g56_7, g56_8, g56_9, p56_10, g56_10, p56_11, g56_11, g56_12, g56_13, g56_14, p56_15, g56_15, p56_16, g56_16, p56_17, g56_17, p56_18, g56_18, p56_19, g56_19, p56_20, g56_20, B56_21, g56_21, g56_22, g56_23, g56_24, g56_25, g56_26, g56_27, p56_28, g56_28, p56_29, g56_29, p56_30, g56_30, p56_31, g56_31, g56_32, g56_33, g56_34, p56_35, g56_35, p56_36, g56_36, p56_37, g56_37, p56_38, g56_38, g56_39, g56_40, g56_41, p56_42, g56_42, p56_43, g56_43, p56_44, g56_44, ck56, A57, S57, l57, A58, S58, l58, A59, S59, l59, A60, S60, l60, A61, S61, l61, A62, S62, l62, A63, S63, l63, A64, S64, l64, A65, S65, l65, A66, S66, l66, A67, S67, l67, A68, S68, l68, A69, S69, l69, A70, S70, l70, A71, S71, l71, A72, S72, l72, A73, S73, l73, A74, S74, l74, A75, S75, l75, A76, S76, l76, A77, S77, l77, A78, S78, l78, n232 M1, n169 M1, n203 M1, n200 M1, n227 M1, n168 M1, n212 M1, n250 M1, n223 M1, n201 M1, n245 M1, m190, m218, m218', m196, m244_1, m244_2, m244_3, m244_5, m244_6, m217, m191, L0, L1, L2, L3, L4, L5, L6, L7, L8, L9, L10, L11, L12, L13, L14, L15, L16, L17, L18, L19, L20, L21, L22, L23, L24, L25, L26, L27, L28, L29, L30, L31, L32, L33, L34, L35, L36, L37, L38, L39, L40, L41, L42, L43, L44, L45, L46, L47, L48, L49, L50, L52, L57, L60, L90, L91, L93, L97, L99, L100, L101, L122, L240, L255, L256, L400, L401, L408, L409, L410, L411, L412, L413, L414, L420, L1000, L1001, L1103, L1200, L1240, L2820, L5220, L7936, L10440, L12345, L1000000, L1000003, L1073741823, nd_lt_t, nd_lt_f, nd_le_t, nd_le_f, nd_eq_f, nZ_add, nZ_mul, nZ_sub, nZ_lt, nZ_le, nZ_eq, nZ_nat, nZ_div, nZ_rem, nZ_and, nZ_or, and31, nZ_shl, nZ_shr, nZ_m1, nZ_nneg, nZ_nneg', nZ_nlt, nZ_ltn, inR_lt, Nat.not_lt_zero, ob_some, jI, jL, jR, jV, rI0, rI1, rIv, if_true, if_false, ↓reduceIte, Nat.reduceAdd, Nat.reduceMul, Nat.reduceSub, Nat.reduceLT, Nat.reduceEqDiff, Nat.reduceLeDiff, Nat.zero_add, Nat.add_zero, Nat.zero_mul, Nat.mul_zero, Nat.one_mul, Nat.mul_one, and_true, true_and, false_and, and_false, or_true, true_or, or_false, false_or, not_true_eq_false, not_false_eq_true, eq_self, bI_0, bI_1, em_b, hI_ne, hI_at, hA_ne, hA_at, Sh_si, Sh_sA]
    by_cases z : x = -nZ 1
    · simp only [eq_true z, if_true]
    · simp only [eq_false z, if_false]
  have head : ∀ pl n, qbig (d + 3) 229 14 [sR (some 56), sI x, sI (nZ pl), sI (nZ n), sI (nZ 1), none] [] h = qbig (d + 3) 229 25 [sR (some 56), sI x, sI (nZ pl), sI (nZ n), sI (nZ 0), sI (nZ 0)] [] h := by
    intro pl n
    rw [E229_14]
    simp (disch := first | assumption | omega | (simp only [Sh_si, Sh_sA]; assumption)) only [z10, p56_0, g56_0, p56_1, g56_1, g56_2, g56_3, g56_4, g56_5, p56_6, g56_6, g56_7, g56_8, g56_9, p56_10, g56_10, p56_11, g56_11, g56_12, g56_13, g56_14, p56_15, g56_15, p56_16, g56_16, p56_17, g56_17, p56_18, g56_18, p56_19, g56_19, p56_20, g56_20, B56_21, g56_21, g56_22, g56_23, g56_24, g56_25, g56_26, g56_27, p56_28, g56_28, p56_29, g56_29, p56_30, g56_30, p56_31, g56_31, g56_32, g56_33, g56_34, p56_35, g56_35, p56_36, g56_36, p56_37, g56_37, p56_38, g56_38, g56_39, g56_40, g56_41, p56_42, g56_42, p56_43, g56_43, p56_44, g56_44, ck56, A57, S57, l57, A58, S58, l58, A59, S59, l59, A60, S60, l60, A61, S61, l61, A62, S62, l62, A63, S63, l63, A64, S64, l64, A65, S65, l65, A66, S66, l66, A67, S67, l67, A68, S68, l68, A69, S69, l69, A70, S70, l70, A71, S71, l71, A72, S72, l72, A73, S73, l73, A74, S74, l74, A75, S75, l75, A76, S76, l76, A77, S77, l77, A78, S78, l78, n232 M1, n169 M1, n203 M1, n200 M1, n227 M1, n168 M1, n212 M1, n250 M1, n223 M1, n201 M1, n245 M1, m190, m218, m218', m196, m244_1, m244_2, m244_3, m244_5, m244_6, m217, m191, L0, L1, L2, L3, L4, L5, L6, L7, L8, L9, L10, L11, L12, L13, L14, L15, L16, L17, L18, L19, L20, L21, L22, L23, L24, L25, L26, L27, L28, L29, L30, L31, L32, L33, L34, L35, L36, L37, L38, L39, L40, L41, L42, L43, L44, L45, L46, L47, L48, L49, L50, L52, L57, L60, L90, L91, L93, L97, L99, L100, L101, L122, L240, L255, L256, L400, L401, L408, L409, L410, L411, L412, L413, L414, L420, L1000, L1001, L1103, L1200, L1240, L2820, L5220, L7936, L10440, L12345, L1000000, L1000003, L1073741823, nd_lt_t, nd_lt_f, nd_le_t, nd_le_f, nd_eq_f, nZ_add, nZ_mul, nZ_sub, nZ_lt, nZ_le, nZ_eq, nZ_nat, nZ_div, nZ_rem, nZ_and, nZ_or, and31, nZ_shl, nZ_shr, nZ_m1, nZ_nneg, nZ_nneg', nZ_nlt, nZ_ltn, inR_lt, Nat.not_lt_zero, ob_some, jI, jL, jR, jV, rI0, rI1, rIv, if_true, if_false, ↓reduceIte, Nat.reduceAdd, Nat.reduceMul, Nat.reduceSub, Nat.reduceLT, Nat.reduceEqDiff, Nat.reduceLeDiff, Nat.zero_add, Nat.add_zero, Nat.zero_mul, Nat.mul_zero, Nat.one_mul, Nat.mul_one, and_true, true_and, false_and, and_false, or_true, true_or, or_false, false_or, not_true_eq_false, not_false_eq_true, eq_self, bI_0, bI_1, em_b, hI_ne, hI_at, hA_ne, hA_at, Sh_si, Sh_sA]
  intro k
  induction k with
  | zero =>
    intro n pl hk hn hpl hc
    have e : n = W 409 := by omega
    have fn : freeA W pl 0 (W 409) = none := by
      cases hf : freeA W pl 0 (W 409) with
      | none => rfl
      | some j =>
        have hj := freeA_lt _ _ _ hf
        have hall := cnt_full (W 409) 0 (by rw [hc, e])
        have : ∀ k i, i ≤ j → j < i + k → i + k ≤ W 409 → freeA W pl i k = some j → False := by
          intro k
          induction k with
          | zero =>
            intro i h1 h2 h3 h4
            omega
          | succ k ih =>
            intro i h1 h2 h3 h4
            rw [freeA_s, if_neg (fun z => z.1 (hall i (by omega) (by omega)))] at h4
            have := freeA_lt _ _ _ h4
            exact ih (i + 1) (by omega) (by omega) (by omega) h4
        exact absurd hf (fun z => this (W 409) 0 (by omega) (by omega) (by omega) z)
    rw [head, m229_find M1 d pl n x hpl (by omega) (W 409) 0 (by omega) (by omega), fn]
    show qbig (d + 3) 229 14 [sR (some 56), sI x, sI (nZ pl), sI (nZ n), sI (nZ 0), none] [] h = _
    rw [fin]
    unfold ordA
    rfl
  | succ k ih =>
    intro n pl hk hn hpl hc
    rw [head, m229_find M1 d pl n x hpl (by omega) (W 409) 0 (by omega) (by omega)]
    cases hf : freeA W pl 0 (W 409) with
    | none =>
      show qbig (d + 3) 229 14 [sR (some 56), sI x, sI (nZ pl), sI (nZ n), sI (nZ 0), none] [] h = _
      rw [fin]
      unfold ordA
      rw [hf]
    | some j =>
      have hj := freeA_lt _ _ _ hf
      have hb : pl.testBit j = false := by
        have : ∀ k i, freeA W pl i k = some j → pl.testBit j = false := by
          intro k
          induction k with
          | zero =>
            intro i h4
            cases h4
          | succ k ih =>
            intro i h4
            rw [freeA_s] at h4
            split at h4
            · cases h4
              rename_i hh
              simpa using hh.1
            · exact ih (i + 1) h4
        exact this _ _ hf
      show (if nZ n = x then some (some (qI (nZ j)), h) else qbig (d + 3) 229 25 [sR (some 56), sI x, sI (nZ (pl ||| 1 <<< j)), sI (nZ (n + 1)), sI (nZ 1), sI (nZ (j + 1))] [] h) = _
      unfold ordA
      rw [hf]
      by_cases z : nZ n = x
      · rw [if_pos z]
        show _ = some (some (qI (if nZ n = x then nZ j else _)), h)
        rw [if_pos z]
      · rw [if_neg z]
        show _ = some (some (qI (if nZ n = x then nZ j else _)), h)
        rw [if_neg z, m229_rest M1 d _ _ (j + 1) x (by omega)]
        refine ih (n + 1) (pl ||| 1 <<< j) (by omega) (by omega) (or5 hpl (by omega)) ?_
        rw [cnt_add (P := fun i => pl.testBit i) (i := j) hb (by rw [bit_or]; simp) (by
          intro r hr
          show pl.testBit r = (pl ||| 1 <<< j).testBit r
          rw [bit_or, decide_eq_false (by omega), Bool.or_false]) (W 409) 0 (by omega) (by omega), hc]
theorem op_order {h : QH} {W : Nat → Nat} {c : Nat} {T : Nat → Nat} (K : K0 h W c T) (d : Nat) (x : Int32) : Op (d + 20) 40 229 [qI x] h (fun k => Sim h k W c T) := by
  have H := K.sh
  have n5 := K.n5
  have M1 : MM h W := ⟨K.sh, K.mk, K.wi⟩
  have H1 := M1.1
  have c0 : cnt (fun i => (0 : Nat).testBit i) 0 (W 409) = 0 := by
    have : ∀ k j, cnt (fun i => (0 : Nat).testBit i) j k = 0 := by
      intro k
      induction k with
      | zero => exact fun j => rfl
      | succ k ih =>
        intro j
        show (if (0 : Nat).testBit j then 1 else 0) + cnt (fun i => (0 : Nat).testBit i) (j + 1) k = 0
        rw [Nat.zero_testBit, ih (j + 1)]
        rfl
    exact this _ _
  have q := c40_loop K (d + 17) x (W 409) 0 0 (by omega) (by omega) (by omega)
  have q2 := m229_loop M1 (d + 17) x (W 409) 0 0 (by omega) (by omega) (by omega) c0
  refine ⟨ordA W x 0 0 (W 409), h, h, ?_, ?_, Sim_id K⟩
  · simp (disch := first | assumption | omega | (simp only [Sh_si, Sh_sA]; assumption)) only [E40, q, A0, l0, A1, l1, A2, l2, A3, l3, A4, l4, A7, l7, A8, l8, g10_0, g10_1, g10_2, g10_3, g10_4, g10_5, g10_6, g10_7, g10_8, g10_9, p10_10, g10_10, p10_11, g10_11, p10_12, g10_12, p10_13, g10_13, ck10, g11_0, g11_1, g11_2, g11_3, p11_4, g11_4, p11_5, g11_5, ck11, p12_0, g12_0, p12_1, g12_1, g12_2, g12_3, g12_4, g12_5, ck12, A13, S13, l13, A14, S14, l14, A15, S15, l15, A16, S16, l16, p17_0, g17_0, g17_1, ck17, A18, S18, l18, p19_0, g19_0, g19_1, g19_2, g19_3, g19_4, g19_5, ck19, A20, S20, l20, A21, S21, l21, A22, S22, l22, A23, S23, l23, A24, S24, l24, R25, R26, p27_0, g27_0, g27_1, ck27, A28, S28, l28, p29_0, g29_0, g29_1, p29_2, g29_2, p29_3, g29_3, p29_4, g29_4, p29_5, g29_5, p29_6, g29_6, p29_7, g29_7, p29_8, g29_8, p29_9, g29_9, g29_10, g29_11, g29_12, g29_13, g29_14, ck29, A30, S30, l30, A31, S31, l31, A32, S32, l32, A33, S33, l33, A34, S34, l34, A35, S35, l35, g36_0, g36_1, g36_2, ck36, A37, S37, l37, A38, S38, l38, A39, S39, l39, g40_0, g40_1, g40_2, g40_3, p40_4, g40_4, ck40, A41, S41, l41, A42, S42, l42, A43, S43, l43, A44, S44, l44, p45_0, g45_0, g45_1, p45_2, g45_2, p45_3, g45_3, p45_4, g45_4, p45_5, g45_5, p45_6, g45_6, p45_7, g45_7, g45_8, g45_9, g45_10, g45_11, g45_12, ck45, A46, S46, l46, A47, S47, l47, A48, S48, l48, A49, S49, l49, A50, S50, l50, A51, S51, l51, B52_0, g52_0, p52_1, g52_1, p52_2, g52_2, g52_3, p52_4, g52_4, ck52, A53, S53, l53, A54, S54, l54, A55, S55, l55, k79 K, k80 K, k72 K, k128 K, k161 K, k88 K, k71 K, k82 K, k76 K, k67 K, k85 K, c10, c18, c21, c43_1, c43_2, c43_3, c43_5, c43_6, L0, L1, L2, L3, L4, L5, L6, L7, L8, L9, L10, L11, L12, L13, L14, L15, L16, L17, L18, L19, L20, L21, L22, L23, L24, L25, L26, L27, L28, L29, L30, L31, L32, L33, L34, L35, L36, L37, L38, L39, L40, L41, L42, L43, L44, L45, L46, L47, L48, L49, L50, L52, L57, L60, L90, L91, L93, L97, L99, L100, L101, L122, L240, L255, L256, L400, L401, L408, L409, L410, L411, L412, L413, L414, L420, L1000, L1001, L1103, L1200, L1240, L2820, L5220, L7936, L10440, L12345, L1000000, L1000003, L1073741823, nd_lt_t, nd_lt_f, nd_le_t, nd_le_f, nd_eq_f, nZ_add, nZ_mul, nZ_sub, nZ_lt, nZ_le, nZ_eq, nZ_nat, nZ_div, nZ_rem, nZ_and, nZ_or, and31, nZ_shl, nZ_shr, nZ_m1, nZ_nneg, nZ_nneg', nZ_nlt, nZ_ltn, inR_lt, Nat.not_lt_zero, ob_some, jI, jL, jR, jV, rI0, rI1, rIv, if_true, if_false, ↓reduceIte, Nat.reduceAdd, Nat.reduceMul, Nat.reduceSub, Nat.reduceLT, Nat.reduceEqDiff, Nat.reduceLeDiff, Nat.zero_add, Nat.add_zero, Nat.zero_mul, Nat.mul_zero, Nat.one_mul, Nat.mul_one, and_true, true_and, false_and, and_false, or_true, true_or, or_false, false_or, not_true_eq_false, not_false_eq_true, eq_self, bI_0, bI_1, em_b, hI_ne, hI_at, hA_ne, hA_at, Sh_si, Sh_sA]
  · by_cases hx : x < -nZ 1
    · rw [ordA_neg hx _ _ _ (by omega)]
      simp (disch := first | assumption | omega | (simp only [Sh_si, Sh_sA]; assumption)) only [E229, eq_true hx, p56_0, g56_0, p56_1, g56_1, g56_2, g56_3, g56_4, g56_5, p56_6, g56_6, g56_7, g56_8, g56_9, p56_10, g56_10, p56_11, g56_11, g56_12, g56_13, g56_14, p56_15, g56_15, p56_16, g56_16, p56_17, g56_17, p56_18, g56_18, p56_19, g56_19, p56_20, g56_20, B56_21, g56_21, g56_22, g56_23, g56_24, g56_25, g56_26, g56_27, p56_28, g56_28, p56_29, g56_29, p56_30, g56_30, p56_31, g56_31, g56_32, g56_33, g56_34, p56_35, g56_35, p56_36, g56_36, p56_37, g56_37, p56_38, g56_38, g56_39, g56_40, g56_41, p56_42, g56_42, p56_43, g56_43, p56_44, g56_44, ck56, A57, S57, l57, A58, S58, l58, A59, S59, l59, A60, S60, l60, A61, S61, l61, A62, S62, l62, A63, S63, l63, A64, S64, l64, A65, S65, l65, A66, S66, l66, A67, S67, l67, A68, S68, l68, A69, S69, l69, A70, S70, l70, A71, S71, l71, A72, S72, l72, A73, S73, l73, A74, S74, l74, A75, S75, l75, A76, S76, l76, A77, S77, l77, A78, S78, l78, n232 M1, n169 M1, n203 M1, n200 M1, n227 M1, n168 M1, n212 M1, n250 M1, n223 M1, n201 M1, n245 M1, m190, m218, m218', m196, m244_1, m244_2, m244_3, m244_5, m244_6, m217, m191, L0, L1, L2, L3, L4, L5, L6, L7, L8, L9, L10, L11, L12, L13, L14, L15, L16, L17, L18, L19, L20, L21, L22, L23, L24, L25, L26, L27, L28, L29, L30, L31, L32, L33, L34, L35, L36, L37, L38, L39, L40, L41, L42, L43, L44, L45, L46, L47, L48, L49, L50, L52, L57, L60, L90, L91, L93, L97, L99, L100, L101, L122, L240, L255, L256, L400, L401, L408, L409, L410, L411, L412, L413, L414, L420, L1000, L1001, L1103, L1200, L1240, L2820, L5220, L7936, L10440, L12345, L1000000, L1000003, L1073741823, nd_lt_t, nd_lt_f, nd_le_t, nd_le_f, nd_eq_f, nZ_add, nZ_mul, nZ_sub, nZ_lt, nZ_le, nZ_eq, nZ_nat, nZ_div, nZ_rem, nZ_and, nZ_or, and31, nZ_shl, nZ_shr, nZ_m1, nZ_nneg, nZ_nneg', nZ_nlt, nZ_ltn, inR_lt, Nat.not_lt_zero, ob_some, jI, jL, jR, jV, rI0, rI1, rIv, if_true, if_false, ↓reduceIte, Nat.reduceAdd, Nat.reduceMul, Nat.reduceSub, Nat.reduceLT, Nat.reduceEqDiff, Nat.reduceLeDiff, Nat.zero_add, Nat.add_zero, Nat.zero_mul, Nat.mul_zero, Nat.one_mul, Nat.mul_one, and_true, true_and, false_and, and_false, or_true, true_or, or_false, false_or, not_true_eq_false, not_false_eq_true, eq_self, bI_0, bI_1, em_b, hI_ne, hI_at, hA_ne, hA_at, Sh_si, Sh_sA]
    · simp (disch := first | assumption | omega | (simp only [Sh_si, Sh_sA]; assumption)) only [E229, eq_false hx, q2, p56_0, g56_0, p56_1, g56_1, g56_2, g56_3, g56_4, g56_5, p56_6, g56_6, g56_7, g56_8, g56_9, p56_10, g56_10, p56_11, g56_11, g56_12, g56_13, g56_14, p56_15, g56_15, p56_16, g56_16, p56_17, g56_17, p56_18, g56_18, p56_19, g56_19, p56_20, g56_20, B56_21, g56_21, g56_22, g56_23, g56_24, g56_25, g56_26, g56_27, p56_28, g56_28, p56_29, g56_29, p56_30, g56_30, p56_31, g56_31, g56_32, g56_33, g56_34, p56_35, g56_35, p56_36, g56_36, p56_37, g56_37, p56_38, g56_38, g56_39, g56_40, g56_41, p56_42, g56_42, p56_43, g56_43, p56_44, g56_44, ck56, A57, S57, l57, A58, S58, l58, A59, S59, l59, A60, S60, l60, A61, S61, l61, A62, S62, l62, A63, S63, l63, A64, S64, l64, A65, S65, l65, A66, S66, l66, A67, S67, l67, A68, S68, l68, A69, S69, l69, A70, S70, l70, A71, S71, l71, A72, S72, l72, A73, S73, l73, A74, S74, l74, A75, S75, l75, A76, S76, l76, A77, S77, l77, A78, S78, l78, n232 M1, n169 M1, n203 M1, n200 M1, n227 M1, n168 M1, n212 M1, n250 M1, n223 M1, n201 M1, n245 M1, m190, m218, m218', m196, m244_1, m244_2, m244_3, m244_5, m244_6, m217, m191, L0, L1, L2, L3, L4, L5, L6, L7, L8, L9, L10, L11, L12, L13, L14, L15, L16, L17, L18, L19, L20, L21, L22, L23, L24, L25, L26, L27, L28, L29, L30, L31, L32, L33, L34, L35, L36, L37, L38, L39, L40, L41, L42, L43, L44, L45, L46, L47, L48, L49, L50, L52, L57, L60, L90, L91, L93, L97, L99, L100, L101, L122, L240, L255, L256, L400, L401, L408, L409, L410, L411, L412, L413, L414, L420, L1000, L1001, L1103, L1200, L1240, L2820, L5220, L7936, L10440, L12345, L1000000, L1000003, L1073741823, nd_lt_t, nd_lt_f, nd_le_t, nd_le_f, nd_eq_f, nZ_add, nZ_mul, nZ_sub, nZ_lt, nZ_le, nZ_eq, nZ_nat, nZ_div, nZ_rem, nZ_and, nZ_or, and31, nZ_shl, nZ_shr, nZ_m1, nZ_nneg, nZ_nneg', nZ_nlt, nZ_ltn, inR_lt, Nat.not_lt_zero, ob_some, jI, jL, jR, jV, rI0, rI1, rIv, if_true, if_false, ↓reduceIte, Nat.reduceAdd, Nat.reduceMul, Nat.reduceSub, Nat.reduceLT, Nat.reduceEqDiff, Nat.reduceLeDiff, Nat.zero_add, Nat.add_zero, Nat.zero_mul, Nat.mul_zero, Nat.one_mul, Nat.mul_one, and_true, true_and, false_and, and_false, or_true, true_or, or_false, false_or, not_true_eq_false, not_false_eq_true, eq_self, bI_0, bI_1, em_b, hI_ne, hI_at, hA_ne, hA_at, Sh_si, Sh_sA]

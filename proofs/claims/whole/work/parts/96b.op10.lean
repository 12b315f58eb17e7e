/-! ===== one ===== -/
/-- those ahead of n meet n -/
def um (V : Nat → Nat) (n : Nat) : Nat → Nat := fun j => if 32 ≤ j ∧ j < 32 + n then V j ||| 1 <<< n else V j
theorem um_in {V : Nat → Nat} {n j : Nat} (h : 32 ≤ j ∧ j < 32 + n) : um V n j = V j ||| 1 <<< n := if_pos h
theorem um_ne {V : Nat → Nat} {n j : Nat} (h : ¬(32 ≤ j ∧ j < 32 + n)) : um V n j = V j := if_neg h
theorem MK.um {k : QH} {V : Nat → Nat} {n : Nat} (M : MK k V) (hn : n ≤ 8) : MK (hsA k 58 (fun j => if 32 + 0 ≤ j ∧ j < 32 + n then hI k 58 j ||| nZ (1 <<< n) else hI k 58 j)) (um V n) := fun j hj => by
  rw [hA_at]
  by_cases e : 32 ≤ j ∧ j < 32 + n
  · rw [if_pos e, M j hj, kv_ne (by omega), kv_ne (by omega), um_in e, nZ_or]
  · rw [if_neg e, M j hj]
    unfold kv
    rw [um_ne e, um_ne (by omega)]
theorem c77_l1 {g : QH} (H : Sh g) (d n : Nat) (hn : n < 8) : qbig (d + 1) 77 74 [sR (some 12), none, none, none, sI (nZ n), sI (nZ 0)] [] g = qbig (d + 1) 77 104 [sR (some 12), none, none, none, sI (nZ n), sI (nZ 0)] [] (hsA g 14 (fun k => if 0 + 0 ≤ k ∧ k < 0 + n then hI g 14 k ||| nZ (1 <<< n) else hI g 14 k)) := by
  refine loopA (F := fun j h => qbig (d + 1) 77 74 [sR (some 12), none, none, none, sI (nZ n), sI (nZ j)] [] h) (G := fun h => qbig (d + 1) 77 104 [sR (some 12), none, none, none, sI (nZ n), sI (nZ 0)] [] h) (a := 14) (n := n) (c := 0) (u := fun _ x => x ||| nZ (1 <<< n)) (P := Sh) (fun _ _ _ H => H) ?_ ?_ 0 g (by omega) H
  · intro i h hi H
    show qbig (d + 1) 77 74 [sR (some 12), none, none, none, sI (nZ n), sI (nZ i)] [] h = qbig (d + 1) 77 74 [sR (some 12), none, none, none, sI (nZ n), sI (nZ (i + 1))] [] (hsI h 14 (0 + i) (hI h 14 (0 + i) ||| nZ (1 <<< n)))
    rw [E77_74]
    simp (disch := first | assumption | omega | (simp only [Sh_si, Sh_sA]; assumption)) only [A0, l0, A1, l1, A2, l2, A3, l3, A4, l4, A7, l7, A8, l8, g10_0, g10_1, g10_2, g10_3, g10_4, g10_5, g10_6, g10_7, g10_8, g10_9, p10_10, g10_10, p10_11, g10_11, p10_12, g10_12, p10_13, g10_13, ck10, g11_0, g11_1, g11_2, g11_3, p11_4, g11_4, p11_5, g11_5, ck11, p12_0, g12_0, p12_1, g12_1, g12_2, g12_3, g12_4, g12_5, ck12, A13, S13, l13, A14, S14, l14, A15, S15, l15, A16, S16, l16, p17_0, g17_0, g17_1, ck17, A18, S18, l18, p19_0, g19_0, g19_1, g19_2, g19_3, g19_4, g19_5, ck19, A20, S20, l20, A21, S21, l21, A22, S22, l22, A23, S23, l23, A24, S24, l24, R25, R26, p27_0, g27_0, g27_1, ck27, A28, S28, l28, p29_0, g29_0, g29_1, p29_2, g29_2, p29_3, g29_3, p29_4, g29_4, p29_5, g29_5, p29_6, g29_6, p29_7, g29_7, p29_8, g29_8, p29_9, g29_9, g29_10, g29_11, g29_12, g29_13, g29_14, ck29, A30, S30, l30, A31, S31, l31, A32, S32, l32, A33, S33, l33, A34, S34, l34, A35, S35, l35, g36_0, g36_1, g36_2, ck36, A37, S37, l37, A38, S38, l38, A39, S39, l39, g40_0, g40_1, g40_2, g40_3, p40_4, g40_4, ck40, A41, S41, l41, A42, S42, l42, A43, S43, l43, A44, S44, l44, p45_0, g45_0, g45_1, p45_2, g45_2, p45_3, g45_3, p45_4, g45_4, p45_5, g45_5, p45_6, g45_6, p45_7, g45_7, g45_8, g45_9, g45_10, g45_11, g45_12, ck45, A46, S46, l46, A47, S47, l47, A48, S48, l48, A49, S49, l49, A50, S50, l50, A51, S51, l51, B52_0, g52_0, p52_1, g52_1, p52_2, g52_2, g52_3, p52_4, g52_4, ck52, A53, S53, l53, A54, S54, l54, A55, S55, l55, L0, L1, L2, L3, L4, L5, L6, L7, L8, L9, L10, L11, L12, L13, L14, L15, L16, L17, L18, L19, L20, L21, L22, L23, L24, L25, L26, L27, L28, L29, L30, L31, L32, L33, L34, L35, L36, L37, L38, L39, L40, L41, L42, L43, L44, L45, L46, L47, L48, L49, L50, L52, L57, L60, L90, L91, L93, L97, L99, L100, L101, L122, L240, L255, L256, L400, L401, L408, L409, L410, L411, L412, L413, L414, L420, L1000, L1001, L1103, L1200, L1240, L2820, L5220, L7936, L10440, L12345, L1000000, L1000003, L1073741823, nd_lt_t, nd_lt_f, nd_le_t, nd_le_f, nd_eq_f, nZ_add, nZ_mul, nZ_sub, nZ_lt, nZ_le, nZ_eq, nZ_nat, nZ_div, nZ_rem, nZ_and, nZ_or, and31, nZ_shl, nZ_shr, nZ_m1, nZ_nneg, nZ_nneg', nZ_nlt, nZ_ltn, inR_lt, Nat.not_lt_zero, ob_some, jI, jL, jR, jV, rI0, rI1, rIv, if_true, if_false, ↓reduceIte, Nat.reduceAdd, Nat.reduceMul, Nat.reduceSub, Nat.reduceLT, Nat.reduceEqDiff, Nat.reduceLeDiff, Nat.zero_add, Nat.add_zero, Nat.zero_mul, Nat.mul_zero, Nat.one_mul, Nat.mul_one, and_true, true_and, false_and, and_false, or_true, true_or, or_false, false_or, not_true_eq_false, not_false_eq_true, eq_self, bI_0, bI_1, em_b, hI_ne, hI_at, hA_ne, hA_at, Sh_si, Sh_sA]
  · intro h H
    show qbig (d + 1) 77 74 [sR (some 12), none, none, none, sI (nZ n), sI (nZ n)] [] h = _
    rw [E77_74]
    simp (disch := first | assumption | omega | (simp only [Sh_si, Sh_sA]; assumption)) only [A0, l0, A1, l1, A2, l2, A3, l3, A4, l4, A7, l7, A8, l8, g10_0, g10_1, g10_2, g10_3, g10_4, g10_5, g10_6, g10_7, g10_8, g10_9, p10_10, g10_10, p10_11, g10_11, p10_12, g10_12, p10_13, g10_13, ck10, g11_0, g11_1, g11_2, g11_3, p11_4, g11_4, p11_5, g11_5, ck11, p12_0, g12_0, p12_1, g12_1, g12_2, g12_3, g12_4, g12_5, ck12, A13, S13, l13, A14, S14, l14, A15, S15, l15, A16, S16, l16, p17_0, g17_0, g17_1, ck17, A18, S18, l18, p19_0, g19_0, g19_1, g19_2, g19_3, g19_4, g19_5, ck19, A20, S20, l20, A21, S21, l21, A22, S22, l22, A23, S23, l23, A24, S24, l24, R25, R26, p27_0, g27_0, g27_1, ck27, A28, S28, l28, p29_0, g29_0, g29_1, p29_2, g29_2, p29_3, g29_3, p29_4, g29_4, p29_5, g29_5, p29_6, g29_6, p29_7, g29_7, p29_8, g29_8, p29_9, g29_9, g29_10, g29_11, g29_12, g29_13, g29_14, ck29, A30, S30, l30, A31, S31, l31, A32, S32, l32, A33, S33, l33, A34, S34, l34, A35, S35, l35, g36_0, g36_1, g36_2, ck36, A37, S37, l37, A38, S38, l38, A39, S39, l39, g40_0, g40_1, g40_2, g40_3, p40_4, g40_4, ck40, A41, S41, l41, A42, S42, l42, A43, S43, l43, A44, S44, l44, p45_0, g45_0, g45_1, p45_2, g45_2, p45_3, g45_3, p45_4, g45_4, p45_5, g45_5, p45_6, g45_6, p45_7, g45_7, g45_8, g45_9, g45_10, g45_11, g45_12, ck45, A46, S46, l46, A47, S47, l47, A48, S48, l48, A49, S49, l49, A50, S50, l50, A51, S51, l51, B52_0, g52_0, p52_1, g52_1, p52_2, g52_2, g52_3, p52_4, g52_4, ck52, A53, S53, l53, A54, S54, l54, A55, S55, l55, L0, L1, L2, L3, L4, L5, L6, L7, L8, L9, L10, L11, L12, L13, L14, L15, L16, L17, L18, L19, L20, L21, L22, L23, L24, L25, L26, L27, L28, L29, L30, L31, L32, L33, L34, L35, L36, L37, L38, L39, L40, L41, L42, L43, L44, L45, L46, L47, L48, L49, L50, L52, L57, L60, L90, L91, L93, L97, L99, L100, L101, L122, L240, L255, L256, L400, L401, L408, L409, L410, L411, L412, L413, L414, L420, L1000, L1001, L1103, L1200, L1240, L2820, L5220, L7936, L10440, L12345, L1000000, L1000003, L1073741823, nd_lt_t, nd_lt_f, nd_le_t, nd_le_f, nd_eq_f, nZ_add, nZ_mul, nZ_sub, nZ_lt, nZ_le, nZ_eq, nZ_nat, nZ_div, nZ_rem, nZ_and, nZ_or, and31, nZ_shl, nZ_shr, nZ_m1, nZ_nneg, nZ_nneg', nZ_nlt, nZ_ltn, inR_lt, Nat.not_lt_zero, ob_some, jI, jL, jR, jV, rI0, rI1, rIv, if_true, if_false, ↓reduceIte, Nat.reduceAdd, Nat.reduceMul, Nat.reduceSub, Nat.reduceLT, Nat.reduceEqDiff, Nat.reduceLeDiff, Nat.zero_add, Nat.add_zero, Nat.zero_mul, Nat.mul_zero, Nat.one_mul, Nat.mul_one, and_true, true_and, false_and, and_false, or_true, true_or, or_false, false_or, not_true_eq_false, not_false_eq_true, eq_self, bI_0, bI_1, em_b, hI_ne, hI_at, hA_ne, hA_at, Sh_si, Sh_sA]
theorem c77_l2 {g : QH} (H : Sh g) (d n : Nat) (hn : n < 8) (z : ∀ a, a < 5 → hI g 16 (n * 5 + a) = nZ 0) : qbig (d + 2) 77 104 [sR (some 12), none, none, none, sI (nZ n), sI (nZ 0)] [] g = qbig (d + 2) 77 104 [sR (some 12), none, none, none, sI (nZ n), sI (nZ 5)] [] g := by
  refine loop_same (F := fun j => qbig (d + 2) 77 104 [sR (some 12), none, none, none, sI (nZ n), sI (nZ j)] [] g) (n := 5) ?_ 0 (by decide)
  intro i hi
  show qbig (d + 2) 77 104 [sR (some 12), none, none, none, sI (nZ n), sI (nZ i)] [] g = qbig (d + 2) 77 104 [sR (some 12), none, none, none, sI (nZ n), sI (nZ (i + 1))] [] g
  have e := hsI_id (z i hi)
  conv =>
    lhs
    rw [E77_104]
  simp (disch := first | assumption | omega | (simp only [Sh_si, Sh_sA]; assumption)) only [hi, e, c18, A0, l0, A1, l1, A2, l2, A3, l3, A4, l4, A7, l7, A8, l8, g10_0, g10_1, g10_2, g10_3, g10_4, g10_5, g10_6, g10_7, g10_8, g10_9, p10_10, g10_10, p10_11, g10_11, p10_12, g10_12, p10_13, g10_13, ck10, g11_0, g11_1, g11_2, g11_3, p11_4, g11_4, p11_5, g11_5, ck11, p12_0, g12_0, p12_1, g12_1, g12_2, g12_3, g12_4, g12_5, ck12, A13, S13, l13, A14, S14, l14, A15, S15, l15, A16, S16, l16, p17_0, g17_0, g17_1, ck17, A18, S18, l18, p19_0, g19_0, g19_1, g19_2, g19_3, g19_4, g19_5, ck19, A20, S20, l20, A21, S21, l21, A22, S22, l22, A23, S23, l23, A24, S24, l24, R25, R26, p27_0, g27_0, g27_1, ck27, A28, S28, l28, p29_0, g29_0, g29_1, p29_2, g29_2, p29_3, g29_3, p29_4, g29_4, p29_5, g29_5, p29_6, g29_6, p29_7, g29_7, p29_8, g29_8, p29_9, g29_9, g29_10, g29_11, g29_12, g29_13, g29_14, ck29, A30, S30, l30, A31, S31, l31, A32, S32, l32, A33, S33, l33, A34, S34, l34, A35, S35, l35, g36_0, g36_1, g36_2, ck36, A37, S37, l37, A38, S38, l38, A39, S39, l39, g40_0, g40_1, g40_2, g40_3, p40_4, g40_4, ck40, A41, S41, l41, A42, S42, l42, A43, S43, l43, A44, S44, l44, p45_0, g45_0, g45_1, p45_2, g45_2, p45_3, g45_3, p45_4, g45_4, p45_5, g45_5, p45_6, g45_6, p45_7, g45_7, g45_8, g45_9, g45_10, g45_11, g45_12, ck45, A46, S46, l46, A47, S47, l47, A48, S48, l48, A49, S49, l49, A50, S50, l50, A51, S51, l51, B52_0, g52_0, p52_1, g52_1, p52_2, g52_2, g52_3, p52_4, g52_4, ck52, A53, S53, l53, A54, S54, l54, A55, S55, l55, L0, L1, L2, L3, L4, L5, L6, L7, L8, L9, L10, L11, L12, L13, L14, L15, L16, L17, L18, L19, L20, L21, L22, L23, L24, L25, L26, L27, L28, L29, L30, L31, L32, L33, L34, L35, L36, L37, L38, L39, L40, L41, L42, L43, L44, L45, L46, L47, L48, L49, L50, L52, L57, L60, L90, L91, L93, L97, L99, L100, L101, L122, L240, L255, L256, L400, L401, L408, L409, L410, L411, L412, L413, L414, L420, L1000, L1001, L1103, L1200, L1240, L2820, L5220, L7936, L10440, L12345, L1000000, L1000003, L1073741823, nd_lt_t, nd_lt_f, nd_le_t, nd_le_f, nd_eq_f, nZ_add, nZ_mul, nZ_sub, nZ_lt, nZ_le, nZ_eq, nZ_nat, nZ_div, nZ_rem, nZ_and, nZ_or, and31, nZ_shl, nZ_shr, nZ_m1, nZ_nneg, nZ_nneg', nZ_nlt, nZ_ltn, inR_lt, Nat.not_lt_zero, ob_some, jI, jL, jR, jV, rI0, rI1, rIv, if_true, if_false, ↓reduceIte, Nat.reduceAdd, Nat.reduceMul, Nat.reduceSub, Nat.reduceLT, Nat.reduceEqDiff, Nat.reduceLeDiff, Nat.zero_add, Nat.add_zero, Nat.zero_mul, Nat.mul_zero, Nat.one_mul, Nat.mul_one, and_true, true_and, false_and, and_false, or_true, true_or, or_false, false_or, not_true_eq_false, not_false_eq_true, eq_self, bI_0, bI_1, em_b, hI_ne, hI_at, hA_ne, hA_at, Sh_si, Sh_sA]
theorem m226_l1 {g : QH} (H : Sh g) (d n : Nat) (hn : n < 8) : qbig (d + 1) 226 129 [sR (some 56), none, none, none, sI (nZ n), sI (nZ 0)] [] g = qbig (d + 1) 226 162 [sR (some 56), none, none, none, sI (nZ n), sI (nZ 0)] [] (hsA g 58 (fun k => if 32 + 0 ≤ k ∧ k < 32 + n then hI g 58 k ||| nZ (1 <<< n) else hI g 58 k)) := by
  refine loopA (F := fun j h => qbig (d + 1) 226 129 [sR (some 56), none, none, none, sI (nZ n), sI (nZ j)] [] h) (G := fun h => qbig (d + 1) 226 162 [sR (some 56), none, none, none, sI (nZ n), sI (nZ 0)] [] h) (a := 58) (n := n) (c := 32) (u := fun _ x => x ||| nZ (1 <<< n)) (P := Sh) (fun _ _ _ H => H) ?_ ?_ 0 g (by omega) H
  · intro i h hi H
    show qbig (d + 1) 226 129 [sR (some 56), none, none, none, sI (nZ n), sI (nZ i)] [] h = qbig (d + 1) 226 129 [sR (some 56), none, none, none, sI (nZ n), sI (nZ (i + 1))] [] (hsI h 58 (32 + i) (hI h 58 (32 + i) ||| nZ (1 <<< n)))
    rw [E226_129]
    simp (disch := first | assumption | omega | (simp only [Sh_si, Sh_sA]; assumption)) only [p56_0, g56_0, p56_1, g56_1, g56_2, g56_3, g56_4, g56_5, p56_6, g56_6, g56_7, g56_8, g56_9, p56_10, g56_10, p56_11, g56_11, g56_12, g56_13, g56_14, p56_15, g56_15, p56_16, g56_16, p56_17, g56_17, p56_18, g56_18, p56_19, g56_19, p56_20, g56_20, B56_21, g56_21, g56_22, g56_23, g56_24, g56_25, g56_26, g56_27, p56_28, g56_28, p56_29, g56_29, p56_30, g56_30, p56_31, g56_31, g56_32, g56_33, g56_34, p56_35, g56_35, p56_36, g56_36, p56_37, g56_37, p56_38, g56_38, g56_39, g56_40, g56_41, p56_42, g56_42, p56_43, g56_43, p56_44, g56_44, ck56, A57, S57, l57, A58, S58, l58, A59, S59, l59, A60, S60, l60, A61, S61, l61, A62, S62, l62, A63, S63, l63, A64, S64, l64, A65, S65, l65, A66, S66, l66, A67, S67, l67, A68, S68, l68, A69, S69, l69, A70, S70, l70, A71, S71, l71, A72, S72, l72, A73, S73, l73, A74, S74, l74, A75, S75, l75, A76, S76, l76, A77, S77, l77, A78, S78, l78, L0, L1, L2, L3, L4, L5, L6, L7, L8, L9, L10, L11, L12, L13, L14, L15, L16, L17, L18, L19, L20, L21, L22, L23, L24, L25, L26, L27, L28, L29, L30, L31, L32, L33, L34, L35, L36, L37, L38, L39, L40, L41, L42, L43, L44, L45, L46, L47, L48, L49, L50, L52, L57, L60, L90, L91, L93, L97, L99, L100, L101, L122, L240, L255, L256, L400, L401, L408, L409, L410, L411, L412, L413, L414, L420, L1000, L1001, L1103, L1200, L1240, L2820, L5220, L7936, L10440, L12345, L1000000, L1000003, L1073741823, nd_lt_t, nd_lt_f, nd_le_t, nd_le_f, nd_eq_f, nZ_add, nZ_mul, nZ_sub, nZ_lt, nZ_le, nZ_eq, nZ_nat, nZ_div, nZ_rem, nZ_and, nZ_or, and31, nZ_shl, nZ_shr, nZ_m1, nZ_nneg, nZ_nneg', nZ_nlt, nZ_ltn, inR_lt, Nat.not_lt_zero, ob_some, jI, jL, jR, jV, rI0, rI1, rIv, if_true, if_false, ↓reduceIte, Nat.reduceAdd, Nat.reduceMul, Nat.reduceSub, Nat.reduceLT, Nat.reduceEqDiff, Nat.reduceLeDiff, Nat.zero_add, Nat.add_zero, Nat.zero_mul, Nat.mul_zero, Nat.one_mul, Nat.mul_one, and_true, true_and, false_and, and_false, or_true, true_or, or_false, false_or, not_true_eq_false, not_false_eq_true, eq_self, bI_0, bI_1, em_b, hI_ne, hI_at, hA_ne, hA_at, Sh_si, Sh_sA]
  · intro h H
    show qbig (d + 1) 226 129 [sR (some 56), none, none, none, sI (nZ n), sI (nZ n)] [] h = _
    rw [E226_129]
    simp (disch := first | assumption | omega | (simp only [Sh_si, Sh_sA]; assumption)) only [p56_0, g56_0, p56_1, g56_1, g56_2, g56_3, g56_4, g56_5, p56_6, g56_6, g56_7, g56_8, g56_9, p56_10, g56_10, p56_11, g56_11, g56_12, g56_13, g56_14, p56_15, g56_15, p56_16, g56_16, p56_17, g56_17, p56_18, g56_18, p56_19, g56_19, p56_20, g56_20, B56_21, g56_21, g56_22, g56_23, g56_24, g56_25, g56_26, g56_27, p56_28, g56_28, p56_29, g56_29, p56_30, g56_30, p56_31, g56_31, g56_32, g56_33, g56_34, p56_35, g56_35, p56_36, g56_36, p56_37, g56_37, p56_38, g56_38, g56_39, g56_40, g56_41, p56_42, g56_42, p56_43, g56_43, p56_44, g56_44, ck56, A57, S57, l57, A58, S58, l58, A59, S59, l59, A60, S60, l60, A61, S61, l61, A62, S62, l62, A63, S63, l63, A64, S64, l64, A65, S65, l65, A66, S66, l66, A67, S67, l67, A68, S68, l68, A69, S69, l69, A70, S70, l70, A71, S71, l71, A72, S72, l72, A73, S73, l73, A74, S74, l74, A75, S75, l75, A76, S76, l76, A77, S77, l77, A78, S78, l78, L0, L1, L2, L3, L4, L5, L6, L7, L8, L9, L10, L11, L12, L13, L14, L15, L16, L17, L18, L19, L20, L21, L22, L23, L24, L25, L26, L27, L28, L29, L30, L31, L32, L33, L34, L35, L36, L37, L38, L39, L40, L41, L42, L43, L44, L45, L46, L47, L48, L49, L50, L52, L57, L60, L90, L91, L93, L97, L99, L100, L101, L122, L240, L255, L256, L400, L401, L408, L409, L410, L411, L412, L413, L414, L420, L1000, L1001, L1103, L1200, L1240, L2820, L5220, L7936, L10440, L12345, L1000000, L1000003, L1073741823, nd_lt_t, nd_lt_f, nd_le_t, nd_le_f, nd_eq_f, nZ_add, nZ_mul, nZ_sub, nZ_lt, nZ_le, nZ_eq, nZ_nat, nZ_div, nZ_rem, nZ_and, nZ_or, and31, nZ_shl, nZ_shr, nZ_m1, nZ_nneg, nZ_nneg', nZ_nlt, nZ_ltn, inR_lt, Nat.not_lt_zero, ob_some, jI, jL, jR, jV, rI0, rI1, rIv, if_true, if_false, ↓reduceIte, Nat.reduceAdd, Nat.reduceMul, Nat.reduceSub, Nat.reduceLT, Nat.reduceEqDiff, Nat.reduceLeDiff, Nat.zero_add, Nat.add_zero, Nat.zero_mul, Nat.mul_zero, Nat.one_mul, Nat.mul_one, and_true, true_and, false_and, and_false, or_true, true_or, or_false, false_or, not_true_eq_false, not_false_eq_true, eq_self, bI_0, bI_1, em_b, hI_ne, hI_at, hA_ne, hA_at, Sh_si, Sh_sA]
theorem m226_l2 {g : QH} (H : Sh g) (d n : Nat) (hn : n < 8) (z : ∀ a, a < 5 → hI g 58 (60 + 5 * n + a) = nZ 0) : qbig (d + 1) 226 162 [sR (some 56), none, none, none, sI (nZ n), sI (nZ 0)] [] g = qbig (d + 1) 226 162 [sR (some 56), none, none, none, sI (nZ n), sI (nZ 5)] [] g := by
  refine loop_same (F := fun j => qbig (d + 1) 226 162 [sR (some 56), none, none, none, sI (nZ n), sI (nZ j)] [] g) (n := 5) ?_ 0 (by decide)
  intro i hi
  show qbig (d + 1) 226 162 [sR (some 56), none, none, none, sI (nZ n), sI (nZ i)] [] g = qbig (d + 1) 226 162 [sR (some 56), none, none, none, sI (nZ n), sI (nZ (i + 1))] [] g
  have e := hsI_id (z i hi)
  conv =>
    lhs
    rw [E226_162]
  simp (disch := first | assumption | omega | (simp only [Sh_si, Sh_sA]; assumption)) only [hi, e, p56_0, g56_0, p56_1, g56_1, g56_2, g56_3, g56_4, g56_5, p56_6, g56_6, g56_7, g56_8, g56_9, p56_10, g56_10, p56_11, g56_11, g56_12, g56_13, g56_14, p56_15, g56_15, p56_16, g56_16, p56_17, g56_17, p56_18, g56_18, p56_19, g56_19, p56_20, g56_20, B56_21, g56_21, g56_22, g56_23, g56_24, g56_25, g56_26, g56_27, p56_28, g56_28, p56_29, g56_29, p56_30, g56_30, p56_31, g56_31, g56_32, g56_33, g56_34, p56_35, g56_35, p56_36, g56_36, p56_37, g56_37, p56_38, g56_38, g56_39, g56_40, g56_41, p56_42, g56_42, p56_43, g56_43, p56_44, g56_44, ck56, A57, S57, l57, A58, S58, l58, A59, S59, l59, A60, S60, l60, A61, S61, l61, A62, S62, l62, A63, S63, l63, A64, S64, l64, A65, S65, l65, A66, S66, l66, A67, S67, l67, A68, S68, l68, A69, S69, l69, A70, S70, l70, A71, S71, l71, A72, S72, l72, A73, S73, l73, A74, S74, l74, A75, S75, l75, A76, S76, l76, A77, S77, l77, A78, S78, l78, L0, L1, L2, L3, L4, L5, L6, L7, L8, L9, L10, L11, L12, L13, L14, L15, L16, L17, L18, L19, L20, L21, L22, L23, L24, L25, L26, L27, L28, L29, L30, L31, L32, L33, L34, L35, L36, L37, L38, L39, L40, L41, L42, L43, L44, L45, L46, L47, L48, L49, L50, L52, L57, L60, L90, L91, L93, L97, L99, L100, L101, L122, L240, L255, L256, L400, L401, L408, L409, L410, L411, L412, L413, L414, L420, L1000, L1001, L1103, L1200, L1240, L2820, L5220, L7936, L10440, L12345, L1000000, L1000003, L1073741823, nd_lt_t, nd_lt_f, nd_le_t, nd_le_f, nd_eq_f, nZ_add, nZ_mul, nZ_sub, nZ_lt, nZ_le, nZ_eq, nZ_nat, nZ_div, nZ_rem, nZ_and, nZ_or, and31, nZ_shl, nZ_shr, nZ_m1, nZ_nneg, nZ_nneg', nZ_nlt, nZ_ltn, inR_lt, Nat.not_lt_zero, ob_some, jI, jL, jR, jV, rI0, rI1, rIv, if_true, if_false, ↓reduceIte, Nat.reduceAdd, Nat.reduceMul, Nat.reduceSub, Nat.reduceLT, Nat.reduceEqDiff, Nat.reduceLeDiff, Nat.zero_add, Nat.add_zero, Nat.zero_mul, Nat.mul_zero, Nat.one_mul, Nat.mul_one, and_true, true_and, false_and, and_false, or_true, true_or, or_false, false_or, not_true_eq_false, not_false_eq_true, eq_self, bI_0, bI_1, em_b, hI_ne, hI_at, hA_ne, hA_at, Sh_si, Sh_sA]
/-- the new one -/
def one1 (h : QH) (n l t r : Nat) : QH := hsI (hsI (hsI (hsI (hsI (hsI h 13 n (nZ l)) 13 (8 + n) (nZ t)) 13 (16 + n) (nZ r)) 13 (24 + n) (nZ 0)) 15 n (nZ (1 <<< n))) 14 n (nZ (2 ^ n - 1))
def one2 (h : QH) (n l t r : Nat) : QH := hsI (hsA (one1 h n l t r) 14 (fun k => if 0 + 0 ≤ k ∧ k < 0 + n then hI (one1 h n l t r) 14 k ||| nZ (1 <<< n) else hI (one1 h n l t r) 14 k)) 12 0 (nZ (n + 1))
theorem c77 {h : QH} (H : Sh h) (d n l t r : Nat) (hn : n < 8) (e12 : hI h 12 0 = nZ n) (z : ∀ a, a < 5 → hI h 16 (n * 5 + a) = nZ 0) : qcl (d + 2) 77 [qR (some 12), qI (nZ l), qI (nZ t), qI (nZ r)] h = some (some (qI (nZ n)), one2 h n l t r) := by
  have H1 : Sh (one1 h n l t r) := H
  have e2 : hI (hsI (hsI (hsI (hsI (hsI h 13 n (nZ l)) 13 (8 + n) (nZ t)) 13 (16 + n) (nZ r)) 13 (24 + n) (nZ 0)) 15 n (nZ (1 <<< n))) 12 0 = nZ n := e12
  have q := c79 (h := hsI (hsI (hsI (hsI (hsI h 13 n (nZ l)) 13 (8 + n) (nZ t)) 13 (16 + n) (nZ r)) 13 (24 + n) (nZ 0)) 15 n (nZ (1 <<< n))) H d n e2 (by omega)
  have lp1 := c77_l1 H1 (d + 1) n hn
  have lp2 := c77_l2 (g := hsA (one1 h n l t r) 14 (fun k => if 0 + 0 ≤ k ∧ k < 0 + n then hI (one1 h n l t r) 14 k ||| nZ (1 <<< n) else hI (one1 h n l t r) 14 k)) H d n hn z
  have s : qcl (d + 2) 77 [qR (some 12), qI (nZ l), qI (nZ t), qI (nZ r)] h = qbig (d + 2) 77 74 [sR (some 12), none, none, none, sI (nZ n), sI (nZ 0)] [] (one1 h n l t r) := by
    simp (disch := first | assumption | omega | (simp only [Sh_si, Sh_sA]; assumption)) only [E77, e12, q, A0, l0, A1, l1, A2, l2, A3, l3, A4, l4, A7, l7, A8, l8, g10_0, g10_1, g10_2, g10_3, g10_4, g10_5, g10_6, g10_7, g10_8, g10_9, p10_10, g10_10, p10_11, g10_11, p10_12, g10_12, p10_13, g10_13, ck10, g11_0, g11_1, g11_2, g11_3, p11_4, g11_4, p11_5, g11_5, ck11, p12_0, g12_0, p12_1, g12_1, g12_2, g12_3, g12_4, g12_5, ck12, A13, S13, l13, A14, S14, l14, A15, S15, l15, A16, S16, l16, p17_0, g17_0, g17_1, ck17, A18, S18, l18, p19_0, g19_0, g19_1, g19_2, g19_3, g19_4, g19_5, ck19, A20, S20, l20, A21, S21, l21, A22, S22, l22, A23, S23, l23, A24, S24, l24, R25, R26, p27_0, g27_0, g27_1, ck27, A28, S28, l28, p29_0, g29_0, g29_1, p29_2, g29_2, p29_3, g29_3, p29_4, g29_4, p29_5, g29_5, p29_6, g29_6, p29_7, g29_7, p29_8, g29_8, p29_9, g29_9, g29_10, g29_11, g29_12, g29_13, g29_14, ck29, A30, S30, l30, A31, S31, l31, A32, S32, l32, A33, S33, l33, A34, S34, l34, A35, S35, l35, g36_0, g36_1, g36_2, ck36, A37, S37, l37, A38, S38, l38, A39, S39, l39, g40_0, g40_1, g40_2, g40_3, p40_4, g40_4, ck40, A41, S41, l41, A42, S42, l42, A43, S43, l43, A44, S44, l44, p45_0, g45_0, g45_1, p45_2, g45_2, p45_3, g45_3, p45_4, g45_4, p45_5, g45_5, p45_6, g45_6, p45_7, g45_7, g45_8, g45_9, g45_10, g45_11, g45_12, ck45, A46, S46, l46, A47, S47, l47, A48, S48, l48, A49, S49, l49, A50, S50, l50, A51, S51, l51, B52_0, g52_0, p52_1, g52_1, p52_2, g52_2, g52_3, p52_4, g52_4, ck52, A53, S53, l53, A54, S54, l54, A55, S55, l55, L0, L1, L2, L3, L4, L5, L6, L7, L8, L9, L10, L11, L12, L13, L14, L15, L16, L17, L18, L19, L20, L21, L22, L23, L24, L25, L26, L27, L28, L29, L30, L31, L32, L33, L34, L35, L36, L37, L38, L39, L40, L41, L42, L43, L44, L45, L46, L47, L48, L49, L50, L52, L57, L60, L90, L91, L93, L97, L99, L100, L101, L122, L240, L255, L256, L400, L401, L408, L409, L410, L411, L412, L413, L414, L420, L1000, L1001, L1103, L1200, L1240, L2820, L5220, L7936, L10440, L12345, L1000000, L1000003, L1073741823, nd_lt_t, nd_lt_f, nd_le_t, nd_le_f, nd_eq_f, nZ_add, nZ_mul, nZ_sub, nZ_lt, nZ_le, nZ_eq, nZ_nat, nZ_div, nZ_rem, nZ_and, nZ_or, and31, nZ_shl, nZ_shr, nZ_m1, nZ_nneg, nZ_nneg', nZ_nlt, nZ_ltn, inR_lt, Nat.not_lt_zero, ob_some, jI, jL, jR, jV, rI0, rI1, rIv, if_true, if_false, ↓reduceIte, Nat.reduceAdd, Nat.reduceMul, Nat.reduceSub, Nat.reduceLT, Nat.reduceEqDiff, Nat.reduceLeDiff, Nat.zero_add, Nat.add_zero, Nat.zero_mul, Nat.mul_zero, Nat.one_mul, Nat.mul_one, and_true, true_and, false_and, and_false, or_true, true_or, or_false, false_or, not_true_eq_false, not_false_eq_true, eq_self, bI_0, bI_1, em_b, hI_ne, hI_at, hA_ne, hA_at, Sh_si, Sh_sA]
    rfl
  rw [s, lp1, lp2, E77_104]
  have e3 : hI (hsA (one1 h n l t r) 14 (fun k => if 0 + 0 ≤ k ∧ k < 0 + n then hI (one1 h n l t r) 14 k ||| nZ (1 <<< n) else hI (one1 h n l t r) 14 k)) 12 0 = nZ n := e12
  have H2 : Sh (hsA (one1 h n l t r) 14 (fun k => if 0 + 0 ≤ k ∧ k < 0 + n then hI (one1 h n l t r) 14 k ||| nZ (1 <<< n) else hI (one1 h n l t r) 14 k)) := H
  unfold one2
  generalize hsA (one1 h n l t r) 14 (fun k => if 0 + 0 ≤ k ∧ k < 0 + n then hI (one1 h n l t r) 14 k ||| nZ (1 <<< n) else hI (one1 h n l t r) 14 k) = g at *
  simp (disch := first | assumption | omega | (simp only [Sh_si, Sh_sA]; assumption)) only [e3, A0, l0, A1, l1, A2, l2, A3, l3, A4, l4, A7, l7, A8, l8, g10_0, g10_1, g10_2, g10_3, g10_4, g10_5, g10_6, g10_7, g10_8, g10_9, p10_10, g10_10, p10_11, g10_11, p10_12, g10_12, p10_13, g10_13, ck10, g11_0, g11_1, g11_2, g11_3, p11_4, g11_4, p11_5, g11_5, ck11, p12_0, g12_0, p12_1, g12_1, g12_2, g12_3, g12_4, g12_5, ck12, A13, S13, l13, A14, S14, l14, A15, S15, l15, A16, S16, l16, p17_0, g17_0, g17_1, ck17, A18, S18, l18, p19_0, g19_0, g19_1, g19_2, g19_3, g19_4, g19_5, ck19, A20, S20, l20, A21, S21, l21, A22, S22, l22, A23, S23, l23, A24, S24, l24, R25, R26, p27_0, g27_0, g27_1, ck27, A28, S28, l28, p29_0, g29_0, g29_1, p29_2, g29_2, p29_3, g29_3, p29_4, g29_4, p29_5, g29_5, p29_6, g29_6, p29_7, g29_7, p29_8, g29_8, p29_9, g29_9, g29_10, g29_11, g29_12, g29_13, g29_14, ck29, A30, S30, l30, A31, S31, l31, A32, S32, l32, A33, S33, l33, A34, S34, l34, A35, S35, l35, g36_0, g36_1, g36_2, ck36, A37, S37, l37, A38, S38, l38, A39, S39, l39, g40_0, g40_1, g40_2, g40_3, p40_4, g40_4, ck40, A41, S41, l41, A42, S42, l42, A43, S43, l43, A44, S44, l44, p45_0, g45_0, g45_1, p45_2, g45_2, p45_3, g45_3, p45_4, g45_4, p45_5, g45_5, p45_6, g45_6, p45_7, g45_7, g45_8, g45_9, g45_10, g45_11, g45_12, ck45, A46, S46, l46, A47, S47, l47, A48, S48, l48, A49, S49, l49, A50, S50, l50, A51, S51, l51, B52_0, g52_0, p52_1, g52_1, p52_2, g52_2, g52_3, p52_4, g52_4, ck52, A53, S53, l53, A54, S54, l54, A55, S55, l55, L0, L1, L2, L3, L4, L5, L6, L7, L8, L9, L10, L11, L12, L13, L14, L15, L16, L17, L18, L19, L20, L21, L22, L23, L24, L25, L26, L27, L28, L29, L30, L31, L32, L33, L34, L35, L36, L37, L38, L39, L40, L41, L42, L43, L44, L45, L46, L47, L48, L49, L50, L52, L57, L60, L90, L91, L93, L97, L99, L100, L101, L122, L240, L255, L256, L400, L401, L408, L409, L410, L411, L412, L413, L414, L420, L1000, L1001, L1103, L1200, L1240, L2820, L5220, L7936, L10440, L12345, L1000000, L1000003, L1073741823, nd_lt_t, nd_lt_f, nd_le_t, nd_le_f, nd_eq_f, nZ_add, nZ_mul, nZ_sub, nZ_lt, nZ_le, nZ_eq, nZ_nat, nZ_div, nZ_rem, nZ_and, nZ_or, and31, nZ_shl, nZ_shr, nZ_m1, nZ_nneg, nZ_nneg', nZ_nlt, nZ_ltn, inR_lt, Nat.not_lt_zero, ob_some, jI, jL, jR, jV, rI0, rI1, rIv, if_true, if_false, ↓reduceIte, Nat.reduceAdd, Nat.reduceMul, Nat.reduceSub, Nat.reduceLT, Nat.reduceEqDiff, Nat.reduceLeDiff, Nat.zero_add, Nat.add_zero, Nat.zero_mul, Nat.mul_zero, Nat.one_mul, Nat.mul_one, and_true, true_and, false_and, and_false, or_true, true_or, or_false, false_or, not_true_eq_false, not_false_eq_true, eq_self, bI_0, bI_1, em_b, hI_ne, hI_at, hA_ne, hA_at, Sh_si, Sh_sA]
def oneM1 (h : QH) (n l t r : Nat) : QH := hsI (hsI (hsI (hsI (hsI h 58 (4 * n) (nZ l)) 58 (4 * n + 1) (nZ t)) 58 (4 * n + 2) (nZ r)) 58 (4 * n + 3) (nZ 0)) 58 (32 + n) (nZ (2 ^ n - 1))
def oneM2 (h : QH) (n l t r : Nat) : QH := hsI (hsI (hsA (oneM1 h n l t r) 58 (fun k => if 32 + 0 ≤ k ∧ k < 32 + n then hI (oneM1 h n l t r) 58 k ||| nZ (1 <<< n) else hI (oneM1 h n l t r) 58 k)) 58 (400 + n) (nZ (1 <<< n))) 58 408 (nZ (n + 1))
/-- the picture then -/
def oneW (W : Nat → Nat) (n l t r : Nat) : Nat → Nat := up (up (um (up (up (up (up (up W (4 * n) l) (4 * n + 1) t) (4 * n + 2) r) (4 * n + 3) 0) (32 + n) (2 ^ n - 1)) n) (400 + n) (1 <<< n)) 408 (n + 1)
theorem oneW_ne {W : Nat → Nat} {n l t r j : Nat} (hn : n < 8) (h : (40 ≤ j ∧ j < 400) ∨ 409 ≤ j) : oneW W n l t r j = W j := by
  unfold oneW
  rw [up_ne (by omega), up_ne (by omega), um_ne (by omega)]
  repeat rw [up_ne (by omega)]
theorem oneM2_mk {h : QH} {W : Nat → Nat} {n l t r : Nat} (hn : n < 8) (M : MK h W) : MK (oneM2 h n l t r) (oneW W n l t r) := MK.up (MK.up (MK.um (MK.up (MK.up (MK.up (MK.up (MK.up M (by omega)) (by omega)) (by omega)) (by omega)) (by omega)) (by omega)) (by omega)) (by omega)
theorem oneW_me {W : Nat → Nat} {n l t r p : Nat} (hn : n < 8) (hp : p < 8) : oneW W n l t r (32 + p) = if p < n then W (32 + p) ||| 1 <<< n else if p = n then 2 ^ n - 1 else W (32 + p) := by
  unfold oneW
  rw [up_ne (by omega), up_ne (by omega)]
  by_cases e : p < n
  · rw [um_in (by omega), if_pos e, up_ne (by omega)]
    repeat rw [up_ne (by omega)]
  · rw [um_ne (by omega), if_neg e]
    by_cases e2 : p = n
    · rw [up_at (by omega), if_pos e2]
    · rw [up_ne (by omega), if_neg e2]
      repeat rw [up_ne (by omega)]
theorem bit_or {x n q : Nat} : (x ||| 1 <<< n).testBit q = (x.testBit q || decide (n = q)) := by
  rw [Nat.testBit_or, Nat.one_shiftLeft, Nat.testBit_two_pow]
theorem shl_le : ∀ n, n < 8 → 1 <<< n ≤ 255 := by decide
theorem pow_le : ∀ n, n < 8 → 2 ^ n - 1 ≤ 255 := by decide
theorem WI_one {W : Nat → Nat} (I : WI W) {n l t r : Nat} (e : W 408 = n) (hn : n < 8) (hl : l ≤ 9) (ht : t ≤ 9) (hr : r ≤ 12) : WI (oneW W n l t r) := by
  obtain ⟨I1, I2, I3, I4, I5, I6⟩ := I
  have n5 := I1 409 (by decide) (by decide)
  have n60 := I1 410 (by decide) (by decide)
  have h5 : bnd 409 = 5 := rfl
  have h60 : bnd 410 = 60 := rfl
  have o8 : oneW W n l t r 408 = n + 1 := up_at rfl
  have hi : ∀ q, q < 8 → n ≤ q → ∀ p, p < 8 → (W (32 + p)).testBit q = false := by
    intro q hq hnq p hp
    rw [I2 p q hp hq, I6.2 q hq (by omega)]
    exact Nat.zero_testBit p
  have B : WB (oneW W n l t r) := by
    intro j hj h4
    by_cases c1 : 32 ≤ j ∧ j < 40
    · obtain ⟨p, rfl⟩ : ∃ p, j = 32 + p := ⟨j - 32, by omega⟩
      have b := I1 (32 + p) (by omega) (by omega)
      rw [bnd_me (by omega)] at b ⊢
      rw [oneW_me hn (by omega)]
      split
      · exact or_lt b (shl_le n hn)
      · split
        · exact pow_le n hn
        · exact b
    · by_cases c2 : j = 408
      · subst c2
        rw [o8]
        show n + 1 ≤ 8
        omega
      · unfold oneW
        rw [up_ne c2]
        by_cases c3 : j = 400 + n
        · rw [up_at c3, c3, bnd_he hn]
          exact shl_le n hn
        · rw [up_ne c3, um_ne (by omega), up_ne (by omega)]
          have hb : ∀ f v, f < 4 → v ≤ (if f = 3 then 1073741823 else if f = 2 then 12 else 9) → v ≤ bnd (4 * n + f) := by
            intro f v hf hv
            unfold bnd
            rw [if_pos (by omega), show (4 * n + f) % 4 = f by omega]
            exact hv
          by_cases c4 : j = 4 * n + 3
          · rw [up_at c4, c4]
            exact hb 3 0 (by decide) (by decide)
          · rw [up_ne c4]
            by_cases c5 : j = 4 * n + 2
            · rw [up_at c5, c5]
              exact hb 2 r (by decide) (by simpa using hr)
            · rw [up_ne c5]
              by_cases c6 : j = 4 * n + 1
              · rw [up_at c6, c6]
                exact hb 1 t (by decide) (by simpa using ht)
              · rw [up_ne c6]
                by_cases c7 : j = 4 * n
                · rw [up_at c7, c7]
                  exact hb 0 l (by decide) (by simpa using hl)
                · rw [up_ne c7]
                  exact I1 j hj h4
  refine ⟨B, ?_, ?_, ?_, ?_, ?_, ?_⟩
  · intro p q hp hq
    have key : ∀ p q, p < 8 → q < 8 → (oneW W n l t r (32 + p)).testBit q = if p < n ∧ q = n ∨ p = n ∧ q < n then true else (W (32 + p)).testBit q := by
      intro p q hp hq
      rw [oneW_me hn hp]
      by_cases e1 : p < n
      · rw [if_pos e1, bit_or]
        by_cases e2 : q = n
        · rw [if_pos (Or.inl ⟨e1, e2⟩), e2]
          simp
        · rw [if_neg (by omega), decide_eq_false (by omega), Bool.or_false]
      · rw [if_neg e1]
        by_cases e2 : p = n
        · rw [if_pos e2, Nat.testBit_two_pow_sub_one]
          by_cases e3 : q < n
          · rw [if_pos (by omega), decide_eq_true e3]
          · rw [if_neg (by omega), decide_eq_false e3, hi q hq (by omega) p hp]
        · rw [if_neg e2, if_neg (by omega)]
    rw [key p q hp hq, key q p hq hp, I2 p q hp hq]
    by_cases e1 : p < n ∧ q = n ∨ p = n ∧ q < n
    · rw [if_pos e1, if_pos (by omega)]
    · rw [if_neg e1, if_neg (by omega)]
  · intro b hb
    rw [oneW_ne hn (by omega)] at hb
    rw [oneW_ne hn (by omega)]
    exact I3 b hb
  · intro s b hs hb hz
    rw [o8, oneW_ne hn (by omega)] at hz
    rw [oneW_ne hn (by omega)]
    exact I4 s b hs hb (by omega)
  · intro s hs
    rw [oneW_ne hn (by omega)] at hs
    rw [o8, oneW_ne hn (by omega), oneW_ne hn (by omega), oneW_ne hn (by omega)]
    have := I5 s hs
    omega
  · rw [oneW_ne hn (by omega), oneW_ne hn (by omega)]
    exact I6.1
  · intro p hp hn2
    rw [o8] at hn2
    rw [oneW_me hn hp, if_neg (by omega), if_neg (by omega)]
    exact I6.2 p hp (by omega)
theorem Sim_one {h : QH} {W : Nat → Nat} {c : Nat} {T : Nat → Nat} (K : K0 h W c T) {n l t r : Nat} (e : W 408 = n) (hn : n < 8) (hl : l ≤ 9) (ht : t ≤ 9) (hr : r ≤ 12) : Sim h (okM' (oneM2 (okC' (one2 h n l t r)) n l t r)) W c T := by
  have M : MK (okC' (one2 h n l t r)) W := MK.okC (MK.si (by decide) (MK.sA (by decide) (MK.si (by decide) (MK.si (by decide) (MK.si (by decide) (MK.si (by decide) (MK.si (by decide) (MK.si (by decide) K.mk))))))))
  have F : Fr sC h (okM' (oneM2 (okC' (one2 h n l t r)) n l t r)) := Fr.si rfl (Fr.si rfl (Fr.si rfl (Fr.si rfl (Fr.sA (fun _ => rfl) (Fr.si rfl (Fr.si rfl (Fr.si rfl (Fr.si rfl (Fr.si rfl (Fr.si rfl (Fr.si rfl (Fr.si rfl (Fr.sA (fun _ => rfl) (Fr.si rfl (Fr.si rfl (Fr.si rfl (Fr.si rfl (Fr.si rfl (Fr.si rfl Fr.refl)))))))))))))))))))
  have o8 : oneW W n l t r 408 = n + 1 := up_at rfl
  refine Sim_mk (T' := T) K F (WI_one K.wi e hn hl ht hr) (MK.okM (oneM2_mk hn M)) ?_ ((K.ca.w (fun j hj => oneW_ne hn (by omega))).of ?_) ((K.cs.w (fun j hj => oneW_ne hn (by omega))).of ?_) ((K.cf.w (oneW_ne hn (by omega)) (oneW_ne hn (by omega))).of ?_) ?_ ?_ (KM_ok K.km ?_ ?_ ?_) (K.kt.of ?_ ?_ ?_ ?_) (fun j hj => oneW_ne hn (by omega)) (oneW_ne hn (by omega))
  · have C := K.cp
    refine ⟨?_, ?_, ?_, ?_, ?_, ?_⟩
    · rw [o8]
      simp (disch := omega) only [oneM2, oneM1, one2, one1, okM', okC', hI_ne, hI_at, hA_ne, hA_at]
    · rw [oneW_ne hn (by omega)]
      simp (disch := omega) only [oneM2, oneM1, one2, one1, okM', okC', hI_ne, hI_at, hA_ne, hA_at]
      exact C.2.1
    · intro p f hp hf
      have eW : oneW W n l t r (4 * p + f) = if p = n then (if f = 0 then l else if f = 1 then t else if f = 2 then r else 0) else W (4 * p + f) := by
        unfold oneW
        rw [up_ne (by omega), up_ne (by omega), um_ne (by omega), up_ne (by omega)]
        by_cases c : p = n
        · subst c
          rw [if_pos rfl]
          have : f = 0 ∨ f = 1 ∨ f = 2 ∨ f = 3 := by omega
          rcases this with z | z | z | z <;> subst z
          · rw [up_ne (by omega), up_ne (by omega), up_ne (by omega), up_at (by omega)]
            rfl
          · rw [up_ne (by omega), up_ne (by omega), up_at (by omega)]
            rfl
          · rw [up_ne (by omega), up_at (by omega)]
            rfl
          · rw [up_at (by omega)]
            rfl
        · rw [if_neg c]
          repeat rw [up_ne (by omega)]
      rw [eW]
      by_cases c : p = n
      · subst c
        rw [if_pos rfl]
        have : f = 0 ∨ f = 1 ∨ f = 2 ∨ f = 3 := by omega
        rcases this with z | z | z | z <;> subst z <;> simp (disch := omega) only [oneM2, oneM1, one2, one1, okM', okC', hI_ne, hI_at, hA_ne, hA_at] <;> rfl
      · rw [if_neg c]
        simp (disch := omega) only [oneM2, oneM1, one2, one1, okM', okC', hI_ne, hI_at, hA_ne, hA_at]
        exact C.2.2.1 p f hp hf
    · intro p hp
      rw [oneW_me hn hp]
      simp (disch := omega) only [oneM2, oneM1, one2, okM', okC', hI_ne, hI_at, hA_ne, hA_at]
      by_cases c : p < n
      · rw [if_pos (by omega), if_pos c]
        simp (disch := omega) only [one1, hI_ne]
        rw [show hI h (11 + 3) p = nZ (W (32 + p)) from C.2.2.2.1 p hp, nZ_or]
      · rw [if_neg (by omega), if_neg c]
        by_cases c2 : p = n
        · rw [if_pos c2]
          simp (disch := omega) only [one1, hI_at]
        · rw [if_neg c2]
          simp (disch := omega) only [one1, hI_ne]
          exact C.2.2.2.1 p hp
    · intro p hp
      simp (disch := omega) only [oneM2, oneM1, one2, one1, okM', okC', hI_ne, hA_ne]
      unfold oneW
      rw [up_ne (by omega)]
      by_cases c : p = n
      · rw [up_at (by omega), hI_at c]
      · rw [up_ne (by omega), um_ne (by omega), hI_ne (by omega)]
        simp (disch := omega) only [hI_ne]
        repeat rw [up_ne (by omega)]
        exact C.2.2.2.2.1 p hp
    · intro p hp
      rw [oneW_ne hn (by omega)]
      simp (disch := omega) only [oneM2, oneM1, one2, one1, okM', okC', hI_ne, hI_at, hA_ne, hA_at]
      exact C.2.2.2.2.2 p hp
  · intro i j h1 h2
    simp (disch := omega) only [oneM2, oneM1, one2, one1, okM', okC', hI_ne, hA_ne]
  · intro i j h1 h2
    simp (disch := omega) only [oneM2, oneM1, one2, one1, okM', okC', hI_ne, hA_ne]
  · intro j
    simp (disch := omega) only [oneM2, oneM1, one2, one1, okM', okC', hI_ne, hA_ne]
  · simp (disch := omega) only [oneM2, oneM1, one2, one1, okM', okC', hI_ne, hI_at, hA_ne, K.ch, nZ_add]
  · simp (disch := omega) only [oneM2, oneM1, one2, one1, okM', okC', hI_ne, hI_at, hA_ne, K.vs, nZ_add]
  · intro b j hb
    simp (disch := omega) only [oneM2, oneM1, one2, one1, okM', okC', hI_ne, hA_ne]
  · simp (disch := omega) only [oneM2, oneM1, one2, one1, okM', okC', hI_ne, hI_at, hA_ne]
  · simp (disch := omega) only [oneM2, oneM1, one2, one1, okM', okC', hI_ne, hI_at, hA_ne]
  · intro j
    simp (disch := omega) only [oneM2, oneM1, one2, one1, okM', okC', hI_ne, hA_ne]
  · intro j
    simp (disch := omega) only [oneM2, oneM1, one2, one1, okM', okC', hI_ne, hA_ne]
  · intro j
    simp (disch := omega) only [oneM2, oneM1, one2, one1, okM', okC', hI_ne, hA_ne]
  · simp (disch := omega) only [oneM2, oneM1, one2, one1, okM', okC', hI_ne, hA_ne]

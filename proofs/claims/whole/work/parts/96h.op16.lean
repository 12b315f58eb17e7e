theorem rowW_lo {W T : Nat → Nat} {n a : Nat} {i j : Nat} (hn : n ≤ 8) (ha : a < 5) (hj : j < 60 ∨ 100 ≤ j) : rowW W T n a i j = W j := rowW_ne hn ha i j hj
theorem f16_sC (b j : Nat) (h : f16 b j = true) : sC b j = true := by
  unfold f16 at h
  have : b = 16 := by simpa using h
  subst this
  rfl
theorem fM_sC (b j : Nat) (h : fM b j = true) : sC b j = true := by
  unfold fM at h
  simp at h
  rcases h with e | ⟨e, e2⟩
  · subst e
    rfl
  · subst e
    subst e2
    rfl
theorem op_row {h : QH} {W : Nat → Nat} {c : Nat} {T : Nat → Nat} (K : K0 h W c T) (d : Nat) (a1 : Int32) : Op (d + 20) 45 247 [qI a1] h (fun k => Sim h k W c T) := by
  have H := K.sh
  have n5 := K.n5
  have n8 := K.n8
  obtain ⟨t1, t2, t3, t4⟩ := K.kt
  by_cases ha : ltN a1 (W 409)
  · obtain ⟨a, ha2, rfl⟩ := ltN_ex ha
    by_cases h0 : T 400 = 0
    · have t10 : hI (rfC h (-nZ 6) 4) 56 10 = nZ 0 := t3.trans (by rw [h0])
      have eid := hsI_id t10
      rw [h0] at t2
      refine ⟨-nZ 6, rfC h (-nZ 6) 4, rfM (rfC h (-nZ 6) 4) (-nZ 6) 6, ?_, ?_, Sim_ref K (-nZ 6) (by decide)⟩
      · simp (disch := first | assumption | omega | (simp only [Sh_si, Sh_sA]; assumption)) only [E45, eq_true ha, t2, A0, l0, A1, l1, A2, l2, A3, l3, A4, l4, A7, l7, A8, l8, g10_0, g10_1, g10_2, g10_3, g10_4, g10_5, g10_6, g10_7, g10_8, g10_9, p10_10, g10_10, p10_11, g10_11, p10_12, g10_12, p10_13, g10_13, ck10, g11_0, g11_1, g11_2, g11_3, p11_4, g11_4, p11_5, g11_5, ck11, p12_0, g12_0, p12_1, g12_1, g12_2, g12_3, g12_4, g12_5, ck12, A13, S13, l13, A14, S14, l14, A15, S15, l15, A16, S16, l16, p17_0, g17_0, g17_1, ck17, A18, S18, l18, p19_0, g19_0, g19_1, g19_2, g19_3, g19_4, g19_5, ck19, A20, S20, l20, A21, S21, l21, A22, S22, l22, A23, S23, l23, A24, S24, l24, R25, R26, p27_0, g27_0, g27_1, ck27, A28, S28, l28, p29_0, g29_0, g29_1, p29_2, g29_2, p29_3, g29_3, p29_4, g29_4, p29_5, g29_5, p29_6, g29_6, p29_7, g29_7, p29_8, g29_8, p29_9, g29_9, g29_10, g29_11, g29_12, g29_13, g29_14, ck29, A30, S30, l30, A31, S31, l31, A32, S32, l32, A33, S33, l33, A34, S34, l34, A35, S35, l35, g36_0, g36_1, g36_2, ck36, A37, S37, l37, A38, S38, l38, A39, S39, l39, g40_0, g40_1, g40_2, g40_3, p40_4, g40_4, ck40, A41, S41, l41, A42, S42, l42, A43, S43, l43, A44, S44, l44, p45_0, g45_0, g45_1, p45_2, g45_2, p45_3, g45_3, p45_4, g45_4, p45_5, g45_5, p45_6, g45_6, p45_7, g45_7, g45_8, g45_9, g45_10, g45_11, g45_12, ck45, A46, S46, l46, A47, S47, l47, A48, S48, l48, A49, S49, l49, A50, S50, l50, A51, S51, l51, B52_0, g52_0, p52_1, g52_1, p52_2, g52_2, g52_3, p52_4, g52_4, ck52, A53, S53, l53, A54, S54, l54, A55, S55, l55, k79 K, k80 K, k72 K, k128 K, k161 K, k88 K, k71 K, k82 K, k76 K, k67 K, k85 K, c10, c18, c21, c43_1, c43_2, c43_3, c43_5, c43_6, L0, L1, L2, L3, L4, L5, L6, L7, L8, L9, L10, L11, L12, L13, L14, L15, L16, L17, L18, L19, L20, L21, L22, L23, L24, L25, L26, L27, L28, L29, L30, L31, L32, L33, L34, L35, L36, L37, L38, L39, L40, L41, L42, L43, L44, L45, L46, L47, L48, L49, L50, L52, L57, L60, L90, L91, L93, L97, L99, L100, L101, L122, L240, L255, L256, L400, L401, L408, L409, L410, L411, L412, L413, L414, L420, L1000, L1001, L1103, L1200, L1240, L2820, L5220, L7936, L10440, L12345, L1000000, L1000003, L1073741823, nd_lt_t, nd_lt_f, nd_le_t, nd_le_f, nd_eq_f, nZ_add, nZ_mul, nZ_sub, nZ_lt, nZ_le, nZ_eq, nZ_nat, nZ_div, nZ_rem, nZ_and, nZ_or, and31, nZ_shl, nZ_shr, nZ_m1, nZ_nneg, nZ_nneg', nZ_nlt, nZ_ltn, inR_lt, Nat.not_lt_zero, ob_some, jI, jL, jR, jV, rI0, rI1, rIv, if_true, if_false, ↓reduceIte, Nat.reduceAdd, Nat.reduceMul, Nat.reduceSub, Nat.reduceLT, Nat.reduceEqDiff, Nat.reduceLeDiff, Nat.zero_add, Nat.add_zero, Nat.zero_mul, Nat.mul_zero, Nat.one_mul, Nat.mul_one, and_true, true_and, false_and, and_false, or_true, true_or, or_false, false_or, not_true_eq_false, not_false_eq_true, eq_self, bI_0, bI_1, em_b, hI_ne, hI_at, hA_ne, hA_at, Sh_si, Sh_sA]
      · have M1 : MM (rfC h (-nZ 6) 4) W := ⟨K.sh, K.mk.of (fun j => rfl), K.wi⟩
        have H1 : Sh (rfC h (-nZ 6) 4) := K.sh
        simp (disch := first | assumption | omega | (simp only [Sh_si, Sh_sA]; assumption)) only [E247, eq_true ha, t10, eid, p56_0, g56_0, p56_1, g56_1, g56_2, g56_3, g56_4, g56_5, p56_6, g56_6, g56_7, g56_8, g56_9, p56_10, g56_10, p56_11, g56_11, g56_12, g56_13, g56_14, p56_15, g56_15, p56_16, g56_16, p56_17, g56_17, p56_18, g56_18, p56_19, g56_19, p56_20, g56_20, B56_21, g56_21, g56_22, g56_23, g56_24, g56_25, g56_26, g56_27, p56_28, g56_28, p56_29, g56_29, p56_30, g56_30, p56_31, g56_31, g56_32, g56_33, g56_34, p56_35, g56_35, p56_36, g56_36, p56_37, g56_37, p56_38, g56_38, g56_39, g56_40, g56_41, p56_42, g56_42, p56_43, g56_43, p56_44, g56_44, ck56, A57, S57, l57, A58, S58, l58, A59, S59, l59, A60, S60, l60, A61, S61, l61, A62, S62, l62, A63, S63, l63, A64, S64, l64, A65, S65, l65, A66, S66, l66, A67, S67, l67, A68, S68, l68, A69, S69, l69, A70, S70, l70, A71, S71, l71, A72, S72, l72, A73, S73, l73, A74, S74, l74, A75, S75, l75, A76, S76, l76, A77, S77, l77, A78, S78, l78, n232 M1, n169 M1, n203 M1, n200 M1, n227 M1, n168 M1, n212 M1, n250 M1, n223 M1, n201 M1, n245 M1, m190, m218, m218', m196, m244_1, m244_2, m244_3, m244_5, m244_6, m217, m191, L0, L1, L2, L3, L4, L5, L6, L7, L8, L9, L10, L11, L12, L13, L14, L15, L16, L17, L18, L19, L20, L21, L22, L23, L24, L25, L26, L27, L28, L29, L30, L31, L32, L33, L34, L35, L36, L37, L38, L39, L40, L41, L42, L43, L44, L45, L46, L47, L48, L49, L50, L52, L57, L60, L90, L91, L93, L97, L99, L100, L101, L122, L240, L255, L256, L400, L401, L408, L409, L410, L411, L412, L413, L414, L420, L1000, L1001, L1103, L1200, L1240, L2820, L5220, L7936, L10440, L12345, L1000000, L1000003, L1073741823, nd_lt_t, nd_lt_f, nd_le_t, nd_le_f, nd_eq_f, nZ_add, nZ_mul, nZ_sub, nZ_lt, nZ_le, nZ_eq, nZ_nat, nZ_div, nZ_rem, nZ_and, nZ_or, and31, nZ_shl, nZ_shr, nZ_m1, nZ_nneg, nZ_nneg', nZ_nlt, nZ_ltn, inR_lt, Nat.not_lt_zero, ob_some, jI, jL, jR, jV, rI0, rI1, rIv, if_true, if_false, ↓reduceIte, Nat.reduceAdd, Nat.reduceMul, Nat.reduceSub, Nat.reduceLT, Nat.reduceEqDiff, Nat.reduceLeDiff, Nat.zero_add, Nat.add_zero, Nat.zero_mul, Nat.mul_zero, Nat.one_mul, Nat.mul_one, and_true, true_and, false_and, and_false, or_true, true_or, or_false, false_or, not_true_eq_false, not_false_eq_true, eq_self, bI_0, bI_1, em_b, hI_ne, hI_at, hA_ne, hA_at, Sh_si, Sh_sA]
    · obtain ⟨g1, q1, F1, r1⟩ := c56_loop K (d + 15) a (by omega) (T 400) 0 0 h (by omega) (by omega) (by omega) Fr.refl (fun x hx => K.kn hx)
      generalize hm : cnt (tkn T (W 408)) 0 (T 400) = m at *
      have ml : m ≤ T 400 := by
        rw [← hm]
        exact cnt_le _ _ _
      rw [Nat.zero_add] at q1
      have H1 := F1.Sh H
      have e27 : hI g1 27 0 = nZ (T 400) := (F1.2 27 0 rfl).trans t2
      have q56 : qcl (d + 19) 56 [qR (some 10), qI (nZ a)] h = some (some (qI (nZ m)), g1) := by
        simp (disch := first | assumption | omega | (simp only [Sh_si, Sh_sA]; assumption)) only [E56, q1, A0, l0, A1, l1, A2, l2, A3, l3, A4, l4, A7, l7, A8, l8, g10_0, g10_1, g10_2, g10_3, g10_4, g10_5, g10_6, g10_7, g10_8, g10_9, p10_10, g10_10, p10_11, g10_11, p10_12, g10_12, p10_13, g10_13, ck10, g11_0, g11_1, g11_2, g11_3, p11_4, g11_4, p11_5, g11_5, ck11, p12_0, g12_0, p12_1, g12_1, g12_2, g12_3, g12_4, g12_5, ck12, A13, S13, l13, A14, S14, l14, A15, S15, l15, A16, S16, l16, p17_0, g17_0, g17_1, ck17, A18, S18, l18, p19_0, g19_0, g19_1, g19_2, g19_3, g19_4, g19_5, ck19, A20, S20, l20, A21, S21, l21, A22, S22, l22, A23, S23, l23, A24, S24, l24, R25, R26, p27_0, g27_0, g27_1, ck27, A28, S28, l28, p29_0, g29_0, g29_1, p29_2, g29_2, p29_3, g29_3, p29_4, g29_4, p29_5, g29_5, p29_6, g29_6, p29_7, g29_7, p29_8, g29_8, p29_9, g29_9, g29_10, g29_11, g29_12, g29_13, g29_14, ck29, A30, S30, l30, A31, S31, l31, A32, S32, l32, A33, S33, l33, A34, S34, l34, A35, S35, l35, g36_0, g36_1, g36_2, ck36, A37, S37, l37, A38, S38, l38, A39, S39, l39, g40_0, g40_1, g40_2, g40_3, p40_4, g40_4, ck40, A41, S41, l41, A42, S42, l42, A43, S43, l43, A44, S44, l44, p45_0, g45_0, g45_1, p45_2, g45_2, p45_3, g45_3, p45_4, g45_4, p45_5, g45_5, p45_6, g45_6, p45_7, g45_7, g45_8, g45_9, g45_10, g45_11, g45_12, ck45, A46, S46, l46, A47, S47, l47, A48, S48, l48, A49, S49, l49, A50, S50, l50, A51, S51, l51, B52_0, g52_0, p52_1, g52_1, p52_2, g52_2, g52_3, p52_4, g52_4, ck52, A53, S53, l53, A54, S54, l54, A55, S55, l55, L0, L1, L2, L3, L4, L5, L6, L7, L8, L9, L10, L11, L12, L13, L14, L15, L16, L17, L18, L19, L20, L21, L22, L23, L24, L25, L26, L27, L28, L29, L30, L31, L32, L33, L34, L35, L36, L37, L38, L39, L40, L41, L42, L43, L44, L45, L46, L47, L48, L49, L50, L52, L57, L60, L90, L91, L93, L97, L99, L100, L101, L122, L240, L255, L256, L400, L401, L408, L409, L410, L411, L412, L413, L414, L420, L1000, L1001, L1103, L1200, L1240, L2820, L5220, L7936, L10440, L12345, L1000000, L1000003, L1073741823, nd_lt_t, nd_lt_f, nd_le_t, nd_le_f, nd_eq_f, nZ_add, nZ_mul, nZ_sub, nZ_lt, nZ_le, nZ_eq, nZ_nat, nZ_div, nZ_rem, nZ_and, nZ_or, and31, nZ_shl, nZ_shr, nZ_m1, nZ_nneg, nZ_nneg', nZ_nlt, nZ_ltn, inR_lt, Nat.not_lt_zero, ob_some, jI, jL, jR, jV, rI0, rI1, rIv, if_true, if_false, ↓reduceIte, Nat.reduceAdd, Nat.reduceMul, Nat.reduceSub, Nat.reduceLT, Nat.reduceEqDiff, Nat.reduceLeDiff, Nat.zero_add, Nat.add_zero, Nat.zero_mul, Nat.mul_zero, Nat.one_mul, Nat.mul_one, and_true, true_and, false_and, and_false, or_true, true_or, or_false, false_or, not_true_eq_false, not_false_eq_true, eq_self, bI_0, bI_1, em_b, hI_ne, hI_at, hA_ne, hA_at, Sh_si, Sh_sA]
      have hc : qcl (d + 20) 45 [qR (some 10), qI (nZ a)] h = some (some (qI (nZ m)), okC' (hsI (hsI g1 10 12 (nZ (T 400 - m))) 27 0 (nZ 0))) := by
        simp (disch := first | assumption | omega | (simp only [Sh_si, Sh_sA]; assumption)) only [E45, eq_true ha, t2, q56, e27, A0, l0, A1, l1, A2, l2, A3, l3, A4, l4, A7, l7, A8, l8, g10_0, g10_1, g10_2, g10_3, g10_4, g10_5, g10_6, g10_7, g10_8, g10_9, p10_10, g10_10, p10_11, g10_11, p10_12, g10_12, p10_13, g10_13, ck10, g11_0, g11_1, g11_2, g11_3, p11_4, g11_4, p11_5, g11_5, ck11, p12_0, g12_0, p12_1, g12_1, g12_2, g12_3, g12_4, g12_5, ck12, A13, S13, l13, A14, S14, l14, A15, S15, l15, A16, S16, l16, p17_0, g17_0, g17_1, ck17, A18, S18, l18, p19_0, g19_0, g19_1, g19_2, g19_3, g19_4, g19_5, ck19, A20, S20, l20, A21, S21, l21, A22, S22, l22, A23, S23, l23, A24, S24, l24, R25, R26, p27_0, g27_0, g27_1, ck27, A28, S28, l28, p29_0, g29_0, g29_1, p29_2, g29_2, p29_3, g29_3, p29_4, g29_4, p29_5, g29_5, p29_6, g29_6, p29_7, g29_7, p29_8, g29_8, p29_9, g29_9, g29_10, g29_11, g29_12, g29_13, g29_14, ck29, A30, S30, l30, A31, S31, l31, A32, S32, l32, A33, S33, l33, A34, S34, l34, A35, S35, l35, g36_0, g36_1, g36_2, ck36, A37, S37, l37, A38, S38, l38, A39, S39, l39, g40_0, g40_1, g40_2, g40_3, p40_4, g40_4, ck40, A41, S41, l41, A42, S42, l42, A43, S43, l43, A44, S44, l44, p45_0, g45_0, g45_1, p45_2, g45_2, p45_3, g45_3, p45_4, g45_4, p45_5, g45_5, p45_6, g45_6, p45_7, g45_7, g45_8, g45_9, g45_10, g45_11, g45_12, ck45, A46, S46, l46, A47, S47, l47, A48, S48, l48, A49, S49, l49, A50, S50, l50, A51, S51, l51, B52_0, g52_0, p52_1, g52_1, p52_2, g52_2, g52_3, p52_4, g52_4, ck52, A53, S53, l53, A54, S54, l54, A55, S55, l55, k79 K, k80 K, k72 K, k128 K, k161 K, k88 K, k71 K, k82 K, k76 K, k67 K, k85 K, c10, c18, c21, c43_1, c43_2, c43_3, c43_5, c43_6, L0, L1, L2, L3, L4, L5, L6, L7, L8, L9, L10, L11, L12, L13, L14, L15, L16, L17, L18, L19, L20, L21, L22, L23, L24, L25, L26, L27, L28, L29, L30, L31, L32, L33, L34, L35, L36, L37, L38, L39, L40, L41, L42, L43, L44, L45, L46, L47, L48, L49, L50, L52, L57, L60, L90, L91, L93, L97, L99, L100, L101, L122, L240, L255, L256, L400, L401, L408, L409, L410, L411, L412, L413, L414, L420, L1000, L1001, L1103, L1200, L1240, L2820, L5220, L7936, L10440, L12345, L1000000, L1000003, L1073741823, nd_lt_t, nd_lt_f, nd_le_t, nd_le_f, nd_eq_f, nZ_add, nZ_mul, nZ_sub, nZ_lt, nZ_le, nZ_eq, nZ_nat, nZ_div, nZ_rem, nZ_and, nZ_or, and31, nZ_shl, nZ_shr, nZ_m1, nZ_nneg, nZ_nneg', nZ_nlt, nZ_ltn, inR_lt, Nat.not_lt_zero, ob_some, jI, jL, jR, jV, rI0, rI1, rIv, if_true, if_false, ↓reduceIte, Nat.reduceAdd, Nat.reduceMul, Nat.reduceSub, Nat.reduceLT, Nat.reduceEqDiff, Nat.reduceLeDiff, Nat.zero_add, Nat.add_zero, Nat.zero_mul, Nat.mul_zero, Nat.one_mul, Nat.mul_one, and_true, true_and, false_and, and_false, or_true, true_or, or_false, false_or, not_true_eq_false, not_false_eq_true, eq_self, bI_0, bI_1, em_b, hI_ne, hI_at, hA_ne, hA_at, Sh_si, Sh_sA]
      have Fc : Fr sC h (okC' (hsI (hsI g1 10 12 (nZ (T 400 - m))) 27 0 (nZ 0))) := Fr.si rfl (Fr.si rfl (Fr.si rfl (Fr.si rfl (F1.mono f16_sC))))
      have nc : ∀ b j, b ≠ 16 → b ≠ 10 → b ≠ 27 → hI (okC' (hsI (hsI g1 10 12 (nZ (T 400 - m))) 27 0 (nZ 0))) b j = hI h b j := by
        intro b j h1 h2 h3
        simp (disch := omega) only [okC', hI_ne]
        exact F1.2 b j (by simpa [f16] using h1)
      have n16 : ∀ x, x < 40 → hI (okC' (hsI (hsI g1 10 12 (nZ (T 400 - m))) 27 0 (nZ 0))) 16 x = nZ (rowW W T (W 408) a (T 400) (60 + x)) := by
        intro x hx
        simp (disch := omega) only [okC', hI_ne]
        rw [r1 x hx, Nat.zero_add]
      have n10 : hI (okC' (hsI (hsI g1 10 12 (nZ (T 400 - m))) 27 0 (nZ 0))) 10 10 = nZ (c + 1) := by
        simp (disch := omega) only [okC', hI_ne, hI_at]
        rw [F1.2 10 10 rfl, K.ch, nZ_add]
      have n11 : hI (okC' (hsI (hsI g1 10 12 (nZ (T 400 - m))) 27 0 (nZ 0))) 10 11 = nZ 0 := by
        simp (disch := omega) only [okC', hI_ne, hI_at]
      have n12 : hI (okC' (hsI (hsI g1 10 12 (nZ (T 400 - m))) 27 0 (nZ 0))) 10 12 = nZ (T 400 - m) := by
        simp (disch := omega) only [okC', hI_ne, hI_at]
      have n13 : hI (okC' (hsI (hsI g1 10 12 (nZ (T 400 - m))) 27 0 (nZ 0))) 10 13 = hI h 10 13 := by
        simp (disch := omega) only [okC', hI_ne]
        exact F1.2 10 13 rfl
      have n27 : hI (okC' (hsI (hsI g1 10 12 (nZ (T 400 - m))) 27 0 (nZ 0))) 27 0 = nZ 0 := by
        simp (disch := omega) only [okC', hI_ne, hI_at]
      generalize okC' (hsI (hsI g1 10 12 (nZ (T 400 - m))) 27 0 (nZ 0)) = g at *
      have Hg := Fc.Sh H
      have M1 : MM g W := ⟨Hg, K.mk.of (fun j => nc 58 j (by decide) (by decide) (by decide)), K.wi⟩
      have M2 : MM (hsI (hsI g 56 10 (nZ 0)) 56 6 (nZ 0)) W := ⟨Hg, MK.si (by decide) (MK.si (by decide) M1.2.1), K.wi⟩
      obtain ⟨k1, q2, F2, mk2, es2⟩ := m247_loop (T := T) M2 (d + 16) a (T 400) t1 ha2 (fun i hi => ⟨(t4 i hi).1, by
        rw [hI_ne (by omega), hI_ne (by omega), nc 62 i (by decide) (by decide) (by decide)]
        exact (t4 i hi).2.2⟩) (T 400) 0 0 0 _ (by omega) (by omega) (by omega) (by omega) Fr.refl M2.2.1 (hI_at rfl)
      rw [hm, Nat.zero_add] at q2
      rw [Nat.zero_add] at mk2
      rw [hm, Nat.zero_add] at es2
      have t3' : hI g 56 10 = nZ (T 400) := (nc 56 10 (by decide) (by decide) (by decide)).trans t3
      have hq : qcl (d + 20) 247 [qR (some 56), qI (nZ a)] g = some (some (qI (nZ m)), okM' k1) := by
        have Hx : Sh g := Hg
        simp (disch := first | assumption | omega | (simp only [Sh_si, Sh_sA]; assumption)) only [E247, eq_true ha, t3', q2, p56_0, g56_0, p56_1, g56_1, g56_2, g56_3, g56_4, g56_5, p56_6, g56_6, g56_7, g56_8, g56_9, p56_10, g56_10, p56_11, g56_11, g56_12, g56_13, g56_14, p56_15, g56_15, p56_16, g56_16, p56_17, g56_17, p56_18, g56_18, p56_19, g56_19, p56_20, g56_20, B56_21, g56_21, g56_22, g56_23, g56_24, g56_25, g56_26, g56_27, p56_28, g56_28, p56_29, g56_29, p56_30, g56_30, p56_31, g56_31, g56_32, g56_33, g56_34, p56_35, g56_35, p56_36, g56_36, p56_37, g56_37, p56_38, g56_38, g56_39, g56_40, g56_41, p56_42, g56_42, p56_43, g56_43, p56_44, g56_44, ck56, A57, S57, l57, A58, S58, l58, A59, S59, l59, A60, S60, l60, A61, S61, l61, A62, S62, l62, A63, S63, l63, A64, S64, l64, A65, S65, l65, A66, S66, l66, A67, S67, l67, A68, S68, l68, A69, S69, l69, A70, S70, l70, A71, S71, l71, A72, S72, l72, A73, S73, l73, A74, S74, l74, A75, S75, l75, A76, S76, l76, A77, S77, l77, A78, S78, l78, n232 M1, n169 M1, n203 M1, n200 M1, n227 M1, n168 M1, n212 M1, n250 M1, n223 M1, n201 M1, n245 M1, m190, m218, m218', m196, m244_1, m244_2, m244_3, m244_5, m244_6, m217, m191, L0, L1, L2, L3, L4, L5, L6, L7, L8, L9, L10, L11, L12, L13, L14, L15, L16, L17, L18, L19, L20, L21, L22, L23, L24, L25, L26, L27, L28, L29, L30, L31, L32, L33, L34, L35, L36, L37, L38, L39, L40, L41, L42, L43, L44, L45, L46, L47, L48, L49, L50, L52, L57, L60, L90, L91, L93, L97, L99, L100, L101, L122, L240, L255, L256, L400, L401, L408, L409, L410, L411, L412, L413, L414, L420, L1000, L1001, L1103, L1200, L1240, L2820, L5220, L7936, L10440, L12345, L1000000, L1000003, L1073741823, nd_lt_t, nd_lt_f, nd_le_t, nd_le_f, nd_eq_f, nZ_add, nZ_mul, nZ_sub, nZ_lt, nZ_le, nZ_eq, nZ_nat, nZ_div, nZ_rem, nZ_and, nZ_or, and31, nZ_shl, nZ_shr, nZ_m1, nZ_nneg, nZ_nneg', nZ_nlt, nZ_ltn, inR_lt, Nat.not_lt_zero, ob_some, jI, jL, jR, jV, rI0, rI1, rIv, if_true, if_false, ↓reduceIte, Nat.reduceAdd, Nat.reduceMul, Nat.reduceSub, Nat.reduceLT, Nat.reduceEqDiff, Nat.reduceLeDiff, Nat.zero_add, Nat.add_zero, Nat.zero_mul, Nat.mul_zero, Nat.one_mul, Nat.mul_one, and_true, true_and, false_and, and_false, or_true, true_or, or_false, false_or, not_true_eq_false, not_false_eq_true, eq_self, bI_0, bI_1, em_b, hI_ne, hI_at, hA_ne, hA_at, Sh_si, Sh_sA]
      have Fm : Fr sC g (okM' k1) := Fr.si rfl (Fr.si rfl ((Fr.si rfl (Fr.si rfl Fr.refl)).trans (F2.mono fM_sC)))
      have nd : ∀ b j, b ≠ 58 → b ≠ 56 → hI (okM' k1) b j = hI g b j := by
        intro b j h1 h2
        simp (disch := omega) only [okM', hI_ne]
        rw [F2.2 b j (by simp [fM, h1, h2]), hI_ne (by omega), hI_ne (by omega)]
      have nv : hI (okM' k1) 56 1 = nZ (c + 1) := by
        simp (disch := omega) only [okM', hI_ne, hI_at]
        rw [F2.2 56 1 rfl, hI_ne (by decide), hI_ne (by decide), nc 56 1 (by decide) (by decide) (by decide), K.vs, nZ_add]
      have n0 : hI (okM' k1) 56 0 = nZ 0 := by
        simp (disch := omega) only [okM', hI_ne, hI_at]
      have n6 : hI (okM' k1) 56 6 = nZ (T 400 - m) := by
        simp (disch := omega) only [okM', hI_ne]
        exact es2
      have n11' : hI (okM' k1) 56 11 = hI h 56 11 := by
        simp (disch := omega) only [okM', hI_ne]
        rw [F2.2 56 11 rfl, hI_ne (by decide), hI_ne (by decide), nc 56 11 (by decide) (by decide) (by decide)]
      have n10' : hI (okM' k1) 56 10 = nZ 0 := by
        simp (disch := omega) only [okM', hI_ne]
        rw [F2.2 56 10 rfl, hI_ne (by decide), hI_at rfl]
      have mk3 : MK (okM' k1) (rowW W T (W 408) a (T 400)) := MK.okM mk2
      generalize okM' k1 = k at *
      have ne : ∀ b j, b ≠ 16 → b ≠ 10 → b ≠ 27 → b ≠ 58 → b ≠ 56 → hI k b j = hI h b j := by
        intro b j h1 h2 h3 h4 h5
        rw [nd b j h4 h5, nc b j h1 h2 h3]
      refine ⟨nZ m, g, k, hc, hq, Sim_mk (W' := rowW W T (W 408) a (T 400)) (T' := up T 400 0) K (Fc.trans Fm) (rowW_WI K.wi rfl ha2 _) mk3 ?_ ((K.ca.w (fun j hj => rowW_lo n8 (by omega) (by omega))).of (fun i j h1 h2 => ne _ j (by omega) (by omega) (by omega) (by omega) (by omega))) ((K.cs.w (fun j hj => rowW_lo n8 (by omega) (by omega))).of (fun i j h1 h2 => ne _ j (by omega) (by omega) (by omega) (by omega) (by omega))) ((K.cf.w (rowW_lo n8 (by omega) (by omega)) (rowW_lo n8 (by omega) (by omega))).of (fun j => ne _ j (by decide) (by decide) (by decide) (by decide) (by decide))) ?_ nv ?_ ?_ (fun j hj => rowW_lo n8 (by omega) (by omega)) (rowW_lo n8 (by omega) (by omega))⟩
      · have C := K.cp
        refine ⟨?_, ?_, ?_, ?_, ?_, ?_⟩
        · rw [rowW_lo n8 (by omega) (by omega), ne _ _ (by decide) (by decide) (by decide) (by decide) (by decide)]
          exact C.1
        · rw [rowW_lo n8 (by omega) (by omega), ne _ _ (by decide) (by decide) (by decide) (by decide) (by decide)]
          exact C.2.1
        · intro p f hp hf
          rw [rowW_lo n8 (by omega) (by omega), ne _ _ (by decide) (by decide) (by decide) (by decide) (by decide)]
          exact C.2.2.1 p f hp hf
        · intro p hp
          rw [rowW_lo n8 (by omega) (by omega), ne _ _ (by decide) (by decide) (by decide) (by decide) (by decide)]
          exact C.2.2.2.1 p hp
        · intro p hp
          rw [rowW_lo n8 (by omega) (by omega), ne _ _ (by decide) (by decide) (by decide) (by decide) (by decide)]
          exact C.2.2.2.2.1 p hp
        · intro x hx
          rw [nd _ _ (by decide) (by decide)]
          exact n16 x hx
      · rw [nd _ _ (by decide) (by decide)]
        exact n10
      · have M := K.km
        refine ⟨⟨?_, ?_, ?_⟩, ?_⟩
        · rw [nd _ _ (by decide) (by decide), n11, n0]
        · rw [nd _ _ (by decide) (by decide), n12, n6]
        · rw [nd _ _ (by decide) (by decide), n13, n11']
          exact M.1.2.2
        · simp only [ne 54 _ (by decide) (by decide) (by decide) (by decide) (by decide), ne 57 _ (by decide) (by decide) (by decide) (by decide) (by decide)]
          exact M.2
      · refine ⟨?_, ?_, ?_, ?_⟩
        · rw [up_at rfl]
          omega
        · rw [up_at rfl, nd _ _ (by decide) (by decide), n27]
        · rw [up_at rfl]
          exact n10'
        · intro i hi
          rw [up_ne (by omega), ne 28 i (by decide) (by decide) (by decide) (by decide) (by decide), ne 62 i (by decide) (by decide) (by decide) (by decide) (by decide)]
          exact t4 i hi
  · refine ⟨-nZ 2, rfC h (-nZ 2) 1, rfM (rfC h (-nZ 2) 1) (-nZ 2) 2, ?_, ?_, Sim_ref K (-nZ 2) (by decide)⟩
    · simp (disch := first | assumption | omega | (simp only [Sh_si, Sh_sA]; assumption)) only [E45, eq_false ha, A0, l0, A1, l1, A2, l2, A3, l3, A4, l4, A7, l7, A8, l8, g10_0, g10_1, g10_2, g10_3, g10_4, g10_5, g10_6, g10_7, g10_8, g10_9, p10_10, g10_10, p10_11, g10_11, p10_12, g10_12, p10_13, g10_13, ck10, g11_0, g11_1, g11_2, g11_3, p11_4, g11_4, p11_5, g11_5, ck11, p12_0, g12_0, p12_1, g12_1, g12_2, g12_3, g12_4, g12_5, ck12, A13, S13, l13, A14, S14, l14, A15, S15, l15, A16, S16, l16, p17_0, g17_0, g17_1, ck17, A18, S18, l18, p19_0, g19_0, g19_1, g19_2, g19_3, g19_4, g19_5, ck19, A20, S20, l20, A21, S21, l21, A22, S22, l22, A23, S23, l23, A24, S24, l24, R25, R26, p27_0, g27_0, g27_1, ck27, A28, S28, l28, p29_0, g29_0, g29_1, p29_2, g29_2, p29_3, g29_3, p29_4, g29_4, p29_5, g29_5, p29_6, g29_6, p29_7, g29_7, p29_8, g29_8, p29_9, g29_9, g29_10, g29_11, g29_12, g29_13, g29_14, ck29, A30, S30, l30, A31, S31, l31, A32, S32, l32, A33, S33, l33, A34, S34, l34, A35, S35, l35, g36_0, g36_1, g36_2, ck36, A37, S37, l37, A38, S38, l38, A39, S39, l39, g40_0, g40_1, g40_2, g40_3, p40_4, g40_4, ck40, A41, S41, l41, A42, S42, l42, A43, S43, l43, A44, S44, l44, p45_0, g45_0, g45_1, p45_2, g45_2, p45_3, g45_3, p45_4, g45_4, p45_5, g45_5, p45_6, g45_6, p45_7, g45_7, g45_8, g45_9, g45_10, g45_11, g45_12, ck45, A46, S46, l46, A47, S47, l47, A48, S48, l48, A49, S49, l49, A50, S50, l50, A51, S51, l51, B52_0, g52_0, p52_1, g52_1, p52_2, g52_2, g52_3, p52_4, g52_4, ck52, A53, S53, l53, A54, S54, l54, A55, S55, l55, k79 K, k80 K, k72 K, k128 K, k161 K, k88 K, k71 K, k82 K, k76 K, k67 K, k85 K, c10, c18, c21, c43_1, c43_2, c43_3, c43_5, c43_6, L0, L1, L2, L3, L4, L5, L6, L7, L8, L9, L10, L11, L12, L13, L14, L15, L16, L17, L18, L19, L20, L21, L22, L23, L24, L25, L26, L27, L28, L29, L30, L31, L32, L33, L34, L35, L36, L37, L38, L39, L40, L41, L42, L43, L44, L45, L46, L47, L48, L49, L50, L52, L57, L60, L90, L91, L93, L97, L99, L100, L101, L122, L240, L255, L256, L400, L401, L408, L409, L410, L411, L412, L413, L414, L420, L1000, L1001, L1103, L1200, L1240, L2820, L5220, L7936, L10440, L12345, L1000000, L1000003, L1073741823, nd_lt_t, nd_lt_f, nd_le_t, nd_le_f, nd_eq_f, nZ_add, nZ_mul, nZ_sub, nZ_lt, nZ_le, nZ_eq, nZ_nat, nZ_div, nZ_rem, nZ_and, nZ_or, and31, nZ_shl, nZ_shr, nZ_m1, nZ_nneg, nZ_nneg', nZ_nlt, nZ_ltn, inR_lt, Nat.not_lt_zero, ob_some, jI, jL, jR, jV, rI0, rI1, rIv, if_true, if_false, ↓reduceIte, Nat.reduceAdd, Nat.reduceMul, Nat.reduceSub, Nat.reduceLT, Nat.reduceEqDiff, Nat.reduceLeDiff, Nat.zero_add, Nat.add_zero, Nat.zero_mul, Nat.mul_zero, Nat.one_mul, Nat.mul_one, and_true, true_and, false_and, and_false, or_true, true_or, or_false, false_or, not_true_eq_false, not_false_eq_true, eq_self, bI_0, bI_1, em_b, hI_ne, hI_at, hA_ne, hA_at, Sh_si, Sh_sA]
    · have M1 : MM (rfC h (-nZ 2) 1) W := ⟨K.sh, K.mk.of (fun j => rfl), K.wi⟩
      have H1 : Sh (rfC h (-nZ 2) 1) := K.sh
      simp (disch := first | assumption | omega | (simp only [Sh_si, Sh_sA]; assumption)) only [E247, eq_false ha, p56_0, g56_0, p56_1, g56_1, g56_2, g56_3, g56_4, g56_5, p56_6, g56_6, g56_7, g56_8, g56_9, p56_10, g56_10, p56_11, g56_11, g56_12, g56_13, g56_14, p56_15, g56_15, p56_16, g56_16, p56_17, g56_17, p56_18, g56_18, p56_19, g56_19, p56_20, g56_20, B56_21, g56_21, g56_22, g56_23, g56_24, g56_25, g56_26, g56_27, p56_28, g56_28, p56_29, g56_29, p56_30, g56_30, p56_31, g56_31, g56_32, g56_33, g56_34, p56_35, g56_35, p56_36, g56_36, p56_37, g56_37, p56_38, g56_38, g56_39, g56_40, g56_41, p56_42, g56_42, p56_43, g56_43, p56_44, g56_44, ck56, A57, S57, l57, A58, S58, l58, A59, S59, l59, A60, S60, l60, A61, S61, l61, A62, S62, l62, A63, S63, l63, A64, S64, l64, A65, S65, l65, A66, S66, l66, A67, S67, l67, A68, S68, l68, A69, S69, l69, A70, S70, l70, A71, S71, l71, A72, S72, l72, A73, S73, l73, A74, S74, l74, A75, S75, l75, A76, S76, l76, A77, S77, l77, A78, S78, l78, n232 M1, n169 M1, n203 M1, n200 M1, n227 M1, n168 M1, n212 M1, n250 M1, n223 M1, n201 M1, n245 M1, m190, m218, m218', m196, m244_1, m244_2, m244_3, m244_5, m244_6, m217, m191, L0, L1, L2, L3, L4, L5, L6, L7, L8, L9, L10, L11, L12, L13, L14, L15, L16, L17, L18, L19, L20, L21, L22, L23, L24, L25, L26, L27, L28, L29, L30, L31, L32, L33, L34, L35, L36, L37, L38, L39, L40, L41, L42, L43, L44, L45, L46, L47, L48, L49, L50, L52, L57, L60, L90, L91, L93, L97, L99, L100, L101, L122, L240, L255, L256, L400, L401, L408, L409, L410, L411, L412, L413, L414, L420, L1000, L1001, L1103, L1200, L1240, L2820, L5220, L7936, L10440, L12345, L1000000, L1000003, L1073741823, nd_lt_t, nd_lt_f, nd_le_t, nd_le_f, nd_eq_f, nZ_add, nZ_mul, nZ_sub, nZ_lt, nZ_le, nZ_eq, nZ_nat, nZ_div, nZ_rem, nZ_and, nZ_or, and31, nZ_shl, nZ_shr, nZ_m1, nZ_nneg, nZ_nneg', nZ_nlt, nZ_ltn, inR_lt, Nat.not_lt_zero, ob_some, jI, jL, jR, jV, rI0, rI1, rIv, if_true, if_false, ↓reduceIte, Nat.reduceAdd, Nat.reduceMul, Nat.reduceSub, Nat.reduceLT, Nat.reduceEqDiff, Nat.reduceLeDiff, Nat.zero_add, Nat.add_zero, Nat.zero_mul, Nat.mul_zero, Nat.one_mul, Nat.mul_one, and_true, true_and, false_and, and_false, or_true, true_or, or_false, false_or, not_true_eq_false, not_false_eq_true, eq_self, bI_0, bI_1, em_b, hI_ne, hI_at, hA_ne, hA_at, Sh_si, Sh_sA]

/-! the class's week -/
theorem L56 : (56 : Int32) = nZ 56 := rfl
def wkN (f : Nat → Nat) : Nat → Nat
  | 0 => 0
  | k + 1 => wkN f k + if 0 < f k then 1 else 0
theorem wkN_le (f : Nat → Nat) : ∀ k, wkN f k ≤ k
  | 0 => Nat.le_refl 0
  | k + 1 => by
    have := wkN_le f k
    unfold wkN
    split <;> omega
/-- behind k days -/
def wD (h : QH) (n k : Nat) (V : Nat → Nat × (Nat → Nat) × Nat) : Prop := hI h 52 1 = nZ n ∧ hI h 52 4 = nZ (V k).1 ∧ hI h 52 2 = nZ (V k).2.2 ∧ ∀ i, i ≤ k → ∀ q, q < n → hI h 53 (i * 8 + q) = nZ ((V i).2.1 q)
theorem wkW_I {W : Nat → Nat} {o : Option (List CL)} {a n seed : Nat} (hn : n ≤ 8) (hs : seed < 1000003) (hk : ∀ q, q < n → W (60 + 5 * q + a) ≤ 9) : ∀ k, k ≤ 7 → (wkW W o a n seed k).1 < 1000003 ∧ (∀ q, q < n → (wkW W o a n seed k).2.1 q ≤ 9) ∧ (wkW W o a n seed k).2.2 ≤ 8 * k
  | 0, _ => ⟨hs, hk, Nat.le_refl 0⟩
  | k + 1, h7 => by
    obtain ⟨i1, i2, i3⟩ := wkW_I (W := W) (o := o) (a := a) hn hs hk k (by omega)
    have i : WkI (wkW W o a n seed k).2.1 n (8 * k) ((wkW W o a n seed k).1, (wkW W o a n seed k).2.1, 0, (wkW W o a n seed k).2.2) := ⟨i1, i2, (by decide : (0 : Nat) < 256), i3, fun _ _ _ => rfl⟩
    obtain ⟨j1, j2, j3, j4, j5⟩ := wkD_I (W := W) (o := o) (a := a) (day := k) hn i2 i n (Nat.le_refl n)
    exact ⟨j1, j2, Nat.le_trans j4 (by omega)⟩
theorem c156_30 {W : Nat → Nat} {o : Option (List CL)} {r : Option Nat} (d a n : Nat) (ha : a < 5) (hn : n ≤ 8) : ∀ m p h, p + m = n → CX h W o r → hI h 52 1 = nZ n → (∀ q, q < p → hI h 53 q = nZ (W (60 + 5 * q + a))) → ∃ k, qbig (d + 22) 156 30 [sR (some 52), sR (some 11), sR (some 36), sI (nZ a), none, sI (nZ p), none] [] h = qbig (d + 22) 156 65 [sR (some 52), sR (some 11), sR (some 36), sI (nZ a), none, sI (nZ 0), none] [] k ∧ Fr fK h k ∧ CX k W o r ∧ (∀ j, hI k 52 j = hI h 52 j) ∧ ∀ q, q < n → hI k 53 q = nZ (W (60 + 5 * q + a))
  | 0, p, h, e, X, w1, w => by
    have e' : p = n := by omega
    subst e'
    have H := X.1
    refine ⟨h, ?_, Fr.refl, X, fun j => rfl, w⟩
    rw [E156_30]
    simp (disch := first | assumption | omega | (simp only [Sh_si, Sh_sA]; assumption)) only [w1, A0, l0, A1, l1, A2, l2, A3, l3, A4, l4, A7, l7, A8, l8, g10_0, g10_1, g10_2, g10_3, g10_4, g10_5, g10_6, g10_7, g10_8, g10_9, p10_10, g10_10, p10_11, g10_11, p10_12, g10_12, p10_13, g10_13, ck10, g11_0, g11_1, g11_2, g11_3, p11_4, g11_4, p11_5, g11_5, ck11, p12_0, g12_0, p12_1, g12_1, g12_2, g12_3, g12_4, g12_5, ck12, A13, S13, l13, A14, S14, l14, A15, S15, l15, A16, S16, l16, p17_0, g17_0, g17_1, ck17, A18, S18, l18, p19_0, g19_0, g19_1, g19_2, g19_3, g19_4, g19_5, ck19, A20, S20, l20, A21, S21, l21, A22, S22, l22, A23, S23, l23, A24, S24, l24, R25, R26, p27_0, g27_0, g27_1, ck27, A28, S28, l28, p29_0, g29_0, g29_1, p29_2, g29_2, p29_3, g29_3, p29_4, g29_4, p29_5, g29_5, p29_6, g29_6, p29_7, g29_7, p29_8, g29_8, p29_9, g29_9, g29_10, g29_11, g29_12, g29_13, g29_14, ck29, A30, S30, l30, A31, S31, l31, A32, S32, l32, A33, S33, l33, A34, S34, l34, A35, S35, l35, g36_0, g36_1, g36_2, ck36, A37, S37, l37, A38, S38, l38, A39, S39, l39, g40_0, g40_1, g40_2, g40_3, p40_4, g40_4, ck40, A41, S41, l41, A42, S42, l42, A43, S43, l43, A44, S44, l44, p45_0, g45_0, g45_1, p45_2, g45_2, p45_3, g45_3, p45_4, g45_4, p45_5, g45_5, p45_6, g45_6, p45_7, g45_7, g45_8, g45_9, g45_10, g45_11, g45_12, ck45, A46, S46, l46, A47, S47, l47, A48, S48, l48, A49, S49, l49, A50, S50, l50, A51, S51, l51, B52_0, g52_0, p52_1, g52_1, p52_2, g52_2, g52_3, p52_4, g52_4, ck52, A53, S53, l53, A54, S54, l54, A55, S55, l55, L0, L1, L2, L3, L4, L5, L6, L7, L8, L9, L10, L11, L12, L13, L14, L15, L16, L17, L18, L19, L20, L21, L22, L23, L24, L25, L26, L27, L28, L29, L30, L31, L32, L33, L34, L35, L36, L37, L38, L39, L40, L41, L42, L43, L44, L45, L46, L47, L48, L49, L50, L52, L57, L60, L90, L91, L93, L97, L99, L100, L101, L122, L240, L255, L256, L400, L401, L408, L409, L410, L411, L412, L413, L414, L420, L1000, L1001, L1103, L1200, L1240, L2820, L5220, L7936, L10440, L12345, L1000000, L1000003, L1073741823, L59, L61, L62, L200, nd_lt_t, nd_lt_f, nd_le_t, nd_le_f, nd_eq_f, nZ_add, nZ_mul, nZ_sub, nZ_lt, nZ_le, nZ_eq, nZ_nat, nZ_div, nZ_rem, nZ_and, nZ_or, and31, nZ_shl, nZ_shr, nZ_m1, nZ_nneg, nZ_nneg', nZ_nlt, nZ_ltn, inR_lt, Nat.not_lt_zero, ob_some, jI, jL, jR, jV, rI0, rI1, rIv, if_true, if_false, ↓reduceIte, Nat.reduceAdd, Nat.reduceMul, Nat.reduceSub, Nat.reduceLT, Nat.reduceEqDiff, Nat.reduceLeDiff, Nat.zero_add, Nat.add_zero, Nat.zero_mul, Nat.mul_zero, Nat.one_mul, Nat.mul_one, and_true, true_and, false_and, and_false, or_true, true_or, or_false, false_or, not_true_eq_false, not_false_eq_true, eq_self, bI_0, bI_1, em_b, hI_ne, hI_at, hA_ne, hA_at, Sh_si, Sh_sA]
  | m + 1, p, h, e, X, w1, w => by
    have H := X.1
    have F1 : Fr fK h (hsI h 53 p (nZ (W (60 + 5 * p + a)))) := Fr.si rfl Fr.refl
    have X1 := X.fr F1 nW_fK
    obtain ⟨k, ek, Fk, Xk, Yk, Wk⟩ := c156_30 d a n ha hn m (p + 1) _ (by omega) X1 (by rw [hI_ne (by omega)]; exact w1) (by
      intro q hq
      by_cases c : q = p
      · rw [c, hI_at rfl]
      · rw [hI_ne (by omega)]
        exact w q (by omega))
    refine ⟨k, ?_, F1.trans Fk, Xk, fun j => (Yk j).trans (by rw [hI_ne (by omega)]), Wk⟩
    rw [← ek]
    have e82 := X.k82 (d + 19) (p := p) (a := a) (by omega) ha
    rw [E156_30]
    simp (disch := first | assumption | omega | (simp only [Sh_si, Sh_sA]; assumption)) only [w1, e82, A0, l0, A1, l1, A2, l2, A3, l3, A4, l4, A7, l7, A8, l8, g10_0, g10_1, g10_2, g10_3, g10_4, g10_5, g10_6, g10_7, g10_8, g10_9, p10_10, g10_10, p10_11, g10_11, p10_12, g10_12, p10_13, g10_13, ck10, g11_0, g11_1, g11_2, g11_3, p11_4, g11_4, p11_5, g11_5, ck11, p12_0, g12_0, p12_1, g12_1, g12_2, g12_3, g12_4, g12_5, ck12, A13, S13, l13, A14, S14, l14, A15, S15, l15, A16, S16, l16, p17_0, g17_0, g17_1, ck17, A18, S18, l18, p19_0, g19_0, g19_1, g19_2, g19_3, g19_4, g19_5, ck19, A20, S20, l20, A21, S21, l21, A22, S22, l22, A23, S23, l23, A24, S24, l24, R25, R26, p27_0, g27_0, g27_1, ck27, A28, S28, l28, p29_0, g29_0, g29_1, p29_2, g29_2, p29_3, g29_3, p29_4, g29_4, p29_5, g29_5, p29_6, g29_6, p29_7, g29_7, p29_8, g29_8, p29_9, g29_9, g29_10, g29_11, g29_12, g29_13, g29_14, ck29, A30, S30, l30, A31, S31, l31, A32, S32, l32, A33, S33, l33, A34, S34, l34, A35, S35, l35, g36_0, g36_1, g36_2, ck36, A37, S37, l37, A38, S38, l38, A39, S39, l39, g40_0, g40_1, g40_2, g40_3, p40_4, g40_4, ck40, A41, S41, l41, A42, S42, l42, A43, S43, l43, A44, S44, l44, p45_0, g45_0, g45_1, p45_2, g45_2, p45_3, g45_3, p45_4, g45_4, p45_5, g45_5, p45_6, g45_6, p45_7, g45_7, g45_8, g45_9, g45_10, g45_11, g45_12, ck45, A46, S46, l46, A47, S47, l47, A48, S48, l48, A49, S49, l49, A50, S50, l50, A51, S51, l51, B52_0, g52_0, p52_1, g52_1, p52_2, g52_2, g52_3, p52_4, g52_4, ck52, A53, S53, l53, A54, S54, l54, A55, S55, l55, L0, L1, L2, L3, L4, L5, L6, L7, L8, L9, L10, L11, L12, L13, L14, L15, L16, L17, L18, L19, L20, L21, L22, L23, L24, L25, L26, L27, L28, L29, L30, L31, L32, L33, L34, L35, L36, L37, L38, L39, L40, L41, L42, L43, L44, L45, L46, L47, L48, L49, L50, L52, L57, L60, L90, L91, L93, L97, L99, L100, L101, L122, L240, L255, L256, L400, L401, L408, L409, L410, L411, L412, L413, L414, L420, L1000, L1001, L1103, L1200, L1240, L2820, L5220, L7936, L10440, L12345, L1000000, L1000003, L1073741823, L59, L61, L62, L200, nd_lt_t, nd_lt_f, nd_le_t, nd_le_f, nd_eq_f, nZ_add, nZ_mul, nZ_sub, nZ_lt, nZ_le, nZ_eq, nZ_nat, nZ_div, nZ_rem, nZ_and, nZ_or, and31, nZ_shl, nZ_shr, nZ_m1, nZ_nneg, nZ_nneg', nZ_nlt, nZ_ltn, inR_lt, Nat.not_lt_zero, ob_some, jI, jL, jR, jV, rI0, rI1, rIv, if_true, if_false, ↓reduceIte, Nat.reduceAdd, Nat.reduceMul, Nat.reduceSub, Nat.reduceLT, Nat.reduceEqDiff, Nat.reduceLeDiff, Nat.zero_add, Nat.add_zero, Nat.zero_mul, Nat.mul_zero, Nat.one_mul, Nat.mul_one, and_true, true_and, false_and, and_false, or_true, true_or, or_false, false_or, not_true_eq_false, not_false_eq_true, eq_self, bI_0, bI_1, em_b, hI_ne, hI_at, hA_ne, hA_at, Sh_si, Sh_sA]
theorem c156_65 {W : Nat → Nat} {o : Option (List CL)} {r : Option Nat} (d a n seed : Nat) (ha : a < 5) (hn : n ≤ 8) (hs : seed < 1000003) (hk : ∀ q, q < n → W (60 + 5 * q + a) ≤ 9) : ∀ m day h, day + m = 7 → CX h W o r → wD h n day (wkW W o a n seed) → ∃ k, qbig (d + 22) 156 65 [sR (some 52), sR (some 11), sR (some 36), sI (nZ a), none, sI (nZ day), none] [] h = qbig (d + 22) 156 118 [sR (some 52), none, none, none, none, sI (nZ 0), sI (nZ 0)] [] k ∧ Fr fK h k ∧ CX k W o r ∧ wD k n 7 (wkW W o a n seed)
  | 0, day, h, e, X, w => by
    have e' : day = 7 := by omega
    subst e'
    have H := X.1
    refine ⟨h, ?_, Fr.refl, X, w⟩
    rw [E156_65]
    simp (disch := first | assumption | omega | (simp only [Sh_si, Sh_sA]; assumption)) only [A0, l0, A1, l1, A2, l2, A3, l3, A4, l4, A7, l7, A8, l8, g10_0, g10_1, g10_2, g10_3, g10_4, g10_5, g10_6, g10_7, g10_8, g10_9, p10_10, g10_10, p10_11, g10_11, p10_12, g10_12, p10_13, g10_13, ck10, g11_0, g11_1, g11_2, g11_3, p11_4, g11_4, p11_5, g11_5, ck11, p12_0, g12_0, p12_1, g12_1, g12_2, g12_3, g12_4, g12_5, ck12, A13, S13, l13, A14, S14, l14, A15, S15, l15, A16, S16, l16, p17_0, g17_0, g17_1, ck17, A18, S18, l18, p19_0, g19_0, g19_1, g19_2, g19_3, g19_4, g19_5, ck19, A20, S20, l20, A21, S21, l21, A22, S22, l22, A23, S23, l23, A24, S24, l24, R25, R26, p27_0, g27_0, g27_1, ck27, A28, S28, l28, p29_0, g29_0, g29_1, p29_2, g29_2, p29_3, g29_3, p29_4, g29_4, p29_5, g29_5, p29_6, g29_6, p29_7, g29_7, p29_8, g29_8, p29_9, g29_9, g29_10, g29_11, g29_12, g29_13, g29_14, ck29, A30, S30, l30, A31, S31, l31, A32, S32, l32, A33, S33, l33, A34, S34, l34, A35, S35, l35, g36_0, g36_1, g36_2, ck36, A37, S37, l37, A38, S38, l38, A39, S39, l39, g40_0, g40_1, g40_2, g40_3, p40_4, g40_4, ck40, A41, S41, l41, A42, S42, l42, A43, S43, l43, A44, S44, l44, p45_0, g45_0, g45_1, p45_2, g45_2, p45_3, g45_3, p45_4, g45_4, p45_5, g45_5, p45_6, g45_6, p45_7, g45_7, g45_8, g45_9, g45_10, g45_11, g45_12, ck45, A46, S46, l46, A47, S47, l47, A48, S48, l48, A49, S49, l49, A50, S50, l50, A51, S51, l51, B52_0, g52_0, p52_1, g52_1, p52_2, g52_2, g52_3, p52_4, g52_4, ck52, A53, S53, l53, A54, S54, l54, A55, S55, l55, L0, L1, L2, L3, L4, L5, L6, L7, L8, L9, L10, L11, L12, L13, L14, L15, L16, L17, L18, L19, L20, L21, L22, L23, L24, L25, L26, L27, L28, L29, L30, L31, L32, L33, L34, L35, L36, L37, L38, L39, L40, L41, L42, L43, L44, L45, L46, L47, L48, L49, L50, L52, L57, L60, L90, L91, L93, L97, L99, L100, L101, L122, L240, L255, L256, L400, L401, L408, L409, L410, L411, L412, L413, L414, L420, L1000, L1001, L1103, L1200, L1240, L2820, L5220, L7936, L10440, L12345, L1000000, L1000003, L1073741823, L59, L61, L62, L200, nd_lt_t, nd_lt_f, nd_le_t, nd_le_f, nd_eq_f, nZ_add, nZ_mul, nZ_sub, nZ_lt, nZ_le, nZ_eq, nZ_nat, nZ_div, nZ_rem, nZ_and, nZ_or, and31, nZ_shl, nZ_shr, nZ_m1, nZ_nneg, nZ_nneg', nZ_nlt, nZ_ltn, inR_lt, Nat.not_lt_zero, ob_some, jI, jL, jR, jV, rI0, rI1, rIv, if_true, if_false, ↓reduceIte, Nat.reduceAdd, Nat.reduceMul, Nat.reduceSub, Nat.reduceLT, Nat.reduceEqDiff, Nat.reduceLeDiff, Nat.zero_add, Nat.add_zero, Nat.zero_mul, Nat.mul_zero, Nat.one_mul, Nat.mul_one, and_true, true_and, false_and, and_false, or_true, true_or, or_false, false_or, not_true_eq_false, not_false_eq_true, eq_self, bI_0, bI_1, em_b, hI_ne, hI_at, hA_ne, hA_at, Sh_si, Sh_sA]
  | m + 1, day, h, e, X, w => by
    have H := X.1
    obtain ⟨i1, i2, i3⟩ := wkW_I (W := W) (o := o) (a := a) hn hs hk day (by omega)
    obtain ⟨w1, w4, w2, w5⟩ := w
    have ecp := qcp_A (h := h) (s := 53) (d := 53) (sp := day * 8) (dp := (day + 1) * 8) (n := 8) ⟨by decide, H.n (by decide)⟩ ⟨by decide, H.n (by decide)⟩ (H.t (by decide) (by decide) rfl) (H.t (by decide) (by decide) rfl) (by rw [H.l (a := 53) (by decide) (by decide) rfl]; omega) (by rw [H.l (a := 53) (by decide) (by decide) rfl]; omega) (by omega) (by omega) (by decide)
    have F1 : Fr fK h (hsA h 53 (fun j => if (day + 1) * 8 ≤ j ∧ j < (day + 1) * 8 + 8 then hI h 53 (day * 8 + (j - (day + 1) * 8)) else hI h 53 j)) := Fr.sA (fun _ => rfl) Fr.refl
    have g1 : ∀ b j, b ≠ 53 → hI (hsA h 53 (fun j => if (day + 1) * 8 ≤ j ∧ j < (day + 1) * 8 + 8 then hI h 53 (day * 8 + (j - (day + 1) * 8)) else hI h 53 j)) b j = hI h b j := fun b j hb => by rw [hI_sA, if_neg hb]
    have g2 : ∀ j, hI (hsA h 53 (fun j => if (day + 1) * 8 ≤ j ∧ j < (day + 1) * 8 + 8 then hI h 53 (day * 8 + (j - (day + 1) * 8)) else hI h 53 j)) 53 j = if (day + 1) * 8 ≤ j ∧ j < (day + 1) * 8 + 8 then hI h 53 (day * 8 + (j - (day + 1) * 8)) else hI h 53 j := fun j => by rw [hI_sA, if_pos rfl]
    generalize hsA h 53 (fun j => if (day + 1) * 8 ≤ j ∧ j < (day + 1) * 8 + 8 then hI h 53 (day * 8 + (j - (day + 1) * 8)) else hI h 53 j) = h1 at *
    have X1 := X.fr F1 nW_fK
    have iS : WkI (wkW W o a n seed day).2.1 n (8 * day) ((wkW W o a n seed day).1, (wkW W o a n seed day).2.1, 0, (wkW W o a n seed day).2.2) := ⟨i1, i2, (by decide : (0 : Nat) < 256), i3, fun _ _ _ => rfl⟩
    have wc : wC h1 n day (wkW W o a n seed day).2.1 ((wkW W o a n seed day).1, (wkW W o a n seed day).2.1, 0, (wkW W o a n seed day).2.2) := by
      refine ⟨?_, ?_, ?_, ?_, ?_⟩
      · rw [g1 _ _ (by decide)]
        exact w1
      · rw [g1 _ _ (by decide)]
        exact w4
      · rw [g1 _ _ (by decide)]
        exact w2
      · intro q hq
        rw [g2, if_neg (by omega)]
        exact w5 day (Nat.le_refl _) q hq
      · intro q hq
        rw [g2, if_pos (by omega), show day * 8 + ((day + 1) * 8 + q - (day + 1) * 8) = day * 8 + q by omega]
        exact w5 day (Nat.le_refl _) q hq
    obtain ⟨h2, e157, F2, X2, O2, W2⟩ := c157 X1 d a n day _ _ (8 * day) (by omega) ha hn (by omega) i2 iS rfl wc
    obtain ⟨v1, v4, v2, v5, v6⟩ := W2
    have wd : wD h2 n (day + 1) (wkW W o a n seed) := by
      refine ⟨v1, v4, v2, ?_⟩
      intro i hi q hq
      by_cases c : i = day + 1
      · subst c
        exact v6 q hq
      · rw [O2 _ (by omega), g2, if_neg (by omega)]
        exact w5 i (by omega) q hq
    obtain ⟨k, ek, Fk, Xk, Wk⟩ := c156_65 d a n seed ha hn hs hk m (day + 1) h2 (by omega) X2 wd
    refine ⟨k, ?_, (F1.trans F2).trans Fk, Xk, Wk⟩
    rw [← ek]
    rw [E156_65]
    simp (disch := first | assumption | omega | (simp only [Sh_si, Sh_sA]; assumption)) only [ecp, e157, A0, l0, A1, l1, A2, l2, A3, l3, A4, l4, A7, l7, A8, l8, g10_0, g10_1, g10_2, g10_3, g10_4, g10_5, g10_6, g10_7, g10_8, g10_9, p10_10, g10_10, p10_11, g10_11, p10_12, g10_12, p10_13, g10_13, ck10, g11_0, g11_1, g11_2, g11_3, p11_4, g11_4, p11_5, g11_5, ck11, p12_0, g12_0, p12_1, g12_1, g12_2, g12_3, g12_4, g12_5, ck12, A13, S13, l13, A14, S14, l14, A15, S15, l15, A16, S16, l16, p17_0, g17_0, g17_1, ck17, A18, S18, l18, p19_0, g19_0, g19_1, g19_2, g19_3, g19_4, g19_5, ck19, A20, S20, l20, A21, S21, l21, A22, S22, l22, A23, S23, l23, A24, S24, l24, R25, R26, p27_0, g27_0, g27_1, ck27, A28, S28, l28, p29_0, g29_0, g29_1, p29_2, g29_2, p29_3, g29_3, p29_4, g29_4, p29_5, g29_5, p29_6, g29_6, p29_7, g29_7, p29_8, g29_8, p29_9, g29_9, g29_10, g29_11, g29_12, g29_13, g29_14, ck29, A30, S30, l30, A31, S31, l31, A32, S32, l32, A33, S33, l33, A34, S34, l34, A35, S35, l35, g36_0, g36_1, g36_2, ck36, A37, S37, l37, A38, S38, l38, A39, S39, l39, g40_0, g40_1, g40_2, g40_3, p40_4, g40_4, ck40, A41, S41, l41, A42, S42, l42, A43, S43, l43, A44, S44, l44, p45_0, g45_0, g45_1, p45_2, g45_2, p45_3, g45_3, p45_4, g45_4, p45_5, g45_5, p45_6, g45_6, p45_7, g45_7, g45_8, g45_9, g45_10, g45_11, g45_12, ck45, A46, S46, l46, A47, S47, l47, A48, S48, l48, A49, S49, l49, A50, S50, l50, A51, S51, l51, B52_0, g52_0, p52_1, g52_1, p52_2, g52_2, g52_3, p52_4, g52_4, ck52, A53, S53, l53, A54, S54, l54, A55, S55, l55, L0, L1, L2, L3, L4, L5, L6, L7, L8, L9, L10, L11, L12, L13, L14, L15, L16, L17, L18, L19, L20, L21, L22, L23, L24, L25, L26, L27, L28, L29, L30, L31, L32, L33, L34, L35, L36, L37, L38, L39, L40, L41, L42, L43, L44, L45, L46, L47, L48, L49, L50, L52, L57, L60, L90, L91, L93, L97, L99, L100, L101, L122, L240, L255, L256, L400, L401, L408, L409, L410, L411, L412, L413, L414, L420, L1000, L1001, L1103, L1200, L1240, L2820, L5220, L7936, L10440, L12345, L1000000, L1000003, L1073741823, L59, L61, L62, L200, nd_lt_t, nd_lt_f, nd_le_t, nd_le_f, nd_eq_f, nZ_add, nZ_mul, nZ_sub, nZ_lt, nZ_le, nZ_eq, nZ_nat, nZ_div, nZ_rem, nZ_and, nZ_or, and31, nZ_shl, nZ_shr, nZ_m1, nZ_nneg, nZ_nneg', nZ_nlt, nZ_ltn, inR_lt, Nat.not_lt_zero, ob_some, jI, jL, jR, jV, rI0, rI1, rIv, if_true, if_false, ↓reduceIte, Nat.reduceAdd, Nat.reduceMul, Nat.reduceSub, Nat.reduceLT, Nat.reduceEqDiff, Nat.reduceLeDiff, Nat.zero_add, Nat.add_zero, Nat.zero_mul, Nat.mul_zero, Nat.one_mul, Nat.mul_one, and_true, true_and, false_and, and_false, or_true, true_or, or_false, false_or, not_true_eq_false, not_false_eq_true, eq_self, bI_0, bI_1, em_b, hI_ne, hI_at, hA_ne, hA_at, Sh_si, Sh_sA]
theorem c156_118 {h : QH} (H : Sh h) (d n : Nat) (f : Nat → Nat) (hn : n ≤ 8) (w1 : hI h 52 1 = nZ n) (w : ∀ q, q < n → hI h 53 (56 + q) = nZ (f q)) (hf : ∀ q, q < n → f q ≤ 9) : ∀ m p, p + m = n → qbig (d + 22) 156 118 [sR (some 52), none, none, none, none, sI (nZ (wkN f p)), sI (nZ p)] [] h = some (some (qI (nZ (wkN f n))), h)
  | 0, p, e => by
    have e' : p = n := by omega
    subst e'
    rw [E156_118]
    simp (disch := first | assumption | omega | (simp only [Sh_si, Sh_sA]; assumption)) only [w1, A0, l0, A1, l1, A2, l2, A3, l3, A4, l4, A7, l7, A8, l8, g10_0, g10_1, g10_2, g10_3, g10_4, g10_5, g10_6, g10_7, g10_8, g10_9, p10_10, g10_10, p10_11, g10_11, p10_12, g10_12, p10_13, g10_13, ck10, g11_0, g11_1, g11_2, g11_3, p11_4, g11_4, p11_5, g11_5, ck11, p12_0, g12_0, p12_1, g12_1, g12_2, g12_3, g12_4, g12_5, ck12, A13, S13, l13, A14, S14, l14, A15, S15, l15, A16, S16, l16, p17_0, g17_0, g17_1, ck17, A18, S18, l18, p19_0, g19_0, g19_1, g19_2, g19_3, g19_4, g19_5, ck19, A20, S20, l20, A21, S21, l21, A22, S22, l22, A23, S23, l23, A24, S24, l24, R25, R26, p27_0, g27_0, g27_1, ck27, A28, S28, l28, p29_0, g29_0, g29_1, p29_2, g29_2, p29_3, g29_3, p29_4, g29_4, p29_5, g29_5, p29_6, g29_6, p29_7, g29_7, p29_8, g29_8, p29_9, g29_9, g29_10, g29_11, g29_12, g29_13, g29_14, ck29, A30, S30, l30, A31, S31, l31, A32, S32, l32, A33, S33, l33, A34, S34, l34, A35, S35, l35, g36_0, g36_1, g36_2, ck36, A37, S37, l37, A38, S38, l38, A39, S39, l39, g40_0, g40_1, g40_2, g40_3, p40_4, g40_4, ck40, A41, S41, l41, A42, S42, l42, A43, S43, l43, A44, S44, l44, p45_0, g45_0, g45_1, p45_2, g45_2, p45_3, g45_3, p45_4, g45_4, p45_5, g45_5, p45_6, g45_6, p45_7, g45_7, g45_8, g45_9, g45_10, g45_11, g45_12, ck45, A46, S46, l46, A47, S47, l47, A48, S48, l48, A49, S49, l49, A50, S50, l50, A51, S51, l51, B52_0, g52_0, p52_1, g52_1, p52_2, g52_2, g52_3, p52_4, g52_4, ck52, A53, S53, l53, A54, S54, l54, A55, S55, l55, L0, L1, L2, L3, L4, L5, L6, L7, L8, L9, L10, L11, L12, L13, L14, L15, L16, L17, L18, L19, L20, L21, L22, L23, L24, L25, L26, L27, L28, L29, L30, L31, L32, L33, L34, L35, L36, L37, L38, L39, L40, L41, L42, L43, L44, L45, L46, L47, L48, L49, L50, L52, L57, L60, L90, L91, L93, L97, L99, L100, L101, L122, L240, L255, L256, L400, L401, L408, L409, L410, L411, L412, L413, L414, L420, L1000, L1001, L1103, L1200, L1240, L2820, L5220, L7936, L10440, L12345, L1000000, L1000003, L1073741823, L59, L61, L62, L200, nd_lt_t, nd_lt_f, nd_le_t, nd_le_f, nd_eq_f, nZ_add, nZ_mul, nZ_sub, nZ_lt, nZ_le, nZ_eq, nZ_nat, nZ_div, nZ_rem, nZ_and, nZ_or, and31, nZ_shl, nZ_shr, nZ_m1, nZ_nneg, nZ_nneg', nZ_nlt, nZ_ltn, inR_lt, Nat.not_lt_zero, ob_some, jI, jL, jR, jV, rI0, rI1, rIv, if_true, if_false, ↓reduceIte, Nat.reduceAdd, Nat.reduceMul, Nat.reduceSub, Nat.reduceLT, Nat.reduceEqDiff, Nat.reduceLeDiff, Nat.zero_add, Nat.add_zero, Nat.zero_mul, Nat.mul_zero, Nat.one_mul, Nat.mul_one, and_true, true_and, false_and, and_false, or_true, true_or, or_false, false_or, not_true_eq_false, not_false_eq_true, eq_self, bI_0, bI_1, em_b, hI_ne, hI_at, hA_ne, hA_at, Sh_si, Sh_sA]
  | m + 1, p, e => by
    have ih := c156_118 H d n f hn w1 w hf m (p + 1) (by omega)
    have x4 := w p (by omega)
    have b4 := hf p (by omega)
    have b5 := wkN_le f p
    by_cases c : 0 < f p
    · have ew : wkN f (p + 1) = wkN f p + 1 := by
        show wkN f p + (if 0 < f p then 1 else 0) = _
        rw [if_pos c]
      rw [ew] at ih
      rw [E156_118]
      simp (disch := first | assumption | omega | (simp only [Sh_si, Sh_sA]; assumption)) only [L56, w1, x4, ih, A0, l0, A1, l1, A2, l2, A3, l3, A4, l4, A7, l7, A8, l8, g10_0, g10_1, g10_2, g10_3, g10_4, g10_5, g10_6, g10_7, g10_8, g10_9, p10_10, g10_10, p10_11, g10_11, p10_12, g10_12, p10_13, g10_13, ck10, g11_0, g11_1, g11_2, g11_3, p11_4, g11_4, p11_5, g11_5, ck11, p12_0, g12_0, p12_1, g12_1, g12_2, g12_3, g12_4, g12_5, ck12, A13, S13, l13, A14, S14, l14, A15, S15, l15, A16, S16, l16, p17_0, g17_0, g17_1, ck17, A18, S18, l18, p19_0, g19_0, g19_1, g19_2, g19_3, g19_4, g19_5, ck19, A20, S20, l20, A21, S21, l21, A22, S22, l22, A23, S23, l23, A24, S24, l24, R25, R26, p27_0, g27_0, g27_1, ck27, A28, S28, l28, p29_0, g29_0, g29_1, p29_2, g29_2, p29_3, g29_3, p29_4, g29_4, p29_5, g29_5, p29_6, g29_6, p29_7, g29_7, p29_8, g29_8, p29_9, g29_9, g29_10, g29_11, g29_12, g29_13, g29_14, ck29, A30, S30, l30, A31, S31, l31, A32, S32, l32, A33, S33, l33, A34, S34, l34, A35, S35, l35, g36_0, g36_1, g36_2, ck36, A37, S37, l37, A38, S38, l38, A39, S39, l39, g40_0, g40_1, g40_2, g40_3, p40_4, g40_4, ck40, A41, S41, l41, A42, S42, l42, A43, S43, l43, A44, S44, l44, p45_0, g45_0, g45_1, p45_2, g45_2, p45_3, g45_3, p45_4, g45_4, p45_5, g45_5, p45_6, g45_6, p45_7, g45_7, g45_8, g45_9, g45_10, g45_11, g45_12, ck45, A46, S46, l46, A47, S47, l47, A48, S48, l48, A49, S49, l49, A50, S50, l50, A51, S51, l51, B52_0, g52_0, p52_1, g52_1, p52_2, g52_2, g52_3, p52_4, g52_4, ck52, A53, S53, l53, A54, S54, l54, A55, S55, l55, L0, L1, L2, L3, L4, L5, L6, L7, L8, L9, L10, L11, L12, L13, L14, L15, L16, L17, L18, L19, L20, L21, L22, L23, L24, L25, L26, L27, L28, L29, L30, L31, L32, L33, L34, L35, L36, L37, L38, L39, L40, L41, L42, L43, L44, L45, L46, L47, L48, L49, L50, L52, L57, L60, L90, L91, L93, L97, L99, L100, L101, L122, L240, L255, L256, L400, L401, L408, L409, L410, L411, L412, L413, L414, L420, L1000, L1001, L1103, L1200, L1240, L2820, L5220, L7936, L10440, L12345, L1000000, L1000003, L1073741823, L59, L61, L62, L200, nd_lt_t, nd_lt_f, nd_le_t, nd_le_f, nd_eq_f, nZ_add, nZ_mul, nZ_sub, nZ_lt, nZ_le, nZ_eq, nZ_nat, nZ_div, nZ_rem, nZ_and, nZ_or, and31, nZ_shl, nZ_shr, nZ_m1, nZ_nneg, nZ_nneg', nZ_nlt, nZ_ltn, inR_lt, Nat.not_lt_zero, ob_some, jI, jL, jR, jV, rI0, rI1, rIv, if_true, if_false, ↓reduceIte, Nat.reduceAdd, Nat.reduceMul, Nat.reduceSub, Nat.reduceLT, Nat.reduceEqDiff, Nat.reduceLeDiff, Nat.zero_add, Nat.add_zero, Nat.zero_mul, Nat.mul_zero, Nat.one_mul, Nat.mul_one, and_true, true_and, false_and, and_false, or_true, true_or, or_false, false_or, not_true_eq_false, not_false_eq_true, eq_self, bI_0, bI_1, em_b, hI_ne, hI_at, hA_ne, hA_at, Sh_si, Sh_sA]
    · have ew : wkN f (p + 1) = wkN f p := by
        show wkN f p + (if 0 < f p then 1 else 0) = _
        rw [if_neg c]
        rfl
      rw [ew] at ih
      rw [E156_118]
      simp (disch := first | assumption | omega | (simp only [Sh_si, Sh_sA]; assumption)) only [L56, w1, x4, ih, A0, l0, A1, l1, A2, l2, A3, l3, A4, l4, A7, l7, A8, l8, g10_0, g10_1, g10_2, g10_3, g10_4, g10_5, g10_6, g10_7, g10_8, g10_9, p10_10, g10_10, p10_11, g10_11, p10_12, g10_12, p10_13, g10_13, ck10, g11_0, g11_1, g11_2, g11_3, p11_4, g11_4, p11_5, g11_5, ck11, p12_0, g12_0, p12_1, g12_1, g12_2, g12_3, g12_4, g12_5, ck12, A13, S13, l13, A14, S14, l14, A15, S15, l15, A16, S16, l16, p17_0, g17_0, g17_1, ck17, A18, S18, l18, p19_0, g19_0, g19_1, g19_2, g19_3, g19_4, g19_5, ck19, A20, S20, l20, A21, S21, l21, A22, S22, l22, A23, S23, l23, A24, S24, l24, R25, R26, p27_0, g27_0, g27_1, ck27, A28, S28, l28, p29_0, g29_0, g29_1, p29_2, g29_2, p29_3, g29_3, p29_4, g29_4, p29_5, g29_5, p29_6, g29_6, p29_7, g29_7, p29_8, g29_8, p29_9, g29_9, g29_10, g29_11, g29_12, g29_13, g29_14, ck29, A30, S30, l30, A31, S31, l31, A32, S32, l32, A33, S33, l33, A34, S34, l34, A35, S35, l35, g36_0, g36_1, g36_2, ck36, A37, S37, l37, A38, S38, l38, A39, S39, l39, g40_0, g40_1, g40_2, g40_3, p40_4, g40_4, ck40, A41, S41, l41, A42, S42, l42, A43, S43, l43, A44, S44, l44, p45_0, g45_0, g45_1, p45_2, g45_2, p45_3, g45_3, p45_4, g45_4, p45_5, g45_5, p45_6, g45_6, p45_7, g45_7, g45_8, g45_9, g45_10, g45_11, g45_12, ck45, A46, S46, l46, A47, S47, l47, A48, S48, l48, A49, S49, l49, A50, S50, l50, A51, S51, l51, B52_0, g52_0, p52_1, g52_1, p52_2, g52_2, g52_3, p52_4, g52_4, ck52, A53, S53, l53, A54, S54, l54, A55, S55, l55, L0, L1, L2, L3, L4, L5, L6, L7, L8, L9, L10, L11, L12, L13, L14, L15, L16, L17, L18, L19, L20, L21, L22, L23, L24, L25, L26, L27, L28, L29, L30, L31, L32, L33, L34, L35, L36, L37, L38, L39, L40, L41, L42, L43, L44, L45, L46, L47, L48, L49, L50, L52, L57, L60, L90, L91, L93, L97, L99, L100, L101, L122, L240, L255, L256, L400, L401, L408, L409, L410, L411, L412, L413, L414, L420, L1000, L1001, L1103, L1200, L1240, L2820, L5220, L7936, L10440, L12345, L1000000, L1000003, L1073741823, L59, L61, L62, L200, nd_lt_t, nd_lt_f, nd_le_t, nd_le_f, nd_eq_f, nZ_add, nZ_mul, nZ_sub, nZ_lt, nZ_le, nZ_eq, nZ_nat, nZ_div, nZ_rem, nZ_and, nZ_or, and31, nZ_shl, nZ_shr, nZ_m1, nZ_nneg, nZ_nneg', nZ_nlt, nZ_ltn, inR_lt, Nat.not_lt_zero, ob_some, jI, jL, jR, jV, rI0, rI1, rIv, if_true, if_false, ↓reduceIte, Nat.reduceAdd, Nat.reduceMul, Nat.reduceSub, Nat.reduceLT, Nat.reduceEqDiff, Nat.reduceLeDiff, Nat.zero_add, Nat.add_zero, Nat.zero_mul, Nat.mul_zero, Nat.one_mul, Nat.mul_one, and_true, true_and, false_and, and_false, or_true, true_or, or_false, false_or, not_true_eq_false, not_false_eq_true, eq_self, bI_0, bI_1, em_b, hI_ne, hI_at, hA_ne, hA_at, Sh_si, Sh_sA]

theorem c156 {h : QH} {W : Nat → Nat} {o : Option (List CL)} {r : Option Nat} (X : CX h W o r) (d a seed : Nat) (ha : a < 5) (hs : seed < 1000003) : ∃ k, qcl (d + 22) 156 [qR (some 52), qR (some 11), qR (some 36), qI (nZ a), qI (nZ seed)] h = some (some (qI (nZ (wkN (wkW W o a (W 408) seed 7).2.1 (W 408)))), k) ∧ Fr fW h k ∧ hI k 52 0 = nZ 1 ∧ wD k (W 408) 7 (wkW W o a (W 408) seed) := by
  have H := X.1
  have n8 := X.n8
  have hk : ∀ q, q < W 408 → W (60 + 5 * q + a) ≤ 9 := fun q hq => X.2.2.2.1.bK (by omega) ha
  have x5 : hI h 12 0 = nZ (W 408) := X.2.2.1.1.1
  obtain ⟨i1, i2, i3⟩ := wkW_I (W := W) (o := o) (a := a) n8 hs hk 7 (by decide)
  generalize eh : hsI (hsI (hsI (hsI h 52 0 (nZ 1)) 52 1 (nZ (W 408))) 52 2 (nZ 0)) 52 4 (nZ seed) = h1
  have F1 : Fr fW h h1 := by
    rw [← eh]
    exact (Fr.si rfl (Fr.si rfl (Fr.si rfl (Fr.si rfl Fr.refl))))
  have v0 : hI h1 52 0 = nZ 1 := by
    rw [← eh]
    simp (disch := omega) only [okM', okC', rfC, rfM, hI_ne, hI_at, hA_ne, hA_at]
  have v1 : hI h1 52 1 = nZ (W 408) := by
    rw [← eh]
    simp (disch := omega) only [okM', okC', rfC, rfM, hI_ne, hI_at, hA_ne, hA_at]
  have v2 : hI h1 52 2 = nZ 0 := by
    rw [← eh]
    simp (disch := omega) only [okM', okC', rfC, rfM, hI_ne, hI_at, hA_ne, hA_at]
  have v4 : hI h1 52 4 = nZ seed := by
    rw [← eh]
    simp (disch := omega) only [okM', okC', rfC, rfM, hI_ne, hI_at, hA_ne, hA_at]
  have X1 := X.fr F1 nW_fW
  obtain ⟨h2, e2, F2, X2, Y2, W2⟩ := c156_30 d a (W 408) ha n8 (W 408) 0 h1 (by omega) X1 v1 (fun q hq => by omega)
  have w2 : wD h2 (W 408) 0 (wkW W o a (W 408) seed) := by
    refine ⟨(Y2 1).trans v1, (Y2 4).trans v4, (Y2 2).trans v2, ?_⟩
    intro i hi q hq
    have : i = 0 := by omega
    subst this
    rw [show 0 * 8 + q = q by omega]
    exact W2 q hq
  obtain ⟨h3, e3, F3, X3, W3⟩ := c156_65 d a (W 408) seed ha n8 hs hk 7 0 h2 (by omega) X2 w2
  have e4 := c156_118 X3.1 d (W 408) (wkW W o a (W 408) seed 7).2.1 n8 W3.1 (fun q hq => W3.2.2.2 7 (by decide) q hq) i2 (W 408) 0 (by omega)
  refine ⟨h3, ?_, F1.trans ((F2.trans F3).mono fK_W), ?_, W3⟩
  · have e5 := (e2.trans e3).trans e4
    rw [← eh] at e5
    rw [E156]
    simp (disch := first | assumption | omega | (simp only [Sh_si, Sh_sA]; assumption)) only [x5, e5, A0, l0, A1, l1, A2, l2, A3, l3, A4, l4, A7, l7, A8, l8, g10_0, g10_1, g10_2, g10_3, g10_4, g10_5, g10_6, g10_7, g10_8, g10_9, p10_10, g10_10, p10_11, g10_11, p10_12, g10_12, p10_13, g10_13, ck10, g11_0, g11_1, g11_2, g11_3, p11_4, g11_4, p11_5, g11_5, ck11, p12_0, g12_0, p12_1, g12_1, g12_2, g12_3, g12_4, g12_5, ck12, A13, S13, l13, A14, S14, l14, A15, S15, l15, A16, S16, l16, p17_0, g17_0, g17_1, ck17, A18, S18, l18, p19_0, g19_0, g19_1, g19_2, g19_3, g19_4, g19_5, ck19, A20, S20, l20, A21, S21, l21, A22, S22, l22, A23, S23, l23, A24, S24, l24, R25, R26, p27_0, g27_0, g27_1, ck27, A28, S28, l28, p29_0, g29_0, g29_1, p29_2, g29_2, p29_3, g29_3, p29_4, g29_4, p29_5, g29_5, p29_6, g29_6, p29_7, g29_7, p29_8, g29_8, p29_9, g29_9, g29_10, g29_11, g29_12, g29_13, g29_14, ck29, A30, S30, l30, A31, S31, l31, A32, S32, l32, A33, S33, l33, A34, S34, l34, A35, S35, l35, g36_0, g36_1, g36_2, ck36, A37, S37, l37, A38, S38, l38, A39, S39, l39, g40_0, g40_1, g40_2, g40_3, p40_4, g40_4, ck40, A41, S41, l41, A42, S42, l42, A43, S43, l43, A44, S44, l44, p45_0, g45_0, g45_1, p45_2, g45_2, p45_3, g45_3, p45_4, g45_4, p45_5, g45_5, p45_6, g45_6, p45_7, g45_7, g45_8, g45_9, g45_10, g45_11, g45_12, ck45, A46, S46, l46, A47, S47, l47, A48, S48, l48, A49, S49, l49, A50, S50, l50, A51, S51, l51, B52_0, g52_0, p52_1, g52_1, p52_2, g52_2, g52_3, p52_4, g52_4, ck52, A53, S53, l53, A54, S54, l54, A55, S55, l55, L0, L1, L2, L3, L4, L5, L6, L7, L8, L9, L10, L11, L12, L13, L14, L15, L16, L17, L18, L19, L20, L21, L22, L23, L24, L25, L26, L27, L28, L29, L30, L31, L32, L33, L34, L35, L36, L37, L38, L39, L40, L41, L42, L43, L44, L45, L46, L47, L48, L49, L50, L52, L57, L60, L90, L91, L93, L97, L99, L100, L101, L122, L240, L255, L256, L400, L401, L408, L409, L410, L411, L412, L413, L414, L420, L1000, L1001, L1103, L1200, L1240, L2820, L5220, L7936, L10440, L12345, L1000000, L1000003, L1073741823, L59, L61, L62, L200, nd_lt_t, nd_lt_f, nd_le_t, nd_le_f, nd_eq_f, nZ_add, nZ_mul, nZ_sub, nZ_lt, nZ_le, nZ_eq, nZ_nat, nZ_div, nZ_rem, nZ_and, nZ_or, and31, nZ_shl, nZ_shr, nZ_m1, nZ_nneg, nZ_nneg', nZ_nlt, nZ_ltn, inR_lt, Nat.not_lt_zero, ob_some, jI, jL, jR, jV, rI0, rI1, rIv, if_true, if_false, ↓reduceIte, Nat.reduceAdd, Nat.reduceMul, Nat.reduceSub, Nat.reduceLT, Nat.reduceEqDiff, Nat.reduceLeDiff, Nat.zero_add, Nat.add_zero, Nat.zero_mul, Nat.mul_zero, Nat.one_mul, Nat.mul_one, and_true, true_and, false_and, and_false, or_true, true_or, or_false, false_or, not_true_eq_false, not_false_eq_true, eq_self, bI_0, bI_1, em_b, hI_ne, hI_at, hA_ne, hA_at, Sh_si, Sh_sA]
  · rw [(F2.trans F3).2 52 0 rfl]
    exact v0

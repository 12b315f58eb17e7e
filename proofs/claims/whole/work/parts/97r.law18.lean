/-! ===== ring ===== -/
theorem max_nZ {x y : Nat} (hx : x < 2147483648) (hy : y < 2147483648) : (if nZ x < nZ y then nZ y else nZ x) = nZ (max x y) := by
  have e := nZ_lt hx hy
  simp only [e]
  by_cases c : x < y
  · rw [if_pos c, Nat.max_eq_right (by omega)]
  · rw [if_neg c, Nat.max_eq_left (by omega)]
def rvg (W : Nat → Nat) (o : Option (List CL)) (f a n : Nat) : Nat → Nat
  | 0 => W (60 + 5 * f + a)
  | k + 1 => max (W (60 + 5 * ((f + (k + 1)) % n) + a)) (tw o 1 (qf W a 0 1 ((f + k) % n) (rvg W o f a n k) ((f + (k + 1)) % n) (W (60 + 5 * ((f + (k + 1)) % n) + a))) (rvg W o f a n k - 1))
theorem rvg_le {W : Nat → Nat} (w : WI W) {o : Option (List CL)} {f a n : Nat} (hf : f < n) (hn : n ≤ 8) (ha : a < 5) : ∀ k, rvg W o f a n k ≤ 9
  | 0 => w.bK (by omega) ha
  | k + 1 => by
    have h1 := Nat.mod_lt (f + (k + 1)) (show n > 0 by omega)
    have h2 := w.bK (p := (f + (k + 1)) % n) (a := a) (by omega) ha
    have h3 := rvg_le w (o := o) hf hn ha k
    have h4 : tw o 1 (qf W a 0 1 ((f + k) % n) (rvg W o f a n k) ((f + (k + 1)) % n) (W (60 + 5 * ((f + (k + 1)) % n) + a))) (rvg W o f a n k - 1) ≤ 9 := tw_le (by decide) (by omega)
    exact Nat.max_le.2 ⟨h2, h4⟩
/-- what the ring tells -/
def rng (W : Nat → Nat) (o : Option (List CL)) (f a n : Nat) : Nat := if n = 1 then rvg W o f a n 0 else tw o 1 (qf W a 0 1 ((f + (n - 1)) % n) (rvg W o f a n (n - 1)) f (W (60 + 5 * f + a))) (rvg W o f a n (n - 1) - 1)
theorem mod_next {t n : Nat} (hn : 0 < n) : (t + 1) % n = if t % n + 1 < n then t % n + 1 else 0 := by
  have h1 := Nat.mod_lt t hn
  rw [Nat.add_mod]
  by_cases c1 : n = 1
  · subst c1
    rw [if_neg (by omega), Nat.mod_one]
  · have e1 : 1 % n = 1 := Nat.mod_eq_of_lt (by omega)
    rw [e1]
    by_cases c : t % n + 1 < n
    · rw [if_pos c, Nat.mod_eq_of_lt c]
    · rw [if_neg c]
      have : t % n + 1 = n := by omega
      rw [this, Nat.mod_self]
theorem ring_end {f n : Nat} (hf : f < n) : ((f + (n - 1)) % n = f) = (n = 1) := by
  apply propext
  constructor
  · intro e
    by_cases c : n = 1
    · exact c
    · exfalso
      by_cases f0 : f = 0
      · subst f0
        rw [Nat.zero_add, Nat.mod_eq_of_lt (by omega)] at e
        omega
      · have : f + (n - 1) = (f - 1) + n := by omega
        rw [this, Nat.add_mod_right, Nat.mod_eq_of_lt (by omega)] at e
        omega
  · intro e
    subst e
    rw [Nat.mod_one]
    omega
theorem c44_53 {W : Nat → Nat} {o : Option (List CL)} {r : Option Nat} (d f a : Nat) (hf : f < W 408) (ha : a < W 409) : ∀ m k h, W 408 - 1 - k = m → k < W 408 → CX h W o r → vA h W a 0 1 → ∃ h', qbig (d + 20) 44 53 [sR (some 10), sI (nZ f), sI (nZ a), sR (some 12), sI (nZ (rvg W o f a (W 408) k)), sI (nZ ((f + k) % W 408)), sI (nZ (k + 1)), none, none] [] h = some (some (qI (nZ (rng W o f a (W 408)))), h') ∧ Fr fV h h' := by
  intro m
  induction m with
  | zero =>
    intro k h hm hk X hA
    have n8 := X.n8
    have n5 := X.n5
    have w := X.2.2.2.1
    have hk1 : k = W 408 - 1 := by omega
    subst hk1
    have H := X.1
    have e12 : hI h 12 0 = nZ (W 408) := X.2.2.1.1.1
    have hb := rvg_le w (o := o) hf n8 (a := a) (by omega) (W 408 - 1)
    have hm1 := Nat.mod_lt (f + (W 408 - 1)) (show W 408 > 0 by omega)
    have he := ring_end hf
    have s1 : W 408 - 1 + 1 = W 408 := by omega
    unfold rng
    rw [s1, E44_53]
    by_cases c : W 408 = 1
    · rw [eq_true c] at he
      refine ⟨h, ?_, Fr.refl⟩
      rw [if_pos c]
      have hz : rvg W o f a (W 408) (W 408 - 1) = rvg W o f a (W 408) 0 := by rw [c]
      rw [← hz]
      simp (disch := first | assumption | omega | (simp only [Sh_si, Sh_sA]; assumption)) only [e12, he, A0, l0, A1, l1, A2, l2, A3, l3, A4, l4, A7, l7, A8, l8, g10_0, g10_1, g10_2, g10_3, g10_4, g10_5, g10_6, g10_7, g10_8, g10_9, p10_10, g10_10, p10_11, g10_11, p10_12, g10_12, p10_13, g10_13, ck10, g11_0, g11_1, g11_2, g11_3, p11_4, g11_4, p11_5, g11_5, ck11, p12_0, g12_0, p12_1, g12_1, g12_2, g12_3, g12_4, g12_5, ck12, A13, S13, l13, A14, S14, l14, A15, S15, l15, A16, S16, l16, p17_0, g17_0, g17_1, ck17, A18, S18, l18, p19_0, g19_0, g19_1, g19_2, g19_3, g19_4, g19_5, ck19, A20, S20, l20, A21, S21, l21, A22, S22, l22, A23, S23, l23, A24, S24, l24, R25, R26, p27_0, g27_0, g27_1, ck27, A28, S28, l28, p29_0, g29_0, g29_1, p29_2, g29_2, p29_3, g29_3, p29_4, g29_4, p29_5, g29_5, p29_6, g29_6, p29_7, g29_7, p29_8, g29_8, p29_9, g29_9, g29_10, g29_11, g29_12, g29_13, g29_14, ck29, A30, S30, l30, A31, S31, l31, A32, S32, l32, A33, S33, l33, A34, S34, l34, A35, S35, l35, g36_0, g36_1, g36_2, ck36, A37, S37, l37, A38, S38, l38, A39, S39, l39, g40_0, g40_1, g40_2, g40_3, p40_4, g40_4, ck40, A41, S41, l41, A42, S42, l42, A43, S43, l43, A44, S44, l44, p45_0, g45_0, g45_1, p45_2, g45_2, p45_3, g45_3, p45_4, g45_4, p45_5, g45_5, p45_6, g45_6, p45_7, g45_7, g45_8, g45_9, g45_10, g45_11, g45_12, ck45, A46, S46, l46, A47, S47, l47, A48, S48, l48, A49, S49, l49, A50, S50, l50, A51, S51, l51, B52_0, g52_0, p52_1, g52_1, p52_2, g52_2, g52_3, p52_4, g52_4, ck52, A53, S53, l53, A54, S54, l54, A55, S55, l55, L0, L1, L2, L3, L4, L5, L6, L7, L8, L9, L10, L11, L12, L13, L14, L15, L16, L17, L18, L19, L20, L21, L22, L23, L24, L25, L26, L27, L28, L29, L30, L31, L32, L33, L34, L35, L36, L37, L38, L39, L40, L41, L42, L43, L44, L45, L46, L47, L48, L49, L50, L52, L57, L60, L90, L91, L93, L97, L99, L100, L101, L122, L240, L255, L256, L400, L401, L408, L409, L410, L411, L412, L413, L414, L420, L1000, L1001, L1103, L1200, L1240, L2820, L5220, L7936, L10440, L12345, L1000000, L1000003, L1073741823, L59, L61, L62, L200, nd_lt_t, nd_lt_f, nd_le_t, nd_le_f, nd_eq_f, nZ_add, nZ_mul, nZ_sub, nZ_lt, nZ_le, nZ_eq, nZ_nat, nZ_div, nZ_rem, nZ_and, nZ_or, and31, nZ_shl, nZ_shr, nZ_m1, nZ_nneg, nZ_nneg', nZ_nlt, nZ_ltn, inR_lt, Nat.not_lt_zero, ob_some, jI, jL, jR, jV, rI0, rI1, rIv, if_true, if_false, ↓reduceIte, Nat.reduceAdd, Nat.reduceMul, Nat.reduceSub, Nat.reduceLT, Nat.reduceEqDiff, Nat.reduceLeDiff, Nat.zero_add, Nat.add_zero, Nat.zero_mul, Nat.mul_zero, Nat.one_mul, Nat.mul_one, and_true, true_and, false_and, and_false, or_true, true_or, or_false, false_or, not_true_eq_false, not_false_eq_true, eq_self, bI_0, bI_1, em_b, hI_ne, hI_at, hA_ne, hA_at, Sh_si, Sh_sA]
    · rw [eq_false c] at he
      rw [if_neg c]
      have e82 := X.k82 (d + 17) (p := f) (a := a) (by omega) (by omega)
      have bf := w.bK (p := f) (a := a) (by omega) (by omega)
      obtain ⟨h2, e149, F2, vA2, vQ2⟩ := c149 X (d + 17) a 0 1 ((f + (W 408 - 1)) % W 408) (rvg W o f a (W 408) (W 408 - 1)) f (W (60 + 5 * f + a)) hA (by omega) (by omega) (by omega) (by omega) (by omega) (by omega) (by omega)
      have X2 := X.fr F2 nW_fV
      have H2 := X2.1
      have e163 := c163 X2 (d + 18)
      obtain ⟨h3, e152, F3, g3⟩ := c152t X2 (q := qf W a 0 1 ((f + (W 408 - 1)) % W 408) (rvg W o f a (W 408) (W 408 - 1)) f (W (60 + 5 * f + a))) (d + 16) 1 (by decide) vQ2 vA2.1
      have e152' : qcl (d + 19) 152 [qR (some 36), qR r, qI (nZ 0)] h2 = some (some (qI (nZ (tw o 1 (qf W a 0 1 ((f + (W 408 - 1)) % W 408) (rvg W o f a (W 408) (W 408 - 1)) f (W (60 + 5 * f + a))) (rvg W o f a (W 408) (W 408 - 1) - 1)))), h3) := e152
      refine ⟨h3, ?_, F2.trans F3⟩
      simp (disch := first | assumption | omega | (simp only [Sh_si, Sh_sA]; assumption)) only [e12, he, e82, e149, e163, e152', A0, l0, A1, l1, A2, l2, A3, l3, A4, l4, A7, l7, A8, l8, g10_0, g10_1, g10_2, g10_3, g10_4, g10_5, g10_6, g10_7, g10_8, g10_9, p10_10, g10_10, p10_11, g10_11, p10_12, g10_12, p10_13, g10_13, ck10, g11_0, g11_1, g11_2, g11_3, p11_4, g11_4, p11_5, g11_5, ck11, p12_0, g12_0, p12_1, g12_1, g12_2, g12_3, g12_4, g12_5, ck12, A13, S13, l13, A14, S14, l14, A15, S15, l15, A16, S16, l16, p17_0, g17_0, g17_1, ck17, A18, S18, l18, p19_0, g19_0, g19_1, g19_2, g19_3, g19_4, g19_5, ck19, A20, S20, l20, A21, S21, l21, A22, S22, l22, A23, S23, l23, A24, S24, l24, R25, R26, p27_0, g27_0, g27_1, ck27, A28, S28, l28, p29_0, g29_0, g29_1, p29_2, g29_2, p29_3, g29_3, p29_4, g29_4, p29_5, g29_5, p29_6, g29_6, p29_7, g29_7, p29_8, g29_8, p29_9, g29_9, g29_10, g29_11, g29_12, g29_13, g29_14, ck29, A30, S30, l30, A31, S31, l31, A32, S32, l32, A33, S33, l33, A34, S34, l34, A35, S35, l35, g36_0, g36_1, g36_2, ck36, A37, S37, l37, A38, S38, l38, A39, S39, l39, g40_0, g40_1, g40_2, g40_3, p40_4, g40_4, ck40, A41, S41, l41, A42, S42, l42, A43, S43, l43, A44, S44, l44, p45_0, g45_0, g45_1, p45_2, g45_2, p45_3, g45_3, p45_4, g45_4, p45_5, g45_5, p45_6, g45_6, p45_7, g45_7, g45_8, g45_9, g45_10, g45_11, g45_12, ck45, A46, S46, l46, A47, S47, l47, A48, S48, l48, A49, S49, l49, A50, S50, l50, A51, S51, l51, B52_0, g52_0, p52_1, g52_1, p52_2, g52_2, g52_3, p52_4, g52_4, ck52, A53, S53, l53, A54, S54, l54, A55, S55, l55, L0, L1, L2, L3, L4, L5, L6, L7, L8, L9, L10, L11, L12, L13, L14, L15, L16, L17, L18, L19, L20, L21, L22, L23, L24, L25, L26, L27, L28, L29, L30, L31, L32, L33, L34, L35, L36, L37, L38, L39, L40, L41, L42, L43, L44, L45, L46, L47, L48, L49, L50, L52, L57, L60, L90, L91, L93, L97, L99, L100, L101, L122, L240, L255, L256, L400, L401, L408, L409, L410, L411, L412, L413, L414, L420, L1000, L1001, L1103, L1200, L1240, L2820, L5220, L7936, L10440, L12345, L1000000, L1000003, L1073741823, L59, L61, L62, L200, nd_lt_t, nd_lt_f, nd_le_t, nd_le_f, nd_eq_f, nZ_add, nZ_mul, nZ_sub, nZ_lt, nZ_le, nZ_eq, nZ_nat, nZ_div, nZ_rem, nZ_and, nZ_or, and31, nZ_shl, nZ_shr, nZ_m1, nZ_nneg, nZ_nneg', nZ_nlt, nZ_ltn, inR_lt, Nat.not_lt_zero, ob_some, jI, jL, jR, jV, rI0, rI1, rIv, if_true, if_false, ↓reduceIte, Nat.reduceAdd, Nat.reduceMul, Nat.reduceSub, Nat.reduceLT, Nat.reduceEqDiff, Nat.reduceLeDiff, Nat.zero_add, Nat.add_zero, Nat.zero_mul, Nat.mul_zero, Nat.one_mul, Nat.mul_one, and_true, true_and, false_and, and_false, or_true, true_or, or_false, false_or, not_true_eq_false, not_false_eq_true, eq_self, bI_0, bI_1, em_b, hI_ne, hI_at, hA_ne, hA_at, Sh_si, Sh_sA]
  | succ m ih =>
    intro k h hm hk X hA
    have n8 := X.n8
    have n5 := X.n5
    have w := X.2.2.2.1
    have H := X.1
    have e12 : hI h 12 0 = nZ (W 408) := X.2.2.1.1.1
    have hb := rvg_le w (o := o) hf n8 (a := a) (by omega) k
    have hm1 := Nat.mod_lt (f + k) (show W 408 > 0 by omega)
    have hm2 := Nat.mod_lt (f + (k + 1)) (show W 408 > 0 by omega)
    have en : qcl (d + 19) 84 [qR (some 12), qI (nZ ((f + k) % W 408))] h = some (some (qI (nZ ((f + (k + 1)) % W 408))), h) := by
      have := mod_next (t := f + k) (show 0 < W 408 by omega)
      rw [Nat.add_assoc] at this
      rw [this]
      by_cases c : (f + k) % W 408 + 1 < W 408
      · rw [if_pos c]
        simp (disch := first | assumption | omega | (simp only [Sh_si, Sh_sA]; assumption)) only [E84, e12, A0, l0, A1, l1, A2, l2, A3, l3, A4, l4, A7, l7, A8, l8, g10_0, g10_1, g10_2, g10_3, g10_4, g10_5, g10_6, g10_7, g10_8, g10_9, p10_10, g10_10, p10_11, g10_11, p10_12, g10_12, p10_13, g10_13, ck10, g11_0, g11_1, g11_2, g11_3, p11_4, g11_4, p11_5, g11_5, ck11, p12_0, g12_0, p12_1, g12_1, g12_2, g12_3, g12_4, g12_5, ck12, A13, S13, l13, A14, S14, l14, A15, S15, l15, A16, S16, l16, p17_0, g17_0, g17_1, ck17, A18, S18, l18, p19_0, g19_0, g19_1, g19_2, g19_3, g19_4, g19_5, ck19, A20, S20, l20, A21, S21, l21, A22, S22, l22, A23, S23, l23, A24, S24, l24, R25, R26, p27_0, g27_0, g27_1, ck27, A28, S28, l28, p29_0, g29_0, g29_1, p29_2, g29_2, p29_3, g29_3, p29_4, g29_4, p29_5, g29_5, p29_6, g29_6, p29_7, g29_7, p29_8, g29_8, p29_9, g29_9, g29_10, g29_11, g29_12, g29_13, g29_14, ck29, A30, S30, l30, A31, S31, l31, A32, S32, l32, A33, S33, l33, A34, S34, l34, A35, S35, l35, g36_0, g36_1, g36_2, ck36, A37, S37, l37, A38, S38, l38, A39, S39, l39, g40_0, g40_1, g40_2, g40_3, p40_4, g40_4, ck40, A41, S41, l41, A42, S42, l42, A43, S43, l43, A44, S44, l44, p45_0, g45_0, g45_1, p45_2, g45_2, p45_3, g45_3, p45_4, g45_4, p45_5, g45_5, p45_6, g45_6, p45_7, g45_7, g45_8, g45_9, g45_10, g45_11, g45_12, ck45, A46, S46, l46, A47, S47, l47, A48, S48, l48, A49, S49, l49, A50, S50, l50, A51, S51, l51, B52_0, g52_0, p52_1, g52_1, p52_2, g52_2, g52_3, p52_4, g52_4, ck52, A53, S53, l53, A54, S54, l54, A55, S55, l55, L0, L1, L2, L3, L4, L5, L6, L7, L8, L9, L10, L11, L12, L13, L14, L15, L16, L17, L18, L19, L20, L21, L22, L23, L24, L25, L26, L27, L28, L29, L30, L31, L32, L33, L34, L35, L36, L37, L38, L39, L40, L41, L42, L43, L44, L45, L46, L47, L48, L49, L50, L52, L57, L60, L90, L91, L93, L97, L99, L100, L101, L122, L240, L255, L256, L400, L401, L408, L409, L410, L411, L412, L413, L414, L420, L1000, L1001, L1103, L1200, L1240, L2820, L5220, L7936, L10440, L12345, L1000000, L1000003, L1073741823, L59, L61, L62, L200, nd_lt_t, nd_lt_f, nd_le_t, nd_le_f, nd_eq_f, nZ_add, nZ_mul, nZ_sub, nZ_lt, nZ_le, nZ_eq, nZ_nat, nZ_div, nZ_rem, nZ_and, nZ_or, and31, nZ_shl, nZ_shr, nZ_m1, nZ_nneg, nZ_nneg', nZ_nlt, nZ_ltn, inR_lt, Nat.not_lt_zero, ob_some, jI, jL, jR, jV, rI0, rI1, rIv, if_true, if_false, ↓reduceIte, Nat.reduceAdd, Nat.reduceMul, Nat.reduceSub, Nat.reduceLT, Nat.reduceEqDiff, Nat.reduceLeDiff, Nat.zero_add, Nat.add_zero, Nat.zero_mul, Nat.mul_zero, Nat.one_mul, Nat.mul_one, and_true, true_and, false_and, and_false, or_true, true_or, or_false, false_or, not_true_eq_false, not_false_eq_true, eq_self, bI_0, bI_1, em_b, hI_ne, hI_at, hA_ne, hA_at, Sh_si, Sh_sA]
      · rw [if_neg c]
        simp (disch := first | assumption | omega | (simp only [Sh_si, Sh_sA]; assumption)) only [E84, e12, A0, l0, A1, l1, A2, l2, A3, l3, A4, l4, A7, l7, A8, l8, g10_0, g10_1, g10_2, g10_3, g10_4, g10_5, g10_6, g10_7, g10_8, g10_9, p10_10, g10_10, p10_11, g10_11, p10_12, g10_12, p10_13, g10_13, ck10, g11_0, g11_1, g11_2, g11_3, p11_4, g11_4, p11_5, g11_5, ck11, p12_0, g12_0, p12_1, g12_1, g12_2, g12_3, g12_4, g12_5, ck12, A13, S13, l13, A14, S14, l14, A15, S15, l15, A16, S16, l16, p17_0, g17_0, g17_1, ck17, A18, S18, l18, p19_0, g19_0, g19_1, g19_2, g19_3, g19_4, g19_5, ck19, A20, S20, l20, A21, S21, l21, A22, S22, l22, A23, S23, l23, A24, S24, l24, R25, R26, p27_0, g27_0, g27_1, ck27, A28, S28, l28, p29_0, g29_0, g29_1, p29_2, g29_2, p29_3, g29_3, p29_4, g29_4, p29_5, g29_5, p29_6, g29_6, p29_7, g29_7, p29_8, g29_8, p29_9, g29_9, g29_10, g29_11, g29_12, g29_13, g29_14, ck29, A30, S30, l30, A31, S31, l31, A32, S32, l32, A33, S33, l33, A34, S34, l34, A35, S35, l35, g36_0, g36_1, g36_2, ck36, A37, S37, l37, A38, S38, l38, A39, S39, l39, g40_0, g40_1, g40_2, g40_3, p40_4, g40_4, ck40, A41, S41, l41, A42, S42, l42, A43, S43, l43, A44, S44, l44, p45_0, g45_0, g45_1, p45_2, g45_2, p45_3, g45_3, p45_4, g45_4, p45_5, g45_5, p45_6, g45_6, p45_7, g45_7, g45_8, g45_9, g45_10, g45_11, g45_12, ck45, A46, S46, l46, A47, S47, l47, A48, S48, l48, A49, S49, l49, A50, S50, l50, A51, S51, l51, B52_0, g52_0, p52_1, g52_1, p52_2, g52_2, g52_3, p52_4, g52_4, ck52, A53, S53, l53, A54, S54, l54, A55, S55, l55, L0, L1, L2, L3, L4, L5, L6, L7, L8, L9, L10, L11, L12, L13, L14, L15, L16, L17, L18, L19, L20, L21, L22, L23, L24, L25, L26, L27, L28, L29, L30, L31, L32, L33, L34, L35, L36, L37, L38, L39, L40, L41, L42, L43, L44, L45, L46, L47, L48, L49, L50, L52, L57, L60, L90, L91, L93, L97, L99, L100, L101, L122, L240, L255, L256, L400, L401, L408, L409, L410, L411, L412, L413, L414, L420, L1000, L1001, L1103, L1200, L1240, L2820, L5220, L7936, L10440, L12345, L1000000, L1000003, L1073741823, L59, L61, L62, L200, nd_lt_t, nd_lt_f, nd_le_t, nd_le_f, nd_eq_f, nZ_add, nZ_mul, nZ_sub, nZ_lt, nZ_le, nZ_eq, nZ_nat, nZ_div, nZ_rem, nZ_and, nZ_or, and31, nZ_shl, nZ_shr, nZ_m1, nZ_nneg, nZ_nneg', nZ_nlt, nZ_ltn, inR_lt, Nat.not_lt_zero, ob_some, jI, jL, jR, jV, rI0, rI1, rIv, if_true, if_false, ↓reduceIte, Nat.reduceAdd, Nat.reduceMul, Nat.reduceSub, Nat.reduceLT, Nat.reduceEqDiff, Nat.reduceLeDiff, Nat.zero_add, Nat.add_zero, Nat.zero_mul, Nat.mul_zero, Nat.one_mul, Nat.mul_one, and_true, true_and, false_and, and_false, or_true, true_or, or_false, false_or, not_true_eq_false, not_false_eq_true, eq_self, bI_0, bI_1, em_b, hI_ne, hI_at, hA_ne, hA_at, Sh_si, Sh_sA]
    have e82 := X.k82 (d + 17) (p := (f + (k + 1)) % W 408) (a := a) (by omega) (by omega)
    have bf := w.bK (p := (f + (k + 1)) % W 408) (a := a) (by omega) (by omega)
    obtain ⟨h2, e149, F2, vA2, vQ2⟩ := c149 X (d + 17) a 0 1 ((f + k) % W 408) (rvg W o f a (W 408) k) ((f + (k + 1)) % W 408) (W (60 + 5 * ((f + (k + 1)) % W 408) + a)) hA (by omega) (by omega) (by omega) (by omega) (by omega) (by omega) (by omega)
    have X2 := X.fr F2 nW_fV
    have H2 := X2.1
    have e163 := c163 X2 (d + 18)
    obtain ⟨h3, e152, F3, g3⟩ := c152t X2 (q := qf W a 0 1 ((f + k) % W 408) (rvg W o f a (W 408) k) ((f + (k + 1)) % W 408) (W (60 + 5 * ((f + (k + 1)) % W 408) + a))) (d + 16) 1 (by decide) vQ2 vA2.1
    have X3 := X2.fr F3 nW_fV
    have H3 := X3.1
    obtain ⟨b1', b2', b3', b4'⟩ := vA2
    have vA3 : vA h3 W a 0 1 := ⟨(g3 39 1 (by decide)).trans b1', (g3 37 4 (by decide)).trans b2', (g3 37 5 (by decide)).trans b3', (g3 37 8 (by decide)).trans b4'⟩
    have e152' : qcl (d + 19) 152 [qR (some 36), qR r, qI (nZ 0)] h2 = some (some (qI (nZ (tw o 1 (qf W a 0 1 ((f + k) % W 408) (rvg W o f a (W 408) k) ((f + (k + 1)) % W 408) (W (60 + 5 * ((f + (k + 1)) % W 408) + a))) (rvg W o f a (W 408) k - 1)))), h3) := e152
    have htw : tw o 1 (qf W a 0 1 ((f + k) % W 408) (rvg W o f a (W 408) k) ((f + (k + 1)) % W 408) (W (60 + 5 * ((f + (k + 1)) % W 408) + a))) (rvg W o f a (W 408) k - 1) ≤ 9 := tw_le (by decide) (by omega)
    obtain ⟨h4, e4, F4⟩ := ih (k + 1) h3 (by omega) (by omega) X3 vA3
    refine ⟨h4, ?_, (F2.trans F3).trans F4⟩
    rw [← e4, E44_53]
    have hmax : (if nZ (W (60 + 5 * ((f + (k + 1)) % W 408) + a)) < nZ (tw o 1 (qf W a 0 1 ((f + k) % W 408) (rvg W o f a (W 408) k) ((f + (k + 1)) % W 408) (W (60 + 5 * ((f + (k + 1)) % W 408) + a))) (rvg W o f a (W 408) k - 1)) then nZ (tw o 1 (qf W a 0 1 ((f + k) % W 408) (rvg W o f a (W 408) k) ((f + (k + 1)) % W 408) (W (60 + 5 * ((f + (k + 1)) % W 408) + a))) (rvg W o f a (W 408) k - 1)) else nZ (W (60 + 5 * ((f + (k + 1)) % W 408) + a))) = nZ (rvg W o f a (W 408) (k + 1)) := by
      exact max_nZ (by omega) (by omega)
    have e12' := e12
    generalize tw o 1 (qf W a 0 1 ((f + k) % W 408) (rvg W o f a (W 408) k) ((f + (k + 1)) % W 408) (W (60 + 5 * ((f + (k + 1)) % W 408) + a))) (rvg W o f a (W 408) k - 1) = tt at *
    generalize W (60 + 5 * ((f + (k + 1)) % W 408) + a) = ww at *
    generalize (f + (k + 1)) % W 408 = t2 at *
    generalize (f + k) % W 408 = t1 at *
    simp (disch := first | assumption | omega) only [↓hmax, ob_some, g12_0, e12', nZ_lt, nd_lt_t, if_true, en, e82, jI, jV, jR, g10_0, g10_4, e149, e163, L0, L1, e152', E44_121, nZ_add]
theorem m246_31 {W : Nat → Nat} {o : Option (List CL)} (d f a : Nat) (hf : f < W 408) (ha : a < W 409) : ∀ m k h, W 408 - 1 - k = m → k < W 408 → MX h W o → ∃ h', qbig (d + 110) 246 31 [sR (some 56), sI (nZ f), sI (nZ a), sI (nZ (rvg W o f a (W 408) k)), sI (nZ ((f + k) % W 408)), sI (nZ (k + 1)), none] [] h = some (some (qI (nZ (rng W o f a (W 408)))), h') ∧ Fr fQ h h' := by
  intro m
  induction m with
  | zero =>
    intro k h hm hk X
    have M1 := X.mm
    have n8 := M1.n8
    have n5 := M1.n5
    have w := X.2.2.1
    have hk1 : k = W 408 - 1 := by omega
    subst hk1
    have H := X.1
    have hb := rvg_le w (o := o) hf n8 (a := a) (by omega) (W 408 - 1)
    have hm1 := Nat.mod_lt (f + (W 408 - 1)) (show W 408 > 0 by omega)
    have he := ring_end hf
    have s1 : W 408 - 1 + 1 = W 408 := by omega
    unfold rng
    rw [s1, E246_31]
    by_cases c : W 408 = 1
    · rw [eq_true c] at he
      refine ⟨h, ?_, Fr.refl⟩
      rw [if_pos c]
      have hz : rvg W o f a (W 408) (W 408 - 1) = rvg W o f a (W 408) 0 := by rw [c]
      rw [← hz]
      simp (disch := first | assumption | omega | (simp only [Sh_si, Sh_sA]; assumption)) only [he, p56_0, g56_0, p56_1, g56_1, g56_2, g56_3, g56_4, g56_5, p56_6, g56_6, g56_7, g56_8, g56_9, p56_10, g56_10, p56_11, g56_11, g56_12, g56_13, g56_14, p56_15, g56_15, p56_16, g56_16, p56_17, g56_17, p56_18, g56_18, p56_19, g56_19, p56_20, g56_20, B56_21, g56_21, g56_22, g56_23, g56_24, g56_25, g56_26, g56_27, p56_28, g56_28, p56_29, g56_29, p56_30, g56_30, p56_31, g56_31, g56_32, g56_33, g56_34, p56_35, g56_35, p56_36, g56_36, p56_37, g56_37, p56_38, g56_38, g56_39, g56_40, g56_41, p56_42, g56_42, p56_43, g56_43, p56_44, g56_44, ck56, A57, S57, l57, A58, S58, l58, A59, S59, l59, A60, S60, l60, A61, S61, l61, A62, S62, l62, A63, S63, l63, A64, S64, l64, A65, S65, l65, A66, S66, l66, A67, S67, l67, A68, S68, l68, A69, S69, l69, A70, S70, l70, A71, S71, l71, A72, S72, l72, A73, S73, l73, A74, S74, l74, A75, S75, l75, A76, S76, l76, A77, S77, l77, A78, S78, l78, n232 M1, n169 M1, n203 M1, n200 M1, n227 M1, n168 M1, n212 M1, n250 M1, n223 M1, n201 M1, n245 M1, m190, m218, m218', m196, m244_1, m244_2, m244_3, m244_5, m244_6, m217, m191, L0, L1, L2, L3, L4, L5, L6, L7, L8, L9, L10, L11, L12, L13, L14, L15, L16, L17, L18, L19, L20, L21, L22, L23, L24, L25, L26, L27, L28, L29, L30, L31, L32, L33, L34, L35, L36, L37, L38, L39, L40, L41, L42, L43, L44, L45, L46, L47, L48, L49, L50, L52, L57, L60, L90, L91, L93, L97, L99, L100, L101, L122, L240, L255, L256, L400, L401, L408, L409, L410, L411, L412, L413, L414, L420, L1000, L1001, L1103, L1200, L1240, L2820, L5220, L7936, L10440, L12345, L1000000, L1000003, L1073741823, L59, L61, L62, L200, nd_lt_t, nd_lt_f, nd_le_t, nd_le_f, nd_eq_f, nZ_add, nZ_mul, nZ_sub, nZ_lt, nZ_le, nZ_eq, nZ_nat, nZ_div, nZ_rem, nZ_and, nZ_or, and31, nZ_shl, nZ_shr, nZ_m1, nZ_nneg, nZ_nneg', nZ_nlt, nZ_ltn, inR_lt, Nat.not_lt_zero, ob_some, jI, jL, jR, jV, rI0, rI1, rIv, if_true, if_false, ↓reduceIte, Nat.reduceAdd, Nat.reduceMul, Nat.reduceSub, Nat.reduceLT, Nat.reduceEqDiff, Nat.reduceLeDiff, Nat.zero_add, Nat.add_zero, Nat.zero_mul, Nat.mul_zero, Nat.one_mul, Nat.mul_one, and_true, true_and, false_and, and_false, or_true, true_or, or_false, false_or, not_true_eq_false, not_false_eq_true, eq_self, bI_0, bI_1, em_b, hI_ne, hI_at, hA_ne, hA_at, Sh_si, Sh_sA]
    · rw [eq_false c] at he
      rw [if_neg c]
      have bf := w.bK (p := f) (a := a) (by omega) (by omega)
      obtain ⟨h2, e170, F2, q2⟩ := m170 X (d + 107) a 0 1 ((f + (W 408 - 1)) % W 408) (rvg W o f a (W 408) (W 408 - 1)) f (W (60 + 5 * f + a)) (by omega) (by omega) (by omega) (by omega) (by omega) (by omega) (by omega)
      have X2 := X.fr F2 (fun j => rfl)
      obtain ⟨h3, e193, F3⟩ := m193 X2 q2 (d + 7)
      refine ⟨h3, ?_, F2.trans F3⟩
      simp (disch := first | assumption | omega | (simp only [Sh_si, Sh_sA]; assumption)) only [he, e170, e193, p56_0, g56_0, p56_1, g56_1, g56_2, g56_3, g56_4, g56_5, p56_6, g56_6, g56_7, g56_8, g56_9, p56_10, g56_10, p56_11, g56_11, g56_12, g56_13, g56_14, p56_15, g56_15, p56_16, g56_16, p56_17, g56_17, p56_18, g56_18, p56_19, g56_19, p56_20, g56_20, B56_21, g56_21, g56_22, g56_23, g56_24, g56_25, g56_26, g56_27, p56_28, g56_28, p56_29, g56_29, p56_30, g56_30, p56_31, g56_31, g56_32, g56_33, g56_34, p56_35, g56_35, p56_36, g56_36, p56_37, g56_37, p56_38, g56_38, g56_39, g56_40, g56_41, p56_42, g56_42, p56_43, g56_43, p56_44, g56_44, ck56, A57, S57, l57, A58, S58, l58, A59, S59, l59, A60, S60, l60, A61, S61, l61, A62, S62, l62, A63, S63, l63, A64, S64, l64, A65, S65, l65, A66, S66, l66, A67, S67, l67, A68, S68, l68, A69, S69, l69, A70, S70, l70, A71, S71, l71, A72, S72, l72, A73, S73, l73, A74, S74, l74, A75, S75, l75, A76, S76, l76, A77, S77, l77, A78, S78, l78, n232 M1, n169 M1, n203 M1, n200 M1, n227 M1, n168 M1, n212 M1, n250 M1, n223 M1, n201 M1, n245 M1, m190, m218, m218', m196, m244_1, m244_2, m244_3, m244_5, m244_6, m217, m191, L0, L1, L2, L3, L4, L5, L6, L7, L8, L9, L10, L11, L12, L13, L14, L15, L16, L17, L18, L19, L20, L21, L22, L23, L24, L25, L26, L27, L28, L29, L30, L31, L32, L33, L34, L35, L36, L37, L38, L39, L40, L41, L42, L43, L44, L45, L46, L47, L48, L49, L50, L52, L57, L60, L90, L91, L93, L97, L99, L100, L101, L122, L240, L255, L256, L400, L401, L408, L409, L410, L411, L412, L413, L414, L420, L1000, L1001, L1103, L1200, L1240, L2820, L5220, L7936, L10440, L12345, L1000000, L1000003, L1073741823, L59, L61, L62, L200, nd_lt_t, nd_lt_f, nd_le_t, nd_le_f, nd_eq_f, nZ_add, nZ_mul, nZ_sub, nZ_lt, nZ_le, nZ_eq, nZ_nat, nZ_div, nZ_rem, nZ_and, nZ_or, and31, nZ_shl, nZ_shr, nZ_m1, nZ_nneg, nZ_nneg', nZ_nlt, nZ_ltn, inR_lt, Nat.not_lt_zero, ob_some, jI, jL, jR, jV, rI0, rI1, rIv, if_true, if_false, ↓reduceIte, Nat.reduceAdd, Nat.reduceMul, Nat.reduceSub, Nat.reduceLT, Nat.reduceEqDiff, Nat.reduceLeDiff, Nat.zero_add, Nat.add_zero, Nat.zero_mul, Nat.mul_zero, Nat.one_mul, Nat.mul_one, and_true, true_and, false_and, and_false, or_true, true_or, or_false, false_or, not_true_eq_false, not_false_eq_true, eq_self, bI_0, bI_1, em_b, hI_ne, hI_at, hA_ne, hA_at, Sh_si, Sh_sA]
      rfl
  | succ m ih =>
    intro k h hm hk X
    have M1 := X.mm
    have n8 := M1.n8
    have n5 := M1.n5
    have w := X.2.2.1
    have H := X.1
    have hb := rvg_le w (o := o) hf n8 (a := a) (by omega) k
    have hm1 := Nat.mod_lt (f + k) (show W 408 > 0 by omega)
    have hm2 := Nat.mod_lt (f + (k + 1)) (show W 408 > 0 by omega)
    have bf := w.bK (p := (f + (k + 1)) % W 408) (a := a) (by omega) (by omega)
    have er : nZ (f + (k + 1)) - nZ (f + (k + 1)) / nZ (W 408) * nZ (W 408) = nZ ((f + (k + 1)) % W 408) := nZ_rem (by omega) (by omega)
    obtain ⟨h2, e170, F2, q2⟩ := m170 X (d + 107) a 0 1 ((f + k) % W 408) (rvg W o f a (W 408) k) ((f + (k + 1)) % W 408) (W (60 + 5 * ((f + (k + 1)) % W 408) + a)) (by omega) (by omega) (by omega) (by omega) (by omega) (by omega) (by omega)
    have X2 := X.fr F2 (fun j => rfl)
    have M2 := X2.mm
    have e212 := n212 M1 (d + 108) (p := (f + (k + 1)) % W 408) (a := a) (by omega) (by omega)
    have e212' := n212 M2 (d + 108) (p := (f + (k + 1)) % W 408) (a := a) (by omega) (by omega)
    obtain ⟨h3, e193, F3⟩ := m193 X2 q2 (d + 7)
    have X3 := X2.fr F3 (fun j => rfl)
    have htw : tw o 1 (qf W a 0 1 ((f + k) % W 408) (rvg W o f a (W 408) k) ((f + (k + 1)) % W 408) (W (60 + 5 * ((f + (k + 1)) % W 408) + a))) (rvg W o f a (W 408) k - 1) ≤ 9 := tw_le (by decide) (by omega)
    have e191 := m191 (d + 108) (W (60 + 5 * ((f + (k + 1)) % W 408) + a)) (tw o 1 (qf W a 0 1 ((f + k) % W 408) (rvg W o f a (W 408) k) ((f + (k + 1)) % W 408) (W (60 + 5 * ((f + (k + 1)) % W 408) + a))) (rvg W o f a (W 408) k - 1)) (by omega) (by omega) h3
    obtain ⟨h4, e4, F4⟩ := ih (k + 1) h3 (by omega) (by omega) X3
    refine ⟨h4, ?_, (F2.trans F3).trans F4⟩
    rw [← e4, E246_31]
    have z0 : (nZ (W 408) = nZ 0) = False := by
      rw [nZ_eq (by omega) (by decide)]
      exact eq_false (by omega)
    have e193' : qcl (d + 109) 193 [qR (some 56)] h2 = some (some (qI (nZ (tw o 1 (qf W a 0 1 ((f + k) % W 408) (rvg W o f a (W 408) k) ((f + (k + 1)) % W 408) (W (60 + 5 * ((f + (k + 1)) % W 408) + a))) (rvg W o f a (W 408) k - 1)))), h3) := e193
    have e232 := n232 M1 (d + 108)
    simp (disch := first | assumption | omega) only [↓er, e232, jI, jV, L0, L1, nZ_lt, nd_lt_t, if_true, z0, if_false, nZ_add, e212, e212', e170, e193', e191, E246_92]
    rfl
theorem op_ring {h : QH} {W : Nat → Nat} {c : Nat} {T : Nat → Nat} (KK : K1 h W c T) (d : Nat) (a1 a2 : Int32) : Op (d + 120) 44 246 [qI a1, qI a2] h (fun k => Sim h k W c T) := by
  have K := KK.1
  have H := K.sh
  have n8 := K.n8
  have n5 := K.n5
  by_cases hp : ltN a1 (W 408)
  · by_cases ha : ltN a2 (W 409)
    · obtain ⟨o, r, X, F⟩ := KK.ox
      obtain ⟨p, hp2, rfl⟩ := ltN_ex hp
      obtain ⟨a, ha2, rfl⟩ := ltN_ex ha
      obtain ⟨h1, e148, F1, vA1⟩ := c148 X (d + 117) a 0 1 (by omega)
      have X1 := X.fr F1 nW_fV
      have e0 : (p + 0) % W 408 = p := Nat.mod_eq_of_lt (by omega)
      obtain ⟨h2, e2, F2⟩ := c44_53 (o := o) (r := r) (d + 100) p a hp2 ha2 _ 0 h1 rfl (by omega) X1 vA1
      have Xm : MX h2 W o := (K1.mx K F).fr (F1.trans F2) (fun j => nM_fV 58 j (by decide))
      obtain ⟨h3, e3, F3⟩ := m246_31 (o := o) (d + 10) p a hp2 ha2 _ 0 h2 rfl (by omega) Xm
      rw [e0] at e2 e3
      have e2' : qbig (d + 120) 44 53 [sR (some 10), sI (nZ p), sI (nZ a), sR (some 12), sI (nZ (W (60 + 5 * p + a))), sI (nZ p), sI (nZ 1), none, none] [] h1 = some (some (qI (nZ (rng W o p a (W 408)))), h2) := e2
      have e3' : qbig (d + 120) 246 31 [sR (some 56), sI (nZ p), sI (nZ a), sI (nZ (W (60 + 5 * p + a))), sI (nZ p), sI (nZ 1), none] [] h2 = some (some (qI (nZ (rng W o p a (W 408)))), h3) := e3
      have M1 := Xm.mm
      have H2 := Xm.1
      refine ⟨nZ (rng W o p a (W 408)), h2, h3, ?_, ?_, Sim_VM K (((F1.trans F2).mono fV_VM).trans (F3.mono fQ_VM))⟩
      · simp (disch := first | assumption | omega | (simp only [Sh_si, Sh_sA]; assumption)) only [E44, eq_true hp, eq_true ha, e148, e2', A0, l0, A1, l1, A2, l2, A3, l3, A4, l4, A7, l7, A8, l8, g10_0, g10_1, g10_2, g10_3, g10_4, g10_5, g10_6, g10_7, g10_8, g10_9, p10_10, g10_10, p10_11, g10_11, p10_12, g10_12, p10_13, g10_13, ck10, g11_0, g11_1, g11_2, g11_3, p11_4, g11_4, p11_5, g11_5, ck11, p12_0, g12_0, p12_1, g12_1, g12_2, g12_3, g12_4, g12_5, ck12, A13, S13, l13, A14, S14, l14, A15, S15, l15, A16, S16, l16, p17_0, g17_0, g17_1, ck17, A18, S18, l18, p19_0, g19_0, g19_1, g19_2, g19_3, g19_4, g19_5, ck19, A20, S20, l20, A21, S21, l21, A22, S22, l22, A23, S23, l23, A24, S24, l24, R25, R26, p27_0, g27_0, g27_1, ck27, A28, S28, l28, p29_0, g29_0, g29_1, p29_2, g29_2, p29_3, g29_3, p29_4, g29_4, p29_5, g29_5, p29_6, g29_6, p29_7, g29_7, p29_8, g29_8, p29_9, g29_9, g29_10, g29_11, g29_12, g29_13, g29_14, ck29, A30, S30, l30, A31, S31, l31, A32, S32, l32, A33, S33, l33, A34, S34, l34, A35, S35, l35, g36_0, g36_1, g36_2, ck36, A37, S37, l37, A38, S38, l38, A39, S39, l39, g40_0, g40_1, g40_2, g40_3, p40_4, g40_4, ck40, A41, S41, l41, A42, S42, l42, A43, S43, l43, A44, S44, l44, p45_0, g45_0, g45_1, p45_2, g45_2, p45_3, g45_3, p45_4, g45_4, p45_5, g45_5, p45_6, g45_6, p45_7, g45_7, g45_8, g45_9, g45_10, g45_11, g45_12, ck45, A46, S46, l46, A47, S47, l47, A48, S48, l48, A49, S49, l49, A50, S50, l50, A51, S51, l51, B52_0, g52_0, p52_1, g52_1, p52_2, g52_2, g52_3, p52_4, g52_4, ck52, A53, S53, l53, A54, S54, l54, A55, S55, l55, k79 K, k80 K, k72 K, k128 K, k161 K, k88 K, k71 K, k82 K, k76 K, k67 K, k85 K, c10, c18, c21, c43_1, c43_2, c43_3, c43_5, c43_6, L0, L1, L2, L3, L4, L5, L6, L7, L8, L9, L10, L11, L12, L13, L14, L15, L16, L17, L18, L19, L20, L21, L22, L23, L24, L25, L26, L27, L28, L29, L30, L31, L32, L33, L34, L35, L36, L37, L38, L39, L40, L41, L42, L43, L44, L45, L46, L47, L48, L49, L50, L52, L57, L60, L90, L91, L93, L97, L99, L100, L101, L122, L240, L255, L256, L400, L401, L408, L409, L410, L411, L412, L413, L414, L420, L1000, L1001, L1103, L1200, L1240, L2820, L5220, L7936, L10440, L12345, L1000000, L1000003, L1073741823, L59, L61, L62, L200, nd_lt_t, nd_lt_f, nd_le_t, nd_le_f, nd_eq_f, nZ_add, nZ_mul, nZ_sub, nZ_lt, nZ_le, nZ_eq, nZ_nat, nZ_div, nZ_rem, nZ_and, nZ_or, and31, nZ_shl, nZ_shr, nZ_m1, nZ_nneg, nZ_nneg', nZ_nlt, nZ_ltn, inR_lt, Nat.not_lt_zero, ob_some, jI, jL, jR, jV, rI0, rI1, rIv, if_true, if_false, ↓reduceIte, Nat.reduceAdd, Nat.reduceMul, Nat.reduceSub, Nat.reduceLT, Nat.reduceEqDiff, Nat.reduceLeDiff, Nat.zero_add, Nat.add_zero, Nat.zero_mul, Nat.mul_zero, Nat.one_mul, Nat.mul_one, and_true, true_and, false_and, and_false, or_true, true_or, or_false, false_or, not_true_eq_false, not_false_eq_true, eq_self, bI_0, bI_1, em_b, hI_ne, hI_at, hA_ne, hA_at, Sh_si, Sh_sA]
      · simp (disch := first | assumption | omega | (simp only [Sh_si, Sh_sA]; assumption)) only [E246, eq_true hp, eq_true ha, e3', p56_0, g56_0, p56_1, g56_1, g56_2, g56_3, g56_4, g56_5, p56_6, g56_6, g56_7, g56_8, g56_9, p56_10, g56_10, p56_11, g56_11, g56_12, g56_13, g56_14, p56_15, g56_15, p56_16, g56_16, p56_17, g56_17, p56_18, g56_18, p56_19, g56_19, p56_20, g56_20, B56_21, g56_21, g56_22, g56_23, g56_24, g56_25, g56_26, g56_27, p56_28, g56_28, p56_29, g56_29, p56_30, g56_30, p56_31, g56_31, g56_32, g56_33, g56_34, p56_35, g56_35, p56_36, g56_36, p56_37, g56_37, p56_38, g56_38, g56_39, g56_40, g56_41, p56_42, g56_42, p56_43, g56_43, p56_44, g56_44, ck56, A57, S57, l57, A58, S58, l58, A59, S59, l59, A60, S60, l60, A61, S61, l61, A62, S62, l62, A63, S63, l63, A64, S64, l64, A65, S65, l65, A66, S66, l66, A67, S67, l67, A68, S68, l68, A69, S69, l69, A70, S70, l70, A71, S71, l71, A72, S72, l72, A73, S73, l73, A74, S74, l74, A75, S75, l75, A76, S76, l76, A77, S77, l77, A78, S78, l78, n232 M1, n169 M1, n203 M1, n200 M1, n227 M1, n168 M1, n212 M1, n250 M1, n223 M1, n201 M1, n245 M1, m190, m218, m218', m196, m244_1, m244_2, m244_3, m244_5, m244_6, m217, m191, L0, L1, L2, L3, L4, L5, L6, L7, L8, L9, L10, L11, L12, L13, L14, L15, L16, L17, L18, L19, L20, L21, L22, L23, L24, L25, L26, L27, L28, L29, L30, L31, L32, L33, L34, L35, L36, L37, L38, L39, L40, L41, L42, L43, L44, L45, L46, L47, L48, L49, L50, L52, L57, L60, L90, L91, L93, L97, L99, L100, L101, L122, L240, L255, L256, L400, L401, L408, L409, L410, L411, L412, L413, L414, L420, L1000, L1001, L1103, L1200, L1240, L2820, L5220, L7936, L10440, L12345, L1000000, L1000003, L1073741823, L59, L61, L62, L200, nd_lt_t, nd_lt_f, nd_le_t, nd_le_f, nd_eq_f, nZ_add, nZ_mul, nZ_sub, nZ_lt, nZ_le, nZ_eq, nZ_nat, nZ_div, nZ_rem, nZ_and, nZ_or, and31, nZ_shl, nZ_shr, nZ_m1, nZ_nneg, nZ_nneg', nZ_nlt, nZ_ltn, inR_lt, Nat.not_lt_zero, ob_some, jI, jL, jR, jV, rI0, rI1, rIv, if_true, if_false, ↓reduceIte, Nat.reduceAdd, Nat.reduceMul, Nat.reduceSub, Nat.reduceLT, Nat.reduceEqDiff, Nat.reduceLeDiff, Nat.zero_add, Nat.add_zero, Nat.zero_mul, Nat.mul_zero, Nat.one_mul, Nat.mul_one, and_true, true_and, false_and, and_false, or_true, true_or, or_false, false_or, not_true_eq_false, not_false_eq_true, eq_self, bI_0, bI_1, em_b, hI_ne, hI_at, hA_ne, hA_at, Sh_si, Sh_sA]
    · refine ⟨-nZ 1, h, h, ?_, ?_, Sim_id K⟩
      · simp (disch := first | assumption | omega | (simp only [Sh_si, Sh_sA]; assumption)) only [E44, eq_true hp, eq_false ha, A0, l0, A1, l1, A2, l2, A3, l3, A4, l4, A7, l7, A8, l8, g10_0, g10_1, g10_2, g10_3, g10_4, g10_5, g10_6, g10_7, g10_8, g10_9, p10_10, g10_10, p10_11, g10_11, p10_12, g10_12, p10_13, g10_13, ck10, g11_0, g11_1, g11_2, g11_3, p11_4, g11_4, p11_5, g11_5, ck11, p12_0, g12_0, p12_1, g12_1, g12_2, g12_3, g12_4, g12_5, ck12, A13, S13, l13, A14, S14, l14, A15, S15, l15, A16, S16, l16, p17_0, g17_0, g17_1, ck17, A18, S18, l18, p19_0, g19_0, g19_1, g19_2, g19_3, g19_4, g19_5, ck19, A20, S20, l20, A21, S21, l21, A22, S22, l22, A23, S23, l23, A24, S24, l24, R25, R26, p27_0, g27_0, g27_1, ck27, A28, S28, l28, p29_0, g29_0, g29_1, p29_2, g29_2, p29_3, g29_3, p29_4, g29_4, p29_5, g29_5, p29_6, g29_6, p29_7, g29_7, p29_8, g29_8, p29_9, g29_9, g29_10, g29_11, g29_12, g29_13, g29_14, ck29, A30, S30, l30, A31, S31, l31, A32, S32, l32, A33, S33, l33, A34, S34, l34, A35, S35, l35, g36_0, g36_1, g36_2, ck36, A37, S37, l37, A38, S38, l38, A39, S39, l39, g40_0, g40_1, g40_2, g40_3, p40_4, g40_4, ck40, A41, S41, l41, A42, S42, l42, A43, S43, l43, A44, S44, l44, p45_0, g45_0, g45_1, p45_2, g45_2, p45_3, g45_3, p45_4, g45_4, p45_5, g45_5, p45_6, g45_6, p45_7, g45_7, g45_8, g45_9, g45_10, g45_11, g45_12, ck45, A46, S46, l46, A47, S47, l47, A48, S48, l48, A49, S49, l49, A50, S50, l50, A51, S51, l51, B52_0, g52_0, p52_1, g52_1, p52_2, g52_2, g52_3, p52_4, g52_4, ck52, A53, S53, l53, A54, S54, l54, A55, S55, l55, k79 K, k80 K, k72 K, k128 K, k161 K, k88 K, k71 K, k82 K, k76 K, k67 K, k85 K, c10, c18, c21, c43_1, c43_2, c43_3, c43_5, c43_6, L0, L1, L2, L3, L4, L5, L6, L7, L8, L9, L10, L11, L12, L13, L14, L15, L16, L17, L18, L19, L20, L21, L22, L23, L24, L25, L26, L27, L28, L29, L30, L31, L32, L33, L34, L35, L36, L37, L38, L39, L40, L41, L42, L43, L44, L45, L46, L47, L48, L49, L50, L52, L57, L60, L90, L91, L93, L97, L99, L100, L101, L122, L240, L255, L256, L400, L401, L408, L409, L410, L411, L412, L413, L414, L420, L1000, L1001, L1103, L1200, L1240, L2820, L5220, L7936, L10440, L12345, L1000000, L1000003, L1073741823, L59, L61, L62, L200, nd_lt_t, nd_lt_f, nd_le_t, nd_le_f, nd_eq_f, nZ_add, nZ_mul, nZ_sub, nZ_lt, nZ_le, nZ_eq, nZ_nat, nZ_div, nZ_rem, nZ_and, nZ_or, and31, nZ_shl, nZ_shr, nZ_m1, nZ_nneg, nZ_nneg', nZ_nlt, nZ_ltn, inR_lt, Nat.not_lt_zero, ob_some, jI, jL, jR, jV, rI0, rI1, rIv, if_true, if_false, ↓reduceIte, Nat.reduceAdd, Nat.reduceMul, Nat.reduceSub, Nat.reduceLT, Nat.reduceEqDiff, Nat.reduceLeDiff, Nat.zero_add, Nat.add_zero, Nat.zero_mul, Nat.mul_zero, Nat.one_mul, Nat.mul_one, and_true, true_and, false_and, and_false, or_true, true_or, or_false, false_or, not_true_eq_false, not_false_eq_true, eq_self, bI_0, bI_1, em_b, hI_ne, hI_at, hA_ne, hA_at, Sh_si, Sh_sA]
      · have M1 : MM h W := ⟨K.sh, K.mk, K.wi⟩
        have H1 : Sh h := K.sh
        simp (disch := first | assumption | omega | (simp only [Sh_si, Sh_sA]; assumption)) only [E246, eq_true hp, eq_false ha, p56_0, g56_0, p56_1, g56_1, g56_2, g56_3, g56_4, g56_5, p56_6, g56_6, g56_7, g56_8, g56_9, p56_10, g56_10, p56_11, g56_11, g56_12, g56_13, g56_14, p56_15, g56_15, p56_16, g56_16, p56_17, g56_17, p56_18, g56_18, p56_19, g56_19, p56_20, g56_20, B56_21, g56_21, g56_22, g56_23, g56_24, g56_25, g56_26, g56_27, p56_28, g56_28, p56_29, g56_29, p56_30, g56_30, p56_31, g56_31, g56_32, g56_33, g56_34, p56_35, g56_35, p56_36, g56_36, p56_37, g56_37, p56_38, g56_38, g56_39, g56_40, g56_41, p56_42, g56_42, p56_43, g56_43, p56_44, g56_44, ck56, A57, S57, l57, A58, S58, l58, A59, S59, l59, A60, S60, l60, A61, S61, l61, A62, S62, l62, A63, S63, l63, A64, S64, l64, A65, S65, l65, A66, S66, l66, A67, S67, l67, A68, S68, l68, A69, S69, l69, A70, S70, l70, A71, S71, l71, A72, S72, l72, A73, S73, l73, A74, S74, l74, A75, S75, l75, A76, S76, l76, A77, S77, l77, A78, S78, l78, n232 M1, n169 M1, n203 M1, n200 M1, n227 M1, n168 M1, n212 M1, n250 M1, n223 M1, n201 M1, n245 M1, m190, m218, m218', m196, m244_1, m244_2, m244_3, m244_5, m244_6, m217, m191, L0, L1, L2, L3, L4, L5, L6, L7, L8, L9, L10, L11, L12, L13, L14, L15, L16, L17, L18, L19, L20, L21, L22, L23, L24, L25, L26, L27, L28, L29, L30, L31, L32, L33, L34, L35, L36, L37, L38, L39, L40, L41, L42, L43, L44, L45, L46, L47, L48, L49, L50, L52, L57, L60, L90, L91, L93, L97, L99, L100, L101, L122, L240, L255, L256, L400, L401, L408, L409, L410, L411, L412, L413, L414, L420, L1000, L1001, L1103, L1200, L1240, L2820, L5220, L7936, L10440, L12345, L1000000, L1000003, L1073741823, L59, L61, L62, L200, nd_lt_t, nd_lt_f, nd_le_t, nd_le_f, nd_eq_f, nZ_add, nZ_mul, nZ_sub, nZ_lt, nZ_le, nZ_eq, nZ_nat, nZ_div, nZ_rem, nZ_and, nZ_or, and31, nZ_shl, nZ_shr, nZ_m1, nZ_nneg, nZ_nneg', nZ_nlt, nZ_ltn, inR_lt, Nat.not_lt_zero, ob_some, jI, jL, jR, jV, rI0, rI1, rIv, if_true, if_false, ↓reduceIte, Nat.reduceAdd, Nat.reduceMul, Nat.reduceSub, Nat.reduceLT, Nat.reduceEqDiff, Nat.reduceLeDiff, Nat.zero_add, Nat.add_zero, Nat.zero_mul, Nat.mul_zero, Nat.one_mul, Nat.mul_one, and_true, true_and, false_and, and_false, or_true, true_or, or_false, false_or, not_true_eq_false, not_false_eq_true, eq_self, bI_0, bI_1, em_b, hI_ne, hI_at, hA_ne, hA_at, Sh_si, Sh_sA]
  · refine ⟨-nZ 1, h, h, ?_, ?_, Sim_id K⟩
    · simp (disch := first | assumption | omega | (simp only [Sh_si, Sh_sA]; assumption)) only [E44, eq_false hp, A0, l0, A1, l1, A2, l2, A3, l3, A4, l4, A7, l7, A8, l8, g10_0, g10_1, g10_2, g10_3, g10_4, g10_5, g10_6, g10_7, g10_8, g10_9, p10_10, g10_10, p10_11, g10_11, p10_12, g10_12, p10_13, g10_13, ck10, g11_0, g11_1, g11_2, g11_3, p11_4, g11_4, p11_5, g11_5, ck11, p12_0, g12_0, p12_1, g12_1, g12_2, g12_3, g12_4, g12_5, ck12, A13, S13, l13, A14, S14, l14, A15, S15, l15, A16, S16, l16, p17_0, g17_0, g17_1, ck17, A18, S18, l18, p19_0, g19_0, g19_1, g19_2, g19_3, g19_4, g19_5, ck19, A20, S20, l20, A21, S21, l21, A22, S22, l22, A23, S23, l23, A24, S24, l24, R25, R26, p27_0, g27_0, g27_1, ck27, A28, S28, l28, p29_0, g29_0, g29_1, p29_2, g29_2, p29_3, g29_3, p29_4, g29_4, p29_5, g29_5, p29_6, g29_6, p29_7, g29_7, p29_8, g29_8, p29_9, g29_9, g29_10, g29_11, g29_12, g29_13, g29_14, ck29, A30, S30, l30, A31, S31, l31, A32, S32, l32, A33, S33, l33, A34, S34, l34, A35, S35, l35, g36_0, g36_1, g36_2, ck36, A37, S37, l37, A38, S38, l38, A39, S39, l39, g40_0, g40_1, g40_2, g40_3, p40_4, g40_4, ck40, A41, S41, l41, A42, S42, l42, A43, S43, l43, A44, S44, l44, p45_0, g45_0, g45_1, p45_2, g45_2, p45_3, g45_3, p45_4, g45_4, p45_5, g45_5, p45_6, g45_6, p45_7, g45_7, g45_8, g45_9, g45_10, g45_11, g45_12, ck45, A46, S46, l46, A47, S47, l47, A48, S48, l48, A49, S49, l49, A50, S50, l50, A51, S51, l51, B52_0, g52_0, p52_1, g52_1, p52_2, g52_2, g52_3, p52_4, g52_4, ck52, A53, S53, l53, A54, S54, l54, A55, S55, l55, k79 K, k80 K, k72 K, k128 K, k161 K, k88 K, k71 K, k82 K, k76 K, k67 K, k85 K, c10, c18, c21, c43_1, c43_2, c43_3, c43_5, c43_6, L0, L1, L2, L3, L4, L5, L6, L7, L8, L9, L10, L11, L12, L13, L14, L15, L16, L17, L18, L19, L20, L21, L22, L23, L24, L25, L26, L27, L28, L29, L30, L31, L32, L33, L34, L35, L36, L37, L38, L39, L40, L41, L42, L43, L44, L45, L46, L47, L48, L49, L50, L52, L57, L60, L90, L91, L93, L97, L99, L100, L101, L122, L240, L255, L256, L400, L401, L408, L409, L410, L411, L412, L413, L414, L420, L1000, L1001, L1103, L1200, L1240, L2820, L5220, L7936, L10440, L12345, L1000000, L1000003, L1073741823, L59, L61, L62, L200, nd_lt_t, nd_lt_f, nd_le_t, nd_le_f, nd_eq_f, nZ_add, nZ_mul, nZ_sub, nZ_lt, nZ_le, nZ_eq, nZ_nat, nZ_div, nZ_rem, nZ_and, nZ_or, and31, nZ_shl, nZ_shr, nZ_m1, nZ_nneg, nZ_nneg', nZ_nlt, nZ_ltn, inR_lt, Nat.not_lt_zero, ob_some, jI, jL, jR, jV, rI0, rI1, rIv, if_true, if_false, ↓reduceIte, Nat.reduceAdd, Nat.reduceMul, Nat.reduceSub, Nat.reduceLT, Nat.reduceEqDiff, Nat.reduceLeDiff, Nat.zero_add, Nat.add_zero, Nat.zero_mul, Nat.mul_zero, Nat.one_mul, Nat.mul_one, and_true, true_and, false_and, and_false, or_true, true_or, or_false, false_or, not_true_eq_false, not_false_eq_true, eq_self, bI_0, bI_1, em_b, hI_ne, hI_at, hA_ne, hA_at, Sh_si, Sh_sA]
    · have M1 : MM h W := ⟨K.sh, K.mk, K.wi⟩
      have H1 : Sh h := K.sh
      simp (disch := first | assumption | omega | (simp only [Sh_si, Sh_sA]; assumption)) only [E246, eq_false hp, p56_0, g56_0, p56_1, g56_1, g56_2, g56_3, g56_4, g56_5, p56_6, g56_6, g56_7, g56_8, g56_9, p56_10, g56_10, p56_11, g56_11, g56_12, g56_13, g56_14, p56_15, g56_15, p56_16, g56_16, p56_17, g56_17, p56_18, g56_18, p56_19, g56_19, p56_20, g56_20, B56_21, g56_21, g56_22, g56_23, g56_24, g56_25, g56_26, g56_27, p56_28, g56_28, p56_29, g56_29, p56_30, g56_30, p56_31, g56_31, g56_32, g56_33, g56_34, p56_35, g56_35, p56_36, g56_36, p56_37, g56_37, p56_38, g56_38, g56_39, g56_40, g56_41, p56_42, g56_42, p56_43, g56_43, p56_44, g56_44, ck56, A57, S57, l57, A58, S58, l58, A59, S59, l59, A60, S60, l60, A61, S61, l61, A62, S62, l62, A63, S63, l63, A64, S64, l64, A65, S65, l65, A66, S66, l66, A67, S67, l67, A68, S68, l68, A69, S69, l69, A70, S70, l70, A71, S71, l71, A72, S72, l72, A73, S73, l73, A74, S74, l74, A75, S75, l75, A76, S76, l76, A77, S77, l77, A78, S78, l78, n232 M1, n169 M1, n203 M1, n200 M1, n227 M1, n168 M1, n212 M1, n250 M1, n223 M1, n201 M1, n245 M1, m190, m218, m218', m196, m244_1, m244_2, m244_3, m244_5, m244_6, m217, m191, L0, L1, L2, L3, L4, L5, L6, L7, L8, L9, L10, L11, L12, L13, L14, L15, L16, L17, L18, L19, L20, L21, L22, L23, L24, L25, L26, L27, L28, L29, L30, L31, L32, L33, L34, L35, L36, L37, L38, L39, L40, L41, L42, L43, L44, L45, L46, L47, L48, L49, L50, L52, L57, L60, L90, L91, L93, L97, L99, L100, L101, L122, L240, L255, L256, L400, L401, L408, L409, L410, L411, L412, L413, L414, L420, L1000, L1001, L1103, L1200, L1240, L2820, L5220, L7936, L10440, L12345, L1000000, L1000003, L1073741823, L59, L61, L62, L200, nd_lt_t, nd_lt_f, nd_le_t, nd_le_f, nd_eq_f, nZ_add, nZ_mul, nZ_sub, nZ_lt, nZ_le, nZ_eq, nZ_nat, nZ_div, nZ_rem, nZ_and, nZ_or, and31, nZ_shl, nZ_shr, nZ_m1, nZ_nneg, nZ_nneg', nZ_nlt, nZ_ltn, inR_lt, Nat.not_lt_zero, ob_some, jI, jL, jR, jV, rI0, rI1, rIv, if_true, if_false, ↓reduceIte, Nat.reduceAdd, Nat.reduceMul, Nat.reduceSub, Nat.reduceLT, Nat.reduceEqDiff, Nat.reduceLeDiff, Nat.zero_add, Nat.add_zero, Nat.zero_mul, Nat.mul_zero, Nat.one_mul, Nat.mul_one, and_true, true_and, false_and, and_false, or_true, true_or, or_false, false_or, not_true_eq_false, not_false_eq_true, eq_self, bI_0, bI_1, em_b, hI_ne, hI_at, hA_ne, hA_at, Sh_si, Sh_sA]

/-! the plan: reasons -/
theorem WI.sh {W : Nat → Nat} (w : WI W) {i : Nat} (hi : i < 60) : W (100 + 5 * i) < 30 ∧ W (101 + 5 * i) < 8 ∧ W (102 + 5 * i) < 5 ∧ W (103 + 5 * i) < 256 ∧ W (104 + 5 * i) < 2 := by
  have b : ∀ f, f < 5 → W (100 + f + 5 * i) ≤ (if f = 0 then 29 else if f = 1 then 7 else if f = 2 then 4 else if f = 3 then 255 else 1) := by
    intro f hf
    have h1 := w.1 (100 + f + 5 * i) (by omega) (by omega)
    have h2 : (100 + f + 5 * i) % 5 = f := by omega
    unfold bnd at h1
    rw [if_neg (by omega), if_neg (by omega), if_neg (by omega), if_neg (by omega), if_pos (by omega), h2] at h1
    exact h1
  have b0 := b 0 (by decide)
  have b1 := b 1 (by decide)
  have b2 := b 2 (by decide)
  have b3 := b 3 (by decide)
  have b4 := b 4 (by decide)
  simp only [if_true, if_false, reduceIte] at b0 b1 b2 b3 b4
  have : (1 : Nat) ≠ 0 := by decide
  simp at b1 b2 b3 b4
  have b0' : W (100 + 5 * i) ≤ 29 := b0
  omega
/-- what is asked of showing i and learner l -/
def pq (W L : Nat → Nat) (i l : Nat) : Nat → Nat := qf W (W (102 + 5 * i)) (W (100 + 5 * i)) (pc (W (103 + 5 * i))) (W (101 + 5 * i)) (L (5 * W (101 + 5 * i) + W (102 + 5 * i))) l (L (5 * l + W (102 + 5 * i)))
theorem c92 {h : QH} {W : Nat → Nat} {o : Option (List CL)} {r : Option Nat} (X : CX h W o r) (d i l : Nat) (L : Nat → Nat) (hi : i < 60) (hl : l < 8) (P : pL h (W (100 + 5 * i)) L) (A : vA h W (W (102 + 5 * i)) (W (100 + 5 * i)) (pc (W (103 + 5 * i)))) : ∃ k, qcl (d + 3) 92 [qR (some 40), qR (some 11), qR (some 36), qI (nZ i), qI (nZ l)] h = some (none, k) ∧ Fr fV h k ∧ vA k W (W (102 + 5 * i)) (W (100 + 5 * i)) (pc (W (103 + 5 * i))) ∧ vQ k (pq W L i l) := by
  have H := X.1
  obtain ⟨s0, s1', s2', s3', s4'⟩ := X.sh0 hi
  obtain ⟨b0, b1, b2, b3, b4⟩ := X.2.2.2.1.sh hi
  have bp := pc_le _ b3
  obtain ⟨x25, y25⟩ := P _ _ b1 b2
  obtain ⟨x30, y30⟩ := P l _ hl b2
  obtain ⟨k, e149, F, A2, Q2⟩ := c149 X d _ _ _ (W (101 + 5 * i)) (L (5 * W (101 + 5 * i) + W (102 + 5 * i))) l (L (5 * l + W (102 + 5 * i))) A (by omega) (by omega) b2 (by omega) (by omega) (by omega) (by omega)
  refine ⟨k, ?_, F, A2, Q2⟩
  rw [E92]
  simp (disch := first | assumption | omega | (simp only [Sh_si, Sh_sA]; assumption)) only [s0, s1', s2', c18, x25, x30, e149, A0, l0, A1, l1, A2, l2, A3, l3, A4, l4, A7, l7, A8, l8, g10_0, g10_1, g10_2, g10_3, g10_4, g10_5, g10_6, g10_7, g10_8, g10_9, p10_10, g10_10, p10_11, g10_11, p10_12, g10_12, p10_13, g10_13, ck10, g11_0, g11_1, g11_2, g11_3, p11_4, g11_4, p11_5, g11_5, ck11, p12_0, g12_0, p12_1, g12_1, g12_2, g12_3, g12_4, g12_5, ck12, A13, S13, l13, A14, S14, l14, A15, S15, l15, A16, S16, l16, p17_0, g17_0, g17_1, ck17, A18, S18, l18, p19_0, g19_0, g19_1, g19_2, g19_3, g19_4, g19_5, ck19, A20, S20, l20, A21, S21, l21, A22, S22, l22, A23, S23, l23, A24, S24, l24, R25, R26, p27_0, g27_0, g27_1, ck27, A28, S28, l28, p29_0, g29_0, g29_1, p29_2, g29_2, p29_3, g29_3, p29_4, g29_4, p29_5, g29_5, p29_6, g29_6, p29_7, g29_7, p29_8, g29_8, p29_9, g29_9, g29_10, g29_11, g29_12, g29_13, g29_14, ck29, A30, S30, l30, A31, S31, l31, A32, S32, l32, A33, S33, l33, A34, S34, l34, A35, S35, l35, g36_0, g36_1, g36_2, ck36, A37, S37, l37, A38, S38, l38, A39, S39, l39, g40_0, g40_1, g40_2, g40_3, p40_4, g40_4, ck40, A41, S41, l41, A42, S42, l42, A43, S43, l43, A44, S44, l44, p45_0, g45_0, g45_1, p45_2, g45_2, p45_3, g45_3, p45_4, g45_4, p45_5, g45_5, p45_6, g45_6, p45_7, g45_7, g45_8, g45_9, g45_10, g45_11, g45_12, ck45, A46, S46, l46, A47, S47, l47, A48, S48, l48, A49, S49, l49, A50, S50, l50, A51, S51, l51, B52_0, g52_0, p52_1, g52_1, p52_2, g52_2, g52_3, p52_4, g52_4, ck52, A53, S53, l53, A54, S54, l54, A55, S55, l55, L0, L1, L2, L3, L4, L5, L6, L7, L8, L9, L10, L11, L12, L13, L14, L15, L16, L17, L18, L19, L20, L21, L22, L23, L24, L25, L26, L27, L28, L29, L30, L31, L32, L33, L34, L35, L36, L37, L38, L39, L40, L41, L42, L43, L44, L45, L46, L47, L48, L49, L50, L52, L57, L60, L90, L91, L93, L97, L99, L100, L101, L122, L240, L255, L256, L400, L401, L408, L409, L410, L411, L412, L413, L414, L420, L1000, L1001, L1103, L1200, L1240, L2820, L5220, L7936, L10440, L12345, L1000000, L1000003, L1073741823, L59, L61, L62, L200, nd_lt_t, nd_lt_f, nd_le_t, nd_le_f, nd_eq_f, nZ_add, nZ_mul, nZ_sub, nZ_lt, nZ_le, nZ_eq, nZ_nat, nZ_div, nZ_rem, nZ_and, nZ_or, and31, nZ_shl, nZ_shr, nZ_m1, nZ_nneg, nZ_nneg', nZ_nlt, nZ_ltn, inR_lt, Nat.not_lt_zero, ob_some, jI, jL, jR, jV, rI0, rI1, rIv, if_true, if_false, ↓reduceIte, Nat.reduceAdd, Nat.reduceMul, Nat.reduceSub, Nat.reduceLT, Nat.reduceEqDiff, Nat.reduceLeDiff, Nat.zero_add, Nat.add_zero, Nat.zero_mul, Nat.mul_zero, Nat.one_mul, Nat.mul_one, and_true, true_and, false_and, and_false, or_true, true_or, or_false, false_or, not_true_eq_false, not_false_eq_true, eq_self, bI_0, bI_1, em_b, hI_ne, hI_at, hA_ne, hA_at, Sh_si, Sh_sA]
/-- the hours given on a day -/
def pU (h : QH) (y : Nat) (W U : Nat → Nat) : Prop := ∀ l, l < 8 → hI h 43 (y * 8 + l) = nZ (U l) ∧ U l ≤ W (4 * l + 2)
/-- the teller's reason -/
def rT (W L U : Nat → Nat) (i tk : Nat) : Nat :=
  if L (5 * W (101 + 5 * i) + W (102 + 5 * i)) = 0 then 1 else
  if (W (4 * W (101 + 5 * i) + 3)).testBit (W (100 + 5 * i)) = true then 2 else
  if W (4 * W (101 + 5 * i) + 2) - U (W (101 + 5 * i)) < tk then 3 else
  if pc (W (103 + 5 * i)) < 1 ∨ W (40 + 4 * W (102 + 5 * i) + 1) < pc (W (103 + 5 * i)) ∨ (W (103 + 5 * i)).testBit (W (101 + 5 * i)) = true then 4 else 0
theorem c103_44 {h : QH} {W : Nat → Nat} {o : Option (List CL)} {r : Option Nat} (X : CX h W o r) (d y p a m tk : Nat) (L U : Nat → Nat) (b0 : y < 30) (b1 : p < 8) (b2 : a < 5) (b3 : m < 256) (ht : tk < 1000) (P : pL h y L) (Q : pU h y W U) : qbig (d + 4) 103 44 [sR (some 40), sR (some 11), none, sI (nZ tk), sI (nZ y), sI (nZ a), sI (nZ p), sI (nZ m), none] [] h = some (some (qI (nZ (if L (5 * p + a) = 0 then 1 else if (W (4 * p + 3)).testBit y = true then 2 else if W (4 * p + 2) - U p < tk then 3 else if pc m < 1 ∨ W (40 + 4 * a + 1) < pc m ∨ m.testBit p = true then 4 else 0))), h) := by
  have H := X.1
  have bp := pc_le _ b3
  have ec1 := c1 (d + 2) _ b3 h
  obtain ⟨x5, y5⟩ := P p a b1 b2
  obtain ⟨u1, u2⟩ := Q p b1
  have e75 := X.k75 (d + 1) (p := p) (k := y) b1 (by omega)
  have e100 := c100 X (d + 1) y p (U p) b0 b1 u1 u2
  have e71 : qcl (d + 3) 71 [qR (some 17), qI (nZ a), qI 1] h = _ := X.k71 (d + 2) (a := a) (f := 1) b2 (by decide)
  have b41 : W (40 + 4 * a + 1) < 2147483648 := Nat.lt_of_le_of_lt (X.2.2.2.1.1 (40 + 4 * a + 1) (by omega) (by omega)) (bnd_big _)
  have bh : W (4 * p + 2) < 2147483648 := Nat.lt_of_le_of_lt (X.2.2.2.1.1 (4 * p + 2) (by omega) (by omega)) (bnd_big _)
  have ix : nZ y * 40 + nZ (p * 5 + a) = nZ (y * 40 + (p * 5 + a)) := by rw [L40, nZ_mul, nZ_add]
  have z00 : nZ 0 = (0 : Int32) := rfl
  have z10 : ¬(nZ 1 = (0 : Int32)) := by decide
  by_cases c0 : L (5 * p + a) = 0
  · rw [if_pos c0]
    rw [c0] at x5
    rw [E103_44, g40_0 H, ob_some, c18, jI, ob_some, ix, A41 H (by omega), ob_some, x5, if_pos z00]
    rfl
  rw [if_neg c0]
  have ne0 : ¬(nZ (L (5 * p + a)) = 0) := by
    rw [L0, nZ_eq (by omega) (by decide)]
    exact c0
  by_cases c1' : (W (4 * p + 3)).testBit y = true
  · rw [if_pos c1']
    rw [bI_t c1'] at e75
    rw [E103_44, g40_0 H, ob_some, c18, jI, ob_some, ix, A41 H (by omega), ob_some, x5, if_neg ne0, ob_some, g11_0 H, ob_some, e75, jI, if_neg z10]
    rfl
  rw [if_neg c1']
  rw [bI_f c1'] at e75
  by_cases c2' : W (4 * p + 2) - U p < tk
  · rw [if_pos c2']
    have g3 : nZ (W (4 * p + 2) - U p) < nZ tk := by
      rw [nZ_lt (by omega) (by omega)]
      exact c2'
    rw [E103_44, g40_0 H, ob_some, c18, jI, ob_some, ix, A41 H (by omega), ob_some, x5, if_neg ne0, ob_some, g11_0 H, ob_some, e75, jI, if_pos z00, ob_some, g11_0 H, ob_some, e100, jI, if_pos g3]
    rfl
  rw [if_neg c2']
  have g3 : ¬(nZ (W (4 * p + 2) - U p) < nZ tk) := by
    rw [nZ_lt (by omega) (by omega)]
    exact c2'
  by_cases c3 : pc m < 1
  · rw [if_pos (Or.inl c3)]
    have g4 : nZ (pc m) < 1 := by
      rw [L1, nZ_lt (by omega) (by decide)]
      exact c3
    rw [E103_44, g40_0 H, ob_some, c18, jI, ob_some, ix, A41 H (by omega), ob_some, x5, if_neg ne0, ob_some, g11_0 H, ob_some, e75, jI, if_pos z00, ob_some, g11_0 H, ob_some, e100, jI, if_neg g3, ec1, jI, if_pos g4]
    rfl
  have g4 : ¬(nZ (pc m) < 1) := by
    rw [L1, nZ_lt (by omega) (by decide)]
    exact c3
  by_cases c4 : W (40 + 4 * a + 1) < pc m
  · rw [if_pos (Or.inr (Or.inl c4))]
    have g5 : nZ (W (40 + 4 * a + 1)) < nZ (pc m) := by
      rw [nZ_lt (by omega) (by omega)]
      exact c4
    rw [E103_44, g40_0 H, ob_some, c18, jI, ob_some, ix, A41 H (by omega), ob_some, x5, if_neg ne0, ob_some, g11_0 H, ob_some, e75, jI, if_pos z00, ob_some, g11_0 H, ob_some, e100, jI, if_neg g3, ec1, jI, if_neg g4, ob_some, g11_1 H, ob_some, e71, jI, if_pos g5]
    rfl
  have g5 : ¬(nZ (W (40 + 4 * a + 1)) < nZ (pc m)) := by
    rw [nZ_lt (by omega) (by omega)]
    exact c4
  have ebit : ((nZ m >>> (nZ p &&& 31)) &&& 1) = nZ (if m.testBit p = true then 1 else 0) := by
    rw [L31, nZ_and, and31 (by omega), nZ_shr (by omega) (by omega), L1, nZ_and, bit_eq]
  by_cases c5 : m.testBit p = true
  · rw [if_pos (Or.inr (Or.inr c5))]
    rw [if_pos c5] at ebit
    rw [E103_44, g40_0 H, ob_some, c18, jI, ob_some, ix, A41 H (by omega), ob_some, x5, if_neg ne0, ob_some, g11_0 H, ob_some, e75, jI, if_pos z00, ob_some, g11_0 H, ob_some, e100, jI, if_neg g3, ec1, jI, if_neg g4, ob_some, g11_1 H, ob_some, e71, jI, if_neg g5, ebit, if_neg z10]
    rfl
  rw [if_neg (fun z => by
    rcases z with z | z | z
    · exact c3 z
    · exact c4 z
    · exact c5 z)]
  rw [if_neg c5] at ebit
  rw [E103_44, g40_0 H, ob_some, c18, jI, ob_some, ix, A41 H (by omega), ob_some, x5, if_neg ne0, ob_some, g11_0 H, ob_some, e75, jI, if_pos z00, ob_some, g11_0 H, ob_some, e100, jI, if_neg g3, ec1, jI, if_neg g4, ob_some, g11_1 H, ob_some, e71, jI, if_neg g5, ebit, if_pos z00]
  rfl
theorem c103 {h : QH} {W : Nat → Nat} {o : Option (List CL)} {r : Option Nat} (X : CX h W o r) (d i tk : Nat) (L U : Nat → Nat) (hi : i < 60) (ht : tk < 1000) (P : pL h (W (100 + 5 * i)) L) (Q : pU h (W (100 + 5 * i)) W U) : qcl (d + 4) 103 [qR (some 40), qR (some 11), qI (nZ i), qI (nZ tk)] h = some (some (qI (nZ (rT W L U i tk))), h) := by
  have H := X.1
  obtain ⟨s0, s1', s2', s3', s4'⟩ := X.sh0 hi
  obtain ⟨b0, b1, b2, b3, b4⟩ := X.2.2.2.1.sh hi
  have e44 := c103_44 X d _ _ _ _ tk L U b0 b1 b2 b3 ht P Q
  unfold rT
  rw [E103]
  simp (disch := first | assumption | omega | (simp only [Sh_si, Sh_sA]; assumption)) only [s0, s1', s2', s3', e44, A0, l0, A1, l1, A2, l2, A3, l3, A4, l4, A7, l7, A8, l8, g10_0, g10_1, g10_2, g10_3, g10_4, g10_5, g10_6, g10_7, g10_8, g10_9, p10_10, g10_10, p10_11, g10_11, p10_12, g10_12, p10_13, g10_13, ck10, g11_0, g11_1, g11_2, g11_3, p11_4, g11_4, p11_5, g11_5, ck11, p12_0, g12_0, p12_1, g12_1, g12_2, g12_3, g12_4, g12_5, ck12, A13, S13, l13, A14, S14, l14, A15, S15, l15, A16, S16, l16, p17_0, g17_0, g17_1, ck17, A18, S18, l18, p19_0, g19_0, g19_1, g19_2, g19_3, g19_4, g19_5, ck19, A20, S20, l20, A21, S21, l21, A22, S22, l22, A23, S23, l23, A24, S24, l24, R25, R26, p27_0, g27_0, g27_1, ck27, A28, S28, l28, p29_0, g29_0, g29_1, p29_2, g29_2, p29_3, g29_3, p29_4, g29_4, p29_5, g29_5, p29_6, g29_6, p29_7, g29_7, p29_8, g29_8, p29_9, g29_9, g29_10, g29_11, g29_12, g29_13, g29_14, ck29, A30, S30, l30, A31, S31, l31, A32, S32, l32, A33, S33, l33, A34, S34, l34, A35, S35, l35, g36_0, g36_1, g36_2, ck36, A37, S37, l37, A38, S38, l38, A39, S39, l39, g40_0, g40_1, g40_2, g40_3, p40_4, g40_4, ck40, A41, S41, l41, A42, S42, l42, A43, S43, l43, A44, S44, l44, p45_0, g45_0, g45_1, p45_2, g45_2, p45_3, g45_3, p45_4, g45_4, p45_5, g45_5, p45_6, g45_6, p45_7, g45_7, g45_8, g45_9, g45_10, g45_11, g45_12, ck45, A46, S46, l46, A47, S47, l47, A48, S48, l48, A49, S49, l49, A50, S50, l50, A51, S51, l51, B52_0, g52_0, p52_1, g52_1, p52_2, g52_2, g52_3, p52_4, g52_4, ck52, A53, S53, l53, A54, S54, l54, A55, S55, l55, L0, L1, L2, L3, L4, L5, L6, L7, L8, L9, L10, L11, L12, L13, L14, L15, L16, L17, L18, L19, L20, L21, L22, L23, L24, L25, L26, L27, L28, L29, L30, L31, L32, L33, L34, L35, L36, L37, L38, L39, L40, L41, L42, L43, L44, L45, L46, L47, L48, L49, L50, L52, L57, L60, L90, L91, L93, L97, L99, L100, L101, L122, L240, L255, L256, L400, L401, L408, L409, L410, L411, L412, L413, L414, L420, L1000, L1001, L1103, L1200, L1240, L2820, L5220, L7936, L10440, L12345, L1000000, L1000003, L1073741823, L59, L61, L62, L200, nd_lt_t, nd_lt_f, nd_le_t, nd_le_f, nd_eq_f, nZ_add, nZ_mul, nZ_sub, nZ_lt, nZ_le, nZ_eq, nZ_nat, nZ_div, nZ_rem, nZ_and, nZ_or, and31, nZ_shl, nZ_shr, nZ_m1, nZ_nneg, nZ_nneg', nZ_nlt, nZ_ltn, inR_lt, Nat.not_lt_zero, ob_some, jI, jL, jR, jV, rI0, rI1, rIv, if_true, if_false, ↓reduceIte, Nat.reduceAdd, Nat.reduceMul, Nat.reduceSub, Nat.reduceLT, Nat.reduceEqDiff, Nat.reduceLeDiff, Nat.zero_add, Nat.add_zero, Nat.zero_mul, Nat.mul_zero, Nat.one_mul, Nat.mul_one, and_true, true_and, false_and, and_false, or_true, true_or, or_false, false_or, not_true_eq_false, not_false_eq_true, eq_self, bI_0, bI_1, em_b, hI_ne, hI_at, hA_ne, hA_at, Sh_si, Sh_sA]

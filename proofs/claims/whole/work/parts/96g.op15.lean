/-! ===== row ===== -/
theorem WI_know {W : Nat → Nat} (I : WI W) {p a v : Nat} (hp : p < W 408) (ha : a < W 409) (hv : v ≤ 9) : WI (up W (60 + 5 * p + a) v) := by
  obtain ⟨I1, I2, I3, I4, I5, I6⟩ := I
  have n5 := I1 409 (by decide) (by decide)
  have n8 := I1 408 (by decide) (by decide)
  have n60 := I1 410 (by decide) (by decide)
  have b5 : bnd 409 = 5 := rfl
  have b8 : bnd 408 = 8 := rfl
  have b60 : bnd 410 = 60 := rfl
  have hb : bnd (60 + 5 * p + a) = 9 := by
    unfold bnd
    rw [if_neg (by omega), if_neg (by omega), if_neg (by omega), if_pos (by omega)]
  refine ⟨WB_up I1 (by omega), ?_, ?_, ?_, ?_, ?_, ?_⟩
  · intro p q hp hq
    rw [up_ne (by omega), up_ne (by omega)]
    exact I2 p q hp hq
  · intro b hb
    rw [up_ne (by omega)] at hb
    rw [up_ne (by omega)]
    exact I3 b hb
  · intro q b hq hb hn
    rw [up_ne (by omega), up_ne (by omega)] at hn
    rw [up_ne (by omega)]
    exact I4 q b hq hb hn
  · intro s hs
    rw [up_ne (by omega)] at hs
    rw [up_ne (by omega), up_ne (by omega), up_ne (by omega), up_ne (by omega)]
    exact I5 s hs
  · repeat rw [up_ne (by omega)]
    exact I6.1
  · intro p hp hn
    repeat rw [up_ne (by omega)] at hn
    repeat rw [up_ne (by omega)]
    exact I6.2 p hp hn
/-- who of a row is taken -/
def tkn (T : Nat → Nat) (n i : Nat) : Bool := decide (i < n) && decide (T i ≤ 9)
def rowW (W T : Nat → Nat) (n a : Nat) : Nat → Nat → Nat
  | 0 => W
  | i + 1 => if tkn T n i then up (rowW W T n a i) (60 + 5 * i + a) (T i) else rowW W T n a i
theorem rowW_ne {W T : Nat → Nat} {n a : Nat} (hn : n ≤ 8) (ha : a < 5) : ∀ i j, (j < 60 ∨ 100 ≤ j) → rowW W T n a i j = W j := by
  intro i
  induction i with
  | zero => exact fun _ _ => rfl
  | succ i ih =>
    intro j hj
    unfold rowW
    cases e : tkn T n i
    · exact ih j hj
    · have : i < n := by
        unfold tkn at e
        simp at e
        exact e.1
      show up (rowW W T n a i) (60 + 5 * i + a) (T i) j = W j
      rw [up_ne (by omega)]
      exact ih j hj
theorem rowW_WI {W T : Nat → Nat} (I : WI W) {n a : Nat} (hn : n = W 408) (ha : a < W 409) : ∀ i, WI (rowW W T n a i) := by
  have n8 := I.1 408 (by decide) (by decide)
  have b8 : bnd 408 = 8 := rfl
  have n5 := I.1 409 (by decide) (by decide)
  have b5 : bnd 409 = 5 := rfl
  intro i
  induction i with
  | zero => exact I
  | succ i ih =>
    unfold rowW
    cases e : tkn T n i
    · exact ih
    · have h2 : i < n ∧ T i ≤ 9 := by
        unfold tkn at e
        simpa using e
      refine WI_know ih ?_ ?_ h2.2
      · rw [rowW_ne (by omega) (by omega) _ _ (by omega)]
        omega
      · rw [rowW_ne (by omega) (by omega) _ _ (by omega)]
        exact ha
theorem rowW_stay {W T : Nat → Nat} {n a : Nat} : ∀ k j, n ≤ j → rowW W T n a (j + k) = rowW W T n a j := by
  intro k
  induction k with
  | zero => exact fun _ _ => rfl
  | succ k ih =>
    intro j hj
    show rowW W T n a ((j + k) + 1) = _
    have e : tkn T n (j + k) = false := by
      unfold tkn
      simp
      omega
    rw [← ih j hj]
    show (if tkn T n (j + k) then _ else rowW W T n a (j + k)) = _
    rw [e]
    rfl
theorem tkn_none {T : Nat → Nat} {n : Nat} : ∀ k j, n ≤ j → cnt (tkn T n) j k = 0 := by
  intro k
  induction k with
  | zero => exact fun _ _ => rfl
  | succ k ih =>
    intro j hj
    show (if tkn T n j then 1 else 0) + cnt (tkn T n) (j + 1) k = 0
    have e : tkn T n j = false := by
      unfold tkn
      simp
      omega
    rw [e, ih (j + 1) (by omega)]
    rfl
def f16 (b _j : Nat) : Bool := b == 16
/-- the class's loop over a row -/
theorem c56_loop {h : QH} {W : Nat → Nat} {c : Nat} {T : Nat → Nat} (K : K0 h W c T) (d a : Nat) (ha : a < 5) : ∀ k j acc g, T 400 - j = k → j ≤ T 400 → acc + k < 1000 → Fr f16 h g → (∀ x, x < 40 → hI g 16 x = nZ (rowW W T (W 408) a j (60 + x))) → ∃ g', qbig (d + 4) 56 4 [sR (some 10), sI (nZ a), sI (nZ acc), sI (nZ j)] [] g = some (some (qI (nZ (acc + cnt (tkn T (W 408)) j k))), g') ∧ Fr f16 h g' ∧ ∀ x, x < 40 → hI g' 16 x = nZ (rowW W T (W 408) a (j + k) (60 + x)) := by
  have n8 := K.n8
  obtain ⟨t1, t2, t3, t4⟩ := K.kt
  intro k
  induction k with
  | zero =>
    intro j acc g hk hj hac F hx
    have H := F.Sh K.sh
    have e12 : hI g 12 0 = nZ (W 408) := (F.2 12 0 rfl).trans K.c12
    have e27 : hI g 27 0 = nZ (T 400) := (F.2 27 0 rfl).trans t2
    refine ⟨g, ?_, F, hx⟩
    rw [E56_4]
    by_cases z : j < W 408
    · simp (disch := first | assumption | omega | (simp only [Sh_si, Sh_sA]; assumption)) only [e12, e27, show cnt (tkn T (W 408)) j 0 = 0 from rfl, A0, l0, A1, l1, A2, l2, A3, l3, A4, l4, A7, l7, A8, l8, g10_0, g10_1, g10_2, g10_3, g10_4, g10_5, g10_6, g10_7, g10_8, g10_9, p10_10, g10_10, p10_11, g10_11, p10_12, g10_12, p10_13, g10_13, ck10, g11_0, g11_1, g11_2, g11_3, p11_4, g11_4, p11_5, g11_5, ck11, p12_0, g12_0, p12_1, g12_1, g12_2, g12_3, g12_4, g12_5, ck12, A13, S13, l13, A14, S14, l14, A15, S15, l15, A16, S16, l16, p17_0, g17_0, g17_1, ck17, A18, S18, l18, p19_0, g19_0, g19_1, g19_2, g19_3, g19_4, g19_5, ck19, A20, S20, l20, A21, S21, l21, A22, S22, l22, A23, S23, l23, A24, S24, l24, R25, R26, p27_0, g27_0, g27_1, ck27, A28, S28, l28, p29_0, g29_0, g29_1, p29_2, g29_2, p29_3, g29_3, p29_4, g29_4, p29_5, g29_5, p29_6, g29_6, p29_7, g29_7, p29_8, g29_8, p29_9, g29_9, g29_10, g29_11, g29_12, g29_13, g29_14, ck29, A30, S30, l30, A31, S31, l31, A32, S32, l32, A33, S33, l33, A34, S34, l34, A35, S35, l35, g36_0, g36_1, g36_2, ck36, A37, S37, l37, A38, S38, l38, A39, S39, l39, g40_0, g40_1, g40_2, g40_3, p40_4, g40_4, ck40, A41, S41, l41, A42, S42, l42, A43, S43, l43, A44, S44, l44, p45_0, g45_0, g45_1, p45_2, g45_2, p45_3, g45_3, p45_4, g45_4, p45_5, g45_5, p45_6, g45_6, p45_7, g45_7, g45_8, g45_9, g45_10, g45_11, g45_12, ck45, A46, S46, l46, A47, S47, l47, A48, S48, l48, A49, S49, l49, A50, S50, l50, A51, S51, l51, B52_0, g52_0, p52_1, g52_1, p52_2, g52_2, g52_3, p52_4, g52_4, ck52, A53, S53, l53, A54, S54, l54, A55, S55, l55, L0, L1, L2, L3, L4, L5, L6, L7, L8, L9, L10, L11, L12, L13, L14, L15, L16, L17, L18, L19, L20, L21, L22, L23, L24, L25, L26, L27, L28, L29, L30, L31, L32, L33, L34, L35, L36, L37, L38, L39, L40, L41, L42, L43, L44, L45, L46, L47, L48, L49, L50, L52, L57, L60, L90, L91, L93, L97, L99, L100, L101, L122, L240, L255, L256, L400, L401, L408, L409, L410, L411, L412, L413, L414, L420, L1000, L1001, L1103, L1200, L1240, L2820, L5220, L7936, L10440, L12345, L1000000, L1000003, L1073741823, nd_lt_t, nd_lt_f, nd_le_t, nd_le_f, nd_eq_f, nZ_add, nZ_mul, nZ_sub, nZ_lt, nZ_le, nZ_eq, nZ_nat, nZ_div, nZ_rem, nZ_and, nZ_or, and31, nZ_shl, nZ_shr, nZ_m1, nZ_nneg, nZ_nneg', nZ_nlt, nZ_ltn, inR_lt, Nat.not_lt_zero, ob_some, jI, jL, jR, jV, rI0, rI1, rIv, if_true, if_false, ↓reduceIte, Nat.reduceAdd, Nat.reduceMul, Nat.reduceSub, Nat.reduceLT, Nat.reduceEqDiff, Nat.reduceLeDiff, Nat.zero_add, Nat.add_zero, Nat.zero_mul, Nat.mul_zero, Nat.one_mul, Nat.mul_one, and_true, true_and, false_and, and_false, or_true, true_or, or_false, false_or, not_true_eq_false, not_false_eq_true, eq_self, bI_0, bI_1, em_b, hI_ne, hI_at, hA_ne, hA_at, Sh_si, Sh_sA]
    · simp (disch := first | assumption | omega | (simp only [Sh_si, Sh_sA]; assumption)) only [e12, e27, show cnt (tkn T (W 408)) j 0 = 0 from rfl, A0, l0, A1, l1, A2, l2, A3, l3, A4, l4, A7, l7, A8, l8, g10_0, g10_1, g10_2, g10_3, g10_4, g10_5, g10_6, g10_7, g10_8, g10_9, p10_10, g10_10, p10_11, g10_11, p10_12, g10_12, p10_13, g10_13, ck10, g11_0, g11_1, g11_2, g11_3, p11_4, g11_4, p11_5, g11_5, ck11, p12_0, g12_0, p12_1, g12_1, g12_2, g12_3, g12_4, g12_5, ck12, A13, S13, l13, A14, S14, l14, A15, S15, l15, A16, S16, l16, p17_0, g17_0, g17_1, ck17, A18, S18, l18, p19_0, g19_0, g19_1, g19_2, g19_3, g19_4, g19_5, ck19, A20, S20, l20, A21, S21, l21, A22, S22, l22, A23, S23, l23, A24, S24, l24, R25, R26, p27_0, g27_0, g27_1, ck27, A28, S28, l28, p29_0, g29_0, g29_1, p29_2, g29_2, p29_3, g29_3, p29_4, g29_4, p29_5, g29_5, p29_6, g29_6, p29_7, g29_7, p29_8, g29_8, p29_9, g29_9, g29_10, g29_11, g29_12, g29_13, g29_14, ck29, A30, S30, l30, A31, S31, l31, A32, S32, l32, A33, S33, l33, A34, S34, l34, A35, S35, l35, g36_0, g36_1, g36_2, ck36, A37, S37, l37, A38, S38, l38, A39, S39, l39, g40_0, g40_1, g40_2, g40_3, p40_4, g40_4, ck40, A41, S41, l41, A42, S42, l42, A43, S43, l43, A44, S44, l44, p45_0, g45_0, g45_1, p45_2, g45_2, p45_3, g45_3, p45_4, g45_4, p45_5, g45_5, p45_6, g45_6, p45_7, g45_7, g45_8, g45_9, g45_10, g45_11, g45_12, ck45, A46, S46, l46, A47, S47, l47, A48, S48, l48, A49, S49, l49, A50, S50, l50, A51, S51, l51, B52_0, g52_0, p52_1, g52_1, p52_2, g52_2, g52_3, p52_4, g52_4, ck52, A53, S53, l53, A54, S54, l54, A55, S55, l55, L0, L1, L2, L3, L4, L5, L6, L7, L8, L9, L10, L11, L12, L13, L14, L15, L16, L17, L18, L19, L20, L21, L22, L23, L24, L25, L26, L27, L28, L29, L30, L31, L32, L33, L34, L35, L36, L37, L38, L39, L40, L41, L42, L43, L44, L45, L46, L47, L48, L49, L50, L52, L57, L60, L90, L91, L93, L97, L99, L100, L101, L122, L240, L255, L256, L400, L401, L408, L409, L410, L411, L412, L413, L414, L420, L1000, L1001, L1103, L1200, L1240, L2820, L5220, L7936, L10440, L12345, L1000000, L1000003, L1073741823, nd_lt_t, nd_lt_f, nd_le_t, nd_le_f, nd_eq_f, nZ_add, nZ_mul, nZ_sub, nZ_lt, nZ_le, nZ_eq, nZ_nat, nZ_div, nZ_rem, nZ_and, nZ_or, and31, nZ_shl, nZ_shr, nZ_m1, nZ_nneg, nZ_nneg', nZ_nlt, nZ_ltn, inR_lt, Nat.not_lt_zero, ob_some, jI, jL, jR, jV, rI0, rI1, rIv, if_true, if_false, ↓reduceIte, Nat.reduceAdd, Nat.reduceMul, Nat.reduceSub, Nat.reduceLT, Nat.reduceEqDiff, Nat.reduceLeDiff, Nat.zero_add, Nat.add_zero, Nat.zero_mul, Nat.mul_zero, Nat.one_mul, Nat.mul_one, and_true, true_and, false_and, and_false, or_true, true_or, or_false, false_or, not_true_eq_false, not_false_eq_true, eq_self, bI_0, bI_1, em_b, hI_ne, hI_at, hA_ne, hA_at, Sh_si, Sh_sA]
  | succ k ih =>
    intro j acc g hk hj hac F hx
    have H := F.Sh K.sh
    have e12 : hI g 12 0 = nZ (W 408) := (F.2 12 0 rfl).trans K.c12
    have e27 : hI g 27 0 = nZ (T 400) := (F.2 27 0 rfl).trans t2
    have e28 : hI g 28 j = nZ (T j) := (F.2 28 j rfl).trans (t4 j (by omega)).2.1
    have b28 := (t4 j (by omega)).1
    by_cases z : j < W 408
    · by_cases z9 : T j ≤ 9
      · have et : tkn T (W 408) j = true := by
          unfold tkn
          simp [z, z9]
        have F' : Fr f16 h (hsI g 16 (j * 5 + a) (nZ (T j))) := Fr.si rfl F
        obtain ⟨g', q, G, y⟩ := ih (j + 1) (acc + 1) _ (by omega) (by omega) (by omega) F' (by
          intro x hx2
          show _ = nZ ((if tkn T (W 408) j then up (rowW W T (W 408) a j) (60 + 5 * j + a) (T j) else rowW W T (W 408) a j) (60 + x))
          rw [et, if_pos rfl]
          by_cases e : x = j * 5 + a
          · rw [up_at (by omega), hI_at e]
          · rw [up_ne (by omega), hI_ne (by omega)]
            exact hx x hx2)
        refine ⟨g', ?_, G, ?_⟩
        · rw [E56_4]
          have ec : cnt (tkn T (W 408)) j (k + 1) = 1 + cnt (tkn T (W 408)) (j + 1) k := by
            show (if tkn T (W 408) j then 1 else 0) + cnt (tkn T (W 408)) (j + 1) k = _
            rw [et]
            rfl
          rw [ec, ← Nat.add_assoc]
          simp (disch := first | assumption | omega | (simp only [Sh_si, Sh_sA]; assumption)) only [e12, e27, e28, c85, q, A0, l0, A1, l1, A2, l2, A3, l3, A4, l4, A7, l7, A8, l8, g10_0, g10_1, g10_2, g10_3, g10_4, g10_5, g10_6, g10_7, g10_8, g10_9, p10_10, g10_10, p10_11, g10_11, p10_12, g10_12, p10_13, g10_13, ck10, g11_0, g11_1, g11_2, g11_3, p11_4, g11_4, p11_5, g11_5, ck11, p12_0, g12_0, p12_1, g12_1, g12_2, g12_3, g12_4, g12_5, ck12, A13, S13, l13, A14, S14, l14, A15, S15, l15, A16, S16, l16, p17_0, g17_0, g17_1, ck17, A18, S18, l18, p19_0, g19_0, g19_1, g19_2, g19_3, g19_4, g19_5, ck19, A20, S20, l20, A21, S21, l21, A22, S22, l22, A23, S23, l23, A24, S24, l24, R25, R26, p27_0, g27_0, g27_1, ck27, A28, S28, l28, p29_0, g29_0, g29_1, p29_2, g29_2, p29_3, g29_3, p29_4, g29_4, p29_5, g29_5, p29_6, g29_6, p29_7, g29_7, p29_8, g29_8, p29_9, g29_9, g29_10, g29_11, g29_12, g29_13, g29_14, ck29, A30, S30, l30, A31, S31, l31, A32, S32, l32, A33, S33, l33, A34, S34, l34, A35, S35, l35, g36_0, g36_1, g36_2, ck36, A37, S37, l37, A38, S38, l38, A39, S39, l39, g40_0, g40_1, g40_2, g40_3, p40_4, g40_4, ck40, A41, S41, l41, A42, S42, l42, A43, S43, l43, A44, S44, l44, p45_0, g45_0, g45_1, p45_2, g45_2, p45_3, g45_3, p45_4, g45_4, p45_5, g45_5, p45_6, g45_6, p45_7, g45_7, g45_8, g45_9, g45_10, g45_11, g45_12, ck45, A46, S46, l46, A47, S47, l47, A48, S48, l48, A49, S49, l49, A50, S50, l50, A51, S51, l51, B52_0, g52_0, p52_1, g52_1, p52_2, g52_2, g52_3, p52_4, g52_4, ck52, A53, S53, l53, A54, S54, l54, A55, S55, l55, L0, L1, L2, L3, L4, L5, L6, L7, L8, L9, L10, L11, L12, L13, L14, L15, L16, L17, L18, L19, L20, L21, L22, L23, L24, L25, L26, L27, L28, L29, L30, L31, L32, L33, L34, L35, L36, L37, L38, L39, L40, L41, L42, L43, L44, L45, L46, L47, L48, L49, L50, L52, L57, L60, L90, L91, L93, L97, L99, L100, L101, L122, L240, L255, L256, L400, L401, L408, L409, L410, L411, L412, L413, L414, L420, L1000, L1001, L1103, L1200, L1240, L2820, L5220, L7936, L10440, L12345, L1000000, L1000003, L1073741823, nd_lt_t, nd_lt_f, nd_le_t, nd_le_f, nd_eq_f, nZ_add, nZ_mul, nZ_sub, nZ_lt, nZ_le, nZ_eq, nZ_nat, nZ_div, nZ_rem, nZ_and, nZ_or, and31, nZ_shl, nZ_shr, nZ_m1, nZ_nneg, nZ_nneg', nZ_nlt, nZ_ltn, inR_lt, Nat.not_lt_zero, ob_some, jI, jL, jR, jV, rI0, rI1, rIv, if_true, if_false, ↓reduceIte, Nat.reduceAdd, Nat.reduceMul, Nat.reduceSub, Nat.reduceLT, Nat.reduceEqDiff, Nat.reduceLeDiff, Nat.zero_add, Nat.add_zero, Nat.zero_mul, Nat.mul_zero, Nat.one_mul, Nat.mul_one, and_true, true_and, false_and, and_false, or_true, true_or, or_false, false_or, not_true_eq_false, not_false_eq_true, eq_self, bI_0, bI_1, em_b, hI_ne, hI_at, hA_ne, hA_at, Sh_si, Sh_sA]
        · intro x hx2
          rw [y x hx2, show j + (k + 1) = j + 1 + k by omega]
      · have et : tkn T (W 408) j = false := by
          unfold tkn
          simp
          omega
        obtain ⟨g', q, G, y⟩ := ih (j + 1) acc g (by omega) (by omega) (by omega) F (by
          intro x hx2
          show _ = nZ ((if tkn T (W 408) j then up (rowW W T (W 408) a j) (60 + 5 * j + a) (T j) else rowW W T (W 408) a j) (60 + x))
          rw [et]
          exact hx x hx2)
        refine ⟨g', ?_, G, ?_⟩
        · rw [E56_4]
          have ec : cnt (tkn T (W 408)) j (k + 1) = cnt (tkn T (W 408)) (j + 1) k := by
            show (if tkn T (W 408) j then 1 else 0) + cnt (tkn T (W 408)) (j + 1) k = _
            rw [et]
            exact Nat.zero_add _
          rw [ec]
          simp (disch := first | assumption | omega | (simp only [Sh_si, Sh_sA]; assumption)) only [e12, e27, e28, q, A0, l0, A1, l1, A2, l2, A3, l3, A4, l4, A7, l7, A8, l8, g10_0, g10_1, g10_2, g10_3, g10_4, g10_5, g10_6, g10_7, g10_8, g10_9, p10_10, g10_10, p10_11, g10_11, p10_12, g10_12, p10_13, g10_13, ck10, g11_0, g11_1, g11_2, g11_3, p11_4, g11_4, p11_5, g11_5, ck11, p12_0, g12_0, p12_1, g12_1, g12_2, g12_3, g12_4, g12_5, ck12, A13, S13, l13, A14, S14, l14, A15, S15, l15, A16, S16, l16, p17_0, g17_0, g17_1, ck17, A18, S18, l18, p19_0, g19_0, g19_1, g19_2, g19_3, g19_4, g19_5, ck19, A20, S20, l20, A21, S21, l21, A22, S22, l22, A23, S23, l23, A24, S24, l24, R25, R26, p27_0, g27_0, g27_1, ck27, A28, S28, l28, p29_0, g29_0, g29_1, p29_2, g29_2, p29_3, g29_3, p29_4, g29_4, p29_5, g29_5, p29_6, g29_6, p29_7, g29_7, p29_8, g29_8, p29_9, g29_9, g29_10, g29_11, g29_12, g29_13, g29_14, ck29, A30, S30, l30, A31, S31, l31, A32, S32, l32, A33, S33, l33, A34, S34, l34, A35, S35, l35, g36_0, g36_1, g36_2, ck36, A37, S37, l37, A38, S38, l38, A39, S39, l39, g40_0, g40_1, g40_2, g40_3, p40_4, g40_4, ck40, A41, S41, l41, A42, S42, l42, A43, S43, l43, A44, S44, l44, p45_0, g45_0, g45_1, p45_2, g45_2, p45_3, g45_3, p45_4, g45_4, p45_5, g45_5, p45_6, g45_6, p45_7, g45_7, g45_8, g45_9, g45_10, g45_11, g45_12, ck45, A46, S46, l46, A47, S47, l47, A48, S48, l48, A49, S49, l49, A50, S50, l50, A51, S51, l51, B52_0, g52_0, p52_1, g52_1, p52_2, g52_2, g52_3, p52_4, g52_4, ck52, A53, S53, l53, A54, S54, l54, A55, S55, l55, L0, L1, L2, L3, L4, L5, L6, L7, L8, L9, L10, L11, L12, L13, L14, L15, L16, L17, L18, L19, L20, L21, L22, L23, L24, L25, L26, L27, L28, L29, L30, L31, L32, L33, L34, L35, L36, L37, L38, L39, L40, L41, L42, L43, L44, L45, L46, L47, L48, L49, L50, L52, L57, L60, L90, L91, L93, L97, L99, L100, L101, L122, L240, L255, L256, L400, L401, L408, L409, L410, L411, L412, L413, L414, L420, L1000, L1001, L1103, L1200, L1240, L2820, L5220, L7936, L10440, L12345, L1000000, L1000003, L1073741823, nd_lt_t, nd_lt_f, nd_le_t, nd_le_f, nd_eq_f, nZ_add, nZ_mul, nZ_sub, nZ_lt, nZ_le, nZ_eq, nZ_nat, nZ_div, nZ_rem, nZ_and, nZ_or, and31, nZ_shl, nZ_shr, nZ_m1, nZ_nneg, nZ_nneg', nZ_nlt, nZ_ltn, inR_lt, Nat.not_lt_zero, ob_some, jI, jL, jR, jV, rI0, rI1, rIv, if_true, if_false, ↓reduceIte, Nat.reduceAdd, Nat.reduceMul, Nat.reduceSub, Nat.reduceLT, Nat.reduceEqDiff, Nat.reduceLeDiff, Nat.zero_add, Nat.add_zero, Nat.zero_mul, Nat.mul_zero, Nat.one_mul, Nat.mul_one, and_true, true_and, false_and, and_false, or_true, true_or, or_false, false_or, not_true_eq_false, not_false_eq_true, eq_self, bI_0, bI_1, em_b, hI_ne, hI_at, hA_ne, hA_at, Sh_si, Sh_sA]
        · intro x hx2
          rw [y x hx2, show j + (k + 1) = j + 1 + k by omega]
    · refine ⟨g, ?_, F, ?_⟩
      · rw [E56_4, tkn_none (k + 1) j (by omega)]
        simp (disch := first | assumption | omega | (simp only [Sh_si, Sh_sA]; assumption)) only [e12, A0, l0, A1, l1, A2, l2, A3, l3, A4, l4, A7, l7, A8, l8, g10_0, g10_1, g10_2, g10_3, g10_4, g10_5, g10_6, g10_7, g10_8, g10_9, p10_10, g10_10, p10_11, g10_11, p10_12, g10_12, p10_13, g10_13, ck10, g11_0, g11_1, g11_2, g11_3, p11_4, g11_4, p11_5, g11_5, ck11, p12_0, g12_0, p12_1, g12_1, g12_2, g12_3, g12_4, g12_5, ck12, A13, S13, l13, A14, S14, l14, A15, S15, l15, A16, S16, l16, p17_0, g17_0, g17_1, ck17, A18, S18, l18, p19_0, g19_0, g19_1, g19_2, g19_3, g19_4, g19_5, ck19, A20, S20, l20, A21, S21, l21, A22, S22, l22, A23, S23, l23, A24, S24, l24, R25, R26, p27_0, g27_0, g27_1, ck27, A28, S28, l28, p29_0, g29_0, g29_1, p29_2, g29_2, p29_3, g29_3, p29_4, g29_4, p29_5, g29_5, p29_6, g29_6, p29_7, g29_7, p29_8, g29_8, p29_9, g29_9, g29_10, g29_11, g29_12, g29_13, g29_14, ck29, A30, S30, l30, A31, S31, l31, A32, S32, l32, A33, S33, l33, A34, S34, l34, A35, S35, l35, g36_0, g36_1, g36_2, ck36, A37, S37, l37, A38, S38, l38, A39, S39, l39, g40_0, g40_1, g40_2, g40_3, p40_4, g40_4, ck40, A41, S41, l41, A42, S42, l42, A43, S43, l43, A44, S44, l44, p45_0, g45_0, g45_1, p45_2, g45_2, p45_3, g45_3, p45_4, g45_4, p45_5, g45_5, p45_6, g45_6, p45_7, g45_7, g45_8, g45_9, g45_10, g45_11, g45_12, ck45, A46, S46, l46, A47, S47, l47, A48, S48, l48, A49, S49, l49, A50, S50, l50, A51, S51, l51, B52_0, g52_0, p52_1, g52_1, p52_2, g52_2, g52_3, p52_4, g52_4, ck52, A53, S53, l53, A54, S54, l54, A55, S55, l55, L0, L1, L2, L3, L4, L5, L6, L7, L8, L9, L10, L11, L12, L13, L14, L15, L16, L17, L18, L19, L20, L21, L22, L23, L24, L25, L26, L27, L28, L29, L30, L31, L32, L33, L34, L35, L36, L37, L38, L39, L40, L41, L42, L43, L44, L45, L46, L47, L48, L49, L50, L52, L57, L60, L90, L91, L93, L97, L99, L100, L101, L122, L240, L255, L256, L400, L401, L408, L409, L410, L411, L412, L413, L414, L420, L1000, L1001, L1103, L1200, L1240, L2820, L5220, L7936, L10440, L12345, L1000000, L1000003, L1073741823, nd_lt_t, nd_lt_f, nd_le_t, nd_le_f, nd_eq_f, nZ_add, nZ_mul, nZ_sub, nZ_lt, nZ_le, nZ_eq, nZ_nat, nZ_div, nZ_rem, nZ_and, nZ_or, and31, nZ_shl, nZ_shr, nZ_m1, nZ_nneg, nZ_nneg', nZ_nlt, nZ_ltn, inR_lt, Nat.not_lt_zero, ob_some, jI, jL, jR, jV, rI0, rI1, rIv, if_true, if_false, ↓reduceIte, Nat.reduceAdd, Nat.reduceMul, Nat.reduceSub, Nat.reduceLT, Nat.reduceEqDiff, Nat.reduceLeDiff, Nat.zero_add, Nat.add_zero, Nat.zero_mul, Nat.mul_zero, Nat.one_mul, Nat.mul_one, and_true, true_and, false_and, and_false, or_true, true_or, or_false, false_or, not_true_eq_false, not_false_eq_true, eq_self, bI_0, bI_1, em_b, hI_ne, hI_at, hA_ne, hA_at, Sh_si, Sh_sA]
      · intro x hx2
        rw [rowW_stay (k + 1) j (by omega)]
        exact hx x hx2
def fM (b j : Nat) : Bool := b == 58 || (b == 56 && j == 6)
/-- the reference's -/
theorem m247_loop {h : QH} {W T : Nat → Nat} (M : MM h W) (d a L : Nat) (hL : L ≤ 400) (ha : a < W 409) (t4 : ∀ i, i < 400 → T i < 256 ∧ hI h 62 i = sB (T i)) : ∀ k j acc sl g, L - j = k → j ≤ L → acc + k < 1000 → sl + k < 1000 → Fr fM h g → MK g (rowW W T (W 408) a j) → hI g 56 6 = nZ sl → ∃ g', qbig (d + 4) 247 46 [sR (some 56), sI (nZ a), sI (nZ L), sI (nZ acc), sI (nZ j), none] [] g = some (some (qI (nZ (acc + cnt (tkn T (W 408)) j k))), okM' g') ∧ Fr fM h g' ∧ MK g' (rowW W T (W 408) a (j + k)) ∧ hI g' 56 6 = nZ (sl + (k - cnt (tkn T (W 408)) j k)) := by
  have n8 := M.n8
  have n5 := M.n5
  intro k
  induction k with
  | zero =>
    intro j acc sl g hk hj hac hsl F Mg es
    have M1 : MM g (rowW W T (W 408) a j) := ⟨F.Sh M.1, Mg, rowW_WI M.2.2 rfl ha j⟩
    have H1 := M1.1
    refine ⟨g, ?_, F, Mg, ?_⟩
    · rw [E247_46]
      simp (disch := first | assumption | omega | (simp only [Sh_si, Sh_sA]; assumption)) only [show cnt (tkn T (W 408)) j 0 = 0 from rfl, p56_0, g56_0, p56_1, g56_1, g56_2, g56_3, g56_4, g56_5, p56_6, g56_6, g56_7, g56_8, g56_9, p56_10, g56_10, p56_11, g56_11, g56_12, g56_13, g56_14, p56_15, g56_15, p56_16, g56_16, p56_17, g56_17, p56_18, g56_18, p56_19, g56_19, p56_20, g56_20, B56_21, g56_21, g56_22, g56_23, g56_24, g56_25, g56_26, g56_27, p56_28, g56_28, p56_29, g56_29, p56_30, g56_30, p56_31, g56_31, g56_32, g56_33, g56_34, p56_35, g56_35, p56_36, g56_36, p56_37, g56_37, p56_38, g56_38, g56_39, g56_40, g56_41, p56_42, g56_42, p56_43, g56_43, p56_44, g56_44, ck56, A57, S57, l57, A58, S58, l58, A59, S59, l59, A60, S60, l60, A61, S61, l61, A62, S62, l62, A63, S63, l63, A64, S64, l64, A65, S65, l65, A66, S66, l66, A67, S67, l67, A68, S68, l68, A69, S69, l69, A70, S70, l70, A71, S71, l71, A72, S72, l72, A73, S73, l73, A74, S74, l74, A75, S75, l75, A76, S76, l76, A77, S77, l77, A78, S78, l78, n232 M1, n169 M1, n203 M1, n200 M1, n227 M1, n168 M1, n212 M1, n250 M1, n223 M1, n201 M1, n245 M1, m190, m218, m218', m196, m244_1, m244_2, m244_3, m244_5, m244_6, m217, m191, L0, L1, L2, L3, L4, L5, L6, L7, L8, L9, L10, L11, L12, L13, L14, L15, L16, L17, L18, L19, L20, L21, L22, L23, L24, L25, L26, L27, L28, L29, L30, L31, L32, L33, L34, L35, L36, L37, L38, L39, L40, L41, L42, L43, L44, L45, L46, L47, L48, L49, L50, L52, L57, L60, L90, L91, L93, L97, L99, L100, L101, L122, L240, L255, L256, L400, L401, L408, L409, L410, L411, L412, L413, L414, L420, L1000, L1001, L1103, L1200, L1240, L2820, L5220, L7936, L10440, L12345, L1000000, L1000003, L1073741823, nd_lt_t, nd_lt_f, nd_le_t, nd_le_f, nd_eq_f, nZ_add, nZ_mul, nZ_sub, nZ_lt, nZ_le, nZ_eq, nZ_nat, nZ_div, nZ_rem, nZ_and, nZ_or, and31, nZ_shl, nZ_shr, nZ_m1, nZ_nneg, nZ_nneg', nZ_nlt, nZ_ltn, inR_lt, Nat.not_lt_zero, ob_some, jI, jL, jR, jV, rI0, rI1, rIv, if_true, if_false, ↓reduceIte, Nat.reduceAdd, Nat.reduceMul, Nat.reduceSub, Nat.reduceLT, Nat.reduceEqDiff, Nat.reduceLeDiff, Nat.zero_add, Nat.add_zero, Nat.zero_mul, Nat.mul_zero, Nat.one_mul, Nat.mul_one, and_true, true_and, false_and, and_false, or_true, true_or, or_false, false_or, not_true_eq_false, not_false_eq_true, eq_self, bI_0, bI_1, em_b, hI_ne, hI_at, hA_ne, hA_at, Sh_si, Sh_sA]
    · rw [es]
      rfl
  | succ k ih =>
    intro j acc sl g hk hj hac hsl F Mg es
    have M1 : MM g (rowW W T (W 408) a j) := ⟨F.Sh M.1, Mg, rowW_WI M.2.2 rfl ha j⟩
    have H1 := M1.1
    have e408 : rowW W T (W 408) a j 408 = W 408 := rowW_ne (by omega) (by omega) _ _ (by omega)
    have e62 : hI g 62 j = sB (T j) := (F.2 62 j rfl).trans (t4 j (by omega)).2
    have b62 := (t4 j (by omega)).1
    have cl := cnt_le (tkn T (W 408)) k (j + 1)
    by_cases z : j < W 408 ∧ T j ≤ 9
    · have et : tkn T (W 408) j = true := by
        unfold tkn
        simp [z]
      have esb : sB (T j) = nZ (T j) := by
        unfold sB
        rw [if_pos (by omega)]
      have hin : inR (nZ (T j)) 0 9 := by
        rw [inR_n (by omega)]
        omega
      have ec : cnt (tkn T (W 408)) j (k + 1) = 1 + cnt (tkn T (W 408)) (j + 1) k := by
        show (if tkn T (W 408) j then 1 else 0) + cnt (tkn T (W 408)) (j + 1) k = _
        rw [et]
        rfl
      have F' : Fr fM h (hsI (hsI g 58 (60 + 5 * j + a) (nZ (T j))) 56 6 (nZ sl)) := Fr.si rfl (Fr.si rfl F)
      obtain ⟨g', q, G, y, ys⟩ := ih (j + 1) (acc + 1) sl _ (by omega) (by omega) (by omega) (by omega) F' (by
        show MK _ (if tkn T (W 408) j then up (rowW W T (W 408) a j) (60 + 5 * j + a) (T j) else rowW W T (W 408) a j)
        rw [et, if_pos rfl]
        exact MK.si (by decide) (MK.up Mg (by omega))) (hI_at rfl)
      refine ⟨g', ?_, G, ?_, ?_⟩
      · rw [E247_46, ec, ← Nat.add_assoc]
        have z10 : (nZ 1 = nZ 0) = False := by decide
        simp (disch := first | assumption | omega | (simp only [Sh_si, Sh_sA]; assumption)) only [e408, e62, esb, eq_true hin, E247_110, es, q, p56_0, g56_0, p56_1, g56_1, g56_2, g56_3, g56_4, g56_5, p56_6, g56_6, g56_7, g56_8, g56_9, p56_10, g56_10, p56_11, g56_11, g56_12, g56_13, g56_14, p56_15, g56_15, p56_16, g56_16, p56_17, g56_17, p56_18, g56_18, p56_19, g56_19, p56_20, g56_20, B56_21, g56_21, g56_22, g56_23, g56_24, g56_25, g56_26, g56_27, p56_28, g56_28, p56_29, g56_29, p56_30, g56_30, p56_31, g56_31, g56_32, g56_33, g56_34, p56_35, g56_35, p56_36, g56_36, p56_37, g56_37, p56_38, g56_38, g56_39, g56_40, g56_41, p56_42, g56_42, p56_43, g56_43, p56_44, g56_44, ck56, A57, S57, l57, A58, S58, l58, A59, S59, l59, A60, S60, l60, A61, S61, l61, A62, S62, l62, A63, S63, l63, A64, S64, l64, A65, S65, l65, A66, S66, l66, A67, S67, l67, A68, S68, l68, A69, S69, l69, A70, S70, l70, A71, S71, l71, A72, S72, l72, A73, S73, l73, A74, S74, l74, A75, S75, l75, A76, S76, l76, A77, S77, l77, A78, S78, l78, n232 M1, n169 M1, n203 M1, n200 M1, n227 M1, n168 M1, n212 M1, n250 M1, n223 M1, n201 M1, n245 M1, m190, m218, m218', m196, m244_1, m244_2, m244_3, m244_5, m244_6, m217, m191, L0, L1, L2, L3, L4, L5, L6, L7, L8, L9, L10, L11, L12, L13, L14, L15, L16, L17, L18, L19, L20, L21, L22, L23, L24, L25, L26, L27, L28, L29, L30, L31, L32, L33, L34, L35, L36, L37, L38, L39, L40, L41, L42, L43, L44, L45, L46, L47, L48, L49, L50, L52, L57, L60, L90, L91, L93, L97, L99, L100, L101, L122, L240, L255, L256, L400, L401, L408, L409, L410, L411, L412, L413, L414, L420, L1000, L1001, L1103, L1200, L1240, L2820, L5220, L7936, L10440, L12345, L1000000, L1000003, L1073741823, nd_lt_t, nd_lt_f, nd_le_t, nd_le_f, nd_eq_f, nZ_add, nZ_mul, nZ_sub, nZ_lt, nZ_le, nZ_eq, nZ_nat, nZ_div, nZ_rem, nZ_and, nZ_or, and31, nZ_shl, nZ_shr, nZ_m1, nZ_nneg, nZ_nneg', nZ_nlt, nZ_ltn, inR_lt, Nat.not_lt_zero, ob_some, jI, jL, jR, jV, rI0, rI1, rIv, if_true, if_false, ↓reduceIte, Nat.reduceAdd, Nat.reduceMul, Nat.reduceSub, Nat.reduceLT, Nat.reduceEqDiff, Nat.reduceLeDiff, Nat.zero_add, Nat.add_zero, Nat.zero_mul, Nat.mul_zero, Nat.one_mul, Nat.mul_one, and_true, true_and, false_and, and_false, or_true, true_or, or_false, false_or, not_true_eq_false, not_false_eq_true, eq_self, bI_0, bI_1, em_b, hI_ne, hI_at, hA_ne, hA_at, Sh_si, Sh_sA]
      · rw [show j + (k + 1) = j + 1 + k by omega]
        exact y
      · rw [ys, ec, show k + 1 - (1 + cnt (tkn T (W 408)) (j + 1) k) = k - cnt (tkn T (W 408)) (j + 1) k by omega]
    · have et : tkn T (W 408) j = false := by
        unfold tkn
        simp
        omega
      have ec : cnt (tkn T (W 408)) j (k + 1) = cnt (tkn T (W 408)) (j + 1) k := by
        show (if tkn T (W 408) j then 1 else 0) + cnt (tkn T (W 408)) (j + 1) k = _
        rw [et]
        exact Nat.zero_add _
      have F' : Fr fM h (hsI g 56 6 (nZ (sl + 1))) := Fr.si rfl F
      obtain ⟨g', q, G, y, ys⟩ := ih (j + 1) acc (sl + 1) _ (by omega) (by omega) (by omega) (by omega) F' (by
        show MK _ (if tkn T (W 408) j then up (rowW W T (W 408) a j) (60 + 5 * j + a) (T j) else rowW W T (W 408) a j)
        rw [et]
        exact MK.si (by decide) Mg) (hI_at rfl)
      refine ⟨g', ?_, G, ?_, ?_⟩
      · rw [E247_46, ec]
        by_cases z1 : j < W 408
        · have hin : ¬inR (sB (T j)) 0 9 := by
            have h9 : ¬T j ≤ 9 := fun y => z ⟨z1, y⟩
            unfold sB
            by_cases z2 : T j < 128
            · rw [if_pos z2, inR_n (by omega)]
              omega
            · rw [if_neg z2]
              have : ∀ t, t < 256 → 128 ≤ t → ¬inR (nZ t - nZ 256) 0 9 := by decide +kernel
              exact this _ b62 (by omega)
          simp (disch := first | assumption | omega | (simp only [Sh_si, Sh_sA]; assumption)) only [e408, e62, eq_false hin, E247_110, es, q, p56_0, g56_0, p56_1, g56_1, g56_2, g56_3, g56_4, g56_5, p56_6, g56_6, g56_7, g56_8, g56_9, p56_10, g56_10, p56_11, g56_11, g56_12, g56_13, g56_14, p56_15, g56_15, p56_16, g56_16, p56_17, g56_17, p56_18, g56_18, p56_19, g56_19, p56_20, g56_20, B56_21, g56_21, g56_22, g56_23, g56_24, g56_25, g56_26, g56_27, p56_28, g56_28, p56_29, g56_29, p56_30, g56_30, p56_31, g56_31, g56_32, g56_33, g56_34, p56_35, g56_35, p56_36, g56_36, p56_37, g56_37, p56_38, g56_38, g56_39, g56_40, g56_41, p56_42, g56_42, p56_43, g56_43, p56_44, g56_44, ck56, A57, S57, l57, A58, S58, l58, A59, S59, l59, A60, S60, l60, A61, S61, l61, A62, S62, l62, A63, S63, l63, A64, S64, l64, A65, S65, l65, A66, S66, l66, A67, S67, l67, A68, S68, l68, A69, S69, l69, A70, S70, l70, A71, S71, l71, A72, S72, l72, A73, S73, l73, A74, S74, l74, A75, S75, l75, A76, S76, l76, A77, S77, l77, A78, S78, l78, n232 M1, n169 M1, n203 M1, n200 M1, n227 M1, n168 M1, n212 M1, n250 M1, n223 M1, n201 M1, n245 M1, m190, m218, m218', m196, m244_1, m244_2, m244_3, m244_5, m244_6, m217, m191, L0, L1, L2, L3, L4, L5, L6, L7, L8, L9, L10, L11, L12, L13, L14, L15, L16, L17, L18, L19, L20, L21, L22, L23, L24, L25, L26, L27, L28, L29, L30, L31, L32, L33, L34, L35, L36, L37, L38, L39, L40, L41, L42, L43, L44, L45, L46, L47, L48, L49, L50, L52, L57, L60, L90, L91, L93, L97, L99, L100, L101, L122, L240, L255, L256, L400, L401, L408, L409, L410, L411, L412, L413, L414, L420, L1000, L1001, L1103, L1200, L1240, L2820, L5220, L7936, L10440, L12345, L1000000, L1000003, L1073741823, nd_lt_t, nd_lt_f, nd_le_t, nd_le_f, nd_eq_f, nZ_add, nZ_mul, nZ_sub, nZ_lt, nZ_le, nZ_eq, nZ_nat, nZ_div, nZ_rem, nZ_and, nZ_or, and31, nZ_shl, nZ_shr, nZ_m1, nZ_nneg, nZ_nneg', nZ_nlt, nZ_ltn, inR_lt, Nat.not_lt_zero, ob_some, jI, jL, jR, jV, rI0, rI1, rIv, if_true, if_false, ↓reduceIte, Nat.reduceAdd, Nat.reduceMul, Nat.reduceSub, Nat.reduceLT, Nat.reduceEqDiff, Nat.reduceLeDiff, Nat.zero_add, Nat.add_zero, Nat.zero_mul, Nat.mul_zero, Nat.one_mul, Nat.mul_one, and_true, true_and, false_and, and_false, or_true, true_or, or_false, false_or, not_true_eq_false, not_false_eq_true, eq_self, bI_0, bI_1, em_b, hI_ne, hI_at, hA_ne, hA_at, Sh_si, Sh_sA]
        · simp (disch := first | assumption | omega | (simp only [Sh_si, Sh_sA]; assumption)) only [e408, E247_110, es, q, p56_0, g56_0, p56_1, g56_1, g56_2, g56_3, g56_4, g56_5, p56_6, g56_6, g56_7, g56_8, g56_9, p56_10, g56_10, p56_11, g56_11, g56_12, g56_13, g56_14, p56_15, g56_15, p56_16, g56_16, p56_17, g56_17, p56_18, g56_18, p56_19, g56_19, p56_20, g56_20, B56_21, g56_21, g56_22, g56_23, g56_24, g56_25, g56_26, g56_27, p56_28, g56_28, p56_29, g56_29, p56_30, g56_30, p56_31, g56_31, g56_32, g56_33, g56_34, p56_35, g56_35, p56_36, g56_36, p56_37, g56_37, p56_38, g56_38, g56_39, g56_40, g56_41, p56_42, g56_42, p56_43, g56_43, p56_44, g56_44, ck56, A57, S57, l57, A58, S58, l58, A59, S59, l59, A60, S60, l60, A61, S61, l61, A62, S62, l62, A63, S63, l63, A64, S64, l64, A65, S65, l65, A66, S66, l66, A67, S67, l67, A68, S68, l68, A69, S69, l69, A70, S70, l70, A71, S71, l71, A72, S72, l72, A73, S73, l73, A74, S74, l74, A75, S75, l75, A76, S76, l76, A77, S77, l77, A78, S78, l78, n232 M1, n169 M1, n203 M1, n200 M1, n227 M1, n168 M1, n212 M1, n250 M1, n223 M1, n201 M1, n245 M1, m190, m218, m218', m196, m244_1, m244_2, m244_3, m244_5, m244_6, m217, m191, L0, L1, L2, L3, L4, L5, L6, L7, L8, L9, L10, L11, L12, L13, L14, L15, L16, L17, L18, L19, L20, L21, L22, L23, L24, L25, L26, L27, L28, L29, L30, L31, L32, L33, L34, L35, L36, L37, L38, L39, L40, L41, L42, L43, L44, L45, L46, L47, L48, L49, L50, L52, L57, L60, L90, L91, L93, L97, L99, L100, L101, L122, L240, L255, L256, L400, L401, L408, L409, L410, L411, L412, L413, L414, L420, L1000, L1001, L1103, L1200, L1240, L2820, L5220, L7936, L10440, L12345, L1000000, L1000003, L1073741823, nd_lt_t, nd_lt_f, nd_le_t, nd_le_f, nd_eq_f, nZ_add, nZ_mul, nZ_sub, nZ_lt, nZ_le, nZ_eq, nZ_nat, nZ_div, nZ_rem, nZ_and, nZ_or, and31, nZ_shl, nZ_shr, nZ_m1, nZ_nneg, nZ_nneg', nZ_nlt, nZ_ltn, inR_lt, Nat.not_lt_zero, ob_some, jI, jL, jR, jV, rI0, rI1, rIv, if_true, if_false, ↓reduceIte, Nat.reduceAdd, Nat.reduceMul, Nat.reduceSub, Nat.reduceLT, Nat.reduceEqDiff, Nat.reduceLeDiff, Nat.zero_add, Nat.add_zero, Nat.zero_mul, Nat.mul_zero, Nat.one_mul, Nat.mul_one, and_true, true_and, false_and, and_false, or_true, true_or, or_false, false_or, not_true_eq_false, not_false_eq_true, eq_self, bI_0, bI_1, em_b, hI_ne, hI_at, hA_ne, hA_at, Sh_si, Sh_sA]
      · rw [show j + (k + 1) = j + 1 + k by omega]
        exact y
      · rw [ys, ec, show sl + 1 + (k - cnt (tkn T (W 408)) (j + 1) k) = sl + (k + 1 - cnt (tkn T (W 408)) (j + 1) k) by omega]

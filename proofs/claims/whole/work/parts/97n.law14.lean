theorem tv_snoc (L : List CL) (c : CL) (hd lo hi : Nat) (q : Nat → Int) (w : Nat) : tv (L ++ [c]) hd lo hi q w = tv1 hd lo hi q (tv L hd lo hi q w) c := by
  unfold tv
  rw [List.foldl_append]
  rfl
theorem min_iZ {x : Int} (hx : -1000000000 ≤ x ∧ x ≤ 1000000000) {lo hi : Nat} (hlh : lo ≤ hi) (hhi : hi < 1000) : (if nZ lo < (if iZ x < nZ hi then iZ x else nZ hi) then (if iZ x < nZ hi then iZ x else nZ hi) else nZ lo) = nZ (clampN lo hi x) := by
  have e1 : (iZ x < nZ hi) = (x < hi) := by
    rw [lt_nZ (by omega), iZ_int hx]
  have e2 : (nZ lo < iZ x) = ((lo : Int) < x) := by
    rw [nZ_lt' (by omega), iZ_int hx]
  unfold clampN
  simp only [e1]
  by_cases c1 : x < hi
  · rw [if_pos c1]
    simp only [e2]
    rw [if_neg (show ¬((hi : Int) < x) by omega)]
    by_cases c2 : (lo : Int) < x
    · rw [if_pos c2, if_neg (by omega), ← iZ_nat, Int.toNat_of_nonneg (by omega)]
    · rw [if_neg c2]
      by_cases c3 : x < lo
      · rw [if_pos c3]
      · rw [if_neg c3]
        congr 1
        omega
  · rw [if_neg c1]
    have e3 : (nZ lo < nZ hi) = (lo < hi) := nZ_lt (by omega) (by omega)
    simp only [e3]
    rw [if_neg (show ¬(x < (lo : Int)) by omega)]
    by_cases c2 : lo < hi
    · rw [if_pos c2]
      by_cases c3 : (hi : Int) < x
      · rw [if_pos c3]
      · rw [if_neg c3]
        congr 1
        omega
    · rw [if_neg c2]
      by_cases c3 : (hi : Int) < x
      · rw [if_pos c3]
        congr 1
        omega
      · rw [if_neg c3]
        congr 1
        omega
/-- the least and the most that a head tells -/
def toLo (hd : Nat) : Nat := if hd = 2 then 1 else 0
def toHi (hd : Nat) : Nat := if hd = 1 then 9 else if hd = 2 then 12 else if hd = 3 then 100 else 1
theorem toLH {hd : Nat} : toLo hd ≤ toHi hd ∧ toHi hd < 1000 := by
  unfold toLo toHi
  repeat' split
  all_goals omega
theorem ro3 {h : QH} (O : Ro h) {hd : Nat} (h1 : 1 ≤ hd ∧ hd ≤ 4) : hI h 3 (hd - 1) = nZ (toLo hd) := by
  have : hd = 1 ∨ hd = 2 ∨ hd = 3 ∨ hd = 4 := by omega
  rcases this with r | r | r | r <;> subst r
  · exact O 3 (by decide) 0
  · exact O 3 (by decide) 1
  · exact O 3 (by decide) 2
  · exact O 3 (by decide) 3
theorem ro4 {h : QH} (O : Ro h) {hd : Nat} (h1 : 1 ≤ hd ∧ hd ≤ 4) : hI h 4 (hd - 1) = nZ (toHi hd) := by
  have : hd = 1 ∨ hd = 2 ∨ hd = 3 ∨ hd = 4 := by omega
  rcases this with r | r | r | r <;> subst r
  · exact O 4 (by decide) 0
  · exact O 4 (by decide) 1
  · exact O 4 (by decide) 2
  · exact O 4 (by decide) 3
theorem c152_19 {h : QH} {a : Nat} {L : List CL} {q : Nat → Nat} (H : Sh h) (RO : Ro h) (O : LO h a L) (R : LR L) (hq : ∀ j, j < 9 → hI h 37 j = nZ (q j) ∧ q j < 1000) (d hd wv : Nat) (hh : 1 ≤ hd ∧ hd ≤ 4) (hw : hI h 39 (hd - 1) = nZ wv) : ∀ (n : Nat) (La : List CL), La.length = n → ∀ Lb S, L = La ++ Lb → ∃ S', qbig (d + 3) 152 19 [sR (some 36), sR (some a), sI (nZ (hd - 1)), sI (nZ n - nZ 1)] [] (hsA h 38 S) = some (some (qI (nZ (tv La hd (toLo hd) (toHi hd) (fun i => q i) wv))), hsA h 38 S') := by
  have hb := LR_b R
  intro n
  induction n with
  | zero =>
    intro La hl Lb S hLe
    have hS : Sh (hsA h 38 S) := H
    have : La = [] := List.eq_nil_of_length_eq_zero hl
    subst this
    have z1 : (nZ 0 - nZ 1 < nZ 0) = True := by decide
    have hw' : hI (hsA h 38 S) 39 (hd - 1) = nZ wv := (hA_ne (by decide)).trans hw
    refine ⟨S, ?_⟩
    rw [E152_19]
    simp (disch := first | assumption | omega | (simp only [Sh_si, Sh_sA]; assumption)) only [z1, hw', A0, l0, A1, l1, A2, l2, A3, l3, A4, l4, A7, l7, A8, l8, g10_0, g10_1, g10_2, g10_3, g10_4, g10_5, g10_6, g10_7, g10_8, g10_9, p10_10, g10_10, p10_11, g10_11, p10_12, g10_12, p10_13, g10_13, ck10, g11_0, g11_1, g11_2, g11_3, p11_4, g11_4, p11_5, g11_5, ck11, p12_0, g12_0, p12_1, g12_1, g12_2, g12_3, g12_4, g12_5, ck12, A13, S13, l13, A14, S14, l14, A15, S15, l15, A16, S16, l16, p17_0, g17_0, g17_1, ck17, A18, S18, l18, p19_0, g19_0, g19_1, g19_2, g19_3, g19_4, g19_5, ck19, A20, S20, l20, A21, S21, l21, A22, S22, l22, A23, S23, l23, A24, S24, l24, R25, R26, p27_0, g27_0, g27_1, ck27, A28, S28, l28, p29_0, g29_0, g29_1, p29_2, g29_2, p29_3, g29_3, p29_4, g29_4, p29_5, g29_5, p29_6, g29_6, p29_7, g29_7, p29_8, g29_8, p29_9, g29_9, g29_10, g29_11, g29_12, g29_13, g29_14, ck29, A30, S30, l30, A31, S31, l31, A32, S32, l32, A33, S33, l33, A34, S34, l34, A35, S35, l35, g36_0, g36_1, g36_2, ck36, A37, S37, l37, A38, S38, l38, A39, S39, l39, g40_0, g40_1, g40_2, g40_3, p40_4, g40_4, ck40, A41, S41, l41, A42, S42, l42, A43, S43, l43, A44, S44, l44, p45_0, g45_0, g45_1, p45_2, g45_2, p45_3, g45_3, p45_4, g45_4, p45_5, g45_5, p45_6, g45_6, p45_7, g45_7, g45_8, g45_9, g45_10, g45_11, g45_12, ck45, A46, S46, l46, A47, S47, l47, A48, S48, l48, A49, S49, l49, A50, S50, l50, A51, S51, l51, B52_0, g52_0, p52_1, g52_1, p52_2, g52_2, g52_3, p52_4, g52_4, ck52, A53, S53, l53, A54, S54, l54, A55, S55, l55, L0, L1, L2, L3, L4, L5, L6, L7, L8, L9, L10, L11, L12, L13, L14, L15, L16, L17, L18, L19, L20, L21, L22, L23, L24, L25, L26, L27, L28, L29, L30, L31, L32, L33, L34, L35, L36, L37, L38, L39, L40, L41, L42, L43, L44, L45, L46, L47, L48, L49, L50, L52, L57, L60, L90, L91, L93, L97, L99, L100, L101, L122, L240, L255, L256, L400, L401, L408, L409, L410, L411, L412, L413, L414, L420, L1000, L1001, L1103, L1200, L1240, L2820, L5220, L7936, L10440, L12345, L1000000, L1000003, L1073741823, L59, L61, L62, L200, nd_lt_t, nd_lt_f, nd_le_t, nd_le_f, nd_eq_f, nZ_add, nZ_mul, nZ_sub, nZ_lt, nZ_le, nZ_eq, nZ_nat, nZ_div, nZ_rem, nZ_and, nZ_or, and31, nZ_shl, nZ_shr, nZ_m1, nZ_nneg, nZ_nneg', nZ_nlt, nZ_ltn, inR_lt, Nat.not_lt_zero, ob_some, jI, jL, jR, jV, rI0, rI1, rIv, if_true, if_false, ↓reduceIte, Nat.reduceAdd, Nat.reduceMul, Nat.reduceSub, Nat.reduceLT, Nat.reduceEqDiff, Nat.reduceLeDiff, Nat.zero_add, Nat.add_zero, Nat.zero_mul, Nat.mul_zero, Nat.one_mul, Nat.mul_one, and_true, true_and, false_and, and_false, or_true, true_or, or_false, false_or, not_true_eq_false, not_false_eq_true, eq_self, bI_0, bI_1, em_b, hI_ne, hI_at, hA_ne, hA_at, Sh_si, Sh_sA]
    rfl
  | succ n ih =>
    intro La hl Lb S hLe
    have hS : Sh (hsA h 38 S) := H
    obtain ⟨Lz, c, hL0⟩ : ∃ Lz c, La = Lz ++ [c] := ⟨La.dropLast, La.getLast (fun z => by rw [z] at hl; cases hl), (List.dropLast_concat_getLast _).symm⟩
    subst hL0
    have hl0 : Lz.length = n := by
      rw [List.length_append] at hl
      simp at hl
      exact hl
    have hLe' : L = Lz ++ c :: Lb := by
      rw [hLe]
      simp
    have hn12 : n < 12 := by
      have := congrArg List.length hLe'
      rw [List.length_append, List.length_cons] at this
      omega
    obtain ⟨S1, hc⟩ := c150 H O R hq d S Lz c Lb hLe'
    rw [hl0] at hc
    have hc1 : 1 ≤ c.1 ∧ c.1 ≤ 4 := by
      obtain ⟨C, V, N, hNe, eR⟩ := R
      obtain ⟨_, _, _, _, hsp⟩ := RL_b _ _ _ _ _ eR (by omega) (by omega)
      obtain ⟨pos, lv, p, l, cs, dn, p2, lw, cs2, dt, hpos, hlv, eh, ei, ec⟩ := hsp Lz c Lb hLe'
      rw [ec]
      exact (RH_b eh hlv).2.2.2.2.2.1
    obtain ⟨x, y, w, ⟨a1, a2, a3, a4⟩, ⟨b1, b2, b3⟩, ⟨x1, x2, x3, x4⟩, _, _, c1, c2⟩ := O
    have O : LO h a L := ⟨x, y, w, ⟨a1, a2, a3, a4⟩, ⟨b1, b2, b3⟩, ⟨x1, x2, x3, x4⟩, by assumption, by assumption, c1, c2⟩
    have hx1 : Lz.length < L.length := by
      rw [hLe', List.length_append, List.length_cons]
      omega
    have e0 : qgr 1 0 a (hsA h 38 S) = some (some x) := qgr_of (h := hsA h 38 S) a2 a3 (by show 0 < hL h a; omega) b1
    have ex : qai 0 x (nZ n) (hsA h 38 S) = some (nZ (c.1 - 1)) := by
      rw [qai_of (h := hsA h 38 S) x2 x3 (by show _ < hL h x; omega) (by omega), hA_ne (by omega), ← hl0, (c1 Lz c Lb hLe').1]
    have en : nZ (n + 1) - nZ 1 = nZ n := nZ_sub (by omega)
    have em : nZ n + -1 = nZ n - nZ 1 := by
      apply Int32.toBitVec.inj
      show BitVec.ofNat 32 n + (-1) = BitVec.ofNat 32 n - 1
      rw [BitVec.sub_eq_add_neg]
    rw [tv_snoc, en, E152_19]
    by_cases ce : c.1 = hd
    · have ce' : c.1 - 1 = hd - 1 := by omega
      unfold tv1
      rw [if_pos ce]
      cases eho : hol c (fun i => (q i : Int)) with
      | none =>
        rw [eho] at hc
        obtain ⟨S', i1⟩ := ih Lz hl0 (c :: Lb) S1 hLe'
        refine ⟨S', ?_⟩
        simp only at hc
        rw [← i1, ← em]
        simp (disch := first | assumption | omega | (simp only [Sh_si, Sh_sA]; assumption)) only [e0, ex, ce', hc, A0, l0, A1, l1, A2, l2, A3, l3, A4, l4, A7, l7, A8, l8, g10_0, g10_1, g10_2, g10_3, g10_4, g10_5, g10_6, g10_7, g10_8, g10_9, p10_10, g10_10, p10_11, g10_11, p10_12, g10_12, p10_13, g10_13, ck10, g11_0, g11_1, g11_2, g11_3, p11_4, g11_4, p11_5, g11_5, ck11, p12_0, g12_0, p12_1, g12_1, g12_2, g12_3, g12_4, g12_5, ck12, A13, S13, l13, A14, S14, l14, A15, S15, l15, A16, S16, l16, p17_0, g17_0, g17_1, ck17, A18, S18, l18, p19_0, g19_0, g19_1, g19_2, g19_3, g19_4, g19_5, ck19, A20, S20, l20, A21, S21, l21, A22, S22, l22, A23, S23, l23, A24, S24, l24, R25, R26, p27_0, g27_0, g27_1, ck27, A28, S28, l28, p29_0, g29_0, g29_1, p29_2, g29_2, p29_3, g29_3, p29_4, g29_4, p29_5, g29_5, p29_6, g29_6, p29_7, g29_7, p29_8, g29_8, p29_9, g29_9, g29_10, g29_11, g29_12, g29_13, g29_14, ck29, A30, S30, l30, A31, S31, l31, A32, S32, l32, A33, S33, l33, A34, S34, l34, A35, S35, l35, g36_0, g36_1, g36_2, ck36, A37, S37, l37, A38, S38, l38, A39, S39, l39, g40_0, g40_1, g40_2, g40_3, p40_4, g40_4, ck40, A41, S41, l41, A42, S42, l42, A43, S43, l43, A44, S44, l44, p45_0, g45_0, g45_1, p45_2, g45_2, p45_3, g45_3, p45_4, g45_4, p45_5, g45_5, p45_6, g45_6, p45_7, g45_7, g45_8, g45_9, g45_10, g45_11, g45_12, ck45, A46, S46, l46, A47, S47, l47, A48, S48, l48, A49, S49, l49, A50, S50, l50, A51, S51, l51, B52_0, g52_0, p52_1, g52_1, p52_2, g52_2, g52_3, p52_4, g52_4, ck52, A53, S53, l53, A54, S54, l54, A55, S55, l55, L0, L1, L2, L3, L4, L5, L6, L7, L8, L9, L10, L11, L12, L13, L14, L15, L16, L17, L18, L19, L20, L21, L22, L23, L24, L25, L26, L27, L28, L29, L30, L31, L32, L33, L34, L35, L36, L37, L38, L39, L40, L41, L42, L43, L44, L45, L46, L47, L48, L49, L50, L52, L57, L60, L90, L91, L93, L97, L99, L100, L101, L122, L240, L255, L256, L400, L401, L408, L409, L410, L411, L412, L413, L414, L420, L1000, L1001, L1103, L1200, L1240, L2820, L5220, L7936, L10440, L12345, L1000000, L1000003, L1073741823, L59, L61, L62, L200, nd_lt_t, nd_lt_f, nd_le_t, nd_le_f, nd_eq_f, nZ_add, nZ_mul, nZ_sub, nZ_lt, nZ_le, nZ_eq, nZ_nat, nZ_div, nZ_rem, nZ_and, nZ_or, and31, nZ_shl, nZ_shr, nZ_m1, nZ_nneg, nZ_nneg', nZ_nlt, nZ_ltn, inR_lt, Nat.not_lt_zero, ob_some, jI, jL, jR, jV, rI0, rI1, rIv, if_true, if_false, ↓reduceIte, Nat.reduceAdd, Nat.reduceMul, Nat.reduceSub, Nat.reduceLT, Nat.reduceEqDiff, Nat.reduceLeDiff, Nat.zero_add, Nat.add_zero, Nat.zero_mul, Nat.mul_zero, Nat.one_mul, Nat.mul_one, and_true, true_and, false_and, and_false, or_true, true_or, or_false, false_or, not_true_eq_false, not_false_eq_true, eq_self, bI_0, bI_1, em_b, hI_ne, hI_at, hA_ne, hA_at, Sh_si, Sh_sA]
      | some xv =>
        rw [eho] at hc
        simp only at hc
        obtain ⟨k1, k2, k3⟩ := hc
        refine ⟨S1, ?_⟩
        have HS1 : Sh (hsA h 38 S1) := H
        have z10 : (nZ 1 = nZ 0) = False := by decide
        have r3 : hI (hsA h 38 S1) 3 (hd - 1) = nZ (toLo hd) := (hA_ne (by decide)).trans (ro3 RO hh)
        have r4 : hI (hsA h 38 S1) 4 (hd - 1) = nZ (toHi hd) := (hA_ne (by decide)).trans (ro4 RO hh)
        have mz := min_iZ k3 (toLH (hd := hd)).1 (toLH (hd := hd)).2
        simp (disch := first | assumption | omega | (simp only [Sh_sA]; assumption)) only [A3, A4, ↓reduceIte, L0, L1, nZ_neg_lt, if_false, e0, ob_some, ex, ce', k1, jI, z10, r3, r4, g36_1, A38, hA_at, k2, if_true, mz]
    · have ce' : (c.1 - 1 = hd - 1) = False := eq_false (by omega)
      unfold tv1
      rw [if_neg ce]
      obtain ⟨S', i1⟩ := ih Lz hl0 (c :: Lb) S hLe'
      refine ⟨S', ?_⟩
      rw [← i1, ← em]
      simp (disch := first | assumption | omega | (simp only [Sh_si, Sh_sA]; assumption)) only [e0, ex, ce', A0, l0, A1, l1, A2, l2, A3, l3, A4, l4, A7, l7, A8, l8, g10_0, g10_1, g10_2, g10_3, g10_4, g10_5, g10_6, g10_7, g10_8, g10_9, p10_10, g10_10, p10_11, g10_11, p10_12, g10_12, p10_13, g10_13, ck10, g11_0, g11_1, g11_2, g11_3, p11_4, g11_4, p11_5, g11_5, ck11, p12_0, g12_0, p12_1, g12_1, g12_2, g12_3, g12_4, g12_5, ck12, A13, S13, l13, A14, S14, l14, A15, S15, l15, A16, S16, l16, p17_0, g17_0, g17_1, ck17, A18, S18, l18, p19_0, g19_0, g19_1, g19_2, g19_3, g19_4, g19_5, ck19, A20, S20, l20, A21, S21, l21, A22, S22, l22, A23, S23, l23, A24, S24, l24, R25, R26, p27_0, g27_0, g27_1, ck27, A28, S28, l28, p29_0, g29_0, g29_1, p29_2, g29_2, p29_3, g29_3, p29_4, g29_4, p29_5, g29_5, p29_6, g29_6, p29_7, g29_7, p29_8, g29_8, p29_9, g29_9, g29_10, g29_11, g29_12, g29_13, g29_14, ck29, A30, S30, l30, A31, S31, l31, A32, S32, l32, A33, S33, l33, A34, S34, l34, A35, S35, l35, g36_0, g36_1, g36_2, ck36, A37, S37, l37, A38, S38, l38, A39, S39, l39, g40_0, g40_1, g40_2, g40_3, p40_4, g40_4, ck40, A41, S41, l41, A42, S42, l42, A43, S43, l43, A44, S44, l44, p45_0, g45_0, g45_1, p45_2, g45_2, p45_3, g45_3, p45_4, g45_4, p45_5, g45_5, p45_6, g45_6, p45_7, g45_7, g45_8, g45_9, g45_10, g45_11, g45_12, ck45, A46, S46, l46, A47, S47, l47, A48, S48, l48, A49, S49, l49, A50, S50, l50, A51, S51, l51, B52_0, g52_0, p52_1, g52_1, p52_2, g52_2, g52_3, p52_4, g52_4, ck52, A53, S53, l53, A54, S54, l54, A55, S55, l55, L0, L1, L2, L3, L4, L5, L6, L7, L8, L9, L10, L11, L12, L13, L14, L15, L16, L17, L18, L19, L20, L21, L22, L23, L24, L25, L26, L27, L28, L29, L30, L31, L32, L33, L34, L35, L36, L37, L38, L39, L40, L41, L42, L43, L44, L45, L46, L47, L48, L49, L50, L52, L57, L60, L90, L91, L93, L97, L99, L100, L101, L122, L240, L255, L256, L400, L401, L408, L409, L410, L411, L412, L413, L414, L420, L1000, L1001, L1103, L1200, L1240, L2820, L5220, L7936, L10440, L12345, L1000000, L1000003, L1073741823, L59, L61, L62, L200, nd_lt_t, nd_lt_f, nd_le_t, nd_le_f, nd_eq_f, nZ_add, nZ_mul, nZ_sub, nZ_lt, nZ_le, nZ_eq, nZ_nat, nZ_div, nZ_rem, nZ_and, nZ_or, and31, nZ_shl, nZ_shr, nZ_m1, nZ_nneg, nZ_nneg', nZ_nlt, nZ_ltn, inR_lt, Nat.not_lt_zero, ob_some, jI, jL, jR, jV, rI0, rI1, rIv, if_true, if_false, ↓reduceIte, Nat.reduceAdd, Nat.reduceMul, Nat.reduceSub, Nat.reduceLT, Nat.reduceEqDiff, Nat.reduceLeDiff, Nat.zero_add, Nat.add_zero, Nat.zero_mul, Nat.mul_zero, Nat.one_mul, Nat.mul_one, and_true, true_and, false_and, and_false, or_true, true_or, or_false, false_or, not_true_eq_false, not_false_eq_true, eq_self, bI_0, bI_1, em_b, hI_ne, hI_at, hA_ne, hA_at, Sh_si, Sh_sA]
/-- a law tells, or none is in force -/
theorem c152 {h : QH} {a : Nat} {L : List CL} {q : Nat → Nat} (H : Sh h) (RO : Ro h) (O : LO h a L) (R : LR L) (hq : ∀ j, j < 9 → hI h 37 j = nZ (q j) ∧ q j < 1000) (d hd wv : Nat) (hh : 1 ≤ hd ∧ hd ≤ 4) (hw : hI h 39 (hd - 1) = nZ wv) : ∃ S', qcl (d + 3) 152 [qR (some 36), qR (some a), qI (nZ (hd - 1))] h = some (some (qI (nZ (tv L hd (toLo hd) (toHi hd) (fun i => q i) wv))), hsA h 38 S') := by
  obtain ⟨S', i1⟩ := c152_19 H RO O R hq d hd wv hh hw L.length L rfl [] (hI h 38) (by simp)
  have hid : hsA h 38 (hI h 38) = h := hsA_id fun k => rfl
  rw [hid] at i1
  refine ⟨S', ?_⟩
  rw [← i1]
  obtain ⟨x, y, w, ⟨a1, a2, a3, a4⟩, ⟨b1, b2, b3⟩, ⟨x1, x2, x3, x4⟩, _⟩ := O
  have e0 : qgr 1 0 a h = some (some x) := qgr_of a2 a3 (by omega) b1
  have el : qal x h = some (nZ L.length) := by rw [qal_of x2 x3, x4]
  have sn : (some a = (none : Option Nat)) = False := eq_false (fun z => by cases z)
  simp (disch := assumption) only [E152, ck36, ob_some, e0, el, sn, if_false, L1]
theorem c152_0 {h : QH} (H : Sh h) (d hd wv : Nat) (hh : 1 ≤ hd ∧ hd ≤ 4) (hw : hI h 39 (hd - 1) = nZ wv) : qcl (d + 1) 152 [qR (some 36), qR none, qI (nZ (hd - 1))] h = some (some (qI (nZ wv)), h) := by
  have h4 : hd - 1 < 4 := by omega
  simp (disch := first | assumption | omega | (simp only [Sh_si, Sh_sA]; assumption)) only [E152, hw, A0, l0, A1, l1, A2, l2, A3, l3, A4, l4, A7, l7, A8, l8, g10_0, g10_1, g10_2, g10_3, g10_4, g10_5, g10_6, g10_7, g10_8, g10_9, p10_10, g10_10, p10_11, g10_11, p10_12, g10_12, p10_13, g10_13, ck10, g11_0, g11_1, g11_2, g11_3, p11_4, g11_4, p11_5, g11_5, ck11, p12_0, g12_0, p12_1, g12_1, g12_2, g12_3, g12_4, g12_5, ck12, A13, S13, l13, A14, S14, l14, A15, S15, l15, A16, S16, l16, p17_0, g17_0, g17_1, ck17, A18, S18, l18, p19_0, g19_0, g19_1, g19_2, g19_3, g19_4, g19_5, ck19, A20, S20, l20, A21, S21, l21, A22, S22, l22, A23, S23, l23, A24, S24, l24, R25, R26, p27_0, g27_0, g27_1, ck27, A28, S28, l28, p29_0, g29_0, g29_1, p29_2, g29_2, p29_3, g29_3, p29_4, g29_4, p29_5, g29_5, p29_6, g29_6, p29_7, g29_7, p29_8, g29_8, p29_9, g29_9, g29_10, g29_11, g29_12, g29_13, g29_14, ck29, A30, S30, l30, A31, S31, l31, A32, S32, l32, A33, S33, l33, A34, S34, l34, A35, S35, l35, g36_0, g36_1, g36_2, ck36, A37, S37, l37, A38, S38, l38, A39, S39, l39, g40_0, g40_1, g40_2, g40_3, p40_4, g40_4, ck40, A41, S41, l41, A42, S42, l42, A43, S43, l43, A44, S44, l44, p45_0, g45_0, g45_1, p45_2, g45_2, p45_3, g45_3, p45_4, g45_4, p45_5, g45_5, p45_6, g45_6, p45_7, g45_7, g45_8, g45_9, g45_10, g45_11, g45_12, ck45, A46, S46, l46, A47, S47, l47, A48, S48, l48, A49, S49, l49, A50, S50, l50, A51, S51, l51, B52_0, g52_0, p52_1, g52_1, p52_2, g52_2, g52_3, p52_4, g52_4, ck52, A53, S53, l53, A54, S54, l54, A55, S55, l55, L0, L1, L2, L3, L4, L5, L6, L7, L8, L9, L10, L11, L12, L13, L14, L15, L16, L17, L18, L19, L20, L21, L22, L23, L24, L25, L26, L27, L28, L29, L30, L31, L32, L33, L34, L35, L36, L37, L38, L39, L40, L41, L42, L43, L44, L45, L46, L47, L48, L49, L50, L52, L57, L60, L90, L91, L93, L97, L99, L100, L101, L122, L240, L255, L256, L400, L401, L408, L409, L410, L411, L412, L413, L414, L420, L1000, L1001, L1103, L1200, L1240, L2820, L5220, L7936, L10440, L12345, L1000000, L1000003, L1073741823, L59, L61, L62, L200, nd_lt_t, nd_lt_f, nd_le_t, nd_le_f, nd_eq_f, nZ_add, nZ_mul, nZ_sub, nZ_lt, nZ_le, nZ_eq, nZ_nat, nZ_div, nZ_rem, nZ_and, nZ_or, and31, nZ_shl, nZ_shr, nZ_m1, nZ_nneg, nZ_nneg', nZ_nlt, nZ_ltn, inR_lt, Nat.not_lt_zero, ob_some, jI, jL, jR, jV, rI0, rI1, rIv, if_true, if_false, ↓reduceIte, Nat.reduceAdd, Nat.reduceMul, Nat.reduceSub, Nat.reduceLT, Nat.reduceEqDiff, Nat.reduceLeDiff, Nat.zero_add, Nat.add_zero, Nat.zero_mul, Nat.mul_zero, Nat.one_mul, Nat.mul_one, and_true, true_and, false_and, and_false, or_true, true_or, or_false, false_or, not_true_eq_false, not_false_eq_true, eq_self, bI_0, bI_1, em_b, hI_ne, hI_at, hA_ne, hA_at, Sh_si, Sh_sA]

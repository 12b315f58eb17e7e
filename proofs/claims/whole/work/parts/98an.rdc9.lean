theorem ri1 {h : QH} : (if (nZ 1 : Int32) = nZ 0 ∨ (nZ 1 : Int32) = nZ 1 then some (some (qI (nZ 1)), h) else none : QO) = some (some (qI (nZ 1)), h) := rfl
/-- what is read, is read by the class so -/
theorem CM {h : QH} {T : Nat → Nat} {n N : Nat} (X : CRX h T n) (w : NN T n N) : ∀ f, CIH h T n N f := by
  have H := X.1
  have hn := X.2.1
  have hNn := w.1
  have hT : ∀ i, i < n → T i < 256 := fun i hi => (X.2.2.2.1 i (by omega)).1
  have z10 : (nZ 1 = nZ 0) = False := by decide
  intro f
  induction f with
  | zero =>
    intro s pos lv dp z ng acc hs hng hn5 hpos hlv hdp hz hne
    exact absurd rfl hne
  | succ f ih =>
    intro s pos lv dp z ng acc hs hng hn5 hpos hlv hdp hz hne
    have hkl := kdT_lt w hT hpos
    have s10 : s = 0 ∨ s = 1 ∨ s = 2 ∨ s = 3 ∨ s = 4 ∨ s = 5 ∨ s = 6 ∨ s = 7 ∨ s = 8 ∨ s = 9 := by omega
    rcases s10 with r | r | r | r | r | r | r | r | r | r <;> subst r
    · have n0 : ng = 0 := by omega
      subst n0
      exact CM_0 X w ih pos lv dp z acc hpos hlv hdp hz hne
    · have n0 : ng = 0 := by omega
      subst n0
      rw [P_1] at hne ⊢
      refine C_two ih 1 0 2 pos lv dp z acc (by decide) (by decide) hpos hlv hdp hz ?_ hne
      intro D hD
      obtain ⟨d, rfl⟩ : ∃ d, D = d + 4 := ⟨D - 4, by have := CMd_10 1 hdp; omega⟩
      refine ⟨d + 3, d + 4, ?_, hD, fun x k => qbig (d + 4) 120 7 [sR (some 29), sI x, sI (nZ 0), none] [] k, ?_, fun k => rfl, ?_⟩
      · have hD2 : 4 * (9 - dp) + 7 ≤ d + 4 := hD
        show 4 * (9 - dp) + 6 ≤ d + 3
        omega
      · intro F S i
        have H1 : Sh (st2' h F S) := H
        show qcl (d + 4) 120 [qR (some 29)] (st2' h F S) = _
        rw [E120, ck29 H1]
        rfl
      · intro k
        show qbig (d + 4) 120 7 [sR (some 29), sI (nZ 0), sI (nZ 0), none] [] k = _
        rw [E120_7]
        rfl
    · have n0 : ng = 0 := by omega
      subst n0
      have k28 := kdT_iff (k := pos) w hT hpos kq28 (by decide) (by decide)
      have k29 := kdT_iff (k := pos) w hT hpos kq29 (by decide) (by decide)
      rw [P_2] at hne ⊢
      by_cases c1 : cAt (CT T n) N pos = 142 ∨ cAt (CT T n) N pos = 147
      · rw [if_pos c1] at hne ⊢
        have hp1 := C_pos (C := CT T n) (N := N) (k := pos) (by omega)
        refine C_loopS X w ih 2 0 pos lv dp z (if cAt (CT T n) N pos = 142 then 28 else 29) acc (fun dn => if cAt (CT T n) N pos = 142 then dMul acc dn else dDiv acc dn) (by decide) (by decide) hp1 hlv hdp hz (by split <;> decide) ?_ hne ?_
        · intro D hD
          obtain ⟨d, rfl⟩ : ∃ d, D = d + 4 := ⟨D - 4, by have := CMd_10 2 hdp; omega⟩
          refine ⟨d, ?_, fun i x k => qbig (d + 4) 120 7 [sR (some 29), sI x, sI (nZ (i + 1)), none] [] k, ?_, fun i k => rfl, ?_⟩
          · have hD2 : 4 * (9 - dp) + 7 ≤ d + 4 := hD
            show 4 * (9 - dp) + 6 ≤ d + 3
            omega
          · intro F S i G hi ps a1
            have f4 := ps.1.2.2.2.1
            show qbig (d + 4) 120 7 [sR (some 29), sI (nZ 1), sI (nZ i), none] [] (st2' h F S) = cI (qcl (d + 3) 117 [qR (some 29)] (st2' h G S)) _
            rw [E120_7]
            by_cases c2 : cAt (CT T n) N pos = 142
            · rw [eq_true c2] at k28
              have k28' : kdT T n pos = 28 := of_eq_true k28
              rw [k28'] at f4
              rw [if_pos c2]
              simp (disch := first | assumption | omega | (simp only [Sh_si, Sh_sA, Sh_s2]; assumption)) only [s2_29, f4, z10, a1, A0, l0, A1, l1, A2, l2, A3, l3, A4, l4, A7, l7, A8, l8, g10_0, g10_1, g10_2, g10_3, g10_4, g10_5, g10_6, g10_7, g10_8, g10_9, p10_10, g10_10, p10_11, g10_11, p10_12, g10_12, p10_13, g10_13, ck10, g11_0, g11_1, g11_2, g11_3, p11_4, g11_4, p11_5, g11_5, ck11, p12_0, g12_0, p12_1, g12_1, g12_2, g12_3, g12_4, g12_5, ck12, A13, S13, l13, A14, S14, l14, A15, S15, l15, A16, S16, l16, p17_0, g17_0, g17_1, ck17, A18, S18, l18, p19_0, g19_0, g19_1, g19_2, g19_3, g19_4, g19_5, ck19, A20, S20, l20, A21, S21, l21, A22, S22, l22, A23, S23, l23, A24, S24, l24, R25, R26, p27_0, g27_0, g27_1, ck27, A28, S28, l28, p29_0, g29_0, g29_1, p29_2, g29_2, p29_3, g29_3, p29_4, g29_4, p29_5, g29_5, p29_6, g29_6, p29_7, g29_7, p29_8, g29_8, p29_9, g29_9, g29_10, g29_11, g29_12, g29_13, g29_14, ck29, A30, S30, l30, A31, S31, l31, A32, S32, l32, A33, S33, l33, A34, S34, l34, A35, S35, l35, g36_0, g36_1, g36_2, ck36, A37, S37, l37, A38, S38, l38, A39, S39, l39, g40_0, g40_1, g40_2, g40_3, p40_4, g40_4, ck40, A41, S41, l41, A42, S42, l42, A43, S43, l43, A44, S44, l44, p45_0, g45_0, g45_1, p45_2, g45_2, p45_3, g45_3, p45_4, g45_4, p45_5, g45_5, p45_6, g45_6, p45_7, g45_7, g45_8, g45_9, g45_10, g45_11, g45_12, ck45, A46, S46, l46, A47, S47, l47, A48, S48, l48, A49, S49, l49, A50, S50, l50, A51, S51, l51, B52_0, g52_0, p52_1, g52_1, p52_2, g52_2, g52_3, p52_4, g52_4, ck52, A53, S53, l53, A54, S54, l54, A55, S55, l55, L0, L1, L2, L3, L4, L5, L6, L7, L8, L9, L10, L11, L12, L13, L14, L15, L16, L17, L18, L19, L20, L21, L22, L23, L24, L25, L26, L27, L28, L29, L30, L31, L32, L33, L34, L35, L36, L37, L38, L39, L40, L41, L42, L43, L44, L45, L46, L47, L48, L49, L50, L52, L57, L60, L90, L91, L93, L97, L99, L100, L101, L122, L240, L255, L256, L400, L401, L408, L409, L410, L411, L412, L413, L414, L420, L1000, L1001, L1103, L1200, L1240, L2820, L5220, L7936, L10440, L12345, L1000000, L1000003, L1073741823, L59, L61, L62, L200, nd_lt_t, nd_lt_f, nd_le_t, nd_le_f, nd_eq_f, nZ_add, nZ_mul, nZ_sub, nZ_lt, nZ_le, nZ_eq, nZ_nat, nZ_div, nZ_rem, nZ_and, nZ_or, and31, nZ_shl, nZ_shr, nZ_m1, nZ_nneg, nZ_nneg', nZ_nlt, nZ_ltn, inR_lt, Nat.not_lt_zero, ob_some, jI, jL, jR, jV, rI0, rI1, rIv, if_true, if_false, ↓reduceIte, Nat.reduceAdd, Nat.reduceMul, Nat.reduceSub, Nat.reduceLT, Nat.reduceEqDiff, Nat.reduceLeDiff, Nat.zero_add, Nat.add_zero, Nat.zero_mul, Nat.mul_zero, Nat.one_mul, Nat.mul_one, and_true, true_and, false_and, and_false, or_true, true_or, or_false, false_or, not_true_eq_false, not_false_eq_true, eq_self, bI_0, bI_1, em_b, hI_ne, hI_at, hA_ne, hA_at, Sh_si, Sh_sA]
            · have c3 : cAt (CT T n) N pos = 147 := by omega
              rw [eq_true c3] at k29
              have k29' : kdT T n pos = 29 := of_eq_true k29
              rw [k29'] at f4
              rw [if_neg c2]
              simp (disch := first | assumption | omega | (simp only [Sh_si, Sh_sA, Sh_s2]; assumption)) only [s2_29, f4, z10, a1, A0, l0, A1, l1, A2, l2, A3, l3, A4, l4, A7, l7, A8, l8, g10_0, g10_1, g10_2, g10_3, g10_4, g10_5, g10_6, g10_7, g10_8, g10_9, p10_10, g10_10, p10_11, g10_11, p10_12, g10_12, p10_13, g10_13, ck10, g11_0, g11_1, g11_2, g11_3, p11_4, g11_4, p11_5, g11_5, ck11, p12_0, g12_0, p12_1, g12_1, g12_2, g12_3, g12_4, g12_5, ck12, A13, S13, l13, A14, S14, l14, A15, S15, l15, A16, S16, l16, p17_0, g17_0, g17_1, ck17, A18, S18, l18, p19_0, g19_0, g19_1, g19_2, g19_3, g19_4, g19_5, ck19, A20, S20, l20, A21, S21, l21, A22, S22, l22, A23, S23, l23, A24, S24, l24, R25, R26, p27_0, g27_0, g27_1, ck27, A28, S28, l28, p29_0, g29_0, g29_1, p29_2, g29_2, p29_3, g29_3, p29_4, g29_4, p29_5, g29_5, p29_6, g29_6, p29_7, g29_7, p29_8, g29_8, p29_9, g29_9, g29_10, g29_11, g29_12, g29_13, g29_14, ck29, A30, S30, l30, A31, S31, l31, A32, S32, l32, A33, S33, l33, A34, S34, l34, A35, S35, l35, g36_0, g36_1, g36_2, ck36, A37, S37, l37, A38, S38, l38, A39, S39, l39, g40_0, g40_1, g40_2, g40_3, p40_4, g40_4, ck40, A41, S41, l41, A42, S42, l42, A43, S43, l43, A44, S44, l44, p45_0, g45_0, g45_1, p45_2, g45_2, p45_3, g45_3, p45_4, g45_4, p45_5, g45_5, p45_6, g45_6, p45_7, g45_7, g45_8, g45_9, g45_10, g45_11, g45_12, ck45, A46, S46, l46, A47, S47, l47, A48, S48, l48, A49, S49, l49, A50, S50, l50, A51, S51, l51, B52_0, g52_0, p52_1, g52_1, p52_2, g52_2, g52_3, p52_4, g52_4, ck52, A53, S53, l53, A54, S54, l54, A55, S55, l55, L0, L1, L2, L3, L4, L5, L6, L7, L8, L9, L10, L11, L12, L13, L14, L15, L16, L17, L18, L19, L20, L21, L22, L23, L24, L25, L26, L27, L28, L29, L30, L31, L32, L33, L34, L35, L36, L37, L38, L39, L40, L41, L42, L43, L44, L45, L46, L47, L48, L49, L50, L52, L57, L60, L90, L91, L93, L97, L99, L100, L101, L122, L240, L255, L256, L400, L401, L408, L409, L410, L411, L412, L413, L414, L420, L1000, L1001, L1103, L1200, L1240, L2820, L5220, L7936, L10440, L12345, L1000000, L1000003, L1073741823, L59, L61, L62, L200, nd_lt_t, nd_lt_f, nd_le_t, nd_le_f, nd_eq_f, nZ_add, nZ_mul, nZ_sub, nZ_lt, nZ_le, nZ_eq, nZ_nat, nZ_div, nZ_rem, nZ_and, nZ_or, and31, nZ_shl, nZ_shr, nZ_m1, nZ_nneg, nZ_nneg', nZ_nlt, nZ_ltn, inR_lt, Nat.not_lt_zero, ob_some, jI, jL, jR, jV, rI0, rI1, rIv, if_true, if_false, ↓reduceIte, Nat.reduceAdd, Nat.reduceMul, Nat.reduceSub, Nat.reduceLT, Nat.reduceEqDiff, Nat.reduceLeDiff, Nat.zero_add, Nat.add_zero, Nat.zero_mul, Nat.mul_zero, Nat.one_mul, Nat.mul_one, and_true, true_and, false_and, and_false, or_true, true_or, or_false, false_or, not_true_eq_false, not_false_eq_true, eq_self, bI_0, bI_1, em_b, hI_ne, hI_at, hA_ne, hA_at, Sh_si, Sh_sA]
          · intro i k
            show qbig (d + 4) 120 7 [sR (some 29), sI (nZ 0), sI (nZ (i + 1)), none] [] k = _
            rw [E120_7]
            rfl
        · intro p l cs dn e
          have := PP _ _ _ _ _ _ _ _ _ _ _ _ e (by decide)
          omega
      · rw [if_neg c1] at hne ⊢
        refine ⟨fun e' he' => (by cases he'), ?_⟩
        intro D i F S hD hi ps
        obtain ⟨d, rfl⟩ : ∃ d, D = d + 4 := ⟨D - 4, by have := CMd_10 2 hdp; omega⟩
        refine ⟨F, S, ?_, ps.1, ps.2.1, ps.2.2.1, ps.2.2.2, rfl, fun j _ => rfl, trivial⟩
        show qbig (d + 4) 120 7 [sR (some 29), sI (nZ 1), sI (nZ i), none] [] (st2' h F S) = _
        have f4 := ps.1.2.2.2.1
        rw [eq_false (show ¬cAt (CT T n) N pos = 142 by omega)] at k28
        rw [eq_false (show ¬cAt (CT T n) N pos = 147 by omega)] at k29
        rw [E120_7]
        simp (disch := first | assumption | omega | (simp only [Sh_si, Sh_sA, Sh_s2]; assumption)) only [s2_29, f4, z10, k28, k29, A0, l0, A1, l1, A2, l2, A3, l3, A4, l4, A7, l7, A8, l8, g10_0, g10_1, g10_2, g10_3, g10_4, g10_5, g10_6, g10_7, g10_8, g10_9, p10_10, g10_10, p10_11, g10_11, p10_12, g10_12, p10_13, g10_13, ck10, g11_0, g11_1, g11_2, g11_3, p11_4, g11_4, p11_5, g11_5, ck11, p12_0, g12_0, p12_1, g12_1, g12_2, g12_3, g12_4, g12_5, ck12, A13, S13, l13, A14, S14, l14, A15, S15, l15, A16, S16, l16, p17_0, g17_0, g17_1, ck17, A18, S18, l18, p19_0, g19_0, g19_1, g19_2, g19_3, g19_4, g19_5, ck19, A20, S20, l20, A21, S21, l21, A22, S22, l22, A23, S23, l23, A24, S24, l24, R25, R26, p27_0, g27_0, g27_1, ck27, A28, S28, l28, p29_0, g29_0, g29_1, p29_2, g29_2, p29_3, g29_3, p29_4, g29_4, p29_5, g29_5, p29_6, g29_6, p29_7, g29_7, p29_8, g29_8, p29_9, g29_9, g29_10, g29_11, g29_12, g29_13, g29_14, ck29, A30, S30, l30, A31, S31, l31, A32, S32, l32, A33, S33, l33, A34, S34, l34, A35, S35, l35, g36_0, g36_1, g36_2, ck36, A37, S37, l37, A38, S38, l38, A39, S39, l39, g40_0, g40_1, g40_2, g40_3, p40_4, g40_4, ck40, A41, S41, l41, A42, S42, l42, A43, S43, l43, A44, S44, l44, p45_0, g45_0, g45_1, p45_2, g45_2, p45_3, g45_3, p45_4, g45_4, p45_5, g45_5, p45_6, g45_6, p45_7, g45_7, g45_8, g45_9, g45_10, g45_11, g45_12, ck45, A46, S46, l46, A47, S47, l47, A48, S48, l48, A49, S49, l49, A50, S50, l50, A51, S51, l51, B52_0, g52_0, p52_1, g52_1, p52_2, g52_2, g52_3, p52_4, g52_4, ck52, A53, S53, l53, A54, S54, l54, A55, S55, l55, L0, L1, L2, L3, L4, L5, L6, L7, L8, L9, L10, L11, L12, L13, L14, L15, L16, L17, L18, L19, L20, L21, L22, L23, L24, L25, L26, L27, L28, L29, L30, L31, L32, L33, L34, L35, L36, L37, L38, L39, L40, L41, L42, L43, L44, L45, L46, L47, L48, L49, L50, L52, L57, L60, L90, L91, L93, L97, L99, L100, L101, L122, L240, L255, L256, L400, L401, L408, L409, L410, L411, L412, L413, L414, L420, L1000, L1001, L1103, L1200, L1240, L2820, L5220, L7936, L10440, L12345, L1000000, L1000003, L1073741823, L59, L61, L62, L200, nd_lt_t, nd_lt_f, nd_le_t, nd_le_f, nd_eq_f, nZ_add, nZ_mul, nZ_sub, nZ_lt, nZ_le, nZ_eq, nZ_nat, nZ_div, nZ_rem, nZ_and, nZ_or, and31, nZ_shl, nZ_shr, nZ_m1, nZ_nneg, nZ_nneg', nZ_nlt, nZ_ltn, inR_lt, Nat.not_lt_zero, ob_some, jI, jL, jR, jV, rI0, rI1, rIv, if_true, if_false, ↓reduceIte, Nat.reduceAdd, Nat.reduceMul, Nat.reduceSub, Nat.reduceLT, Nat.reduceEqDiff, Nat.reduceLeDiff, Nat.zero_add, Nat.add_zero, Nat.zero_mul, Nat.mul_zero, Nat.one_mul, Nat.mul_one, and_true, true_and, false_and, and_false, or_true, true_or, or_false, false_or, not_true_eq_false, not_false_eq_true, eq_self, bI_0, bI_1, em_b, hI_ne, hI_at, hA_ne, hA_at, Sh_si, Sh_sA]
    · have n0 : ng = 0 := by omega
      subst n0
      rw [P_3] at hne ⊢
      refine C_two ih 3 1 4 pos lv dp z acc (by decide) (by decide) hpos hlv hdp hz ?_ hne
      intro D hD
      obtain ⟨d, rfl⟩ : ∃ d, D = d + 4 := ⟨D - 4, by have := CMd_10 3 hdp; omega⟩
      refine ⟨d + 3, d + 4, ?_, hD, fun x k => qbig (d + 4) 119 7 [sR (some 29), sI x, sI (nZ 0), none] [] k, ?_, fun k => rfl, ?_⟩
      · have hD2 : 4 * (9 - dp) + 8 ≤ d + 4 := hD
        show 4 * (9 - dp) + 7 ≤ d + 3
        omega
      · intro F S i
        have H1 : Sh (st2' h F S) := H
        show qcl (d + 4) 119 [qR (some 29)] (st2' h F S) = _
        rw [E119, ck29 H1]
        rfl
      · intro k
        show qbig (d + 4) 119 7 [sR (some 29), sI (nZ 0), sI (nZ 0), none] [] k = _
        rw [E119_7]
        rfl
    · have n0 : ng = 0 := by omega
      subst n0
      have k26 := kdT_iff (k := pos) w hT hpos kq26 (by decide) (by decide)
      have k27 := kdT_iff (k := pos) w hT hpos kq27 (by decide) (by decide)
      rw [P_4] at hne ⊢
      by_cases c1 : cAt (CT T n) N pos = 143 ∨ cAt (CT T n) N pos = 145
      · rw [if_pos c1] at hne ⊢
        have hp1 := C_pos (C := CT T n) (N := N) (k := pos) (by omega)
        refine C_loopS X w ih 4 1 pos lv dp z (if cAt (CT T n) N pos = 143 then 26 else 27) acc (fun dn => if cAt (CT T n) N pos = 143 then dAdd acc dn else dSub acc dn) (by decide) (by decide) hp1 hlv hdp hz (by split <;> decide) ?_ hne ?_
        · intro D hD
          obtain ⟨d, rfl⟩ : ∃ d, D = d + 4 := ⟨D - 4, by have := CMd_10 4 hdp; omega⟩
          refine ⟨d, ?_, fun i x k => qbig (d + 4) 119 7 [sR (some 29), sI x, sI (nZ (i + 1)), none] [] k, ?_, fun i k => rfl, ?_⟩
          · have hD2 : 4 * (9 - dp) + 8 ≤ d + 4 := hD
            show 4 * (9 - dp) + 7 ≤ d + 3
            omega
          · intro F S i G hi ps a1
            have f4 := ps.1.2.2.2.1
            show qbig (d + 4) 119 7 [sR (some 29), sI (nZ 1), sI (nZ i), none] [] (st2' h F S) = cI (qcl (d + 3) 120 [qR (some 29)] (st2' h G S)) _
            rw [E119_7]
            by_cases c2 : cAt (CT T n) N pos = 143
            · rw [eq_true c2] at k26
              have k26' : kdT T n pos = 26 := of_eq_true k26
              rw [k26'] at f4
              rw [if_pos c2]
              simp (disch := first | assumption | omega | (simp only [Sh_si, Sh_sA, Sh_s2]; assumption)) only [s2_29, f4, z10, a1, A0, l0, A1, l1, A2, l2, A3, l3, A4, l4, A7, l7, A8, l8, g10_0, g10_1, g10_2, g10_3, g10_4, g10_5, g10_6, g10_7, g10_8, g10_9, p10_10, g10_10, p10_11, g10_11, p10_12, g10_12, p10_13, g10_13, ck10, g11_0, g11_1, g11_2, g11_3, p11_4, g11_4, p11_5, g11_5, ck11, p12_0, g12_0, p12_1, g12_1, g12_2, g12_3, g12_4, g12_5, ck12, A13, S13, l13, A14, S14, l14, A15, S15, l15, A16, S16, l16, p17_0, g17_0, g17_1, ck17, A18, S18, l18, p19_0, g19_0, g19_1, g19_2, g19_3, g19_4, g19_5, ck19, A20, S20, l20, A21, S21, l21, A22, S22, l22, A23, S23, l23, A24, S24, l24, R25, R26, p27_0, g27_0, g27_1, ck27, A28, S28, l28, p29_0, g29_0, g29_1, p29_2, g29_2, p29_3, g29_3, p29_4, g29_4, p29_5, g29_5, p29_6, g29_6, p29_7, g29_7, p29_8, g29_8, p29_9, g29_9, g29_10, g29_11, g29_12, g29_13, g29_14, ck29, A30, S30, l30, A31, S31, l31, A32, S32, l32, A33, S33, l33, A34, S34, l34, A35, S35, l35, g36_0, g36_1, g36_2, ck36, A37, S37, l37, A38, S38, l38, A39, S39, l39, g40_0, g40_1, g40_2, g40_3, p40_4, g40_4, ck40, A41, S41, l41, A42, S42, l42, A43, S43, l43, A44, S44, l44, p45_0, g45_0, g45_1, p45_2, g45_2, p45_3, g45_3, p45_4, g45_4, p45_5, g45_5, p45_6, g45_6, p45_7, g45_7, g45_8, g45_9, g45_10, g45_11, g45_12, ck45, A46, S46, l46, A47, S47, l47, A48, S48, l48, A49, S49, l49, A50, S50, l50, A51, S51, l51, B52_0, g52_0, p52_1, g52_1, p52_2, g52_2, g52_3, p52_4, g52_4, ck52, A53, S53, l53, A54, S54, l54, A55, S55, l55, L0, L1, L2, L3, L4, L5, L6, L7, L8, L9, L10, L11, L12, L13, L14, L15, L16, L17, L18, L19, L20, L21, L22, L23, L24, L25, L26, L27, L28, L29, L30, L31, L32, L33, L34, L35, L36, L37, L38, L39, L40, L41, L42, L43, L44, L45, L46, L47, L48, L49, L50, L52, L57, L60, L90, L91, L93, L97, L99, L100, L101, L122, L240, L255, L256, L400, L401, L408, L409, L410, L411, L412, L413, L414, L420, L1000, L1001, L1103, L1200, L1240, L2820, L5220, L7936, L10440, L12345, L1000000, L1000003, L1073741823, L59, L61, L62, L200, nd_lt_t, nd_lt_f, nd_le_t, nd_le_f, nd_eq_f, nZ_add, nZ_mul, nZ_sub, nZ_lt, nZ_le, nZ_eq, nZ_nat, nZ_div, nZ_rem, nZ_and, nZ_or, and31, nZ_shl, nZ_shr, nZ_m1, nZ_nneg, nZ_nneg', nZ_nlt, nZ_ltn, inR_lt, Nat.not_lt_zero, ob_some, jI, jL, jR, jV, rI0, rI1, rIv, if_true, if_false, ↓reduceIte, Nat.reduceAdd, Nat.reduceMul, Nat.reduceSub, Nat.reduceLT, Nat.reduceEqDiff, Nat.reduceLeDiff, Nat.zero_add, Nat.add_zero, Nat.zero_mul, Nat.mul_zero, Nat.one_mul, Nat.mul_one, and_true, true_and, false_and, and_false, or_true, true_or, or_false, false_or, not_true_eq_false, not_false_eq_true, eq_self, bI_0, bI_1, em_b, hI_ne, hI_at, hA_ne, hA_at, Sh_si, Sh_sA]
            · have c3 : cAt (CT T n) N pos = 145 := by omega
              rw [eq_true c3] at k27
              have k27' : kdT T n pos = 27 := of_eq_true k27
              rw [k27'] at f4
              rw [if_neg c2]
              simp (disch := first | assumption | omega | (simp only [Sh_si, Sh_sA, Sh_s2]; assumption)) only [s2_29, f4, z10, a1, A0, l0, A1, l1, A2, l2, A3, l3, A4, l4, A7, l7, A8, l8, g10_0, g10_1, g10_2, g10_3, g10_4, g10_5, g10_6, g10_7, g10_8, g10_9, p10_10, g10_10, p10_11, g10_11, p10_12, g10_12, p10_13, g10_13, ck10, g11_0, g11_1, g11_2, g11_3, p11_4, g11_4, p11_5, g11_5, ck11, p12_0, g12_0, p12_1, g12_1, g12_2, g12_3, g12_4, g12_5, ck12, A13, S13, l13, A14, S14, l14, A15, S15, l15, A16, S16, l16, p17_0, g17_0, g17_1, ck17, A18, S18, l18, p19_0, g19_0, g19_1, g19_2, g19_3, g19_4, g19_5, ck19, A20, S20, l20, A21, S21, l21, A22, S22, l22, A23, S23, l23, A24, S24, l24, R25, R26, p27_0, g27_0, g27_1, ck27, A28, S28, l28, p29_0, g29_0, g29_1, p29_2, g29_2, p29_3, g29_3, p29_4, g29_4, p29_5, g29_5, p29_6, g29_6, p29_7, g29_7, p29_8, g29_8, p29_9, g29_9, g29_10, g29_11, g29_12, g29_13, g29_14, ck29, A30, S30, l30, A31, S31, l31, A32, S32, l32, A33, S33, l33, A34, S34, l34, A35, S35, l35, g36_0, g36_1, g36_2, ck36, A37, S37, l37, A38, S38, l38, A39, S39, l39, g40_0, g40_1, g40_2, g40_3, p40_4, g40_4, ck40, A41, S41, l41, A42, S42, l42, A43, S43, l43, A44, S44, l44, p45_0, g45_0, g45_1, p45_2, g45_2, p45_3, g45_3, p45_4, g45_4, p45_5, g45_5, p45_6, g45_6, p45_7, g45_7, g45_8, g45_9, g45_10, g45_11, g45_12, ck45, A46, S46, l46, A47, S47, l47, A48, S48, l48, A49, S49, l49, A50, S50, l50, A51, S51, l51, B52_0, g52_0, p52_1, g52_1, p52_2, g52_2, g52_3, p52_4, g52_4, ck52, A53, S53, l53, A54, S54, l54, A55, S55, l55, L0, L1, L2, L3, L4, L5, L6, L7, L8, L9, L10, L11, L12, L13, L14, L15, L16, L17, L18, L19, L20, L21, L22, L23, L24, L25, L26, L27, L28, L29, L30, L31, L32, L33, L34, L35, L36, L37, L38, L39, L40, L41, L42, L43, L44, L45, L46, L47, L48, L49, L50, L52, L57, L60, L90, L91, L93, L97, L99, L100, L101, L122, L240, L255, L256, L400, L401, L408, L409, L410, L411, L412, L413, L414, L420, L1000, L1001, L1103, L1200, L1240, L2820, L5220, L7936, L10440, L12345, L1000000, L1000003, L1073741823, L59, L61, L62, L200, nd_lt_t, nd_lt_f, nd_le_t, nd_le_f, nd_eq_f, nZ_add, nZ_mul, nZ_sub, nZ_lt, nZ_le, nZ_eq, nZ_nat, nZ_div, nZ_rem, nZ_and, nZ_or, and31, nZ_shl, nZ_shr, nZ_m1, nZ_nneg, nZ_nneg', nZ_nlt, nZ_ltn, inR_lt, Nat.not_lt_zero, ob_some, jI, jL, jR, jV, rI0, rI1, rIv, if_true, if_false, ↓reduceIte, Nat.reduceAdd, Nat.reduceMul, Nat.reduceSub, Nat.reduceLT, Nat.reduceEqDiff, Nat.reduceLeDiff, Nat.zero_add, Nat.add_zero, Nat.zero_mul, Nat.mul_zero, Nat.one_mul, Nat.mul_one, and_true, true_and, false_and, and_false, or_true, true_or, or_false, false_or, not_true_eq_false, not_false_eq_true, eq_self, bI_0, bI_1, em_b, hI_ne, hI_at, hA_ne, hA_at, Sh_si, Sh_sA]
          · intro i k
            show qbig (d + 4) 119 7 [sR (some 29), sI (nZ 0), sI (nZ (i + 1)), none] [] k = _
            rw [E119_7]
            rfl
        · intro p l cs dn e
          have := PP _ _ _ _ _ _ _ _ _ _ _ _ e (by decide)
          omega
      · rw [if_neg c1] at hne ⊢
        refine ⟨fun e' he' => (by cases he'), ?_⟩
        intro D i F S hD hi ps
        obtain ⟨d, rfl⟩ : ∃ d, D = d + 4 := ⟨D - 4, by have := CMd_10 4 hdp; omega⟩
        refine ⟨F, S, ?_, ps.1, ps.2.1, ps.2.2.1, ps.2.2.2, rfl, fun j _ => rfl, trivial⟩
        show qbig (d + 4) 119 7 [sR (some 29), sI (nZ 1), sI (nZ i), none] [] (st2' h F S) = _
        have f4 := ps.1.2.2.2.1
        rw [eq_false (show ¬cAt (CT T n) N pos = 143 by omega)] at k26
        rw [eq_false (show ¬cAt (CT T n) N pos = 145 by omega)] at k27
        rw [E119_7]
        simp (disch := first | assumption | omega | (simp only [Sh_si, Sh_sA, Sh_s2]; assumption)) only [s2_29, f4, z10, k26, k27, A0, l0, A1, l1, A2, l2, A3, l3, A4, l4, A7, l7, A8, l8, g10_0, g10_1, g10_2, g10_3, g10_4, g10_5, g10_6, g10_7, g10_8, g10_9, p10_10, g10_10, p10_11, g10_11, p10_12, g10_12, p10_13, g10_13, ck10, g11_0, g11_1, g11_2, g11_3, p11_4, g11_4, p11_5, g11_5, ck11, p12_0, g12_0, p12_1, g12_1, g12_2, g12_3, g12_4, g12_5, ck12, A13, S13, l13, A14, S14, l14, A15, S15, l15, A16, S16, l16, p17_0, g17_0, g17_1, ck17, A18, S18, l18, p19_0, g19_0, g19_1, g19_2, g19_3, g19_4, g19_5, ck19, A20, S20, l20, A21, S21, l21, A22, S22, l22, A23, S23, l23, A24, S24, l24, R25, R26, p27_0, g27_0, g27_1, ck27, A28, S28, l28, p29_0, g29_0, g29_1, p29_2, g29_2, p29_3, g29_3, p29_4, g29_4, p29_5, g29_5, p29_6, g29_6, p29_7, g29_7, p29_8, g29_8, p29_9, g29_9, g29_10, g29_11, g29_12, g29_13, g29_14, ck29, A30, S30, l30, A31, S31, l31, A32, S32, l32, A33, S33, l33, A34, S34, l34, A35, S35, l35, g36_0, g36_1, g36_2, ck36, A37, S37, l37, A38, S38, l38, A39, S39, l39, g40_0, g40_1, g40_2, g40_3, p40_4, g40_4, ck40, A41, S41, l41, A42, S42, l42, A43, S43, l43, A44, S44, l44, p45_0, g45_0, g45_1, p45_2, g45_2, p45_3, g45_3, p45_4, g45_4, p45_5, g45_5, p45_6, g45_6, p45_7, g45_7, g45_8, g45_9, g45_10, g45_11, g45_12, ck45, A46, S46, l46, A47, S47, l47, A48, S48, l48, A49, S49, l49, A50, S50, l50, A51, S51, l51, B52_0, g52_0, p52_1, g52_1, p52_2, g52_2, g52_3, p52_4, g52_4, ck52, A53, S53, l53, A54, S54, l54, A55, S55, l55, L0, L1, L2, L3, L4, L5, L6, L7, L8, L9, L10, L11, L12, L13, L14, L15, L16, L17, L18, L19, L20, L21, L22, L23, L24, L25, L26, L27, L28, L29, L30, L31, L32, L33, L34, L35, L36, L37, L38, L39, L40, L41, L42, L43, L44, L45, L46, L47, L48, L49, L50, L52, L57, L60, L90, L91, L93, L97, L99, L100, L101, L122, L240, L255, L256, L400, L401, L408, L409, L410, L411, L412, L413, L414, L420, L1000, L1001, L1103, L1200, L1240, L2820, L5220, L7936, L10440, L12345, L1000000, L1000003, L1073741823, L59, L61, L62, L200, nd_lt_t, nd_lt_f, nd_le_t, nd_le_f, nd_eq_f, nZ_add, nZ_mul, nZ_sub, nZ_lt, nZ_le, nZ_eq, nZ_nat, nZ_div, nZ_rem, nZ_and, nZ_or, and31, nZ_shl, nZ_shr, nZ_m1, nZ_nneg, nZ_nneg', nZ_nlt, nZ_ltn, inR_lt, Nat.not_lt_zero, ob_some, jI, jL, jR, jV, rI0, rI1, rIv, if_true, if_false, ↓reduceIte, Nat.reduceAdd, Nat.reduceMul, Nat.reduceSub, Nat.reduceLT, Nat.reduceEqDiff, Nat.reduceLeDiff, Nat.zero_add, Nat.add_zero, Nat.zero_mul, Nat.mul_zero, Nat.one_mul, Nat.mul_one, and_true, true_and, false_and, and_false, or_true, true_or, or_false, false_or, not_true_eq_false, not_false_eq_true, eq_self, bI_0, bI_1, em_b, hI_ne, hI_at, hA_ne, hA_at, Sh_si, Sh_sA]
    · exact CM_5 X w ih pos lv dp z ng acc hng hpos hlv hdp hz hne
    · have n0 : ng = 0 := by omega
      subst n0
      rw [P_6] at hne ⊢
      refine C_two ih 6 5 7 pos lv dp z acc (by decide) (by decide) hpos hlv hdp hz ?_ hne
      intro D hD
      obtain ⟨d, rfl⟩ : ∃ d, D = d + 4 := ⟨D - 4, by have := CMd_10 6 hdp; omega⟩
      refine ⟨d + 3, d + 4, ?_, hD, fun x k => qbig (d + 4) 113 7 [sR (some 29), sI x, sI (nZ 0), none] [] k, ?_, fun k => rfl, ?_⟩
      · have hD2 : 4 * (9 - dp) + 11 ≤ d + 4 := hD
        show 4 * (9 - dp) + 10 ≤ d + 3
        omega
      · intro F S i
        have H1 : Sh (st2' h F S) := H
        show qcl (d + 4) 113 [qR (some 29)] (st2' h F S) = _
        rw [E113, ck29 H1, ob_some, E118, ck29 H1]
        rfl
      · intro k
        show qbig (d + 4) 113 7 [sR (some 29), sI (nZ 0), sI (nZ 0), none] [] k = _
        rw [E113_7]
        rfl
    · have n0 : ng = 0 := by omega
      subst n0
      have kk := kdT_iff (k := pos) w hT hpos kq6 (by decide) (by decide)
      rw [P_7] at hne ⊢
      by_cases c1 : cAt (CT T n) N pos = 7
      · rw [if_pos c1] at hne ⊢
        have hp1 := C_pos (C := CT T n) (N := N) (k := pos) (by omega)
        rw [eq_true c1] at kk
        have kk' : kdT T n pos = 6 := of_eq_true kk
        refine C_loopT X w ih 7 5 pos lv dp z 6 acc _ (by decide) (by decide) hp1 hlv hdp hz (by decide) ?_ hne ?_
        · intro D hD
          obtain ⟨d, rfl⟩ : ∃ d, D = d + 4 := ⟨D - 4, by have := CMd_10 7 hdp; omega⟩
          refine ⟨d, ?_, fun i x k => qbig (d + 4) 113 7 [sR (some 29), sI x, sI (nZ (i + 1)), none] [] k, ?_, fun i k => rfl, ?_⟩
          · have hD2 : 4 * (9 - dp) + 11 ≤ d + 4 := hD
            show 4 * (9 - dp) + 10 ≤ d + 3
            omega
          · intro F S i G0 R0 G hi ps a0 a1
            have f4 := ps.1.2.2.2.1
            have f9 := ps.2.2.2
            rw [kk'] at f4
            show qbig (d + 4) 113 7 [sR (some 29), sI (nZ 1), sI (nZ i), none] [] (st2' h F S) = _
            rw [E113_7]
            simp (disch := first | assumption | omega | (simp only [Sh_si, Sh_sA, Sh_s2]; assumption)) only [s2_29, f4, f9, z10, a0, a1, A0, l0, A1, l1, A2, l2, A3, l3, A4, l4, A7, l7, A8, l8, g10_0, g10_1, g10_2, g10_3, g10_4, g10_5, g10_6, g10_7, g10_8, g10_9, p10_10, g10_10, p10_11, g10_11, p10_12, g10_12, p10_13, g10_13, ck10, g11_0, g11_1, g11_2, g11_3, p11_4, g11_4, p11_5, g11_5, ck11, p12_0, g12_0, p12_1, g12_1, g12_2, g12_3, g12_4, g12_5, ck12, A13, S13, l13, A14, S14, l14, A15, S15, l15, A16, S16, l16, p17_0, g17_0, g17_1, ck17, A18, S18, l18, p19_0, g19_0, g19_1, g19_2, g19_3, g19_4, g19_5, ck19, A20, S20, l20, A21, S21, l21, A22, S22, l22, A23, S23, l23, A24, S24, l24, R25, R26, p27_0, g27_0, g27_1, ck27, A28, S28, l28, p29_0, g29_0, g29_1, p29_2, g29_2, p29_3, g29_3, p29_4, g29_4, p29_5, g29_5, p29_6, g29_6, p29_7, g29_7, p29_8, g29_8, p29_9, g29_9, g29_10, g29_11, g29_12, g29_13, g29_14, ck29, A30, S30, l30, A31, S31, l31, A32, S32, l32, A33, S33, l33, A34, S34, l34, A35, S35, l35, g36_0, g36_1, g36_2, ck36, A37, S37, l37, A38, S38, l38, A39, S39, l39, g40_0, g40_1, g40_2, g40_3, p40_4, g40_4, ck40, A41, S41, l41, A42, S42, l42, A43, S43, l43, A44, S44, l44, p45_0, g45_0, g45_1, p45_2, g45_2, p45_3, g45_3, p45_4, g45_4, p45_5, g45_5, p45_6, g45_6, p45_7, g45_7, g45_8, g45_9, g45_10, g45_11, g45_12, ck45, A46, S46, l46, A47, S47, l47, A48, S48, l48, A49, S49, l49, A50, S50, l50, A51, S51, l51, B52_0, g52_0, p52_1, g52_1, p52_2, g52_2, g52_3, p52_4, g52_4, ck52, A53, S53, l53, A54, S54, l54, A55, S55, l55, L0, L1, L2, L3, L4, L5, L6, L7, L8, L9, L10, L11, L12, L13, L14, L15, L16, L17, L18, L19, L20, L21, L22, L23, L24, L25, L26, L27, L28, L29, L30, L31, L32, L33, L34, L35, L36, L37, L38, L39, L40, L41, L42, L43, L44, L45, L46, L47, L48, L49, L50, L52, L57, L60, L90, L91, L93, L97, L99, L100, L101, L122, L240, L255, L256, L400, L401, L408, L409, L410, L411, L412, L413, L414, L420, L1000, L1001, L1103, L1200, L1240, L2820, L5220, L7936, L10440, L12345, L1000000, L1000003, L1073741823, L59, L61, L62, L200, nd_lt_t, nd_lt_f, nd_le_t, nd_le_f, nd_eq_f, nZ_add, nZ_mul, nZ_sub, nZ_lt, nZ_le, nZ_eq, nZ_nat, nZ_div, nZ_rem, nZ_and, nZ_or, and31, nZ_shl, nZ_shr, nZ_m1, nZ_nneg, nZ_nneg', nZ_nlt, nZ_ltn, inR_lt, Nat.not_lt_zero, ob_some, jI, jL, jR, jV, rI0, rI1, rIv, if_true, if_false, ↓reduceIte, Nat.reduceAdd, Nat.reduceMul, Nat.reduceSub, Nat.reduceLT, Nat.reduceEqDiff, Nat.reduceLeDiff, Nat.zero_add, Nat.add_zero, Nat.zero_mul, Nat.mul_zero, Nat.one_mul, Nat.mul_one, and_true, true_and, false_and, and_false, or_true, true_or, or_false, false_or, not_true_eq_false, not_false_eq_true, eq_self, bI_0, bI_1, em_b, hI_ne, hI_at, hA_ne, hA_at, Sh_si, Sh_sA]
            first | rfl | (rw [E118, ck29 (show Sh (st2' h G R0) from H)]; rfl)
          · intro i k
            show qbig (d + 4) 113 7 [sR (some 29), sI (nZ 0), sI (nZ (i + 1)), none] [] k = _
            rw [E113_7]
            rfl
        · intro p l cs dn e
          have := PP _ _ _ _ _ _ _ _ _ _ _ _ e (by decide)
          omega
      · rw [if_neg c1] at hne ⊢
        refine ⟨fun e' he' => (by cases he'), ?_⟩
        intro D i F S hD hi ps
        obtain ⟨d, rfl⟩ : ∃ d, D = d + 4 := ⟨D - 4, by have := CMd_10 7 hdp; omega⟩
        refine ⟨F, S, ?_, ps.1, ps.2.1, ps.2.2.1, ps.2.2.2, rfl, fun j _ => rfl, trivial⟩
        show qbig (d + 4) 113 7 [sR (some 29), sI (nZ 1), sI (nZ i), none] [] (st2' h F S) = _
        have f4 := ps.1.2.2.2.1
        rw [eq_false c1] at kk
        rw [E113_7]
        simp (disch := first | assumption | omega | (simp only [Sh_si, Sh_sA, Sh_s2]; assumption)) only [s2_29, f4, z10, kk, A0, l0, A1, l1, A2, l2, A3, l3, A4, l4, A7, l7, A8, l8, g10_0, g10_1, g10_2, g10_3, g10_4, g10_5, g10_6, g10_7, g10_8, g10_9, p10_10, g10_10, p10_11, g10_11, p10_12, g10_12, p10_13, g10_13, ck10, g11_0, g11_1, g11_2, g11_3, p11_4, g11_4, p11_5, g11_5, ck11, p12_0, g12_0, p12_1, g12_1, g12_2, g12_3, g12_4, g12_5, ck12, A13, S13, l13, A14, S14, l14, A15, S15, l15, A16, S16, l16, p17_0, g17_0, g17_1, ck17, A18, S18, l18, p19_0, g19_0, g19_1, g19_2, g19_3, g19_4, g19_5, ck19, A20, S20, l20, A21, S21, l21, A22, S22, l22, A23, S23, l23, A24, S24, l24, R25, R26, p27_0, g27_0, g27_1, ck27, A28, S28, l28, p29_0, g29_0, g29_1, p29_2, g29_2, p29_3, g29_3, p29_4, g29_4, p29_5, g29_5, p29_6, g29_6, p29_7, g29_7, p29_8, g29_8, p29_9, g29_9, g29_10, g29_11, g29_12, g29_13, g29_14, ck29, A30, S30, l30, A31, S31, l31, A32, S32, l32, A33, S33, l33, A34, S34, l34, A35, S35, l35, g36_0, g36_1, g36_2, ck36, A37, S37, l37, A38, S38, l38, A39, S39, l39, g40_0, g40_1, g40_2, g40_3, p40_4, g40_4, ck40, A41, S41, l41, A42, S42, l42, A43, S43, l43, A44, S44, l44, p45_0, g45_0, g45_1, p45_2, g45_2, p45_3, g45_3, p45_4, g45_4, p45_5, g45_5, p45_6, g45_6, p45_7, g45_7, g45_8, g45_9, g45_10, g45_11, g45_12, ck45, A46, S46, l46, A47, S47, l47, A48, S48, l48, A49, S49, l49, A50, S50, l50, A51, S51, l51, B52_0, g52_0, p52_1, g52_1, p52_2, g52_2, g52_3, p52_4, g52_4, ck52, A53, S53, l53, A54, S54, l54, A55, S55, l55, L0, L1, L2, L3, L4, L5, L6, L7, L8, L9, L10, L11, L12, L13, L14, L15, L16, L17, L18, L19, L20, L21, L22, L23, L24, L25, L26, L27, L28, L29, L30, L31, L32, L33, L34, L35, L36, L37, L38, L39, L40, L41, L42, L43, L44, L45, L46, L47, L48, L49, L50, L52, L57, L60, L90, L91, L93, L97, L99, L100, L101, L122, L240, L255, L256, L400, L401, L408, L409, L410, L411, L412, L413, L414, L420, L1000, L1001, L1103, L1200, L1240, L2820, L5220, L7936, L10440, L12345, L1000000, L1000003, L1073741823, L59, L61, L62, L200, nd_lt_t, nd_lt_f, nd_le_t, nd_le_f, nd_eq_f, nZ_add, nZ_mul, nZ_sub, nZ_lt, nZ_le, nZ_eq, nZ_nat, nZ_div, nZ_rem, nZ_and, nZ_or, and31, nZ_shl, nZ_shr, nZ_m1, nZ_nneg, nZ_nneg', nZ_nlt, nZ_ltn, inR_lt, Nat.not_lt_zero, ob_some, jI, jL, jR, jV, rI0, rI1, rIv, if_true, if_false, ↓reduceIte, Nat.reduceAdd, Nat.reduceMul, Nat.reduceSub, Nat.reduceLT, Nat.reduceEqDiff, Nat.reduceLeDiff, Nat.zero_add, Nat.add_zero, Nat.zero_mul, Nat.mul_zero, Nat.one_mul, Nat.mul_one, and_true, true_and, false_and, and_false, or_true, true_or, or_false, false_or, not_true_eq_false, not_false_eq_true, eq_self, bI_0, bI_1, em_b, hI_ne, hI_at, hA_ne, hA_at, Sh_si, Sh_sA]
    · have n0 : ng = 0 := by omega
      subst n0
      rw [P_8] at hne ⊢
      refine C_two ih 8 6 9 pos lv dp z acc (by decide) (by decide) hpos hlv hdp hz ?_ hne
      intro D hD
      obtain ⟨d, rfl⟩ : ∃ d, D = d + 4 := ⟨D - 4, by have := CMd_10 8 hdp; omega⟩
      refine ⟨d + 3, d + 4, ?_, hD, fun x k => qbig (d + 4) 121 7 [sR (some 29), sI x, sI (nZ 0), none] [] k, ?_, fun k => rfl, ?_⟩
      · have hD2 : 4 * (9 - dp) + 12 ≤ d + 4 := hD
        show 4 * (9 - dp) + 11 ≤ d + 3
        omega
      · intro F S i
        have H1 : Sh (st2' h F S) := H
        show qcl (d + 4) 121 [qR (some 29)] (st2' h F S) = _
        rw [E121, ck29 H1]
        rfl
      · intro k
        show qbig (d + 4) 121 7 [sR (some 29), sI (nZ 0), sI (nZ 0), none] [] k = _
        rw [E121_7]
        rfl
    · have n0 : ng = 0 := by omega
      subst n0
      have kk := kdT_iff (k := pos) w hT hpos kq5 (by decide) (by decide)
      rw [P_9] at hne ⊢
      by_cases c1 : cAt (CT T n) N pos = 6
      · rw [if_pos c1] at hne ⊢
        have hp1 := C_pos (C := CT T n) (N := N) (k := pos) (by omega)
        rw [eq_true c1] at kk
        have kk' : kdT T n pos = 5 := of_eq_true kk
        refine C_loopT X w ih 9 6 pos lv dp z 5 acc _ (by decide) (by decide) hp1 hlv hdp hz (by decide) ?_ hne ?_
        · intro D hD
          obtain ⟨d, rfl⟩ : ∃ d, D = d + 4 := ⟨D - 4, by have := CMd_10 9 hdp; omega⟩
          refine ⟨d, ?_, fun i x k => qbig (d + 4) 121 7 [sR (some 29), sI x, sI (nZ (i + 1)), none] [] k, ?_, fun i k => rfl, ?_⟩
          · have hD2 : 4 * (9 - dp) + 12 ≤ d + 4 := hD
            show 4 * (9 - dp) + 11 ≤ d + 3
            omega
          · intro F S i G0 R0 G hi ps a0 a1
            have f4 := ps.1.2.2.2.1
            have f9 := ps.2.2.2
            rw [kk'] at f4
            show qbig (d + 4) 121 7 [sR (some 29), sI (nZ 1), sI (nZ i), none] [] (st2' h F S) = _
            rw [E121_7]
            simp (disch := first | assumption | omega | (simp only [Sh_si, Sh_sA, Sh_s2]; assumption)) only [s2_29, f4, f9, z10, a0, a1, A0, l0, A1, l1, A2, l2, A3, l3, A4, l4, A7, l7, A8, l8, g10_0, g10_1, g10_2, g10_3, g10_4, g10_5, g10_6, g10_7, g10_8, g10_9, p10_10, g10_10, p10_11, g10_11, p10_12, g10_12, p10_13, g10_13, ck10, g11_0, g11_1, g11_2, g11_3, p11_4, g11_4, p11_5, g11_5, ck11, p12_0, g12_0, p12_1, g12_1, g12_2, g12_3, g12_4, g12_5, ck12, A13, S13, l13, A14, S14, l14, A15, S15, l15, A16, S16, l16, p17_0, g17_0, g17_1, ck17, A18, S18, l18, p19_0, g19_0, g19_1, g19_2, g19_3, g19_4, g19_5, ck19, A20, S20, l20, A21, S21, l21, A22, S22, l22, A23, S23, l23, A24, S24, l24, R25, R26, p27_0, g27_0, g27_1, ck27, A28, S28, l28, p29_0, g29_0, g29_1, p29_2, g29_2, p29_3, g29_3, p29_4, g29_4, p29_5, g29_5, p29_6, g29_6, p29_7, g29_7, p29_8, g29_8, p29_9, g29_9, g29_10, g29_11, g29_12, g29_13, g29_14, ck29, A30, S30, l30, A31, S31, l31, A32, S32, l32, A33, S33, l33, A34, S34, l34, A35, S35, l35, g36_0, g36_1, g36_2, ck36, A37, S37, l37, A38, S38, l38, A39, S39, l39, g40_0, g40_1, g40_2, g40_3, p40_4, g40_4, ck40, A41, S41, l41, A42, S42, l42, A43, S43, l43, A44, S44, l44, p45_0, g45_0, g45_1, p45_2, g45_2, p45_3, g45_3, p45_4, g45_4, p45_5, g45_5, p45_6, g45_6, p45_7, g45_7, g45_8, g45_9, g45_10, g45_11, g45_12, ck45, A46, S46, l46, A47, S47, l47, A48, S48, l48, A49, S49, l49, A50, S50, l50, A51, S51, l51, B52_0, g52_0, p52_1, g52_1, p52_2, g52_2, g52_3, p52_4, g52_4, ck52, A53, S53, l53, A54, S54, l54, A55, S55, l55, L0, L1, L2, L3, L4, L5, L6, L7, L8, L9, L10, L11, L12, L13, L14, L15, L16, L17, L18, L19, L20, L21, L22, L23, L24, L25, L26, L27, L28, L29, L30, L31, L32, L33, L34, L35, L36, L37, L38, L39, L40, L41, L42, L43, L44, L45, L46, L47, L48, L49, L50, L52, L57, L60, L90, L91, L93, L97, L99, L100, L101, L122, L240, L255, L256, L400, L401, L408, L409, L410, L411, L412, L413, L414, L420, L1000, L1001, L1103, L1200, L1240, L2820, L5220, L7936, L10440, L12345, L1000000, L1000003, L1073741823, L59, L61, L62, L200, nd_lt_t, nd_lt_f, nd_le_t, nd_le_f, nd_eq_f, nZ_add, nZ_mul, nZ_sub, nZ_lt, nZ_le, nZ_eq, nZ_nat, nZ_div, nZ_rem, nZ_and, nZ_or, and31, nZ_shl, nZ_shr, nZ_m1, nZ_nneg, nZ_nneg', nZ_nlt, nZ_ltn, inR_lt, Nat.not_lt_zero, ob_some, jI, jL, jR, jV, rI0, rI1, rIv, if_true, if_false, ↓reduceIte, Nat.reduceAdd, Nat.reduceMul, Nat.reduceSub, Nat.reduceLT, Nat.reduceEqDiff, Nat.reduceLeDiff, Nat.zero_add, Nat.add_zero, Nat.zero_mul, Nat.mul_zero, Nat.one_mul, Nat.mul_one, and_true, true_and, false_and, and_false, or_true, true_or, or_false, false_or, not_true_eq_false, not_false_eq_true, eq_self, bI_0, bI_1, em_b, hI_ne, hI_at, hA_ne, hA_at, Sh_si, Sh_sA]
            first | rfl | (rw [E118, ck29 (show Sh (st2' h G R0) from H)]; rfl)
          · intro i k
            show qbig (d + 4) 121 7 [sR (some 29), sI (nZ 0), sI (nZ (i + 1)), none] [] k = _
            rw [E121_7]
            rfl
        · intro p l cs dn e
          have := PP _ _ _ _ _ _ _ _ _ _ _ _ e (by decide)
          omega
      · rw [if_neg c1] at hne ⊢
        refine ⟨fun e' he' => (by cases he'), ?_⟩
        intro D i F S hD hi ps
        obtain ⟨d, rfl⟩ : ∃ d, D = d + 4 := ⟨D - 4, by have := CMd_10 9 hdp; omega⟩
        refine ⟨F, S, ?_, ps.1, ps.2.1, ps.2.2.1, ps.2.2.2, rfl, fun j _ => rfl, trivial⟩
        show qbig (d + 4) 121 7 [sR (some 29), sI (nZ 1), sI (nZ i), none] [] (st2' h F S) = _
        have f4 := ps.1.2.2.2.1
        rw [eq_false c1] at kk
        rw [E121_7]
        simp (disch := first | assumption | omega | (simp only [Sh_si, Sh_sA, Sh_s2]; assumption)) only [s2_29, f4, z10, kk, A0, l0, A1, l1, A2, l2, A3, l3, A4, l4, A7, l7, A8, l8, g10_0, g10_1, g10_2, g10_3, g10_4, g10_5, g10_6, g10_7, g10_8, g10_9, p10_10, g10_10, p10_11, g10_11, p10_12, g10_12, p10_13, g10_13, ck10, g11_0, g11_1, g11_2, g11_3, p11_4, g11_4, p11_5, g11_5, ck11, p12_0, g12_0, p12_1, g12_1, g12_2, g12_3, g12_4, g12_5, ck12, A13, S13, l13, A14, S14, l14, A15, S15, l15, A16, S16, l16, p17_0, g17_0, g17_1, ck17, A18, S18, l18, p19_0, g19_0, g19_1, g19_2, g19_3, g19_4, g19_5, ck19, A20, S20, l20, A21, S21, l21, A22, S22, l22, A23, S23, l23, A24, S24, l24, R25, R26, p27_0, g27_0, g27_1, ck27, A28, S28, l28, p29_0, g29_0, g29_1, p29_2, g29_2, p29_3, g29_3, p29_4, g29_4, p29_5, g29_5, p29_6, g29_6, p29_7, g29_7, p29_8, g29_8, p29_9, g29_9, g29_10, g29_11, g29_12, g29_13, g29_14, ck29, A30, S30, l30, A31, S31, l31, A32, S32, l32, A33, S33, l33, A34, S34, l34, A35, S35, l35, g36_0, g36_1, g36_2, ck36, A37, S37, l37, A38, S38, l38, A39, S39, l39, g40_0, g40_1, g40_2, g40_3, p40_4, g40_4, ck40, A41, S41, l41, A42, S42, l42, A43, S43, l43, A44, S44, l44, p45_0, g45_0, g45_1, p45_2, g45_2, p45_3, g45_3, p45_4, g45_4, p45_5, g45_5, p45_6, g45_6, p45_7, g45_7, g45_8, g45_9, g45_10, g45_11, g45_12, ck45, A46, S46, l46, A47, S47, l47, A48, S48, l48, A49, S49, l49, A50, S50, l50, A51, S51, l51, B52_0, g52_0, p52_1, g52_1, p52_2, g52_2, g52_3, p52_4, g52_4, ck52, A53, S53, l53, A54, S54, l54, A55, S55, l55, L0, L1, L2, L3, L4, L5, L6, L7, L8, L9, L10, L11, L12, L13, L14, L15, L16, L17, L18, L19, L20, L21, L22, L23, L24, L25, L26, L27, L28, L29, L30, L31, L32, L33, L34, L35, L36, L37, L38, L39, L40, L41, L42, L43, L44, L45, L46, L47, L48, L49, L50, L52, L57, L60, L90, L91, L93, L97, L99, L100, L101, L122, L240, L255, L256, L400, L401, L408, L409, L410, L411, L412, L413, L414, L420, L1000, L1001, L1103, L1200, L1240, L2820, L5220, L7936, L10440, L12345, L1000000, L1000003, L1073741823, L59, L61, L62, L200, nd_lt_t, nd_lt_f, nd_le_t, nd_le_f, nd_eq_f, nZ_add, nZ_mul, nZ_sub, nZ_lt, nZ_le, nZ_eq, nZ_nat, nZ_div, nZ_rem, nZ_and, nZ_or, and31, nZ_shl, nZ_shr, nZ_m1, nZ_nneg, nZ_nneg', nZ_nlt, nZ_ltn, inR_lt, Nat.not_lt_zero, ob_some, jI, jL, jR, jV, rI0, rI1, rIv, if_true, if_false, ↓reduceIte, Nat.reduceAdd, Nat.reduceMul, Nat.reduceSub, Nat.reduceLT, Nat.reduceEqDiff, Nat.reduceLeDiff, Nat.zero_add, Nat.add_zero, Nat.zero_mul, Nat.mul_zero, Nat.one_mul, Nat.mul_one, and_true, true_and, false_and, and_false, or_true, true_or, or_false, false_or, not_true_eq_false, not_false_eq_true, eq_self, bI_0, bI_1, em_b, hI_ne, hI_at, hA_ne, hA_at, Sh_si, Sh_sA]

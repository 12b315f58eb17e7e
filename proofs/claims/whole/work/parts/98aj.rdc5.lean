/-- fresh ones take a token at least -/
theorem PP {C V : Nat → Nat} {N : Nat} : ∀ f s pos lv dp z ng acc p lv' cs dn, P C V N f s pos lv dp z ng acc = .inr (p, lv', cs, dn) → s < 10 → pos ≤ p ∧ (s = 2 ∨ s = 4 ∨ s = 7 ∨ s = 9 ∨ pos + 1 ≤ p) := by
  intro f
  induction f with
  | zero =>
    intro s pos lv dp z ng acc p lv' cs dn e
    cases e
  | succ f ih =>
    have two : ∀ (s1 s2 : Nat) (pos lv dp z : Nat) (acc : Den) (p : Nat) (lv' : Nat) (cs : List Nat) (dn : Den), (rdB (P C V N f s1 pos lv dp z 0 acc) fun p l cs dn => rdB (P C V N f s2 p l dp (z + cs.length) 0 dn) fun p2 l2 cs2 dn2 => .inr (p2, l2, cs ++ cs2, dn2)) = .inr (p, lv', cs, dn) → s1 < 10 → s2 < 10 → ¬(s1 = 2 ∨ s1 = 4 ∨ s1 = 7 ∨ s1 = 9) → pos + 1 ≤ p := by
      intro s1 s2 pos lv dp z acc p lv' cs dn e h1 h2 h3
      obtain ⟨p1, lv1, cs1, dn1, e1, e2⟩ := rdB_inr e
      obtain ⟨p2, lv2, cs2, dn2, e3, e4⟩ := rdB_inr e2
      cases e4
      have i1 := ih s1 _ _ _ _ _ _ _ _ _ _ e1 h1
      have i2 := ih s2 _ _ _ _ _ _ _ _ _ _ e3 h2
      omega
    intro s pos lv dp z ng acc p lv' cs dn e hs
    have s10 : s = 0 ∨ s = 1 ∨ s = 2 ∨ s = 3 ∨ s = 4 ∨ s = 5 ∨ s = 6 ∨ s = 7 ∨ s = 8 ∨ s = 9 := by omega
    rcases s10 with r | r | r | r | r | r | r | r | r | r <;> subst r
    · rw [P_0] at e
      split at e
      · split at e
        · cases e
        · obtain ⟨p1, lv1, cs1, dn1, e1, e2⟩ := rdB_inr e
          have i1 := ih 3 _ _ _ _ _ _ _ _ _ _ e1 (by decide)
          split at e2
          · cases e2
            omega
          · cases e2
      · split at e
        · split at e
          · cases e
          · cases e
            omega
        · split at e
          · split at e
            · cases e
            · cases e
              omega
          · cases e
    · rw [P_1] at e
      have := two 0 2 pos lv dp z acc p lv' cs dn e (by decide) (by decide) (by decide)
      omega
    · rw [P_2] at e
      split at e
      · obtain ⟨p1, lv1, cs1, dn1, e1, e2⟩ := rdB_inr e
        obtain ⟨p2, lv2, cs2, dn2, e3, e4⟩ := rdB_inr e2
        cases e4
        have i1 := ih 0 _ _ _ _ _ _ _ _ _ _ e1 (by decide)
        have i2 := ih 2 _ _ _ _ _ _ _ _ _ _ e3 (by decide)
        omega
      · cases e
        omega
    · rw [P_3] at e
      have := two 1 4 pos lv dp z acc p lv' cs dn e (by decide) (by decide) (by decide)
      omega
    · rw [P_4] at e
      split at e
      · obtain ⟨p1, lv1, cs1, dn1, e1, e2⟩ := rdB_inr e
        obtain ⟨p2, lv2, cs2, dn2, e3, e4⟩ := rdB_inr e2
        cases e4
        have i1 := ih 1 _ _ _ _ _ _ _ _ _ _ e1 (by decide)
        have i2 := ih 4 _ _ _ _ _ _ _ _ _ _ e3 (by decide)
        omega
      · cases e
        omega
    · rw [P_5] at e
      split at e
      · have i1 := ih 5 _ _ _ _ _ _ _ _ _ _ e (by decide)
        omega
      · split at e
        · split at e
          · cases e
          · obtain ⟨p1, lv1, cs1, dn1, e1, e2⟩ := rdB_inr e
            have i1 := ih 8 _ _ _ _ _ _ _ _ _ _ e1 (by decide)
            split at e2
            · cases e2
              omega
            · cases e2
        · obtain ⟨p1, lv1, cs1, dn1, e1, e2⟩ := rdB_inr e
          have i1 := ih 3 _ _ _ _ _ _ _ _ _ _ e1 (by decide)
          split at e2
          · obtain ⟨p2, lv2, cs2, dn2, e3, e4⟩ := rdB_inr e2
            cases e4
            have i2 := ih 3 _ _ _ _ _ _ _ _ _ _ e3 (by decide)
            omega
          · cases e2
    · rw [P_6] at e
      have := two 5 7 pos lv dp z acc p lv' cs dn e (by decide) (by decide) (by decide)
      omega
    · rw [P_7] at e
      split at e
      · obtain ⟨p1, lv1, cs1, dn1, e1, e2⟩ := rdB_inr e
        obtain ⟨p2, lv2, cs2, dn2, e3, e4⟩ := rdB_inr e2
        cases e4
        have i1 := ih 5 _ _ _ _ _ _ _ _ _ _ e1 (by decide)
        have i2 := ih 7 _ _ _ _ _ _ _ _ _ _ e3 (by decide)
        omega
      · cases e
        omega
    · rw [P_8] at e
      have := two 6 9 pos lv dp z acc p lv' cs dn e (by decide) (by decide) (by decide)
      omega
    · rw [P_9] at e
      split at e
      · obtain ⟨p1, lv1, cs1, dn1, e1, e2⟩ := rdB_inr e
        obtain ⟨p2, lv2, cs2, dn2, e3, e4⟩ := rdB_inr e2
        cases e4
        have i1 := ih 6 _ _ _ _ _ _ _ _ _ _ e1 (by decide)
        have i2 := ih 9 _ _ _ _ _ _ _ _ _ _ e3 (by decide)
        omega
      · cases e
        omega
/-- brackets -/
def brR (cc : Nat) (C : Nat → Nat) (N : Nat) (r : Rd) : Rd := rdB r fun p l cs dn => if cAt C N p = cc then .inr (p + 1, l, cs, dn) else .inl p
theorem C_br22 {h : QH} {T : Nat → Nat} {n N f : Nat} (X : CRX h T n) (w : NN T n N) (ih : CIH h T n N f) (pos lv dp z : Nat) (acc : Den) (hpos : pos < N) (hlv : lv ≤ 50) (hdp : dp < 8) (hz : z + (N - pos) ≤ 412) (hne : brR 193 (CT T n) N (P (CT T n) (VT T n) N f 3 (pos + 1) lv (dp + 1) z 0 acc) ≠ .inl 100000) : (∀ e, brR 193 (CT T n) N (P (CT T n) (VT T n) N f 3 (pos + 1) lv (dp + 1) z 0 acc) = .inl e → e ≤ N) ∧ ∀ D F S, CMd 3 (dp + 1) ≤ D + 3 → PS T n F pos lv dp z → OK2 h T n (qcl (D + 4) 114 [qR (some 29), qI (nZ 22)] (st2' h F S)) F S z dp (brR 193 (CT T n) N (P (CT T n) (VT T n) N f 3 (pos + 1) lv (dp + 1) z 0 acc)) := by
  have H := X.1
  have hn := X.2.1
  have hT : ∀ i, i < n → T i < 256 := fun i hi => (X.2.2.2.1 i (by omega)).1
  have z10 : (nZ 1 = nZ 0) = False := by decide
  have hts := w.2.2 pos hpos
  have i1 := ih 3 (pos + 1) lv (dp + 1) z 0 acc (by decide) (by decide) (by omega) (by omega) hlv (by omega) (by omega)
  have pre : ∀ D F S, PS T n F pos lv dp z → ∃ G, qcl (D + 3) 106 [qR (some 29)] (st2' h (upS F 7 (nZ (dp + 1))) S) = some (none, st2' h G S) ∧ PS T n G (pos + 1) lv (dp + 1) z ∧ G 8 = F 8 ∧ G 2 = F 2 := by
    intro D F S ps
    have tk : Tok T n (upS F 7 (nZ (dp + 1))) pos := ps.1.of (upS_ne (by decide)) (upS_ne (by decide)) (upS_ne (by decide)) (upS_ne (by decide)) (upS_ne (by decide))
    obtain ⟨G, a1, a2, a3⟩ := c106 X D pos _ S tk hts
    refine ⟨G, a1, ⟨a2, ?_, ?_, ?_⟩, ?_, ?_⟩
    · rw [a3.2.1, upS_ne (by decide)]
      exact ps.2.1
    · rw [a3.2.2.1, upS_at]
    · rw [a3.2.2.2.2, upS_ne (by decide)]
      exact ps.2.2.2
    · rw [a3.2.2.2.1, upS_ne (by decide)]
    · rw [a2.2.1, ps.1.2.1]
  cases e1 : P (CT T n) (VT T n) N f 3 (pos + 1) lv (dp + 1) z 0 acc with
  | inl e =>
    rw [e1] at i1 hne
    obtain ⟨b1, o1⟩ := i1 hne
    refine ⟨fun e' he' => by cases he'; exact b1 e rfl, ?_⟩
    intro D F S hD ps
    obtain ⟨G1, a1, ps1, a3, a4⟩ := pre D F S ps
    obtain ⟨G, R, z', g1, g2, g3, g4, g5⟩ := o1 (D + 3) 0 G1 S hD (Nat.zero_le _) ps1
    refine ⟨G, R, z', ?_, g2, g3.trans a3, g4.trans a4, g5⟩
    have f7 := ps.2.2.1
    have g1' : qcl (D + 3) 119 [qR (some 29)] (st2' h G1 S) = some (some (qI (nZ 0)), st2' h G R) := g1
    simp (disch := first | assumption | omega | (simp only [Sh_si, Sh_sA, Sh_s2]; assumption)) only [E114, s2_29, f7, s2_s29, a1, g1', A0, l0, A1, l1, A2, l2, A3, l3, A4, l4, A7, l7, A8, l8, g10_0, g10_1, g10_2, g10_3, g10_4, g10_5, g10_6, g10_7, g10_8, g10_9, p10_10, g10_10, p10_11, g10_11, p10_12, g10_12, p10_13, g10_13, ck10, g11_0, g11_1, g11_2, g11_3, p11_4, g11_4, p11_5, g11_5, ck11, p12_0, g12_0, p12_1, g12_1, g12_2, g12_3, g12_4, g12_5, ck12, A13, S13, l13, A14, S14, l14, A15, S15, l15, A16, S16, l16, p17_0, g17_0, g17_1, ck17, A18, S18, l18, p19_0, g19_0, g19_1, g19_2, g19_3, g19_4, g19_5, ck19, A20, S20, l20, A21, S21, l21, A22, S22, l22, A23, S23, l23, A24, S24, l24, R25, R26, p27_0, g27_0, g27_1, ck27, A28, S28, l28, p29_0, g29_0, g29_1, p29_2, g29_2, p29_3, g29_3, p29_4, g29_4, p29_5, g29_5, p29_6, g29_6, p29_7, g29_7, p29_8, g29_8, p29_9, g29_9, g29_10, g29_11, g29_12, g29_13, g29_14, ck29, A30, S30, l30, A31, S31, l31, A32, S32, l32, A33, S33, l33, A34, S34, l34, A35, S35, l35, g36_0, g36_1, g36_2, ck36, A37, S37, l37, A38, S38, l38, A39, S39, l39, g40_0, g40_1, g40_2, g40_3, p40_4, g40_4, ck40, A41, S41, l41, A42, S42, l42, A43, S43, l43, A44, S44, l44, p45_0, g45_0, g45_1, p45_2, g45_2, p45_3, g45_3, p45_4, g45_4, p45_5, g45_5, p45_6, g45_6, p45_7, g45_7, g45_8, g45_9, g45_10, g45_11, g45_12, ck45, A46, S46, l46, A47, S47, l47, A48, S48, l48, A49, S49, l49, A50, S50, l50, A51, S51, l51, B52_0, g52_0, p52_1, g52_1, p52_2, g52_2, g52_3, p52_4, g52_4, ck52, A53, S53, l53, A54, S54, l54, A55, S55, l55, L0, L1, L2, L3, L4, L5, L6, L7, L8, L9, L10, L11, L12, L13, L14, L15, L16, L17, L18, L19, L20, L21, L22, L23, L24, L25, L26, L27, L28, L29, L30, L31, L32, L33, L34, L35, L36, L37, L38, L39, L40, L41, L42, L43, L44, L45, L46, L47, L48, L49, L50, L52, L57, L60, L90, L91, L93, L97, L99, L100, L101, L122, L240, L255, L256, L400, L401, L408, L409, L410, L411, L412, L413, L414, L420, L1000, L1001, L1103, L1200, L1240, L2820, L5220, L7936, L10440, L12345, L1000000, L1000003, L1073741823, L59, L61, L62, L200, nd_lt_t, nd_lt_f, nd_le_t, nd_le_f, nd_eq_f, nZ_add, nZ_mul, nZ_sub, nZ_lt, nZ_le, nZ_eq, nZ_nat, nZ_div, nZ_rem, nZ_and, nZ_or, and31, nZ_shl, nZ_shr, nZ_m1, nZ_nneg, nZ_nneg', nZ_nlt, nZ_ltn, inR_lt, Nat.not_lt_zero, ob_some, jI, jL, jR, jV, rI0, rI1, rIv, if_true, if_false, ↓reduceIte, Nat.reduceAdd, Nat.reduceMul, Nat.reduceSub, Nat.reduceLT, Nat.reduceEqDiff, Nat.reduceLeDiff, Nat.zero_add, Nat.add_zero, Nat.zero_mul, Nat.mul_zero, Nat.one_mul, Nat.mul_one, and_true, true_and, false_and, and_false, or_true, true_or, or_false, false_or, not_true_eq_false, not_false_eq_true, eq_self, bI_0, bI_1, em_b, hI_ne, hI_at, hA_ne, hA_at, Sh_si, Sh_sA]
  | inr v =>
    obtain ⟨p, l, cs, dn⟩ := v
    rw [e1] at i1 hne
    obtain ⟨b1, o1⟩ := i1 (fun zz => by cases zz)
    obtain ⟨q1, q2, q3, q4⟩ := PB _ _ _ _ _ _ _ _ _ _ _ _ e1 (by decide) (by decide) (by omega) (by omega)
    have hkl := kdT_lt w hT q2
    have hkd := kdT_iff (k := p) w hT q2 kq22 (by decide) (by decide)
    change (if cAt (CT T n) N p = 193 then Sum.inr (p + 1, l, cs, dn) else Sum.inl p) ≠ Sum.inl 100000 at hne
    change (∀ e, (if cAt (CT T n) N p = 193 then Sum.inr (p + 1, l, cs, dn) else Sum.inl p) = Sum.inl e → e ≤ N) ∧ ∀ D F S, CMd 3 (dp + 1) ≤ D + 3 → PS T n F pos lv dp z → OK2 h T n (qcl (D + 4) 114 [qR (some 29), qI (nZ 22)] (st2' h F S)) F S z dp (if cAt (CT T n) N p = 193 then Sum.inr (p + 1, l, cs, dn) else Sum.inl p)
    by_cases c3 : cAt (CT T n) N p = 193
    · rw [if_pos c3]
      have hp2 := C_pos (C := CT T n) (N := N) (k := p) (by omega)
      refine ⟨fun e' he' => (by cases he'), ?_⟩
      intro D F S hD ps
      obtain ⟨G1, a1, ps1, a3, a4⟩ := pre D F S ps
      obtain ⟨G, R, g1, g2, g3, g4, g5, g6, g7, g8⟩ := o1 (D + 3) 0 G1 S hD (Nat.zero_le _) ps1
      have tk : Tok T n (upS G 7 (nZ dp)) p := g2.of (upS_ne (by decide)) (upS_ne (by decide)) (upS_ne (by decide)) (upS_ne (by decide)) (upS_ne (by decide))
      obtain ⟨G3, m1, m2, m3⟩ := c106 X D p _ R tk (w.2.2 p hp2)
      refine ⟨G3, R, ?_, m2, ?_, ?_, ?_, ?_, g7, g8⟩
      · have f7 := ps.2.2.1
        have k4 := g2.2.2.2.1
        have g1' : qcl (D + 3) 119 [qR (some 29)] (st2' h G1 S) = some (some (qI (nZ 1)), st2' h G R) := g1
        have d1 : dp + 1 - 1 = dp := by omega
        simp (disch := first | assumption | omega | (simp only [Sh_si, Sh_sA, Sh_s2]; assumption)) only [E114, s2_29, f7, s2_s29, a1, g1', z10, k4, hkd, eq_true c3, g4, d1, m1, A0, l0, A1, l1, A2, l2, A3, l3, A4, l4, A7, l7, A8, l8, g10_0, g10_1, g10_2, g10_3, g10_4, g10_5, g10_6, g10_7, g10_8, g10_9, p10_10, g10_10, p10_11, g10_11, p10_12, g10_12, p10_13, g10_13, ck10, g11_0, g11_1, g11_2, g11_3, p11_4, g11_4, p11_5, g11_5, ck11, p12_0, g12_0, p12_1, g12_1, g12_2, g12_3, g12_4, g12_5, ck12, A13, S13, l13, A14, S14, l14, A15, S15, l15, A16, S16, l16, p17_0, g17_0, g17_1, ck17, A18, S18, l18, p19_0, g19_0, g19_1, g19_2, g19_3, g19_4, g19_5, ck19, A20, S20, l20, A21, S21, l21, A22, S22, l22, A23, S23, l23, A24, S24, l24, R25, R26, p27_0, g27_0, g27_1, ck27, A28, S28, l28, p29_0, g29_0, g29_1, p29_2, g29_2, p29_3, g29_3, p29_4, g29_4, p29_5, g29_5, p29_6, g29_6, p29_7, g29_7, p29_8, g29_8, p29_9, g29_9, g29_10, g29_11, g29_12, g29_13, g29_14, ck29, A30, S30, l30, A31, S31, l31, A32, S32, l32, A33, S33, l33, A34, S34, l34, A35, S35, l35, g36_0, g36_1, g36_2, ck36, A37, S37, l37, A38, S38, l38, A39, S39, l39, g40_0, g40_1, g40_2, g40_3, p40_4, g40_4, ck40, A41, S41, l41, A42, S42, l42, A43, S43, l43, A44, S44, l44, p45_0, g45_0, g45_1, p45_2, g45_2, p45_3, g45_3, p45_4, g45_4, p45_5, g45_5, p45_6, g45_6, p45_7, g45_7, g45_8, g45_9, g45_10, g45_11, g45_12, ck45, A46, S46, l46, A47, S47, l47, A48, S48, l48, A49, S49, l49, A50, S50, l50, A51, S51, l51, B52_0, g52_0, p52_1, g52_1, p52_2, g52_2, g52_3, p52_4, g52_4, ck52, A53, S53, l53, A54, S54, l54, A55, S55, l55, L0, L1, L2, L3, L4, L5, L6, L7, L8, L9, L10, L11, L12, L13, L14, L15, L16, L17, L18, L19, L20, L21, L22, L23, L24, L25, L26, L27, L28, L29, L30, L31, L32, L33, L34, L35, L36, L37, L38, L39, L40, L41, L42, L43, L44, L45, L46, L47, L48, L49, L50, L52, L57, L60, L90, L91, L93, L97, L99, L100, L101, L122, L240, L255, L256, L400, L401, L408, L409, L410, L411, L412, L413, L414, L420, L1000, L1001, L1103, L1200, L1240, L2820, L5220, L7936, L10440, L12345, L1000000, L1000003, L1073741823, L59, L61, L62, L200, nd_lt_t, nd_lt_f, nd_le_t, nd_le_f, nd_eq_f, nZ_add, nZ_mul, nZ_sub, nZ_lt, nZ_le, nZ_eq, nZ_nat, nZ_div, nZ_rem, nZ_and, nZ_or, and31, nZ_shl, nZ_shr, nZ_m1, nZ_nneg, nZ_nneg', nZ_nlt, nZ_ltn, inR_lt, Nat.not_lt_zero, ob_some, jI, jL, jR, jV, rI0, rI1, rIv, if_true, if_false, ↓reduceIte, Nat.reduceAdd, Nat.reduceMul, Nat.reduceSub, Nat.reduceLT, Nat.reduceEqDiff, Nat.reduceLeDiff, Nat.zero_add, Nat.add_zero, Nat.zero_mul, Nat.mul_zero, Nat.one_mul, Nat.mul_one, and_true, true_and, false_and, and_false, or_true, true_or, or_false, false_or, not_true_eq_false, not_false_eq_true, eq_self, bI_0, bI_1, em_b, hI_ne, hI_at, hA_ne, hA_at, Sh_si, Sh_sA]
      · rw [m3.2.1, upS_ne (by decide)]
        exact g3
      · rw [m3.2.2.1, upS_at]
      · rw [m3.2.2.2.2, upS_ne (by decide)]
        exact g5
      · rw [m3.2.2.2.1, upS_ne (by decide)]
        exact g6.trans a3
    · rw [if_neg c3]
      refine ⟨fun e' he' => by cases he'; exact q2, ?_⟩
      intro D F S hD ps
      obtain ⟨G1, a1, ps1, a3, a4⟩ := pre D F S ps
      obtain ⟨G, R, g1, g2, g3, g4, g5, g6, g7, g8⟩ := o1 (D + 3) 0 G1 S hD (Nat.zero_le _) ps1
      refine ⟨G, R, z + cs.length, ?_, g2.1, g6.trans a3, g2.2.1.trans ps.1.2.1.symm, g5, by omega⟩
      have f7 := ps.2.2.1
      have k4 := g2.2.2.2.1
      have g1' : qcl (D + 3) 119 [qR (some 29)] (st2' h G1 S) = some (some (qI (nZ 1)), st2' h G R) := g1
      simp (disch := first | assumption | omega | (simp only [Sh_si, Sh_sA, Sh_s2]; assumption)) only [E114, s2_29, f7, s2_s29, a1, g1', z10, k4, hkd, eq_false c3, A0, l0, A1, l1, A2, l2, A3, l3, A4, l4, A7, l7, A8, l8, g10_0, g10_1, g10_2, g10_3, g10_4, g10_5, g10_6, g10_7, g10_8, g10_9, p10_10, g10_10, p10_11, g10_11, p10_12, g10_12, p10_13, g10_13, ck10, g11_0, g11_1, g11_2, g11_3, p11_4, g11_4, p11_5, g11_5, ck11, p12_0, g12_0, p12_1, g12_1, g12_2, g12_3, g12_4, g12_5, ck12, A13, S13, l13, A14, S14, l14, A15, S15, l15, A16, S16, l16, p17_0, g17_0, g17_1, ck17, A18, S18, l18, p19_0, g19_0, g19_1, g19_2, g19_3, g19_4, g19_5, ck19, A20, S20, l20, A21, S21, l21, A22, S22, l22, A23, S23, l23, A24, S24, l24, R25, R26, p27_0, g27_0, g27_1, ck27, A28, S28, l28, p29_0, g29_0, g29_1, p29_2, g29_2, p29_3, g29_3, p29_4, g29_4, p29_5, g29_5, p29_6, g29_6, p29_7, g29_7, p29_8, g29_8, p29_9, g29_9, g29_10, g29_11, g29_12, g29_13, g29_14, ck29, A30, S30, l30, A31, S31, l31, A32, S32, l32, A33, S33, l33, A34, S34, l34, A35, S35, l35, g36_0, g36_1, g36_2, ck36, A37, S37, l37, A38, S38, l38, A39, S39, l39, g40_0, g40_1, g40_2, g40_3, p40_4, g40_4, ck40, A41, S41, l41, A42, S42, l42, A43, S43, l43, A44, S44, l44, p45_0, g45_0, g45_1, p45_2, g45_2, p45_3, g45_3, p45_4, g45_4, p45_5, g45_5, p45_6, g45_6, p45_7, g45_7, g45_8, g45_9, g45_10, g45_11, g45_12, ck45, A46, S46, l46, A47, S47, l47, A48, S48, l48, A49, S49, l49, A50, S50, l50, A51, S51, l51, B52_0, g52_0, p52_1, g52_1, p52_2, g52_2, g52_3, p52_4, g52_4, ck52, A53, S53, l53, A54, S54, l54, A55, S55, l55, L0, L1, L2, L3, L4, L5, L6, L7, L8, L9, L10, L11, L12, L13, L14, L15, L16, L17, L18, L19, L20, L21, L22, L23, L24, L25, L26, L27, L28, L29, L30, L31, L32, L33, L34, L35, L36, L37, L38, L39, L40, L41, L42, L43, L44, L45, L46, L47, L48, L49, L50, L52, L57, L60, L90, L91, L93, L97, L99, L100, L101, L122, L240, L255, L256, L400, L401, L408, L409, L410, L411, L412, L413, L414, L420, L1000, L1001, L1103, L1200, L1240, L2820, L5220, L7936, L10440, L12345, L1000000, L1000003, L1073741823, L59, L61, L62, L200, nd_lt_t, nd_lt_f, nd_le_t, nd_le_f, nd_eq_f, nZ_add, nZ_mul, nZ_sub, nZ_lt, nZ_le, nZ_eq, nZ_nat, nZ_div, nZ_rem, nZ_and, nZ_or, and31, nZ_shl, nZ_shr, nZ_m1, nZ_nneg, nZ_nneg', nZ_nlt, nZ_ltn, inR_lt, Nat.not_lt_zero, ob_some, jI, jL, jR, jV, rI0, rI1, rIv, if_true, if_false, ↓reduceIte, Nat.reduceAdd, Nat.reduceMul, Nat.reduceSub, Nat.reduceLT, Nat.reduceEqDiff, Nat.reduceLeDiff, Nat.zero_add, Nat.add_zero, Nat.zero_mul, Nat.mul_zero, Nat.one_mul, Nat.mul_one, and_true, true_and, false_and, and_false, or_true, true_or, or_false, false_or, not_true_eq_false, not_false_eq_true, eq_self, bI_0, bI_1, em_b, hI_ne, hI_at, hA_ne, hA_at, Sh_si, Sh_sA]
theorem C_br20 {h : QH} {T : Nat → Nat} {n N f : Nat} (X : CRX h T n) (w : NN T n N) (ih : CIH h T n N f) (pos lv dp z : Nat) (acc : Den) (hpos : pos < N) (hlv : lv ≤ 50) (hdp : dp < 8) (hz : z + (N - pos) ≤ 412) (hne : brR 141 (CT T n) N (P (CT T n) (VT T n) N f 8 (pos + 1) lv (dp + 1) z 0 acc) ≠ .inl 100000) : (∀ e, brR 141 (CT T n) N (P (CT T n) (VT T n) N f 8 (pos + 1) lv (dp + 1) z 0 acc) = .inl e → e ≤ N) ∧ ∀ D F S, CMd 8 (dp + 1) ≤ D + 3 → PS T n F pos lv dp z → OK2 h T n (qcl (D + 4) 114 [qR (some 29), qI (nZ 20)] (st2' h F S)) F S z dp (brR 141 (CT T n) N (P (CT T n) (VT T n) N f 8 (pos + 1) lv (dp + 1) z 0 acc)) := by
  have H := X.1
  have hn := X.2.1
  have hT : ∀ i, i < n → T i < 256 := fun i hi => (X.2.2.2.1 i (by omega)).1
  have z10 : (nZ 1 = nZ 0) = False := by decide
  have hts := w.2.2 pos hpos
  have i1 := ih 8 (pos + 1) lv (dp + 1) z 0 acc (by decide) (by decide) (by omega) (by omega) hlv (by omega) (by omega)
  have pre : ∀ D F S, PS T n F pos lv dp z → ∃ G, qcl (D + 3) 106 [qR (some 29)] (st2' h (upS F 7 (nZ (dp + 1))) S) = some (none, st2' h G S) ∧ PS T n G (pos + 1) lv (dp + 1) z ∧ G 8 = F 8 ∧ G 2 = F 2 := by
    intro D F S ps
    have tk : Tok T n (upS F 7 (nZ (dp + 1))) pos := ps.1.of (upS_ne (by decide)) (upS_ne (by decide)) (upS_ne (by decide)) (upS_ne (by decide)) (upS_ne (by decide))
    obtain ⟨G, a1, a2, a3⟩ := c106 X D pos _ S tk hts
    refine ⟨G, a1, ⟨a2, ?_, ?_, ?_⟩, ?_, ?_⟩
    · rw [a3.2.1, upS_ne (by decide)]
      exact ps.2.1
    · rw [a3.2.2.1, upS_at]
    · rw [a3.2.2.2.2, upS_ne (by decide)]
      exact ps.2.2.2
    · rw [a3.2.2.2.1, upS_ne (by decide)]
    · rw [a2.2.1, ps.1.2.1]
  cases e1 : P (CT T n) (VT T n) N f 8 (pos + 1) lv (dp + 1) z 0 acc with
  | inl e =>
    rw [e1] at i1 hne
    obtain ⟨b1, o1⟩ := i1 hne
    refine ⟨fun e' he' => by cases he'; exact b1 e rfl, ?_⟩
    intro D F S hD ps
    obtain ⟨G1, a1, ps1, a3, a4⟩ := pre D F S ps
    obtain ⟨G, R, z', g1, g2, g3, g4, g5⟩ := o1 (D + 3) 0 G1 S hD (Nat.zero_le _) ps1
    refine ⟨G, R, z', ?_, g2, g3.trans a3, g4.trans a4, g5⟩
    have f7 := ps.2.2.1
    have g1' : qcl (D + 3) 121 [qR (some 29)] (st2' h G1 S) = some (some (qI (nZ 0)), st2' h G R) := g1
    simp (disch := first | assumption | omega | (simp only [Sh_si, Sh_sA, Sh_s2]; assumption)) only [E114, s2_29, f7, s2_s29, a1, g1', A0, l0, A1, l1, A2, l2, A3, l3, A4, l4, A7, l7, A8, l8, g10_0, g10_1, g10_2, g10_3, g10_4, g10_5, g10_6, g10_7, g10_8, g10_9, p10_10, g10_10, p10_11, g10_11, p10_12, g10_12, p10_13, g10_13, ck10, g11_0, g11_1, g11_2, g11_3, p11_4, g11_4, p11_5, g11_5, ck11, p12_0, g12_0, p12_1, g12_1, g12_2, g12_3, g12_4, g12_5, ck12, A13, S13, l13, A14, S14, l14, A15, S15, l15, A16, S16, l16, p17_0, g17_0, g17_1, ck17, A18, S18, l18, p19_0, g19_0, g19_1, g19_2, g19_3, g19_4, g19_5, ck19, A20, S20, l20, A21, S21, l21, A22, S22, l22, A23, S23, l23, A24, S24, l24, R25, R26, p27_0, g27_0, g27_1, ck27, A28, S28, l28, p29_0, g29_0, g29_1, p29_2, g29_2, p29_3, g29_3, p29_4, g29_4, p29_5, g29_5, p29_6, g29_6, p29_7, g29_7, p29_8, g29_8, p29_9, g29_9, g29_10, g29_11, g29_12, g29_13, g29_14, ck29, A30, S30, l30, A31, S31, l31, A32, S32, l32, A33, S33, l33, A34, S34, l34, A35, S35, l35, g36_0, g36_1, g36_2, ck36, A37, S37, l37, A38, S38, l38, A39, S39, l39, g40_0, g40_1, g40_2, g40_3, p40_4, g40_4, ck40, A41, S41, l41, A42, S42, l42, A43, S43, l43, A44, S44, l44, p45_0, g45_0, g45_1, p45_2, g45_2, p45_3, g45_3, p45_4, g45_4, p45_5, g45_5, p45_6, g45_6, p45_7, g45_7, g45_8, g45_9, g45_10, g45_11, g45_12, ck45, A46, S46, l46, A47, S47, l47, A48, S48, l48, A49, S49, l49, A50, S50, l50, A51, S51, l51, B52_0, g52_0, p52_1, g52_1, p52_2, g52_2, g52_3, p52_4, g52_4, ck52, A53, S53, l53, A54, S54, l54, A55, S55, l55, L0, L1, L2, L3, L4, L5, L6, L7, L8, L9, L10, L11, L12, L13, L14, L15, L16, L17, L18, L19, L20, L21, L22, L23, L24, L25, L26, L27, L28, L29, L30, L31, L32, L33, L34, L35, L36, L37, L38, L39, L40, L41, L42, L43, L44, L45, L46, L47, L48, L49, L50, L52, L57, L60, L90, L91, L93, L97, L99, L100, L101, L122, L240, L255, L256, L400, L401, L408, L409, L410, L411, L412, L413, L414, L420, L1000, L1001, L1103, L1200, L1240, L2820, L5220, L7936, L10440, L12345, L1000000, L1000003, L1073741823, L59, L61, L62, L200, nd_lt_t, nd_lt_f, nd_le_t, nd_le_f, nd_eq_f, nZ_add, nZ_mul, nZ_sub, nZ_lt, nZ_le, nZ_eq, nZ_nat, nZ_div, nZ_rem, nZ_and, nZ_or, and31, nZ_shl, nZ_shr, nZ_m1, nZ_nneg, nZ_nneg', nZ_nlt, nZ_ltn, inR_lt, Nat.not_lt_zero, ob_some, jI, jL, jR, jV, rI0, rI1, rIv, if_true, if_false, ↓reduceIte, Nat.reduceAdd, Nat.reduceMul, Nat.reduceSub, Nat.reduceLT, Nat.reduceEqDiff, Nat.reduceLeDiff, Nat.zero_add, Nat.add_zero, Nat.zero_mul, Nat.mul_zero, Nat.one_mul, Nat.mul_one, and_true, true_and, false_and, and_false, or_true, true_or, or_false, false_or, not_true_eq_false, not_false_eq_true, eq_self, bI_0, bI_1, em_b, hI_ne, hI_at, hA_ne, hA_at, Sh_si, Sh_sA]
  | inr v =>
    obtain ⟨p, l, cs, dn⟩ := v
    rw [e1] at i1 hne
    obtain ⟨b1, o1⟩ := i1 (fun zz => by cases zz)
    obtain ⟨q1, q2, q3, q4⟩ := PB _ _ _ _ _ _ _ _ _ _ _ _ e1 (by decide) (by decide) (by omega) (by omega)
    have hkl := kdT_lt w hT q2
    have hkd := kdT_iff (k := p) w hT q2 kq20 (by decide) (by decide)
    change (if cAt (CT T n) N p = 141 then Sum.inr (p + 1, l, cs, dn) else Sum.inl p) ≠ Sum.inl 100000 at hne
    change (∀ e, (if cAt (CT T n) N p = 141 then Sum.inr (p + 1, l, cs, dn) else Sum.inl p) = Sum.inl e → e ≤ N) ∧ ∀ D F S, CMd 8 (dp + 1) ≤ D + 3 → PS T n F pos lv dp z → OK2 h T n (qcl (D + 4) 114 [qR (some 29), qI (nZ 20)] (st2' h F S)) F S z dp (if cAt (CT T n) N p = 141 then Sum.inr (p + 1, l, cs, dn) else Sum.inl p)
    by_cases c3 : cAt (CT T n) N p = 141
    · rw [if_pos c3]
      have hp2 := C_pos (C := CT T n) (N := N) (k := p) (by omega)
      refine ⟨fun e' he' => (by cases he'), ?_⟩
      intro D F S hD ps
      obtain ⟨G1, a1, ps1, a3, a4⟩ := pre D F S ps
      obtain ⟨G, R, g1, g2, g3, g4, g5, g6, g7, g8⟩ := o1 (D + 3) 0 G1 S hD (Nat.zero_le _) ps1
      have tk : Tok T n (upS G 7 (nZ dp)) p := g2.of (upS_ne (by decide)) (upS_ne (by decide)) (upS_ne (by decide)) (upS_ne (by decide)) (upS_ne (by decide))
      obtain ⟨G3, m1, m2, m3⟩ := c106 X D p _ R tk (w.2.2 p hp2)
      refine ⟨G3, R, ?_, m2, ?_, ?_, ?_, ?_, g7, g8⟩
      · have f7 := ps.2.2.1
        have k4 := g2.2.2.2.1
        have g1' : qcl (D + 3) 121 [qR (some 29)] (st2' h G1 S) = some (some (qI (nZ 1)), st2' h G R) := g1
        have d1 : dp + 1 - 1 = dp := by omega
        simp (disch := first | assumption | omega | (simp only [Sh_si, Sh_sA, Sh_s2]; assumption)) only [E114, s2_29, f7, s2_s29, a1, g1', z10, k4, hkd, eq_true c3, g4, d1, m1, A0, l0, A1, l1, A2, l2, A3, l3, A4, l4, A7, l7, A8, l8, g10_0, g10_1, g10_2, g10_3, g10_4, g10_5, g10_6, g10_7, g10_8, g10_9, p10_10, g10_10, p10_11, g10_11, p10_12, g10_12, p10_13, g10_13, ck10, g11_0, g11_1, g11_2, g11_3, p11_4, g11_4, p11_5, g11_5, ck11, p12_0, g12_0, p12_1, g12_1, g12_2, g12_3, g12_4, g12_5, ck12, A13, S13, l13, A14, S14, l14, A15, S15, l15, A16, S16, l16, p17_0, g17_0, g17_1, ck17, A18, S18, l18, p19_0, g19_0, g19_1, g19_2, g19_3, g19_4, g19_5, ck19, A20, S20, l20, A21, S21, l21, A22, S22, l22, A23, S23, l23, A24, S24, l24, R25, R26, p27_0, g27_0, g27_1, ck27, A28, S28, l28, p29_0, g29_0, g29_1, p29_2, g29_2, p29_3, g29_3, p29_4, g29_4, p29_5, g29_5, p29_6, g29_6, p29_7, g29_7, p29_8, g29_8, p29_9, g29_9, g29_10, g29_11, g29_12, g29_13, g29_14, ck29, A30, S30, l30, A31, S31, l31, A32, S32, l32, A33, S33, l33, A34, S34, l34, A35, S35, l35, g36_0, g36_1, g36_2, ck36, A37, S37, l37, A38, S38, l38, A39, S39, l39, g40_0, g40_1, g40_2, g40_3, p40_4, g40_4, ck40, A41, S41, l41, A42, S42, l42, A43, S43, l43, A44, S44, l44, p45_0, g45_0, g45_1, p45_2, g45_2, p45_3, g45_3, p45_4, g45_4, p45_5, g45_5, p45_6, g45_6, p45_7, g45_7, g45_8, g45_9, g45_10, g45_11, g45_12, ck45, A46, S46, l46, A47, S47, l47, A48, S48, l48, A49, S49, l49, A50, S50, l50, A51, S51, l51, B52_0, g52_0, p52_1, g52_1, p52_2, g52_2, g52_3, p52_4, g52_4, ck52, A53, S53, l53, A54, S54, l54, A55, S55, l55, L0, L1, L2, L3, L4, L5, L6, L7, L8, L9, L10, L11, L12, L13, L14, L15, L16, L17, L18, L19, L20, L21, L22, L23, L24, L25, L26, L27, L28, L29, L30, L31, L32, L33, L34, L35, L36, L37, L38, L39, L40, L41, L42, L43, L44, L45, L46, L47, L48, L49, L50, L52, L57, L60, L90, L91, L93, L97, L99, L100, L101, L122, L240, L255, L256, L400, L401, L408, L409, L410, L411, L412, L413, L414, L420, L1000, L1001, L1103, L1200, L1240, L2820, L5220, L7936, L10440, L12345, L1000000, L1000003, L1073741823, L59, L61, L62, L200, nd_lt_t, nd_lt_f, nd_le_t, nd_le_f, nd_eq_f, nZ_add, nZ_mul, nZ_sub, nZ_lt, nZ_le, nZ_eq, nZ_nat, nZ_div, nZ_rem, nZ_and, nZ_or, and31, nZ_shl, nZ_shr, nZ_m1, nZ_nneg, nZ_nneg', nZ_nlt, nZ_ltn, inR_lt, Nat.not_lt_zero, ob_some, jI, jL, jR, jV, rI0, rI1, rIv, if_true, if_false, ↓reduceIte, Nat.reduceAdd, Nat.reduceMul, Nat.reduceSub, Nat.reduceLT, Nat.reduceEqDiff, Nat.reduceLeDiff, Nat.zero_add, Nat.add_zero, Nat.zero_mul, Nat.mul_zero, Nat.one_mul, Nat.mul_one, and_true, true_and, false_and, and_false, or_true, true_or, or_false, false_or, not_true_eq_false, not_false_eq_true, eq_self, bI_0, bI_1, em_b, hI_ne, hI_at, hA_ne, hA_at, Sh_si, Sh_sA]
      · rw [m3.2.1, upS_ne (by decide)]
        exact g3
      · rw [m3.2.2.1, upS_at]
      · rw [m3.2.2.2.2, upS_ne (by decide)]
        exact g5
      · rw [m3.2.2.2.1, upS_ne (by decide)]
        exact g6.trans a3
    · rw [if_neg c3]
      refine ⟨fun e' he' => by cases he'; exact q2, ?_⟩
      intro D F S hD ps
      obtain ⟨G1, a1, ps1, a3, a4⟩ := pre D F S ps
      obtain ⟨G, R, g1, g2, g3, g4, g5, g6, g7, g8⟩ := o1 (D + 3) 0 G1 S hD (Nat.zero_le _) ps1
      refine ⟨G, R, z + cs.length, ?_, g2.1, g6.trans a3, g2.2.1.trans ps.1.2.1.symm, g5, by omega⟩
      have f7 := ps.2.2.1
      have k4 := g2.2.2.2.1
      have g1' : qcl (D + 3) 121 [qR (some 29)] (st2' h G1 S) = some (some (qI (nZ 1)), st2' h G R) := g1
      simp (disch := first | assumption | omega | (simp only [Sh_si, Sh_sA, Sh_s2]; assumption)) only [E114, s2_29, f7, s2_s29, a1, g1', z10, k4, hkd, eq_false c3, A0, l0, A1, l1, A2, l2, A3, l3, A4, l4, A7, l7, A8, l8, g10_0, g10_1, g10_2, g10_3, g10_4, g10_5, g10_6, g10_7, g10_8, g10_9, p10_10, g10_10, p10_11, g10_11, p10_12, g10_12, p10_13, g10_13, ck10, g11_0, g11_1, g11_2, g11_3, p11_4, g11_4, p11_5, g11_5, ck11, p12_0, g12_0, p12_1, g12_1, g12_2, g12_3, g12_4, g12_5, ck12, A13, S13, l13, A14, S14, l14, A15, S15, l15, A16, S16, l16, p17_0, g17_0, g17_1, ck17, A18, S18, l18, p19_0, g19_0, g19_1, g19_2, g19_3, g19_4, g19_5, ck19, A20, S20, l20, A21, S21, l21, A22, S22, l22, A23, S23, l23, A24, S24, l24, R25, R26, p27_0, g27_0, g27_1, ck27, A28, S28, l28, p29_0, g29_0, g29_1, p29_2, g29_2, p29_3, g29_3, p29_4, g29_4, p29_5, g29_5, p29_6, g29_6, p29_7, g29_7, p29_8, g29_8, p29_9, g29_9, g29_10, g29_11, g29_12, g29_13, g29_14, ck29, A30, S30, l30, A31, S31, l31, A32, S32, l32, A33, S33, l33, A34, S34, l34, A35, S35, l35, g36_0, g36_1, g36_2, ck36, A37, S37, l37, A38, S38, l38, A39, S39, l39, g40_0, g40_1, g40_2, g40_3, p40_4, g40_4, ck40, A41, S41, l41, A42, S42, l42, A43, S43, l43, A44, S44, l44, p45_0, g45_0, g45_1, p45_2, g45_2, p45_3, g45_3, p45_4, g45_4, p45_5, g45_5, p45_6, g45_6, p45_7, g45_7, g45_8, g45_9, g45_10, g45_11, g45_12, ck45, A46, S46, l46, A47, S47, l47, A48, S48, l48, A49, S49, l49, A50, S50, l50, A51, S51, l51, B52_0, g52_0, p52_1, g52_1, p52_2, g52_2, g52_3, p52_4, g52_4, ck52, A53, S53, l53, A54, S54, l54, A55, S55, l55, L0, L1, L2, L3, L4, L5, L6, L7, L8, L9, L10, L11, L12, L13, L14, L15, L16, L17, L18, L19, L20, L21, L22, L23, L24, L25, L26, L27, L28, L29, L30, L31, L32, L33, L34, L35, L36, L37, L38, L39, L40, L41, L42, L43, L44, L45, L46, L47, L48, L49, L50, L52, L57, L60, L90, L91, L93, L97, L99, L100, L101, L122, L240, L255, L256, L400, L401, L408, L409, L410, L411, L412, L413, L414, L420, L1000, L1001, L1103, L1200, L1240, L2820, L5220, L7936, L10440, L12345, L1000000, L1000003, L1073741823, L59, L61, L62, L200, nd_lt_t, nd_lt_f, nd_le_t, nd_le_f, nd_eq_f, nZ_add, nZ_mul, nZ_sub, nZ_lt, nZ_le, nZ_eq, nZ_nat, nZ_div, nZ_rem, nZ_and, nZ_or, and31, nZ_shl, nZ_shr, nZ_m1, nZ_nneg, nZ_nneg', nZ_nlt, nZ_ltn, inR_lt, Nat.not_lt_zero, ob_some, jI, jL, jR, jV, rI0, rI1, rIv, if_true, if_false, ↓reduceIte, Nat.reduceAdd, Nat.reduceMul, Nat.reduceSub, Nat.reduceLT, Nat.reduceEqDiff, Nat.reduceLeDiff, Nat.zero_add, Nat.add_zero, Nat.zero_mul, Nat.mul_zero, Nat.one_mul, Nat.mul_one, and_true, true_and, false_and, and_false, or_true, true_or, or_false, false_or, not_true_eq_false, not_false_eq_true, eq_self, bI_0, bI_1, em_b, hI_ne, hI_at, hA_ne, hA_at, Sh_si, Sh_sA]

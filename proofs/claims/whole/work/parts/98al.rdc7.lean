/-- a comparison -/
def sgS (c : Nat) : Nat := if c = 160 then 23 else if c = 162 then 24 else 25
def cmpR (C V : Nat → Nat) (N f pos lv dp z : Nat) (acc : Den) : Rd := rdB (P C V N f 3 pos lv dp z 0 acc) fun p l cs dn => if cAt C N p = 160 ∨ cAt C N p = 162 ∨ cAt C N p = 161 then rdB (P C V N f 3 (p + 1) l dp (z + cs.length) 0 acc) fun p2 l2 cs2 dn2 => .inr (p2, l2, cs ++ cs2 ++ [sgS (cAt C N p)], dCmp (cAt C N p) dn dn2) else .inl p
theorem C_cmp {h : QH} {T : Nat → Nat} {n N f : Nat} (X : CRX h T n) (w : NN T n N) (ih : CIH h T n N f) (pos lv dp z : Nat) (acc : Den) (hpos : pos ≤ N) (hlv : lv ≤ 50) (hdp : dp ≤ 8) (hz : z + (N - pos) ≤ 412) (hne : cmpR (CT T n) (VT T n) N f pos lv dp z acc ≠ .inl 100000) : (∀ e, cmpR (CT T n) (VT T n) N f pos lv dp z acc = .inl e → e ≤ N) ∧ ∀ D F S, CMd 3 dp ≤ D + 3 → PS T n F pos lv dp z → OK2 h T n (qcl (D + 4) 116 [qR (some 29)] (st2' h F S)) F S z dp (cmpR (CT T n) (VT T n) N f pos lv dp z acc) := by
  have H := X.1
  have hn := X.2.1
  have hT : ∀ i, i < n → T i < 256 := fun i hi => (X.2.2.2.1 i (by omega)).1
  have z10 : (nZ 1 = nZ 0) = False := by decide
  have i1 := ih 3 pos lv dp z 0 acc (by decide) (by decide) (by omega) hpos hlv hdp hz
  unfold cmpR at hne ⊢
  cases e1 : P (CT T n) (VT T n) N f 3 pos lv dp z 0 acc with
  | inl e =>
    rw [e1] at i1 hne
    obtain ⟨b1, o1⟩ := i1 hne
    refine ⟨fun e' he' => by cases he'; exact b1 e rfl, ?_⟩
    intro D F S hD ps
    obtain ⟨G, R, z', g1, g2⟩ := o1 (D + 3) 0 F S hD (Nat.zero_le _) ps
    refine ⟨G, R, z', ?_, g2⟩
    have g1' : qcl (D + 3) 119 [qR (some 29)] (st2' h F S) = some (some (qI (nZ 0)), st2' h G R) := g1
    simp (disch := first | assumption | omega | (simp only [Sh_si, Sh_sA, Sh_s2]; assumption)) only [E116, g1', A0, l0, A1, l1, A2, l2, A3, l3, A4, l4, A7, l7, A8, l8, g10_0, g10_1, g10_2, g10_3, g10_4, g10_5, g10_6, g10_7, g10_8, g10_9, p10_10, g10_10, p10_11, g10_11, p10_12, g10_12, p10_13, g10_13, ck10, g11_0, g11_1, g11_2, g11_3, p11_4, g11_4, p11_5, g11_5, ck11, p12_0, g12_0, p12_1, g12_1, g12_2, g12_3, g12_4, g12_5, ck12, A13, S13, l13, A14, S14, l14, A15, S15, l15, A16, S16, l16, p17_0, g17_0, g17_1, ck17, A18, S18, l18, p19_0, g19_0, g19_1, g19_2, g19_3, g19_4, g19_5, ck19, A20, S20, l20, A21, S21, l21, A22, S22, l22, A23, S23, l23, A24, S24, l24, R25, R26, p27_0, g27_0, g27_1, ck27, A28, S28, l28, p29_0, g29_0, g29_1, p29_2, g29_2, p29_3, g29_3, p29_4, g29_4, p29_5, g29_5, p29_6, g29_6, p29_7, g29_7, p29_8, g29_8, p29_9, g29_9, g29_10, g29_11, g29_12, g29_13, g29_14, ck29, A30, S30, l30, A31, S31, l31, A32, S32, l32, A33, S33, l33, A34, S34, l34, A35, S35, l35, g36_0, g36_1, g36_2, ck36, A37, S37, l37, A38, S38, l38, A39, S39, l39, g40_0, g40_1, g40_2, g40_3, p40_4, g40_4, ck40, A41, S41, l41, A42, S42, l42, A43, S43, l43, A44, S44, l44, p45_0, g45_0, g45_1, p45_2, g45_2, p45_3, g45_3, p45_4, g45_4, p45_5, g45_5, p45_6, g45_6, p45_7, g45_7, g45_8, g45_9, g45_10, g45_11, g45_12, ck45, A46, S46, l46, A47, S47, l47, A48, S48, l48, A49, S49, l49, A50, S50, l50, A51, S51, l51, B52_0, g52_0, p52_1, g52_1, p52_2, g52_2, g52_3, p52_4, g52_4, ck52, A53, S53, l53, A54, S54, l54, A55, S55, l55, L0, L1, L2, L3, L4, L5, L6, L7, L8, L9, L10, L11, L12, L13, L14, L15, L16, L17, L18, L19, L20, L21, L22, L23, L24, L25, L26, L27, L28, L29, L30, L31, L32, L33, L34, L35, L36, L37, L38, L39, L40, L41, L42, L43, L44, L45, L46, L47, L48, L49, L50, L52, L57, L60, L90, L91, L93, L97, L99, L100, L101, L122, L240, L255, L256, L400, L401, L408, L409, L410, L411, L412, L413, L414, L420, L1000, L1001, L1103, L1200, L1240, L2820, L5220, L7936, L10440, L12345, L1000000, L1000003, L1073741823, L59, L61, L62, L200, nd_lt_t, nd_lt_f, nd_le_t, nd_le_f, nd_eq_f, nZ_add, nZ_mul, nZ_sub, nZ_lt, nZ_le, nZ_eq, nZ_nat, nZ_div, nZ_rem, nZ_and, nZ_or, and31, nZ_shl, nZ_shr, nZ_m1, nZ_nneg, nZ_nneg', nZ_nlt, nZ_ltn, inR_lt, Nat.not_lt_zero, ob_some, jI, jL, jR, jV, rI0, rI1, rIv, if_true, if_false, ↓reduceIte, Nat.reduceAdd, Nat.reduceMul, Nat.reduceSub, Nat.reduceLT, Nat.reduceEqDiff, Nat.reduceLeDiff, Nat.zero_add, Nat.add_zero, Nat.zero_mul, Nat.mul_zero, Nat.one_mul, Nat.mul_one, and_true, true_and, false_and, and_false, or_true, true_or, or_false, false_or, not_true_eq_false, not_false_eq_true, eq_self, bI_0, bI_1, em_b, hI_ne, hI_at, hA_ne, hA_at, Sh_si, Sh_sA]
  | inr v =>
    obtain ⟨p, l, cs, dn⟩ := v
    rw [e1] at i1 hne
    obtain ⟨b1, o1⟩ := i1 (fun zz => by cases zz)
    obtain ⟨q1, q2, q3, q4⟩ := PB _ _ _ _ _ _ _ _ _ _ _ _ e1 (by decide) (by decide) (by omega) hpos
    have ql := P_lv _ _ _ _ _ _ _ _ _ _ _ _ e1 (by decide) hlv
    have hkl := kdT_lt w hT q2
    have h23 := kdT_iff (k := p) w hT q2 kq23 (by decide) (by decide)
    have h24 := kdT_iff (k := p) w hT q2 kq24 (by decide) (by decide)
    have h25 := kdT_iff (k := p) w hT q2 kq25 (by decide) (by decide)
    change (if cAt (CT T n) N p = 160 ∨ cAt (CT T n) N p = 162 ∨ cAt (CT T n) N p = 161 then rdB (P (CT T n) (VT T n) N f 3 (p + 1) l dp (z + cs.length) 0 acc) (fun p2 l2 cs2 dn2 => .inr (p2, l2, cs ++ cs2 ++ [sgS (cAt (CT T n) N p)], dCmp (cAt (CT T n) N p) dn dn2)) else .inl p) ≠ _ at hne
    change (∀ e, (if cAt (CT T n) N p = 160 ∨ cAt (CT T n) N p = 162 ∨ cAt (CT T n) N p = 161 then rdB (P (CT T n) (VT T n) N f 3 (p + 1) l dp (z + cs.length) 0 acc) (fun p2 l2 cs2 dn2 => .inr (p2, l2, cs ++ cs2 ++ [sgS (cAt (CT T n) N p)], dCmp (cAt (CT T n) N p) dn dn2)) else .inl p) = .inl e → e ≤ N) ∧ ∀ D F S, CMd 3 dp ≤ D + 3 → PS T n F pos lv dp z → OK2 h T n (qcl (D + 4) 116 [qR (some 29)] (st2' h F S)) F S z dp (if cAt (CT T n) N p = 160 ∨ cAt (CT T n) N p = 162 ∨ cAt (CT T n) N p = 161 then rdB (P (CT T n) (VT T n) N f 3 (p + 1) l dp (z + cs.length) 0 acc) (fun p2 l2 cs2 dn2 => .inr (p2, l2, cs ++ cs2 ++ [sgS (cAt (CT T n) N p)], dCmp (cAt (CT T n) N p) dn dn2)) else .inl p)
    by_cases c3 : cAt (CT T n) N p = 160 ∨ cAt (CT T n) N p = 162 ∨ cAt (CT T n) N p = 161
    · rw [if_pos c3] at hne ⊢
      have hp2 := C_pos (C := CT T n) (N := N) (k := p) (by omega)
      have i2 := ih 3 (p + 1) l dp (z + cs.length) 0 acc (by decide) (by decide) (by omega) (by omega) ql hdp (by omega)
      have hk : kdT T n p = sgS (cAt (CT T n) N p) := by
        unfold sgS
        rcases c3 with c | c | c
        · rw [if_pos c]
          rw [eq_true c] at h23
          exact of_eq_true h23
        · rw [if_neg (by omega), if_pos c]
          rw [eq_true c] at h24
          exact of_eq_true h24
        · rw [if_neg (by omega), if_neg (by omega)]
          rw [eq_true c] at h25
          exact of_eq_true h25
      have hs3 : sgS (cAt (CT T n) N p) = 23 ∨ sgS (cAt (CT T n) N p) = 24 ∨ sgS (cAt (CT T n) N p) = 25 := by
        unfold sgS
        split
        · exact Or.inl rfl
        · split
          · exact Or.inr (Or.inl rfl)
          · exact Or.inr (Or.inr rfl)
      have st : ∀ D F S G R G1, qcl (D + 3) 119 [qR (some 29)] (st2' h F S) = some (some (qI (nZ 1)), st2' h G R) → G 4 = nZ (sgS (cAt (CT T n) N p)) → qcl (D + 3) 106 [qR (some 29)] (st2' h G R) = some (none, st2' h G1 R) → qcl (D + 4) 116 [qR (some 29)] (st2' h F S) = cI (qcl (D + 3) 119 [qR (some 29)] (st2' h G1 R)) (fun x k => if x = nZ 0 then some (some (qI (nZ 0)), k) else cV (qcl (D + 3) 111 [qR (some 29), qI (nZ (sgS (cAt (CT T n) N p))), qI (nZ 0)] k) (fun k2 => some (some (qI (nZ 1)), k2))) := by
        intro D F S G R G1 e1 e2 e3
        generalize sgS (cAt (CT T n) N p) = sg at *
        rcases hs3 with r | r | r <;> subst r <;> simp (disch := first | assumption | omega | (simp only [Sh_si, Sh_sA, Sh_s2]; assumption)) only [E116, e1, z10, s2_29, e2, e3, A0, l0, A1, l1, A2, l2, A3, l3, A4, l4, A7, l7, A8, l8, g10_0, g10_1, g10_2, g10_3, g10_4, g10_5, g10_6, g10_7, g10_8, g10_9, p10_10, g10_10, p10_11, g10_11, p10_12, g10_12, p10_13, g10_13, ck10, g11_0, g11_1, g11_2, g11_3, p11_4, g11_4, p11_5, g11_5, ck11, p12_0, g12_0, p12_1, g12_1, g12_2, g12_3, g12_4, g12_5, ck12, A13, S13, l13, A14, S14, l14, A15, S15, l15, A16, S16, l16, p17_0, g17_0, g17_1, ck17, A18, S18, l18, p19_0, g19_0, g19_1, g19_2, g19_3, g19_4, g19_5, ck19, A20, S20, l20, A21, S21, l21, A22, S22, l22, A23, S23, l23, A24, S24, l24, R25, R26, p27_0, g27_0, g27_1, ck27, A28, S28, l28, p29_0, g29_0, g29_1, p29_2, g29_2, p29_3, g29_3, p29_4, g29_4, p29_5, g29_5, p29_6, g29_6, p29_7, g29_7, p29_8, g29_8, p29_9, g29_9, g29_10, g29_11, g29_12, g29_13, g29_14, ck29, A30, S30, l30, A31, S31, l31, A32, S32, l32, A33, S33, l33, A34, S34, l34, A35, S35, l35, g36_0, g36_1, g36_2, ck36, A37, S37, l37, A38, S38, l38, A39, S39, l39, g40_0, g40_1, g40_2, g40_3, p40_4, g40_4, ck40, A41, S41, l41, A42, S42, l42, A43, S43, l43, A44, S44, l44, p45_0, g45_0, g45_1, p45_2, g45_2, p45_3, g45_3, p45_4, g45_4, p45_5, g45_5, p45_6, g45_6, p45_7, g45_7, g45_8, g45_9, g45_10, g45_11, g45_12, ck45, A46, S46, l46, A47, S47, l47, A48, S48, l48, A49, S49, l49, A50, S50, l50, A51, S51, l51, B52_0, g52_0, p52_1, g52_1, p52_2, g52_2, g52_3, p52_4, g52_4, ck52, A53, S53, l53, A54, S54, l54, A55, S55, l55, L0, L1, L2, L3, L4, L5, L6, L7, L8, L9, L10, L11, L12, L13, L14, L15, L16, L17, L18, L19, L20, L21, L22, L23, L24, L25, L26, L27, L28, L29, L30, L31, L32, L33, L34, L35, L36, L37, L38, L39, L40, L41, L42, L43, L44, L45, L46, L47, L48, L49, L50, L52, L57, L60, L90, L91, L93, L97, L99, L100, L101, L122, L240, L255, L256, L400, L401, L408, L409, L410, L411, L412, L413, L414, L420, L1000, L1001, L1103, L1200, L1240, L2820, L5220, L7936, L10440, L12345, L1000000, L1000003, L1073741823, L59, L61, L62, L200, nd_lt_t, nd_lt_f, nd_le_t, nd_le_f, nd_eq_f, nZ_add, nZ_mul, nZ_sub, nZ_lt, nZ_le, nZ_eq, nZ_nat, nZ_div, nZ_rem, nZ_and, nZ_or, and31, nZ_shl, nZ_shr, nZ_m1, nZ_nneg, nZ_nneg', nZ_nlt, nZ_ltn, inR_lt, Nat.not_lt_zero, ob_some, jI, jL, jR, jV, rI0, rI1, rIv, if_true, if_false, ↓reduceIte, Nat.reduceAdd, Nat.reduceMul, Nat.reduceSub, Nat.reduceLT, Nat.reduceEqDiff, Nat.reduceLeDiff, Nat.zero_add, Nat.add_zero, Nat.zero_mul, Nat.mul_zero, Nat.one_mul, Nat.mul_one, and_true, true_and, false_and, and_false, or_true, true_or, or_false, false_or, not_true_eq_false, not_false_eq_true, eq_self, bI_0, bI_1, em_b, hI_ne, hI_at, hA_ne, hA_at, Sh_si, Sh_sA]
      cases e2 : P (CT T n) (VT T n) N f 3 (p + 1) l dp (z + cs.length) 0 acc with
      | inl e =>
        rw [e2] at i2 hne
        obtain ⟨b2, o2⟩ := i2 hne
        refine ⟨fun e' he' => by cases he'; exact b2 e rfl, ?_⟩
        intro D F S hD ps
        obtain ⟨G, R, g1, g2, g3, g4, g5, g6, g7, g8⟩ := o1 (D + 3) 0 F S hD (Nat.zero_le _) ps
        obtain ⟨G1, a1, a2, a3⟩ := c106 X D p G R g2 (w.2.2 p hp2)
        have ps1 : PS T n G1 (p + 1) l dp (z + cs.length) := PS.adv ⟨g2, g3, g4, g5⟩ a2 a3
        obtain ⟨G2, R2, z', k1, k2, k3, k4, k5⟩ := o2 (D + 3) 0 G1 R hD (Nat.zero_le _) ps1
        have k1' : qcl (D + 3) 119 [qR (some 29)] (st2' h G1 R) = some (some (qI (nZ 0)), st2' h G2 R2) := k1
        refine ⟨G2, R2, z', ?_, k2, k3.trans (a3.2.2.2.1.trans g6), k4.trans (a2.2.1.trans ps.1.2.1.symm), k5⟩
        rw [st D F S G R G1 g1 (g2.2.2.2.1.trans (congrArg nZ hk)) a1, k1', jI, if_pos rfl]
      | inr v2 =>
        obtain ⟨p2, lw, cs2, dn2⟩ := v2
        rw [e2] at i2
        obtain ⟨b2, o2⟩ := i2 (fun zz => by cases zz)
        obtain ⟨r1, r2, r3, r4⟩ := PB _ _ _ _ _ _ _ _ _ _ _ _ e2 (by decide) (by decide) (by omega) (by omega)
        refine ⟨fun e' he' => (by cases he'), ?_⟩
        intro D F S hD ps
        obtain ⟨G, R, g1, g2, g3, g4, g5, g6, g7, g8⟩ := o1 (D + 3) 0 F S hD (Nat.zero_le _) ps
        obtain ⟨G1, a1, a2, a3⟩ := c106 X D p G R g2 (w.2.2 p hp2)
        have ps1 : PS T n G1 (p + 1) l dp (z + cs.length) := PS.adv ⟨g2, g3, g4, g5⟩ a2 a3
        obtain ⟨G2, R2, k1, k2, k3, k4, k5, k6, k7, k8⟩ := o2 (D + 3) 0 G1 R hD (Nat.zero_le _) ps1
        have k1' : qcl (D + 3) 119 [qR (some 29)] (st2' h G1 R) = some (some (qI (nZ 1)), st2' h G2 R2) := k1
        have lv1 := c111 H (D + 2) (sgS (cAt (CT T n) N p)) 0 (z + cs.length + cs2.length) G2 R2 (by omega) (by decide) k5 (by omega)
        have e4 : (cs ++ cs2 ++ [sgS (cAt (CT T n) N p)]).length = cs.length + cs2.length + 1 := by
          rw [List.length_append, List.length_append, List.length_singleton]
        refine ⟨upS G2 9 (nZ (z + cs.length + cs2.length + 1)), upS R2 (z + cs.length + cs2.length) (nZ (sgS (cAt (CT T n) N p) + 32 * 0)), ?_, ?_, ?_, ?_, ?_, ?_, ?_, ?_⟩
        · rw [st D F S G R G1 g1 (g2.2.2.2.1.trans (congrArg nZ hk)) a1, k1', jI, if_neg (by decide), lv1, jV]
        · exact k2.of (upS_ne (by decide)) (upS_ne (by decide)) (upS_ne (by decide)) (upS_ne (by decide)) (upS_ne (by decide))
        · rw [upS_ne (by decide)]
          exact k3
        · rw [upS_ne (by decide)]
          exact k4
        · rw [upS_at]
          show _ = nZ (z + (cs ++ cs2 ++ [sgS (cAt (CT T n) N p)]).length)
          rw [e4]
          congr 1
          omega
        · rw [upS_ne (by decide)]
          exact k6.trans (a3.2.2.2.1.trans g6)
        · intro j hj
          rw [upS_ne (by omega)]
          exact (k7 j (by omega)).trans (g7 j hj)
        · show AtI _ z (cs ++ cs2 ++ [sgS (cAt (CT T n) N p)])
          refine AtI_app (cs ++ cs2) _ z (AtI_app cs cs2 z ?_ ?_) ?_
          · exact AtI_congr cs z (fun j h1 h2 => (upS_ne (by omega)).trans (k7 j h2)) g8
          · exact AtI_congr cs2 (z + cs.length) (fun j h1 h2 => upS_ne (by omega)) k8
          · refine ⟨?_, trivial⟩
            rw [List.length_append, ← Nat.add_assoc, upS_at]
            rfl
    · rw [if_neg c3] at hne ⊢
      refine ⟨fun e' he' => by cases he'; exact q2, ?_⟩
      intro D F S hD ps
      obtain ⟨G, R, g1, g2, g3, g4, g5, g6, g7, g8⟩ := o1 (D + 3) 0 F S hD (Nat.zero_le _) ps
      have g1' : qcl (D + 3) 119 [qR (some 29)] (st2' h F S) = some (some (qI (nZ 1)), st2' h G R) := g1
      refine ⟨G, R, z + cs.length, ?_, g2.1, g6, g2.2.1.trans ps.1.2.1.symm, g5, by omega⟩
      have k4 := g2.2.2.2.1
      rw [eq_false (show ¬cAt (CT T n) N p = 160 by omega)] at h23
      rw [eq_false (show ¬cAt (CT T n) N p = 162 by omega)] at h24
      rw [eq_false (show ¬cAt (CT T n) N p = 161 by omega)] at h25
      simp (disch := first | assumption | omega | (simp only [Sh_si, Sh_sA, Sh_s2]; assumption)) only [E116, g1', z10, s2_29, k4, h23, h24, h25, A0, l0, A1, l1, A2, l2, A3, l3, A4, l4, A7, l7, A8, l8, g10_0, g10_1, g10_2, g10_3, g10_4, g10_5, g10_6, g10_7, g10_8, g10_9, p10_10, g10_10, p10_11, g10_11, p10_12, g10_12, p10_13, g10_13, ck10, g11_0, g11_1, g11_2, g11_3, p11_4, g11_4, p11_5, g11_5, ck11, p12_0, g12_0, p12_1, g12_1, g12_2, g12_3, g12_4, g12_5, ck12, A13, S13, l13, A14, S14, l14, A15, S15, l15, A16, S16, l16, p17_0, g17_0, g17_1, ck17, A18, S18, l18, p19_0, g19_0, g19_1, g19_2, g19_3, g19_4, g19_5, ck19, A20, S20, l20, A21, S21, l21, A22, S22, l22, A23, S23, l23, A24, S24, l24, R25, R26, p27_0, g27_0, g27_1, ck27, A28, S28, l28, p29_0, g29_0, g29_1, p29_2, g29_2, p29_3, g29_3, p29_4, g29_4, p29_5, g29_5, p29_6, g29_6, p29_7, g29_7, p29_8, g29_8, p29_9, g29_9, g29_10, g29_11, g29_12, g29_13, g29_14, ck29, A30, S30, l30, A31, S31, l31, A32, S32, l32, A33, S33, l33, A34, S34, l34, A35, S35, l35, g36_0, g36_1, g36_2, ck36, A37, S37, l37, A38, S38, l38, A39, S39, l39, g40_0, g40_1, g40_2, g40_3, p40_4, g40_4, ck40, A41, S41, l41, A42, S42, l42, A43, S43, l43, A44, S44, l44, p45_0, g45_0, g45_1, p45_2, g45_2, p45_3, g45_3, p45_4, g45_4, p45_5, g45_5, p45_6, g45_6, p45_7, g45_7, g45_8, g45_9, g45_10, g45_11, g45_12, ck45, A46, S46, l46, A47, S47, l47, A48, S48, l48, A49, S49, l49, A50, S50, l50, A51, S51, l51, B52_0, g52_0, p52_1, g52_1, p52_2, g52_2, g52_3, p52_4, g52_4, ck52, A53, S53, l53, A54, S54, l54, A55, S55, l55, L0, L1, L2, L3, L4, L5, L6, L7, L8, L9, L10, L11, L12, L13, L14, L15, L16, L17, L18, L19, L20, L21, L22, L23, L24, L25, L26, L27, L28, L29, L30, L31, L32, L33, L34, L35, L36, L37, L38, L39, L40, L41, L42, L43, L44, L45, L46, L47, L48, L49, L50, L52, L57, L60, L90, L91, L93, L97, L99, L100, L101, L122, L240, L255, L256, L400, L401, L408, L409, L410, L411, L412, L413, L414, L420, L1000, L1001, L1103, L1200, L1240, L2820, L5220, L7936, L10440, L12345, L1000000, L1000003, L1073741823, L59, L61, L62, L200, nd_lt_t, nd_lt_f, nd_le_t, nd_le_f, nd_eq_f, nZ_add, nZ_mul, nZ_sub, nZ_lt, nZ_le, nZ_eq, nZ_nat, nZ_div, nZ_rem, nZ_and, nZ_or, and31, nZ_shl, nZ_shr, nZ_m1, nZ_nneg, nZ_nneg', nZ_nlt, nZ_ltn, inR_lt, Nat.not_lt_zero, ob_some, jI, jL, jR, jV, rI0, rI1, rIv, if_true, if_false, ↓reduceIte, Nat.reduceAdd, Nat.reduceMul, Nat.reduceSub, Nat.reduceLT, Nat.reduceEqDiff, Nat.reduceLeDiff, Nat.zero_add, Nat.add_zero, Nat.zero_mul, Nat.mul_zero, Nat.one_mul, Nat.mul_one, and_true, true_and, false_and, and_false, or_true, true_or, or_false, false_or, not_true_eq_false, not_false_eq_true, eq_self, bI_0, bI_1, em_b, hI_ne, hI_at, hA_ne, hA_at, Sh_si, Sh_sA]
/-- turned -/
def trn (ng : Nat) (r : Rd) : Rd := rdB r fun p l cs dn => .inr (p, l, cs ++ (if ng = 1 then [7] else []), if ng = 1 then dNot dn else dn)
theorem C_trn {h : QH} (H : Sh h) {T : Nat → Nat} {n : Nat} (d ng z dp : Nat) (F S : Nat → Int32) (g g2 : QO) (r : Rd) (hng : ng < 2) (o : OK2 h T n g F S z dp r) (hz : ∀ p l cs dn, r = .inr (p, l, cs, dn) → z + cs.length + ng ≤ 412) (h0 : ∀ k, g = some (some (qI (nZ 0)), k) → g2 = some (some (qI (nZ 0)), k)) (h1 : ∀ k, g = some (some (qI (nZ 1)), k) → g2 = if ng = 0 then some (some (qI (nZ 1)), k) else cV (qcl (d + 1) 111 [qR (some 29), qI (nZ 7), qI (nZ 0)] k) (fun k2 => some (some (qI (nZ 1)), k2))) : OK2 h T n g2 F S z dp (trn ng r) := by
  cases r with
  | inl e =>
    obtain ⟨G, R, z', g1, g3⟩ := o
    exact ⟨G, R, z', h0 _ g1, g3⟩
  | inr v =>
    obtain ⟨p, l, cs, dn⟩ := v
    obtain ⟨G, R, g1, k2, k3, k4, k5, k6, k7, k8⟩ := o
    have hzz := hz p l cs dn rfl
    have h2 := h1 _ g1
    by_cases c : ng = 0
    · subst c
      rw [if_pos rfl] at h2
      refine ⟨G, R, h2, k2, k3, k4, ?_, k6, k7, ?_⟩
      · show G 9 = nZ (z + (cs ++ []).length)
        rw [List.append_nil]
        exact k5
      · show AtI R z (cs ++ [])
        rw [List.append_nil]
        exact k8
    · have c1 : ng = 1 := by omega
      subst c1
      have lv1 := c111 H d 7 0 (z + cs.length) G R (by decide) (by decide) k5 (by omega)
      rw [if_neg (by decide), lv1, jV] at h2
      refine ⟨_, _, h2, ?_, ?_, ?_, ?_, ?_, ?_, ?_⟩
      · exact k2.of (upS_ne (by decide)) (upS_ne (by decide)) (upS_ne (by decide)) (upS_ne (by decide)) (upS_ne (by decide))
      · rw [upS_ne (by decide)]
        exact k3
      · rw [upS_ne (by decide)]
        exact k4
      · rw [upS_at]
        show _ = nZ (z + (cs ++ [7]).length)
        rw [List.length_append, List.length_singleton, Nat.add_assoc]
      · rw [upS_ne (by decide)]
        exact k6
      · intro j hj
        rw [upS_ne (by omega)]
        exact k7 j hj
      · refine AtI_app cs [7] z (AtI_congr cs z (fun j h1 h2 => upS_ne (by omega)) k8) ⟨?_, trivial⟩
        rw [upS_at]
theorem brR_b {C V : Nat → Nat} {N f s1 cc pos lv dp z : Nat} {acc : Den} {p l : Nat} {cs : List Nat} {dn : Den} (hs : s1 < 10) (hpos : pos ≤ N) (hc : cc ≠ 0) (e : brR cc C N (P C V N f s1 pos lv dp z 0 acc) = .inr (p, l, cs, dn)) : p ≤ N ∧ cs.length ≤ p - pos - 1 := by
  obtain ⟨p1, lv1, cs1, dn1, e1, e2⟩ := rdB_inr e
  obtain ⟨q1, q2, q3, q4⟩ := PB _ _ _ _ _ _ _ _ _ _ _ _ e1 hs (by decide) (by omega) hpos
  by_cases c : cAt C N p1 = cc
  · rw [if_pos c] at e2
    cases e2
    have hp2 := C_pos (C := C) (N := N) (k := p1) (by omega)
    exact ⟨by omega, by omega⟩
  · rw [if_neg c] at e2
    cases e2
theorem cmpR_b {C V : Nat → Nat} {N f pos lv dp z : Nat} {acc : Den} {p l : Nat} {cs : List Nat} {dn : Den} (hpos : pos ≤ N) (e : cmpR C V N f pos lv dp z acc = .inr (p, l, cs, dn)) : p ≤ N ∧ cs.length ≤ p - pos := by
  obtain ⟨p1, lv1, cs1, dn1, e1, e2⟩ := rdB_inr e
  obtain ⟨q1, q2, q3, q4⟩ := PB _ _ _ _ _ _ _ _ _ _ _ _ e1 (by decide) (by decide) (by omega) hpos
  by_cases c : cAt C N p1 = 160 ∨ cAt C N p1 = 162 ∨ cAt C N p1 = 161
  · rw [if_pos c] at e2
    have hp2 := C_pos (C := C) (N := N) (k := p1) (by omega)
    obtain ⟨p2, lv2, cs2, dn2, e3, e4⟩ := rdB_inr e2
    cases e4
    obtain ⟨r1, r2, r3, r4⟩ := PB _ _ _ _ _ _ _ _ _ _ _ _ e3 (by decide) (by decide) (by omega) (by omega)
    refine ⟨r2, ?_⟩
    rw [List.length_append, List.length_append, List.length_singleton]
    omega
  · rw [if_neg c] at e2
    cases e2

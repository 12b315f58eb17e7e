/-- a clause read by the class -/
theorem c115 {h : QH} {T : Nat → Nat} {n N : Nat} (X : CRX h T n) (w : NN T n N) (d pos lv z kc : Nat) (A B F S : Nat → Int32) (hpos : pos ≤ N) (hlv : lv ≤ 50) (hz : z + (N - pos) + 1 ≤ 412) (hkc : kc < 12) (ps : PS T n F pos lv 0 z) (f8 : F 8 = nZ kc) : (match RH (CT T n) (VT T n) N pos lv z with
    | .inl e => e ≤ N ∧ ∃ G R, qcl (d + 62) 115 [qR (some 29)] (st2' (bs h A B) F S) = some (some (qI (nZ 0)), st2' (bs h A B) G R) ∧ G 0 = nZ (ts T n e)
    | .inr u => (match RI (CT T n) (VT T n) N u.1 u.2.1 (z + u.2.2.1.length) with
      | .inl e => e ≤ N ∧ ∃ G R, qcl (d + 62) 115 [qR (some 29)] (st2' (bs h A B) F S) = some (some (qI (nZ 0)), st2' (bs h A B) G R) ∧ G 0 = nZ (ts T n e)
      | .inr v => ∃ G R, qcl (d + 62) 115 [qR (some 29)] (st2' (bs h A B) F S) = some (some (qI (nZ 1)), st2' (bs h (upS A kc (nZ (cAt (CT T n) N pos - 1))) (upS B kc (nZ (z + u.2.2.1.length + v.2.2.1.length)))) G R) ∧ PS T n G v.1 v.2.1 0 (z + u.2.2.1.length + v.2.2.1.length) ∧ G 8 = nZ (kc + 1) ∧ (∀ j, j < z → R j = S j) ∧ AtI R z (u.2.2.1 ++ v.2.2.1))) := by
  have H := X.1
  have hn := X.2.1
  have hNn := w.1
  have hT : ∀ i, i < n → T i < 256 := fun i hi => (X.2.2.2.1 i (by omega)).1
  have z10 : (nZ 1 = nZ 0) = False := by decide
  have Xb := bs_X X A B
  have Hb : Sh (bs h A B) := H
  have hkl := kdT_lt w hT hpos
  have k0 := kdT_iff (k := pos) w hT hpos kq0 (by decide) (by decide)
  have k1 := kdT_iff (k := pos) w hT hpos kq1 (by decide) (by decide)
  have k2 := kdT_iff (k := pos) w hT hpos kq2 (by decide) (by decide)
  have k3 := kdT_iff (k := pos) w hT hpos kq3 (by decide) (by decide)
  have f4 := ps.1.2.2.2.1
  -- when the head was read: the rest
  have rest : ∀ (p l : Nat) (cs : List Nat) (hd : Nat) (G R : Nat → Int32), p ≤ N → l ≤ 50 → pos ≤ p → cs.length ≤ p - pos → PS T n G p l 0 (z + cs.length) → G 8 = nZ kc → (∀ j, j < z → R j = S j) → AtI R z cs → qcl (d + 62) 115 [qR (some 29)] (st2' (bs h A B) F S) = qbig (d + 62) 115 54 [sR (some 29), sI (nZ hd)] [] (st2' (bs h A B) G R) → (match RI (CT T n) (VT T n) N p l (z + cs.length) with
      | .inl e => e ≤ N ∧ ∃ G R, qcl (d + 62) 115 [qR (some 29)] (st2' (bs h A B) F S) = some (some (qI (nZ 0)), st2' (bs h A B) G R) ∧ G 0 = nZ (ts T n e)
      | .inr v => ∃ G R, qcl (d + 62) 115 [qR (some 29)] (st2' (bs h A B) F S) = some (some (qI (nZ 1)), st2' (bs h (upS A kc (nZ hd)) (upS B kc (nZ (z + cs.length + v.2.2.1.length)))) G R) ∧ PS T n G v.1 v.2.1 0 (z + cs.length + v.2.2.1.length) ∧ G 8 = nZ (kc + 1) ∧ (∀ j, j < z → R j = S j) ∧ AtI R z (cs ++ v.2.2.1)) := by
    intro p l cs hd G R hp hl hpp hcs ps1 g8 hR hA e1
    obtain ⟨b1, o1⟩ := c115_54 X w (d + 1) p l (z + cs.length) kc hd A B G R hp hl (by omega) hkc ps1 g8
    cases er : RI (CT T n) (VT T n) N p l (z + cs.length) with
    | inl e =>
      rw [er] at o1
      obtain ⟨G2, R2, g1, g2⟩ := o1
      exact ⟨b1 e er, G2, R2, e1.trans g1, g2⟩
    | inr v =>
      rw [er] at o1
      obtain ⟨G2, R2, g1, g2, g3, g4, g5⟩ := o1
      refine ⟨G2, R2, e1.trans g1, g2, g3, ?_, ?_⟩
      · intro j hj
        exact (g4 j (by omega)).trans (hR j hj)
      · exact AtI_app cs _ z (AtI_congr cs z (fun j h1 h2 => g4 j h2) hA) g5
  unfold RH
  by_cases c1 : cAt (CT T n) N pos = 1 ∨ cAt (CT T n) N pos = 2 ∨ cAt (CT T n) N pos = 3
  · rw [if_pos c1]
    have hp1 := C_pos (C := CT T n) (N := N) (k := pos) (by omega)
    have hne := P_fuel (C := CT T n) (V := VT T n) (N := N) (by omega) 5000 3 (pos + 1) lv 0 z 0 (fun _ => none) (by decide) (by decide) (by decide) (by omega) (by omega)
    obtain ⟨b1, o1⟩ := CM Xb w 5000 3 (pos + 1) lv 0 z 0 (fun _ => none) (by decide) (by decide) (by decide) (by omega) hlv (by decide) (by omega) hne
    obtain ⟨G1, a1, a2, a3⟩ := c106 Xb (d + 58) pos F S ps.1 (w.2.2 pos hp1)
    have o2 := o1 (d + 61) 0 G1 S (by show 4 * (9 - 0) + 8 ≤ d + 61; omega) (Nat.zero_le _) (ps.adv a2 a3)
    have kk : kdT T n pos = cAt (CT T n) N pos - 1 := by
      rcases c1 with c | c | c
      · rw [eq_true c] at k0
        rw [of_eq_true k0, c]
      · rw [eq_true c] at k1
        rw [of_eq_true k1, c]
      · rw [eq_true c] at k2
        rw [of_eq_true k2, c]
    rw [kk] at f4
    cases er : P (CT T n) (VT T n) N 5000 3 (pos + 1) lv 0 z 0 (fun _ => none) with
    | inl e =>
      rw [er] at o2
      obtain ⟨G, R, z', g1, g2, g3⟩ := o2
      have g1' : qcl (d + 61) 119 [qR (some 29)] (st2' (bs h A B) G1 S) = some (some (qI (nZ 0)), st2' (bs h A B) G R) := g1
      refine ⟨b1 e er, G, R, ?_, g2⟩
      rcases c1 with c | c | c <;> rw [c] at f4 <;> simp (disch := first | assumption | omega | (simp only [Sh_si, Sh_sA, Sh_s2]; assumption)) only [E115, s2_29, f4, a1, g1', z10, A0, l0, A1, l1, A2, l2, A3, l3, A4, l4, A7, l7, A8, l8, g10_0, g10_1, g10_2, g10_3, g10_4, g10_5, g10_6, g10_7, g10_8, g10_9, p10_10, g10_10, p10_11, g10_11, p10_12, g10_12, p10_13, g10_13, ck10, g11_0, g11_1, g11_2, g11_3, p11_4, g11_4, p11_5, g11_5, ck11, p12_0, g12_0, p12_1, g12_1, g12_2, g12_3, g12_4, g12_5, ck12, A13, S13, l13, A14, S14, l14, A15, S15, l15, A16, S16, l16, p17_0, g17_0, g17_1, ck17, A18, S18, l18, p19_0, g19_0, g19_1, g19_2, g19_3, g19_4, g19_5, ck19, A20, S20, l20, A21, S21, l21, A22, S22, l22, A23, S23, l23, A24, S24, l24, R25, R26, p27_0, g27_0, g27_1, ck27, A28, S28, l28, p29_0, g29_0, g29_1, p29_2, g29_2, p29_3, g29_3, p29_4, g29_4, p29_5, g29_5, p29_6, g29_6, p29_7, g29_7, p29_8, g29_8, p29_9, g29_9, g29_10, g29_11, g29_12, g29_13, g29_14, ck29, A30, S30, l30, A31, S31, l31, A32, S32, l32, A33, S33, l33, A34, S34, l34, A35, S35, l35, g36_0, g36_1, g36_2, ck36, A37, S37, l37, A38, S38, l38, A39, S39, l39, g40_0, g40_1, g40_2, g40_3, p40_4, g40_4, ck40, A41, S41, l41, A42, S42, l42, A43, S43, l43, A44, S44, l44, p45_0, g45_0, g45_1, p45_2, g45_2, p45_3, g45_3, p45_4, g45_4, p45_5, g45_5, p45_6, g45_6, p45_7, g45_7, g45_8, g45_9, g45_10, g45_11, g45_12, ck45, A46, S46, l46, A47, S47, l47, A48, S48, l48, A49, S49, l49, A50, S50, l50, A51, S51, l51, B52_0, g52_0, p52_1, g52_1, p52_2, g52_2, g52_3, p52_4, g52_4, ck52, A53, S53, l53, A54, S54, l54, A55, S55, l55, L0, L1, L2, L3, L4, L5, L6, L7, L8, L9, L10, L11, L12, L13, L14, L15, L16, L17, L18, L19, L20, L21, L22, L23, L24, L25, L26, L27, L28, L29, L30, L31, L32, L33, L34, L35, L36, L37, L38, L39, L40, L41, L42, L43, L44, L45, L46, L47, L48, L49, L50, L52, L57, L60, L90, L91, L93, L97, L99, L100, L101, L122, L240, L255, L256, L400, L401, L408, L409, L410, L411, L412, L413, L414, L420, L1000, L1001, L1103, L1200, L1240, L2820, L5220, L7936, L10440, L12345, L1000000, L1000003, L1073741823, L59, L61, L62, L200, nd_lt_t, nd_lt_f, nd_le_t, nd_le_f, nd_eq_f, nZ_add, nZ_mul, nZ_sub, nZ_lt, nZ_le, nZ_eq, nZ_nat, nZ_div, nZ_rem, nZ_and, nZ_or, and31, nZ_shl, nZ_shr, nZ_m1, nZ_nneg, nZ_nneg', nZ_nlt, nZ_ltn, inR_lt, Nat.not_lt_zero, ob_some, jI, jL, jR, jV, rI0, rI1, rIv, if_true, if_false, ↓reduceIte, Nat.reduceAdd, Nat.reduceMul, Nat.reduceSub, Nat.reduceLT, Nat.reduceEqDiff, Nat.reduceLeDiff, Nat.zero_add, Nat.add_zero, Nat.zero_mul, Nat.mul_zero, Nat.one_mul, Nat.mul_one, and_true, true_and, false_and, and_false, or_true, true_or, or_false, false_or, not_true_eq_false, not_false_eq_true, eq_self, bI_0, bI_1, em_b, hI_ne, hI_at, hA_ne, hA_at, Sh_si, Sh_sA]
    | inr v =>
      obtain ⟨p, l, cs, dn⟩ := v
      rw [er] at o2
      obtain ⟨q1, q2, q3, q4⟩ := PB _ _ _ _ _ _ _ _ _ _ _ _ er (by decide) (by decide) (by decide) (by omega)
      have ql := P_lv _ _ _ _ _ _ _ _ _ _ _ _ er (by decide) hlv
      obtain ⟨G, R, g1, g2, g3, g4, g5, g6, g7, g8⟩ := o2
      have g1' : qcl (d + 61) 119 [qR (some 29)] (st2' (bs h A B) G1 S) = some (some (qI (nZ 1)), st2' (bs h A B) G R) := g1
      refine rest p l cs (cAt (CT T n) N pos - 1) G R q2 ql (by omega) (by omega) ⟨g2, g3, g4, g5⟩ (g6.trans (a3.2.2.2.1.trans f8)) g7 g8 ?_
      rcases c1 with c | c | c <;> rw [c] at f4 ⊢ <;> simp (disch := first | assumption | omega | (simp only [Sh_si, Sh_sA, Sh_s2]; assumption)) only [E115, s2_29, f4, a1, g1', z10, A0, l0, A1, l1, A2, l2, A3, l3, A4, l4, A7, l7, A8, l8, g10_0, g10_1, g10_2, g10_3, g10_4, g10_5, g10_6, g10_7, g10_8, g10_9, p10_10, g10_10, p10_11, g10_11, p10_12, g10_12, p10_13, g10_13, ck10, g11_0, g11_1, g11_2, g11_3, p11_4, g11_4, p11_5, g11_5, ck11, p12_0, g12_0, p12_1, g12_1, g12_2, g12_3, g12_4, g12_5, ck12, A13, S13, l13, A14, S14, l14, A15, S15, l15, A16, S16, l16, p17_0, g17_0, g17_1, ck17, A18, S18, l18, p19_0, g19_0, g19_1, g19_2, g19_3, g19_4, g19_5, ck19, A20, S20, l20, A21, S21, l21, A22, S22, l22, A23, S23, l23, A24, S24, l24, R25, R26, p27_0, g27_0, g27_1, ck27, A28, S28, l28, p29_0, g29_0, g29_1, p29_2, g29_2, p29_3, g29_3, p29_4, g29_4, p29_5, g29_5, p29_6, g29_6, p29_7, g29_7, p29_8, g29_8, p29_9, g29_9, g29_10, g29_11, g29_12, g29_13, g29_14, ck29, A30, S30, l30, A31, S31, l31, A32, S32, l32, A33, S33, l33, A34, S34, l34, A35, S35, l35, g36_0, g36_1, g36_2, ck36, A37, S37, l37, A38, S38, l38, A39, S39, l39, g40_0, g40_1, g40_2, g40_3, p40_4, g40_4, ck40, A41, S41, l41, A42, S42, l42, A43, S43, l43, A44, S44, l44, p45_0, g45_0, g45_1, p45_2, g45_2, p45_3, g45_3, p45_4, g45_4, p45_5, g45_5, p45_6, g45_6, p45_7, g45_7, g45_8, g45_9, g45_10, g45_11, g45_12, ck45, A46, S46, l46, A47, S47, l47, A48, S48, l48, A49, S49, l49, A50, S50, l50, A51, S51, l51, B52_0, g52_0, p52_1, g52_1, p52_2, g52_2, g52_3, p52_4, g52_4, ck52, A53, S53, l53, A54, S54, l54, A55, S55, l55, L0, L1, L2, L3, L4, L5, L6, L7, L8, L9, L10, L11, L12, L13, L14, L15, L16, L17, L18, L19, L20, L21, L22, L23, L24, L25, L26, L27, L28, L29, L30, L31, L32, L33, L34, L35, L36, L37, L38, L39, L40, L41, L42, L43, L44, L45, L46, L47, L48, L49, L50, L52, L57, L60, L90, L91, L93, L97, L99, L100, L101, L122, L240, L255, L256, L400, L401, L408, L409, L410, L411, L412, L413, L414, L420, L1000, L1001, L1103, L1200, L1240, L2820, L5220, L7936, L10440, L12345, L1000000, L1000003, L1073741823, L59, L61, L62, L200, nd_lt_t, nd_lt_f, nd_le_t, nd_le_f, nd_eq_f, nZ_add, nZ_mul, nZ_sub, nZ_lt, nZ_le, nZ_eq, nZ_nat, nZ_div, nZ_rem, nZ_and, nZ_or, and31, nZ_shl, nZ_shr, nZ_m1, nZ_nneg, nZ_nneg', nZ_nlt, nZ_ltn, inR_lt, Nat.not_lt_zero, ob_some, jI, jL, jR, jV, rI0, rI1, rIv, if_true, if_false, ↓reduceIte, Nat.reduceAdd, Nat.reduceMul, Nat.reduceSub, Nat.reduceLT, Nat.reduceEqDiff, Nat.reduceLeDiff, Nat.zero_add, Nat.add_zero, Nat.zero_mul, Nat.mul_zero, Nat.one_mul, Nat.mul_one, and_true, true_and, false_and, and_false, or_true, true_or, or_false, false_or, not_true_eq_false, not_false_eq_true, eq_self, bI_0, bI_1, em_b, hI_ne, hI_at, hA_ne, hA_at, Sh_si, Sh_sA]
  · rw [if_neg c1]
    by_cases c2 : cAt (CT T n) N pos = 4
    · rw [if_pos c2]
      have hp1 := C_pos (C := CT T n) (N := N) (k := pos) (by omega)
      rw [eq_true c2] at k3
      rw [of_eq_true k3] at f4
      obtain ⟨G1, a1, a2, a3⟩ := c106 Xb (d + 58) pos F S ps.1 (w.2.2 pos hp1)
      have ps1 := ps.adv a2 a3
      have lv1 := c111 Hb (d + 60) 17 1 z G1 S (by decide) (by decide) ps1.2.2.2 (by omega)
      have rr := rest (pos + 1) lv [49] 3 (upS G1 9 (nZ (z + 1))) (upS S z (nZ (17 + 32 * 1))) (by omega) hlv (by omega) (by simp) ⟨ps1.1.of (upS_ne (by decide)) (upS_ne (by decide)) (upS_ne (by decide)) (upS_ne (by decide)) (upS_ne (by decide)), by rw [upS_ne (by decide)]; exact ps1.2.1, by rw [upS_ne (by decide)]; exact ps1.2.2.1, upS_at⟩ (by rw [upS_ne (by decide), a3.2.2.2.1]; exact f8) (fun j hj => upS_ne (by omega)) ⟨upS_at, trivial⟩ (by
        simp (disch := first | assumption | omega | (simp only [Sh_si, Sh_sA, Sh_s2]; assumption)) only [E115, s2_29, f4, a1, lv1, z10, A0, l0, A1, l1, A2, l2, A3, l3, A4, l4, A7, l7, A8, l8, g10_0, g10_1, g10_2, g10_3, g10_4, g10_5, g10_6, g10_7, g10_8, g10_9, p10_10, g10_10, p10_11, g10_11, p10_12, g10_12, p10_13, g10_13, ck10, g11_0, g11_1, g11_2, g11_3, p11_4, g11_4, p11_5, g11_5, ck11, p12_0, g12_0, p12_1, g12_1, g12_2, g12_3, g12_4, g12_5, ck12, A13, S13, l13, A14, S14, l14, A15, S15, l15, A16, S16, l16, p17_0, g17_0, g17_1, ck17, A18, S18, l18, p19_0, g19_0, g19_1, g19_2, g19_3, g19_4, g19_5, ck19, A20, S20, l20, A21, S21, l21, A22, S22, l22, A23, S23, l23, A24, S24, l24, R25, R26, p27_0, g27_0, g27_1, ck27, A28, S28, l28, p29_0, g29_0, g29_1, p29_2, g29_2, p29_3, g29_3, p29_4, g29_4, p29_5, g29_5, p29_6, g29_6, p29_7, g29_7, p29_8, g29_8, p29_9, g29_9, g29_10, g29_11, g29_12, g29_13, g29_14, ck29, A30, S30, l30, A31, S31, l31, A32, S32, l32, A33, S33, l33, A34, S34, l34, A35, S35, l35, g36_0, g36_1, g36_2, ck36, A37, S37, l37, A38, S38, l38, A39, S39, l39, g40_0, g40_1, g40_2, g40_3, p40_4, g40_4, ck40, A41, S41, l41, A42, S42, l42, A43, S43, l43, A44, S44, l44, p45_0, g45_0, g45_1, p45_2, g45_2, p45_3, g45_3, p45_4, g45_4, p45_5, g45_5, p45_6, g45_6, p45_7, g45_7, g45_8, g45_9, g45_10, g45_11, g45_12, ck45, A46, S46, l46, A47, S47, l47, A48, S48, l48, A49, S49, l49, A50, S50, l50, A51, S51, l51, B52_0, g52_0, p52_1, g52_1, p52_2, g52_2, g52_3, p52_4, g52_4, ck52, A53, S53, l53, A54, S54, l54, A55, S55, l55, L0, L1, L2, L3, L4, L5, L6, L7, L8, L9, L10, L11, L12, L13, L14, L15, L16, L17, L18, L19, L20, L21, L22, L23, L24, L25, L26, L27, L28, L29, L30, L31, L32, L33, L34, L35, L36, L37, L38, L39, L40, L41, L42, L43, L44, L45, L46, L47, L48, L49, L50, L52, L57, L60, L90, L91, L93, L97, L99, L100, L101, L122, L240, L255, L256, L400, L401, L408, L409, L410, L411, L412, L413, L414, L420, L1000, L1001, L1103, L1200, L1240, L2820, L5220, L7936, L10440, L12345, L1000000, L1000003, L1073741823, L59, L61, L62, L200, nd_lt_t, nd_lt_f, nd_le_t, nd_le_f, nd_eq_f, nZ_add, nZ_mul, nZ_sub, nZ_lt, nZ_le, nZ_eq, nZ_nat, nZ_div, nZ_rem, nZ_and, nZ_or, and31, nZ_shl, nZ_shr, nZ_m1, nZ_nneg, nZ_nneg', nZ_nlt, nZ_ltn, inR_lt, Nat.not_lt_zero, ob_some, jI, jL, jR, jV, rI0, rI1, rIv, if_true, if_false, ↓reduceIte, Nat.reduceAdd, Nat.reduceMul, Nat.reduceSub, Nat.reduceLT, Nat.reduceEqDiff, Nat.reduceLeDiff, Nat.zero_add, Nat.add_zero, Nat.zero_mul, Nat.mul_zero, Nat.one_mul, Nat.mul_one, and_true, true_and, false_and, and_false, or_true, true_or, or_false, false_or, not_true_eq_false, not_false_eq_true, eq_self, bI_0, bI_1, em_b, hI_ne, hI_at, hA_ne, hA_at, Sh_si, Sh_sA])
      have e3 : cAt (CT T n) N pos - 1 = 3 := by omega
      rw [e3]
      exact rr
    · rw [if_neg c2]
      refine ⟨hpos, F, S, ?_, ps.1.1⟩
      rw [eq_false (show ¬cAt (CT T n) N pos = 1 by omega)] at k0
      rw [eq_false (show ¬cAt (CT T n) N pos = 2 by omega)] at k1
      rw [eq_false (show ¬cAt (CT T n) N pos = 3 by omega)] at k2
      rw [eq_false c2] at k3
      simp (disch := first | assumption | omega | (simp only [Sh_si, Sh_sA, Sh_s2]; assumption)) only [E115, s2_29, f4, k0, k1, k2, k3, A0, l0, A1, l1, A2, l2, A3, l3, A4, l4, A7, l7, A8, l8, g10_0, g10_1, g10_2, g10_3, g10_4, g10_5, g10_6, g10_7, g10_8, g10_9, p10_10, g10_10, p10_11, g10_11, p10_12, g10_12, p10_13, g10_13, ck10, g11_0, g11_1, g11_2, g11_3, p11_4, g11_4, p11_5, g11_5, ck11, p12_0, g12_0, p12_1, g12_1, g12_2, g12_3, g12_4, g12_5, ck12, A13, S13, l13, A14, S14, l14, A15, S15, l15, A16, S16, l16, p17_0, g17_0, g17_1, ck17, A18, S18, l18, p19_0, g19_0, g19_1, g19_2, g19_3, g19_4, g19_5, ck19, A20, S20, l20, A21, S21, l21, A22, S22, l22, A23, S23, l23, A24, S24, l24, R25, R26, p27_0, g27_0, g27_1, ck27, A28, S28, l28, p29_0, g29_0, g29_1, p29_2, g29_2, p29_3, g29_3, p29_4, g29_4, p29_5, g29_5, p29_6, g29_6, p29_7, g29_7, p29_8, g29_8, p29_9, g29_9, g29_10, g29_11, g29_12, g29_13, g29_14, ck29, A30, S30, l30, A31, S31, l31, A32, S32, l32, A33, S33, l33, A34, S34, l34, A35, S35, l35, g36_0, g36_1, g36_2, ck36, A37, S37, l37, A38, S38, l38, A39, S39, l39, g40_0, g40_1, g40_2, g40_3, p40_4, g40_4, ck40, A41, S41, l41, A42, S42, l42, A43, S43, l43, A44, S44, l44, p45_0, g45_0, g45_1, p45_2, g45_2, p45_3, g45_3, p45_4, g45_4, p45_5, g45_5, p45_6, g45_6, p45_7, g45_7, g45_8, g45_9, g45_10, g45_11, g45_12, ck45, A46, S46, l46, A47, S47, l47, A48, S48, l48, A49, S49, l49, A50, S50, l50, A51, S51, l51, B52_0, g52_0, p52_1, g52_1, p52_2, g52_2, g52_3, p52_4, g52_4, ck52, A53, S53, l53, A54, S54, l54, A55, S55, l55, L0, L1, L2, L3, L4, L5, L6, L7, L8, L9, L10, L11, L12, L13, L14, L15, L16, L17, L18, L19, L20, L21, L22, L23, L24, L25, L26, L27, L28, L29, L30, L31, L32, L33, L34, L35, L36, L37, L38, L39, L40, L41, L42, L43, L44, L45, L46, L47, L48, L49, L50, L52, L57, L60, L90, L91, L93, L97, L99, L100, L101, L122, L240, L255, L256, L400, L401, L408, L409, L410, L411, L412, L413, L414, L420, L1000, L1001, L1103, L1200, L1240, L2820, L5220, L7936, L10440, L12345, L1000000, L1000003, L1073741823, L59, L61, L62, L200, nd_lt_t, nd_lt_f, nd_le_t, nd_le_f, nd_eq_f, nZ_add, nZ_mul, nZ_sub, nZ_lt, nZ_le, nZ_eq, nZ_nat, nZ_div, nZ_rem, nZ_and, nZ_or, and31, nZ_shl, nZ_shr, nZ_m1, nZ_nneg, nZ_nneg', nZ_nlt, nZ_ltn, inR_lt, Nat.not_lt_zero, ob_some, jI, jL, jR, jV, rI0, rI1, rIv, if_true, if_false, ↓reduceIte, Nat.reduceAdd, Nat.reduceMul, Nat.reduceSub, Nat.reduceLT, Nat.reduceEqDiff, Nat.reduceLeDiff, Nat.zero_add, Nat.add_zero, Nat.zero_mul, Nat.mul_zero, Nat.one_mul, Nat.mul_one, and_true, true_and, false_and, and_false, or_true, true_or, or_false, false_or, not_true_eq_false, not_false_eq_true, eq_self, bI_0, bI_1, em_b, hI_ne, hI_at, hA_ne, hA_at, Sh_si, Sh_sA]
/-! the whole text -/
def HdI (A B : Nat → Int32) : Nat → Nat → List CL → Prop
  | _, _, [] => True
  | k, z, c :: L => A k = nZ (c.1 - 1) ∧ B k = nZ (z + c.2.1.length) ∧ HdI A B (k + 1) (z + c.2.1.length) L
/-- a law is made -/
noncomputable def mkL (d : Nat) (h2 : QH) : QO := (qgr 4 12 29 (qno 1 3 h2)).bind fun o5 =>
     (qgi 4 8 29 (qno 1 3 h2)).bind fun x6 =>
     cR (qcl d 7 [qR o5, qI x6] (qno 1 3 h2)) fun o8 h7 =>
     (qgr 4 13 29 h7).bind fun o9 =>
     (qgi 4 8 29 h7).bind fun x10 =>
     cR (qcl d 7 [qR o9, qI x10] h7) fun o12 h11 =>
     (qgr 4 14 29 h11).bind fun o13 =>
     (qgi 4 9 29 h11).bind fun x14 =>
     cR (qcl d 7 [qR o13, qI x14] h11) fun o16 h15 =>
     cV (qcl d 73 [qR (some (hN h2)), qR o8, qR o12, qR o16] h15) fun h17 =>
     some (some (qR (some (hN h2))), h17)
theorem kdT_31 {T : Nat → Nat} {n N k : Nat} (w : NN T n N) (hT : ∀ i, i < n → T i < 256) (hk : k ≤ N) : (kdT T n k = 31) = (k = N) := by
  rw [kdT_at w hk]
  apply propext
  by_cases c : k < N
  · rw [if_pos c]
    have : kdC (CT T n k) < 31 := kdC_lt _ (cdT_lt (hT _ (w.2.2 k c)) (n := n))
    constructor <;> intro e <;> omega
  · rw [if_neg c]
    constructor
    · intro _
      omega
    · intro _
      rfl
theorem c112_12 {h : QH} (H : Sh h) (d : Nat) (F S : Nat → Int32) (f8 : F 8 = nZ 12) : qbig (d + 63) 112 46 [sR (some 29), none, none, sI (nZ 12)] [] (st2' h F S) = some (some (qR none), st2' h F S) := by
  rw [E112_46]
  simp (disch := first | assumption | omega | (simp only [Sh_si, Sh_sA, Sh_s2]; assumption)) only [s2_29, f8, A0, l0, A1, l1, A2, l2, A3, l3, A4, l4, A7, l7, A8, l8, g10_0, g10_1, g10_2, g10_3, g10_4, g10_5, g10_6, g10_7, g10_8, g10_9, p10_10, g10_10, p10_11, g10_11, p10_12, g10_12, p10_13, g10_13, ck10, g11_0, g11_1, g11_2, g11_3, p11_4, g11_4, p11_5, g11_5, ck11, p12_0, g12_0, p12_1, g12_1, g12_2, g12_3, g12_4, g12_5, ck12, A13, S13, l13, A14, S14, l14, A15, S15, l15, A16, S16, l16, p17_0, g17_0, g17_1, ck17, A18, S18, l18, p19_0, g19_0, g19_1, g19_2, g19_3, g19_4, g19_5, ck19, A20, S20, l20, A21, S21, l21, A22, S22, l22, A23, S23, l23, A24, S24, l24, R25, R26, p27_0, g27_0, g27_1, ck27, A28, S28, l28, p29_0, g29_0, g29_1, p29_2, g29_2, p29_3, g29_3, p29_4, g29_4, p29_5, g29_5, p29_6, g29_6, p29_7, g29_7, p29_8, g29_8, p29_9, g29_9, g29_10, g29_11, g29_12, g29_13, g29_14, ck29, A30, S30, l30, A31, S31, l31, A32, S32, l32, A33, S33, l33, A34, S34, l34, A35, S35, l35, g36_0, g36_1, g36_2, ck36, A37, S37, l37, A38, S38, l38, A39, S39, l39, g40_0, g40_1, g40_2, g40_3, p40_4, g40_4, ck40, A41, S41, l41, A42, S42, l42, A43, S43, l43, A44, S44, l44, p45_0, g45_0, g45_1, p45_2, g45_2, p45_3, g45_3, p45_4, g45_4, p45_5, g45_5, p45_6, g45_6, p45_7, g45_7, g45_8, g45_9, g45_10, g45_11, g45_12, ck45, A46, S46, l46, A47, S47, l47, A48, S48, l48, A49, S49, l49, A50, S50, l50, A51, S51, l51, B52_0, g52_0, p52_1, g52_1, p52_2, g52_2, g52_3, p52_4, g52_4, ck52, A53, S53, l53, A54, S54, l54, A55, S55, l55, L0, L1, L2, L3, L4, L5, L6, L7, L8, L9, L10, L11, L12, L13, L14, L15, L16, L17, L18, L19, L20, L21, L22, L23, L24, L25, L26, L27, L28, L29, L30, L31, L32, L33, L34, L35, L36, L37, L38, L39, L40, L41, L42, L43, L44, L45, L46, L47, L48, L49, L50, L52, L57, L60, L90, L91, L93, L97, L99, L100, L101, L122, L240, L255, L256, L400, L401, L408, L409, L410, L411, L412, L413, L414, L420, L1000, L1001, L1103, L1200, L1240, L2820, L5220, L7936, L10440, L12345, L1000000, L1000003, L1073741823, L59, L61, L62, L200, nd_lt_t, nd_lt_f, nd_le_t, nd_le_f, nd_eq_f, nZ_add, nZ_mul, nZ_sub, nZ_lt, nZ_le, nZ_eq, nZ_nat, nZ_div, nZ_rem, nZ_and, nZ_or, and31, nZ_shl, nZ_shr, nZ_m1, nZ_nneg, nZ_nneg', nZ_nlt, nZ_ltn, inR_lt, Nat.not_lt_zero, ob_some, jI, jL, jR, jV, rI0, rI1, rIv, if_true, if_false, ↓reduceIte, Nat.reduceAdd, Nat.reduceMul, Nat.reduceSub, Nat.reduceLT, Nat.reduceEqDiff, Nat.reduceLeDiff, Nat.zero_add, Nat.add_zero, Nat.zero_mul, Nat.mul_zero, Nat.one_mul, Nat.mul_one, and_true, true_and, false_and, and_false, or_true, true_or, or_false, false_or, not_true_eq_false, not_false_eq_true, eq_self, bI_0, bI_1, em_b, hI_ne, hI_at, hA_ne, hA_at, Sh_si, Sh_sA]
theorem c112_f {h : QH} (H : Sh h) (d kc : Nat) (F S G R : Nat → Int32) (A B : Nat → Int32) (hkc : kc < 12) (f8 : F 8 = nZ kc) (e : qcl (d + 62) 115 [qR (some 29)] (st2' (bs h A B) F S) = some (some (qI (nZ 0)), st2' (bs h A B) G R)) : qbig (d + 63) 112 46 [sR (some 29), none, none, sI (nZ kc)] [] (st2' (bs h A B) F S) = some (some (qR none), st2' (bs h A B) G R) := by
  have Hb : Sh (bs h A B) := H
  rw [E112_46]
  simp (disch := first | assumption | omega | (simp only [Sh_si, Sh_sA, Sh_s2]; assumption)) only [s2_29, f8, e, A0, l0, A1, l1, A2, l2, A3, l3, A4, l4, A7, l7, A8, l8, g10_0, g10_1, g10_2, g10_3, g10_4, g10_5, g10_6, g10_7, g10_8, g10_9, p10_10, g10_10, p10_11, g10_11, p10_12, g10_12, p10_13, g10_13, ck10, g11_0, g11_1, g11_2, g11_3, p11_4, g11_4, p11_5, g11_5, ck11, p12_0, g12_0, p12_1, g12_1, g12_2, g12_3, g12_4, g12_5, ck12, A13, S13, l13, A14, S14, l14, A15, S15, l15, A16, S16, l16, p17_0, g17_0, g17_1, ck17, A18, S18, l18, p19_0, g19_0, g19_1, g19_2, g19_3, g19_4, g19_5, ck19, A20, S20, l20, A21, S21, l21, A22, S22, l22, A23, S23, l23, A24, S24, l24, R25, R26, p27_0, g27_0, g27_1, ck27, A28, S28, l28, p29_0, g29_0, g29_1, p29_2, g29_2, p29_3, g29_3, p29_4, g29_4, p29_5, g29_5, p29_6, g29_6, p29_7, g29_7, p29_8, g29_8, p29_9, g29_9, g29_10, g29_11, g29_12, g29_13, g29_14, ck29, A30, S30, l30, A31, S31, l31, A32, S32, l32, A33, S33, l33, A34, S34, l34, A35, S35, l35, g36_0, g36_1, g36_2, ck36, A37, S37, l37, A38, S38, l38, A39, S39, l39, g40_0, g40_1, g40_2, g40_3, p40_4, g40_4, ck40, A41, S41, l41, A42, S42, l42, A43, S43, l43, A44, S44, l44, p45_0, g45_0, g45_1, p45_2, g45_2, p45_3, g45_3, p45_4, g45_4, p45_5, g45_5, p45_6, g45_6, p45_7, g45_7, g45_8, g45_9, g45_10, g45_11, g45_12, ck45, A46, S46, l46, A47, S47, l47, A48, S48, l48, A49, S49, l49, A50, S50, l50, A51, S51, l51, B52_0, g52_0, p52_1, g52_1, p52_2, g52_2, g52_3, p52_4, g52_4, ck52, A53, S53, l53, A54, S54, l54, A55, S55, l55, L0, L1, L2, L3, L4, L5, L6, L7, L8, L9, L10, L11, L12, L13, L14, L15, L16, L17, L18, L19, L20, L21, L22, L23, L24, L25, L26, L27, L28, L29, L30, L31, L32, L33, L34, L35, L36, L37, L38, L39, L40, L41, L42, L43, L44, L45, L46, L47, L48, L49, L50, L52, L57, L60, L90, L91, L93, L97, L99, L100, L101, L122, L240, L255, L256, L400, L401, L408, L409, L410, L411, L412, L413, L414, L420, L1000, L1001, L1103, L1200, L1240, L2820, L5220, L7936, L10440, L12345, L1000000, L1000003, L1073741823, L59, L61, L62, L200, nd_lt_t, nd_lt_f, nd_le_t, nd_le_f, nd_eq_f, nZ_add, nZ_mul, nZ_sub, nZ_lt, nZ_le, nZ_eq, nZ_nat, nZ_div, nZ_rem, nZ_and, nZ_or, and31, nZ_shl, nZ_shr, nZ_m1, nZ_nneg, nZ_nneg', nZ_nlt, nZ_ltn, inR_lt, Nat.not_lt_zero, ob_some, jI, jL, jR, jV, rI0, rI1, rIv, if_true, if_false, ↓reduceIte, Nat.reduceAdd, Nat.reduceMul, Nat.reduceSub, Nat.reduceLT, Nat.reduceEqDiff, Nat.reduceLeDiff, Nat.zero_add, Nat.add_zero, Nat.zero_mul, Nat.mul_zero, Nat.one_mul, Nat.mul_one, and_true, true_and, false_and, and_false, or_true, true_or, or_false, false_or, not_true_eq_false, not_false_eq_true, eq_self, bI_0, bI_1, em_b, hI_ne, hI_at, hA_ne, hA_at, Sh_si, Sh_sA]
theorem c112_t {h : QH} {T : Nat → Nat} {n N : Nat} (X : CRX h T n) (w : NN T n N) (d kc p l z : Nat) (F S G R : Nat → Int32) (A B A1 B1 : Nat → Int32) (hkc : kc < 12) (hp : p ≤ N) (f8 : F 8 = nZ kc) (e : qcl (d + 62) 115 [qR (some 29)] (st2' (bs h A B) F S) = some (some (qI (nZ 1)), st2' (bs h A1 B1) G R)) (ps : PS T n G p l 0 z) : (p = N → qbig (d + 63) 112 46 [sR (some 29), none, none, sI (nZ kc)] [] (st2' (bs h A B) F S) = mkL (d + 62) (st2' (bs h A1 B1) G R)) ∧ (p ≠ N → cAt (CT T n) N p = 159 → ∃ G2, qbig (d + 63) 112 46 [sR (some 29), none, none, sI (nZ kc)] [] (st2' (bs h A B) F S) = qbig (d + 63) 112 46 [sR (some 29), none, none, sI (nZ (kc + 1))] [] (st2' (bs h A1 B1) G2 R) ∧ PS T n G2 (p + 1) l 0 z ∧ G2 8 = G 8) ∧ (p ≠ N → cAt (CT T n) N p ≠ 159 → qbig (d + 63) 112 46 [sR (some 29), none, none, sI (nZ kc)] [] (st2' (bs h A B) F S) = some (some (qR none), st2' (bs h A1 B1) G R)) := by
  have H := X.1
  have hn := X.2.1
  have hNn := w.1
  have hT : ∀ i, i < n → T i < 256 := fun i hi => (X.2.2.2.1 i (by omega)).1
  have z10 : (nZ 1 = nZ 0) = False := by decide
  have Hb : Sh (bs h A B) := H
  have Hc : Sh (bs h A1 B1) := H
  have hkl := kdT_lt w hT hp
  have k31 := kdT_31 w hT hp
  have k18 := kdT_iff (k := p) w hT hp kq18 (by decide) (by decide)
  have g4 := ps.1.2.2.2.1
  refine ⟨?_, ?_, ?_⟩
  · intro c
    rw [eq_true c] at k31
    rw [of_eq_true k31] at g4
    rw [E112_46]
    unfold mkL
    simp (disch := first | assumption | omega | (simp only [Sh_s2]; assumption)) only [g29_8, ob_some, s2_29, f8, L12, nZ_lt, nd_lt_t, if_true, e, jI, L0, z10, if_false, g29_4, g4, L31]
  · intro c c2
    have hp1 := C_pos (C := CT T n) (N := N) (k := p) (by omega)
    rw [eq_true c2] at k18
    rw [of_eq_true k18] at g4
    obtain ⟨G2, a1, a2, a3⟩ := c106 (bs_X X A1 B1) (d + 59) p G R ps.1 (w.2.2 p hp1)
    refine ⟨G2, ?_, ps.adv a2 a3, a3.2.2.2.1⟩
    have n31 : (nZ 18 = nZ 31) = False := by decide
    rw [E112_46]
    simp (disch := first | assumption | omega | (simp only [Sh_s2]; assumption)) only [g29_8, ob_some, s2_29, f8, L12, nZ_lt, nd_lt_t, if_true, e, jI, jV, L0, z10, if_false, g29_4, g4, L31, L18, n31, a1, L1, nZ_add]
  · intro c c2
    rw [eq_false c] at k31
    rw [eq_false c2] at k18
    rw [E112_46]
    simp (disch := first | assumption | omega | (simp only [Sh_s2]; assumption)) only [g29_8, ob_some, s2_29, f8, L12, nZ_lt, nd_lt_t, if_true, e, jI, jV, L0, z10, if_false, g29_4, g4, L31, L18, nZ_eq, k31, k18]
theorem c112_44 {h : QH} {T : Nat → Nat} {n N : Nat} (X : CRX h T n) (w : NN T n N) (d : Nat) : ∀ k pos lv z A B F S, k ≤ 11 → pos ≤ N → lv ≤ 50 → z + (N - pos) + (k + 1) ≤ 412 → PS T n F pos lv 0 z → F 8 = nZ (11 - k) → (match RL (CT T n) (VT T n) N (k + 1) pos lv z with
    | .inl e => e ≤ N ∧ ∃ A' B' G R, qbig (d + 63) 112 46 [sR (some 29), none, none, sI (nZ (11 - k))] [] (st2' (bs h A B) F S) = some (some (qR none), st2' (bs h A' B') G R) ∧ G 0 = nZ (ts T n e)
    | .inr L => ∃ A' B' G R, qbig (d + 63) 112 46 [sR (some 29), none, none, sI (nZ (11 - k))] [] (st2' (bs h A B) F S) = mkL (d + 62) (st2' (bs h A' B') G R) ∧ G 8 = nZ (11 - k + L.length) ∧ G 9 = nZ (z + (stepsOf L).length) ∧ (∀ j, j < z → R j = S j) ∧ AtI R z (stepsOf L) ∧ (∀ i, i < 11 - k → A' i = A i ∧ B' i = B i) ∧ HdI A' B' (11 - k) z L) := by
  have H := X.1
  have hn := X.2.1
  have hNn := w.1
  have hT : ∀ i, i < n → T i < 256 := fun i hi => (X.2.2.2.1 i (by omega)).1
  have z10 : (nZ 1 = nZ 0) = False := by decide
  intro k
  induction k with
  | zero =>
    intro pos lv z A B F S hk hpos hlv hz ps f8
    have o := c115 X w d pos lv z (11 - 0) A B F S hpos hlv (by omega) (by omega) ps f8
    rw [RL_s]
    cases er : RH (CT T n) (VT T n) N pos lv z with
    | inl e =>
      rw [er] at o
      obtain ⟨he, G, R, g1, g2⟩ := o
      exact ⟨he, A, B, G, R, c112_f H d (11 - 0) F S G R A B (by omega) f8 g1, g2⟩
    | inr u =>
      obtain ⟨p, l, cs, dn⟩ := u
      obtain ⟨a1, a2, a3, a4, a5, a6, a7⟩ := RH_b er hlv
      rw [er] at o
      simp only at o
      show (match rdL (RI (CT T n) (VT T n) N p l (z + cs.length)) _ with
        | .inl e => _
        | .inr L => _)
      cases er2 : RI (CT T n) (VT T n) N p l (z + cs.length) with
      | inl e =>
        rw [er2] at o
        obtain ⟨he, G, R, g1, g2⟩ := o
        exact ⟨he, A, B, G, R, c112_f H d (11 - 0) F S G R A B (by omega) f8 g1, g2⟩
      | inr v =>
        obtain ⟨p2, lw, cs2, dt⟩ := v
        obtain ⟨r1, r2, r3, r4, r5⟩ := RI_b er2 a3 a5
        rw [er2] at o
        simp only at o
        obtain ⟨G, R, g1, g2, g3, g4, g5⟩ := o
        obtain ⟨t1, t2, t3⟩ := c112_t X w d (11 - 0) p2 lw (z + cs.length + cs2.length) F S G R A B _ _ (by omega) r2 f8 g1 g2
        show (match (if p2 = N then Sum.inr [(cAt (CT T n) N pos, cs ++ cs2, dn, dt)] else if cAt (CT T n) N p2 = 159 then rlB (RL (CT T n) (VT T n) N 0 (p2 + 1) lw (z + cs.length + cs2.length)) (fun L => (cAt (CT T n) N pos, cs ++ cs2, dn, dt) :: L) else Sum.inl p2 : Nat ⊕ List CL) with
          | .inl e => _
          | .inr L => _)
        have kc1 : 11 - 0 + 1 = 12 - 0 := by omega
        by_cases c1 : p2 = N
        · rw [if_pos c1]
          refine ⟨_, _, G, R, t1 c1, ?_, ?_, g4, ?_, ?_, ?_⟩
          · rw [g3]
            rfl
          · rw [g2.2.2.2, stepsOf_cons, List.length_append]
            show nZ (z + cs.length + cs2.length) = nZ (z + ((cs ++ cs2).length + 0))
            rw [List.length_append]
            congr 1
            omega
          · rw [stepsOf_cons]
            show AtI R z ((cs ++ cs2) ++ [])
            rw [List.append_nil]
            exact g5
          · intro i hi
            exact ⟨upS_ne (by omega), upS_ne (by omega)⟩
          · refine ⟨upS_at, ?_, trivial⟩
            show upS B (11 - 0) (nZ (z + cs.length + cs2.length)) (11 - 0) = nZ (z + (cs ++ cs2).length)
            rw [upS_at, List.length_append, Nat.add_assoc]
        · rw [if_neg c1]
          by_cases c2 : cAt (CT T n) N p2 = 159
          · rw [if_pos c2]
            have hp1 := C_pos (C := CT T n) (N := N) (k := p2) (by omega)
            obtain ⟨G2, m1, m2, m3⟩ := t2 c1 c2
            have e12 : G2 8 = nZ 12 := m3.trans g3
            exact ⟨by omega, _, _, G2, R, m1.trans (c112_12 (show Sh (bs h _ _) from H) d G2 R e12), m2.1.1⟩
          · rw [if_neg c2]
            exact ⟨r2, _, _, G, R, t3 c1 c2, g2.1.1⟩
  | succ k ih =>
    intro pos lv z A B F S hk hpos hlv hz ps f8
    have o := c115 X w d pos lv z (11 - (k + 1)) A B F S hpos hlv (by omega) (by omega) ps f8
    rw [RL_s]
    cases er : RH (CT T n) (VT T n) N pos lv z with
    | inl e =>
      rw [er] at o
      obtain ⟨he, G, R, g1, g2⟩ := o
      exact ⟨he, A, B, G, R, c112_f H d (11 - (k + 1)) F S G R A B (by omega) f8 g1, g2⟩
    | inr u =>
      obtain ⟨p, l, cs, dn⟩ := u
      obtain ⟨a1, a2, a3, a4, a5, a6, a7⟩ := RH_b er hlv
      rw [er] at o
      simp only at o
      show (match rdL (RI (CT T n) (VT T n) N p l (z + cs.length)) _ with
        | .inl e => _
        | .inr L => _)
      cases er2 : RI (CT T n) (VT T n) N p l (z + cs.length) with
      | inl e =>
        rw [er2] at o
        obtain ⟨he, G, R, g1, g2⟩ := o
        exact ⟨he, A, B, G, R, c112_f H d (11 - (k + 1)) F S G R A B (by omega) f8 g1, g2⟩
      | inr v =>
        obtain ⟨p2, lw, cs2, dt⟩ := v
        obtain ⟨r1, r2, r3, r4, r5⟩ := RI_b er2 a3 a5
        rw [er2] at o
        simp only at o
        obtain ⟨G, R, g1, g2, g3, g4, g5⟩ := o
        obtain ⟨t1, t2, t3⟩ := c112_t X w d (11 - (k + 1)) p2 lw (z + cs.length + cs2.length) F S G R A B _ _ (by omega) r2 f8 g1 g2
        show (match (if p2 = N then Sum.inr [(cAt (CT T n) N pos, cs ++ cs2, dn, dt)] else if cAt (CT T n) N p2 = 159 then rlB (RL (CT T n) (VT T n) N (k + 1) (p2 + 1) lw (z + cs.length + cs2.length)) (fun L => (cAt (CT T n) N pos, cs ++ cs2, dn, dt) :: L) else Sum.inl p2 : Nat ⊕ List CL) with
          | .inl e => _
          | .inr L => _)
        have kc1 : 11 - (k + 1) + 1 = 12 - (k + 1) := by omega
        by_cases c1 : p2 = N
        · rw [if_pos c1]
          refine ⟨_, _, G, R, t1 c1, ?_, ?_, g4, ?_, ?_, ?_⟩
          · rw [g3]
            rfl
          · rw [g2.2.2.2, stepsOf_cons, List.length_append]
            show nZ (z + cs.length + cs2.length) = nZ (z + ((cs ++ cs2).length + 0))
            rw [List.length_append]
            congr 1
            omega
          · rw [stepsOf_cons]
            show AtI R z ((cs ++ cs2) ++ [])
            rw [List.append_nil]
            exact g5
          · intro i hi
            exact ⟨upS_ne (by omega), upS_ne (by omega)⟩
          · refine ⟨upS_at, ?_, trivial⟩
            show upS B (11 - (k + 1)) (nZ (z + cs.length + cs2.length)) (11 - (k + 1)) = nZ (z + (cs ++ cs2).length)
            rw [upS_at, List.length_append, Nat.add_assoc]
        · rw [if_neg c1]
          by_cases c2 : cAt (CT T n) N p2 = 159
          · rw [if_pos c2]
            have hp1 := C_pos (C := CT T n) (N := N) (k := p2) (by omega)
            obtain ⟨G2, m1, m2, m3⟩ := t2 c1 c2
            rw [show 11 - (k + 1) + 1 = 11 - k by omega] at m1
            have i1 := ih (p2 + 1) lw (z + cs.length + cs2.length) (upS A (11 - (k + 1)) (nZ (cAt (CT T n) N pos - 1))) (upS B (11 - (k + 1)) (nZ (z + cs.length + cs2.length))) G2 R (by omega) (by omega) r4 (by omega) m2 (m3.trans (g3.trans (congrArg nZ (by omega))))
            cases er3 : RL (CT T n) (VT T n) N (k + 1) (p2 + 1) lw (z + cs.length + cs2.length) with
            | inl e =>
              rw [er3] at i1
              obtain ⟨he, A2, B2, G3, R3, n1, n2⟩ := i1
              exact ⟨he, A2, B2, G3, R3, m1.trans n1, n2⟩
            | inr L =>
              rw [er3] at i1
              obtain ⟨A2, B2, G3, R3, n1, n2, n3, n4, n5, n6, n7⟩ := i1
              have e4 : (cs ++ cs2).length = cs.length + cs2.length := List.length_append
              have ek : 11 - (k + 1) + 1 = 11 - k := by omega
              refine ⟨A2, B2, G3, R3, m1.trans n1, ?_, ?_, ?_, ?_, ?_, ?_⟩
              · rw [n2]
                show nZ (11 - k + L.length) = nZ (11 - (k + 1) + (L.length + 1))
                congr 1
                omega
              · rw [n3, stepsOf_cons, List.length_append]
                show nZ (z + cs.length + cs2.length + (stepsOf L).length) = nZ (z + ((cs ++ cs2).length + (stepsOf L).length))
                rw [e4]
                congr 1
                omega
              · intro j hj
                exact (n4 j (by omega)).trans (g4 j hj)
              · rw [stepsOf_cons]
                show AtI R3 z ((cs ++ cs2) ++ stepsOf L)
                refine AtI_app _ _ z (AtI_congr _ z (fun j h1 h2 => n4 j (by rw [e4] at h2; omega)) g5) ?_
                rw [e4, ← Nat.add_assoc]
                exact n5
              · intro i hi
                obtain ⟨x1, x2⟩ := n6 i (by omega)
                exact ⟨x1.trans (upS_ne (by omega)), x2.trans (upS_ne (by omega))⟩
              · obtain ⟨x1, x2⟩ := n6 (11 - (k + 1)) (by omega)
                refine ⟨x1.trans upS_at, ?_, ?_⟩
                · rw [x2, upS_at]
                  show nZ (z + cs.length + cs2.length) = nZ (z + (cs ++ cs2).length)
                  rw [e4, Nat.add_assoc]
                · show HdI A2 B2 (11 - (k + 1) + 1) (z + (cs ++ cs2).length) L
                  rw [ek, e4, ← Nat.add_assoc]
                  exact n7
          · rw [if_neg c2]
            exact ⟨r2, _, _, G, R, t3 c1 c2, g2.1.1⟩

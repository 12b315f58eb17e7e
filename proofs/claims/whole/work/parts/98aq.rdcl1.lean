/-! ===== clauses and laws: the class ===== -/
def bs (h : QH) (A B : Nat → Int32) : QH := hsA (hsA h 33 A) 34 B
theorem bs_X {h : QH} {T : Nat → Nat} {n : Nat} (X : CRX h T n) (A B : Nat → Int32) : CRX (bs h A B) T n := by
  obtain ⟨x1, x2, x3, x4, w1, w2, w3⟩ := X
  have e : ∀ b j, b ≠ 33 → b ≠ 34 → hI (bs h A B) b j = hI h b j := fun b j h1 h2 => by
    unfold bs
    rw [hA_ne h2, hA_ne h1]
  refine ⟨x1, x2, x3, ?_, ?_, ?_, ?_⟩
  · intro i hi
    rw [e 28 i (by decide) (by decide)]
    exact x4 i hi
  · intro j hj
    rw [e 61 j (by decide) (by decide)]
    exact w1 j hj
  · intro j hj
    rw [e 31 j (by decide) (by decide)]
    exact w2 j hj
  · intro j hj
    rw [e 32 j (by decide) (by decide)]
    exact w3 j hj
theorem bs_33 {h : QH} {A B F S : Nat → Int32} {i : Nat} {v : Int32} : hsI (st2' (bs h A B) F S) 33 i v = st2' (bs h (upS A i v) B) F S := by
  refine qh_ext rfl rfl rfl ?_ rfl
  intro b j
  unfold st2' bs upS
  simp only [hI_si, hI_sA]
  by_cases c1 : b = 35
  · subst c1
    simp
  · by_cases c2 : b = 29
    · subst c2
      simp
    · by_cases c3 : b = 34
      · subst c3
        simp
      · by_cases c4 : b = 33
        · subst c4
          by_cases c5 : j = i
          · simp [c5]
          · simp [c5]
        · simp [c1, c2, c3, c4]
theorem bs_34 {h : QH} {A B F S : Nat → Int32} {i : Nat} {v : Int32} : hsI (st2' (bs h A B) F S) 34 i v = st2' (bs h A (upS B i v)) F S := by
  refine qh_ext rfl rfl rfl ?_ rfl
  intro b j
  unfold st2' bs upS
  simp only [hI_si, hI_sA]
  by_cases c1 : b = 35
  · subst c1
    simp
  · by_cases c2 : b = 29
    · subst c2
      simp
    · by_cases c3 : b = 34
      · subst c3
        by_cases c5 : j = i
        · simp [c5]
        · simp [c5]
      · by_cases c4 : b = 33
        · subst c4
          simp
        · simp [c1, c2, c3, c4]
/-- behind a head: the test, the clause is kept -/
theorem c115_54 {h : QH} {T : Nat → Nat} {n N : Nat} (X : CRX h T n) (w : NN T n N) (d p l z kc hd : Nat) (A B F S : Nat → Int32) (hp : p ≤ N) (hl : l ≤ 50) (hz : z + (N - p) + 1 ≤ 412) (hkc : kc < 12) (ps : PS T n F p l 0 z) (f8 : F 8 = nZ kc) : (∀ e, RI (CT T n) (VT T n) N p l z = .inl e → e ≤ N) ∧ (match RI (CT T n) (VT T n) N p l z with
    | .inl e => ∃ G R, qbig (d + 61) 115 54 [sR (some 29), sI (nZ hd)] [] (st2' (bs h A B) F S) = some (some (qI (nZ 0)), st2' (bs h A B) G R) ∧ G 0 = nZ (ts T n e)
    | .inr v => ∃ G R, qbig (d + 61) 115 54 [sR (some 29), sI (nZ hd)] [] (st2' (bs h A B) F S) = some (some (qI (nZ 1)), st2' (bs h (upS A kc (nZ hd)) (upS B kc (nZ (z + v.2.2.1.length)))) G R) ∧ PS T n G v.1 v.2.1 0 (z + v.2.2.1.length) ∧ G 8 = nZ (kc + 1) ∧ (∀ j, j < z → R j = S j) ∧ AtI R z v.2.2.1) := by
  have H := X.1
  have hn := X.2.1
  have hNn := w.1
  have hT : ∀ i, i < n → T i < 256 := fun i hi => (X.2.2.2.1 i (by omega)).1
  have z10 : (nZ 1 = nZ 0) = False := by decide
  have Xb := bs_X X A B
  have Hb : Sh (bs h A B) := H
  have hkl := kdT_lt w hT hp
  have k4 := kdT_iff (k := p) w hT hp kq4 (by decide) (by decide)
  have f4 := ps.1.2.2.2.1
  have fin : ∀ (G R : Nat → Int32) (z2 : Nat), z2 ≤ 412 → G 8 = nZ kc → G 9 = nZ z2 → ((qgr 4 12 29 (st2' (bs h A B) G R)).bind fun o5 => (qgi 4 8 29 (st2' (bs h A B) G R)).bind fun x6 => o5.bind fun p7 => (qsi 0 p7 x6 (nZ hd) (st2' (bs h A B) G R)).bind fun h8 => (qgr 4 13 29 h8).bind fun o9 => (qgi 4 8 29 h8).bind fun x10 => (qgi 4 9 29 h8).bind fun x11 => o9.bind fun p12 => (qsi 0 p12 x10 x11 h8).bind fun h13 => (qgi 4 8 29 h13).bind fun x14 => (qpi 4 8 29 (x14 + 1) h13).bind fun h15 => if (1 : Int32) = 0 ∨ (1 : Int32) = 1 then some (some (qI 1), h15) else none) = some (some (qI (nZ 1)), st2' (bs h (upS A kc (nZ hd)) (upS B kc (nZ z2))) (upS G 8 (nZ (kc + 1))) R) := by
    intro G R z2 hz2 g8 g9
    have Hc : ∀ A B, Sh (bs h A B) := fun A B => H
    have HA : Sh (bs h (upS A kc (nZ hd)) B) := H
    have HB : Sh (bs h (upS A kc (nZ hd)) (upS B kc (nZ z2))) := H
    simp (disch := first | assumption | omega | (simp only [Sh_si, Sh_sA, Sh_s2]; assumption)) only [s2_29, g8, g9, bs_33, bs_34, s2_s29, A0, l0, A1, l1, A2, l2, A3, l3, A4, l4, A7, l7, A8, l8, g10_0, g10_1, g10_2, g10_3, g10_4, g10_5, g10_6, g10_7, g10_8, g10_9, p10_10, g10_10, p10_11, g10_11, p10_12, g10_12, p10_13, g10_13, ck10, g11_0, g11_1, g11_2, g11_3, p11_4, g11_4, p11_5, g11_5, ck11, p12_0, g12_0, p12_1, g12_1, g12_2, g12_3, g12_4, g12_5, ck12, A13, S13, l13, A14, S14, l14, A15, S15, l15, A16, S16, l16, p17_0, g17_0, g17_1, ck17, A18, S18, l18, p19_0, g19_0, g19_1, g19_2, g19_3, g19_4, g19_5, ck19, A20, S20, l20, A21, S21, l21, A22, S22, l22, A23, S23, l23, A24, S24, l24, R25, R26, p27_0, g27_0, g27_1, ck27, A28, S28, l28, p29_0, g29_0, g29_1, p29_2, g29_2, p29_3, g29_3, p29_4, g29_4, p29_5, g29_5, p29_6, g29_6, p29_7, g29_7, p29_8, g29_8, p29_9, g29_9, g29_10, g29_11, g29_12, g29_13, g29_14, ck29, A30, S30, l30, A31, S31, l31, A32, S32, l32, A33, S33, l33, A34, S34, l34, A35, S35, l35, g36_0, g36_1, g36_2, ck36, A37, S37, l37, A38, S38, l38, A39, S39, l39, g40_0, g40_1, g40_2, g40_3, p40_4, g40_4, ck40, A41, S41, l41, A42, S42, l42, A43, S43, l43, A44, S44, l44, p45_0, g45_0, g45_1, p45_2, g45_2, p45_3, g45_3, p45_4, g45_4, p45_5, g45_5, p45_6, g45_6, p45_7, g45_7, g45_8, g45_9, g45_10, g45_11, g45_12, ck45, A46, S46, l46, A47, S47, l47, A48, S48, l48, A49, S49, l49, A50, S50, l50, A51, S51, l51, B52_0, g52_0, p52_1, g52_1, p52_2, g52_2, g52_3, p52_4, g52_4, ck52, A53, S53, l53, A54, S54, l54, A55, S55, l55, L0, L1, L2, L3, L4, L5, L6, L7, L8, L9, L10, L11, L12, L13, L14, L15, L16, L17, L18, L19, L20, L21, L22, L23, L24, L25, L26, L27, L28, L29, L30, L31, L32, L33, L34, L35, L36, L37, L38, L39, L40, L41, L42, L43, L44, L45, L46, L47, L48, L49, L50, L52, L57, L60, L90, L91, L93, L97, L99, L100, L101, L122, L240, L255, L256, L400, L401, L408, L409, L410, L411, L412, L413, L414, L420, L1000, L1001, L1103, L1200, L1240, L2820, L5220, L7936, L10440, L12345, L1000000, L1000003, L1073741823, L59, L61, L62, L200, nd_lt_t, nd_lt_f, nd_le_t, nd_le_f, nd_eq_f, nZ_add, nZ_mul, nZ_sub, nZ_lt, nZ_le, nZ_eq, nZ_nat, nZ_div, nZ_rem, nZ_and, nZ_or, and31, nZ_shl, nZ_shr, nZ_m1, nZ_nneg, nZ_nneg', nZ_nlt, nZ_ltn, inR_lt, Nat.not_lt_zero, ob_some, jI, jL, jR, jV, rI0, rI1, rIv, if_true, if_false, ↓reduceIte, Nat.reduceAdd, Nat.reduceMul, Nat.reduceSub, Nat.reduceLT, Nat.reduceEqDiff, Nat.reduceLeDiff, Nat.zero_add, Nat.add_zero, Nat.zero_mul, Nat.mul_zero, Nat.one_mul, Nat.mul_one, and_true, true_and, false_and, and_false, or_true, true_or, or_false, false_or, not_true_eq_false, not_false_eq_true, eq_self, bI_0, bI_1, em_b, hI_ne, hI_at, hA_ne, hA_at, Sh_si, Sh_sA]
  unfold RI
  by_cases c1 : cAt (CT T n) N p = 5
  · rw [if_pos c1]
    have hp1 := C_pos (C := CT T n) (N := N) (k := p) (by omega)
    rw [eq_true c1] at k4
    have k4' : kdT T n p = 4 := of_eq_true k4
    rw [k4'] at f4
    have hne := P_fuel (C := CT T n) (V := VT T n) (N := N) (by omega) 5000 8 (p + 1) l 0 z 0 (fun _ => none) (by decide) (by decide) (by decide) (by omega) (by omega)
    obtain ⟨b1, o1⟩ := CM Xb w 5000 8 (p + 1) l 0 z 0 (fun _ => none) (by decide) (by decide) (by decide) (by omega) hl (by decide) (by omega) hne
    refine ⟨b1, ?_⟩
    obtain ⟨G1, a1, a2, a3⟩ := c106 Xb (d + 57) p F S ps.1 (w.2.2 p hp1)
    have o2 := o1 (d + 60) 0 G1 S (by show 4 * (9 - 0) + 12 ≤ d + 60; omega) (Nat.zero_le _) (ps.adv a2 a3)
    cases er : P (CT T n) (VT T n) N 5000 8 (p + 1) l 0 z 0 (fun _ => none) with
    | inl e =>
      rw [er] at o2
      obtain ⟨G, R, z', g1, g2, g3⟩ := o2
      have g1' : qcl (d + 60) 121 [qR (some 29)] (st2' (bs h A B) G1 S) = some (some (qI (nZ 0)), st2' (bs h A B) G R) := g1
      refine ⟨G, R, ?_, g2⟩
      rw [E115_54]
      simp (disch := first | assumption | omega | (simp only [Sh_si, Sh_sA, Sh_s2]; assumption)) only [s2_29, f4, a1, g1', A0, l0, A1, l1, A2, l2, A3, l3, A4, l4, A7, l7, A8, l8, g10_0, g10_1, g10_2, g10_3, g10_4, g10_5, g10_6, g10_7, g10_8, g10_9, p10_10, g10_10, p10_11, g10_11, p10_12, g10_12, p10_13, g10_13, ck10, g11_0, g11_1, g11_2, g11_3, p11_4, g11_4, p11_5, g11_5, ck11, p12_0, g12_0, p12_1, g12_1, g12_2, g12_3, g12_4, g12_5, ck12, A13, S13, l13, A14, S14, l14, A15, S15, l15, A16, S16, l16, p17_0, g17_0, g17_1, ck17, A18, S18, l18, p19_0, g19_0, g19_1, g19_2, g19_3, g19_4, g19_5, ck19, A20, S20, l20, A21, S21, l21, A22, S22, l22, A23, S23, l23, A24, S24, l24, R25, R26, p27_0, g27_0, g27_1, ck27, A28, S28, l28, p29_0, g29_0, g29_1, p29_2, g29_2, p29_3, g29_3, p29_4, g29_4, p29_5, g29_5, p29_6, g29_6, p29_7, g29_7, p29_8, g29_8, p29_9, g29_9, g29_10, g29_11, g29_12, g29_13, g29_14, ck29, A30, S30, l30, A31, S31, l31, A32, S32, l32, A33, S33, l33, A34, S34, l34, A35, S35, l35, g36_0, g36_1, g36_2, ck36, A37, S37, l37, A38, S38, l38, A39, S39, l39, g40_0, g40_1, g40_2, g40_3, p40_4, g40_4, ck40, A41, S41, l41, A42, S42, l42, A43, S43, l43, A44, S44, l44, p45_0, g45_0, g45_1, p45_2, g45_2, p45_3, g45_3, p45_4, g45_4, p45_5, g45_5, p45_6, g45_6, p45_7, g45_7, g45_8, g45_9, g45_10, g45_11, g45_12, ck45, A46, S46, l46, A47, S47, l47, A48, S48, l48, A49, S49, l49, A50, S50, l50, A51, S51, l51, B52_0, g52_0, p52_1, g52_1, p52_2, g52_2, g52_3, p52_4, g52_4, ck52, A53, S53, l53, A54, S54, l54, A55, S55, l55, L0, L1, L2, L3, L4, L5, L6, L7, L8, L9, L10, L11, L12, L13, L14, L15, L16, L17, L18, L19, L20, L21, L22, L23, L24, L25, L26, L27, L28, L29, L30, L31, L32, L33, L34, L35, L36, L37, L38, L39, L40, L41, L42, L43, L44, L45, L46, L47, L48, L49, L50, L52, L57, L60, L90, L91, L93, L97, L99, L100, L101, L122, L240, L255, L256, L400, L401, L408, L409, L410, L411, L412, L413, L414, L420, L1000, L1001, L1103, L1200, L1240, L2820, L5220, L7936, L10440, L12345, L1000000, L1000003, L1073741823, L59, L61, L62, L200, nd_lt_t, nd_lt_f, nd_le_t, nd_le_f, nd_eq_f, nZ_add, nZ_mul, nZ_sub, nZ_lt, nZ_le, nZ_eq, nZ_nat, nZ_div, nZ_rem, nZ_and, nZ_or, and31, nZ_shl, nZ_shr, nZ_m1, nZ_nneg, nZ_nneg', nZ_nlt, nZ_ltn, inR_lt, Nat.not_lt_zero, ob_some, jI, jL, jR, jV, rI0, rI1, rIv, if_true, if_false, ↓reduceIte, Nat.reduceAdd, Nat.reduceMul, Nat.reduceSub, Nat.reduceLT, Nat.reduceEqDiff, Nat.reduceLeDiff, Nat.zero_add, Nat.add_zero, Nat.zero_mul, Nat.mul_zero, Nat.one_mul, Nat.mul_one, and_true, true_and, false_and, and_false, or_true, true_or, or_false, false_or, not_true_eq_false, not_false_eq_true, eq_self, bI_0, bI_1, em_b, hI_ne, hI_at, hA_ne, hA_at, Sh_si, Sh_sA]
    | inr v =>
      obtain ⟨p2, lw, cs2, dt⟩ := v
      rw [er] at o2
      obtain ⟨q1, q2, q3, q4⟩ := PB _ _ _ _ _ _ _ _ _ _ _ _ er (by decide) (by decide) (by decide) (by omega)
      obtain ⟨G, R, g1, g2, g3, g4, g5, g6, g7, g8⟩ := o2
      have g1' : qcl (d + 60) 121 [qR (some 29)] (st2' (bs h A B) G1 S) = some (some (qI (nZ 1)), st2' (bs h A B) G R) := g1
      have hf := fin G R (z + cs2.length) (by omega) (g6.trans (a3.2.2.2.1.trans f8)) g5
      refine ⟨upS G 8 (nZ (kc + 1)), R, ?_, ⟨?_, ?_, ?_, ?_⟩, upS_at, g7, g8⟩
      · have hs1 : qbig (d + 61) 115 54 [sR (some 29), sI (nZ hd)] [] (st2' (bs h A B) F S) = ((qgr 4 12 29 (st2' (bs h A B) G R)).bind fun o5 => (qgi 4 8 29 (st2' (bs h A B) G R)).bind fun x6 => o5.bind fun p7 => (qsi 0 p7 x6 (nZ hd) (st2' (bs h A B) G R)).bind fun h8 => (qgr 4 13 29 h8).bind fun o9 => (qgi 4 8 29 h8).bind fun x10 => (qgi 4 9 29 h8).bind fun x11 => o9.bind fun p12 => (qsi 0 p12 x10 x11 h8).bind fun h13 => (qgi 4 8 29 h13).bind fun x14 => (qpi 4 8 29 (x14 + 1) h13).bind fun h15 => if (1 : Int32) = 0 ∨ (1 : Int32) = 1 then some (some (qI 1), h15) else none) := by
          rw [E115_54]
          simp (disch := first | assumption | omega | (simp only [Sh_s2]; assumption)) only [g29_4, ob_some, s2_29, f4, L4, if_true, a1, jV, g1', jI, L0, z10, if_false]
        rw [hs1]
        exact hf
      · exact g2.of (upS_ne (by decide)) (upS_ne (by decide)) (upS_ne (by decide)) (upS_ne (by decide)) (upS_ne (by decide))
      · rw [upS_ne (by decide)]
        exact g3
      · rw [upS_ne (by decide)]
        exact g4
      · rw [upS_ne (by decide)]
        exact g5
  · rw [if_neg c1]
    rw [eq_false c1] at k4
    refine ⟨fun e he => (by cases he), ?_⟩
    have lv1 := c111 Hb (d + 59) 17 1 z F S (by decide) (by decide) ps.2.2.2 (by omega)
    have hf := fin (upS F 9 (nZ (z + 1))) (upS S z (nZ (17 + 32 * 1))) (z + 1) (by omega) (by rw [upS_ne (by decide)]; exact f8) upS_at
    refine ⟨upS (upS F 9 (nZ (z + 1))) 8 (nZ (kc + 1)), upS S z (nZ (17 + 32 * 1)), ?_, ⟨?_, ?_, ?_, ?_⟩, upS_at, ?_, ⟨upS_at, trivial⟩⟩
    · have hs1 : qbig (d + 61) 115 54 [sR (some 29), sI (nZ hd)] [] (st2' (bs h A B) F S) = ((qgr 4 12 29 (st2' (bs h A B) (upS F 9 (nZ (z + 1))) (upS S z (nZ (17 + 32 * 1))))).bind fun o5 => (qgi 4 8 29 (st2' (bs h A B) (upS F 9 (nZ (z + 1))) (upS S z (nZ (17 + 32 * 1))))).bind fun x6 => o5.bind fun p7 => (qsi 0 p7 x6 (nZ hd) (st2' (bs h A B) (upS F 9 (nZ (z + 1))) (upS S z (nZ (17 + 32 * 1))))).bind fun h8 => (qgr 4 13 29 h8).bind fun o9 => (qgi 4 8 29 h8).bind fun x10 => (qgi 4 9 29 h8).bind fun x11 => o9.bind fun p12 => (qsi 0 p12 x10 x11 h8).bind fun h13 => (qgi 4 8 29 h13).bind fun x14 => (qpi 4 8 29 (x14 + 1) h13).bind fun h15 => if (1 : Int32) = 0 ∨ (1 : Int32) = 1 then some (some (qI 1), h15) else none) := by
        have lv1' : qcl (d + 60) 111 [qR (some 29), qI 17, qI 1] (st2' (bs h A B) F S) = some (none, st2' (bs h A B) (upS F 9 (nZ (z + 1))) (upS S z (nZ (17 + 32 * 1)))) := lv1
        rw [E115_54]
        simp (disch := first | assumption | omega | (simp only [Sh_s2]; assumption)) only [g29_4, ob_some, s2_29, f4, L4, nZ_eq, k4, if_false, lv1', jV]
      rw [hs1]
      exact hf
    · exact ps.1.of (by rw [upS_ne (by decide), upS_ne (by decide)]) (by rw [upS_ne (by decide), upS_ne (by decide)]) (by rw [upS_ne (by decide), upS_ne (by decide)]) (by rw [upS_ne (by decide), upS_ne (by decide)]) (by rw [upS_ne (by decide), upS_ne (by decide)])
    · rw [upS_ne (by decide), upS_ne (by decide)]
      exact ps.2.1
    · rw [upS_ne (by decide), upS_ne (by decide)]
      exact ps.2.2.1
    · rw [upS_ne (by decide), upS_at]
      rfl
    · intro j hj
      exact upS_ne (by omega)

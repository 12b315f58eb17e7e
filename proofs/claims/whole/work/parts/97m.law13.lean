/-! ===== what a law tells: the class ===== -/
theorem AtS_get (lw : List Nat) : ∀ (l l1 : List Nat), AtS (fun j => (l1 ++ (l ++ lw)).getD j 0) l1.length l
  | [], l1 => trivial
  | x :: l, l1 => by
    have e : l1 ++ ((x :: l) ++ lw) = (l1 ++ [x]) ++ (l ++ lw) := by simp
    refine ⟨?_, ?_⟩
    · show (l1 ++ ((x :: l) ++ lw)).getD l1.length 0 = x
      simp [List.getD_eq_getElem?_getD]
    · have := AtS_get lw l (l1 ++ [x])
      rw [List.length_append] at this
      rw [e]
      exact this
/-- a law of the class -/
def LO (h : QH) (a : Nat) (L : List CL) : Prop := ∃ x y w, (79 ≤ a ∧ a < hN h ∧ hT h a = 17 ∧ hL h a = 3) ∧ (hR h a 0 = some x ∧ hR h a 1 = some y ∧ hR h a 2 = some w) ∧ (79 ≤ x ∧ x < hN h ∧ hT h x = 0 ∧ hL h x = L.length) ∧ (79 ≤ y ∧ y < hN h ∧ hT h y = 0 ∧ hL h y = L.length) ∧ (79 ≤ w ∧ w < hN h ∧ hT h w = 0 ∧ hL h w = (stepsOf L).length) ∧ (∀ La c Lb, L = La ++ c :: Lb → hI h x La.length = nZ (c.1 - 1) ∧ hI h y La.length = nZ ((stepsOf La).length + c.2.1.length)) ∧ (∀ j, j < (stepsOf L).length → hI h w j = nZ ((stepsOf L).getD j 0))
/-- it was read -/
def LR (L : List CL) : Prop := ∃ C V N, N ≤ 400 ∧ RL C V N 12 0 0 0 = .inr L
theorem LR_b {L : List CL} (R : LR L) : 1 ≤ L.length ∧ L.length ≤ 12 ∧ (stepsOf L).length ≤ 412 ∧ ∀ j, (stepsOf L).getD j 0 < 100000 := by
  obtain ⟨C, V, N, hNe, e⟩ := R
  obtain ⟨h1, h2, h3, h4, h5⟩ := RL_b _ _ _ _ _ e (by omega) (by omega)
  refine ⟨h1, h2, by omega, ?_⟩
  intro j
  rw [List.getD_eq_getElem?_getD]
  cases e : (stepsOf L)[j]? with
  | none => exact (by decide : 0 < 100000)
  | some x =>
    have := h4 x (List.mem_of_getElem? e)
    show x < 100000
    omega
theorem LO.fr {h k : QH} {a : Nat} {L : List CL} (O : LO h a L) (hN' : hN h ≤ hN k) (e1 : ∀ b, 79 ≤ b → b < hN h → k.2.2.1 b = h.2.2.1 b) (e2 : ∀ b j, 79 ≤ b → b < hN h → hI k b j = hI h b j) (e3 : ∀ b j, 79 ≤ b → b < hN h → hR k b j = hR h b j) : LO k a L := by
  obtain ⟨x, y, w, ⟨a1, a2, a3, a4⟩, ⟨b1, b2, b3⟩, ⟨x1, x2, x3, x4⟩, ⟨y1, y2, y3, y4⟩, ⟨w1, w2, w3, w4⟩, c1, c2⟩ := O
  have tl : ∀ b, 79 ≤ b → b < hN h → hT k b = hT h b ∧ hL k b = hL h b := fun b h1 h2 => by
    unfold hT hL
    rw [e1 b h1 h2]
    exact ⟨rfl, rfl⟩
  refine ⟨x, y, w, ⟨a1, by omega, (tl a a1 a2).1.trans a3, (tl a a1 a2).2.trans a4⟩, ⟨(e3 a 0 a1 a2).trans b1, (e3 a 1 a1 a2).trans b2, (e3 a 2 a1 a2).trans b3⟩, ⟨x1, by omega, (tl x x1 x2).1.trans x3, (tl x x1 x2).2.trans x4⟩, ⟨y1, by omega, (tl y y1 y2).1.trans y3, (tl y y1 y2).2.trans y4⟩, ⟨w1, by omega, (tl w w1 w2).1.trans w3, (tl w w1 w2).2.trans w4⟩, ?_, ?_⟩
  · intro La c Lb hLe
    rw [e2 x _ x1 x2, e2 y _ y1 y2]
    exact c1 La c Lb hLe
  · intro j hj
    rw [e2 w _ w1 w2]
    exact c2 j hj
theorem qgr_of {h : QH} {c k a : Nat} {v : Option Nat} (h1 : a < hN h) (h2 : hT h a = 16 + c) (h3 : k < hL h a) (h4 : hR h a k = v) : qgr c k a h = some v := by
  unfold qgr
  rw [if_pos ⟨h1, h2, h3⟩, h4]
theorem qai_of {h : QH} {a j : Nat} (h1 : a < hN h) (h2 : hT h a = 0) (h3 : j < hL h a) (hb : j < 2147483648) : qai 0 a (nZ j) h = some (hI h a j) := by
  unfold qai
  rw [nZ_nat hb, if_pos ⟨h1, h2, z_nn hb, h3⟩]
theorem qal_of {h : QH} {a : Nat} (h1 : a < hN h) (h2 : hT h a = 0) : qal a h = some (nZ (hL h a)) := by
  unfold qal
  rw [if_pos ⟨h1, by omega⟩]
  rfl
/-- a clause holds or not, and tells -/
theorem c150 {h : QH} {a : Nat} {L : List CL} {q : Nat → Nat} (H : Sh h) (O : LO h a L) (R : LR L) (hq : ∀ j, j < 9 → hI h 37 j = nZ (q j) ∧ q j < 1000) (d : Nat) (S : Nat → Int32) (La : List CL) (c : CL) (Lb : List CL) (hLe : L = La ++ c :: Lb) : ∃ S', (match hol c (fun i => q i) with
    | some x => qcl (d + 2) 150 [qR (some 36), qR (some a), qI (nZ La.length)] (hsA h 38 S) = some (some (qI (nZ 1)), hsA h 38 S') ∧ S' 0 = iZ x ∧ -1000000000 ≤ x ∧ x ≤ 1000000000
    | none => qcl (d + 2) 150 [qR (some 36), qR (some a), qI (nZ La.length)] (hsA h 38 S) = some (some (qI (nZ 0)), hsA h 38 S')) := by
  obtain ⟨r1, r2, r3, r4⟩ := LR_b R
  obtain ⟨C, V, N, hNe, eR⟩ := R
  obtain ⟨_, _, _, _, hsp⟩ := RL_b _ _ _ _ _ eR (by omega) (by omega)
  obtain ⟨pos, lv, p, l, cs, dn, p2, lw, cs2, dt, hpos, hlv, eh, ei, ec⟩ := hsp La c Lb hLe
  rw [Nat.zero_add] at eh ei
  obtain ⟨x, y, w, ⟨a1, a2, a3, a4⟩, ⟨b1, b2, b3⟩, ⟨x1, x2, x3, x4⟩, ⟨y1, y2, y3, y4⟩, ⟨w1, w2, w3, w4⟩, c1, c2⟩ := O
  obtain ⟨g1, g2, g3, g4, g5, g6, g7⟩ := RH_b eh hlv
  have X : VX h a w (stepsOf L).length (fun j => (stepsOf L).getD j 0) q := ⟨H, ⟨a2, a3, a4, b3⟩, ⟨w1, w2, w3, w4⟩, r3, fun j hj => ⟨c2 j hj, r4 j⟩, hq⟩
  have eL : stepsOf L = stepsOf La ++ (c.2.1 ++ stepsOf Lb) := by
    rw [hLe, stepsOf_app, stepsOf_cons]
  have hcs : c.2.1 = cs ++ cs2 := by rw [ec]
  have hlen : (stepsOf L).length = (stepsOf La).length + (c.2.1.length + (stepsOf Lb).length) := by
    rw [eL, List.length_append, List.length_append]
  have hclen : c.2.1.length = cs.length + cs2.length := by rw [hcs, List.length_append]
  have hat : AtS (fun j => (stepsOf L).getD j 0) (stepsOf La).length c.2.1 := by
    rw [eL]
    exact AtS_get (stepsOf Lb) c.2.1 (stepsOf La)
  rw [hcs] at hat
  obtain ⟨at1, at2⟩ := AtS_app cs cs2 _ hat
  have hl1 : La.length < L.length := by
    rw [hLe, List.length_append, List.length_cons]
    omega
  -- the two values
  have rsum : sm (dn fun i => q i) ∧ RR h (dn fun i => q i) 0 S (vG d h a ((stepsOf La).length + c.2.1.length) (stepsOf La).length 0 S) (fun S' => vG d h a ((stepsOf La).length + c.2.1.length) ((stepsOf La).length + cs.length) 1 S') := by
    unfold RH at eh
    by_cases k1 : cAt C N pos = 1 ∨ cAt C N pos = 2 ∨ cAt C N pos = 3
    · rw [if_pos k1] at eh
      obtain ⟨⟨i1, i2, i3, i4, i5⟩, i6⟩ := CE X d 5000 3 (pos + 1) lv 0 _ 0 _ p l cs dn eh (by decide) (by decide) hlv (by omega) (by omega)
      exact ⟨i4 (by decide), (i6 0 S _ at1 (by omega) (by omega)).1 (by decide) (by omega)⟩
    · rw [if_neg k1] at eh
      by_cases k2 : cAt C N pos = 4
      · rw [if_pos k2] at eh
        cases eh
        refine ⟨fun x hx => by cases hx; decide, ?_⟩
        have hle : ((stepsOf La).length : Nat) < (stepsOf La).length + c.2.1.length := by
          rw [hclen]
          simp only [List.length_cons, List.length_nil]
          omega
        rw [v_num X d _ _ 0 1 S (by omega) hle (by decide) (by decide) at1.1]
        exact ⟨_, rfl, upS_at, fun j hj => by omega⟩
      · rw [if_neg k2] at eh
        cases eh
  have rtest : ∀ S, b01 (dt fun i => q i) ∧ RR h (dt fun i => q i) 1 S (vG d h a ((stepsOf La).length + c.2.1.length) ((stepsOf La).length + cs.length) 1 S) (fun S' => vG d h a ((stepsOf La).length + c.2.1.length) ((stepsOf La).length + cs.length + cs2.length) 2 S') := by
    intro S
    unfold RI at ei
    by_cases k1 : cAt C N p = 5
    · rw [if_pos k1] at ei
      obtain ⟨⟨i1, i2, i3, i4, i5⟩, i6⟩ := CE X d 5000 8 (p + 1) l 0 _ 0 _ p2 lw cs2 dt ei (by decide) (by decide) g5 (by omega) (by omega)
      exact ⟨i5 (by decide), (i6 1 S _ at2 (by omega) (by omega)).1 (by decide) (by omega)⟩
    · rw [if_neg k1] at ei
      cases ei
      refine ⟨fun x hx => by cases hx; exact Or.inr rfl, ?_⟩
      have hle : (stepsOf La).length + cs.length < (stepsOf La).length + c.2.1.length := by
        rw [hclen]
        simp only [List.length_cons, List.length_nil]
        omega
      rw [v_num X d _ _ 1 1 S (by omega) hle (by decide) (by decide) at2.1]
      exact ⟨_, rfl, upS_at, fun j hj => upS_ne (by omega)⟩
  -- the start
  have HS : Sh (hsA h 38 S) := H
  have e1 : ∀ S, qgr 1 1 a (hsA h 38 S) = some (some y) := fun S => qgr_of (h := hsA h 38 S) a2 a3 (by show 1 < hL h a; omega) b2
  have ey : qai 0 y (nZ La.length) (hsA h 38 S) = some (nZ ((stepsOf La).length + c.2.1.length)) := by
    rw [qai_of (h := hsA h 38 S) y2 y3 (by show _ < hL h y; omega) (by omega), hA_ne (by omega), (c1 La c Lb hLe).2]
  have start : qcl (d + 2) 150 [qR (some 36), qR (some a), qI (nZ La.length)] (hsA h 38 S) = vG d h a ((stepsOf La).length + c.2.1.length) (stepsOf La).length 0 S := by
    by_cases l0 : La = []
    · rw [l0] at ey ⊢
      have ey' : qai 0 y (nZ 0) (hsA h 38 S) = some (nZ ((stepsOf ([] : List CL)).length + c.2.1.length)) := ey
      unfold vG
      simp only [List.length_nil]
      simp (disch := first | assumption | omega | (simp only [Sh_si, Sh_sA]; assumption)) only [E150, e1, ey', E150_26, A0, l0, A1, l1, A2, l2, A3, l3, A4, l4, A7, l7, A8, l8, g10_0, g10_1, g10_2, g10_3, g10_4, g10_5, g10_6, g10_7, g10_8, g10_9, p10_10, g10_10, p10_11, g10_11, p10_12, g10_12, p10_13, g10_13, ck10, g11_0, g11_1, g11_2, g11_3, p11_4, g11_4, p11_5, g11_5, ck11, p12_0, g12_0, p12_1, g12_1, g12_2, g12_3, g12_4, g12_5, ck12, A13, S13, l13, A14, S14, l14, A15, S15, l15, A16, S16, l16, p17_0, g17_0, g17_1, ck17, A18, S18, l18, p19_0, g19_0, g19_1, g19_2, g19_3, g19_4, g19_5, ck19, A20, S20, l20, A21, S21, l21, A22, S22, l22, A23, S23, l23, A24, S24, l24, R25, R26, p27_0, g27_0, g27_1, ck27, A28, S28, l28, p29_0, g29_0, g29_1, p29_2, g29_2, p29_3, g29_3, p29_4, g29_4, p29_5, g29_5, p29_6, g29_6, p29_7, g29_7, p29_8, g29_8, p29_9, g29_9, g29_10, g29_11, g29_12, g29_13, g29_14, ck29, A30, S30, l30, A31, S31, l31, A32, S32, l32, A33, S33, l33, A34, S34, l34, A35, S35, l35, g36_0, g36_1, g36_2, ck36, A37, S37, l37, A38, S38, l38, A39, S39, l39, g40_0, g40_1, g40_2, g40_3, p40_4, g40_4, ck40, A41, S41, l41, A42, S42, l42, A43, S43, l43, A44, S44, l44, p45_0, g45_0, g45_1, p45_2, g45_2, p45_3, g45_3, p45_4, g45_4, p45_5, g45_5, p45_6, g45_6, p45_7, g45_7, g45_8, g45_9, g45_10, g45_11, g45_12, ck45, A46, S46, l46, A47, S47, l47, A48, S48, l48, A49, S49, l49, A50, S50, l50, A51, S51, l51, B52_0, g52_0, p52_1, g52_1, p52_2, g52_2, g52_3, p52_4, g52_4, ck52, A53, S53, l53, A54, S54, l54, A55, S55, l55, L0, L1, L2, L3, L4, L5, L6, L7, L8, L9, L10, L11, L12, L13, L14, L15, L16, L17, L18, L19, L20, L21, L22, L23, L24, L25, L26, L27, L28, L29, L30, L31, L32, L33, L34, L35, L36, L37, L38, L39, L40, L41, L42, L43, L44, L45, L46, L47, L48, L49, L50, L52, L57, L60, L90, L91, L93, L97, L99, L100, L101, L122, L240, L255, L256, L400, L401, L408, L409, L410, L411, L412, L413, L414, L420, L1000, L1001, L1103, L1200, L1240, L2820, L5220, L7936, L10440, L12345, L1000000, L1000003, L1073741823, L59, L61, L62, L200, nd_lt_t, nd_lt_f, nd_le_t, nd_le_f, nd_eq_f, nZ_add, nZ_mul, nZ_sub, nZ_lt, nZ_le, nZ_eq, nZ_nat, nZ_div, nZ_rem, nZ_and, nZ_or, and31, nZ_shl, nZ_shr, nZ_m1, nZ_nneg, nZ_nneg', nZ_nlt, nZ_ltn, inR_lt, Nat.not_lt_zero, ob_some, jI, jL, jR, jV, rI0, rI1, rIv, if_true, if_false, ↓reduceIte, Nat.reduceAdd, Nat.reduceMul, Nat.reduceSub, Nat.reduceLT, Nat.reduceEqDiff, Nat.reduceLeDiff, Nat.zero_add, Nat.add_zero, Nat.zero_mul, Nat.mul_zero, Nat.one_mul, Nat.mul_one, and_true, true_and, false_and, and_false, or_true, true_or, or_false, false_or, not_true_eq_false, not_false_eq_true, eq_self, bI_0, bI_1, em_b, hI_ne, hI_at, hA_ne, hA_at, Sh_si, Sh_sA]
      rfl
    · obtain ⟨Lz, c0, hL0⟩ : ∃ Lz c0, La = Lz ++ [c0] := ⟨La.dropLast, La.getLast l0, (List.dropLast_concat_getLast l0).symm⟩
      have hLe' : L = Lz ++ c0 :: (c :: Lb) := by
        rw [hLe, hL0]
        simp
      have hz := (c1 Lz c0 (c :: Lb) hLe').2
      have hl0 : La.length = Lz.length + 1 := by
        rw [hL0, List.length_append]
        rfl
      have hs1 : (stepsOf La).length = (stepsOf Lz).length + c0.2.1.length := by
        rw [hL0, stepsOf_app, List.length_append]
        congr 1
        rw [stepsOf_cons]
        show (c0.2.1 ++ []).length = _
        rw [List.append_nil]
      have ey2 : qai 0 y (nZ (La.length - 1)) (hsA h 38 S) = some (nZ (stepsOf La).length) := by
        rw [qai_of (h := hsA h 38 S) y2 y3 (by show _ < hL h y; omega) (by omega), hA_ne (by omega), show La.length - 1 = Lz.length by omega, hz, hs1]
      have hlb : La.length < 100 := by omega
      have hl1' : 1 ≤ La.length := by omega
      unfold vG
      simp (disch := first | assumption | omega | (simp only [Sh_si, Sh_sA]; assumption)) only [E150, e1, ey, ey2, E150_26, A0, l0, A1, l1, A2, l2, A3, l3, A4, l4, A7, l7, A8, l8, g10_0, g10_1, g10_2, g10_3, g10_4, g10_5, g10_6, g10_7, g10_8, g10_9, p10_10, g10_10, p10_11, g10_11, p10_12, g10_12, p10_13, g10_13, ck10, g11_0, g11_1, g11_2, g11_3, p11_4, g11_4, p11_5, g11_5, ck11, p12_0, g12_0, p12_1, g12_1, g12_2, g12_3, g12_4, g12_5, ck12, A13, S13, l13, A14, S14, l14, A15, S15, l15, A16, S16, l16, p17_0, g17_0, g17_1, ck17, A18, S18, l18, p19_0, g19_0, g19_1, g19_2, g19_3, g19_4, g19_5, ck19, A20, S20, l20, A21, S21, l21, A22, S22, l22, A23, S23, l23, A24, S24, l24, R25, R26, p27_0, g27_0, g27_1, ck27, A28, S28, l28, p29_0, g29_0, g29_1, p29_2, g29_2, p29_3, g29_3, p29_4, g29_4, p29_5, g29_5, p29_6, g29_6, p29_7, g29_7, p29_8, g29_8, p29_9, g29_9, g29_10, g29_11, g29_12, g29_13, g29_14, ck29, A30, S30, l30, A31, S31, l31, A32, S32, l32, A33, S33, l33, A34, S34, l34, A35, S35, l35, g36_0, g36_1, g36_2, ck36, A37, S37, l37, A38, S38, l38, A39, S39, l39, g40_0, g40_1, g40_2, g40_3, p40_4, g40_4, ck40, A41, S41, l41, A42, S42, l42, A43, S43, l43, A44, S44, l44, p45_0, g45_0, g45_1, p45_2, g45_2, p45_3, g45_3, p45_4, g45_4, p45_5, g45_5, p45_6, g45_6, p45_7, g45_7, g45_8, g45_9, g45_10, g45_11, g45_12, ck45, A46, S46, l46, A47, S47, l47, A48, S48, l48, A49, S49, l49, A50, S50, l50, A51, S51, l51, B52_0, g52_0, p52_1, g52_1, p52_2, g52_2, g52_3, p52_4, g52_4, ck52, A53, S53, l53, A54, S54, l54, A55, S55, l55, L0, L1, L2, L3, L4, L5, L6, L7, L8, L9, L10, L11, L12, L13, L14, L15, L16, L17, L18, L19, L20, L21, L22, L23, L24, L25, L26, L27, L28, L29, L30, L31, L32, L33, L34, L35, L36, L37, L38, L39, L40, L41, L42, L43, L44, L45, L46, L47, L48, L49, L50, L52, L57, L60, L90, L91, L93, L97, L99, L100, L101, L122, L240, L255, L256, L400, L401, L408, L409, L410, L411, L412, L413, L414, L420, L1000, L1001, L1103, L1200, L1240, L2820, L5220, L7936, L10440, L12345, L1000000, L1000003, L1073741823, L59, L61, L62, L200, nd_lt_t, nd_lt_f, nd_le_t, nd_le_f, nd_eq_f, nZ_add, nZ_mul, nZ_sub, nZ_lt, nZ_le, nZ_eq, nZ_nat, nZ_div, nZ_rem, nZ_and, nZ_or, and31, nZ_shl, nZ_shr, nZ_m1, nZ_nneg, nZ_nneg', nZ_nlt, nZ_ltn, inR_lt, Nat.not_lt_zero, ob_some, jI, jL, jR, jV, rI0, rI1, rIv, if_true, if_false, ↓reduceIte, Nat.reduceAdd, Nat.reduceMul, Nat.reduceSub, Nat.reduceLT, Nat.reduceEqDiff, Nat.reduceLeDiff, Nat.zero_add, Nat.add_zero, Nat.zero_mul, Nat.mul_zero, Nat.one_mul, Nat.mul_one, and_true, true_and, false_and, and_false, or_true, true_or, or_false, false_or, not_true_eq_false, not_false_eq_true, eq_self, bI_0, bI_1, em_b, hI_ne, hI_at, hA_ne, hA_at, Sh_si, Sh_sA]
  have fin : ∀ S' t', (-1000000000 ≤ t' ∧ t' ≤ 1000000000) → S' 1 = iZ t' → vG d h a ((stepsOf La).length + c.2.1.length) ((stepsOf La).length + cs.length + cs2.length) 2 S' = some (some (qI (nZ (if t' = 0 then 0 else 1))), hsA h 38 S') := by
    intro S' t' ht hS
    have H1 : Sh (hsA h 38 S') := H
    have hb : (stepsOf La).length + c.2.1.length < 100000 := by omega
    unfold vG
    rw [E150_28, hclen, ← Nat.add_assoc]
    rw [hclen, ← Nat.add_assoc] at hb
    by_cases t0 : t' = 0
    · simp (disch := first | assumption | omega | (simp only [Sh_si, Sh_sA]; assumption)) only [hS, iZ_0 ht, eq_true t0, E150_278, E150_279, A0, l0, A1, l1, A2, l2, A3, l3, A4, l4, A7, l7, A8, l8, g10_0, g10_1, g10_2, g10_3, g10_4, g10_5, g10_6, g10_7, g10_8, g10_9, p10_10, g10_10, p10_11, g10_11, p10_12, g10_12, p10_13, g10_13, ck10, g11_0, g11_1, g11_2, g11_3, p11_4, g11_4, p11_5, g11_5, ck11, p12_0, g12_0, p12_1, g12_1, g12_2, g12_3, g12_4, g12_5, ck12, A13, S13, l13, A14, S14, l14, A15, S15, l15, A16, S16, l16, p17_0, g17_0, g17_1, ck17, A18, S18, l18, p19_0, g19_0, g19_1, g19_2, g19_3, g19_4, g19_5, ck19, A20, S20, l20, A21, S21, l21, A22, S22, l22, A23, S23, l23, A24, S24, l24, R25, R26, p27_0, g27_0, g27_1, ck27, A28, S28, l28, p29_0, g29_0, g29_1, p29_2, g29_2, p29_3, g29_3, p29_4, g29_4, p29_5, g29_5, p29_6, g29_6, p29_7, g29_7, p29_8, g29_8, p29_9, g29_9, g29_10, g29_11, g29_12, g29_13, g29_14, ck29, A30, S30, l30, A31, S31, l31, A32, S32, l32, A33, S33, l33, A34, S34, l34, A35, S35, l35, g36_0, g36_1, g36_2, ck36, A37, S37, l37, A38, S38, l38, A39, S39, l39, g40_0, g40_1, g40_2, g40_3, p40_4, g40_4, ck40, A41, S41, l41, A42, S42, l42, A43, S43, l43, A44, S44, l44, p45_0, g45_0, g45_1, p45_2, g45_2, p45_3, g45_3, p45_4, g45_4, p45_5, g45_5, p45_6, g45_6, p45_7, g45_7, g45_8, g45_9, g45_10, g45_11, g45_12, ck45, A46, S46, l46, A47, S47, l47, A48, S48, l48, A49, S49, l49, A50, S50, l50, A51, S51, l51, B52_0, g52_0, p52_1, g52_1, p52_2, g52_2, g52_3, p52_4, g52_4, ck52, A53, S53, l53, A54, S54, l54, A55, S55, l55, L0, L1, L2, L3, L4, L5, L6, L7, L8, L9, L10, L11, L12, L13, L14, L15, L16, L17, L18, L19, L20, L21, L22, L23, L24, L25, L26, L27, L28, L29, L30, L31, L32, L33, L34, L35, L36, L37, L38, L39, L40, L41, L42, L43, L44, L45, L46, L47, L48, L49, L50, L52, L57, L60, L90, L91, L93, L97, L99, L100, L101, L122, L240, L255, L256, L400, L401, L408, L409, L410, L411, L412, L413, L414, L420, L1000, L1001, L1103, L1200, L1240, L2820, L5220, L7936, L10440, L12345, L1000000, L1000003, L1073741823, L59, L61, L62, L200, nd_lt_t, nd_lt_f, nd_le_t, nd_le_f, nd_eq_f, nZ_add, nZ_mul, nZ_sub, nZ_lt, nZ_le, nZ_eq, nZ_nat, nZ_div, nZ_rem, nZ_and, nZ_or, and31, nZ_shl, nZ_shr, nZ_m1, nZ_nneg, nZ_nneg', nZ_nlt, nZ_ltn, inR_lt, Nat.not_lt_zero, ob_some, jI, jL, jR, jV, rI0, rI1, rIv, if_true, if_false, ↓reduceIte, Nat.reduceAdd, Nat.reduceMul, Nat.reduceSub, Nat.reduceLT, Nat.reduceEqDiff, Nat.reduceLeDiff, Nat.zero_add, Nat.add_zero, Nat.zero_mul, Nat.mul_zero, Nat.one_mul, Nat.mul_one, and_true, true_and, false_and, and_false, or_true, true_or, or_false, false_or, not_true_eq_false, not_false_eq_true, eq_self, bI_0, bI_1, em_b, hI_ne, hI_at, hA_ne, hA_at, Sh_si, Sh_sA]
    · simp (disch := first | assumption | omega | (simp only [Sh_si, Sh_sA]; assumption)) only [hS, iZ_0 ht, eq_false t0, E150_278, E150_279, A0, l0, A1, l1, A2, l2, A3, l3, A4, l4, A7, l7, A8, l8, g10_0, g10_1, g10_2, g10_3, g10_4, g10_5, g10_6, g10_7, g10_8, g10_9, p10_10, g10_10, p10_11, g10_11, p10_12, g10_12, p10_13, g10_13, ck10, g11_0, g11_1, g11_2, g11_3, p11_4, g11_4, p11_5, g11_5, ck11, p12_0, g12_0, p12_1, g12_1, g12_2, g12_3, g12_4, g12_5, ck12, A13, S13, l13, A14, S14, l14, A15, S15, l15, A16, S16, l16, p17_0, g17_0, g17_1, ck17, A18, S18, l18, p19_0, g19_0, g19_1, g19_2, g19_3, g19_4, g19_5, ck19, A20, S20, l20, A21, S21, l21, A22, S22, l22, A23, S23, l23, A24, S24, l24, R25, R26, p27_0, g27_0, g27_1, ck27, A28, S28, l28, p29_0, g29_0, g29_1, p29_2, g29_2, p29_3, g29_3, p29_4, g29_4, p29_5, g29_5, p29_6, g29_6, p29_7, g29_7, p29_8, g29_8, p29_9, g29_9, g29_10, g29_11, g29_12, g29_13, g29_14, ck29, A30, S30, l30, A31, S31, l31, A32, S32, l32, A33, S33, l33, A34, S34, l34, A35, S35, l35, g36_0, g36_1, g36_2, ck36, A37, S37, l37, A38, S38, l38, A39, S39, l39, g40_0, g40_1, g40_2, g40_3, p40_4, g40_4, ck40, A41, S41, l41, A42, S42, l42, A43, S43, l43, A44, S44, l44, p45_0, g45_0, g45_1, p45_2, g45_2, p45_3, g45_3, p45_4, g45_4, p45_5, g45_5, p45_6, g45_6, p45_7, g45_7, g45_8, g45_9, g45_10, g45_11, g45_12, ck45, A46, S46, l46, A47, S47, l47, A48, S48, l48, A49, S49, l49, A50, S50, l50, A51, S51, l51, B52_0, g52_0, p52_1, g52_1, p52_2, g52_2, g52_3, p52_4, g52_4, ck52, A53, S53, l53, A54, S54, l54, A55, S55, l55, L0, L1, L2, L3, L4, L5, L6, L7, L8, L9, L10, L11, L12, L13, L14, L15, L16, L17, L18, L19, L20, L21, L22, L23, L24, L25, L26, L27, L28, L29, L30, L31, L32, L33, L34, L35, L36, L37, L38, L39, L40, L41, L42, L43, L44, L45, L46, L47, L48, L49, L50, L52, L57, L60, L90, L91, L93, L97, L99, L100, L101, L122, L240, L255, L256, L400, L401, L408, L409, L410, L411, L412, L413, L414, L420, L1000, L1001, L1103, L1200, L1240, L2820, L5220, L7936, L10440, L12345, L1000000, L1000003, L1073741823, L59, L61, L62, L200, nd_lt_t, nd_lt_f, nd_le_t, nd_le_f, nd_eq_f, nZ_add, nZ_mul, nZ_sub, nZ_lt, nZ_le, nZ_eq, nZ_nat, nZ_div, nZ_rem, nZ_and, nZ_or, and31, nZ_shl, nZ_shr, nZ_m1, nZ_nneg, nZ_nneg', nZ_nlt, nZ_ltn, inR_lt, Nat.not_lt_zero, ob_some, jI, jL, jR, jV, rI0, rI1, rIv, if_true, if_false, ↓reduceIte, Nat.reduceAdd, Nat.reduceMul, Nat.reduceSub, Nat.reduceLT, Nat.reduceEqDiff, Nat.reduceLeDiff, Nat.zero_add, Nat.add_zero, Nat.zero_mul, Nat.mul_zero, Nat.one_mul, Nat.mul_one, and_true, true_and, false_and, and_false, or_true, true_or, or_false, false_or, not_true_eq_false, not_false_eq_true, eq_self, bI_0, bI_1, em_b, hI_ne, hI_at, hA_ne, hA_at, Sh_si, Sh_sA]
  rw [start]
  have ehol : hol c (fun i => q i) = (dn fun i => (q i : Int)).bind fun x => (dt fun i => (q i : Int)).bind fun t => if t = 0 then none else some x := by
    unfold hol
    rw [ec]
  rw [ehol]
  cases ed : dn fun i => (q i : Int) with
  | none =>
    obtain ⟨S', hS'⟩ := RR_none rsum.2 ed
    exact ⟨S', hS'⟩
  | some xv =>
    obtain ⟨S1, s1, s2, s3⟩ := RR_some rsum.2 ed
    have hx := rsum.1 xv ed
    obtain ⟨tb, tr⟩ := rtest S1
    rw [s1]
    simp only [Option.bind_some]
    cases et : dt fun i => (q i : Int) with
    | none =>
      obtain ⟨S', hS'⟩ := RR_none tr et
      exact ⟨S', hS'⟩
    | some t' =>
      obtain ⟨S2, u1, u2, u3⟩ := RR_some tr et
      have ht := sm_b01 tb t' et
      rw [u1, fin S2 t' ht u2]
      simp only [Option.bind_some]
      by_cases t0 : t' = 0
      · rw [if_pos t0, if_pos t0]
        exact ⟨S2, rfl⟩
      · rw [if_neg t0, if_neg t0]
        exact ⟨S2, rfl, (u3 0 (by decide)).trans s2, hx⟩

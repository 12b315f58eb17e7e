/-! ===== what a law says: a reader of tokens that gives steps and meaning ===== -/
/-- a meaning: of what is asked; none: broken -/
abbrev Den : Type := (Nat → Int) → Option Int
def bdd (v : Int) : Option Int := if 1000000000 < v ∨ v < -1000000000 then none else some v
def dAdd (a b : Den) : Den := fun q => (a q).bind fun x => (b q).bind fun y => bdd (x + y)
def dSub (a b : Den) : Den := fun q => (a q).bind fun x => (b q).bind fun y => bdd (x - y)
def dMul (a b : Den) : Den := fun q => (a q).bind fun x => (b q).bind fun y => bdd (x * y)
def dDiv (a b : Den) : Den := fun q => (a q).bind fun x => (b q).bind fun y => if y = 0 then none else bdd (x.tdiv y)
def dCmp (s : Nat) (a b : Den) : Den := fun q => (a q).bind fun x => (b q).bind fun y => some (if (if s = 160 then x < y else if s = 162 then y < x else x = y) then 1 else 0)
def dNot (a : Den) : Den := fun q => (a q).bind fun x => some (1 - x)
def dAnd (a b : Den) : Den := fun q => (a q).bind fun x => if x = 0 then some 0 else b q
def dOr (a b : Den) : Den := fun q => (a q).bind fun x => if x = 0 then b q else some x
/-- the code of a token; behind the last one 0 -/
def cAt (C : Nat → Nat) (N k : Nat) : Nat := if k < N then C k else 0
/-- what was read: where it goes on, how many leaves, steps, meaning; or where it can't go on -/
abbrev Rd : Type := Nat ⊕ (Nat × Nat × List Nat × Den)
def rdB (r : Rd) (f : Nat → Nat → List Nat → Den → Rd) : Rd := match r with
  | .inl e => .inl e
  | .inr (p, lv, cs, dn) => f p lv cs dn
/-- sorts: 0 part, 1 term, 2 rest of a term, 3 sum, 4 rest of a sum, 5 plain, 6 both, 7 rest of both, 8 test, 9 rest of a test -/
def P (C V : Nat → Nat) (N : Nat) : Nat → Nat → Nat → Nat → Nat → Nat → Nat → Den → Rd
  | 0, _, _, _, _, _, _, _ => .inl 100000
  | f + 1, s, pos, lv, dp, z, ng, acc =>
    if s = 0 then
      (if cAt C N pos = 191 then
        (if dp = 8 then .inl pos else
          rdB (P C V N f 3 (pos + 1) lv (dp + 1) z 0 acc) fun p l cs dn => if cAt C N p = 193 then .inr (p + 1, l, cs, dn) else .inl p)
      else if cAt C N pos = 50 ∧ V pos ≤ 1000 then
        (if lv = 50 then .inl pos else .inr (pos + 1, lv + 1, [17 + 32 * V pos], fun _ => some (V pos : Int)))
      else if 9 ≤ cAt C N pos ∧ cAt C N pos ≤ 17 then
        (if lv = 50 then .inl pos else .inr (pos + 1, lv + 1, [cAt C N pos - 1], fun q => some (q (cAt C N pos - 9))))
      else .inl pos)
    else if s = 1 then
      rdB (P C V N f 0 pos lv dp z 0 acc) fun p l cs dn => rdB (P C V N f 2 p l dp (z + cs.length) 0 dn) fun p2 l2 cs2 dn2 => .inr (p2, l2, cs ++ cs2, dn2)
    else if s = 2 then
      (if cAt C N pos = 142 ∨ cAt C N pos = 147 then
        rdB (P C V N f 0 (pos + 1) lv dp z 0 acc) fun p l cs dn => rdB (P C V N f 2 p l dp (z + cs.length + 1) 0 (if cAt C N pos = 142 then dMul acc dn else dDiv acc dn)) fun p2 l2 cs2 dn2 => .inr (p2, l2, cs ++ (if cAt C N pos = 142 then 28 else 29) :: cs2, dn2)
      else .inr (pos, lv, [], acc))
    else if s = 3 then
      rdB (P C V N f 1 pos lv dp z 0 acc) fun p l cs dn => rdB (P C V N f 4 p l dp (z + cs.length) 0 dn) fun p2 l2 cs2 dn2 => .inr (p2, l2, cs ++ cs2, dn2)
    else if s = 4 then
      (if cAt C N pos = 143 ∨ cAt C N pos = 145 then
        rdB (P C V N f 1 (pos + 1) lv dp z 0 acc) fun p l cs dn => rdB (P C V N f 4 p l dp (z + cs.length + 1) 0 (if cAt C N pos = 143 then dAdd acc dn else dSub acc dn)) fun p2 l2 cs2 dn2 => .inr (p2, l2, cs ++ (if cAt C N pos = 143 then 26 else 27) :: cs2, dn2)
      else .inr (pos, lv, [], acc))
    else if s = 5 then
      (if cAt C N pos = 8 then P C V N f 5 (pos + 1) lv dp z (1 - ng) acc
      else if cAt C N pos = 140 then
        (if dp = 8 then .inl pos else
          rdB (P C V N f 8 (pos + 1) lv (dp + 1) z 0 acc) fun p l cs dn => if cAt C N p = 141 then .inr (p + 1, l, cs ++ (if ng = 1 then [7] else []), if ng = 1 then dNot dn else dn) else .inl p)
      else rdB (P C V N f 3 pos lv dp z 0 acc) fun p l cs dn =>
        if cAt C N p = 160 ∨ cAt C N p = 162 ∨ cAt C N p = 161 then
          rdB (P C V N f 3 (p + 1) l dp (z + cs.length) 0 acc) fun p2 l2 cs2 dn2 => .inr (p2, l2, cs ++ cs2 ++ (if cAt C N p = 160 then 23 else if cAt C N p = 162 then 24 else 25) :: (if ng = 1 then [7] else []), if ng = 1 then dNot (dCmp (cAt C N p) dn dn2) else dCmp (cAt C N p) dn dn2)
        else .inl p)
    else if s = 6 then
      rdB (P C V N f 5 pos lv dp z 0 acc) fun p l cs dn => rdB (P C V N f 7 p l dp (z + cs.length) 0 dn) fun p2 l2 cs2 dn2 => .inr (p2, l2, cs ++ cs2, dn2)
    else if s = 7 then
      (if cAt C N pos = 7 then
        rdB (P C V N f 5 (pos + 1) lv dp (z + 1) 0 acc) fun p l cs dn => rdB (P C V N f 7 p l dp (z + 1 + cs.length) 0 (dAnd acc dn)) fun p2 l2 cs2 dn2 => .inr (p2, l2, (6 + 32 * (z + 1 + cs.length)) :: cs ++ cs2, dn2)
      else .inr (pos, lv, [], acc))
    else if s = 8 then
      rdB (P C V N f 6 pos lv dp z 0 acc) fun p l cs dn => rdB (P C V N f 9 p l dp (z + cs.length) 0 dn) fun p2 l2 cs2 dn2 => .inr (p2, l2, cs ++ cs2, dn2)
    else
      (if cAt C N pos = 6 then
        rdB (P C V N f 6 (pos + 1) lv dp (z + 1) 0 acc) fun p l cs dn => rdB (P C V N f 9 p l dp (z + 1 + cs.length) 0 (dOr acc dn)) fun p2 l2 cs2 dn2 => .inr (p2, l2, (5 + 32 * (z + 1 + cs.length)) :: cs ++ cs2, dn2)
      else .inr (pos, lv, [], acc))
/-! the reference's reader of a law in force: where it is (go, from o on), whether it is broken -/
def ev (h : QH) (o g b : Nat) : QH := hsI (hsI h 56 19 (nZ (o + g))) 56 21 (nZ b)
theorem ev_19 {h : QH} {o g b : Nat} : hI (ev h o g b) 56 19 = nZ (o + g) := by
  unfold ev
  rw [hI_ne (by decide), hI_at rfl]
theorem ev_21 {h : QH} {o g b : Nat} : hI (ev h o g b) 56 21 = nZ b := hI_at rfl
theorem ev_ne {h : QH} {o g b x j : Nat} (e : x ≠ 56 ∨ (j ≠ 19 ∧ j ≠ 21)) : hI (ev h o g b) x j = hI h x j := by
  unfold ev
  rw [hI_ne (by omega), hI_ne (by omega)]
theorem ev_s19 {h : QH} {o g b : Nat} : hsI (ev h o g b) 56 19 (nZ (o + g + 1)) = ev h o (g + 1) b := by
  refine qh_ext rfl rfl rfl ?_ rfl
  intro x y
  unfold ev
  simp only [hI_si]
  by_cases h1 : x = 56 ∧ y = 19
  · rw [if_pos h1, if_neg (by omega), if_pos h1]
    rfl
  · rw [if_neg h1]
    by_cases h2 : x = 56 ∧ y = 21
    · rw [if_pos h2, if_pos h2]
    · rw [if_neg h2, if_neg h1, if_neg h2, if_neg h1]
theorem ev_s21 {h : QH} {o g b b' : Nat} : hsI (ev h o g b) 56 21 (nZ b') = ev h o g b' := by
  unfold ev
  rw [hsI_two]
theorem ev_Sh {h : QH} {o g b : Nat} (H : Sh h) : Sh (ev h o g b) := H
/-- what the evaluator stands on: the end, codes, values, what is asked -/
def EV (h : QH) (C V q : Nat → Nat) (N o : Nat) : Prop := Sh h ∧ N ≤ 400 ∧ o ≤ 2000 ∧ hI h 56 20 = nZ (o + N) ∧ (∀ j, j < N → hI h 58 (420 + (o + j)) = nZ (C j) ∧ C j < 1000) ∧ (∀ j, j < N → hI h 58 (2820 + (o + j)) = nZ (V j)) ∧ (∀ j, j < 9 → hI h 67 j = nZ (q j) ∧ q j < 1000)
theorem cAt_lt {h : QH} {C V q : Nat → Nat} {N o : Nat} (X : EV h C V q N o) (g : Nat) : cAt C N g < 1000 := by
  unfold cAt
  split
  · rename_i hh
    exact (X.2.2.2.2.1 g hh).2
  · decide
theorem m178 {h : QH} {C V q : Nat → Nat} {N o : Nat} (X : EV h C V q N o) (d g b k : Nat) (hk : k < 100000) : qcl (d + 1) 178 [qR (some 56), qI (nZ (o + k))] (ev h o g b) = some (some (qI (nZ (cAt C N k))), ev h o g b) := by
  obtain ⟨H, hN2, ho, e20, ec, evv, eq⟩ := X
  have H1 : Sh (ev h o g b) := H
  have e20' : hI (ev h o g b) 56 20 = nZ (o + N) := (ev_ne (by omega)).trans e20
  unfold cAt
  by_cases e : k < N
  · have ec' : hI (ev h o g b) 58 (420 + (o + k)) = nZ (C k) := (ev_ne (by omega)).trans (ec k (by omega)).1
    rw [if_pos e]
    simp (disch := first | assumption | omega | (simp only [Sh_si, Sh_sA]; assumption)) only [E178, e20', ec', p56_0, g56_0, p56_1, g56_1, g56_2, g56_3, g56_4, g56_5, p56_6, g56_6, g56_7, g56_8, g56_9, p56_10, g56_10, p56_11, g56_11, g56_12, g56_13, g56_14, p56_15, g56_15, p56_16, g56_16, p56_17, g56_17, p56_18, g56_18, p56_19, g56_19, p56_20, g56_20, B56_21, g56_21, g56_22, g56_23, g56_24, g56_25, g56_26, g56_27, p56_28, g56_28, p56_29, g56_29, p56_30, g56_30, p56_31, g56_31, g56_32, g56_33, g56_34, p56_35, g56_35, p56_36, g56_36, p56_37, g56_37, p56_38, g56_38, g56_39, g56_40, g56_41, p56_42, g56_42, p56_43, g56_43, p56_44, g56_44, ck56, A57, S57, l57, A58, S58, l58, A59, S59, l59, A60, S60, l60, A61, S61, l61, A62, S62, l62, A63, S63, l63, A64, S64, l64, A65, S65, l65, A66, S66, l66, A67, S67, l67, A68, S68, l68, A69, S69, l69, A70, S70, l70, A71, S71, l71, A72, S72, l72, A73, S73, l73, A74, S74, l74, A75, S75, l75, A76, S76, l76, A77, S77, l77, A78, S78, l78, L0, L1, L2, L3, L4, L5, L6, L7, L8, L9, L10, L11, L12, L13, L14, L15, L16, L17, L18, L19, L20, L21, L22, L23, L24, L25, L26, L27, L28, L29, L30, L31, L32, L33, L34, L35, L36, L37, L38, L39, L40, L41, L42, L43, L44, L45, L46, L47, L48, L49, L50, L52, L57, L60, L90, L91, L93, L97, L99, L100, L101, L122, L240, L255, L256, L400, L401, L408, L409, L410, L411, L412, L413, L414, L420, L1000, L1001, L1103, L1200, L1240, L2820, L5220, L7936, L10440, L12345, L1000000, L1000003, L1073741823, nd_lt_t, nd_lt_f, nd_le_t, nd_le_f, nd_eq_f, nZ_add, nZ_mul, nZ_sub, nZ_lt, nZ_le, nZ_eq, nZ_nat, nZ_div, nZ_rem, nZ_and, nZ_or, and31, nZ_shl, nZ_shr, nZ_m1, nZ_nneg, nZ_nneg', nZ_nlt, nZ_ltn, inR_lt, Nat.not_lt_zero, ob_some, jI, jL, jR, jV, rI0, rI1, rIv, if_true, if_false, ↓reduceIte, Nat.reduceAdd, Nat.reduceMul, Nat.reduceSub, Nat.reduceLT, Nat.reduceEqDiff, Nat.reduceLeDiff, Nat.zero_add, Nat.add_zero, Nat.zero_mul, Nat.mul_zero, Nat.one_mul, Nat.mul_one, and_true, true_and, false_and, and_false, or_true, true_or, or_false, false_or, not_true_eq_false, not_false_eq_true, eq_self, bI_0, bI_1, em_b, hI_ne, hI_at, hA_ne, hA_at, Sh_si, Sh_sA]
  · rw [if_neg e]
    simp (disch := first | assumption | omega | (simp only [Sh_si, Sh_sA]; assumption)) only [E178, e20', p56_0, g56_0, p56_1, g56_1, g56_2, g56_3, g56_4, g56_5, p56_6, g56_6, g56_7, g56_8, g56_9, p56_10, g56_10, p56_11, g56_11, g56_12, g56_13, g56_14, p56_15, g56_15, p56_16, g56_16, p56_17, g56_17, p56_18, g56_18, p56_19, g56_19, p56_20, g56_20, B56_21, g56_21, g56_22, g56_23, g56_24, g56_25, g56_26, g56_27, p56_28, g56_28, p56_29, g56_29, p56_30, g56_30, p56_31, g56_31, g56_32, g56_33, g56_34, p56_35, g56_35, p56_36, g56_36, p56_37, g56_37, p56_38, g56_38, g56_39, g56_40, g56_41, p56_42, g56_42, p56_43, g56_43, p56_44, g56_44, ck56, A57, S57, l57, A58, S58, l58, A59, S59, l59, A60, S60, l60, A61, S61, l61, A62, S62, l62, A63, S63, l63, A64, S64, l64, A65, S65, l65, A66, S66, l66, A67, S67, l67, A68, S68, l68, A69, S69, l69, A70, S70, l70, A71, S71, l71, A72, S72, l72, A73, S73, l73, A74, S74, l74, A75, S75, l75, A76, S76, l76, A77, S77, l77, A78, S78, l78, L0, L1, L2, L3, L4, L5, L6, L7, L8, L9, L10, L11, L12, L13, L14, L15, L16, L17, L18, L19, L20, L21, L22, L23, L24, L25, L26, L27, L28, L29, L30, L31, L32, L33, L34, L35, L36, L37, L38, L39, L40, L41, L42, L43, L44, L45, L46, L47, L48, L49, L50, L52, L57, L60, L90, L91, L93, L97, L99, L100, L101, L122, L240, L255, L256, L400, L401, L408, L409, L410, L411, L412, L413, L414, L420, L1000, L1001, L1103, L1200, L1240, L2820, L5220, L7936, L10440, L12345, L1000000, L1000003, L1073741823, nd_lt_t, nd_lt_f, nd_le_t, nd_le_f, nd_eq_f, nZ_add, nZ_mul, nZ_sub, nZ_lt, nZ_le, nZ_eq, nZ_nat, nZ_div, nZ_rem, nZ_and, nZ_or, and31, nZ_shl, nZ_shr, nZ_m1, nZ_nneg, nZ_nneg', nZ_nlt, nZ_ltn, inR_lt, Nat.not_lt_zero, ob_some, jI, jL, jR, jV, rI0, rI1, rIv, if_true, if_false, ↓reduceIte, Nat.reduceAdd, Nat.reduceMul, Nat.reduceSub, Nat.reduceLT, Nat.reduceEqDiff, Nat.reduceLeDiff, Nat.zero_add, Nat.add_zero, Nat.zero_mul, Nat.mul_zero, Nat.one_mul, Nat.mul_one, and_true, true_and, false_and, and_false, or_true, true_or, or_false, false_or, not_true_eq_false, not_false_eq_true, eq_self, bI_0, bI_1, em_b, hI_ne, hI_at, hA_ne, hA_at, Sh_si, Sh_sA]
theorem m231 {h : QH} {C V q : Nat → Nat} {N o : Nat} (X : EV h C V q N o) (d g b c : Nat) (hg : g < 100000) (hc : c < 1000) : qcl (d + 2) 231 [qR (some 56), qI (nZ c)] (ev h o g b) = some (some (qI (bI (cAt C N g = c))), ev h o (if cAt C N g = c then g + 1 else g) b) := by
  have H1 : Sh (ev h o g b) := X.1
  have ho := X.2.2.1
  have hb : cAt C N g < 1000 := cAt_lt X g
  have z10 : (nZ 1 = nZ 0) = False := by decide
  by_cases e : cAt C N g = c
  · rw [bI_t e, if_pos e]
    simp (disch := first | assumption | omega | (simp only [Sh_si, Sh_sA]; assumption)) only [E231, ev_19, m178 X, e, ev_s19, p56_0, g56_0, p56_1, g56_1, g56_2, g56_3, g56_4, g56_5, p56_6, g56_6, g56_7, g56_8, g56_9, p56_10, g56_10, p56_11, g56_11, g56_12, g56_13, g56_14, p56_15, g56_15, p56_16, g56_16, p56_17, g56_17, p56_18, g56_18, p56_19, g56_19, p56_20, g56_20, B56_21, g56_21, g56_22, g56_23, g56_24, g56_25, g56_26, g56_27, p56_28, g56_28, p56_29, g56_29, p56_30, g56_30, p56_31, g56_31, g56_32, g56_33, g56_34, p56_35, g56_35, p56_36, g56_36, p56_37, g56_37, p56_38, g56_38, g56_39, g56_40, g56_41, p56_42, g56_42, p56_43, g56_43, p56_44, g56_44, ck56, A57, S57, l57, A58, S58, l58, A59, S59, l59, A60, S60, l60, A61, S61, l61, A62, S62, l62, A63, S63, l63, A64, S64, l64, A65, S65, l65, A66, S66, l66, A67, S67, l67, A68, S68, l68, A69, S69, l69, A70, S70, l70, A71, S71, l71, A72, S72, l72, A73, S73, l73, A74, S74, l74, A75, S75, l75, A76, S76, l76, A77, S77, l77, A78, S78, l78, L0, L1, L2, L3, L4, L5, L6, L7, L8, L9, L10, L11, L12, L13, L14, L15, L16, L17, L18, L19, L20, L21, L22, L23, L24, L25, L26, L27, L28, L29, L30, L31, L32, L33, L34, L35, L36, L37, L38, L39, L40, L41, L42, L43, L44, L45, L46, L47, L48, L49, L50, L52, L57, L60, L90, L91, L93, L97, L99, L100, L101, L122, L240, L255, L256, L400, L401, L408, L409, L410, L411, L412, L413, L414, L420, L1000, L1001, L1103, L1200, L1240, L2820, L5220, L7936, L10440, L12345, L1000000, L1000003, L1073741823, nd_lt_t, nd_lt_f, nd_le_t, nd_le_f, nd_eq_f, nZ_add, nZ_mul, nZ_sub, nZ_lt, nZ_le, nZ_eq, nZ_nat, nZ_div, nZ_rem, nZ_and, nZ_or, and31, nZ_shl, nZ_shr, nZ_m1, nZ_nneg, nZ_nneg', nZ_nlt, nZ_ltn, inR_lt, Nat.not_lt_zero, ob_some, jI, jL, jR, jV, rI0, rI1, rIv, if_true, if_false, ↓reduceIte, Nat.reduceAdd, Nat.reduceMul, Nat.reduceSub, Nat.reduceLT, Nat.reduceEqDiff, Nat.reduceLeDiff, Nat.zero_add, Nat.add_zero, Nat.zero_mul, Nat.mul_zero, Nat.one_mul, Nat.mul_one, and_true, true_and, false_and, and_false, or_true, true_or, or_false, false_or, not_true_eq_false, not_false_eq_true, eq_self, bI_0, bI_1, em_b, hI_ne, hI_at, hA_ne, hA_at, Sh_si, Sh_sA]
  · rw [bI_f e, if_neg e]
    simp (disch := first | assumption | omega | (simp only [Sh_si, Sh_sA]; assumption)) only [E231, ev_19, m178 X, e, p56_0, g56_0, p56_1, g56_1, g56_2, g56_3, g56_4, g56_5, p56_6, g56_6, g56_7, g56_8, g56_9, p56_10, g56_10, p56_11, g56_11, g56_12, g56_13, g56_14, p56_15, g56_15, p56_16, g56_16, p56_17, g56_17, p56_18, g56_18, p56_19, g56_19, p56_20, g56_20, B56_21, g56_21, g56_22, g56_23, g56_24, g56_25, g56_26, g56_27, p56_28, g56_28, p56_29, g56_29, p56_30, g56_30, p56_31, g56_31, g56_32, g56_33, g56_34, p56_35, g56_35, p56_36, g56_36, p56_37, g56_37, p56_38, g56_38, g56_39, g56_40, g56_41, p56_42, g56_42, p56_43, g56_43, p56_44, g56_44, ck56, A57, S57, l57, A58, S58, l58, A59, S59, l59, A60, S60, l60, A61, S61, l61, A62, S62, l62, A63, S63, l63, A64, S64, l64, A65, S65, l65, A66, S66, l66, A67, S67, l67, A68, S68, l68, A69, S69, l69, A70, S70, l70, A71, S71, l71, A72, S72, l72, A73, S73, l73, A74, S74, l74, A75, S75, l75, A76, S76, l76, A77, S77, l77, A78, S78, l78, L0, L1, L2, L3, L4, L5, L6, L7, L8, L9, L10, L11, L12, L13, L14, L15, L16, L17, L18, L19, L20, L21, L22, L23, L24, L25, L26, L27, L28, L29, L30, L31, L32, L33, L34, L35, L36, L37, L38, L39, L40, L41, L42, L43, L44, L45, L46, L47, L48, L49, L50, L52, L57, L60, L90, L91, L93, L97, L99, L100, L101, L122, L240, L255, L256, L400, L401, L408, L409, L410, L411, L412, L413, L414, L420, L1000, L1001, L1103, L1200, L1240, L2820, L5220, L7936, L10440, L12345, L1000000, L1000003, L1073741823, nd_lt_t, nd_lt_f, nd_le_t, nd_le_f, nd_eq_f, nZ_add, nZ_mul, nZ_sub, nZ_lt, nZ_le, nZ_eq, nZ_nat, nZ_div, nZ_rem, nZ_and, nZ_or, and31, nZ_shl, nZ_shr, nZ_m1, nZ_nneg, nZ_nneg', nZ_nlt, nZ_ltn, inR_lt, Nat.not_lt_zero, ob_some, jI, jL, jR, jV, rI0, rI1, rIv, if_true, if_false, ↓reduceIte, Nat.reduceAdd, Nat.reduceMul, Nat.reduceSub, Nat.reduceLT, Nat.reduceEqDiff, Nat.reduceLeDiff, Nat.zero_add, Nat.add_zero, Nat.zero_mul, Nat.mul_zero, Nat.one_mul, Nat.mul_one, and_true, true_and, false_and, and_false, or_true, true_or, or_false, false_or, not_true_eq_false, not_false_eq_true, eq_self, bI_0, bI_1, em_b, hI_ne, hI_at, hA_ne, hA_at, Sh_si, Sh_sA]
theorem m254 (d c : Nat) (h : QH) (hc : c < 1000) : qcl (d + 1) 254 [qI (nZ c)] h = some (some (qI (nZ (100 + c))), h) := by
  simp (disch := first | assumption | omega | (simp only [Sh_si, Sh_sA]; assumption)) only [E254, L0, L1, L2, L3, L4, L5, L6, L7, L8, L9, L10, L11, L12, L13, L14, L15, L16, L17, L18, L19, L20, L21, L22, L23, L24, L25, L26, L27, L28, L29, L30, L31, L32, L33, L34, L35, L36, L37, L38, L39, L40, L41, L42, L43, L44, L45, L46, L47, L48, L49, L50, L52, L57, L60, L90, L91, L93, L97, L99, L100, L101, L122, L240, L255, L256, L400, L401, L408, L409, L410, L411, L412, L413, L414, L420, L1000, L1001, L1103, L1200, L1240, L2820, L5220, L7936, L10440, L12345, L1000000, L1000003, L1073741823, nd_lt_t, nd_lt_f, nd_le_t, nd_le_f, nd_eq_f, nZ_add, nZ_mul, nZ_sub, nZ_lt, nZ_le, nZ_eq, nZ_nat, nZ_div, nZ_rem, nZ_and, nZ_or, and31, nZ_shl, nZ_shr, nZ_m1, nZ_nneg, nZ_nneg', nZ_nlt, nZ_ltn, inR_lt, Nat.not_lt_zero, ob_some, jI, jL, jR, jV, rI0, rI1, rIv, if_true, if_false, ↓reduceIte, Nat.reduceAdd, Nat.reduceMul, Nat.reduceSub, Nat.reduceLT, Nat.reduceEqDiff, Nat.reduceLeDiff, Nat.zero_add, Nat.add_zero, Nat.zero_mul, Nat.mul_zero, Nat.one_mul, Nat.mul_one, and_true, true_and, false_and, and_false, or_true, true_or, or_false, false_or, not_true_eq_false, not_false_eq_true, eq_self, bI_0, bI_1, em_b, hI_ne, hI_at, hA_ne, hA_at, Sh_si, Sh_sA]

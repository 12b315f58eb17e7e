/-! ===== the evaluator of the reference: sums ===== -/
theorem rdB_inr {r : Rd} {F : Nat → Nat → List Nat → Den → Rd} {x : Nat × Nat × List Nat × Den} (e : rdB r F = .inr x) : ∃ p l cs dn, r = .inr (p, l, cs, dn) ∧ F p l cs dn = .inr x := by
  cases r with
  | inl a => cases e
  | inr a =>
    obtain ⟨p, l, cs, dn⟩ := a
    exact ⟨p, l, cs, dn, rfl, e⟩
theorem P_0 {C V : Nat → Nat} {N f pos lv dp z ng : Nat} {acc : Den} : P C V N (f + 1) 0 pos lv dp z ng acc = (if cAt C N pos = 191 then
        (if dp = 8 then .inl pos else
          rdB (P C V N f 3 (pos + 1) lv (dp + 1) z 0 acc) fun p l cs dn => if cAt C N p = 193 then .inr (p + 1, l, cs, dn) else .inl p)
      else if cAt C N pos = 50 ∧ V pos ≤ 1000 then
        (if lv = 50 then .inl pos else .inr (pos + 1, lv + 1, [17 + 32 * V pos], fun _ => some (V pos : Int)))
      else if 9 ≤ cAt C N pos ∧ cAt C N pos ≤ 17 then
        (if lv = 50 then .inl pos else .inr (pos + 1, lv + 1, [cAt C N pos - 1], fun q => some (q (cAt C N pos - 9))))
      else .inl pos) := rfl
theorem P_1 {C V : Nat → Nat} {N f pos lv dp z ng : Nat} {acc : Den} : P C V N (f + 1) 1 pos lv dp z ng acc = rdB (P C V N f 0 pos lv dp z 0 acc) fun p l cs dn => rdB (P C V N f 2 p l dp (z + cs.length) 0 dn) fun p2 l2 cs2 dn2 => .inr (p2, l2, cs ++ cs2, dn2) := rfl
theorem P_2 {C V : Nat → Nat} {N f pos lv dp z ng : Nat} {acc : Den} : P C V N (f + 1) 2 pos lv dp z ng acc = (if cAt C N pos = 142 ∨ cAt C N pos = 147 then
        rdB (P C V N f 0 (pos + 1) lv dp z 0 acc) fun p l cs dn => rdB (P C V N f 2 p l dp (z + cs.length + 1) 0 (if cAt C N pos = 142 then dMul acc dn else dDiv acc dn)) fun p2 l2 cs2 dn2 => .inr (p2, l2, cs ++ (if cAt C N pos = 142 then 28 else 29) :: cs2, dn2)
      else .inr (pos, lv, [], acc)) := rfl
theorem P_3 {C V : Nat → Nat} {N f pos lv dp z ng : Nat} {acc : Den} : P C V N (f + 1) 3 pos lv dp z ng acc = rdB (P C V N f 1 pos lv dp z 0 acc) fun p l cs dn => rdB (P C V N f 4 p l dp (z + cs.length) 0 dn) fun p2 l2 cs2 dn2 => .inr (p2, l2, cs ++ cs2, dn2) := rfl
theorem P_4 {C V : Nat → Nat} {N f pos lv dp z ng : Nat} {acc : Den} : P C V N (f + 1) 4 pos lv dp z ng acc = (if cAt C N pos = 143 ∨ cAt C N pos = 145 then
        rdB (P C V N f 1 (pos + 1) lv dp z 0 acc) fun p l cs dn => rdB (P C V N f 4 p l dp (z + cs.length + 1) 0 (if cAt C N pos = 143 then dAdd acc dn else dSub acc dn)) fun p2 l2 cs2 dn2 => .inr (p2, l2, cs ++ (if cAt C N pos = 143 then 26 else 27) :: cs2, dn2)
      else .inr (pos, lv, [], acc)) := rfl
/-- value and broken, read alive or not, broken ahead or not -/
def rs (o : Option Int) (live b : Nat) : Int × Nat := if live = 1 ∧ b = 0 then (match o with
  | some x => (x, 0)
  | none => (0, 1)) else (0, b)
/-- small enough -/
def sm (o : Option Int) : Prop := ∀ x, o = some x → -1000000000 ≤ x ∧ x ≤ 1000000000
theorem sm_bdd (v : Int) : sm (bdd v) := by
  intro x hx
  unfold bdd at hx
  split at hx
  · cases hx
  · cases hx
    omega
theorem sm_bind2 {a b : Option Int} {f : Int → Int → Option Int} (h : ∀ x y, sm (f x y)) : sm (a.bind fun x => b.bind fun y => f x y) := by
  cases a with
  | none => exact fun x hx => by cases hx
  | some x => cases b with
    | none => exact fun x hx => by cases hx
    | some y => exact h x y
theorem rs_sm {o : Option Int} (h : sm o) (live b : Nat) : -1000000000 ≤ (rs o live b).1 ∧ (rs o live b).1 ≤ 1000000000 := by
  unfold rs
  split
  · cases o with
    | none => exact ⟨by decide, by decide⟩
    | some x => exact h x rfl
  · show (-1000000000 : Int) ≤ 0 ∧ (0 : Int) ≤ 1000000000
    decide
theorem rs_b {o : Option Int} {live b : Nat} (hb : b < 2) : (rs o live b).2 < 2 := by
  unfold rs
  split
  · cases o with
    | none => decide
    | some x => exact Nat.zero_lt_two
  · exact hb
theorem mul_Rg {a b : Int} (ha : -1000000000 ≤ a ∧ a ≤ 1000000000) (hb : -1000000000 ≤ b ∧ b ≤ 1000000000) : Rg (a * b) := by
  have h1 : a.natAbs ≤ 1000000000 := by omega
  have h2 : b.natAbs ≤ 1000000000 := by omega
  have h3 := Nat.mul_le_mul h1 h2
  rw [← Int.natAbs_mul] at h3
  unfold Rg
  omega
theorem tdiv_Rg {a b : Int} (ha : -1000000000 ≤ a ∧ a ≤ 1000000000) : -1000000000 ≤ a.tdiv b ∧ a.tdiv b ≤ 1000000000 := by
  have h1 : (a.tdiv b).natAbs ≤ a.natAbs := by
    rw [Int.natAbs_tdiv]
    exact Nat.div_le_self _ _
  omega
/-- what bounded makes of a value v, broken b -/
def bd (v : Int) (live b : Nat) : Int × Nat := (if b = 0 ∧ ¬(live = 1 ∧ (1000000000 < v ∨ v < -1000000000)) then v else 0, if live = 1 ∧ (1000000000 < v ∨ v < -1000000000) then 1 else b)
theorem bd_op {a b : Option Int} (f : Int → Int → Int) (f0 : f 0 0 = 0) (f1 : ∀ x, -1000000000 ≤ x ∧ x ≤ 1000000000 → -1000000000 ≤ f x 0 ∧ f x 0 ≤ 1000000000) (ha : sm a) {live b0 : Nat} (hl : live < 2) (hb : b0 < 2) : bd (f (rs a live b0).1 (rs b live (rs a live b0).2).1) live (rs b live (rs a live b0).2).2 = rs (a.bind fun x => b.bind fun y => bdd (f x y)) live b0 := by
  have l2 : live = 0 ∨ live = 1 := by omega
  have b2 : b0 = 0 ∨ b0 = 1 := by omega
  rcases l2 with e | e <;> subst e
  · rcases b2 with e | e <;> subst e
    · simp [rs, bd, f0]
    · simp [rs, bd]
  · rcases b2 with e | e <;> subst e
    · cases a with
      | none => simp [rs, bd, f0]
      | some x =>
        have hx := ha x rfl
        cases b with
        | none =>
          have := f1 x hx
          have e1 : ¬(1000000000 < f x 0) := by omega
          have e2 : ¬(f x 0 < -1000000000) := by omega
          simp [rs, bd]
        | some y =>
          simp only [rs, bd, Option.bind_some, bdd]
          by_cases e : 1000000000 < f x y ∨ f x y < -1000000000
          · simp [e]
          · simp [e]
    · simp [rs, bd, f0]
theorem C_pos {C : Nat → Nat} {N k : Nat} (h : cAt C N k ≠ 0) : k < N := by
  unfold cAt at h
  by_cases e : k < N
  · exact e
  · rw [if_neg e] at h
    exact absurd rfl h
/-- a term goes on: times -/
theorem m269_mul {h : QH} {C V q : Nat → Nat} {N o : Nat} (X : EV h C V q N o) (d pos p b b1 live : Nat) (v w : Int) (hl : live < 2) (hb1 : b1 < 2) (hv : -1000000000 ≤ v ∧ v ≤ 1000000000) (hw : -1000000000 ≤ w ∧ w ≤ 1000000000) (hpos : pos ≤ 400) (e : cAt C N pos = 142) (hp : qcl (d + 2) 230 [qR (some 56), qI (nZ live)] (ev h o (pos + 1) b) = some (some (qL (lI w)), ev h o p b1)) : qbig (d + 3) 269 6 [sR (some 56), sI (nZ live), sL (lI v), none, none, none, none] [] (ev h o pos b) = qbig (d + 3) 269 6 [sR (some 56), sI (nZ live), sL (lI (bd (v * w) live b1).1), none, none, none, none] [] (ev h o p (bd (v * w) live b1).2) := by
  have H1 : Sh (ev h o pos b) := X.1
  have H2 : Sh (ev h o (pos + 1) b) := X.1
  have H3 : Sh (ev h o p b1) := X.1
  have ho := X.2.2.1
  have z10 : (nZ 1 = nZ 0) = False := by decide
  have s1 : qbig (d + 3) 269 6 [sR (some 56), sI (nZ live), sL (lI v), none, none, none, none] [] (ev h o pos b) = qbig (d + 3) 269 59 [sR (some 56), sI (nZ live), sL (lI v), none, none, none, none] [qI (nZ 1)] (ev h o pos b) := by
    rw [E269_6]
    simp (disch := first | assumption | omega | (simp only [Sh_si, Sh_sA]; assumption)) only [ev_19, m178 X, m254, e, p56_0, g56_0, p56_1, g56_1, g56_2, g56_3, g56_4, g56_5, p56_6, g56_6, g56_7, g56_8, g56_9, p56_10, g56_10, p56_11, g56_11, g56_12, g56_13, g56_14, p56_15, g56_15, p56_16, g56_16, p56_17, g56_17, p56_18, g56_18, p56_19, g56_19, p56_20, g56_20, B56_21, g56_21, g56_22, g56_23, g56_24, g56_25, g56_26, g56_27, p56_28, g56_28, p56_29, g56_29, p56_30, g56_30, p56_31, g56_31, g56_32, g56_33, g56_34, p56_35, g56_35, p56_36, g56_36, p56_37, g56_37, p56_38, g56_38, g56_39, g56_40, g56_41, p56_42, g56_42, p56_43, g56_43, p56_44, g56_44, ck56, A57, S57, l57, A58, S58, l58, A59, S59, l59, A60, S60, l60, A61, S61, l61, A62, S62, l62, A63, S63, l63, A64, S64, l64, A65, S65, l65, A66, S66, l66, A67, S67, l67, A68, S68, l68, A69, S69, l69, A70, S70, l70, A71, S71, l71, A72, S72, l72, A73, S73, l73, A74, S74, l74, A75, S75, l75, A76, S76, l76, A77, S77, l77, A78, S78, l78, L0, L1, L2, L3, L4, L5, L6, L7, L8, L9, L10, L11, L12, L13, L14, L15, L16, L17, L18, L19, L20, L21, L22, L23, L24, L25, L26, L27, L28, L29, L30, L31, L32, L33, L34, L35, L36, L37, L38, L39, L40, L41, L42, L43, L44, L45, L46, L47, L48, L49, L50, L52, L57, L60, L90, L91, L93, L97, L99, L100, L101, L122, L240, L255, L256, L400, L401, L408, L409, L410, L411, L412, L413, L414, L420, L1000, L1001, L1103, L1200, L1240, L2820, L5220, L7936, L10440, L12345, L1000000, L1000003, L1073741823, nd_lt_t, nd_lt_f, nd_le_t, nd_le_f, nd_eq_f, nZ_add, nZ_mul, nZ_sub, nZ_lt, nZ_le, nZ_eq, nZ_nat, nZ_div, nZ_rem, nZ_and, nZ_or, and31, nZ_shl, nZ_shr, nZ_m1, nZ_nneg, nZ_nneg', nZ_nlt, nZ_ltn, inR_lt, Nat.not_lt_zero, ob_some, jI, jL, jR, jV, rI0, rI1, rIv, if_true, if_false, ↓reduceIte, Nat.reduceAdd, Nat.reduceMul, Nat.reduceSub, Nat.reduceLT, Nat.reduceEqDiff, Nat.reduceLeDiff, Nat.zero_add, Nat.add_zero, Nat.zero_mul, Nat.mul_zero, Nat.one_mul, Nat.mul_one, and_true, true_and, false_and, and_false, or_true, true_or, or_false, false_or, not_true_eq_false, not_false_eq_true, eq_self, bI_0, bI_1, em_b, hI_ne, hI_at, hA_ne, hA_at, Sh_si, Sh_sA]
  have s2 : qbig (d + 3) 269 59 [sR (some 56), sI (nZ live), sL (lI v), none, none, none, none] [qI (nZ 1)] (ev h o pos b) = qbig (d + 3) 269 113 [sR (some 56), sI (nZ live), sL (lI v), none, sI (nZ 1), sL (lI w), none] [] (ev h o p b1) := by
    rw [E269_59]
    simp (disch := first | assumption | omega | (simp only [Sh_si, Sh_sA]; assumption)) only [ev_19, ev_s19, hp, p56_0, g56_0, p56_1, g56_1, g56_2, g56_3, g56_4, g56_5, p56_6, g56_6, g56_7, g56_8, g56_9, p56_10, g56_10, p56_11, g56_11, g56_12, g56_13, g56_14, p56_15, g56_15, p56_16, g56_16, p56_17, g56_17, p56_18, g56_18, p56_19, g56_19, p56_20, g56_20, B56_21, g56_21, g56_22, g56_23, g56_24, g56_25, g56_26, g56_27, p56_28, g56_28, p56_29, g56_29, p56_30, g56_30, p56_31, g56_31, g56_32, g56_33, g56_34, p56_35, g56_35, p56_36, g56_36, p56_37, g56_37, p56_38, g56_38, g56_39, g56_40, g56_41, p56_42, g56_42, p56_43, g56_43, p56_44, g56_44, ck56, A57, S57, l57, A58, S58, l58, A59, S59, l59, A60, S60, l60, A61, S61, l61, A62, S62, l62, A63, S63, l63, A64, S64, l64, A65, S65, l65, A66, S66, l66, A67, S67, l67, A68, S68, l68, A69, S69, l69, A70, S70, l70, A71, S71, l71, A72, S72, l72, A73, S73, l73, A74, S74, l74, A75, S75, l75, A76, S76, l76, A77, S77, l77, A78, S78, l78, L0, L1, L2, L3, L4, L5, L6, L7, L8, L9, L10, L11, L12, L13, L14, L15, L16, L17, L18, L19, L20, L21, L22, L23, L24, L25, L26, L27, L28, L29, L30, L31, L32, L33, L34, L35, L36, L37, L38, L39, L40, L41, L42, L43, L44, L45, L46, L47, L48, L49, L50, L52, L57, L60, L90, L91, L93, L97, L99, L100, L101, L122, L240, L255, L256, L400, L401, L408, L409, L410, L411, L412, L413, L414, L420, L1000, L1001, L1103, L1200, L1240, L2820, L5220, L7936, L10440, L12345, L1000000, L1000003, L1073741823, nd_lt_t, nd_lt_f, nd_le_t, nd_le_f, nd_eq_f, nZ_add, nZ_mul, nZ_sub, nZ_lt, nZ_le, nZ_eq, nZ_nat, nZ_div, nZ_rem, nZ_and, nZ_or, and31, nZ_shl, nZ_shr, nZ_m1, nZ_nneg, nZ_nneg', nZ_nlt, nZ_ltn, inR_lt, Nat.not_lt_zero, ob_some, jI, jL, jR, jV, rI0, rI1, rIv, if_true, if_false, ↓reduceIte, Nat.reduceAdd, Nat.reduceMul, Nat.reduceSub, Nat.reduceLT, Nat.reduceEqDiff, Nat.reduceLeDiff, Nat.zero_add, Nat.add_zero, Nat.zero_mul, Nat.mul_zero, Nat.one_mul, Nat.mul_one, and_true, true_and, false_and, and_false, or_true, true_or, or_false, false_or, not_true_eq_false, not_false_eq_true, eq_self, bI_0, bI_1, em_b, hI_ne, hI_at, hA_ne, hA_at, Sh_si, Sh_sA]
  rw [s1, s2, E269_113]
  simp (disch := first | assumption | omega | (simp only [Sh_si, Sh_sA]; assumption)) only [lI_mul, m176 X _ _ _ _ _ hb1 hl (mul_Rg hv hw), E269_135, p56_0, g56_0, p56_1, g56_1, g56_2, g56_3, g56_4, g56_5, p56_6, g56_6, g56_7, g56_8, g56_9, p56_10, g56_10, p56_11, g56_11, g56_12, g56_13, g56_14, p56_15, g56_15, p56_16, g56_16, p56_17, g56_17, p56_18, g56_18, p56_19, g56_19, p56_20, g56_20, B56_21, g56_21, g56_22, g56_23, g56_24, g56_25, g56_26, g56_27, p56_28, g56_28, p56_29, g56_29, p56_30, g56_30, p56_31, g56_31, g56_32, g56_33, g56_34, p56_35, g56_35, p56_36, g56_36, p56_37, g56_37, p56_38, g56_38, g56_39, g56_40, g56_41, p56_42, g56_42, p56_43, g56_43, p56_44, g56_44, ck56, A57, S57, l57, A58, S58, l58, A59, S59, l59, A60, S60, l60, A61, S61, l61, A62, S62, l62, A63, S63, l63, A64, S64, l64, A65, S65, l65, A66, S66, l66, A67, S67, l67, A68, S68, l68, A69, S69, l69, A70, S70, l70, A71, S71, l71, A72, S72, l72, A73, S73, l73, A74, S74, l74, A75, S75, l75, A76, S76, l76, A77, S77, l77, A78, S78, l78, L0, L1, L2, L3, L4, L5, L6, L7, L8, L9, L10, L11, L12, L13, L14, L15, L16, L17, L18, L19, L20, L21, L22, L23, L24, L25, L26, L27, L28, L29, L30, L31, L32, L33, L34, L35, L36, L37, L38, L39, L40, L41, L42, L43, L44, L45, L46, L47, L48, L49, L50, L52, L57, L60, L90, L91, L93, L97, L99, L100, L101, L122, L240, L255, L256, L400, L401, L408, L409, L410, L411, L412, L413, L414, L420, L1000, L1001, L1103, L1200, L1240, L2820, L5220, L7936, L10440, L12345, L1000000, L1000003, L1073741823, nd_lt_t, nd_lt_f, nd_le_t, nd_le_f, nd_eq_f, nZ_add, nZ_mul, nZ_sub, nZ_lt, nZ_le, nZ_eq, nZ_nat, nZ_div, nZ_rem, nZ_and, nZ_or, and31, nZ_shl, nZ_shr, nZ_m1, nZ_nneg, nZ_nneg', nZ_nlt, nZ_ltn, inR_lt, Nat.not_lt_zero, ob_some, jI, jL, jR, jV, rI0, rI1, rIv, if_true, if_false, ↓reduceIte, Nat.reduceAdd, Nat.reduceMul, Nat.reduceSub, Nat.reduceLT, Nat.reduceEqDiff, Nat.reduceLeDiff, Nat.zero_add, Nat.add_zero, Nat.zero_mul, Nat.mul_zero, Nat.one_mul, Nat.mul_one, and_true, true_and, false_and, and_false, or_true, true_or, or_false, false_or, not_true_eq_false, not_false_eq_true, eq_self, bI_0, bI_1, em_b, hI_ne, hI_at, hA_ne, hA_at, Sh_si, Sh_sA]
  rfl

theorem dv_op {a b : Option Int} (ha : sm a) {live b0 : Nat} (hl : live < 2) (hb : b0 < 2) : dv (rs a live b0).1 (rs b live (rs a live b0).2).1 live (rs b live (rs a live b0).2).2 = rs (a.bind fun x => b.bind fun y => if y = 0 then none else bdd (x.tdiv y)) live b0 := by
  have l2 : live = 0 ∨ live = 1 := by omega
  have b2 : b0 = 0 ∨ b0 = 1 := by omega
  rcases l2 with e | e <;> subst e
  · rcases b2 with e | e <;> subst e
    · simp [rs, dv, bd]
    · simp [rs, dv, bd]
  · rcases b2 with e | e <;> subst e
    · cases a with
      | none => simp [rs, dv, bd]
      | some x =>
        have hx := ha x rfl
        have e1 : ¬(1000000000 < x) := by omega
        have e2 : ¬(x < -1000000000) := by omega
        cases b with
        | none => simp [rs, dv, bd, e1, e2]
        | some y =>
          by_cases y0 : y = 0
          · simp [rs, dv, bd, e1, e2, y0]
          · simp only [rs, dv, bd, Option.bind_some, bdd, y0, if_false]
            by_cases e : 1000000000 < x.tdiv y ∨ x.tdiv y < -1000000000
            · simp [e, y0]
            · simp [e, y0]
    · simp [rs, dv, bd]
/-- what reading a sum alive or not makes, by sorts -/
def SQ (h : QH) (o : Nat) (q : Nat → Nat) (s dp pos p : Nat) (acc dn : Den) : Prop := ∀ D live b, live < 2 → b < 2 →
  (s = 0 → 3 * (9 - dp) + 3 ≤ D → qcl D 230 [qR (some 56), qI (nZ live)] (ev h o pos b) = some (some (qL (lI (rs (dn fun i => q i) live b).1)), ev h o p (rs (dn fun i => q i) live b).2)) ∧
  (s = 1 → 3 * (9 - dp) + 4 ≤ D → qcl D 269 [qR (some 56), qI (nZ live)] (ev h o pos b) = some (some (qL (lI (rs (dn fun i => q i) live b).1)), ev h o p (rs (dn fun i => q i) live b).2)) ∧
  (s = 2 → 3 * (9 - dp) + 4 ≤ D → qbig D 269 6 [sR (some 56), sI (nZ live), sL (lI (rs (acc fun i => q i) live b).1), none, none, none, none] [] (ev h o pos (rs (acc fun i => q i) live b).2) = some (some (qL (lI (rs (dn fun i => q i) live b).1)), ev h o p (rs (dn fun i => q i) live b).2)) ∧
  (s = 3 → 3 * (9 - dp) + 5 ≤ D → qcl D 263 [qR (some 56), qI (nZ live)] (ev h o pos b) = some (some (qL (lI (rs (dn fun i => q i) live b).1)), ev h o p (rs (dn fun i => q i) live b).2)) ∧
  (s = 4 → 3 * (9 - dp) + 5 ≤ D → qbig D 263 6 [sR (some 56), sI (nZ live), sL (lI (rs (acc fun i => q i) live b).1), none, none, none, none] [] (ev h o pos (rs (acc fun i => q i) live b).2) = some (some (qL (lI (rs (dn fun i => q i) live b).1)), ev h o p (rs (dn fun i => q i) live b).2))
theorem SE {h : QH} {C V q : Nat → Nat} {N o : Nat} (X : EV h C V q N o) : ∀ f s pos lv dp z acc p lv' cs dn, P C V N f s pos lv dp z 0 acc = .inr (p, lv', cs, dn) → s < 5 → pos ≤ 400 → dp ≤ 8 → (s = 2 ∨ s = 4 → sm (acc fun i => q i)) → sm (dn fun i => q i) ∧ p ≤ 400 ∧ SQ h o q s dp pos p acc dn := by
  have hN := X.2.1
  have ho := X.2.2.1
  have z10 : (nZ 1 = nZ 0) = False := by decide
  have e0 : (nZ 0).toInt64 = lI 0 := lI_nat (by decide)
  intro f
  induction f with
  | zero =>
    intro s pos lv dp z acc p lv' cs dn e
    cases e
  | succ f ih =>
    intro s pos lv dp z acc p lv' cs dn e hs hpos hdp hac
    have s5 : s = 0 ∨ s = 1 ∨ s = 2 ∨ s = 3 ∨ s = 4 := by omega
    rcases s5 with r | r | r | r | r <;> subst r
    · rw [P_0] at e
      by_cases c1 : cAt C N pos = 191
      · rw [if_pos c1] at e
        by_cases c2 : dp = 8
        · rw [if_pos c2] at e
          cases e
        · rw [if_neg c2] at e
          obtain ⟨p1, l1', cs1, dn1, e1, e2⟩ := rdB_inr e
          by_cases c3 : cAt C N p1 = 193
          · rw [if_pos c3] at e2
            cases e2
            have hp1 := C_pos (C := C) (N := N) (k := pos) (by omega)
            have hp2 := C_pos (C := C) (N := N) (k := p1) (by omega)
            obtain ⟨i1, i2, i3⟩ := ih 3 (pos + 1) lv (dp + 1) z acc p1 _ _ _ e1 (by decide) (by omega) (by omega) (by omega)
            refine ⟨i1, by omega, ?_⟩
            intro D live b hl hb
            refine ⟨?_, by omega, by omega, by omega, by omega⟩
            intro _ hD
            obtain ⟨d, rfl⟩ : ∃ d, D = d + 3 := ⟨D - 3, by omega⟩
            have q1 := (i3 (d + 2) live b hl hb).2.2.2.1 rfl (by omega)
            have H1 : Sh (ev h o pos b) := X.1
            have H2 : Sh (ev h o (pos + 1) b) := X.1
            generalize rs (dn fun i => q i) live b = w at *
            have H3 : Sh (ev h o p1 w.2) := X.1
            simp (disch := first | assumption | omega | (simp only [Sh_si, Sh_sA]; assumption)) only [E230, m254, m231 X, c1, q1, ev_19, ev_s19, p56_0, g56_0, p56_1, g56_1, g56_2, g56_3, g56_4, g56_5, p56_6, g56_6, g56_7, g56_8, g56_9, p56_10, g56_10, p56_11, g56_11, g56_12, g56_13, g56_14, p56_15, g56_15, p56_16, g56_16, p56_17, g56_17, p56_18, g56_18, p56_19, g56_19, p56_20, g56_20, B56_21, g56_21, g56_22, g56_23, g56_24, g56_25, g56_26, g56_27, p56_28, g56_28, p56_29, g56_29, p56_30, g56_30, p56_31, g56_31, g56_32, g56_33, g56_34, p56_35, g56_35, p56_36, g56_36, p56_37, g56_37, p56_38, g56_38, g56_39, g56_40, g56_41, p56_42, g56_42, p56_43, g56_43, p56_44, g56_44, ck56, A57, S57, l57, A58, S58, l58, A59, S59, l59, A60, S60, l60, A61, S61, l61, A62, S62, l62, A63, S63, l63, A64, S64, l64, A65, S65, l65, A66, S66, l66, A67, S67, l67, A68, S68, l68, A69, S69, l69, A70, S70, l70, A71, S71, l71, A72, S72, l72, A73, S73, l73, A74, S74, l74, A75, S75, l75, A76, S76, l76, A77, S77, l77, A78, S78, l78, L0, L1, L2, L3, L4, L5, L6, L7, L8, L9, L10, L11, L12, L13, L14, L15, L16, L17, L18, L19, L20, L21, L22, L23, L24, L25, L26, L27, L28, L29, L30, L31, L32, L33, L34, L35, L36, L37, L38, L39, L40, L41, L42, L43, L44, L45, L46, L47, L48, L49, L50, L52, L57, L60, L90, L91, L93, L97, L99, L100, L101, L122, L240, L255, L256, L400, L401, L408, L409, L410, L411, L412, L413, L414, L420, L1000, L1001, L1103, L1200, L1240, L2820, L5220, L7936, L10440, L12345, L1000000, L1000003, L1073741823, nd_lt_t, nd_lt_f, nd_le_t, nd_le_f, nd_eq_f, nZ_add, nZ_mul, nZ_sub, nZ_lt, nZ_le, nZ_eq, nZ_nat, nZ_div, nZ_rem, nZ_and, nZ_or, and31, nZ_shl, nZ_shr, nZ_m1, nZ_nneg, nZ_nneg', nZ_nlt, nZ_ltn, inR_lt, Nat.not_lt_zero, ob_some, jI, jL, jR, jV, rI0, rI1, rIv, if_true, if_false, ↓reduceIte, Nat.reduceAdd, Nat.reduceMul, Nat.reduceSub, Nat.reduceLT, Nat.reduceEqDiff, Nat.reduceLeDiff, Nat.zero_add, Nat.add_zero, Nat.zero_mul, Nat.mul_zero, Nat.one_mul, Nat.mul_one, and_true, true_and, false_and, and_false, or_true, true_or, or_false, false_or, not_true_eq_false, not_false_eq_true, eq_self, bI_0, bI_1, em_b, hI_ne, hI_at, hA_ne, hA_at, Sh_si, Sh_sA]
          · rw [if_neg c3] at e2
            cases e2
      · rw [if_neg c1] at e
        have c1' := eq_false c1
        by_cases c2 : cAt C N pos = 50 ∧ V pos ≤ 1000
        · rw [if_pos c2] at e
          by_cases c3 : lv = 50
          · rw [if_pos c3] at e
            cases e
          · rw [if_neg c3] at e
            cases e
            have hp1 := C_pos (C := C) (N := N) (k := pos) (by omega)
            refine ⟨fun x hx => ?_, by omega, ?_⟩
            · cases hx
              omega
            · intro D live b hl hb
              refine ⟨?_, by omega, by omega, by omega, by omega⟩
              intro _ hD
              obtain ⟨d, rfl⟩ : ∃ d, D = d + 3 := ⟨D - 3, by omega⟩
              have H1 : Sh (ev h o pos b) := X.1
              have H2 : Sh (ev h o (pos + 1) b) := X.1
              have eV : hI (ev h o (pos + 1) b) 58 (2820 + (o + pos + 1) - 1) = nZ (V pos) := by
                rw [ev_ne (by omega), show 2820 + (o + pos + 1) - 1 = 2820 + (o + pos) by omega]
                exact X.2.2.2.2.2.1 pos hp1
              have eVl : (nZ (V pos)).toInt64 = lI (V pos) := lI_nat (by omega)
              have cc := c2.1
              have b2 : b = 0 ∨ b = 1 := by omega
              have l2 : live = 0 ∨ live = 1 := by omega
              rcases l2 with r | r <;> subst r
              · simp (disch := first | assumption | omega | (simp only [Sh_si, Sh_sA]; assumption)) only [E230, m254, m231 X, cc, ev_19, ev_s19, m178 X, e0, p56_0, g56_0, p56_1, g56_1, g56_2, g56_3, g56_4, g56_5, p56_6, g56_6, g56_7, g56_8, g56_9, p56_10, g56_10, p56_11, g56_11, g56_12, g56_13, g56_14, p56_15, g56_15, p56_16, g56_16, p56_17, g56_17, p56_18, g56_18, p56_19, g56_19, p56_20, g56_20, B56_21, g56_21, g56_22, g56_23, g56_24, g56_25, g56_26, g56_27, p56_28, g56_28, p56_29, g56_29, p56_30, g56_30, p56_31, g56_31, g56_32, g56_33, g56_34, p56_35, g56_35, p56_36, g56_36, p56_37, g56_37, p56_38, g56_38, g56_39, g56_40, g56_41, p56_42, g56_42, p56_43, g56_43, p56_44, g56_44, ck56, A57, S57, l57, A58, S58, l58, A59, S59, l59, A60, S60, l60, A61, S61, l61, A62, S62, l62, A63, S63, l63, A64, S64, l64, A65, S65, l65, A66, S66, l66, A67, S67, l67, A68, S68, l68, A69, S69, l69, A70, S70, l70, A71, S71, l71, A72, S72, l72, A73, S73, l73, A74, S74, l74, A75, S75, l75, A76, S76, l76, A77, S77, l77, A78, S78, l78, L0, L1, L2, L3, L4, L5, L6, L7, L8, L9, L10, L11, L12, L13, L14, L15, L16, L17, L18, L19, L20, L21, L22, L23, L24, L25, L26, L27, L28, L29, L30, L31, L32, L33, L34, L35, L36, L37, L38, L39, L40, L41, L42, L43, L44, L45, L46, L47, L48, L49, L50, L52, L57, L60, L90, L91, L93, L97, L99, L100, L101, L122, L240, L255, L256, L400, L401, L408, L409, L410, L411, L412, L413, L414, L420, L1000, L1001, L1103, L1200, L1240, L2820, L5220, L7936, L10440, L12345, L1000000, L1000003, L1073741823, nd_lt_t, nd_lt_f, nd_le_t, nd_le_f, nd_eq_f, nZ_add, nZ_mul, nZ_sub, nZ_lt, nZ_le, nZ_eq, nZ_nat, nZ_div, nZ_rem, nZ_and, nZ_or, and31, nZ_shl, nZ_shr, nZ_m1, nZ_nneg, nZ_nneg', nZ_nlt, nZ_ltn, inR_lt, Nat.not_lt_zero, ob_some, jI, jL, jR, jV, rI0, rI1, rIv, if_true, if_false, ↓reduceIte, Nat.reduceAdd, Nat.reduceMul, Nat.reduceSub, Nat.reduceLT, Nat.reduceEqDiff, Nat.reduceLeDiff, Nat.zero_add, Nat.add_zero, Nat.zero_mul, Nat.mul_zero, Nat.one_mul, Nat.mul_one, and_true, true_and, false_and, and_false, or_true, true_or, or_false, false_or, not_true_eq_false, not_false_eq_true, eq_self, bI_0, bI_1, em_b, hI_ne, hI_at, hA_ne, hA_at, Sh_si, Sh_sA]
                rfl
              · rcases b2 with r | r <;> subst r
                · simp (disch := first | assumption | omega | (simp only [Sh_si, Sh_sA]; assumption)) only [E230, m254, m231 X, cc, ev_19, ev_s19, ev_21, m178 X, e0, eV, eVl, p56_0, g56_0, p56_1, g56_1, g56_2, g56_3, g56_4, g56_5, p56_6, g56_6, g56_7, g56_8, g56_9, p56_10, g56_10, p56_11, g56_11, g56_12, g56_13, g56_14, p56_15, g56_15, p56_16, g56_16, p56_17, g56_17, p56_18, g56_18, p56_19, g56_19, p56_20, g56_20, B56_21, g56_21, g56_22, g56_23, g56_24, g56_25, g56_26, g56_27, p56_28, g56_28, p56_29, g56_29, p56_30, g56_30, p56_31, g56_31, g56_32, g56_33, g56_34, p56_35, g56_35, p56_36, g56_36, p56_37, g56_37, p56_38, g56_38, g56_39, g56_40, g56_41, p56_42, g56_42, p56_43, g56_43, p56_44, g56_44, ck56, A57, S57, l57, A58, S58, l58, A59, S59, l59, A60, S60, l60, A61, S61, l61, A62, S62, l62, A63, S63, l63, A64, S64, l64, A65, S65, l65, A66, S66, l66, A67, S67, l67, A68, S68, l68, A69, S69, l69, A70, S70, l70, A71, S71, l71, A72, S72, l72, A73, S73, l73, A74, S74, l74, A75, S75, l75, A76, S76, l76, A77, S77, l77, A78, S78, l78, L0, L1, L2, L3, L4, L5, L6, L7, L8, L9, L10, L11, L12, L13, L14, L15, L16, L17, L18, L19, L20, L21, L22, L23, L24, L25, L26, L27, L28, L29, L30, L31, L32, L33, L34, L35, L36, L37, L38, L39, L40, L41, L42, L43, L44, L45, L46, L47, L48, L49, L50, L52, L57, L60, L90, L91, L93, L97, L99, L100, L101, L122, L240, L255, L256, L400, L401, L408, L409, L410, L411, L412, L413, L414, L420, L1000, L1001, L1103, L1200, L1240, L2820, L5220, L7936, L10440, L12345, L1000000, L1000003, L1073741823, nd_lt_t, nd_lt_f, nd_le_t, nd_le_f, nd_eq_f, nZ_add, nZ_mul, nZ_sub, nZ_lt, nZ_le, nZ_eq, nZ_nat, nZ_div, nZ_rem, nZ_and, nZ_or, and31, nZ_shl, nZ_shr, nZ_m1, nZ_nneg, nZ_nneg', nZ_nlt, nZ_ltn, inR_lt, Nat.not_lt_zero, ob_some, jI, jL, jR, jV, rI0, rI1, rIv, if_true, if_false, ↓reduceIte, Nat.reduceAdd, Nat.reduceMul, Nat.reduceSub, Nat.reduceLT, Nat.reduceEqDiff, Nat.reduceLeDiff, Nat.zero_add, Nat.add_zero, Nat.zero_mul, Nat.mul_zero, Nat.one_mul, Nat.mul_one, and_true, true_and, false_and, and_false, or_true, true_or, or_false, false_or, not_true_eq_false, not_false_eq_true, eq_self, bI_0, bI_1, em_b, hI_ne, hI_at, hA_ne, hA_at, Sh_si, Sh_sA]
                  rfl
                · simp (disch := first | assumption | omega | (simp only [Sh_si, Sh_sA]; assumption)) only [E230, m254, m231 X, cc, ev_19, ev_s19, ev_21, m178 X, e0, p56_0, g56_0, p56_1, g56_1, g56_2, g56_3, g56_4, g56_5, p56_6, g56_6, g56_7, g56_8, g56_9, p56_10, g56_10, p56_11, g56_11, g56_12, g56_13, g56_14, p56_15, g56_15, p56_16, g56_16, p56_17, g56_17, p56_18, g56_18, p56_19, g56_19, p56_20, g56_20, B56_21, g56_21, g56_22, g56_23, g56_24, g56_25, g56_26, g56_27, p56_28, g56_28, p56_29, g56_29, p56_30, g56_30, p56_31, g56_31, g56_32, g56_33, g56_34, p56_35, g56_35, p56_36, g56_36, p56_37, g56_37, p56_38, g56_38, g56_39, g56_40, g56_41, p56_42, g56_42, p56_43, g56_43, p56_44, g56_44, ck56, A57, S57, l57, A58, S58, l58, A59, S59, l59, A60, S60, l60, A61, S61, l61, A62, S62, l62, A63, S63, l63, A64, S64, l64, A65, S65, l65, A66, S66, l66, A67, S67, l67, A68, S68, l68, A69, S69, l69, A70, S70, l70, A71, S71, l71, A72, S72, l72, A73, S73, l73, A74, S74, l74, A75, S75, l75, A76, S76, l76, A77, S77, l77, A78, S78, l78, L0, L1, L2, L3, L4, L5, L6, L7, L8, L9, L10, L11, L12, L13, L14, L15, L16, L17, L18, L19, L20, L21, L22, L23, L24, L25, L26, L27, L28, L29, L30, L31, L32, L33, L34, L35, L36, L37, L38, L39, L40, L41, L42, L43, L44, L45, L46, L47, L48, L49, L50, L52, L57, L60, L90, L91, L93, L97, L99, L100, L101, L122, L240, L255, L256, L400, L401, L408, L409, L410, L411, L412, L413, L414, L420, L1000, L1001, L1103, L1200, L1240, L2820, L5220, L7936, L10440, L12345, L1000000, L1000003, L1073741823, nd_lt_t, nd_lt_f, nd_le_t, nd_le_f, nd_eq_f, nZ_add, nZ_mul, nZ_sub, nZ_lt, nZ_le, nZ_eq, nZ_nat, nZ_div, nZ_rem, nZ_and, nZ_or, and31, nZ_shl, nZ_shr, nZ_m1, nZ_nneg, nZ_nneg', nZ_nlt, nZ_ltn, inR_lt, Nat.not_lt_zero, ob_some, jI, jL, jR, jV, rI0, rI1, rIv, if_true, if_false, ↓reduceIte, Nat.reduceAdd, Nat.reduceMul, Nat.reduceSub, Nat.reduceLT, Nat.reduceEqDiff, Nat.reduceLeDiff, Nat.zero_add, Nat.add_zero, Nat.zero_mul, Nat.mul_zero, Nat.one_mul, Nat.mul_one, and_true, true_and, false_and, and_false, or_true, true_or, or_false, false_or, not_true_eq_false, not_false_eq_true, eq_self, bI_0, bI_1, em_b, hI_ne, hI_at, hA_ne, hA_at, Sh_si, Sh_sA]
                  rfl
        · rw [if_neg c2] at e
          by_cases c4 : 9 ≤ cAt C N pos ∧ cAt C N pos ≤ 17
          · rw [if_pos c4] at e
            by_cases c3 : lv = 50
            · rw [if_pos c3] at e
              cases e
            · rw [if_neg c3] at e
              cases e
              have hp1 := C_pos (C := C) (N := N) (k := pos) (by omega)
              have hq := X.2.2.2.2.2.2 (cAt C N pos - 9) (by omega)
              refine ⟨fun x hx => ?_, by omega, ?_⟩
              · have hx' : (q (cAt C N pos - 9) : Int) = x := Option.some.inj hx
                omega
              · intro D live b hl hb
                refine ⟨?_, by omega, by omega, by omega, by omega⟩
                intro _ hD
                obtain ⟨d, rfl⟩ : ∃ d, D = d + 3 := ⟨D - 3, by omega⟩
                have H1 : Sh (ev h o pos b) := X.1
                have H2 : Sh (ev h o (pos + 1) b) := X.1
                have eV : ∀ g b, hI (ev h o g b) 67 (cAt C N pos - 9) = nZ (q (cAt C N pos - 9)) := fun g b => (ev_ne (by omega)).trans hq.1
                have eVl : (nZ (q (cAt C N pos - 9))).toInt64 = lI (q (cAt C N pos - 9)) := lI_nat (by omega)
                have b2 : b = 0 ∨ b = 1 := by omega
                have l2 : live = 0 ∨ live = 1 := by omega
                rcases l2 with r | r <;> subst r
                · simp (disch := first | assumption | omega | (simp only [Sh_si, Sh_sA]; assumption)) only [E230, m254, m231 X, c1', ev_19, ev_s19, m178 X, e0, p56_0, g56_0, p56_1, g56_1, g56_2, g56_3, g56_4, g56_5, p56_6, g56_6, g56_7, g56_8, g56_9, p56_10, g56_10, p56_11, g56_11, g56_12, g56_13, g56_14, p56_15, g56_15, p56_16, g56_16, p56_17, g56_17, p56_18, g56_18, p56_19, g56_19, p56_20, g56_20, B56_21, g56_21, g56_22, g56_23, g56_24, g56_25, g56_26, g56_27, p56_28, g56_28, p56_29, g56_29, p56_30, g56_30, p56_31, g56_31, g56_32, g56_33, g56_34, p56_35, g56_35, p56_36, g56_36, p56_37, g56_37, p56_38, g56_38, g56_39, g56_40, g56_41, p56_42, g56_42, p56_43, g56_43, p56_44, g56_44, ck56, A57, S57, l57, A58, S58, l58, A59, S59, l59, A60, S60, l60, A61, S61, l61, A62, S62, l62, A63, S63, l63, A64, S64, l64, A65, S65, l65, A66, S66, l66, A67, S67, l67, A68, S68, l68, A69, S69, l69, A70, S70, l70, A71, S71, l71, A72, S72, l72, A73, S73, l73, A74, S74, l74, A75, S75, l75, A76, S76, l76, A77, S77, l77, A78, S78, l78, L0, L1, L2, L3, L4, L5, L6, L7, L8, L9, L10, L11, L12, L13, L14, L15, L16, L17, L18, L19, L20, L21, L22, L23, L24, L25, L26, L27, L28, L29, L30, L31, L32, L33, L34, L35, L36, L37, L38, L39, L40, L41, L42, L43, L44, L45, L46, L47, L48, L49, L50, L52, L57, L60, L90, L91, L93, L97, L99, L100, L101, L122, L240, L255, L256, L400, L401, L408, L409, L410, L411, L412, L413, L414, L420, L1000, L1001, L1103, L1200, L1240, L2820, L5220, L7936, L10440, L12345, L1000000, L1000003, L1073741823, nd_lt_t, nd_lt_f, nd_le_t, nd_le_f, nd_eq_f, nZ_add, nZ_mul, nZ_sub, nZ_lt, nZ_le, nZ_eq, nZ_nat, nZ_div, nZ_rem, nZ_and, nZ_or, and31, nZ_shl, nZ_shr, nZ_m1, nZ_nneg, nZ_nneg', nZ_nlt, nZ_ltn, inR_lt, Nat.not_lt_zero, ob_some, jI, jL, jR, jV, rI0, rI1, rIv, if_true, if_false, ↓reduceIte, Nat.reduceAdd, Nat.reduceMul, Nat.reduceSub, Nat.reduceLT, Nat.reduceEqDiff, Nat.reduceLeDiff, Nat.zero_add, Nat.add_zero, Nat.zero_mul, Nat.mul_zero, Nat.one_mul, Nat.mul_one, and_true, true_and, false_and, and_false, or_true, true_or, or_false, false_or, not_true_eq_false, not_false_eq_true, eq_self, bI_0, bI_1, em_b, hI_ne, hI_at, hA_ne, hA_at, Sh_si, Sh_sA]
                  rfl
                · rcases b2 with r | r <;> subst r
                  · simp (disch := first | assumption | omega | (simp only [Sh_si, Sh_sA]; assumption)) only [E230, m254, m231 X, c1', ev_19, ev_s19, ev_21, m178 X, e0, eV, eVl, p56_0, g56_0, p56_1, g56_1, g56_2, g56_3, g56_4, g56_5, p56_6, g56_6, g56_7, g56_8, g56_9, p56_10, g56_10, p56_11, g56_11, g56_12, g56_13, g56_14, p56_15, g56_15, p56_16, g56_16, p56_17, g56_17, p56_18, g56_18, p56_19, g56_19, p56_20, g56_20, B56_21, g56_21, g56_22, g56_23, g56_24, g56_25, g56_26, g56_27, p56_28, g56_28, p56_29, g56_29, p56_30, g56_30, p56_31, g56_31, g56_32, g56_33, g56_34, p56_35, g56_35, p56_36, g56_36, p56_37, g56_37, p56_38, g56_38, g56_39, g56_40, g56_41, p56_42, g56_42, p56_43, g56_43, p56_44, g56_44, ck56, A57, S57, l57, A58, S58, l58, A59, S59, l59, A60, S60, l60, A61, S61, l61, A62, S62, l62, A63, S63, l63, A64, S64, l64, A65, S65, l65, A66, S66, l66, A67, S67, l67, A68, S68, l68, A69, S69, l69, A70, S70, l70, A71, S71, l71, A72, S72, l72, A73, S73, l73, A74, S74, l74, A75, S75, l75, A76, S76, l76, A77, S77, l77, A78, S78, l78, L0, L1, L2, L3, L4, L5, L6, L7, L8, L9, L10, L11, L12, L13, L14, L15, L16, L17, L18, L19, L20, L21, L22, L23, L24, L25, L26, L27, L28, L29, L30, L31, L32, L33, L34, L35, L36, L37, L38, L39, L40, L41, L42, L43, L44, L45, L46, L47, L48, L49, L50, L52, L57, L60, L90, L91, L93, L97, L99, L100, L101, L122, L240, L255, L256, L400, L401, L408, L409, L410, L411, L412, L413, L414, L420, L1000, L1001, L1103, L1200, L1240, L2820, L5220, L7936, L10440, L12345, L1000000, L1000003, L1073741823, nd_lt_t, nd_lt_f, nd_le_t, nd_le_f, nd_eq_f, nZ_add, nZ_mul, nZ_sub, nZ_lt, nZ_le, nZ_eq, nZ_nat, nZ_div, nZ_rem, nZ_and, nZ_or, and31, nZ_shl, nZ_shr, nZ_m1, nZ_nneg, nZ_nneg', nZ_nlt, nZ_ltn, inR_lt, Nat.not_lt_zero, ob_some, jI, jL, jR, jV, rI0, rI1, rIv, if_true, if_false, ↓reduceIte, Nat.reduceAdd, Nat.reduceMul, Nat.reduceSub, Nat.reduceLT, Nat.reduceEqDiff, Nat.reduceLeDiff, Nat.zero_add, Nat.add_zero, Nat.zero_mul, Nat.mul_zero, Nat.one_mul, Nat.mul_one, and_true, true_and, false_and, and_false, or_true, true_or, or_false, false_or, not_true_eq_false, not_false_eq_true, eq_self, bI_0, bI_1, em_b, hI_ne, hI_at, hA_ne, hA_at, Sh_si, Sh_sA]
                    rfl
                  · simp (disch := first | assumption | omega | (simp only [Sh_si, Sh_sA]; assumption)) only [E230, m254, m231 X, c1', ev_19, ev_s19, ev_21, m178 X, e0, p56_0, g56_0, p56_1, g56_1, g56_2, g56_3, g56_4, g56_5, p56_6, g56_6, g56_7, g56_8, g56_9, p56_10, g56_10, p56_11, g56_11, g56_12, g56_13, g56_14, p56_15, g56_15, p56_16, g56_16, p56_17, g56_17, p56_18, g56_18, p56_19, g56_19, p56_20, g56_20, B56_21, g56_21, g56_22, g56_23, g56_24, g56_25, g56_26, g56_27, p56_28, g56_28, p56_29, g56_29, p56_30, g56_30, p56_31, g56_31, g56_32, g56_33, g56_34, p56_35, g56_35, p56_36, g56_36, p56_37, g56_37, p56_38, g56_38, g56_39, g56_40, g56_41, p56_42, g56_42, p56_43, g56_43, p56_44, g56_44, ck56, A57, S57, l57, A58, S58, l58, A59, S59, l59, A60, S60, l60, A61, S61, l61, A62, S62, l62, A63, S63, l63, A64, S64, l64, A65, S65, l65, A66, S66, l66, A67, S67, l67, A68, S68, l68, A69, S69, l69, A70, S70, l70, A71, S71, l71, A72, S72, l72, A73, S73, l73, A74, S74, l74, A75, S75, l75, A76, S76, l76, A77, S77, l77, A78, S78, l78, L0, L1, L2, L3, L4, L5, L6, L7, L8, L9, L10, L11, L12, L13, L14, L15, L16, L17, L18, L19, L20, L21, L22, L23, L24, L25, L26, L27, L28, L29, L30, L31, L32, L33, L34, L35, L36, L37, L38, L39, L40, L41, L42, L43, L44, L45, L46, L47, L48, L49, L50, L52, L57, L60, L90, L91, L93, L97, L99, L100, L101, L122, L240, L255, L256, L400, L401, L408, L409, L410, L411, L412, L413, L414, L420, L1000, L1001, L1103, L1200, L1240, L2820, L5220, L7936, L10440, L12345, L1000000, L1000003, L1073741823, nd_lt_t, nd_lt_f, nd_le_t, nd_le_f, nd_eq_f, nZ_add, nZ_mul, nZ_sub, nZ_lt, nZ_le, nZ_eq, nZ_nat, nZ_div, nZ_rem, nZ_and, nZ_or, and31, nZ_shl, nZ_shr, nZ_m1, nZ_nneg, nZ_nneg', nZ_nlt, nZ_ltn, inR_lt, Nat.not_lt_zero, ob_some, jI, jL, jR, jV, rI0, rI1, rIv, if_true, if_false, ↓reduceIte, Nat.reduceAdd, Nat.reduceMul, Nat.reduceSub, Nat.reduceLT, Nat.reduceEqDiff, Nat.reduceLeDiff, Nat.zero_add, Nat.add_zero, Nat.zero_mul, Nat.mul_zero, Nat.one_mul, Nat.mul_one, and_true, true_and, false_and, and_false, or_true, true_or, or_false, false_or, not_true_eq_false, not_false_eq_true, eq_self, bI_0, bI_1, em_b, hI_ne, hI_at, hA_ne, hA_at, Sh_si, Sh_sA]
                    rfl
          · rw [if_neg c4] at e
            cases e
    · rw [P_1] at e
      obtain ⟨p1, lv1, cs1, dn1, e1, e2⟩ := rdB_inr e
      obtain ⟨p2, lv2, cs2, dn2, e3, e4⟩ := rdB_inr e2
      cases e4
      obtain ⟨i1, i2, i3⟩ := ih 0 pos lv dp z acc p1 _ _ _ e1 (by decide) hpos hdp (by omega)
      obtain ⟨j1, j2, j3⟩ := ih 2 p1 lv1 dp _ dn1 p _ _ _ e3 (by decide) i2 hdp (fun _ => i1)
      refine ⟨j1, j2, ?_⟩
      intro D live b hl hb
      refine ⟨by omega, ?_, by omega, by omega, by omega⟩
      intro _ hD
      obtain ⟨d, rfl⟩ : ∃ d, D = d + 1 := ⟨D - 1, by omega⟩
      have q1 := (i3 d live b hl hb).1 rfl (by omega)
      have q2 := (j3 (d + 1) live b hl hb).2.2.1 rfl (by omega)
      have H1 : Sh (ev h o pos b) := X.1
      simp (disch := first | assumption | omega | (simp only [Sh_si, Sh_sA]; assumption)) only [E269, q1, q2, p56_0, g56_0, p56_1, g56_1, g56_2, g56_3, g56_4, g56_5, p56_6, g56_6, g56_7, g56_8, g56_9, p56_10, g56_10, p56_11, g56_11, g56_12, g56_13, g56_14, p56_15, g56_15, p56_16, g56_16, p56_17, g56_17, p56_18, g56_18, p56_19, g56_19, p56_20, g56_20, B56_21, g56_21, g56_22, g56_23, g56_24, g56_25, g56_26, g56_27, p56_28, g56_28, p56_29, g56_29, p56_30, g56_30, p56_31, g56_31, g56_32, g56_33, g56_34, p56_35, g56_35, p56_36, g56_36, p56_37, g56_37, p56_38, g56_38, g56_39, g56_40, g56_41, p56_42, g56_42, p56_43, g56_43, p56_44, g56_44, ck56, A57, S57, l57, A58, S58, l58, A59, S59, l59, A60, S60, l60, A61, S61, l61, A62, S62, l62, A63, S63, l63, A64, S64, l64, A65, S65, l65, A66, S66, l66, A67, S67, l67, A68, S68, l68, A69, S69, l69, A70, S70, l70, A71, S71, l71, A72, S72, l72, A73, S73, l73, A74, S74, l74, A75, S75, l75, A76, S76, l76, A77, S77, l77, A78, S78, l78, L0, L1, L2, L3, L4, L5, L6, L7, L8, L9, L10, L11, L12, L13, L14, L15, L16, L17, L18, L19, L20, L21, L22, L23, L24, L25, L26, L27, L28, L29, L30, L31, L32, L33, L34, L35, L36, L37, L38, L39, L40, L41, L42, L43, L44, L45, L46, L47, L48, L49, L50, L52, L57, L60, L90, L91, L93, L97, L99, L100, L101, L122, L240, L255, L256, L400, L401, L408, L409, L410, L411, L412, L413, L414, L420, L1000, L1001, L1103, L1200, L1240, L2820, L5220, L7936, L10440, L12345, L1000000, L1000003, L1073741823, nd_lt_t, nd_lt_f, nd_le_t, nd_le_f, nd_eq_f, nZ_add, nZ_mul, nZ_sub, nZ_lt, nZ_le, nZ_eq, nZ_nat, nZ_div, nZ_rem, nZ_and, nZ_or, and31, nZ_shl, nZ_shr, nZ_m1, nZ_nneg, nZ_nneg', nZ_nlt, nZ_ltn, inR_lt, Nat.not_lt_zero, ob_some, jI, jL, jR, jV, rI0, rI1, rIv, if_true, if_false, ↓reduceIte, Nat.reduceAdd, Nat.reduceMul, Nat.reduceSub, Nat.reduceLT, Nat.reduceEqDiff, Nat.reduceLeDiff, Nat.zero_add, Nat.add_zero, Nat.zero_mul, Nat.mul_zero, Nat.one_mul, Nat.mul_one, and_true, true_and, false_and, and_false, or_true, true_or, or_false, false_or, not_true_eq_false, not_false_eq_true, eq_self, bI_0, bI_1, em_b, hI_ne, hI_at, hA_ne, hA_at, Sh_si, Sh_sA]
    · rw [P_2] at e
      by_cases c1 : cAt C N pos = 142 ∨ cAt C N pos = 147
      · rw [if_pos c1] at e
        obtain ⟨p1, lv1, cs1, dn1, e1, e2⟩ := rdB_inr e
        obtain ⟨p2, lv2, cs2, dn2, e3, e4⟩ := rdB_inr e2
        cases e4
        have hp1 := C_pos (C := C) (N := N) (k := pos) (by omega)
        obtain ⟨i1, i2, i3⟩ := ih 0 (pos + 1) lv dp z acc p1 _ _ _ e1 (by decide) (by omega) hdp (by omega)
        have ha := hac (Or.inl rfl)
        have hs2 : sm ((if cAt C N pos = 142 then dMul acc dn1 else dDiv acc dn1) fun i => q i) := by
          split
          · exact sm_bind2 fun x y => sm_bdd _
          · refine sm_bind2 fun x y => ?_
            split
            · exact fun x hx => by cases hx
            · exact sm_bdd _
        obtain ⟨j1, j2, j3⟩ := ih 2 p1 lv1 dp _ _ p _ _ _ e3 (by decide) i2 hdp (fun _ => hs2)
        refine ⟨j1, j2, ?_⟩
        intro D live b hl hb
        refine ⟨by omega, by omega, ?_, by omega, by omega⟩
        intro _ hD
        obtain ⟨d, rfl⟩ : ∃ d, D = d + 3 := ⟨D - 3, by omega⟩
        have hb0 : (rs (acc fun i => q i) live b).2 < 2 := rs_b hb
        have q1 := (i3 (d + 2) live _ hl hb0).1 rfl (by omega)
        have q2 := (j3 (d + 3) live b hl hb).2.2.1 rfl (by omega)
        have hb1 : (rs (dn1 fun i => q i) live (rs (acc fun i => q i) live b).2).2 < 2 := rs_b hb0
        by_cases c2 : cAt C N pos = 142
        · rw [if_pos c2] at q2
          rw [m269_mul X d pos p1 _ _ live _ _ hl hb1 (rs_sm ha live b) (rs_sm i1 live _) (by omega) c2 q1]
          have eb := bd_op (a := acc fun i => q i) (b := dn1 fun i => q i) (fun x y => x * y) (by decide) (fun x hx => by simp) ha hl hb
          rw [eb]
          exact q2
        · have c3 : cAt C N pos = 147 := by omega
          rw [if_neg c2] at q2
          rw [m269_div X d pos p1 _ _ live _ _ hl hb1 (rs_sm ha live b) (rs_sm i1 live _) (by omega) c3 q1]
          have eb := dv_op (a := acc fun i => q i) (b := dn1 fun i => q i) ha hl hb
          rw [eb]
          exact q2
      · rw [if_neg c1] at e
        cases e
        refine ⟨hac (Or.inl rfl), hpos, ?_⟩
        intro D live b hl hb
        refine ⟨by omega, by omega, ?_, by omega, by omega⟩
        intro _ hD
        obtain ⟨d, rfl⟩ : ∃ d, D = d + 3 := ⟨D - 3, by omega⟩
        have n1 : (cAt C N pos = 142) = False := eq_false (by omega)
        have n2 : (cAt C N pos = 147) = False := eq_false (by omega)
        have hC := cAt_lt X pos
        rw [E269_6]
        generalize rs (acc fun i => q i) live b = w at *
        have H3 : Sh (ev h o pos w.2) := X.1
        simp (disch := first | assumption | omega | (simp only [Sh_si, Sh_sA]; assumption)) only [m254, n1, n2, ev_19, m178 X, p56_0, g56_0, p56_1, g56_1, g56_2, g56_3, g56_4, g56_5, p56_6, g56_6, g56_7, g56_8, g56_9, p56_10, g56_10, p56_11, g56_11, g56_12, g56_13, g56_14, p56_15, g56_15, p56_16, g56_16, p56_17, g56_17, p56_18, g56_18, p56_19, g56_19, p56_20, g56_20, B56_21, g56_21, g56_22, g56_23, g56_24, g56_25, g56_26, g56_27, p56_28, g56_28, p56_29, g56_29, p56_30, g56_30, p56_31, g56_31, g56_32, g56_33, g56_34, p56_35, g56_35, p56_36, g56_36, p56_37, g56_37, p56_38, g56_38, g56_39, g56_40, g56_41, p56_42, g56_42, p56_43, g56_43, p56_44, g56_44, ck56, A57, S57, l57, A58, S58, l58, A59, S59, l59, A60, S60, l60, A61, S61, l61, A62, S62, l62, A63, S63, l63, A64, S64, l64, A65, S65, l65, A66, S66, l66, A67, S67, l67, A68, S68, l68, A69, S69, l69, A70, S70, l70, A71, S71, l71, A72, S72, l72, A73, S73, l73, A74, S74, l74, A75, S75, l75, A76, S76, l76, A77, S77, l77, A78, S78, l78, L0, L1, L2, L3, L4, L5, L6, L7, L8, L9, L10, L11, L12, L13, L14, L15, L16, L17, L18, L19, L20, L21, L22, L23, L24, L25, L26, L27, L28, L29, L30, L31, L32, L33, L34, L35, L36, L37, L38, L39, L40, L41, L42, L43, L44, L45, L46, L47, L48, L49, L50, L52, L57, L60, L90, L91, L93, L97, L99, L100, L101, L122, L240, L255, L256, L400, L401, L408, L409, L410, L411, L412, L413, L414, L420, L1000, L1001, L1103, L1200, L1240, L2820, L5220, L7936, L10440, L12345, L1000000, L1000003, L1073741823, nd_lt_t, nd_lt_f, nd_le_t, nd_le_f, nd_eq_f, nZ_add, nZ_mul, nZ_sub, nZ_lt, nZ_le, nZ_eq, nZ_nat, nZ_div, nZ_rem, nZ_and, nZ_or, and31, nZ_shl, nZ_shr, nZ_m1, nZ_nneg, nZ_nneg', nZ_nlt, nZ_ltn, inR_lt, Nat.not_lt_zero, ob_some, jI, jL, jR, jV, rI0, rI1, rIv, if_true, if_false, ↓reduceIte, Nat.reduceAdd, Nat.reduceMul, Nat.reduceSub, Nat.reduceLT, Nat.reduceEqDiff, Nat.reduceLeDiff, Nat.zero_add, Nat.add_zero, Nat.zero_mul, Nat.mul_zero, Nat.one_mul, Nat.mul_one, and_true, true_and, false_and, and_false, or_true, true_or, or_false, false_or, not_true_eq_false, not_false_eq_true, eq_self, bI_0, bI_1, em_b, hI_ne, hI_at, hA_ne, hA_at, Sh_si, Sh_sA]
    · rw [P_3] at e
      obtain ⟨p1, lv1, cs1, dn1, e1, e2⟩ := rdB_inr e
      obtain ⟨p2, lv2, cs2, dn2, e3, e4⟩ := rdB_inr e2
      cases e4
      obtain ⟨i1, i2, i3⟩ := ih 1 pos lv dp z acc p1 _ _ _ e1 (by decide) hpos hdp (by omega)
      obtain ⟨j1, j2, j3⟩ := ih 4 p1 lv1 dp _ dn1 p _ _ _ e3 (by decide) i2 hdp (fun _ => i1)
      refine ⟨j1, j2, ?_⟩
      intro D live b hl hb
      refine ⟨by omega, by omega, by omega, ?_, by omega⟩
      intro _ hD
      obtain ⟨d, rfl⟩ : ∃ d, D = d + 1 := ⟨D - 1, by omega⟩
      have q1 := (i3 d live b hl hb).2.1 rfl (by omega)
      have q2 := (j3 (d + 1) live b hl hb).2.2.2.2 rfl (by omega)
      have H1 : Sh (ev h o pos b) := X.1
      simp (disch := first | assumption | omega | (simp only [Sh_si, Sh_sA]; assumption)) only [E263, q1, q2, p56_0, g56_0, p56_1, g56_1, g56_2, g56_3, g56_4, g56_5, p56_6, g56_6, g56_7, g56_8, g56_9, p56_10, g56_10, p56_11, g56_11, g56_12, g56_13, g56_14, p56_15, g56_15, p56_16, g56_16, p56_17, g56_17, p56_18, g56_18, p56_19, g56_19, p56_20, g56_20, B56_21, g56_21, g56_22, g56_23, g56_24, g56_25, g56_26, g56_27, p56_28, g56_28, p56_29, g56_29, p56_30, g56_30, p56_31, g56_31, g56_32, g56_33, g56_34, p56_35, g56_35, p56_36, g56_36, p56_37, g56_37, p56_38, g56_38, g56_39, g56_40, g56_41, p56_42, g56_42, p56_43, g56_43, p56_44, g56_44, ck56, A57, S57, l57, A58, S58, l58, A59, S59, l59, A60, S60, l60, A61, S61, l61, A62, S62, l62, A63, S63, l63, A64, S64, l64, A65, S65, l65, A66, S66, l66, A67, S67, l67, A68, S68, l68, A69, S69, l69, A70, S70, l70, A71, S71, l71, A72, S72, l72, A73, S73, l73, A74, S74, l74, A75, S75, l75, A76, S76, l76, A77, S77, l77, A78, S78, l78, L0, L1, L2, L3, L4, L5, L6, L7, L8, L9, L10, L11, L12, L13, L14, L15, L16, L17, L18, L19, L20, L21, L22, L23, L24, L25, L26, L27, L28, L29, L30, L31, L32, L33, L34, L35, L36, L37, L38, L39, L40, L41, L42, L43, L44, L45, L46, L47, L48, L49, L50, L52, L57, L60, L90, L91, L93, L97, L99, L100, L101, L122, L240, L255, L256, L400, L401, L408, L409, L410, L411, L412, L413, L414, L420, L1000, L1001, L1103, L1200, L1240, L2820, L5220, L7936, L10440, L12345, L1000000, L1000003, L1073741823, nd_lt_t, nd_lt_f, nd_le_t, nd_le_f, nd_eq_f, nZ_add, nZ_mul, nZ_sub, nZ_lt, nZ_le, nZ_eq, nZ_nat, nZ_div, nZ_rem, nZ_and, nZ_or, and31, nZ_shl, nZ_shr, nZ_m1, nZ_nneg, nZ_nneg', nZ_nlt, nZ_ltn, inR_lt, Nat.not_lt_zero, ob_some, jI, jL, jR, jV, rI0, rI1, rIv, if_true, if_false, ↓reduceIte, Nat.reduceAdd, Nat.reduceMul, Nat.reduceSub, Nat.reduceLT, Nat.reduceEqDiff, Nat.reduceLeDiff, Nat.zero_add, Nat.add_zero, Nat.zero_mul, Nat.mul_zero, Nat.one_mul, Nat.mul_one, and_true, true_and, false_and, and_false, or_true, true_or, or_false, false_or, not_true_eq_false, not_false_eq_true, eq_self, bI_0, bI_1, em_b, hI_ne, hI_at, hA_ne, hA_at, Sh_si, Sh_sA]
    · rw [P_4] at e
      by_cases c1 : cAt C N pos = 143 ∨ cAt C N pos = 145
      · rw [if_pos c1] at e
        obtain ⟨p1, lv1, cs1, dn1, e1, e2⟩ := rdB_inr e
        obtain ⟨p2, lv2, cs2, dn2, e3, e4⟩ := rdB_inr e2
        cases e4
        have hp1 := C_pos (C := C) (N := N) (k := pos) (by omega)
        obtain ⟨i1, i2, i3⟩ := ih 1 (pos + 1) lv dp z acc p1 _ _ _ e1 (by decide) (by omega) hdp (by omega)
        have ha := hac (Or.inr rfl)
        have hs2 : sm ((if cAt C N pos = 143 then dAdd acc dn1 else dSub acc dn1) fun i => q i) := by
          split
          · exact sm_bind2 fun x y => sm_bdd _
          · exact sm_bind2 fun x y => sm_bdd _
        obtain ⟨j1, j2, j3⟩ := ih 4 p1 lv1 dp _ _ p _ _ _ e3 (by decide) i2 hdp (fun _ => hs2)
        refine ⟨j1, j2, ?_⟩
        intro D live b hl hb
        refine ⟨by omega, by omega, by omega, by omega, ?_⟩
        intro _ hD
        obtain ⟨d, rfl⟩ : ∃ d, D = d + 3 := ⟨D - 3, by omega⟩
        have hb0 : (rs (acc fun i => q i) live b).2 < 2 := rs_b hb
        have q1 := (i3 (d + 2) live _ hl hb0).2.1 rfl (by omega)
        have q2 := (j3 (d + 3) live b hl hb).2.2.2.2 rfl (by omega)
        have hb1 : (rs (dn1 fun i => q i) live (rs (acc fun i => q i) live b).2).2 < 2 := rs_b hb0
        by_cases c2 : cAt C N pos = 143
        · rw [if_pos c2] at q2
          rw [m263_add X d pos p1 _ _ live _ _ hl hb1 (rs_sm ha live b) (rs_sm i1 live _) (by omega) c2 q1]
          have eb := bd_op (a := acc fun i => q i) (b := dn1 fun i => q i) (fun x y => x + y) (by decide) (fun x hx => by simpa using hx) ha hl hb
          rw [eb]
          exact q2
        · have c3 : cAt C N pos = 145 := by omega
          rw [if_neg c2] at q2
          rw [m263_sub X d pos p1 _ _ live _ _ hl hb1 (rs_sm ha live b) (rs_sm i1 live _) (by omega) c3 q1]
          have eb := bd_op (a := acc fun i => q i) (b := dn1 fun i => q i) (fun x y => x - y) (by decide) (fun x hx => by simpa using hx) ha hl hb
          rw [eb]
          exact q2
      · rw [if_neg c1] at e
        cases e
        refine ⟨hac (Or.inr rfl), hpos, ?_⟩
        intro D live b hl hb
        refine ⟨by omega, by omega, by omega, by omega, ?_⟩
        intro _ hD
        obtain ⟨d, rfl⟩ : ∃ d, D = d + 3 := ⟨D - 3, by omega⟩
        have n1 : (cAt C N pos = 143) = False := eq_false (by omega)
        have n2 : (cAt C N pos = 145) = False := eq_false (by omega)
        have hC := cAt_lt X pos
        rw [E263_6]
        generalize rs (acc fun i => q i) live b = w at *
        have H3 : Sh (ev h o pos w.2) := X.1
        simp (disch := first | assumption | omega | (simp only [Sh_si, Sh_sA]; assumption)) only [m254, n1, n2, ev_19, m178 X, p56_0, g56_0, p56_1, g56_1, g56_2, g56_3, g56_4, g56_5, p56_6, g56_6, g56_7, g56_8, g56_9, p56_10, g56_10, p56_11, g56_11, g56_12, g56_13, g56_14, p56_15, g56_15, p56_16, g56_16, p56_17, g56_17, p56_18, g56_18, p56_19, g56_19, p56_20, g56_20, B56_21, g56_21, g56_22, g56_23, g56_24, g56_25, g56_26, g56_27, p56_28, g56_28, p56_29, g56_29, p56_30, g56_30, p56_31, g56_31, g56_32, g56_33, g56_34, p56_35, g56_35, p56_36, g56_36, p56_37, g56_37, p56_38, g56_38, g56_39, g56_40, g56_41, p56_42, g56_42, p56_43, g56_43, p56_44, g56_44, ck56, A57, S57, l57, A58, S58, l58, A59, S59, l59, A60, S60, l60, A61, S61, l61, A62, S62, l62, A63, S63, l63, A64, S64, l64, A65, S65, l65, A66, S66, l66, A67, S67, l67, A68, S68, l68, A69, S69, l69, A70, S70, l70, A71, S71, l71, A72, S72, l72, A73, S73, l73, A74, S74, l74, A75, S75, l75, A76, S76, l76, A77, S77, l77, A78, S78, l78, L0, L1, L2, L3, L4, L5, L6, L7, L8, L9, L10, L11, L12, L13, L14, L15, L16, L17, L18, L19, L20, L21, L22, L23, L24, L25, L26, L27, L28, L29, L30, L31, L32, L33, L34, L35, L36, L37, L38, L39, L40, L41, L42, L43, L44, L45, L46, L47, L48, L49, L50, L52, L57, L60, L90, L91, L93, L97, L99, L100, L101, L122, L240, L255, L256, L400, L401, L408, L409, L410, L411, L412, L413, L414, L420, L1000, L1001, L1103, L1200, L1240, L2820, L5220, L7936, L10440, L12345, L1000000, L1000003, L1073741823, nd_lt_t, nd_lt_f, nd_le_t, nd_le_f, nd_eq_f, nZ_add, nZ_mul, nZ_sub, nZ_lt, nZ_le, nZ_eq, nZ_nat, nZ_div, nZ_rem, nZ_and, nZ_or, and31, nZ_shl, nZ_shr, nZ_m1, nZ_nneg, nZ_nneg', nZ_nlt, nZ_ltn, inR_lt, Nat.not_lt_zero, ob_some, jI, jL, jR, jV, rI0, rI1, rIv, if_true, if_false, ↓reduceIte, Nat.reduceAdd, Nat.reduceMul, Nat.reduceSub, Nat.reduceLT, Nat.reduceEqDiff, Nat.reduceLeDiff, Nat.zero_add, Nat.add_zero, Nat.zero_mul, Nat.mul_zero, Nat.one_mul, Nat.mul_one, and_true, true_and, false_and, and_false, or_true, true_or, or_false, false_or, not_true_eq_false, not_false_eq_true, eq_self, bI_0, bI_1, em_b, hI_ne, hI_at, hA_ne, hA_at, Sh_si, Sh_sA]

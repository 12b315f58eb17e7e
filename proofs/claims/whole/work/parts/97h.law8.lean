/-! ===== clauses and laws ===== -/
/-- a clause: the code of its head, steps, sum, test -/
abbrev CL : Type := Nat × List Nat × Den × Den
def RH (C V : Nat → Nat) (N pos lv z : Nat) : Rd := if cAt C N pos = 1 ∨ cAt C N pos = 2 ∨ cAt C N pos = 3 then P C V N 5000 3 (pos + 1) lv 0 z 0 (fun _ => none) else if cAt C N pos = 4 then .inr (pos + 1, lv, [49], fun _ => some 1) else .inl pos
def RI (C V : Nat → Nat) (N p l z : Nat) : Rd := if cAt C N p = 5 then P C V N 5000 8 (p + 1) l 0 z 0 (fun _ => none) else .inr (p, l, [49], fun _ => some 1)
def rlB (r : Nat ⊕ List CL) (f : List CL → List CL) : Nat ⊕ List CL := match r with
  | .inl e => .inl e
  | .inr x => .inr (f x)
def rdL (r : Rd) (f : Nat → Nat → List Nat → Den → Nat ⊕ List CL) : Nat ⊕ List CL := match r with
  | .inl e => .inl e
  | .inr (p, lv, cs, dn) => f p lv cs dn
def RL (C V : Nat → Nat) (N : Nat) : Nat → Nat → Nat → Nat → Nat ⊕ List CL
  | 0, pos, _, _ => .inl pos
  | k + 1, pos, lv, z => rdL (RH C V N pos lv z) fun p l cs dn => rdL (RI C V N p l (z + cs.length)) fun p2 l2 cs2 dt => if p2 = N then .inr [(cAt C N pos, cs ++ cs2, dn, dt)] else if cAt C N p2 = 159 then rlB (RL C V N k (p2 + 1) l2 (z + cs.length + cs2.length)) fun L => (cAt C N pos, cs ++ cs2, dn, dt) :: L else .inl p2
theorem RL_s {C V : Nat → Nat} {N k pos lv z : Nat} : RL C V N (k + 1) pos lv z = rdL (RH C V N pos lv z) fun p l cs dn => rdL (RI C V N p l (z + cs.length)) fun p2 l2 cs2 dt => if p2 = N then .inr [(cAt C N pos, cs ++ cs2, dn, dt)] else if cAt C N p2 = 159 then rlB (RL C V N k (p2 + 1) l2 (z + cs.length + cs2.length)) fun L => (cAt C N pos, cs ++ cs2, dn, dt) :: L else .inl p2 := rfl
theorem rdL_inr {r : Rd} {F : Nat → Nat → List Nat → Den → Nat ⊕ List CL} {x : List CL} (e : rdL r F = .inr x) : ∃ p l cs dn, r = .inr (p, l, cs, dn) ∧ F p l cs dn = .inr x := by
  cases r with
  | inl a => cases e
  | inr a =>
    obtain ⟨p, l, cs, dn⟩ := a
    exact ⟨p, l, cs, dn, rfl, e⟩
theorem rlB_inr {r : Nat ⊕ List CL} {f : List CL → List CL} {x : List CL} (e : rlB r f = .inr x) : ∃ L, r = .inr L ∧ x = f L := by
  cases r with
  | inl a => cases e
  | inr a =>
    cases e
    exact ⟨a, rfl, rfl⟩
/-- what a clause tells, if it holds -/
def hol (c : CL) (q : Nat → Int) : Option Int := (c.2.2.1 q).bind fun x => (c.2.2.2 q).bind fun t => if t = 0 then none else some x
def clampN (lo hi : Nat) (x : Int) : Nat := if x < lo then lo else if (hi : Int) < x then hi else x.toNat
def tv1 (hd lo hi : Nat) (q : Nat → Int) (v : Nat) (c : CL) : Nat := if c.1 = hd then (match hol c q with
  | some x => clampN lo hi x
  | none => v) else v
def tv (L : List CL) (hd lo hi : Nat) (q : Nat → Int) (w : Nat) : Nat := L.foldl (tv1 hd lo hi q) w
theorem clampN_le {lo hi : Nat} {x : Int} (h : lo ≤ hi) : lo ≤ clampN lo hi x ∧ clampN lo hi x ≤ hi := by
  unfold clampN
  repeat' split
  all_goals omega
theorem l2i_nat {x : Int} (h0 : 0 ≤ x) : (lI x).toInt32 = nZ x.toNat := by
  have e : nZ x.toNat = Int32.ofInt x := by
    rw [← Int.toNat_of_nonneg h0]
    simp only [Int.toNat_natCast]
    exact (Int32.ofInt_eq_ofNat).symm
  rw [e]
  exact Int64.toInt32_ofInt
theorem m271_120 {h : QH} {C V q : Nat → Nat} {N o : Nat} (X : EV h C V q N o) (d p b l z sb hc hd lo hi v : Nat) (sv : Int) {p2 l2 : Nat} {cs2 : List Nat} {dt : Den} (e : RI C V N p l z = .inr (p2, l2, cs2, dt)) (hp : p ≤ 400) (hb : b < 2) (hsb : sb < 2) (hhc : hc < 1000) (hhd : hd < 1000) : ∃ b' fl, b' < 2 ∧ fl < 2 ∧ (fl = 1 ↔ sb = 0 ∧ hc = hd ∧ ∃ t, dt (fun i => q i) = some t ∧ t ≠ 0) ∧ p2 ≤ 400 ∧ qbig (d + 100) 271 120 [sR (some 56), sI (nZ hd), sI (nZ lo), sI (nZ hi), none, sI (nZ v), sI (nZ hc), sL (lI sv), none, sI (nZ sb), none] [] (ev h o p b) = qbig (d + 100) 271 176 [sR (some 56), sI (nZ hd), sI (nZ lo), sI (nZ hi), none, sI (nZ v), none, sL (lI sv), none, none, none] [qI (nZ fl)] (ev h o p2 b') := by
  have hN := X.2.1
  have z10 : (nZ 1 = nZ 0) = False := by decide
  have H1 : Sh (ev h o p b) := X.1
  have H2 : Sh (ev h o p 0) := X.1
  have sb2 : sb = 0 ∨ sb = 1 := by omega
  unfold RI at e
  by_cases c1 : cAt C N p = 5
  · rw [if_pos c1] at e
    have hp1 := C_pos (C := C) (N := N) (k := p) (by omega)
    obtain ⟨i1, i2, i3⟩ := TE X 5000 8 (p + 1) l 0 z 0 _ p2 _ _ _ e (by decide) (by decide) (by omega) (by omega) (by omega) (by omega)
    obtain ⟨w, b', t1, t2⟩ := (i3 (d + 99) 1 0 (by decide) (by decide)).2.2.2.1 rfl (by omega)
    obtain ⟨t3, t4, t5, t6⟩ := t1
    obtain ⟨t7, t8⟩ := t5 ⟨rfl, rfl⟩
    have H3 : Sh (ev h o (p + 1) 0) := X.1
    have H4 : Sh (ev h o p2 b') := X.1
    refine ⟨b', if w = 1 ∧ b' = 0 ∧ sb = 0 ∧ hc = hd then 1 else 0, t4, by split <;> omega, ?_, i2, ?_⟩
    · have key : (w = 1 ∧ b' = 0) ↔ ∃ t, dt (fun i => q i) = some t ∧ t ≠ 0 := by
        constructor
        · intro hh
          cases ed : dt (fun i => (q i : Int)) with
          | none =>
            have := t8 ed
            omega
          | some x =>
            have := t7 x ed
            exact ⟨x, rfl, by omega⟩
        · intro hh
          obtain ⟨x, hx, hx0⟩ := hh
          have := t7 x hx
          have := i1 x hx
          omega
      constructor
      · intro hh
        split at hh
        · rename_i hh2
          exact ⟨hh2.2.2.1, hh2.2.2.2, key.1 ⟨hh2.1, hh2.2.1⟩⟩
        · cases hh
      · intro hh
        have := key.2 hh.2.2
        rw [if_pos ⟨this.1, this.2, hh.1, hh.2.1⟩]
    · rw [E271_120]
      have w2 : w = 0 ∨ w = 1 := by omega
      have b2 : b' = 0 ∨ b' = 1 := by omega
      by_cases ch : hc = hd
      · subst ch
        rcases w2 with r | r <;> subst r <;> rcases b2 with r | r <;> subst r <;> rcases sb2 with r | r <;> subst r <;> simp (disch := first | assumption | omega | (simp only [Sh_si, Sh_sA]; assumption)) only [ev_21, ev_s21, m231 X, c1, t2, p56_0, g56_0, p56_1, g56_1, g56_2, g56_3, g56_4, g56_5, p56_6, g56_6, g56_7, g56_8, g56_9, p56_10, g56_10, p56_11, g56_11, g56_12, g56_13, g56_14, p56_15, g56_15, p56_16, g56_16, p56_17, g56_17, p56_18, g56_18, p56_19, g56_19, p56_20, g56_20, B56_21, g56_21, g56_22, g56_23, g56_24, g56_25, g56_26, g56_27, p56_28, g56_28, p56_29, g56_29, p56_30, g56_30, p56_31, g56_31, g56_32, g56_33, g56_34, p56_35, g56_35, p56_36, g56_36, p56_37, g56_37, p56_38, g56_38, g56_39, g56_40, g56_41, p56_42, g56_42, p56_43, g56_43, p56_44, g56_44, ck56, A57, S57, l57, A58, S58, l58, A59, S59, l59, A60, S60, l60, A61, S61, l61, A62, S62, l62, A63, S63, l63, A64, S64, l64, A65, S65, l65, A66, S66, l66, A67, S67, l67, A68, S68, l68, A69, S69, l69, A70, S70, l70, A71, S71, l71, A72, S72, l72, A73, S73, l73, A74, S74, l74, A75, S75, l75, A76, S76, l76, A77, S77, l77, A78, S78, l78, L0, L1, L2, L3, L4, L5, L6, L7, L8, L9, L10, L11, L12, L13, L14, L15, L16, L17, L18, L19, L20, L21, L22, L23, L24, L25, L26, L27, L28, L29, L30, L31, L32, L33, L34, L35, L36, L37, L38, L39, L40, L41, L42, L43, L44, L45, L46, L47, L48, L49, L50, L52, L57, L60, L90, L91, L93, L97, L99, L100, L101, L122, L240, L255, L256, L400, L401, L408, L409, L410, L411, L412, L413, L414, L420, L1000, L1001, L1103, L1200, L1240, L2820, L5220, L7936, L10440, L12345, L1000000, L1000003, L1073741823, L59, L61, L62, L200, nd_lt_t, nd_lt_f, nd_le_t, nd_le_f, nd_eq_f, nZ_add, nZ_mul, nZ_sub, nZ_lt, nZ_le, nZ_eq, nZ_nat, nZ_div, nZ_rem, nZ_and, nZ_or, and31, nZ_shl, nZ_shr, nZ_m1, nZ_nneg, nZ_nneg', nZ_nlt, nZ_ltn, inR_lt, Nat.not_lt_zero, ob_some, jI, jL, jR, jV, rI0, rI1, rIv, if_true, if_false, ↓reduceIte, Nat.reduceAdd, Nat.reduceMul, Nat.reduceSub, Nat.reduceLT, Nat.reduceEqDiff, Nat.reduceLeDiff, Nat.zero_add, Nat.add_zero, Nat.zero_mul, Nat.mul_zero, Nat.one_mul, Nat.mul_one, and_true, true_and, false_and, and_false, or_true, true_or, or_false, false_or, not_true_eq_false, not_false_eq_true, eq_self, bI_0, bI_1, em_b, hI_ne, hI_at, hA_ne, hA_at, Sh_si, Sh_sA]
      · have ch' := eq_false ch
        rcases w2 with r | r <;> subst r <;> rcases b2 with r | r <;> subst r <;> rcases sb2 with r | r <;> subst r <;> simp (disch := first | assumption | omega | (simp only [Sh_si, Sh_sA]; assumption)) only [ev_21, ev_s21, m231 X, c1, t2, ch', p56_0, g56_0, p56_1, g56_1, g56_2, g56_3, g56_4, g56_5, p56_6, g56_6, g56_7, g56_8, g56_9, p56_10, g56_10, p56_11, g56_11, g56_12, g56_13, g56_14, p56_15, g56_15, p56_16, g56_16, p56_17, g56_17, p56_18, g56_18, p56_19, g56_19, p56_20, g56_20, B56_21, g56_21, g56_22, g56_23, g56_24, g56_25, g56_26, g56_27, p56_28, g56_28, p56_29, g56_29, p56_30, g56_30, p56_31, g56_31, g56_32, g56_33, g56_34, p56_35, g56_35, p56_36, g56_36, p56_37, g56_37, p56_38, g56_38, g56_39, g56_40, g56_41, p56_42, g56_42, p56_43, g56_43, p56_44, g56_44, ck56, A57, S57, l57, A58, S58, l58, A59, S59, l59, A60, S60, l60, A61, S61, l61, A62, S62, l62, A63, S63, l63, A64, S64, l64, A65, S65, l65, A66, S66, l66, A67, S67, l67, A68, S68, l68, A69, S69, l69, A70, S70, l70, A71, S71, l71, A72, S72, l72, A73, S73, l73, A74, S74, l74, A75, S75, l75, A76, S76, l76, A77, S77, l77, A78, S78, l78, L0, L1, L2, L3, L4, L5, L6, L7, L8, L9, L10, L11, L12, L13, L14, L15, L16, L17, L18, L19, L20, L21, L22, L23, L24, L25, L26, L27, L28, L29, L30, L31, L32, L33, L34, L35, L36, L37, L38, L39, L40, L41, L42, L43, L44, L45, L46, L47, L48, L49, L50, L52, L57, L60, L90, L91, L93, L97, L99, L100, L101, L122, L240, L255, L256, L400, L401, L408, L409, L410, L411, L412, L413, L414, L420, L1000, L1001, L1103, L1200, L1240, L2820, L5220, L7936, L10440, L12345, L1000000, L1000003, L1073741823, L59, L61, L62, L200, nd_lt_t, nd_lt_f, nd_le_t, nd_le_f, nd_eq_f, nZ_add, nZ_mul, nZ_sub, nZ_lt, nZ_le, nZ_eq, nZ_nat, nZ_div, nZ_rem, nZ_and, nZ_or, and31, nZ_shl, nZ_shr, nZ_m1, nZ_nneg, nZ_nneg', nZ_nlt, nZ_ltn, inR_lt, Nat.not_lt_zero, ob_some, jI, jL, jR, jV, rI0, rI1, rIv, if_true, if_false, ↓reduceIte, Nat.reduceAdd, Nat.reduceMul, Nat.reduceSub, Nat.reduceLT, Nat.reduceEqDiff, Nat.reduceLeDiff, Nat.zero_add, Nat.add_zero, Nat.zero_mul, Nat.mul_zero, Nat.one_mul, Nat.mul_one, and_true, true_and, false_and, and_false, or_true, true_or, or_false, false_or, not_true_eq_false, not_false_eq_true, eq_self, bI_0, bI_1, em_b, hI_ne, hI_at, hA_ne, hA_at, Sh_si, Sh_sA]
  · rw [if_neg c1] at e
    cases e
    have c1' := eq_false c1
    refine ⟨0, if sb = 0 ∧ hc = hd then 1 else 0, by decide, by split <;> omega, ?_, hp, ?_⟩
    · constructor
      · intro hh
        split at hh
        · rename_i hh2
          exact ⟨hh2.1, hh2.2, 1, rfl, by decide⟩
        · cases hh
      · intro hh
        rw [if_pos ⟨hh.1, hh.2.1⟩]
    · rw [E271_120]
      by_cases ch : hc = hd
      · subst ch
        rcases sb2 with r | r <;> subst r <;> simp (disch := first | assumption | omega | (simp only [Sh_si, Sh_sA]; assumption)) only [ev_21, ev_s21, m231 X, c1', p56_0, g56_0, p56_1, g56_1, g56_2, g56_3, g56_4, g56_5, p56_6, g56_6, g56_7, g56_8, g56_9, p56_10, g56_10, p56_11, g56_11, g56_12, g56_13, g56_14, p56_15, g56_15, p56_16, g56_16, p56_17, g56_17, p56_18, g56_18, p56_19, g56_19, p56_20, g56_20, B56_21, g56_21, g56_22, g56_23, g56_24, g56_25, g56_26, g56_27, p56_28, g56_28, p56_29, g56_29, p56_30, g56_30, p56_31, g56_31, g56_32, g56_33, g56_34, p56_35, g56_35, p56_36, g56_36, p56_37, g56_37, p56_38, g56_38, g56_39, g56_40, g56_41, p56_42, g56_42, p56_43, g56_43, p56_44, g56_44, ck56, A57, S57, l57, A58, S58, l58, A59, S59, l59, A60, S60, l60, A61, S61, l61, A62, S62, l62, A63, S63, l63, A64, S64, l64, A65, S65, l65, A66, S66, l66, A67, S67, l67, A68, S68, l68, A69, S69, l69, A70, S70, l70, A71, S71, l71, A72, S72, l72, A73, S73, l73, A74, S74, l74, A75, S75, l75, A76, S76, l76, A77, S77, l77, A78, S78, l78, L0, L1, L2, L3, L4, L5, L6, L7, L8, L9, L10, L11, L12, L13, L14, L15, L16, L17, L18, L19, L20, L21, L22, L23, L24, L25, L26, L27, L28, L29, L30, L31, L32, L33, L34, L35, L36, L37, L38, L39, L40, L41, L42, L43, L44, L45, L46, L47, L48, L49, L50, L52, L57, L60, L90, L91, L93, L97, L99, L100, L101, L122, L240, L255, L256, L400, L401, L408, L409, L410, L411, L412, L413, L414, L420, L1000, L1001, L1103, L1200, L1240, L2820, L5220, L7936, L10440, L12345, L1000000, L1000003, L1073741823, L59, L61, L62, L200, nd_lt_t, nd_lt_f, nd_le_t, nd_le_f, nd_eq_f, nZ_add, nZ_mul, nZ_sub, nZ_lt, nZ_le, nZ_eq, nZ_nat, nZ_div, nZ_rem, nZ_and, nZ_or, and31, nZ_shl, nZ_shr, nZ_m1, nZ_nneg, nZ_nneg', nZ_nlt, nZ_ltn, inR_lt, Nat.not_lt_zero, ob_some, jI, jL, jR, jV, rI0, rI1, rIv, if_true, if_false, ↓reduceIte, Nat.reduceAdd, Nat.reduceMul, Nat.reduceSub, Nat.reduceLT, Nat.reduceEqDiff, Nat.reduceLeDiff, Nat.zero_add, Nat.add_zero, Nat.zero_mul, Nat.mul_zero, Nat.one_mul, Nat.mul_one, and_true, true_and, false_and, and_false, or_true, true_or, or_false, false_or, not_true_eq_false, not_false_eq_true, eq_self, bI_0, bI_1, em_b, hI_ne, hI_at, hA_ne, hA_at, Sh_si, Sh_sA]
      · have ch' := eq_false ch
        rcases sb2 with r | r <;> subst r <;> simp (disch := first | assumption | omega | (simp only [Sh_si, Sh_sA]; assumption)) only [ev_21, ev_s21, m231 X, c1', ch', p56_0, g56_0, p56_1, g56_1, g56_2, g56_3, g56_4, g56_5, p56_6, g56_6, g56_7, g56_8, g56_9, p56_10, g56_10, p56_11, g56_11, g56_12, g56_13, g56_14, p56_15, g56_15, p56_16, g56_16, p56_17, g56_17, p56_18, g56_18, p56_19, g56_19, p56_20, g56_20, B56_21, g56_21, g56_22, g56_23, g56_24, g56_25, g56_26, g56_27, p56_28, g56_28, p56_29, g56_29, p56_30, g56_30, p56_31, g56_31, g56_32, g56_33, g56_34, p56_35, g56_35, p56_36, g56_36, p56_37, g56_37, p56_38, g56_38, g56_39, g56_40, g56_41, p56_42, g56_42, p56_43, g56_43, p56_44, g56_44, ck56, A57, S57, l57, A58, S58, l58, A59, S59, l59, A60, S60, l60, A61, S61, l61, A62, S62, l62, A63, S63, l63, A64, S64, l64, A65, S65, l65, A66, S66, l66, A67, S67, l67, A68, S68, l68, A69, S69, l69, A70, S70, l70, A71, S71, l71, A72, S72, l72, A73, S73, l73, A74, S74, l74, A75, S75, l75, A76, S76, l76, A77, S77, l77, A78, S78, l78, L0, L1, L2, L3, L4, L5, L6, L7, L8, L9, L10, L11, L12, L13, L14, L15, L16, L17, L18, L19, L20, L21, L22, L23, L24, L25, L26, L27, L28, L29, L30, L31, L32, L33, L34, L35, L36, L37, L38, L39, L40, L41, L42, L43, L44, L45, L46, L47, L48, L49, L50, L52, L57, L60, L90, L91, L93, L97, L99, L100, L101, L122, L240, L255, L256, L400, L401, L408, L409, L410, L411, L412, L413, L414, L420, L1000, L1001, L1103, L1200, L1240, L2820, L5220, L7936, L10440, L12345, L1000000, L1000003, L1073741823, L59, L61, L62, L200, nd_lt_t, nd_lt_f, nd_le_t, nd_le_f, nd_eq_f, nZ_add, nZ_mul, nZ_sub, nZ_lt, nZ_le, nZ_eq, nZ_nat, nZ_div, nZ_rem, nZ_and, nZ_or, and31, nZ_shl, nZ_shr, nZ_m1, nZ_nneg, nZ_nneg', nZ_nlt, nZ_ltn, inR_lt, Nat.not_lt_zero, ob_some, jI, jL, jR, jV, rI0, rI1, rIv, if_true, if_false, ↓reduceIte, Nat.reduceAdd, Nat.reduceMul, Nat.reduceSub, Nat.reduceLT, Nat.reduceEqDiff, Nat.reduceLeDiff, Nat.zero_add, Nat.add_zero, Nat.zero_mul, Nat.mul_zero, Nat.one_mul, Nat.mul_one, and_true, true_and, false_and, and_false, or_true, true_or, or_false, false_or, not_true_eq_false, not_false_eq_true, eq_self, bI_0, bI_1, em_b, hI_ne, hI_at, hA_ne, hA_at, Sh_si, Sh_sA]
theorem m271_176 {h : QH} {C V q : Nat → Nat} {N o : Nat} (X : EV h C V q N o) (d p b fl hd lo hi v : Nat) (sv : Int) (hp : p ≤ 400) (hf : fl < 2) (hlo : lo < 1000) (hhi : hi < 1000) (hsv : -1000000000 ≤ sv ∧ sv ≤ 1000000000) : qbig (d + 100) 271 176 [sR (some 56), sI (nZ hd), sI (nZ lo), sI (nZ hi), none, sI (nZ v), none, sL (lI sv), none, none, none] [qI (nZ fl)] (ev h o p b) = qbig (d + 100) 271 61 [sR (some 56), sI (nZ hd), sI (nZ lo), sI (nZ hi), none, sI (nZ (if fl = 1 then clampN lo hi sv else v)), none, none, none, none, none] [] (ev h o (p + 1) b) := by
  have ho := X.2.2.1
  have z10 : (nZ 1 = nZ 0) = False := by decide
  have H1 : Sh (ev h o p b) := X.1
  have f2 : fl = 0 ∨ fl = 1 := by omega
  have r1 : Rg sv := by unfold Rg; omega
  have r2 : Rg lo := by unfold Rg; omega
  have r3 : Rg hi := by unfold Rg; omega
  have el : (nZ lo).toInt64 = lI lo := lI_nat (by omega)
  have eh : (nZ hi).toInt64 = lI hi := lI_nat (by omega)
  have k1 := cmp_lt r1 r2
  have k2 := cmp_gt r1 r3
  rw [E271_176]
  unfold clampN
  rcases f2 with r | r <;> subst r
  · simp (disch := first | assumption | omega | (simp only [Sh_si, Sh_sA]; assumption)) only [ev_19, ev_s19, p56_0, g56_0, p56_1, g56_1, g56_2, g56_3, g56_4, g56_5, p56_6, g56_6, g56_7, g56_8, g56_9, p56_10, g56_10, p56_11, g56_11, g56_12, g56_13, g56_14, p56_15, g56_15, p56_16, g56_16, p56_17, g56_17, p56_18, g56_18, p56_19, g56_19, p56_20, g56_20, B56_21, g56_21, g56_22, g56_23, g56_24, g56_25, g56_26, g56_27, p56_28, g56_28, p56_29, g56_29, p56_30, g56_30, p56_31, g56_31, g56_32, g56_33, g56_34, p56_35, g56_35, p56_36, g56_36, p56_37, g56_37, p56_38, g56_38, g56_39, g56_40, g56_41, p56_42, g56_42, p56_43, g56_43, p56_44, g56_44, ck56, A57, S57, l57, A58, S58, l58, A59, S59, l59, A60, S60, l60, A61, S61, l61, A62, S62, l62, A63, S63, l63, A64, S64, l64, A65, S65, l65, A66, S66, l66, A67, S67, l67, A68, S68, l68, A69, S69, l69, A70, S70, l70, A71, S71, l71, A72, S72, l72, A73, S73, l73, A74, S74, l74, A75, S75, l75, A76, S76, l76, A77, S77, l77, A78, S78, l78, L0, L1, L2, L3, L4, L5, L6, L7, L8, L9, L10, L11, L12, L13, L14, L15, L16, L17, L18, L19, L20, L21, L22, L23, L24, L25, L26, L27, L28, L29, L30, L31, L32, L33, L34, L35, L36, L37, L38, L39, L40, L41, L42, L43, L44, L45, L46, L47, L48, L49, L50, L52, L57, L60, L90, L91, L93, L97, L99, L100, L101, L122, L240, L255, L256, L400, L401, L408, L409, L410, L411, L412, L413, L414, L420, L1000, L1001, L1103, L1200, L1240, L2820, L5220, L7936, L10440, L12345, L1000000, L1000003, L1073741823, L59, L61, L62, L200, nd_lt_t, nd_lt_f, nd_le_t, nd_le_f, nd_eq_f, nZ_add, nZ_mul, nZ_sub, nZ_lt, nZ_le, nZ_eq, nZ_nat, nZ_div, nZ_rem, nZ_and, nZ_or, and31, nZ_shl, nZ_shr, nZ_m1, nZ_nneg, nZ_nneg', nZ_nlt, nZ_ltn, inR_lt, Nat.not_lt_zero, ob_some, jI, jL, jR, jV, rI0, rI1, rIv, if_true, if_false, ↓reduceIte, Nat.reduceAdd, Nat.reduceMul, Nat.reduceSub, Nat.reduceLT, Nat.reduceEqDiff, Nat.reduceLeDiff, Nat.zero_add, Nat.add_zero, Nat.zero_mul, Nat.mul_zero, Nat.one_mul, Nat.mul_one, and_true, true_and, false_and, and_false, or_true, true_or, or_false, false_or, not_true_eq_false, not_false_eq_true, eq_self, bI_0, bI_1, em_b, hI_ne, hI_at, hA_ne, hA_at, Sh_si, Sh_sA]
  · by_cases c1 : sv < lo
    · simp (disch := first | assumption | omega | (simp only [Sh_si, Sh_sA]; assumption)) only [ev_19, ev_s19, el, eh, k1, eq_true c1, p56_0, g56_0, p56_1, g56_1, g56_2, g56_3, g56_4, g56_5, p56_6, g56_6, g56_7, g56_8, g56_9, p56_10, g56_10, p56_11, g56_11, g56_12, g56_13, g56_14, p56_15, g56_15, p56_16, g56_16, p56_17, g56_17, p56_18, g56_18, p56_19, g56_19, p56_20, g56_20, B56_21, g56_21, g56_22, g56_23, g56_24, g56_25, g56_26, g56_27, p56_28, g56_28, p56_29, g56_29, p56_30, g56_30, p56_31, g56_31, g56_32, g56_33, g56_34, p56_35, g56_35, p56_36, g56_36, p56_37, g56_37, p56_38, g56_38, g56_39, g56_40, g56_41, p56_42, g56_42, p56_43, g56_43, p56_44, g56_44, ck56, A57, S57, l57, A58, S58, l58, A59, S59, l59, A60, S60, l60, A61, S61, l61, A62, S62, l62, A63, S63, l63, A64, S64, l64, A65, S65, l65, A66, S66, l66, A67, S67, l67, A68, S68, l68, A69, S69, l69, A70, S70, l70, A71, S71, l71, A72, S72, l72, A73, S73, l73, A74, S74, l74, A75, S75, l75, A76, S76, l76, A77, S77, l77, A78, S78, l78, L0, L1, L2, L3, L4, L5, L6, L7, L8, L9, L10, L11, L12, L13, L14, L15, L16, L17, L18, L19, L20, L21, L22, L23, L24, L25, L26, L27, L28, L29, L30, L31, L32, L33, L34, L35, L36, L37, L38, L39, L40, L41, L42, L43, L44, L45, L46, L47, L48, L49, L50, L52, L57, L60, L90, L91, L93, L97, L99, L100, L101, L122, L240, L255, L256, L400, L401, L408, L409, L410, L411, L412, L413, L414, L420, L1000, L1001, L1103, L1200, L1240, L2820, L5220, L7936, L10440, L12345, L1000000, L1000003, L1073741823, L59, L61, L62, L200, nd_lt_t, nd_lt_f, nd_le_t, nd_le_f, nd_eq_f, nZ_add, nZ_mul, nZ_sub, nZ_lt, nZ_le, nZ_eq, nZ_nat, nZ_div, nZ_rem, nZ_and, nZ_or, and31, nZ_shl, nZ_shr, nZ_m1, nZ_nneg, nZ_nneg', nZ_nlt, nZ_ltn, inR_lt, Nat.not_lt_zero, ob_some, jI, jL, jR, jV, rI0, rI1, rIv, if_true, if_false, ↓reduceIte, Nat.reduceAdd, Nat.reduceMul, Nat.reduceSub, Nat.reduceLT, Nat.reduceEqDiff, Nat.reduceLeDiff, Nat.zero_add, Nat.add_zero, Nat.zero_mul, Nat.mul_zero, Nat.one_mul, Nat.mul_one, and_true, true_and, false_and, and_false, or_true, true_or, or_false, false_or, not_true_eq_false, not_false_eq_true, eq_self, bI_0, bI_1, em_b, hI_ne, hI_at, hA_ne, hA_at, Sh_si, Sh_sA]
    · by_cases c2 : (hi : Int) < sv
      · simp (disch := first | assumption | omega | (simp only [Sh_si, Sh_sA]; assumption)) only [ev_19, ev_s19, el, eh, k1, k2, eq_false c1, eq_true c2, p56_0, g56_0, p56_1, g56_1, g56_2, g56_3, g56_4, g56_5, p56_6, g56_6, g56_7, g56_8, g56_9, p56_10, g56_10, p56_11, g56_11, g56_12, g56_13, g56_14, p56_15, g56_15, p56_16, g56_16, p56_17, g56_17, p56_18, g56_18, p56_19, g56_19, p56_20, g56_20, B56_21, g56_21, g56_22, g56_23, g56_24, g56_25, g56_26, g56_27, p56_28, g56_28, p56_29, g56_29, p56_30, g56_30, p56_31, g56_31, g56_32, g56_33, g56_34, p56_35, g56_35, p56_36, g56_36, p56_37, g56_37, p56_38, g56_38, g56_39, g56_40, g56_41, p56_42, g56_42, p56_43, g56_43, p56_44, g56_44, ck56, A57, S57, l57, A58, S58, l58, A59, S59, l59, A60, S60, l60, A61, S61, l61, A62, S62, l62, A63, S63, l63, A64, S64, l64, A65, S65, l65, A66, S66, l66, A67, S67, l67, A68, S68, l68, A69, S69, l69, A70, S70, l70, A71, S71, l71, A72, S72, l72, A73, S73, l73, A74, S74, l74, A75, S75, l75, A76, S76, l76, A77, S77, l77, A78, S78, l78, L0, L1, L2, L3, L4, L5, L6, L7, L8, L9, L10, L11, L12, L13, L14, L15, L16, L17, L18, L19, L20, L21, L22, L23, L24, L25, L26, L27, L28, L29, L30, L31, L32, L33, L34, L35, L36, L37, L38, L39, L40, L41, L42, L43, L44, L45, L46, L47, L48, L49, L50, L52, L57, L60, L90, L91, L93, L97, L99, L100, L101, L122, L240, L255, L256, L400, L401, L408, L409, L410, L411, L412, L413, L414, L420, L1000, L1001, L1103, L1200, L1240, L2820, L5220, L7936, L10440, L12345, L1000000, L1000003, L1073741823, L59, L61, L62, L200, nd_lt_t, nd_lt_f, nd_le_t, nd_le_f, nd_eq_f, nZ_add, nZ_mul, nZ_sub, nZ_lt, nZ_le, nZ_eq, nZ_nat, nZ_div, nZ_rem, nZ_and, nZ_or, and31, nZ_shl, nZ_shr, nZ_m1, nZ_nneg, nZ_nneg', nZ_nlt, nZ_ltn, inR_lt, Nat.not_lt_zero, ob_some, jI, jL, jR, jV, rI0, rI1, rIv, if_true, if_false, ↓reduceIte, Nat.reduceAdd, Nat.reduceMul, Nat.reduceSub, Nat.reduceLT, Nat.reduceEqDiff, Nat.reduceLeDiff, Nat.zero_add, Nat.add_zero, Nat.zero_mul, Nat.mul_zero, Nat.one_mul, Nat.mul_one, and_true, true_and, false_and, and_false, or_true, true_or, or_false, false_or, not_true_eq_false, not_false_eq_true, eq_self, bI_0, bI_1, em_b, hI_ne, hI_at, hA_ne, hA_at, Sh_si, Sh_sA]
      · simp (disch := first | assumption | omega | (simp only [Sh_si, Sh_sA]; assumption)) only [ev_19, ev_s19, el, eh, k1, k2, eq_false c1, eq_false c2, l2i_nat (x := sv) (by omega), p56_0, g56_0, p56_1, g56_1, g56_2, g56_3, g56_4, g56_5, p56_6, g56_6, g56_7, g56_8, g56_9, p56_10, g56_10, p56_11, g56_11, g56_12, g56_13, g56_14, p56_15, g56_15, p56_16, g56_16, p56_17, g56_17, p56_18, g56_18, p56_19, g56_19, p56_20, g56_20, B56_21, g56_21, g56_22, g56_23, g56_24, g56_25, g56_26, g56_27, p56_28, g56_28, p56_29, g56_29, p56_30, g56_30, p56_31, g56_31, g56_32, g56_33, g56_34, p56_35, g56_35, p56_36, g56_36, p56_37, g56_37, p56_38, g56_38, g56_39, g56_40, g56_41, p56_42, g56_42, p56_43, g56_43, p56_44, g56_44, ck56, A57, S57, l57, A58, S58, l58, A59, S59, l59, A60, S60, l60, A61, S61, l61, A62, S62, l62, A63, S63, l63, A64, S64, l64, A65, S65, l65, A66, S66, l66, A67, S67, l67, A68, S68, l68, A69, S69, l69, A70, S70, l70, A71, S71, l71, A72, S72, l72, A73, S73, l73, A74, S74, l74, A75, S75, l75, A76, S76, l76, A77, S77, l77, A78, S78, l78, L0, L1, L2, L3, L4, L5, L6, L7, L8, L9, L10, L11, L12, L13, L14, L15, L16, L17, L18, L19, L20, L21, L22, L23, L24, L25, L26, L27, L28, L29, L30, L31, L32, L33, L34, L35, L36, L37, L38, L39, L40, L41, L42, L43, L44, L45, L46, L47, L48, L49, L50, L52, L57, L60, L90, L91, L93, L97, L99, L100, L101, L122, L240, L255, L256, L400, L401, L408, L409, L410, L411, L412, L413, L414, L420, L1000, L1001, L1103, L1200, L1240, L2820, L5220, L7936, L10440, L12345, L1000000, L1000003, L1073741823, L59, L61, L62, L200, nd_lt_t, nd_lt_f, nd_le_t, nd_le_f, nd_eq_f, nZ_add, nZ_mul, nZ_sub, nZ_lt, nZ_le, nZ_eq, nZ_nat, nZ_div, nZ_rem, nZ_and, nZ_or, and31, nZ_shl, nZ_shr, nZ_m1, nZ_nneg, nZ_nneg', nZ_nlt, nZ_ltn, inR_lt, Nat.not_lt_zero, ob_some, jI, jL, jR, jV, rI0, rI1, rIv, if_true, if_false, ↓reduceIte, Nat.reduceAdd, Nat.reduceMul, Nat.reduceSub, Nat.reduceLT, Nat.reduceEqDiff, Nat.reduceLeDiff, Nat.zero_add, Nat.add_zero, Nat.zero_mul, Nat.mul_zero, Nat.one_mul, Nat.mul_one, and_true, true_and, false_and, and_false, or_true, true_or, or_false, false_or, not_true_eq_false, not_false_eq_true, eq_self, bI_0, bI_1, em_b, hI_ne, hI_at, hA_ne, hA_at, Sh_si, Sh_sA]
theorem m271_61 {h : QH} {C V q : Nat → Nat} {N o : Nat} (X : EV h C V q N o) (d hd lo hi : Nat) (hhd : hd < 1000) (hlo : lo < 1000) (hhi : hi < 1000) (hlh : lo ≤ hi) : ∀ k pos lv z L, RL C V N k pos lv z = .inr L → pos ≤ 400 → ∀ v b, v < 1000 → ∃ p' b', qbig (d + 100) 271 61 [sR (some 56), sI (nZ hd), sI (nZ lo), sI (nZ hi), none, sI (nZ v), none, none, none, none, none] [] (ev h o pos b) = some (some (qI (nZ (tv L hd lo hi (fun i => q i) v))), ev h o p' b') := by
  have hN := X.2.1
  have ho := X.2.2.1
  have z10 : (nZ 1 = nZ 0) = False := by decide
  have e20 : ∀ g b, hI (ev h o g b) 56 20 = nZ (o + N) := fun g b => (ev_ne (by omega)).trans X.2.2.2.1
  have fin : ∀ g b v, N ≤ g → g ≤ 1000 → qbig (d + 100) 271 61 [sR (some 56), sI (nZ hd), sI (nZ lo), sI (nZ hi), none, sI (nZ v), none, none, none, none, none] [] (ev h o g b) = some (some (qI (nZ v)), ev h o g b) := by
    intro g b v hg hg2
    have H1 : Sh (ev h o g b) := X.1
    rw [E271_61]
    simp (disch := first | assumption | omega | (simp only [Sh_si, Sh_sA]; assumption)) only [ev_19, e20, p56_0, g56_0, p56_1, g56_1, g56_2, g56_3, g56_4, g56_5, p56_6, g56_6, g56_7, g56_8, g56_9, p56_10, g56_10, p56_11, g56_11, g56_12, g56_13, g56_14, p56_15, g56_15, p56_16, g56_16, p56_17, g56_17, p56_18, g56_18, p56_19, g56_19, p56_20, g56_20, B56_21, g56_21, g56_22, g56_23, g56_24, g56_25, g56_26, g56_27, p56_28, g56_28, p56_29, g56_29, p56_30, g56_30, p56_31, g56_31, g56_32, g56_33, g56_34, p56_35, g56_35, p56_36, g56_36, p56_37, g56_37, p56_38, g56_38, g56_39, g56_40, g56_41, p56_42, g56_42, p56_43, g56_43, p56_44, g56_44, ck56, A57, S57, l57, A58, S58, l58, A59, S59, l59, A60, S60, l60, A61, S61, l61, A62, S62, l62, A63, S63, l63, A64, S64, l64, A65, S65, l65, A66, S66, l66, A67, S67, l67, A68, S68, l68, A69, S69, l69, A70, S70, l70, A71, S71, l71, A72, S72, l72, A73, S73, l73, A74, S74, l74, A75, S75, l75, A76, S76, l76, A77, S77, l77, A78, S78, l78, L0, L1, L2, L3, L4, L5, L6, L7, L8, L9, L10, L11, L12, L13, L14, L15, L16, L17, L18, L19, L20, L21, L22, L23, L24, L25, L26, L27, L28, L29, L30, L31, L32, L33, L34, L35, L36, L37, L38, L39, L40, L41, L42, L43, L44, L45, L46, L47, L48, L49, L50, L52, L57, L60, L90, L91, L93, L97, L99, L100, L101, L122, L240, L255, L256, L400, L401, L408, L409, L410, L411, L412, L413, L414, L420, L1000, L1001, L1103, L1200, L1240, L2820, L5220, L7936, L10440, L12345, L1000000, L1000003, L1073741823, L59, L61, L62, L200, nd_lt_t, nd_lt_f, nd_le_t, nd_le_f, nd_eq_f, nZ_add, nZ_mul, nZ_sub, nZ_lt, nZ_le, nZ_eq, nZ_nat, nZ_div, nZ_rem, nZ_and, nZ_or, and31, nZ_shl, nZ_shr, nZ_m1, nZ_nneg, nZ_nneg', nZ_nlt, nZ_ltn, inR_lt, Nat.not_lt_zero, ob_some, jI, jL, jR, jV, rI0, rI1, rIv, if_true, if_false, ↓reduceIte, Nat.reduceAdd, Nat.reduceMul, Nat.reduceSub, Nat.reduceLT, Nat.reduceEqDiff, Nat.reduceLeDiff, Nat.zero_add, Nat.add_zero, Nat.zero_mul, Nat.mul_zero, Nat.one_mul, Nat.mul_one, and_true, true_and, false_and, and_false, or_true, true_or, or_false, false_or, not_true_eq_false, not_false_eq_true, eq_self, bI_0, bI_1, em_b, hI_ne, hI_at, hA_ne, hA_at, Sh_si, Sh_sA]
  intro k
  induction k with
  | zero =>
    intro pos lv z L e
    cases e
  | succ k ih =>
    intro pos lv z L e hpos v b hv
    rw [RL_s] at e
    obtain ⟨p, l, cs, dn, e1, e2⟩ := rdL_inr e
    obtain ⟨p2, l2, cs2, dt, e3, e4⟩ := rdL_inr e2
    have H1 : Sh (ev h o pos b) := X.1
    have H2 : Sh (ev h o pos 0) := X.1
    have hhc := cAt_lt X pos
    have st : p ≤ 400 ∧ pos < N ∧ sm (dn fun i => q i) ∧ qbig (d + 100) 271 61 [sR (some 56), sI (nZ hd), sI (nZ lo), sI (nZ hi), none, sI (nZ v), none, none, none, none, none] [] (ev h o pos b) = qbig (d + 100) 271 120 [sR (some 56), sI (nZ hd), sI (nZ lo), sI (nZ hi), none, sI (nZ v), sI (nZ (cAt C N pos)), sL (lI (rs (dn fun i => q i) 1 0).1), none, sI (nZ (rs (dn fun i => q i) 1 0).2), none] [] (ev h o p (rs (dn fun i => q i) 1 0).2) := by
      unfold RH at e1
      by_cases c1 : cAt C N pos = 1 ∨ cAt C N pos = 2 ∨ cAt C N pos = 3
      · rw [if_pos c1] at e1
        have hp1 := C_pos (C := C) (N := N) (k := pos) (by omega)
        obtain ⟨i1, i2, i3⟩ := SE X 5000 3 (pos + 1) lv 0 z _ p _ _ _ e1 (by decide) (by omega) (by omega) (by omega)
        have q1 := (i3 (d + 99) 1 0 (by decide) (by decide)).2.2.2.1 rfl (by omega)
        refine ⟨i2, hp1, i1, ?_⟩
        rw [E271_61]
        generalize rs (dn fun i => q i) 1 0 = w at *
        have H3 : Sh (ev h o (pos + 1) 0) := X.1
        have H4 : Sh (ev h o p w.2) := X.1
        have n4 : (cAt C N pos = 4) = False := eq_false (by omega)
        simp (disch := first | assumption | omega | (simp only [Sh_si, Sh_sA]; assumption)) only [ev_19, e20, ev_21, ev_s21, ev_s19, m178 X, q1, n4, p56_0, g56_0, p56_1, g56_1, g56_2, g56_3, g56_4, g56_5, p56_6, g56_6, g56_7, g56_8, g56_9, p56_10, g56_10, p56_11, g56_11, g56_12, g56_13, g56_14, p56_15, g56_15, p56_16, g56_16, p56_17, g56_17, p56_18, g56_18, p56_19, g56_19, p56_20, g56_20, B56_21, g56_21, g56_22, g56_23, g56_24, g56_25, g56_26, g56_27, p56_28, g56_28, p56_29, g56_29, p56_30, g56_30, p56_31, g56_31, g56_32, g56_33, g56_34, p56_35, g56_35, p56_36, g56_36, p56_37, g56_37, p56_38, g56_38, g56_39, g56_40, g56_41, p56_42, g56_42, p56_43, g56_43, p56_44, g56_44, ck56, A57, S57, l57, A58, S58, l58, A59, S59, l59, A60, S60, l60, A61, S61, l61, A62, S62, l62, A63, S63, l63, A64, S64, l64, A65, S65, l65, A66, S66, l66, A67, S67, l67, A68, S68, l68, A69, S69, l69, A70, S70, l70, A71, S71, l71, A72, S72, l72, A73, S73, l73, A74, S74, l74, A75, S75, l75, A76, S76, l76, A77, S77, l77, A78, S78, l78, L0, L1, L2, L3, L4, L5, L6, L7, L8, L9, L10, L11, L12, L13, L14, L15, L16, L17, L18, L19, L20, L21, L22, L23, L24, L25, L26, L27, L28, L29, L30, L31, L32, L33, L34, L35, L36, L37, L38, L39, L40, L41, L42, L43, L44, L45, L46, L47, L48, L49, L50, L52, L57, L60, L90, L91, L93, L97, L99, L100, L101, L122, L240, L255, L256, L400, L401, L408, L409, L410, L411, L412, L413, L414, L420, L1000, L1001, L1103, L1200, L1240, L2820, L5220, L7936, L10440, L12345, L1000000, L1000003, L1073741823, L59, L61, L62, L200, nd_lt_t, nd_lt_f, nd_le_t, nd_le_f, nd_eq_f, nZ_add, nZ_mul, nZ_sub, nZ_lt, nZ_le, nZ_eq, nZ_nat, nZ_div, nZ_rem, nZ_and, nZ_or, and31, nZ_shl, nZ_shr, nZ_m1, nZ_nneg, nZ_nneg', nZ_nlt, nZ_ltn, inR_lt, Nat.not_lt_zero, ob_some, jI, jL, jR, jV, rI0, rI1, rIv, if_true, if_false, ↓reduceIte, Nat.reduceAdd, Nat.reduceMul, Nat.reduceSub, Nat.reduceLT, Nat.reduceEqDiff, Nat.reduceLeDiff, Nat.zero_add, Nat.add_zero, Nat.zero_mul, Nat.mul_zero, Nat.one_mul, Nat.mul_one, and_true, true_and, false_and, and_false, or_true, true_or, or_false, false_or, not_true_eq_false, not_false_eq_true, eq_self, bI_0, bI_1, em_b, hI_ne, hI_at, hA_ne, hA_at, Sh_si, Sh_sA]
      · rw [if_neg c1] at e1
        by_cases c2 : cAt C N pos = 4
        · rw [if_pos c2] at e1
          cases e1
          have hp1 := C_pos (C := C) (N := N) (k := pos) (by omega)
          refine ⟨by omega, hp1, fun x hx => by cases hx; decide, ?_⟩
          rw [E271_61]
          have H3 : Sh (ev h o (pos + 1) 0) := X.1
          have e1' : (nZ 1).toInt64 = lI 1 := lI_nat (by decide)
          simp (disch := first | assumption | omega | (simp only [Sh_si, Sh_sA]; assumption)) only [ev_19, e20, ev_21, ev_s21, ev_s19, m178 X, c2, e1', p56_0, g56_0, p56_1, g56_1, g56_2, g56_3, g56_4, g56_5, p56_6, g56_6, g56_7, g56_8, g56_9, p56_10, g56_10, p56_11, g56_11, g56_12, g56_13, g56_14, p56_15, g56_15, p56_16, g56_16, p56_17, g56_17, p56_18, g56_18, p56_19, g56_19, p56_20, g56_20, B56_21, g56_21, g56_22, g56_23, g56_24, g56_25, g56_26, g56_27, p56_28, g56_28, p56_29, g56_29, p56_30, g56_30, p56_31, g56_31, g56_32, g56_33, g56_34, p56_35, g56_35, p56_36, g56_36, p56_37, g56_37, p56_38, g56_38, g56_39, g56_40, g56_41, p56_42, g56_42, p56_43, g56_43, p56_44, g56_44, ck56, A57, S57, l57, A58, S58, l58, A59, S59, l59, A60, S60, l60, A61, S61, l61, A62, S62, l62, A63, S63, l63, A64, S64, l64, A65, S65, l65, A66, S66, l66, A67, S67, l67, A68, S68, l68, A69, S69, l69, A70, S70, l70, A71, S71, l71, A72, S72, l72, A73, S73, l73, A74, S74, l74, A75, S75, l75, A76, S76, l76, A77, S77, l77, A78, S78, l78, L0, L1, L2, L3, L4, L5, L6, L7, L8, L9, L10, L11, L12, L13, L14, L15, L16, L17, L18, L19, L20, L21, L22, L23, L24, L25, L26, L27, L28, L29, L30, L31, L32, L33, L34, L35, L36, L37, L38, L39, L40, L41, L42, L43, L44, L45, L46, L47, L48, L49, L50, L52, L57, L60, L90, L91, L93, L97, L99, L100, L101, L122, L240, L255, L256, L400, L401, L408, L409, L410, L411, L412, L413, L414, L420, L1000, L1001, L1103, L1200, L1240, L2820, L5220, L7936, L10440, L12345, L1000000, L1000003, L1073741823, L59, L61, L62, L200, nd_lt_t, nd_lt_f, nd_le_t, nd_le_f, nd_eq_f, nZ_add, nZ_mul, nZ_sub, nZ_lt, nZ_le, nZ_eq, nZ_nat, nZ_div, nZ_rem, nZ_and, nZ_or, and31, nZ_shl, nZ_shr, nZ_m1, nZ_nneg, nZ_nneg', nZ_nlt, nZ_ltn, inR_lt, Nat.not_lt_zero, ob_some, jI, jL, jR, jV, rI0, rI1, rIv, if_true, if_false, ↓reduceIte, Nat.reduceAdd, Nat.reduceMul, Nat.reduceSub, Nat.reduceLT, Nat.reduceEqDiff, Nat.reduceLeDiff, Nat.zero_add, Nat.add_zero, Nat.zero_mul, Nat.mul_zero, Nat.one_mul, Nat.mul_one, and_true, true_and, false_and, and_false, or_true, true_or, or_false, false_or, not_true_eq_false, not_false_eq_true, eq_self, bI_0, bI_1, em_b, hI_ne, hI_at, hA_ne, hA_at, Sh_si, Sh_sA]
          rfl
        · rw [if_neg c2] at e1
          cases e1
    obtain ⟨hp, hposN, hsm, s1⟩ := st
    obtain ⟨b', fl, hb', hfl, hiff, hp2, s2⟩ := m271_120 X d p (rs (dn fun i => q i) 1 0).2 l _ (rs (dn fun i => q i) 1 0).2 (cAt C N pos) hd lo hi v (rs (dn fun i => q i) 1 0).1 e3 hp (rs_b (by decide)) (rs_b (by decide)) hhc hhd
    rw [s1, s2, m271_176 X d p2 b' fl hd lo hi v _ hp2 hfl hlo hhi (rs_sm hsm 1 0)]
    have ht : (if fl = 1 then clampN lo hi (rs (dn fun i => q i) 1 0).1 else v) = tv1 hd lo hi (fun i => q i) v (cAt C N pos, cs ++ cs2, dn, dt) := by
      unfold tv1 hol
      show _ = if cAt C N pos = hd then (match (dn fun i => (q i : Int)).bind fun x => (dt fun i => (q i : Int)).bind fun t => if t = 0 then none else some x with
        | some x => clampN lo hi x
        | none => v) else v
      cases ed : dn (fun i => (q i : Int)) with
      | none =>
        have hs : (rs (none : Option Int) 1 0).2 = 1 := rfl
        rw [ed, hs] at hiff
        rw [if_neg (fun z => absurd (hiff.1 z).1 (by decide))]
        split <;> rfl
      | some x =>
        have hs : (rs (some x) 1 0) = (x, 0) := rfl
        rw [ed, hs] at hiff
        rw [hs]
        simp only [Option.bind_some]
        cases et : dt (fun i => (q i : Int)) with
        | none =>
          rw [et] at hiff
          rw [if_neg (fun z => by
            obtain ⟨t, hh, _⟩ := (hiff.1 z).2.2
            cases hh)]
          split <;> rfl
        | some t =>
          rw [et] at hiff
          simp only [Option.bind_some]
          by_cases t0 : t = 0
          · rw [if_neg (fun z => by
              obtain ⟨t', hh, hh2⟩ := (hiff.1 z).2.2
              cases hh
              exact hh2 t0), if_pos t0]
            split <;> rfl
          · rw [if_neg t0]
            by_cases ch : cAt C N pos = hd
            · rw [if_pos ch, if_pos (hiff.2 ⟨rfl, ch, t, rfl, t0⟩)]
            · rw [if_neg ch, if_neg (fun z => ch (hiff.1 z).2.1)]
    rw [ht]
    have hv' : tv1 hd lo hi (fun i => q i) v (cAt C N pos, cs ++ cs2, dn, dt) < 1000 := by
      rw [← ht]
      split
      · have := (clampN_le (x := (rs (dn fun i => q i) 1 0).1) hlh).2
        omega
      · exact hv
    by_cases c1 : p2 = N
    · rw [if_pos c1] at e4
      cases e4
      exact ⟨_, _, fin (p2 + 1) b' _ (by omega) (by omega)⟩
    · rw [if_neg c1] at e4
      by_cases c2 : cAt C N p2 = 159
      · rw [if_pos c2] at e4
        obtain ⟨L', e5, e6⟩ := rlB_inr e4
        subst e6
        have hp3 := C_pos (C := C) (N := N) (k := p2) (by omega)
        obtain ⟨p', b2, t1⟩ := ih (p2 + 1) l2 _ L' e5 (by omega) _ b' hv'
        exact ⟨p', b2, t1⟩
      · rw [if_neg c2] at e4
        cases e4

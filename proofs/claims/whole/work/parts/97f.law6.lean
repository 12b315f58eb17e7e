/-! ===== the evaluator of the reference: tests ===== -/
theorem L59 : (59 : Int32) = nZ 59 := rfl
theorem L61 : (61 : Int32) = nZ 61 := rfl
theorem L62 : (62 : Int32) = nZ 62 := rfl
theorem L200 : (200 : Int32) = nZ 200 := rfl
theorem ite01 (p : Prop) [Decidable p] : (if p then (1 : Int) else 0) = 0 ∨ (if p then (1 : Int) else 0) = 1 := by
  by_cases h : p
  · exact Or.inr (if_pos h)
  · exact Or.inl (if_neg h)
theorem ite01n (p : Prop) [Decidable p] : (if p then 1 else 0) < 2 := by
  by_cases h : p
  · rw [if_pos h]
    decide
  · rw [if_neg h]
    decide
theorem ite01c (p : Prop) [Decidable p] : (((if p then 1 else 0 : Nat)) : Int) = if p then 1 else 0 := by
  by_cases h : p
  · rw [if_pos h, if_pos h]
    rfl
  · rw [if_neg h, if_neg h]
    rfl
theorem P_5 {C V : Nat → Nat} {N f pos lv dp z ng : Nat} {acc : Den} : P C V N (f + 1) 5 pos lv dp z ng acc = (if cAt C N pos = 8 then P C V N f 5 (pos + 1) lv dp z (1 - ng) acc
      else if cAt C N pos = 140 then
        (if dp = 8 then .inl pos else
          rdB (P C V N f 8 (pos + 1) lv (dp + 1) z 0 acc) fun p l cs dn => if cAt C N p = 141 then .inr (p + 1, l, cs ++ (if ng = 1 then [7] else []), if ng = 1 then dNot dn else dn) else .inl p)
      else rdB (P C V N f 3 pos lv dp z 0 acc) fun p l cs dn =>
        if cAt C N p = 160 ∨ cAt C N p = 162 ∨ cAt C N p = 161 then
          rdB (P C V N f 3 (p + 1) l dp (z + cs.length) 0 acc) fun p2 l2 cs2 dn2 => .inr (p2, l2, cs ++ cs2 ++ (if cAt C N p = 160 then 23 else if cAt C N p = 162 then 24 else 25) :: (if ng = 1 then [7] else []), if ng = 1 then dNot (dCmp (cAt C N p) dn dn2) else dCmp (cAt C N p) dn dn2)
        else .inl p) := rfl
theorem P_6 {C V : Nat → Nat} {N f pos lv dp z ng : Nat} {acc : Den} : P C V N (f + 1) 6 pos lv dp z ng acc = rdB (P C V N f 5 pos lv dp z 0 acc) fun p l cs dn => rdB (P C V N f 7 p l dp (z + cs.length) 0 dn) fun p2 l2 cs2 dn2 => .inr (p2, l2, cs ++ cs2, dn2) := rfl
theorem P_7 {C V : Nat → Nat} {N f pos lv dp z ng : Nat} {acc : Den} : P C V N (f + 1) 7 pos lv dp z ng acc = (if cAt C N pos = 7 then
        rdB (P C V N f 5 (pos + 1) lv dp (z + 1) 0 acc) fun p l cs dn => rdB (P C V N f 7 p l dp (z + 1 + cs.length) 0 (dAnd acc dn)) fun p2 l2 cs2 dn2 => .inr (p2, l2, (6 + 32 * (z + 1 + cs.length)) :: cs ++ cs2, dn2)
      else .inr (pos, lv, [], acc)) := rfl
theorem P_8 {C V : Nat → Nat} {N f pos lv dp z ng : Nat} {acc : Den} : P C V N (f + 1) 8 pos lv dp z ng acc = rdB (P C V N f 6 pos lv dp z 0 acc) fun p l cs dn => rdB (P C V N f 9 p l dp (z + cs.length) 0 dn) fun p2 l2 cs2 dn2 => .inr (p2, l2, cs ++ cs2, dn2) := rfl
theorem P_9 {C V : Nat → Nat} {N f pos lv dp z ng : Nat} {acc : Den} : P C V N (f + 1) 9 pos lv dp z ng acc = (if cAt C N pos = 6 then
        rdB (P C V N f 6 (pos + 1) lv dp (z + 1) 0 acc) fun p l cs dn => rdB (P C V N f 9 p l dp (z + 1 + cs.length) 0 (dOr acc dn)) fun p2 l2 cs2 dn2 => .inr (p2, l2, (5 + 32 * (z + 1 + cs.length)) :: cs ++ cs2, dn2)
      else .inr (pos, lv, [], acc)) := rfl
def b01 (o : Option Int) : Prop := ∀ x, o = some x → x = 0 ∨ x = 1
/-- what a test of meaning o tells: v, and broken b' -/
def TR (o : Option Int) (live b v b' : Nat) : Prop := v < 2 ∧ b' < 2 ∧ (live = 1 ∧ b = 0 → (∀ x, o = some x → (v : Int) = x ∧ b' = 0) ∧ (o = none → b' = 1)) ∧ (¬(live = 1 ∧ b = 0) → b' = b)
theorem b01_not {o : Den} {ng : Nat} {q : Nat → Int} (h : b01 (o q)) : b01 ((if ng = 1 then dNot o else o) q) := by
  split
  · intro x hx
    unfold dNot at hx
    cases e : o q with
    | none =>
      rw [e] at hx
      cases hx
    | some y =>
      rw [e] at hx
      cases hx
      have := h y e
      omega
  · exact h
theorem b01_cmp {a b : Den} {s : Nat} {q : Nat → Int} : b01 (dCmp s a b q) := by
  intro x hx
  unfold dCmp at hx
  cases e : a q with
  | none =>
    rw [e] at hx
    cases hx
  | some y =>
    rw [e] at hx
    cases e2 : b q with
    | none =>
      rw [e2] at hx
      cases hx
    | some w =>
      rw [e2] at hx
      cases hx
      exact ite01 _
theorem b01_and {a b : Den} {q : Nat → Int} (h : b01 (b q)) : b01 (dAnd a b q) := by
  intro x hx
  unfold dAnd at hx
  cases e : a q with
  | none =>
    rw [e] at hx
    cases hx
  | some y =>
    rw [e] at hx
    simp only [Option.bind_some] at hx
    split at hx
    · cases hx
      exact Or.inl rfl
    · exact h x hx
theorem b01_or {a b : Den} {q : Nat → Int} (g : b01 (a q)) (h : b01 (b q)) : b01 (dOr a b q) := by
  intro x hx
  unfold dOr at hx
  cases e : a q with
  | none =>
    rw [e] at hx
    cases hx
  | some y =>
    rw [e] at hx
    simp only [Option.bind_some] at hx
    split at hx
    · exact h x hx
    · have hx' := Option.some.inj hx
      rw [← hx']
      exact g y e
/-- turned or not -/
theorem TR_not {o : Den} {ng live b v b' : Nat} {q : Nat → Int} (hn : ng < 2) (h : TR (o q) live b v b') : TR ((if ng = 1 then dNot o else o) q) live b (if v = ng then 0 else 1) b' := by
  obtain ⟨h1, h2, h3, h4⟩ := h
  refine ⟨by split <;> omega, h2, ?_, h4⟩
  intro hl
  obtain ⟨g1, g2⟩ := h3 hl
  by_cases n1 : ng = 1
  · rw [if_pos n1]
    unfold dNot
    constructor
    · intro x hx
      cases e : o q with
      | none =>
        rw [e] at hx
        cases hx
      | some y =>
        rw [e] at hx
        cases hx
        obtain ⟨g3, g4⟩ := g1 y e
        refine ⟨?_, g4⟩
        split <;> omega
    · intro hx
      cases e : o q with
      | none => exact g2 e
      | some y =>
        rw [e] at hx
        cases hx
  · rw [if_neg n1]
    constructor
    · intro x hx
      obtain ⟨g3, g4⟩ := g1 x hx
      refine ⟨?_, g4⟩
      split <;> omega
    · exact g2
theorem TR_and {a b : Den} {live b0 v0 b1 w b2 : Nat} {q : Nat → Int} (hl : live < 2) (h0 : TR (a q) live b0 v0 b1) (h1 : TR (b q) (if live = 0 then 0 else if v0 = 0 then 0 else 1) b1 w b2) : TR (dAnd a b q) live b0 (if v0 = 0 then 0 else w) b2 := by
  obtain ⟨p1, p2, p3, p4⟩ := h0
  obtain ⟨r1, r2, r3, r4⟩ := h1
  refine ⟨by split <;> omega, r2, ?_, ?_⟩
  · intro hc
    obtain ⟨g1, g2⟩ := p3 hc
    unfold dAnd
    cases e : a q with
    | none =>
      have g3 := g2 e
      have := r4 (by omega)
      refine ⟨fun x hx => (by cases hx), fun _ => by omega⟩
    | some y =>
      obtain ⟨g3, g4⟩ := g1 y e
      simp only [Option.bind_some]
      by_cases y0 : y = 0
      · rw [if_pos y0]
        have v00 : v0 = 0 := by omega
        have := r4 (by rw [if_pos v00]; split <;> omega)
        refine ⟨fun x hx => ?_, fun hx => (by cases hx)⟩
        cases hx
        rw [if_pos v00]
        exact ⟨rfl, by omega⟩
      · rw [if_neg y0]
        have v00 : ¬v0 = 0 := by omega
        rw [if_neg v00]
        rw [if_neg (by omega), if_neg v00] at r3
        exact r3 ⟨rfl, g4⟩
  · intro hc
    have g1 := p4 hc
    have := r4 (by
      intro z
      apply hc
      have z1 := z.1
      by_cases l0 : live = 0
      · rw [if_pos l0] at z1
        omega
      · omega)
    omega
theorem TR_or {a b : Den} {live b0 v0 b1 w b2 : Nat} {q : Nat → Int} (hl : live < 2) (h0 : TR (a q) live b0 v0 b1) (h1 : TR (b q) (if live = 0 then 0 else if v0 = 0 then 1 else 0) b1 w b2) : TR (dOr a b q) live b0 (if v0 = 0 then w else 1) b2 := by
  obtain ⟨p1, p2, p3, p4⟩ := h0
  obtain ⟨r1, r2, r3, r4⟩ := h1
  refine ⟨by split <;> omega, r2, ?_, ?_⟩
  · intro hc
    obtain ⟨g1, g2⟩ := p3 hc
    unfold dOr
    cases e : a q with
    | none =>
      have g3 := g2 e
      have := r4 (by omega)
      refine ⟨fun x hx => (by cases hx), fun _ => by omega⟩
    | some y =>
      obtain ⟨g3, g4⟩ := g1 y e
      simp only [Option.bind_some]
      by_cases y0 : y = 0
      · rw [if_pos y0]
        have v00 : v0 = 0 := by omega
        rw [if_pos v00]
        rw [if_neg (by omega), if_pos v00] at r3
        exact r3 ⟨rfl, g4⟩
      · rw [if_neg y0]
        have v00 : ¬v0 = 0 := by omega
        have := r4 (by rw [if_neg v00]; split <;> omega)
        rw [if_neg v00]
        refine ⟨fun x hx => ?_, fun hx => (by cases hx)⟩
        cases hx
        exact ⟨by omega, by omega⟩
  · intro hc
    have g1 := p4 hc
    have := r4 (by
      intro z
      apply hc
      have z1 := z.1
      by_cases l0 : live = 0
      · rw [if_pos l0] at z1
        omega
      · omega)
    omega
/-- what a comparison tells -/
def cmpV (s : Nat) (x y : Int) : Nat := if (if s = 160 then x < y else if s = 162 then y < x else x = y) then 1 else 0
theorem TR_cmp {a b : Den} {s live b0 : Nat} {q : Nat → Int} (hl : live < 2) (hb : b0 < 2) : TR (dCmp s a b q) live b0 (if live = 1 ∧ (rs (b q) live (rs (a q) live b0).2).2 = 0 then cmpV s (rs (a q) live b0).1 (rs (b q) live (rs (a q) live b0).2).1 else 0) (rs (b q) live (rs (a q) live b0).2).2 := by
  have b2 : b0 = 0 ∨ b0 = 1 := by omega
  have l2 : live = 0 ∨ live = 1 := by omega
  have hv : ∀ x y, cmpV s x y < 2 := fun x y => ite01n _
  refine ⟨?_, rs_b (rs_b hb), ?_, ?_⟩
  · split
    · exact hv _ _
    · decide
  · intro hc
    obtain ⟨r1, r2⟩ := hc
    subst r1
    subst r2
    unfold dCmp
    cases e : a q with
    | none => exact ⟨fun x hx => (by cases hx), fun _ => rfl⟩
    | some x =>
      cases e2 : b q with
      | none => exact ⟨fun x hx => (by cases hx), fun _ => rfl⟩
      | some y =>
        refine ⟨fun w hw => ?_, fun hx => (by cases hx)⟩
        cases hw
        refine ⟨?_, rfl⟩
        show ((cmpV s x y : Nat) : Int) = _
        exact ite01c _
  · intro hc
    have e1 : ∀ z : Option Int, rs z live b0 = (0, b0) := fun z => by
      unfold rs
      rw [if_neg hc]
    rw [e1]
    show (rs (b q) live b0).2 = b0
    rw [e1]
/-- positive: a comparison -/
theorem m234_63 {h : QH} {C V q : Nat → Nat} {N o : Nat} (X : EV h C V q N o) (d p b s live : Nat) (x y : Int) (hl : live < 2) (hb : b < 2) (hx : -1000000000 ≤ x ∧ x ≤ 1000000000) (hy : -1000000000 ≤ y ∧ y ≤ 1000000000) (hs : s = 160 ∨ s = 162 ∨ s = 161) : qbig (d + 2) 234 63 [sR (some 56), sI (nZ live), sL (lI x), none, sI (nZ s), sL (lI y), none] [] (ev h o p b) = some (some (qI (nZ (if live = 1 ∧ b = 0 then cmpV s x y else 0))), ev h o p b) := by
  have H1 : Sh (ev h o p b) := X.1
  have z10 : (nZ 1 = nZ 0) = False := by decide
  have rx : Rg x := by unfold Rg; omega
  have ry : Rg y := by unfold Rg; omega
  have k1 := cmp_lt rx ry
  have k2 := cmp_gt rx ry
  have k3 := cmp_eq rx ry
  have b2 : b = 0 ∨ b = 1 := by omega
  have l2 : live = 0 ∨ live = 1 := by omega
  rw [E234_63]
  rcases l2 with r | r <;> subst r
  · simp (disch := first | assumption | omega | (simp only [Sh_si, Sh_sA]; assumption)) only [p56_0, g56_0, p56_1, g56_1, g56_2, g56_3, g56_4, g56_5, p56_6, g56_6, g56_7, g56_8, g56_9, p56_10, g56_10, p56_11, g56_11, g56_12, g56_13, g56_14, p56_15, g56_15, p56_16, g56_16, p56_17, g56_17, p56_18, g56_18, p56_19, g56_19, p56_20, g56_20, B56_21, g56_21, g56_22, g56_23, g56_24, g56_25, g56_26, g56_27, p56_28, g56_28, p56_29, g56_29, p56_30, g56_30, p56_31, g56_31, g56_32, g56_33, g56_34, p56_35, g56_35, p56_36, g56_36, p56_37, g56_37, p56_38, g56_38, g56_39, g56_40, g56_41, p56_42, g56_42, p56_43, g56_43, p56_44, g56_44, ck56, A57, S57, l57, A58, S58, l58, A59, S59, l59, A60, S60, l60, A61, S61, l61, A62, S62, l62, A63, S63, l63, A64, S64, l64, A65, S65, l65, A66, S66, l66, A67, S67, l67, A68, S68, l68, A69, S69, l69, A70, S70, l70, A71, S71, l71, A72, S72, l72, A73, S73, l73, A74, S74, l74, A75, S75, l75, A76, S76, l76, A77, S77, l77, A78, S78, l78, L0, L1, L2, L3, L4, L5, L6, L7, L8, L9, L10, L11, L12, L13, L14, L15, L16, L17, L18, L19, L20, L21, L22, L23, L24, L25, L26, L27, L28, L29, L30, L31, L32, L33, L34, L35, L36, L37, L38, L39, L40, L41, L42, L43, L44, L45, L46, L47, L48, L49, L50, L52, L57, L60, L90, L91, L93, L97, L99, L100, L101, L122, L240, L255, L256, L400, L401, L408, L409, L410, L411, L412, L413, L414, L420, L1000, L1001, L1103, L1200, L1240, L2820, L5220, L7936, L10440, L12345, L1000000, L1000003, L1073741823, L59, L61, L62, L200, nd_lt_t, nd_lt_f, nd_le_t, nd_le_f, nd_eq_f, nZ_add, nZ_mul, nZ_sub, nZ_lt, nZ_le, nZ_eq, nZ_nat, nZ_div, nZ_rem, nZ_and, nZ_or, and31, nZ_shl, nZ_shr, nZ_m1, nZ_nneg, nZ_nneg', nZ_nlt, nZ_ltn, inR_lt, Nat.not_lt_zero, ob_some, jI, jL, jR, jV, rI0, rI1, rIv, if_true, if_false, ↓reduceIte, Nat.reduceAdd, Nat.reduceMul, Nat.reduceSub, Nat.reduceLT, Nat.reduceEqDiff, Nat.reduceLeDiff, Nat.zero_add, Nat.add_zero, Nat.zero_mul, Nat.mul_zero, Nat.one_mul, Nat.mul_one, and_true, true_and, false_and, and_false, or_true, true_or, or_false, false_or, not_true_eq_false, not_false_eq_true, eq_self, bI_0, bI_1, em_b, hI_ne, hI_at, hA_ne, hA_at, Sh_si, Sh_sA]
  · rcases b2 with r | r <;> subst r
    · rcases hs with r | r | r <;> subst r
      · by_cases c : x < y
        · simp (disch := first | assumption | omega | (simp only [Sh_si, Sh_sA]; assumption)) only [ev_21, m254, k1, eq_true c, cmpV, p56_0, g56_0, p56_1, g56_1, g56_2, g56_3, g56_4, g56_5, p56_6, g56_6, g56_7, g56_8, g56_9, p56_10, g56_10, p56_11, g56_11, g56_12, g56_13, g56_14, p56_15, g56_15, p56_16, g56_16, p56_17, g56_17, p56_18, g56_18, p56_19, g56_19, p56_20, g56_20, B56_21, g56_21, g56_22, g56_23, g56_24, g56_25, g56_26, g56_27, p56_28, g56_28, p56_29, g56_29, p56_30, g56_30, p56_31, g56_31, g56_32, g56_33, g56_34, p56_35, g56_35, p56_36, g56_36, p56_37, g56_37, p56_38, g56_38, g56_39, g56_40, g56_41, p56_42, g56_42, p56_43, g56_43, p56_44, g56_44, ck56, A57, S57, l57, A58, S58, l58, A59, S59, l59, A60, S60, l60, A61, S61, l61, A62, S62, l62, A63, S63, l63, A64, S64, l64, A65, S65, l65, A66, S66, l66, A67, S67, l67, A68, S68, l68, A69, S69, l69, A70, S70, l70, A71, S71, l71, A72, S72, l72, A73, S73, l73, A74, S74, l74, A75, S75, l75, A76, S76, l76, A77, S77, l77, A78, S78, l78, L0, L1, L2, L3, L4, L5, L6, L7, L8, L9, L10, L11, L12, L13, L14, L15, L16, L17, L18, L19, L20, L21, L22, L23, L24, L25, L26, L27, L28, L29, L30, L31, L32, L33, L34, L35, L36, L37, L38, L39, L40, L41, L42, L43, L44, L45, L46, L47, L48, L49, L50, L52, L57, L60, L90, L91, L93, L97, L99, L100, L101, L122, L240, L255, L256, L400, L401, L408, L409, L410, L411, L412, L413, L414, L420, L1000, L1001, L1103, L1200, L1240, L2820, L5220, L7936, L10440, L12345, L1000000, L1000003, L1073741823, L59, L61, L62, L200, nd_lt_t, nd_lt_f, nd_le_t, nd_le_f, nd_eq_f, nZ_add, nZ_mul, nZ_sub, nZ_lt, nZ_le, nZ_eq, nZ_nat, nZ_div, nZ_rem, nZ_and, nZ_or, and31, nZ_shl, nZ_shr, nZ_m1, nZ_nneg, nZ_nneg', nZ_nlt, nZ_ltn, inR_lt, Nat.not_lt_zero, ob_some, jI, jL, jR, jV, rI0, rI1, rIv, if_true, if_false, ↓reduceIte, Nat.reduceAdd, Nat.reduceMul, Nat.reduceSub, Nat.reduceLT, Nat.reduceEqDiff, Nat.reduceLeDiff, Nat.zero_add, Nat.add_zero, Nat.zero_mul, Nat.mul_zero, Nat.one_mul, Nat.mul_one, and_true, true_and, false_and, and_false, or_true, true_or, or_false, false_or, not_true_eq_false, not_false_eq_true, eq_self, bI_0, bI_1, em_b, hI_ne, hI_at, hA_ne, hA_at, Sh_si, Sh_sA]
        · simp (disch := first | assumption | omega | (simp only [Sh_si, Sh_sA]; assumption)) only [ev_21, m254, k1, eq_false c, cmpV, p56_0, g56_0, p56_1, g56_1, g56_2, g56_3, g56_4, g56_5, p56_6, g56_6, g56_7, g56_8, g56_9, p56_10, g56_10, p56_11, g56_11, g56_12, g56_13, g56_14, p56_15, g56_15, p56_16, g56_16, p56_17, g56_17, p56_18, g56_18, p56_19, g56_19, p56_20, g56_20, B56_21, g56_21, g56_22, g56_23, g56_24, g56_25, g56_26, g56_27, p56_28, g56_28, p56_29, g56_29, p56_30, g56_30, p56_31, g56_31, g56_32, g56_33, g56_34, p56_35, g56_35, p56_36, g56_36, p56_37, g56_37, p56_38, g56_38, g56_39, g56_40, g56_41, p56_42, g56_42, p56_43, g56_43, p56_44, g56_44, ck56, A57, S57, l57, A58, S58, l58, A59, S59, l59, A60, S60, l60, A61, S61, l61, A62, S62, l62, A63, S63, l63, A64, S64, l64, A65, S65, l65, A66, S66, l66, A67, S67, l67, A68, S68, l68, A69, S69, l69, A70, S70, l70, A71, S71, l71, A72, S72, l72, A73, S73, l73, A74, S74, l74, A75, S75, l75, A76, S76, l76, A77, S77, l77, A78, S78, l78, L0, L1, L2, L3, L4, L5, L6, L7, L8, L9, L10, L11, L12, L13, L14, L15, L16, L17, L18, L19, L20, L21, L22, L23, L24, L25, L26, L27, L28, L29, L30, L31, L32, L33, L34, L35, L36, L37, L38, L39, L40, L41, L42, L43, L44, L45, L46, L47, L48, L49, L50, L52, L57, L60, L90, L91, L93, L97, L99, L100, L101, L122, L240, L255, L256, L400, L401, L408, L409, L410, L411, L412, L413, L414, L420, L1000, L1001, L1103, L1200, L1240, L2820, L5220, L7936, L10440, L12345, L1000000, L1000003, L1073741823, L59, L61, L62, L200, nd_lt_t, nd_lt_f, nd_le_t, nd_le_f, nd_eq_f, nZ_add, nZ_mul, nZ_sub, nZ_lt, nZ_le, nZ_eq, nZ_nat, nZ_div, nZ_rem, nZ_and, nZ_or, and31, nZ_shl, nZ_shr, nZ_m1, nZ_nneg, nZ_nneg', nZ_nlt, nZ_ltn, inR_lt, Nat.not_lt_zero, ob_some, jI, jL, jR, jV, rI0, rI1, rIv, if_true, if_false, ↓reduceIte, Nat.reduceAdd, Nat.reduceMul, Nat.reduceSub, Nat.reduceLT, Nat.reduceEqDiff, Nat.reduceLeDiff, Nat.zero_add, Nat.add_zero, Nat.zero_mul, Nat.mul_zero, Nat.one_mul, Nat.mul_one, and_true, true_and, false_and, and_false, or_true, true_or, or_false, false_or, not_true_eq_false, not_false_eq_true, eq_self, bI_0, bI_1, em_b, hI_ne, hI_at, hA_ne, hA_at, Sh_si, Sh_sA]
      · by_cases c : y < x
        · simp (disch := first | assumption | omega | (simp only [Sh_si, Sh_sA]; assumption)) only [ev_21, m254, k2, eq_true c, cmpV, p56_0, g56_0, p56_1, g56_1, g56_2, g56_3, g56_4, g56_5, p56_6, g56_6, g56_7, g56_8, g56_9, p56_10, g56_10, p56_11, g56_11, g56_12, g56_13, g56_14, p56_15, g56_15, p56_16, g56_16, p56_17, g56_17, p56_18, g56_18, p56_19, g56_19, p56_20, g56_20, B56_21, g56_21, g56_22, g56_23, g56_24, g56_25, g56_26, g56_27, p56_28, g56_28, p56_29, g56_29, p56_30, g56_30, p56_31, g56_31, g56_32, g56_33, g56_34, p56_35, g56_35, p56_36, g56_36, p56_37, g56_37, p56_38, g56_38, g56_39, g56_40, g56_41, p56_42, g56_42, p56_43, g56_43, p56_44, g56_44, ck56, A57, S57, l57, A58, S58, l58, A59, S59, l59, A60, S60, l60, A61, S61, l61, A62, S62, l62, A63, S63, l63, A64, S64, l64, A65, S65, l65, A66, S66, l66, A67, S67, l67, A68, S68, l68, A69, S69, l69, A70, S70, l70, A71, S71, l71, A72, S72, l72, A73, S73, l73, A74, S74, l74, A75, S75, l75, A76, S76, l76, A77, S77, l77, A78, S78, l78, L0, L1, L2, L3, L4, L5, L6, L7, L8, L9, L10, L11, L12, L13, L14, L15, L16, L17, L18, L19, L20, L21, L22, L23, L24, L25, L26, L27, L28, L29, L30, L31, L32, L33, L34, L35, L36, L37, L38, L39, L40, L41, L42, L43, L44, L45, L46, L47, L48, L49, L50, L52, L57, L60, L90, L91, L93, L97, L99, L100, L101, L122, L240, L255, L256, L400, L401, L408, L409, L410, L411, L412, L413, L414, L420, L1000, L1001, L1103, L1200, L1240, L2820, L5220, L7936, L10440, L12345, L1000000, L1000003, L1073741823, L59, L61, L62, L200, nd_lt_t, nd_lt_f, nd_le_t, nd_le_f, nd_eq_f, nZ_add, nZ_mul, nZ_sub, nZ_lt, nZ_le, nZ_eq, nZ_nat, nZ_div, nZ_rem, nZ_and, nZ_or, and31, nZ_shl, nZ_shr, nZ_m1, nZ_nneg, nZ_nneg', nZ_nlt, nZ_ltn, inR_lt, Nat.not_lt_zero, ob_some, jI, jL, jR, jV, rI0, rI1, rIv, if_true, if_false, ↓reduceIte, Nat.reduceAdd, Nat.reduceMul, Nat.reduceSub, Nat.reduceLT, Nat.reduceEqDiff, Nat.reduceLeDiff, Nat.zero_add, Nat.add_zero, Nat.zero_mul, Nat.mul_zero, Nat.one_mul, Nat.mul_one, and_true, true_and, false_and, and_false, or_true, true_or, or_false, false_or, not_true_eq_false, not_false_eq_true, eq_self, bI_0, bI_1, em_b, hI_ne, hI_at, hA_ne, hA_at, Sh_si, Sh_sA]
        · simp (disch := first | assumption | omega | (simp only [Sh_si, Sh_sA]; assumption)) only [ev_21, m254, k2, eq_false c, cmpV, p56_0, g56_0, p56_1, g56_1, g56_2, g56_3, g56_4, g56_5, p56_6, g56_6, g56_7, g56_8, g56_9, p56_10, g56_10, p56_11, g56_11, g56_12, g56_13, g56_14, p56_15, g56_15, p56_16, g56_16, p56_17, g56_17, p56_18, g56_18, p56_19, g56_19, p56_20, g56_20, B56_21, g56_21, g56_22, g56_23, g56_24, g56_25, g56_26, g56_27, p56_28, g56_28, p56_29, g56_29, p56_30, g56_30, p56_31, g56_31, g56_32, g56_33, g56_34, p56_35, g56_35, p56_36, g56_36, p56_37, g56_37, p56_38, g56_38, g56_39, g56_40, g56_41, p56_42, g56_42, p56_43, g56_43, p56_44, g56_44, ck56, A57, S57, l57, A58, S58, l58, A59, S59, l59, A60, S60, l60, A61, S61, l61, A62, S62, l62, A63, S63, l63, A64, S64, l64, A65, S65, l65, A66, S66, l66, A67, S67, l67, A68, S68, l68, A69, S69, l69, A70, S70, l70, A71, S71, l71, A72, S72, l72, A73, S73, l73, A74, S74, l74, A75, S75, l75, A76, S76, l76, A77, S77, l77, A78, S78, l78, L0, L1, L2, L3, L4, L5, L6, L7, L8, L9, L10, L11, L12, L13, L14, L15, L16, L17, L18, L19, L20, L21, L22, L23, L24, L25, L26, L27, L28, L29, L30, L31, L32, L33, L34, L35, L36, L37, L38, L39, L40, L41, L42, L43, L44, L45, L46, L47, L48, L49, L50, L52, L57, L60, L90, L91, L93, L97, L99, L100, L101, L122, L240, L255, L256, L400, L401, L408, L409, L410, L411, L412, L413, L414, L420, L1000, L1001, L1103, L1200, L1240, L2820, L5220, L7936, L10440, L12345, L1000000, L1000003, L1073741823, L59, L61, L62, L200, nd_lt_t, nd_lt_f, nd_le_t, nd_le_f, nd_eq_f, nZ_add, nZ_mul, nZ_sub, nZ_lt, nZ_le, nZ_eq, nZ_nat, nZ_div, nZ_rem, nZ_and, nZ_or, and31, nZ_shl, nZ_shr, nZ_m1, nZ_nneg, nZ_nneg', nZ_nlt, nZ_ltn, inR_lt, Nat.not_lt_zero, ob_some, jI, jL, jR, jV, rI0, rI1, rIv, if_true, if_false, ↓reduceIte, Nat.reduceAdd, Nat.reduceMul, Nat.reduceSub, Nat.reduceLT, Nat.reduceEqDiff, Nat.reduceLeDiff, Nat.zero_add, Nat.add_zero, Nat.zero_mul, Nat.mul_zero, Nat.one_mul, Nat.mul_one, and_true, true_and, false_and, and_false, or_true, true_or, or_false, false_or, not_true_eq_false, not_false_eq_true, eq_self, bI_0, bI_1, em_b, hI_ne, hI_at, hA_ne, hA_at, Sh_si, Sh_sA]
      · by_cases c : x = y
        · simp (disch := first | assumption | omega | (simp only [Sh_si, Sh_sA]; assumption)) only [ev_21, m254, k3, eq_true c, cmpV, p56_0, g56_0, p56_1, g56_1, g56_2, g56_3, g56_4, g56_5, p56_6, g56_6, g56_7, g56_8, g56_9, p56_10, g56_10, p56_11, g56_11, g56_12, g56_13, g56_14, p56_15, g56_15, p56_16, g56_16, p56_17, g56_17, p56_18, g56_18, p56_19, g56_19, p56_20, g56_20, B56_21, g56_21, g56_22, g56_23, g56_24, g56_25, g56_26, g56_27, p56_28, g56_28, p56_29, g56_29, p56_30, g56_30, p56_31, g56_31, g56_32, g56_33, g56_34, p56_35, g56_35, p56_36, g56_36, p56_37, g56_37, p56_38, g56_38, g56_39, g56_40, g56_41, p56_42, g56_42, p56_43, g56_43, p56_44, g56_44, ck56, A57, S57, l57, A58, S58, l58, A59, S59, l59, A60, S60, l60, A61, S61, l61, A62, S62, l62, A63, S63, l63, A64, S64, l64, A65, S65, l65, A66, S66, l66, A67, S67, l67, A68, S68, l68, A69, S69, l69, A70, S70, l70, A71, S71, l71, A72, S72, l72, A73, S73, l73, A74, S74, l74, A75, S75, l75, A76, S76, l76, A77, S77, l77, A78, S78, l78, L0, L1, L2, L3, L4, L5, L6, L7, L8, L9, L10, L11, L12, L13, L14, L15, L16, L17, L18, L19, L20, L21, L22, L23, L24, L25, L26, L27, L28, L29, L30, L31, L32, L33, L34, L35, L36, L37, L38, L39, L40, L41, L42, L43, L44, L45, L46, L47, L48, L49, L50, L52, L57, L60, L90, L91, L93, L97, L99, L100, L101, L122, L240, L255, L256, L400, L401, L408, L409, L410, L411, L412, L413, L414, L420, L1000, L1001, L1103, L1200, L1240, L2820, L5220, L7936, L10440, L12345, L1000000, L1000003, L1073741823, L59, L61, L62, L200, nd_lt_t, nd_lt_f, nd_le_t, nd_le_f, nd_eq_f, nZ_add, nZ_mul, nZ_sub, nZ_lt, nZ_le, nZ_eq, nZ_nat, nZ_div, nZ_rem, nZ_and, nZ_or, and31, nZ_shl, nZ_shr, nZ_m1, nZ_nneg, nZ_nneg', nZ_nlt, nZ_ltn, inR_lt, Nat.not_lt_zero, ob_some, jI, jL, jR, jV, rI0, rI1, rIv, if_true, if_false, ↓reduceIte, Nat.reduceAdd, Nat.reduceMul, Nat.reduceSub, Nat.reduceLT, Nat.reduceEqDiff, Nat.reduceLeDiff, Nat.zero_add, Nat.add_zero, Nat.zero_mul, Nat.mul_zero, Nat.one_mul, Nat.mul_one, and_true, true_and, false_and, and_false, or_true, true_or, or_false, false_or, not_true_eq_false, not_false_eq_true, eq_self, bI_0, bI_1, em_b, hI_ne, hI_at, hA_ne, hA_at, Sh_si, Sh_sA]
        · simp (disch := first | assumption | omega | (simp only [Sh_si, Sh_sA]; assumption)) only [ev_21, m254, k3, eq_false c, cmpV, p56_0, g56_0, p56_1, g56_1, g56_2, g56_3, g56_4, g56_5, p56_6, g56_6, g56_7, g56_8, g56_9, p56_10, g56_10, p56_11, g56_11, g56_12, g56_13, g56_14, p56_15, g56_15, p56_16, g56_16, p56_17, g56_17, p56_18, g56_18, p56_19, g56_19, p56_20, g56_20, B56_21, g56_21, g56_22, g56_23, g56_24, g56_25, g56_26, g56_27, p56_28, g56_28, p56_29, g56_29, p56_30, g56_30, p56_31, g56_31, g56_32, g56_33, g56_34, p56_35, g56_35, p56_36, g56_36, p56_37, g56_37, p56_38, g56_38, g56_39, g56_40, g56_41, p56_42, g56_42, p56_43, g56_43, p56_44, g56_44, ck56, A57, S57, l57, A58, S58, l58, A59, S59, l59, A60, S60, l60, A61, S61, l61, A62, S62, l62, A63, S63, l63, A64, S64, l64, A65, S65, l65, A66, S66, l66, A67, S67, l67, A68, S68, l68, A69, S69, l69, A70, S70, l70, A71, S71, l71, A72, S72, l72, A73, S73, l73, A74, S74, l74, A75, S75, l75, A76, S76, l76, A77, S77, l77, A78, S78, l78, L0, L1, L2, L3, L4, L5, L6, L7, L8, L9, L10, L11, L12, L13, L14, L15, L16, L17, L18, L19, L20, L21, L22, L23, L24, L25, L26, L27, L28, L29, L30, L31, L32, L33, L34, L35, L36, L37, L38, L39, L40, L41, L42, L43, L44, L45, L46, L47, L48, L49, L50, L52, L57, L60, L90, L91, L93, L97, L99, L100, L101, L122, L240, L255, L256, L400, L401, L408, L409, L410, L411, L412, L413, L414, L420, L1000, L1001, L1103, L1200, L1240, L2820, L5220, L7936, L10440, L12345, L1000000, L1000003, L1073741823, L59, L61, L62, L200, nd_lt_t, nd_lt_f, nd_le_t, nd_le_f, nd_eq_f, nZ_add, nZ_mul, nZ_sub, nZ_lt, nZ_le, nZ_eq, nZ_nat, nZ_div, nZ_rem, nZ_and, nZ_or, and31, nZ_shl, nZ_shr, nZ_m1, nZ_nneg, nZ_nneg', nZ_nlt, nZ_ltn, inR_lt, Nat.not_lt_zero, ob_some, jI, jL, jR, jV, rI0, rI1, rIv, if_true, if_false, ↓reduceIte, Nat.reduceAdd, Nat.reduceMul, Nat.reduceSub, Nat.reduceLT, Nat.reduceEqDiff, Nat.reduceLeDiff, Nat.zero_add, Nat.add_zero, Nat.zero_mul, Nat.mul_zero, Nat.one_mul, Nat.mul_one, and_true, true_and, false_and, and_false, or_true, true_or, or_false, false_or, not_true_eq_false, not_false_eq_true, eq_self, bI_0, bI_1, em_b, hI_ne, hI_at, hA_ne, hA_at, Sh_si, Sh_sA]
    · simp (disch := first | assumption | omega | (simp only [Sh_si, Sh_sA]; assumption)) only [ev_21, m254, cmpV, p56_0, g56_0, p56_1, g56_1, g56_2, g56_3, g56_4, g56_5, p56_6, g56_6, g56_7, g56_8, g56_9, p56_10, g56_10, p56_11, g56_11, g56_12, g56_13, g56_14, p56_15, g56_15, p56_16, g56_16, p56_17, g56_17, p56_18, g56_18, p56_19, g56_19, p56_20, g56_20, B56_21, g56_21, g56_22, g56_23, g56_24, g56_25, g56_26, g56_27, p56_28, g56_28, p56_29, g56_29, p56_30, g56_30, p56_31, g56_31, g56_32, g56_33, g56_34, p56_35, g56_35, p56_36, g56_36, p56_37, g56_37, p56_38, g56_38, g56_39, g56_40, g56_41, p56_42, g56_42, p56_43, g56_43, p56_44, g56_44, ck56, A57, S57, l57, A58, S58, l58, A59, S59, l59, A60, S60, l60, A61, S61, l61, A62, S62, l62, A63, S63, l63, A64, S64, l64, A65, S65, l65, A66, S66, l66, A67, S67, l67, A68, S68, l68, A69, S69, l69, A70, S70, l70, A71, S71, l71, A72, S72, l72, A73, S73, l73, A74, S74, l74, A75, S75, l75, A76, S76, l76, A77, S77, l77, A78, S78, l78, L0, L1, L2, L3, L4, L5, L6, L7, L8, L9, L10, L11, L12, L13, L14, L15, L16, L17, L18, L19, L20, L21, L22, L23, L24, L25, L26, L27, L28, L29, L30, L31, L32, L33, L34, L35, L36, L37, L38, L39, L40, L41, L42, L43, L44, L45, L46, L47, L48, L49, L50, L52, L57, L60, L90, L91, L93, L97, L99, L100, L101, L122, L240, L255, L256, L400, L401, L408, L409, L410, L411, L412, L413, L414, L420, L1000, L1001, L1103, L1200, L1240, L2820, L5220, L7936, L10440, L12345, L1000000, L1000003, L1073741823, L59, L61, L62, L200, nd_lt_t, nd_lt_f, nd_le_t, nd_le_f, nd_eq_f, nZ_add, nZ_mul, nZ_sub, nZ_lt, nZ_le, nZ_eq, nZ_nat, nZ_div, nZ_rem, nZ_and, nZ_or, and31, nZ_shl, nZ_shr, nZ_m1, nZ_nneg, nZ_nneg', nZ_nlt, nZ_ltn, inR_lt, Nat.not_lt_zero, ob_some, jI, jL, jR, jV, rI0, rI1, rIv, if_true, if_false, ↓reduceIte, Nat.reduceAdd, Nat.reduceMul, Nat.reduceSub, Nat.reduceLT, Nat.reduceEqDiff, Nat.reduceLeDiff, Nat.zero_add, Nat.add_zero, Nat.zero_mul, Nat.mul_zero, Nat.one_mul, Nat.mul_one, and_true, true_and, false_and, and_false, or_true, true_or, or_false, false_or, not_true_eq_false, not_false_eq_true, eq_self, bI_0, bI_1, em_b, hI_ne, hI_at, hA_ne, hA_at, Sh_si, Sh_sA]

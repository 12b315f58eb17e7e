/-! ===== enough is read ===== -/
theorem P_fuel {C V : Nat → Nat} {N : Nat} (hN4 : N < 1000) : ∀ f s pos lv dp z ng acc, s < 10 → ng < 2 → (ng = 1 → s = 5) → pos ≤ N → 12 * (N - pos) + s + 1 ≤ f → P C V N f s pos lv dp z ng acc ≠ .inl 100000 := by
  intro f
  induction f with
  | zero =>
    intro s pos lv dp z ng acc hs hng hn5 hpos hf
    omega
  | succ f ih =>
    have sub : ∀ (s1 pos lv dp z : Nat) (acc : Den) (k : Nat → Nat → List Nat → Den → Rd), s1 < 10 → pos ≤ N → 12 * (N - pos) + s1 + 1 ≤ f → (∀ p l cs dn, P C V N f s1 pos lv dp z 0 acc = .inr (p, l, cs, dn) → p ≤ N → k p l cs dn ≠ .inl 100000) → rdB (P C V N f s1 pos lv dp z 0 acc) k ≠ .inl 100000 := by
      intro s1 pos lv dp z acc k h1 h2 h3 hk
      have i1 := ih s1 pos lv dp z 0 acc h1 (by decide) (by omega) h2 h3
      cases e1 : P C V N f s1 pos lv dp z 0 acc with
      | inl e =>
        rw [e1] at i1
        exact i1
      | inr v =>
        obtain ⟨p, l, cs, dn⟩ := v
        obtain ⟨q1, q2, q3, q4⟩ := PB _ _ _ _ _ _ _ _ _ _ _ _ e1 h1 (by decide) (by omega) h2
        exact hk p l cs dn e1 q2
    have two : ∀ (s1 s2 pos lv dp z : Nat) (acc : Den), s1 < 10 → s2 < 10 → ¬(s1 = 2 ∨ s1 = 4 ∨ s1 = 7 ∨ s1 = 9) → pos ≤ N → 12 * (N - pos) + s1 + 1 ≤ f → (rdB (P C V N f s1 pos lv dp z 0 acc) fun p l cs dn => rdB (P C V N f s2 p l dp (z + cs.length) 0 dn) fun p2 l2 cs2 dn2 => .inr (p2, l2, cs ++ cs2, dn2)) ≠ .inl 100000 := by
      intro s1 s2 pos lv dp z acc h1 h2 hr h3 h4
      refine sub s1 pos lv dp z acc _ h1 h3 h4 ?_
      intro p l cs dn e hp
      have := PP _ _ _ _ _ _ _ _ _ _ _ _ e h1
      refine sub s2 p l dp _ dn _ h2 hp (by omega) ?_
      intro p2 lw cs2 dn2 e2 hp2 z
      cases z
    intro s pos lv dp z ng acc hs hng hn5 hpos hf
    have s10 : s = 0 ∨ s = 1 ∨ s = 2 ∨ s = 3 ∨ s = 4 ∨ s = 5 ∨ s = 6 ∨ s = 7 ∨ s = 8 ∨ s = 9 := by omega
    have inl_ne : ∀ p, p ≤ N → (Sum.inl p : Rd) ≠ .inl 100000 := by
      intro p hp e
      cases e
      omega
    rcases s10 with r | r | r | r | r | r | r | r | r | r <;> subst r
    · rw [P_0]
      by_cases c1 : cAt C N pos = 191
      · rw [if_pos c1]
        have hp1 := C_pos (C := C) (N := N) (k := pos) (by omega)
        split
        · exact inl_ne pos hpos
        · refine sub 3 (pos + 1) lv (dp + 1) z acc _ (by decide) (by omega) (by omega) ?_
          intro p l cs dn e hp
          split
          · intro zz
            cases zz
          · exact inl_ne p hp
      · rw [if_neg c1]
        split
        · split
          · exact inl_ne pos hpos
          · intro zz
            cases zz
        · split
          · split
            · exact inl_ne pos hpos
            · intro zz
              cases zz
          · exact inl_ne pos hpos
    · rw [P_1]
      exact two 0 2 pos lv dp z acc (by decide) (by decide) (by decide) hpos (by omega)
    · rw [P_2]
      by_cases c1 : cAt C N pos = 142 ∨ cAt C N pos = 147
      · rw [if_pos c1]
        have hp1 := C_pos (C := C) (N := N) (k := pos) (by omega)
        refine sub 0 (pos + 1) lv dp z acc _ (by decide) (by omega) (by omega) ?_
        intro p l cs dn e hp
        have := PP _ _ _ _ _ _ _ _ _ _ _ _ e (by decide)
        refine sub 2 p l dp _ _ _ (by decide) hp (by omega) ?_
        intro p2 lw cs2 dn2 e2 hp2 zz
        cases zz
      · rw [if_neg c1]
        intro zz
        cases zz
    · rw [P_3]
      exact two 1 4 pos lv dp z acc (by decide) (by decide) (by decide) hpos (by omega)
    · rw [P_4]
      by_cases c1 : cAt C N pos = 143 ∨ cAt C N pos = 145
      · rw [if_pos c1]
        have hp1 := C_pos (C := C) (N := N) (k := pos) (by omega)
        refine sub 1 (pos + 1) lv dp z acc _ (by decide) (by omega) (by omega) ?_
        intro p l cs dn e hp
        have := PP _ _ _ _ _ _ _ _ _ _ _ _ e (by decide)
        refine sub 4 p l dp _ _ _ (by decide) hp (by omega) ?_
        intro p2 lw cs2 dn2 e2 hp2 zz
        cases zz
      · rw [if_neg c1]
        intro zz
        cases zz
    · rw [P_5]
      by_cases c1 : cAt C N pos = 8
      · rw [if_pos c1]
        have hp1 := C_pos (C := C) (N := N) (k := pos) (by omega)
        exact ih 5 (pos + 1) lv dp z (1 - ng) acc (by decide) (by omega) (fun _ => rfl) (by omega) (by omega)
      · rw [if_neg c1]
        by_cases c2 : cAt C N pos = 140
        · rw [if_pos c2]
          have hp1 := C_pos (C := C) (N := N) (k := pos) (by omega)
          split
          · exact inl_ne pos hpos
          · refine sub 8 (pos + 1) lv (dp + 1) z acc _ (by decide) (by omega) (by omega) ?_
            intro p l cs dn e hp
            split
            · intro zz
              cases zz
            · exact inl_ne p hp
        · rw [if_neg c2]
          refine sub 3 pos lv dp z acc _ (by decide) hpos (by omega) ?_
          intro p l cs dn e hp
          have := PP _ _ _ _ _ _ _ _ _ _ _ _ e (by decide)
          by_cases c3 : cAt C N p = 160 ∨ cAt C N p = 162 ∨ cAt C N p = 161
          · rw [if_pos c3]
            have hp1 := C_pos (C := C) (N := N) (k := p) (by omega)
            refine sub 3 (p + 1) l dp _ acc _ (by decide) (by omega) (by omega) ?_
            intro p2 lw cs2 dn2 e2 hp2 zz
            cases zz
          · rw [if_neg c3]
            exact inl_ne p hp
    · rw [P_6]
      exact two 5 7 pos lv dp z acc (by decide) (by decide) (by decide) hpos (by omega)
    · rw [P_7]
      by_cases c1 : cAt C N pos = 7
      · rw [if_pos c1]
        have hp1 := C_pos (C := C) (N := N) (k := pos) (by omega)
        refine sub 5 (pos + 1) lv dp (z + 1) acc _ (by decide) (by omega) (by omega) ?_
        intro p l cs dn e hp
        have := PP _ _ _ _ _ _ _ _ _ _ _ _ e (by decide)
        refine sub 7 p l dp _ _ _ (by decide) hp (by omega) ?_
        intro p2 lw cs2 dn2 e2 hp2 zz
        cases zz
      · rw [if_neg c1]
        intro zz
        cases zz
    · rw [P_8]
      exact two 6 9 pos lv dp z acc (by decide) (by decide) (by decide) hpos (by omega)
    · rw [P_9]
      by_cases c1 : cAt C N pos = 6
      · rw [if_pos c1]
        have hp1 := C_pos (C := C) (N := N) (k := pos) (by omega)
        refine sub 6 (pos + 1) lv dp (z + 1) acc _ (by decide) (by omega) (by omega) ?_
        intro p l cs dn e hp
        have := PP _ _ _ _ _ _ _ _ _ _ _ _ e (by decide)
        refine sub 9 p l dp _ _ _ (by decide) hp (by omega) ?_
        intro p2 lw cs2 dn2 e2 hp2 zz
        cases zz
      · rw [if_neg c1]
        intro zz
        cases zz
/-! ===== a clause, a law: the reference ===== -/
theorem RH_ne {C V : Nat → Nat} {N pos lv z : Nat} (hN4 : N ≤ 400) (hpos : pos ≤ N) : RH C V N pos lv z ≠ .inl 100000 := by
  unfold RH
  by_cases c1 : cAt C N pos = 1 ∨ cAt C N pos = 2 ∨ cAt C N pos = 3
  · rw [if_pos c1]
    have hp1 := C_pos (C := C) (N := N) (k := pos) (by omega)
    exact P_fuel (by omega) _ _ _ _ _ _ _ _ (by decide) (by decide) (by decide) (by omega) (by omega)
  · rw [if_neg c1]
    split
    · intro zz
      cases zz
    · intro zz
      cases zz
      omega
theorem RI_ne {C V : Nat → Nat} {N p l z : Nat} (hN4 : N ≤ 400) (hp : p ≤ N) : RI C V N p l z ≠ .inl 100000 := by
  unfold RI
  by_cases c1 : cAt C N p = 5
  · rw [if_pos c1]
    have hp1 := C_pos (C := C) (N := N) (k := p) (by omega)
    exact P_fuel (by omega) _ _ _ _ _ _ _ _ (by decide) (by decide) (by decide) (by omega) (by omega)
  · rw [if_neg c1]
    intro zz
    cases zz
/-- a clause read -/
def RC (C V : Nat → Nat) (N pos lv z : Nat) : Rd := rdB (RH C V N pos lv z) fun p l cs dn => rdB (RI C V N p l (z + cs.length)) fun p2 l2 cs2 dt => .inr (p2, l2, cs ++ cs2, dt)
/-- behind a head -/
noncomputable def m_tl (d : Nat) (k : QH) : QO := cI (qcl (d + 60) 264 [qR (some 56), qI (nZ 5)] k) (fun x h1 => if x = nZ 0 then some (none, h1) else cV (qcl (d + 60) 242 [qR (some 56), qI (nZ 0)] h1) (fun h2 => some (none, h2)))
theorem m_tl_bad {h : QH} (H : Sh h) (d e : Nat) (x y : Int32) (he : e < 1000) : m_tl d (rdX h x y (nZ e)) = some (none, rdX h x y (nZ e)) := by
  unfold m_tl
  rw [m264f H (d + 58) e x y (nZ 5) he, jI, if_pos rfl]
theorem m_tl_ok {h : QH} {C V U : Nat → Nat} {N : Nat} (X : RX h C V U N) (d p l z : Nat) (hp : p ≤ N) (hl : l ≤ 50) : (∀ e, RI C V N p l z = .inl e → e ≤ N) ∧ OC h U (m_tl d (rdX h (nZ p) (nZ l) (-nZ 1))) (RI C V N p l z) := by
  have hN4 := X.2.1
  have t5 := m264t X (d + 58) p 5 (nZ l) hp (by decide)
  unfold RI
  by_cases c1 : cAt C N p = 5
  · have hp1 := C_pos (C := C) (N := N) (k := p) (by omega)
    rw [bI_t c1, if_pos c1] at t5
    rw [if_pos c1]
    have hne := P_fuel (C := C) (V := V) (N := N) (by omega) 5000 8 (p + 1) l 0 z 0 (fun _ => none) (by decide) (by decide) (by decide) (by omega) (by omega)
    obtain ⟨b1, o1⟩ := RM X 5000 8 (p + 1) l 0 z 0 (fun _ => none) (by decide) (by decide) (by decide) (by omega) hl (by decide) hne
    refine ⟨b1, ?_⟩
    have o2 := o1 (d + 60) (by show 3 * (9 - 0) + 11 ≤ d + 60; omega)
    have e1 : m_tl d (rdX h (nZ p) (nZ l) (-nZ 1)) = cV (qcl (d + 60) 242 [qR (some 56), qI (nZ 0)] (rdX h (nZ (p + 1)) (nZ l) (-nZ 1))) (fun h2 => some (none, h2)) := by
      unfold m_tl
      rw [t5, jI, if_neg (by decide)]
    rw [e1]
    cases er : P C V N 5000 8 (p + 1) l 0 z 0 (fun _ => none) with
    | inl e =>
      rw [er] at o2
      obtain ⟨x, y, g1⟩ := o2
      refine ⟨x, y, ?_⟩
      have g1' : qcl (d + 60) 242 [qR (some 56), qI (nZ 0)] (rdX h (nZ (p + 1)) (nZ l) (-nZ 1)) = some (none, rdX h x y (nZ (U e))) := g1
      rw [g1', jV]
    | inr v =>
      rw [er] at o2
      have g1' : qcl (d + 60) 242 [qR (some 56), qI (nZ 0)] (rdX h (nZ (p + 1)) (nZ l) (-nZ 1)) = some (none, rdX h (nZ v.1) (nZ v.2.1) (-nZ 1)) := o2
      show cV _ _ = some (none, rdX h (nZ v.1) (nZ v.2.1) (-nZ 1))
      rw [g1', jV]
  · rw [bI_f c1, if_neg c1] at t5
    rw [if_neg c1]
    refine ⟨fun e he => (by cases he), ?_⟩
    show m_tl d (rdX h (nZ p) (nZ l) (-nZ 1)) = some (none, rdX h (nZ p) (nZ l) (-nZ 1))
    unfold m_tl
    rw [t5, jI, if_pos rfl]
/-- the head -/
theorem m_hd {h : QH} {C V U : Nat → Nat} {N : Nat} (X : RX h C V U N) (d pos lv z : Nat) (hpos : pos ≤ N) (hlv : lv ≤ 50) : (∀ e, RH C V N pos lv z = .inl e → e ≤ N) ∧ ∃ g, qcl (d + 61) 237 [qR (some 56)] (rdX h (nZ pos) (nZ lv) (-nZ 1)) = cV g (m_tl d) ∧ OC h U g (RH C V N pos lv z) := by
  have H := X.1
  have H1 : Sh (rdX h (nZ pos) (nZ lv) (-nZ 1)) := H
  have hN4 := X.2.1
  have z10 : (nZ 1 = nZ 0) = False := by decide
  have t1 := m264t X (d + 58) pos 1 (nZ lv) hpos (by decide)
  have t2 := m264t X (d + 58) pos 2 (nZ lv) hpos (by decide)
  have t3 := m264t X (d + 58) pos 3 (nZ lv) hpos (by decide)
  have t4 := m224t X (d + 57) pos 4 (nZ lv) hpos (by decide)
  unfold RH
  by_cases c1 : cAt C N pos = 1 ∨ cAt C N pos = 2 ∨ cAt C N pos = 3
  · have hp1 := C_pos (C := C) (N := N) (k := pos) (by omega)
    rw [if_pos c1]
    have hne := P_fuel (C := C) (V := V) (N := N) (by omega) 5000 3 (pos + 1) lv 0 z 0 (fun _ => none) (by decide) (by decide) (by decide) (by omega) (by omega)
    obtain ⟨b1, o1⟩ := RM X 5000 3 (pos + 1) lv 0 z 0 (fun _ => none) (by decide) (by decide) (by decide) (by omega) hlv (by decide) hne
    refine ⟨b1, qcl (d + 60) 240 [qR (some 56), qI (nZ 0)] (rdX h (nZ (pos + 1)) (nZ lv) (-nZ 1)), ?_, o1 (d + 60) (by show 3 * (9 - 0) + 8 ≤ d + 60; omega)⟩
    unfold m_tl
    by_cases d1 : cAt C N pos = 1
    · rw [bI_t d1, if_pos d1] at t1
      clear t2 t3 t4
      simp (disch := first | assumption | omega | (simp only [Sh_si, Sh_sA]; assumption)) only [E237, t1, z10, p56_0, g56_0, p56_1, g56_1, g56_2, g56_3, g56_4, g56_5, p56_6, g56_6, g56_7, g56_8, g56_9, p56_10, g56_10, p56_11, g56_11, g56_12, g56_13, g56_14, p56_15, g56_15, p56_16, g56_16, p56_17, g56_17, p56_18, g56_18, p56_19, g56_19, p56_20, g56_20, B56_21, g56_21, g56_22, g56_23, g56_24, g56_25, g56_26, g56_27, p56_28, g56_28, p56_29, g56_29, p56_30, g56_30, p56_31, g56_31, g56_32, g56_33, g56_34, p56_35, g56_35, p56_36, g56_36, p56_37, g56_37, p56_38, g56_38, g56_39, g56_40, g56_41, p56_42, g56_42, p56_43, g56_43, p56_44, g56_44, ck56, A57, S57, l57, A58, S58, l58, A59, S59, l59, A60, S60, l60, A61, S61, l61, A62, S62, l62, A63, S63, l63, A64, S64, l64, A65, S65, l65, A66, S66, l66, A67, S67, l67, A68, S68, l68, A69, S69, l69, A70, S70, l70, A71, S71, l71, A72, S72, l72, A73, S73, l73, A74, S74, l74, A75, S75, l75, A76, S76, l76, A77, S77, l77, A78, S78, l78, L0, L1, L2, L3, L4, L5, L6, L7, L8, L9, L10, L11, L12, L13, L14, L15, L16, L17, L18, L19, L20, L21, L22, L23, L24, L25, L26, L27, L28, L29, L30, L31, L32, L33, L34, L35, L36, L37, L38, L39, L40, L41, L42, L43, L44, L45, L46, L47, L48, L49, L50, L52, L57, L60, L90, L91, L93, L97, L99, L100, L101, L122, L240, L255, L256, L400, L401, L408, L409, L410, L411, L412, L413, L414, L420, L1000, L1001, L1103, L1200, L1240, L2820, L5220, L7936, L10440, L12345, L1000000, L1000003, L1073741823, L59, L61, L62, L200, nd_lt_t, nd_lt_f, nd_le_t, nd_le_f, nd_eq_f, nZ_add, nZ_mul, nZ_sub, nZ_lt, nZ_le, nZ_eq, nZ_nat, nZ_div, nZ_rem, nZ_and, nZ_or, and31, nZ_shl, nZ_shr, nZ_m1, nZ_nneg, nZ_nneg', nZ_nlt, nZ_ltn, inR_lt, Nat.not_lt_zero, ob_some, jI, jL, jR, jV, rI0, rI1, rIv, if_true, if_false, ↓reduceIte, Nat.reduceAdd, Nat.reduceMul, Nat.reduceSub, Nat.reduceLT, Nat.reduceEqDiff, Nat.reduceLeDiff, Nat.zero_add, Nat.add_zero, Nat.zero_mul, Nat.mul_zero, Nat.one_mul, Nat.mul_one, and_true, true_and, false_and, and_false, or_true, true_or, or_false, false_or, not_true_eq_false, not_false_eq_true, eq_self, bI_0, bI_1, em_b, hI_ne, hI_at, hA_ne, hA_at, Sh_si, Sh_sA]
      rfl
    · rw [bI_f d1, if_neg d1] at t1
      by_cases d2 : cAt C N pos = 2
      · rw [bI_t d2, if_pos d2] at t2
        clear t3 t4
        simp (disch := first | assumption | omega | (simp only [Sh_si, Sh_sA]; assumption)) only [E237, t1, t2, z10, p56_0, g56_0, p56_1, g56_1, g56_2, g56_3, g56_4, g56_5, p56_6, g56_6, g56_7, g56_8, g56_9, p56_10, g56_10, p56_11, g56_11, g56_12, g56_13, g56_14, p56_15, g56_15, p56_16, g56_16, p56_17, g56_17, p56_18, g56_18, p56_19, g56_19, p56_20, g56_20, B56_21, g56_21, g56_22, g56_23, g56_24, g56_25, g56_26, g56_27, p56_28, g56_28, p56_29, g56_29, p56_30, g56_30, p56_31, g56_31, g56_32, g56_33, g56_34, p56_35, g56_35, p56_36, g56_36, p56_37, g56_37, p56_38, g56_38, g56_39, g56_40, g56_41, p56_42, g56_42, p56_43, g56_43, p56_44, g56_44, ck56, A57, S57, l57, A58, S58, l58, A59, S59, l59, A60, S60, l60, A61, S61, l61, A62, S62, l62, A63, S63, l63, A64, S64, l64, A65, S65, l65, A66, S66, l66, A67, S67, l67, A68, S68, l68, A69, S69, l69, A70, S70, l70, A71, S71, l71, A72, S72, l72, A73, S73, l73, A74, S74, l74, A75, S75, l75, A76, S76, l76, A77, S77, l77, A78, S78, l78, L0, L1, L2, L3, L4, L5, L6, L7, L8, L9, L10, L11, L12, L13, L14, L15, L16, L17, L18, L19, L20, L21, L22, L23, L24, L25, L26, L27, L28, L29, L30, L31, L32, L33, L34, L35, L36, L37, L38, L39, L40, L41, L42, L43, L44, L45, L46, L47, L48, L49, L50, L52, L57, L60, L90, L91, L93, L97, L99, L100, L101, L122, L240, L255, L256, L400, L401, L408, L409, L410, L411, L412, L413, L414, L420, L1000, L1001, L1103, L1200, L1240, L2820, L5220, L7936, L10440, L12345, L1000000, L1000003, L1073741823, L59, L61, L62, L200, nd_lt_t, nd_lt_f, nd_le_t, nd_le_f, nd_eq_f, nZ_add, nZ_mul, nZ_sub, nZ_lt, nZ_le, nZ_eq, nZ_nat, nZ_div, nZ_rem, nZ_and, nZ_or, and31, nZ_shl, nZ_shr, nZ_m1, nZ_nneg, nZ_nneg', nZ_nlt, nZ_ltn, inR_lt, Nat.not_lt_zero, ob_some, jI, jL, jR, jV, rI0, rI1, rIv, if_true, if_false, ↓reduceIte, Nat.reduceAdd, Nat.reduceMul, Nat.reduceSub, Nat.reduceLT, Nat.reduceEqDiff, Nat.reduceLeDiff, Nat.zero_add, Nat.add_zero, Nat.zero_mul, Nat.mul_zero, Nat.one_mul, Nat.mul_one, and_true, true_and, false_and, and_false, or_true, true_or, or_false, false_or, not_true_eq_false, not_false_eq_true, eq_self, bI_0, bI_1, em_b, hI_ne, hI_at, hA_ne, hA_at, Sh_si, Sh_sA]
        rfl
      · rw [bI_f d2, if_neg d2] at t2
        have d3 : cAt C N pos = 3 := by omega
        rw [bI_t d3, if_pos d3] at t3
        clear t4
        simp (disch := first | assumption | omega | (simp only [Sh_si, Sh_sA]; assumption)) only [E237, t1, t2, t3, z10, p56_0, g56_0, p56_1, g56_1, g56_2, g56_3, g56_4, g56_5, p56_6, g56_6, g56_7, g56_8, g56_9, p56_10, g56_10, p56_11, g56_11, g56_12, g56_13, g56_14, p56_15, g56_15, p56_16, g56_16, p56_17, g56_17, p56_18, g56_18, p56_19, g56_19, p56_20, g56_20, B56_21, g56_21, g56_22, g56_23, g56_24, g56_25, g56_26, g56_27, p56_28, g56_28, p56_29, g56_29, p56_30, g56_30, p56_31, g56_31, g56_32, g56_33, g56_34, p56_35, g56_35, p56_36, g56_36, p56_37, g56_37, p56_38, g56_38, g56_39, g56_40, g56_41, p56_42, g56_42, p56_43, g56_43, p56_44, g56_44, ck56, A57, S57, l57, A58, S58, l58, A59, S59, l59, A60, S60, l60, A61, S61, l61, A62, S62, l62, A63, S63, l63, A64, S64, l64, A65, S65, l65, A66, S66, l66, A67, S67, l67, A68, S68, l68, A69, S69, l69, A70, S70, l70, A71, S71, l71, A72, S72, l72, A73, S73, l73, A74, S74, l74, A75, S75, l75, A76, S76, l76, A77, S77, l77, A78, S78, l78, L0, L1, L2, L3, L4, L5, L6, L7, L8, L9, L10, L11, L12, L13, L14, L15, L16, L17, L18, L19, L20, L21, L22, L23, L24, L25, L26, L27, L28, L29, L30, L31, L32, L33, L34, L35, L36, L37, L38, L39, L40, L41, L42, L43, L44, L45, L46, L47, L48, L49, L50, L52, L57, L60, L90, L91, L93, L97, L99, L100, L101, L122, L240, L255, L256, L400, L401, L408, L409, L410, L411, L412, L413, L414, L420, L1000, L1001, L1103, L1200, L1240, L2820, L5220, L7936, L10440, L12345, L1000000, L1000003, L1073741823, L59, L61, L62, L200, nd_lt_t, nd_lt_f, nd_le_t, nd_le_f, nd_eq_f, nZ_add, nZ_mul, nZ_sub, nZ_lt, nZ_le, nZ_eq, nZ_nat, nZ_div, nZ_rem, nZ_and, nZ_or, and31, nZ_shl, nZ_shr, nZ_m1, nZ_nneg, nZ_nneg', nZ_nlt, nZ_ltn, inR_lt, Nat.not_lt_zero, ob_some, jI, jL, jR, jV, rI0, rI1, rIv, if_true, if_false, ↓reduceIte, Nat.reduceAdd, Nat.reduceMul, Nat.reduceSub, Nat.reduceLT, Nat.reduceEqDiff, Nat.reduceLeDiff, Nat.zero_add, Nat.add_zero, Nat.zero_mul, Nat.mul_zero, Nat.one_mul, Nat.mul_one, and_true, true_and, false_and, and_false, or_true, true_or, or_false, false_or, not_true_eq_false, not_false_eq_true, eq_self, bI_0, bI_1, em_b, hI_ne, hI_at, hA_ne, hA_at, Sh_si, Sh_sA]
        rfl
  · rw [if_neg c1]
    rw [bI_f (show ¬cAt C N pos = 1 by omega), if_neg (show ¬cAt C N pos = 1 by omega)] at t1
    rw [bI_f (show ¬cAt C N pos = 2 by omega), if_neg (show ¬cAt C N pos = 2 by omega)] at t2
    rw [bI_f (show ¬cAt C N pos = 3 by omega), if_neg (show ¬cAt C N pos = 3 by omega)] at t3
    by_cases c2 : cAt C N pos = 4
    · rw [if_pos c2] at t4 ⊢
      refine ⟨fun e he => (by cases he), some (none, rdX h (nZ (pos + 1)) (nZ lv) (-nZ 1)), ?_, rfl⟩
      rw [jV]
      unfold m_tl
      simp (disch := first | assumption | omega | (simp only [Sh_si, Sh_sA]; assumption)) only [E237, t1, t2, t3, t4, p56_0, g56_0, p56_1, g56_1, g56_2, g56_3, g56_4, g56_5, p56_6, g56_6, g56_7, g56_8, g56_9, p56_10, g56_10, p56_11, g56_11, g56_12, g56_13, g56_14, p56_15, g56_15, p56_16, g56_16, p56_17, g56_17, p56_18, g56_18, p56_19, g56_19, p56_20, g56_20, B56_21, g56_21, g56_22, g56_23, g56_24, g56_25, g56_26, g56_27, p56_28, g56_28, p56_29, g56_29, p56_30, g56_30, p56_31, g56_31, g56_32, g56_33, g56_34, p56_35, g56_35, p56_36, g56_36, p56_37, g56_37, p56_38, g56_38, g56_39, g56_40, g56_41, p56_42, g56_42, p56_43, g56_43, p56_44, g56_44, ck56, A57, S57, l57, A58, S58, l58, A59, S59, l59, A60, S60, l60, A61, S61, l61, A62, S62, l62, A63, S63, l63, A64, S64, l64, A65, S65, l65, A66, S66, l66, A67, S67, l67, A68, S68, l68, A69, S69, l69, A70, S70, l70, A71, S71, l71, A72, S72, l72, A73, S73, l73, A74, S74, l74, A75, S75, l75, A76, S76, l76, A77, S77, l77, A78, S78, l78, L0, L1, L2, L3, L4, L5, L6, L7, L8, L9, L10, L11, L12, L13, L14, L15, L16, L17, L18, L19, L20, L21, L22, L23, L24, L25, L26, L27, L28, L29, L30, L31, L32, L33, L34, L35, L36, L37, L38, L39, L40, L41, L42, L43, L44, L45, L46, L47, L48, L49, L50, L52, L57, L60, L90, L91, L93, L97, L99, L100, L101, L122, L240, L255, L256, L400, L401, L408, L409, L410, L411, L412, L413, L414, L420, L1000, L1001, L1103, L1200, L1240, L2820, L5220, L7936, L10440, L12345, L1000000, L1000003, L1073741823, L59, L61, L62, L200, nd_lt_t, nd_lt_f, nd_le_t, nd_le_f, nd_eq_f, nZ_add, nZ_mul, nZ_sub, nZ_lt, nZ_le, nZ_eq, nZ_nat, nZ_div, nZ_rem, nZ_and, nZ_or, and31, nZ_shl, nZ_shr, nZ_m1, nZ_nneg, nZ_nneg', nZ_nlt, nZ_ltn, inR_lt, Nat.not_lt_zero, ob_some, jI, jL, jR, jV, rI0, rI1, rIv, if_true, if_false, ↓reduceIte, Nat.reduceAdd, Nat.reduceMul, Nat.reduceSub, Nat.reduceLT, Nat.reduceEqDiff, Nat.reduceLeDiff, Nat.zero_add, Nat.add_zero, Nat.zero_mul, Nat.mul_zero, Nat.one_mul, Nat.mul_one, and_true, true_and, false_and, and_false, or_true, true_or, or_false, false_or, not_true_eq_false, not_false_eq_true, eq_self, bI_0, bI_1, em_b, hI_ne, hI_at, hA_ne, hA_at, Sh_si, Sh_sA]
      rfl
    · rw [if_neg c2] at t4 ⊢
      refine ⟨fun e he => (by cases he; exact hpos), some (none, rdX h (nZ pos) (nZ lv) (nZ (U pos))), ?_, ⟨nZ pos, nZ lv, rfl⟩⟩
      rw [jV]
      unfold m_tl
      simp (disch := first | assumption | omega | (simp only [Sh_si, Sh_sA]; assumption)) only [E237, t1, t2, t3, t4, p56_0, g56_0, p56_1, g56_1, g56_2, g56_3, g56_4, g56_5, p56_6, g56_6, g56_7, g56_8, g56_9, p56_10, g56_10, p56_11, g56_11, g56_12, g56_13, g56_14, p56_15, g56_15, p56_16, g56_16, p56_17, g56_17, p56_18, g56_18, p56_19, g56_19, p56_20, g56_20, B56_21, g56_21, g56_22, g56_23, g56_24, g56_25, g56_26, g56_27, p56_28, g56_28, p56_29, g56_29, p56_30, g56_30, p56_31, g56_31, g56_32, g56_33, g56_34, p56_35, g56_35, p56_36, g56_36, p56_37, g56_37, p56_38, g56_38, g56_39, g56_40, g56_41, p56_42, g56_42, p56_43, g56_43, p56_44, g56_44, ck56, A57, S57, l57, A58, S58, l58, A59, S59, l59, A60, S60, l60, A61, S61, l61, A62, S62, l62, A63, S63, l63, A64, S64, l64, A65, S65, l65, A66, S66, l66, A67, S67, l67, A68, S68, l68, A69, S69, l69, A70, S70, l70, A71, S71, l71, A72, S72, l72, A73, S73, l73, A74, S74, l74, A75, S75, l75, A76, S76, l76, A77, S77, l77, A78, S78, l78, L0, L1, L2, L3, L4, L5, L6, L7, L8, L9, L10, L11, L12, L13, L14, L15, L16, L17, L18, L19, L20, L21, L22, L23, L24, L25, L26, L27, L28, L29, L30, L31, L32, L33, L34, L35, L36, L37, L38, L39, L40, L41, L42, L43, L44, L45, L46, L47, L48, L49, L50, L52, L57, L60, L90, L91, L93, L97, L99, L100, L101, L122, L240, L255, L256, L400, L401, L408, L409, L410, L411, L412, L413, L414, L420, L1000, L1001, L1103, L1200, L1240, L2820, L5220, L7936, L10440, L12345, L1000000, L1000003, L1073741823, L59, L61, L62, L200, nd_lt_t, nd_lt_f, nd_le_t, nd_le_f, nd_eq_f, nZ_add, nZ_mul, nZ_sub, nZ_lt, nZ_le, nZ_eq, nZ_nat, nZ_div, nZ_rem, nZ_and, nZ_or, and31, nZ_shl, nZ_shr, nZ_m1, nZ_nneg, nZ_nneg', nZ_nlt, nZ_ltn, inR_lt, Nat.not_lt_zero, ob_some, jI, jL, jR, jV, rI0, rI1, rIv, if_true, if_false, ↓reduceIte, Nat.reduceAdd, Nat.reduceMul, Nat.reduceSub, Nat.reduceLT, Nat.reduceEqDiff, Nat.reduceLeDiff, Nat.zero_add, Nat.add_zero, Nat.zero_mul, Nat.mul_zero, Nat.one_mul, Nat.mul_one, and_true, true_and, false_and, and_false, or_true, true_or, or_false, false_or, not_true_eq_false, not_false_eq_true, eq_self, bI_0, bI_1, em_b, hI_ne, hI_at, hA_ne, hA_at, Sh_si, Sh_sA]
      rfl
/-- a clause -/
theorem m_cl {h : QH} {C V U : Nat → Nat} {N : Nat} (X : RX h C V U N) (d pos lv z : Nat) (hpos : pos ≤ N) (hlv : lv ≤ 50) : (∀ e, RC C V N pos lv z = .inl e → e ≤ N) ∧ OC h U (qcl (d + 61) 237 [qR (some 56)] (rdX h (nZ pos) (nZ lv) (-nZ 1))) (RC C V N pos lv z) := by
  have hU : ∀ k, k ≤ N → U k < 1000 := fun k hk => (X.2.2.2.2 k hk).2
  obtain ⟨b1, g, e1, o1⟩ := m_hd X d pos lv z hpos hlv
  rw [e1]
  unfold RC
  cases er : RH C V N pos lv z with
  | inl e =>
    rw [er] at o1
    obtain ⟨x, y, g1⟩ := o1
    have he := b1 e er
    refine ⟨fun e' he' => (by cases he'; exact he), x, y, ?_⟩
    rw [g1, jV, m_tl_bad X.1 d _ x y (hU e he)]
  | inr v =>
    obtain ⟨p, l, cs, dn⟩ := v
    rw [er] at o1
    have g1 : g = some (none, rdX h (nZ p) (nZ l) (-nZ 1)) := o1
    obtain ⟨a1, a2, a3, a4, a5, a6, a7⟩ := RH_b er hlv
    obtain ⟨b2, o2⟩ := m_tl_ok X d p l (z + cs.length) a3 a5
    rw [g1, jV]
    show (∀ e, rdB (RI C V N p l (z + cs.length)) (fun p2 l2 cs2 dt => .inr (p2, l2, cs ++ cs2, dt)) = .inl e → e ≤ N) ∧ OC h U _ (rdB (RI C V N p l (z + cs.length)) (fun p2 l2 cs2 dt => .inr (p2, l2, cs ++ cs2, dt)))
    cases er2 : RI C V N p l (z + cs.length) with
    | inl e =>
      rw [er2] at o2
      exact ⟨fun e' he' => (by cases he'; exact b2 e er2), o2⟩
    | inr v2 =>
      obtain ⟨p2, lw, cs2, dt⟩ := v2
      rw [er2] at o2
      exact ⟨fun e' he' => (by cases he'), o2⟩
/-- the whole text -/
def RO (h : QH) (U : Nat → Nat) (g : QO) (r : Nat ⊕ List CL) : Prop := match r with
  | .inl e => ∃ x y, g = some (some (qI (nZ 0)), hsI (rdX h x y (nZ (U e))) 56 11 (nZ (U e)))
  | .inr _ => ∃ x y, g = some (some (qI (nZ 1)), hsI (rdX h x y (-nZ 1)) 56 11 (-nZ 1))
theorem m243_bad {h : QH} (H : Sh h) (d e : Nat) (x y a : Int32) (he : e < 1000) : qbig (d + 62) 243 34 [sR (some 56), sI a] [] (rdX h x y (nZ e)) = some (some (qI (nZ 0)), hsI (rdX h x y (nZ e)) 56 11 (nZ e)) := by
  have H1 : Sh (rdX h x y (nZ e)) := H
  have H2 : Sh (hsI (rdX h x y (nZ e)) 56 11 (nZ e)) := H
  have m1 : (-1 : Int32) = -nZ 1 := rfl
  have e18 : hI (hsI (rdX h x y (nZ e)) 56 11 (nZ e)) 56 18 = nZ e := by
    rw [hI_ne (by decide)]
    exact rdX_18
  have e187 : qcl (d + 61) 187 [qR (some 56)] (hsI (rdX h x y (nZ e)) 56 11 (nZ e)) = some (some (qI (nZ 0)), hsI (rdX h x y (nZ e)) 56 11 (nZ e)) := by
    simp (disch := first | assumption | omega | (simp only [Sh_si, Sh_sA]; assumption)) only [E187, e18, m1, p56_0, g56_0, p56_1, g56_1, g56_2, g56_3, g56_4, g56_5, p56_6, g56_6, g56_7, g56_8, g56_9, p56_10, g56_10, p56_11, g56_11, g56_12, g56_13, g56_14, p56_15, g56_15, p56_16, g56_16, p56_17, g56_17, p56_18, g56_18, p56_19, g56_19, p56_20, g56_20, B56_21, g56_21, g56_22, g56_23, g56_24, g56_25, g56_26, g56_27, p56_28, g56_28, p56_29, g56_29, p56_30, g56_30, p56_31, g56_31, g56_32, g56_33, g56_34, p56_35, g56_35, p56_36, g56_36, p56_37, g56_37, p56_38, g56_38, g56_39, g56_40, g56_41, p56_42, g56_42, p56_43, g56_43, p56_44, g56_44, ck56, A57, S57, l57, A58, S58, l58, A59, S59, l59, A60, S60, l60, A61, S61, l61, A62, S62, l62, A63, S63, l63, A64, S64, l64, A65, S65, l65, A66, S66, l66, A67, S67, l67, A68, S68, l68, A69, S69, l69, A70, S70, l70, A71, S71, l71, A72, S72, l72, A73, S73, l73, A74, S74, l74, A75, S75, l75, A76, S76, l76, A77, S77, l77, A78, S78, l78, L0, L1, L2, L3, L4, L5, L6, L7, L8, L9, L10, L11, L12, L13, L14, L15, L16, L17, L18, L19, L20, L21, L22, L23, L24, L25, L26, L27, L28, L29, L30, L31, L32, L33, L34, L35, L36, L37, L38, L39, L40, L41, L42, L43, L44, L45, L46, L47, L48, L49, L50, L52, L57, L60, L90, L91, L93, L97, L99, L100, L101, L122, L240, L255, L256, L400, L401, L408, L409, L410, L411, L412, L413, L414, L420, L1000, L1001, L1103, L1200, L1240, L2820, L5220, L7936, L10440, L12345, L1000000, L1000003, L1073741823, L59, L61, L62, L200, nd_lt_t, nd_lt_f, nd_le_t, nd_le_f, nd_eq_f, nZ_add, nZ_mul, nZ_sub, nZ_lt, nZ_le, nZ_eq, nZ_nat, nZ_div, nZ_rem, nZ_and, nZ_or, and31, nZ_shl, nZ_shr, nZ_m1, nZ_nneg, nZ_nneg', nZ_nlt, nZ_ltn, inR_lt, Nat.not_lt_zero, ob_some, jI, jL, jR, jV, rI0, rI1, rIv, if_true, if_false, ↓reduceIte, Nat.reduceAdd, Nat.reduceMul, Nat.reduceSub, Nat.reduceLT, Nat.reduceEqDiff, Nat.reduceLeDiff, Nat.zero_add, Nat.add_zero, Nat.zero_mul, Nat.mul_zero, Nat.one_mul, Nat.mul_one, and_true, true_and, false_and, and_false, or_true, true_or, or_false, false_or, not_true_eq_false, not_false_eq_true, eq_self, bI_0, bI_1, em_b, hI_ne, hI_at, hA_ne, hA_at, Sh_si, Sh_sA]
  rw [E243_34]
  simp (disch := first | assumption | omega | (simp only [Sh_si, Sh_sA]; assumption)) only [m254, m264f H, m187f H, rdX_18, e187, p56_0, g56_0, p56_1, g56_1, g56_2, g56_3, g56_4, g56_5, p56_6, g56_6, g56_7, g56_8, g56_9, p56_10, g56_10, p56_11, g56_11, g56_12, g56_13, g56_14, p56_15, g56_15, p56_16, g56_16, p56_17, g56_17, p56_18, g56_18, p56_19, g56_19, p56_20, g56_20, B56_21, g56_21, g56_22, g56_23, g56_24, g56_25, g56_26, g56_27, p56_28, g56_28, p56_29, g56_29, p56_30, g56_30, p56_31, g56_31, g56_32, g56_33, g56_34, p56_35, g56_35, p56_36, g56_36, p56_37, g56_37, p56_38, g56_38, g56_39, g56_40, g56_41, p56_42, g56_42, p56_43, g56_43, p56_44, g56_44, ck56, A57, S57, l57, A58, S58, l58, A59, S59, l59, A60, S60, l60, A61, S61, l61, A62, S62, l62, A63, S63, l63, A64, S64, l64, A65, S65, l65, A66, S66, l66, A67, S67, l67, A68, S68, l68, A69, S69, l69, A70, S70, l70, A71, S71, l71, A72, S72, l72, A73, S73, l73, A74, S74, l74, A75, S75, l75, A76, S76, l76, A77, S77, l77, A78, S78, l78, L0, L1, L2, L3, L4, L5, L6, L7, L8, L9, L10, L11, L12, L13, L14, L15, L16, L17, L18, L19, L20, L21, L22, L23, L24, L25, L26, L27, L28, L29, L30, L31, L32, L33, L34, L35, L36, L37, L38, L39, L40, L41, L42, L43, L44, L45, L46, L47, L48, L49, L50, L52, L57, L60, L90, L91, L93, L97, L99, L100, L101, L122, L240, L255, L256, L400, L401, L408, L409, L410, L411, L412, L413, L414, L420, L1000, L1001, L1103, L1200, L1240, L2820, L5220, L7936, L10440, L12345, L1000000, L1000003, L1073741823, L59, L61, L62, L200, nd_lt_t, nd_lt_f, nd_le_t, nd_le_f, nd_eq_f, nZ_add, nZ_mul, nZ_sub, nZ_lt, nZ_le, nZ_eq, nZ_nat, nZ_div, nZ_rem, nZ_and, nZ_or, and31, nZ_shl, nZ_shr, nZ_m1, nZ_nneg, nZ_nneg', nZ_nlt, nZ_ltn, inR_lt, Nat.not_lt_zero, ob_some, jI, jL, jR, jV, rI0, rI1, rIv, if_true, if_false, ↓reduceIte, Nat.reduceAdd, Nat.reduceMul, Nat.reduceSub, Nat.reduceLT, Nat.reduceEqDiff, Nat.reduceLeDiff, Nat.zero_add, Nat.add_zero, Nat.zero_mul, Nat.mul_zero, Nat.one_mul, Nat.mul_one, and_true, true_and, false_and, and_false, or_true, true_or, or_false, false_or, not_true_eq_false, not_false_eq_true, eq_self, bI_0, bI_1, em_b, hI_ne, hI_at, hA_ne, hA_at, Sh_si, Sh_sA]
theorem RO_rl {h : QH} {U : Nat → Nat} {g : QO} {r : Nat ⊕ List CL} {f : List CL → List CL} (o : RO h U g r) : RO h U g (rlB r f) := by
  cases r with
  | inl e => exact o
  | inr L => exact o
theorem rlB_e {r : Nat ⊕ List CL} {f : List CL → List CL} {e : Nat} (he : rlB r f = .inl e) : r = .inl e := by
  cases r with
  | inl a =>
    cases he
    rfl
  | inr L => cases he
/-- the last step -/
theorem m243_end {h : QH} (H : Sh h) (d : Nat) (x y z : Int32) (v : Nat) (hv : qcl (d + 61) 187 [qR (some 56)] (hsI (rdX h x y z) 56 11 z) = some (some (qI (nZ v)), hsI (rdX h x y z) 56 11 z)) (hv2 : v < 2) : ((qgi 12 18 56 (rdX h x y z)).bind fun x18 => (qpi 12 11 56 x18 (rdX h x y z)).bind fun h19 => cI (qcl (d + 61) 187 [qR (some 56)] h19) fun x21 h20 => if (x21 : Int32) = 0 ∨ (x21 : Int32) = 1 then some (some (qI x21), h20) else none) = some (some (qI (nZ v)), hsI (rdX h x y z) 56 11 z) := by
  have H1 : Sh (rdX h x y z) := H
  simp (disch := first | assumption | omega | (simp only [Sh_si, Sh_sA]; assumption)) only [rdX_18, hv, p56_0, g56_0, p56_1, g56_1, g56_2, g56_3, g56_4, g56_5, p56_6, g56_6, g56_7, g56_8, g56_9, p56_10, g56_10, p56_11, g56_11, g56_12, g56_13, g56_14, p56_15, g56_15, p56_16, g56_16, p56_17, g56_17, p56_18, g56_18, p56_19, g56_19, p56_20, g56_20, B56_21, g56_21, g56_22, g56_23, g56_24, g56_25, g56_26, g56_27, p56_28, g56_28, p56_29, g56_29, p56_30, g56_30, p56_31, g56_31, g56_32, g56_33, g56_34, p56_35, g56_35, p56_36, g56_36, p56_37, g56_37, p56_38, g56_38, g56_39, g56_40, g56_41, p56_42, g56_42, p56_43, g56_43, p56_44, g56_44, ck56, A57, S57, l57, A58, S58, l58, A59, S59, l59, A60, S60, l60, A61, S61, l61, A62, S62, l62, A63, S63, l63, A64, S64, l64, A65, S65, l65, A66, S66, l66, A67, S67, l67, A68, S68, l68, A69, S69, l69, A70, S70, l70, A71, S71, l71, A72, S72, l72, A73, S73, l73, A74, S74, l74, A75, S75, l75, A76, S76, l76, A77, S77, l77, A78, S78, l78, L0, L1, L2, L3, L4, L5, L6, L7, L8, L9, L10, L11, L12, L13, L14, L15, L16, L17, L18, L19, L20, L21, L22, L23, L24, L25, L26, L27, L28, L29, L30, L31, L32, L33, L34, L35, L36, L37, L38, L39, L40, L41, L42, L43, L44, L45, L46, L47, L48, L49, L50, L52, L57, L60, L90, L91, L93, L97, L99, L100, L101, L122, L240, L255, L256, L400, L401, L408, L409, L410, L411, L412, L413, L414, L420, L1000, L1001, L1103, L1200, L1240, L2820, L5220, L7936, L10440, L12345, L1000000, L1000003, L1073741823, L59, L61, L62, L200, nd_lt_t, nd_lt_f, nd_le_t, nd_le_f, nd_eq_f, nZ_add, nZ_mul, nZ_sub, nZ_lt, nZ_le, nZ_eq, nZ_nat, nZ_div, nZ_rem, nZ_and, nZ_or, and31, nZ_shl, nZ_shr, nZ_m1, nZ_nneg, nZ_nneg', nZ_nlt, nZ_ltn, inR_lt, Nat.not_lt_zero, ob_some, jI, jL, jR, jV, rI0, rI1, rIv, if_true, if_false, ↓reduceIte, Nat.reduceAdd, Nat.reduceMul, Nat.reduceSub, Nat.reduceLT, Nat.reduceEqDiff, Nat.reduceLeDiff, Nat.zero_add, Nat.add_zero, Nat.zero_mul, Nat.mul_zero, Nat.one_mul, Nat.mul_one, and_true, true_and, false_and, and_false, or_true, true_or, or_false, false_or, not_true_eq_false, not_false_eq_true, eq_self, bI_0, bI_1, em_b, hI_ne, hI_at, hA_ne, hA_at, Sh_si, Sh_sA]
  rw [if_pos (by omega)]
theorem m187_11 {h : QH} (H : Sh h) (d : Nat) (x y : Int32) : qcl (d + 61) 187 [qR (some 56)] (hsI (rdX h x y (-nZ 1)) 56 11 (-nZ 1)) = some (some (qI (nZ 1)), hsI (rdX h x y (-nZ 1)) 56 11 (-nZ 1)) := by
  have H2 : Sh (hsI (rdX h x y (-nZ 1)) 56 11 (-nZ 1)) := H
  have m1 : (-1 : Int32) = -nZ 1 := rfl
  have e18 : hI (hsI (rdX h x y (-nZ 1)) 56 11 (-nZ 1)) 56 18 = -nZ 1 := by
    rw [hI_ne (by decide)]
    exact rdX_18
  simp (disch := first | assumption | omega | (simp only [Sh_si, Sh_sA]; assumption)) only [E187, e18, m1, p56_0, g56_0, p56_1, g56_1, g56_2, g56_3, g56_4, g56_5, p56_6, g56_6, g56_7, g56_8, g56_9, p56_10, g56_10, p56_11, g56_11, g56_12, g56_13, g56_14, p56_15, g56_15, p56_16, g56_16, p56_17, g56_17, p56_18, g56_18, p56_19, g56_19, p56_20, g56_20, B56_21, g56_21, g56_22, g56_23, g56_24, g56_25, g56_26, g56_27, p56_28, g56_28, p56_29, g56_29, p56_30, g56_30, p56_31, g56_31, g56_32, g56_33, g56_34, p56_35, g56_35, p56_36, g56_36, p56_37, g56_37, p56_38, g56_38, g56_39, g56_40, g56_41, p56_42, g56_42, p56_43, g56_43, p56_44, g56_44, ck56, A57, S57, l57, A58, S58, l58, A59, S59, l59, A60, S60, l60, A61, S61, l61, A62, S62, l62, A63, S63, l63, A64, S64, l64, A65, S65, l65, A66, S66, l66, A67, S67, l67, A68, S68, l68, A69, S69, l69, A70, S70, l70, A71, S71, l71, A72, S72, l72, A73, S73, l73, A74, S74, l74, A75, S75, l75, A76, S76, l76, A77, S77, l77, A78, S78, l78, L0, L1, L2, L3, L4, L5, L6, L7, L8, L9, L10, L11, L12, L13, L14, L15, L16, L17, L18, L19, L20, L21, L22, L23, L24, L25, L26, L27, L28, L29, L30, L31, L32, L33, L34, L35, L36, L37, L38, L39, L40, L41, L42, L43, L44, L45, L46, L47, L48, L49, L50, L52, L57, L60, L90, L91, L93, L97, L99, L100, L101, L122, L240, L255, L256, L400, L401, L408, L409, L410, L411, L412, L413, L414, L420, L1000, L1001, L1103, L1200, L1240, L2820, L5220, L7936, L10440, L12345, L1000000, L1000003, L1073741823, L59, L61, L62, L200, nd_lt_t, nd_lt_f, nd_le_t, nd_le_f, nd_eq_f, nZ_add, nZ_mul, nZ_sub, nZ_lt, nZ_le, nZ_eq, nZ_nat, nZ_div, nZ_rem, nZ_and, nZ_or, and31, nZ_shl, nZ_shr, nZ_m1, nZ_nneg, nZ_nneg', nZ_nlt, nZ_ltn, inR_lt, Nat.not_lt_zero, ob_some, jI, jL, jR, jV, rI0, rI1, rIv, if_true, if_false, ↓reduceIte, Nat.reduceAdd, Nat.reduceMul, Nat.reduceSub, Nat.reduceLT, Nat.reduceEqDiff, Nat.reduceLeDiff, Nat.zero_add, Nat.add_zero, Nat.zero_mul, Nat.mul_zero, Nat.one_mul, Nat.mul_one, and_true, true_and, false_and, and_false, or_true, true_or, or_false, false_or, not_true_eq_false, not_false_eq_true, eq_self, bI_0, bI_1, em_b, hI_ne, hI_at, hA_ne, hA_at, Sh_si, Sh_sA]
theorem m187_11f {h : QH} (H : Sh h) (d e : Nat) (x y : Int32) (he : e < 1000) : qcl (d + 61) 187 [qR (some 56)] (hsI (rdX h x y (nZ e)) 56 11 (nZ e)) = some (some (qI (nZ 0)), hsI (rdX h x y (nZ e)) 56 11 (nZ e)) := by
  have H2 : Sh (hsI (rdX h x y (nZ e)) 56 11 (nZ e)) := H
  have m1 : (-1 : Int32) = -nZ 1 := rfl
  have e18 : hI (hsI (rdX h x y (nZ e)) 56 11 (nZ e)) 56 18 = nZ e := by
    rw [hI_ne (by decide)]
    exact rdX_18
  simp (disch := first | assumption | omega | (simp only [Sh_si, Sh_sA]; assumption)) only [E187, e18, m1, p56_0, g56_0, p56_1, g56_1, g56_2, g56_3, g56_4, g56_5, p56_6, g56_6, g56_7, g56_8, g56_9, p56_10, g56_10, p56_11, g56_11, g56_12, g56_13, g56_14, p56_15, g56_15, p56_16, g56_16, p56_17, g56_17, p56_18, g56_18, p56_19, g56_19, p56_20, g56_20, B56_21, g56_21, g56_22, g56_23, g56_24, g56_25, g56_26, g56_27, p56_28, g56_28, p56_29, g56_29, p56_30, g56_30, p56_31, g56_31, g56_32, g56_33, g56_34, p56_35, g56_35, p56_36, g56_36, p56_37, g56_37, p56_38, g56_38, g56_39, g56_40, g56_41, p56_42, g56_42, p56_43, g56_43, p56_44, g56_44, ck56, A57, S57, l57, A58, S58, l58, A59, S59, l59, A60, S60, l60, A61, S61, l61, A62, S62, l62, A63, S63, l63, A64, S64, l64, A65, S65, l65, A66, S66, l66, A67, S67, l67, A68, S68, l68, A69, S69, l69, A70, S70, l70, A71, S71, l71, A72, S72, l72, A73, S73, l73, A74, S74, l74, A75, S75, l75, A76, S76, l76, A77, S77, l77, A78, S78, l78, L0, L1, L2, L3, L4, L5, L6, L7, L8, L9, L10, L11, L12, L13, L14, L15, L16, L17, L18, L19, L20, L21, L22, L23, L24, L25, L26, L27, L28, L29, L30, L31, L32, L33, L34, L35, L36, L37, L38, L39, L40, L41, L42, L43, L44, L45, L46, L47, L48, L49, L50, L52, L57, L60, L90, L91, L93, L97, L99, L100, L101, L122, L240, L255, L256, L400, L401, L408, L409, L410, L411, L412, L413, L414, L420, L1000, L1001, L1103, L1200, L1240, L2820, L5220, L7936, L10440, L12345, L1000000, L1000003, L1073741823, L59, L61, L62, L200, nd_lt_t, nd_lt_f, nd_le_t, nd_le_f, nd_eq_f, nZ_add, nZ_mul, nZ_sub, nZ_lt, nZ_le, nZ_eq, nZ_nat, nZ_div, nZ_rem, nZ_and, nZ_or, and31, nZ_shl, nZ_shr, nZ_m1, nZ_nneg, nZ_nneg', nZ_nlt, nZ_ltn, inR_lt, Nat.not_lt_zero, ob_some, jI, jL, jR, jV, rI0, rI1, rIv, if_true, if_false, ↓reduceIte, Nat.reduceAdd, Nat.reduceMul, Nat.reduceSub, Nat.reduceLT, Nat.reduceEqDiff, Nat.reduceLeDiff, Nat.zero_add, Nat.add_zero, Nat.zero_mul, Nat.mul_zero, Nat.one_mul, Nat.mul_one, and_true, true_and, false_and, and_false, or_true, true_or, or_false, false_or, not_true_eq_false, not_false_eq_true, eq_self, bI_0, bI_1, em_b, hI_ne, hI_at, hA_ne, hA_at, Sh_si, Sh_sA]
/-- behind a clause: how the loop goes on -/
theorem m243_34 {h : QH} {C V U : Nat → Nat} {N : Nat} (X : RX h C V U N) (h15 : hI h 56 15 = nZ N) (d p l a : Nat) (hp : p ≤ N) (ha : a < 100) : qbig (d + 62) 243 34 [sR (some 56), sI (nZ a)] [] (rdX h (nZ p) (nZ l) (-nZ 1)) = if p = N then some (some (qI (nZ 1)), hsI (rdX h (nZ p) (nZ l) (-nZ 1)) 56 11 (-nZ 1)) else if cAt C N p = 159 then (if a = 12 then some (some (qI (nZ 0)), hsI (rdX h (nZ (p + 1)) (nZ l) (nZ (U (p + 1)))) 56 11 (nZ (U (p + 1)))) else cV (qcl (d + 61) 237 [qR (some 56)] (rdX h (nZ (p + 1)) (nZ l) (-nZ 1))) (fun h1 => qbig (d + 62) 243 34 [sR (some 56), sI (nZ (a + 1))] [] h1)) else some (some (qI (nZ 0)), hsI (rdX h (nZ p) (nZ l) (nZ (U p))) 56 11 (nZ (U p))) := by
  have H := X.1
  have hN4 := X.2.1
  have H1 : Sh (rdX h (nZ p) (nZ l) (-nZ 1)) := H
  have z10 : (nZ 1 = nZ 0) = False := by decide
  have hU : ∀ k, k ≤ N → U k < 1000 := fun k hk => (X.2.2.2.2 k hk).2
  have e15 : ∀ x y z, hI (rdX h x y z) 56 15 = nZ N := fun x y z => (rdX_ne (by omega)).trans h15
  have t59 := m264t X (d + 59) p 159 (nZ l) hp (by decide)
  by_cases c1 : cAt C N p = 159
  · have hp1 := C_pos (C := C) (N := N) (k := p) (by omega)
    rw [bI_t c1, if_pos c1] at t59
    rw [if_neg (show ¬p = N by omega), if_pos c1]
    have H2 : Sh (rdX h (nZ (p + 1)) (nZ l) (-nZ 1)) := H
    by_cases c2 : a = 12
    · rw [if_pos c2]
      subst c2
      have f1 := m184t X (d + 59) (p + 1) (nZ l) (by omega)
      have f2 := m187f H (d + 60) (U (p + 1)) (nZ (p + 1)) (nZ l) (hU _ (by omega))
      have f3 := m243_bad H d (U (p + 1)) (nZ (p + 1)) (nZ l) (nZ 13) (hU _ (by omega))
      rw [E243_34]
      simp (disch := first | assumption | omega | (simp only [Sh_si, Sh_sA]; assumption)) only [m254, t59, z10, f1, f2, f3, p56_0, g56_0, p56_1, g56_1, g56_2, g56_3, g56_4, g56_5, p56_6, g56_6, g56_7, g56_8, g56_9, p56_10, g56_10, p56_11, g56_11, g56_12, g56_13, g56_14, p56_15, g56_15, p56_16, g56_16, p56_17, g56_17, p56_18, g56_18, p56_19, g56_19, p56_20, g56_20, B56_21, g56_21, g56_22, g56_23, g56_24, g56_25, g56_26, g56_27, p56_28, g56_28, p56_29, g56_29, p56_30, g56_30, p56_31, g56_31, g56_32, g56_33, g56_34, p56_35, g56_35, p56_36, g56_36, p56_37, g56_37, p56_38, g56_38, g56_39, g56_40, g56_41, p56_42, g56_42, p56_43, g56_43, p56_44, g56_44, ck56, A57, S57, l57, A58, S58, l58, A59, S59, l59, A60, S60, l60, A61, S61, l61, A62, S62, l62, A63, S63, l63, A64, S64, l64, A65, S65, l65, A66, S66, l66, A67, S67, l67, A68, S68, l68, A69, S69, l69, A70, S70, l70, A71, S71, l71, A72, S72, l72, A73, S73, l73, A74, S74, l74, A75, S75, l75, A76, S76, l76, A77, S77, l77, A78, S78, l78, L0, L1, L2, L3, L4, L5, L6, L7, L8, L9, L10, L11, L12, L13, L14, L15, L16, L17, L18, L19, L20, L21, L22, L23, L24, L25, L26, L27, L28, L29, L30, L31, L32, L33, L34, L35, L36, L37, L38, L39, L40, L41, L42, L43, L44, L45, L46, L47, L48, L49, L50, L52, L57, L60, L90, L91, L93, L97, L99, L100, L101, L122, L240, L255, L256, L400, L401, L408, L409, L410, L411, L412, L413, L414, L420, L1000, L1001, L1103, L1200, L1240, L2820, L5220, L7936, L10440, L12345, L1000000, L1000003, L1073741823, L59, L61, L62, L200, nd_lt_t, nd_lt_f, nd_le_t, nd_le_f, nd_eq_f, nZ_add, nZ_mul, nZ_sub, nZ_lt, nZ_le, nZ_eq, nZ_nat, nZ_div, nZ_rem, nZ_and, nZ_or, and31, nZ_shl, nZ_shr, nZ_m1, nZ_nneg, nZ_nneg', nZ_nlt, nZ_ltn, inR_lt, Nat.not_lt_zero, ob_some, jI, jL, jR, jV, rI0, rI1, rIv, if_true, if_false, ↓reduceIte, Nat.reduceAdd, Nat.reduceMul, Nat.reduceSub, Nat.reduceLT, Nat.reduceEqDiff, Nat.reduceLeDiff, Nat.zero_add, Nat.add_zero, Nat.zero_mul, Nat.mul_zero, Nat.one_mul, Nat.mul_one, and_true, true_and, false_and, and_false, or_true, true_or, or_false, false_or, not_true_eq_false, not_false_eq_true, eq_self, bI_0, bI_1, em_b, hI_ne, hI_at, hA_ne, hA_at, Sh_si, Sh_sA]
    · rw [if_neg c2]
      have f2 := m187t H (d + 60) (nZ (p + 1)) (nZ l)
      rw [E243_34]
      simp (disch := first | assumption | omega | (simp only [Sh_si, Sh_sA]; assumption)) only [m254, t59, z10, eq_false c2, f2, p56_0, g56_0, p56_1, g56_1, g56_2, g56_3, g56_4, g56_5, p56_6, g56_6, g56_7, g56_8, g56_9, p56_10, g56_10, p56_11, g56_11, g56_12, g56_13, g56_14, p56_15, g56_15, p56_16, g56_16, p56_17, g56_17, p56_18, g56_18, p56_19, g56_19, p56_20, g56_20, B56_21, g56_21, g56_22, g56_23, g56_24, g56_25, g56_26, g56_27, p56_28, g56_28, p56_29, g56_29, p56_30, g56_30, p56_31, g56_31, g56_32, g56_33, g56_34, p56_35, g56_35, p56_36, g56_36, p56_37, g56_37, p56_38, g56_38, g56_39, g56_40, g56_41, p56_42, g56_42, p56_43, g56_43, p56_44, g56_44, ck56, A57, S57, l57, A58, S58, l58, A59, S59, l59, A60, S60, l60, A61, S61, l61, A62, S62, l62, A63, S63, l63, A64, S64, l64, A65, S65, l65, A66, S66, l66, A67, S67, l67, A68, S68, l68, A69, S69, l69, A70, S70, l70, A71, S71, l71, A72, S72, l72, A73, S73, l73, A74, S74, l74, A75, S75, l75, A76, S76, l76, A77, S77, l77, A78, S78, l78, L0, L1, L2, L3, L4, L5, L6, L7, L8, L9, L10, L11, L12, L13, L14, L15, L16, L17, L18, L19, L20, L21, L22, L23, L24, L25, L26, L27, L28, L29, L30, L31, L32, L33, L34, L35, L36, L37, L38, L39, L40, L41, L42, L43, L44, L45, L46, L47, L48, L49, L50, L52, L57, L60, L90, L91, L93, L97, L99, L100, L101, L122, L240, L255, L256, L400, L401, L408, L409, L410, L411, L412, L413, L414, L420, L1000, L1001, L1103, L1200, L1240, L2820, L5220, L7936, L10440, L12345, L1000000, L1000003, L1073741823, L59, L61, L62, L200, nd_lt_t, nd_lt_f, nd_le_t, nd_le_f, nd_eq_f, nZ_add, nZ_mul, nZ_sub, nZ_lt, nZ_le, nZ_eq, nZ_nat, nZ_div, nZ_rem, nZ_and, nZ_or, and31, nZ_shl, nZ_shr, nZ_m1, nZ_nneg, nZ_nneg', nZ_nlt, nZ_ltn, inR_lt, Nat.not_lt_zero, ob_some, jI, jL, jR, jV, rI0, rI1, rIv, if_true, if_false, ↓reduceIte, Nat.reduceAdd, Nat.reduceMul, Nat.reduceSub, Nat.reduceLT, Nat.reduceEqDiff, Nat.reduceLeDiff, Nat.zero_add, Nat.add_zero, Nat.zero_mul, Nat.mul_zero, Nat.one_mul, Nat.mul_one, and_true, true_and, false_and, and_false, or_true, true_or, or_false, false_or, not_true_eq_false, not_false_eq_true, eq_self, bI_0, bI_1, em_b, hI_ne, hI_at, hA_ne, hA_at, Sh_si, Sh_sA]
  · rw [bI_f c1, if_neg c1] at t59
    have f2 := m187t H (d + 60) (nZ p) (nZ l)
    by_cases c2 : p = N
    · rw [if_pos c2]
      have f3 := m243_end H d (nZ p) (nZ l) (-nZ 1) 1 (m187_11 H d _ _) (by decide)
      rw [← f3, E243_34]
      subst c2
      simp (disch := first | assumption | omega | (simp only [Sh_si, Sh_sA]; assumption)) only [m254, t59, z10, f2, rdX_16, e15, p56_0, g56_0, p56_1, g56_1, g56_2, g56_3, g56_4, g56_5, p56_6, g56_6, g56_7, g56_8, g56_9, p56_10, g56_10, p56_11, g56_11, g56_12, g56_13, g56_14, p56_15, g56_15, p56_16, g56_16, p56_17, g56_17, p56_18, g56_18, p56_19, g56_19, p56_20, g56_20, B56_21, g56_21, g56_22, g56_23, g56_24, g56_25, g56_26, g56_27, p56_28, g56_28, p56_29, g56_29, p56_30, g56_30, p56_31, g56_31, g56_32, g56_33, g56_34, p56_35, g56_35, p56_36, g56_36, p56_37, g56_37, p56_38, g56_38, g56_39, g56_40, g56_41, p56_42, g56_42, p56_43, g56_43, p56_44, g56_44, ck56, A57, S57, l57, A58, S58, l58, A59, S59, l59, A60, S60, l60, A61, S61, l61, A62, S62, l62, A63, S63, l63, A64, S64, l64, A65, S65, l65, A66, S66, l66, A67, S67, l67, A68, S68, l68, A69, S69, l69, A70, S70, l70, A71, S71, l71, A72, S72, l72, A73, S73, l73, A74, S74, l74, A75, S75, l75, A76, S76, l76, A77, S77, l77, A78, S78, l78, L0, L1, L2, L3, L4, L5, L6, L7, L8, L9, L10, L11, L12, L13, L14, L15, L16, L17, L18, L19, L20, L21, L22, L23, L24, L25, L26, L27, L28, L29, L30, L31, L32, L33, L34, L35, L36, L37, L38, L39, L40, L41, L42, L43, L44, L45, L46, L47, L48, L49, L50, L52, L57, L60, L90, L91, L93, L97, L99, L100, L101, L122, L240, L255, L256, L400, L401, L408, L409, L410, L411, L412, L413, L414, L420, L1000, L1001, L1103, L1200, L1240, L2820, L5220, L7936, L10440, L12345, L1000000, L1000003, L1073741823, L59, L61, L62, L200, nd_lt_t, nd_lt_f, nd_le_t, nd_le_f, nd_eq_f, nZ_add, nZ_mul, nZ_sub, nZ_lt, nZ_le, nZ_eq, nZ_nat, nZ_div, nZ_rem, nZ_and, nZ_or, and31, nZ_shl, nZ_shr, nZ_m1, nZ_nneg, nZ_nneg', nZ_nlt, nZ_ltn, inR_lt, Nat.not_lt_zero, ob_some, jI, jL, jR, jV, rI0, rI1, rIv, if_true, if_false, ↓reduceIte, Nat.reduceAdd, Nat.reduceMul, Nat.reduceSub, Nat.reduceLT, Nat.reduceEqDiff, Nat.reduceLeDiff, Nat.zero_add, Nat.add_zero, Nat.zero_mul, Nat.mul_zero, Nat.one_mul, Nat.mul_one, and_true, true_and, false_and, and_false, or_true, true_or, or_false, false_or, not_true_eq_false, not_false_eq_true, eq_self, bI_0, bI_1, em_b, hI_ne, hI_at, hA_ne, hA_at, Sh_si, Sh_sA]
    · rw [if_neg c2, if_neg c1]
      have f1 := m184t X (d + 59) p (nZ l) hp
      have f3 := m243_end H d (nZ p) (nZ l) (nZ (U p)) 0 (m187_11f H d _ _ _ (hU p hp)) (by decide)
      have hlt : p < N := by omega
      rw [← f3, E243_34]
      simp (disch := first | assumption | omega | (simp only [Sh_si, Sh_sA]; assumption)) only [m254, t59, z10, f2, rdX_16, e15, f1, p56_0, g56_0, p56_1, g56_1, g56_2, g56_3, g56_4, g56_5, p56_6, g56_6, g56_7, g56_8, g56_9, p56_10, g56_10, p56_11, g56_11, g56_12, g56_13, g56_14, p56_15, g56_15, p56_16, g56_16, p56_17, g56_17, p56_18, g56_18, p56_19, g56_19, p56_20, g56_20, B56_21, g56_21, g56_22, g56_23, g56_24, g56_25, g56_26, g56_27, p56_28, g56_28, p56_29, g56_29, p56_30, g56_30, p56_31, g56_31, g56_32, g56_33, g56_34, p56_35, g56_35, p56_36, g56_36, p56_37, g56_37, p56_38, g56_38, g56_39, g56_40, g56_41, p56_42, g56_42, p56_43, g56_43, p56_44, g56_44, ck56, A57, S57, l57, A58, S58, l58, A59, S59, l59, A60, S60, l60, A61, S61, l61, A62, S62, l62, A63, S63, l63, A64, S64, l64, A65, S65, l65, A66, S66, l66, A67, S67, l67, A68, S68, l68, A69, S69, l69, A70, S70, l70, A71, S71, l71, A72, S72, l72, A73, S73, l73, A74, S74, l74, A75, S75, l75, A76, S76, l76, A77, S77, l77, A78, S78, l78, L0, L1, L2, L3, L4, L5, L6, L7, L8, L9, L10, L11, L12, L13, L14, L15, L16, L17, L18, L19, L20, L21, L22, L23, L24, L25, L26, L27, L28, L29, L30, L31, L32, L33, L34, L35, L36, L37, L38, L39, L40, L41, L42, L43, L44, L45, L46, L47, L48, L49, L50, L52, L57, L60, L90, L91, L93, L97, L99, L100, L101, L122, L240, L255, L256, L400, L401, L408, L409, L410, L411, L412, L413, L414, L420, L1000, L1001, L1103, L1200, L1240, L2820, L5220, L7936, L10440, L12345, L1000000, L1000003, L1073741823, L59, L61, L62, L200, nd_lt_t, nd_lt_f, nd_le_t, nd_le_f, nd_eq_f, nZ_add, nZ_mul, nZ_sub, nZ_lt, nZ_le, nZ_eq, nZ_nat, nZ_div, nZ_rem, nZ_and, nZ_or, and31, nZ_shl, nZ_shr, nZ_m1, nZ_nneg, nZ_nneg', nZ_nlt, nZ_ltn, inR_lt, Nat.not_lt_zero, ob_some, jI, jL, jR, jV, rI0, rI1, rIv, if_true, if_false, ↓reduceIte, Nat.reduceAdd, Nat.reduceMul, Nat.reduceSub, Nat.reduceLT, Nat.reduceEqDiff, Nat.reduceLeDiff, Nat.zero_add, Nat.add_zero, Nat.zero_mul, Nat.mul_zero, Nat.one_mul, Nat.mul_one, and_true, true_and, false_and, and_false, or_true, true_or, or_false, false_or, not_true_eq_false, not_false_eq_true, eq_self, bI_0, bI_1, em_b, hI_ne, hI_at, hA_ne, hA_at, Sh_si, Sh_sA]
theorem m243 {h : QH} {C V U : Nat → Nat} {N : Nat} (X : RX h C V U N) (h15 : hI h 56 15 = nZ N) (d : Nat) : ∀ k pos lv z, k ≤ 11 → pos ≤ N → lv ≤ 50 → (∀ e, RL C V N (k + 1) pos lv z = .inl e → e ≤ N) ∧ RO h U (cV (qcl (d + 61) 237 [qR (some 56)] (rdX h (nZ pos) (nZ lv) (-nZ 1))) (fun h1 => qbig (d + 62) 243 34 [sR (some 56), sI (nZ (12 - k))] [] h1)) (RL C V N (k + 1) pos lv z) := by
  have H := X.1
  have hN4 := X.2.1
  have hU : ∀ k, k ≤ N → U k < 1000 := fun k hk => (X.2.2.2.2 k hk).2
  intro k
  induction k with
  | zero =>
    intro pos lv z hk hpos hlv
    obtain ⟨b1, o1⟩ := m_cl X d pos lv z hpos hlv
    rw [RL_s]
    unfold RC at b1 o1
    cases er : RH C V N pos lv z with
    | inl e =>
      rw [er] at o1 b1
      obtain ⟨x, y, g1⟩ := o1
      have he := b1 e rfl
      refine ⟨fun e' he' => (by cases he'; exact he), x, y, ?_⟩
      rw [g1, jV, m243_bad H d _ x y _ (hU e he)]
    | inr v =>
      obtain ⟨p, l, cs, dn⟩ := v
      obtain ⟨a1, a2, a3, a4, a5, a6, a7⟩ := RH_b er hlv
      rw [er] at o1 b1
      show (∀ e, rdL (RI C V N p l (z + cs.length)) _ = .inl e → e ≤ N) ∧ RO h U _ (rdL (RI C V N p l (z + cs.length)) _)
      cases er2 : RI C V N p l (z + cs.length) with
      | inl e =>
        simp only [rdB, er2] at o1 b1
        obtain ⟨x, y, g1⟩ := o1
        have he := b1 e rfl
        refine ⟨fun e' he' => (by cases he'; exact he), x, y, ?_⟩
        rw [g1, jV, m243_bad H d _ x y _ (hU e he)]
      | inr v2 =>
        obtain ⟨p2, lw, cs2, dt⟩ := v2
        obtain ⟨r1, r2, r3, r4, r5⟩ := RI_b er2 a3 a5
        simp only [rdB, er2] at o1
        have g1 : qcl (d + 61) 237 [qR (some 56)] (rdX h (nZ pos) (nZ lv) (-nZ 1)) = some (none, rdX h (nZ p2) (nZ lw) (-nZ 1)) := o1
        rw [g1, jV, m243_34 X h15 d p2 lw 12 r2 (by decide)]
        show (∀ e, (if p2 = N then Sum.inr _ else if cAt C N p2 = 159 then rlB (RL C V N 0 (p2 + 1) lw _) _ else Sum.inl p2) = Sum.inl e → e ≤ N) ∧ RO h U _ (if p2 = N then Sum.inr _ else if cAt C N p2 = 159 then rlB (RL C V N 0 (p2 + 1) lw _) _ else Sum.inl p2)
        by_cases c1 : p2 = N
        · rw [if_pos c1, if_pos c1]
          exact ⟨fun e' he' => (by cases he'), _, _, rfl⟩
        · rw [if_neg c1, if_neg c1]
          by_cases c2 : cAt C N p2 = 159
          · rw [if_pos c2, if_pos c2, if_pos rfl]
            have hp1 := C_pos (C := C) (N := N) (k := p2) (by omega)
            refine ⟨fun e' he' => ?_, _, _, rfl⟩
            have := rlB_e he'
            cases this
            omega
          · rw [if_neg c2, if_neg c2]
            exact ⟨fun e' he' => (by cases he'; exact r2), _, _, rfl⟩
  | succ k ih =>
    intro pos lv z hk hpos hlv
    obtain ⟨b1, o1⟩ := m_cl X d pos lv z hpos hlv
    rw [RL_s]
    unfold RC at b1 o1
    cases er : RH C V N pos lv z with
    | inl e =>
      rw [er] at o1 b1
      obtain ⟨x, y, g1⟩ := o1
      have he := b1 e rfl
      refine ⟨fun e' he' => (by cases he'; exact he), x, y, ?_⟩
      rw [g1, jV, m243_bad H d _ x y _ (hU e he)]
    | inr v =>
      obtain ⟨p, l, cs, dn⟩ := v
      obtain ⟨a1, a2, a3, a4, a5, a6, a7⟩ := RH_b er hlv
      rw [er] at o1 b1
      show (∀ e, rdL (RI C V N p l (z + cs.length)) _ = .inl e → e ≤ N) ∧ RO h U _ (rdL (RI C V N p l (z + cs.length)) _)
      cases er2 : RI C V N p l (z + cs.length) with
      | inl e =>
        simp only [rdB, er2] at o1 b1
        obtain ⟨x, y, g1⟩ := o1
        have he := b1 e rfl
        refine ⟨fun e' he' => (by cases he'; exact he), x, y, ?_⟩
        rw [g1, jV, m243_bad H d _ x y _ (hU e he)]
      | inr v2 =>
        obtain ⟨p2, lw, cs2, dt⟩ := v2
        obtain ⟨r1, r2, r3, r4, r5⟩ := RI_b er2 a3 a5
        simp only [rdB, er2] at o1
        have g1 : qcl (d + 61) 237 [qR (some 56)] (rdX h (nZ pos) (nZ lv) (-nZ 1)) = some (none, rdX h (nZ p2) (nZ lw) (-nZ 1)) := o1
        rw [g1, jV, m243_34 X h15 d p2 lw (12 - (k + 1)) r2 (by omega)]
        show (∀ e, (if p2 = N then Sum.inr _ else if cAt C N p2 = 159 then rlB (RL C V N (k + 1) (p2 + 1) lw _) _ else Sum.inl p2) = Sum.inl e → e ≤ N) ∧ RO h U _ (if p2 = N then Sum.inr _ else if cAt C N p2 = 159 then rlB (RL C V N (k + 1) (p2 + 1) lw _) _ else Sum.inl p2)
        by_cases c1 : p2 = N
        · rw [if_pos c1, if_pos c1]
          exact ⟨fun e' he' => (by cases he'), _, _, rfl⟩
        · rw [if_neg c1, if_neg c1]
          by_cases c2 : cAt C N p2 = 159
          · rw [if_pos c2, if_pos c2, if_neg (show ¬12 - (k + 1) = 12 by omega), show 12 - (k + 1) + 1 = 12 - k by omega]
            have hp1 := C_pos (C := C) (N := N) (k := p2) (by omega)
            obtain ⟨i1, i2⟩ := ih (p2 + 1) lw (z + cs.length + cs2.length) (by omega) (by omega) r4
            exact ⟨fun e' he' => i1 e' (rlB_e he'), RO_rl i2⟩
          · rw [if_neg c2, if_neg c2]
            exact ⟨fun e' he' => (by cases he'; exact r2), _, _, rfl⟩

/-! ===== how long and how great steps are ===== -/
theorem PB {C V : Nat → Nat} {N : Nat} : ∀ f s pos lv dp z ng acc p lv' cs dn, P C V N f s pos lv dp z ng acc = .inr (p, lv', cs, dn) → s < 10 → ng < 2 → (ng = 1 → s = 5) → pos ≤ N → pos ≤ p ∧ p ≤ N ∧ cs.length ≤ p - pos + ng ∧ ∀ x, x ∈ cs → x < 32 * (1002 + z + cs.length) := by
  intro f
  induction f with
  | zero =>
    intro s pos lv dp z ng acc p lv' cs dn e
    cases e
  | succ f ih =>
    have two : ∀ (s1 s2 : Nat) (pos lv dp z : Nat) (acc : Den) (p : Nat) (lv' : Nat) (cs : List Nat) (dn : Den), (rdB (P C V N f s1 pos lv dp z 0 acc) fun p l cs dn => rdB (P C V N f s2 p l dp (z + cs.length) 0 dn) fun p2 l2 cs2 dn2 => .inr (p2, l2, cs ++ cs2, dn2)) = .inr (p, lv', cs, dn) → s1 < 10 → s2 < 10 → pos ≤ N → pos ≤ p ∧ p ≤ N ∧ cs.length ≤ p - pos ∧ ∀ x, x ∈ cs → x < 32 * (1002 + z + cs.length) := by
      intro s1 s2 pos lv dp z acc p lv' cs dn e h1 h2 hpos
      obtain ⟨p1, lv1, cs1, dn1, e1, e2⟩ := rdB_inr e
      obtain ⟨p2, lv2, cs2, dn2, e3, e4⟩ := rdB_inr e2
      cases e4
      obtain ⟨i1, i2, i3, i4⟩ := ih s1 pos lv dp z 0 acc p1 lv1 cs1 dn1 e1 h1 (by decide) (by omega) hpos
      obtain ⟨j1, j2, j3, j4⟩ := ih s2 p1 lv1 dp _ 0 dn1 p lv' cs2 dn e3 h2 (by decide) (by omega) i2
      rw [List.length_append]
      refine ⟨by omega, j2, by omega, ?_⟩
      intro x hx
      rcases List.mem_append.1 hx with hx | hx
      · have := i4 x hx
        omega
      · have := j4 x hx
        omega
    intro s pos lv dp z ng acc p lv' cs dn e hs hng hn5 hpos
    have s10 : s = 0 ∨ s = 1 ∨ s = 2 ∨ s = 3 ∨ s = 4 ∨ s = 5 ∨ s = 6 ∨ s = 7 ∨ s = 8 ∨ s = 9 := by omega
    rcases s10 with r | r | r | r | r | r | r | r | r | r <;> subst r
    · rw [P_0] at e
      by_cases c1 : cAt C N pos = 191
      · rw [if_pos c1] at e
        have hp1 := C_pos (C := C) (N := N) (k := pos) (by omega)
        split at e
        · cases e
        · obtain ⟨p1, lv1, cs1, dn1, e1, e2⟩ := rdB_inr e
          by_cases c3 : cAt C N p1 = 193
          · rw [if_pos c3] at e2
            cases e2
            have hp2 := C_pos (C := C) (N := N) (k := p1) (by omega)
            obtain ⟨i1, i2, i3, i4⟩ := ih 3 (pos + 1) lv (dp + 1) z 0 acc p1 _ _ _ e1 (by decide) (by decide) (by omega) (by omega)
            exact ⟨by omega, by omega, by omega, i4⟩
          · rw [if_neg c3] at e2
            cases e2
      · rw [if_neg c1] at e
        by_cases c2 : cAt C N pos = 50 ∧ V pos ≤ 1000
        · rw [if_pos c2] at e
          have hp1 := C_pos (C := C) (N := N) (k := pos) (by omega)
          split at e
          · cases e
          · cases e
            refine ⟨by omega, by omega, by simp, ?_⟩
            intro x hx
            rw [List.mem_singleton] at hx
            omega
        · rw [if_neg c2] at e
          by_cases c4 : 9 ≤ cAt C N pos ∧ cAt C N pos ≤ 17
          · rw [if_pos c4] at e
            have hp1 := C_pos (C := C) (N := N) (k := pos) (by omega)
            split at e
            · cases e
            · cases e
              refine ⟨by omega, by omega, by simp, ?_⟩
              intro x hx
              rw [List.mem_singleton] at hx
              omega
          · rw [if_neg c4] at e
            cases e
    · rw [P_1] at e
      obtain ⟨i1, i2, i3, i4⟩ := two 0 2 pos lv dp z acc p lv' cs dn e (by decide) (by decide) hpos
      exact ⟨i1, i2, by omega, i4⟩
    · rw [P_2] at e
      by_cases c1 : cAt C N pos = 142 ∨ cAt C N pos = 147
      · rw [if_pos c1] at e
        obtain ⟨p1, lv1, cs1, dn1, e1, e2⟩ := rdB_inr e
        obtain ⟨p2, lv2, cs2, dn2, e3, e4⟩ := rdB_inr e2
        cases e4
        have hp1 := C_pos (C := C) (N := N) (k := pos) (by omega)
        obtain ⟨i1, i2, i3, i4⟩ := ih 0 (pos + 1) lv dp z 0 acc p1 _ _ _ e1 (by decide) (by decide) (by omega) (by omega)
        obtain ⟨j1, j2, j3, j4⟩ := ih 2 p1 lv1 dp _ 0 _ p _ cs2 _ e3 (by decide) (by decide) (by omega) i2
        rw [List.length_append, List.length_cons]
        refine ⟨by omega, j2, by omega, ?_⟩
        intro x hx
        rcases List.mem_append.1 hx with hx | hx
        · have := i4 x hx
          omega
        · rcases List.mem_cons.1 hx with hx | hx
          · split at hx <;> omega
          · have := j4 x hx
            omega
      · rw [if_neg c1] at e
        cases e
        exact ⟨Nat.le_refl _, hpos, by simp, fun x hx => by cases hx⟩
    · rw [P_3] at e
      obtain ⟨i1, i2, i3, i4⟩ := two 1 4 pos lv dp z acc p lv' cs dn e (by decide) (by decide) hpos
      exact ⟨i1, i2, by omega, i4⟩
    · rw [P_4] at e
      by_cases c1 : cAt C N pos = 143 ∨ cAt C N pos = 145
      · rw [if_pos c1] at e
        obtain ⟨p1, lv1, cs1, dn1, e1, e2⟩ := rdB_inr e
        obtain ⟨p2, lv2, cs2, dn2, e3, e4⟩ := rdB_inr e2
        cases e4
        have hp1 := C_pos (C := C) (N := N) (k := pos) (by omega)
        obtain ⟨i1, i2, i3, i4⟩ := ih 1 (pos + 1) lv dp z 0 acc p1 _ _ _ e1 (by decide) (by decide) (by omega) (by omega)
        obtain ⟨j1, j2, j3, j4⟩ := ih 4 p1 lv1 dp _ 0 _ p _ cs2 _ e3 (by decide) (by decide) (by omega) i2
        rw [List.length_append, List.length_cons]
        refine ⟨by omega, j2, by omega, ?_⟩
        intro x hx
        rcases List.mem_append.1 hx with hx | hx
        · have := i4 x hx
          omega
        · rcases List.mem_cons.1 hx with hx | hx
          · split at hx <;> omega
          · have := j4 x hx
            omega
      · rw [if_neg c1] at e
        cases e
        exact ⟨Nat.le_refl _, hpos, by simp, fun x hx => by cases hx⟩
    · rw [P_5] at e
      by_cases c1 : cAt C N pos = 8
      · rw [if_pos c1] at e
        have hp1 := C_pos (C := C) (N := N) (k := pos) (by omega)
        obtain ⟨i1, i2, i3, i4⟩ := ih 5 (pos + 1) lv dp z (1 - ng) acc p _ _ _ e (by decide) (by omega) (by omega) (by omega)
        exact ⟨by omega, i2, by omega, i4⟩
      · rw [if_neg c1] at e
        have hln : (if ng = 1 then [7] else []).length ≤ ng := by
          split
          · rename_i hh
            rw [hh]
            exact Nat.le_refl _
          · exact Nat.zero_le _
        have hm7 : ∀ x, x ∈ (if ng = 1 then [7] else []) → x = 7 := by
          intro x hx
          split at hx
          · exact List.mem_singleton.1 hx
          · cases hx
        by_cases c2 : cAt C N pos = 140
        · rw [if_pos c2] at e
          have hp1 := C_pos (C := C) (N := N) (k := pos) (by omega)
          split at e
          · cases e
          · obtain ⟨p1, lv1, cs1, dn1, e1, e2⟩ := rdB_inr e
            by_cases c4 : cAt C N p1 = 141
            · rw [if_pos c4] at e2
              cases e2
              have hp2 := C_pos (C := C) (N := N) (k := p1) (by omega)
              obtain ⟨i1, i2, i3, i4⟩ := ih 8 (pos + 1) lv (dp + 1) z 0 acc p1 _ _ _ e1 (by decide) (by decide) (by omega) (by omega)
              rw [List.length_append]
              refine ⟨by omega, by omega, by omega, ?_⟩
              intro x hx
              rcases List.mem_append.1 hx with hx | hx
              · have := i4 x hx
                omega
              · have := hm7 x hx
                omega
            · rw [if_neg c4] at e2
              cases e2
        · rw [if_neg c2] at e
          obtain ⟨p1, lv1, cs1, dn1, e1, e2⟩ := rdB_inr e
          by_cases c3 : cAt C N p1 = 160 ∨ cAt C N p1 = 162 ∨ cAt C N p1 = 161
          · rw [if_pos c3] at e2
            obtain ⟨p2, lv2, cs2, dn2, e3, e4⟩ := rdB_inr e2
            cases e4
            have hp2 := C_pos (C := C) (N := N) (k := p1) (by omega)
            obtain ⟨i1, i2, i3, i4⟩ := ih 3 pos lv dp z 0 acc p1 lv1 cs1 dn1 e1 (by decide) (by decide) (by omega) hpos
            obtain ⟨j1, j2, j3, j4⟩ := ih 3 (p1 + 1) lv1 dp _ 0 acc p lv' cs2 dn2 e3 (by decide) (by decide) (by omega) (by omega)
            rw [List.length_append, List.length_append, List.length_cons]
            refine ⟨by omega, j2, by omega, ?_⟩
            intro x hx
            rcases List.mem_append.1 hx with hx | hx
            · rcases List.mem_append.1 hx with hx | hx
              · have := i4 x hx
                omega
              · have := j4 x hx
                omega
            · rcases List.mem_cons.1 hx with hx | hx
              · split at hx
                · omega
                · split at hx <;> omega
              · have := hm7 x hx
                omega
          · rw [if_neg c3] at e2
            cases e2
    · rw [P_6] at e
      obtain ⟨i1, i2, i3, i4⟩ := two 5 7 pos lv dp z acc p lv' cs dn e (by decide) (by decide) hpos
      exact ⟨i1, i2, by omega, i4⟩
    · rw [P_7] at e
      by_cases c1 : cAt C N pos = 7
      · rw [if_pos c1] at e
        obtain ⟨p1, lv1, cs1, dn1, e1, e2⟩ := rdB_inr e
        obtain ⟨p2, lv2, cs2, dn2, e3, e4⟩ := rdB_inr e2
        cases e4
        have hp1 := C_pos (C := C) (N := N) (k := pos) (by omega)
        obtain ⟨i1, i2, i3, i4⟩ := ih 5 (pos + 1) lv dp (z + 1) 0 acc p1 _ _ _ e1 (by decide) (by decide) (by omega) (by omega)
        obtain ⟨j1, j2, j3, j4⟩ := ih 7 p1 lv1 dp _ 0 _ p _ cs2 _ e3 (by decide) (by decide) (by omega) i2
        rw [List.length_append, List.length_cons]
        refine ⟨by omega, j2, by omega, ?_⟩
        intro x hx
        rcases List.mem_append.1 hx with hx | hx
        · rcases List.mem_cons.1 hx with hx | hx
          · omega
          · have := i4 x hx
            omega
        · have := j4 x hx
          omega
      · rw [if_neg c1] at e
        cases e
        exact ⟨Nat.le_refl _, hpos, by simp, fun x hx => by cases hx⟩
    · rw [P_8] at e
      obtain ⟨i1, i2, i3, i4⟩ := two 6 9 pos lv dp z acc p lv' cs dn e (by decide) (by decide) hpos
      exact ⟨i1, i2, by omega, i4⟩
    · rw [P_9] at e
      by_cases c1 : cAt C N pos = 6
      · rw [if_pos c1] at e
        obtain ⟨p1, lv1, cs1, dn1, e1, e2⟩ := rdB_inr e
        obtain ⟨p2, lv2, cs2, dn2, e3, e4⟩ := rdB_inr e2
        cases e4
        have hp1 := C_pos (C := C) (N := N) (k := pos) (by omega)
        obtain ⟨i1, i2, i3, i4⟩ := ih 6 (pos + 1) lv dp (z + 1) 0 acc p1 _ _ _ e1 (by decide) (by decide) (by omega) (by omega)
        obtain ⟨j1, j2, j3, j4⟩ := ih 9 p1 lv1 dp _ 0 _ p _ cs2 _ e3 (by decide) (by decide) (by omega) i2
        rw [List.length_append, List.length_cons]
        refine ⟨by omega, j2, by omega, ?_⟩
        intro x hx
        rcases List.mem_append.1 hx with hx | hx
        · rcases List.mem_cons.1 hx with hx | hx
          · omega
          · have := i4 x hx
            omega
        · have := j4 x hx
          omega
      · rw [if_neg c1] at e
        cases e
        exact ⟨Nat.le_refl _, hpos, by simp, fun x hx => by cases hx⟩
def stepsOf (L : List CL) : List Nat := L.flatMap fun c => c.2.1
theorem stepsOf_cons (c : CL) (L : List CL) : stepsOf (c :: L) = c.2.1 ++ stepsOf L := List.flatMap_cons
theorem stepsOf_app (L M : List CL) : stepsOf (L ++ M) = stepsOf L ++ stepsOf M := List.flatMap_append
/-- a clause of a law: how it was read -/
def CR (C V : Nat → Nat) (N z : Nat) (c : CL) : Prop := ∃ pos lv p l cs dn p2 l2 cs2 dt, pos ≤ N ∧ lv ≤ 50 ∧ RH C V N pos lv z = .inr (p, l, cs, dn) ∧ RI C V N p l (z + cs.length) = .inr (p2, l2, cs2, dt) ∧ c = (cAt C N pos, cs ++ cs2, dn, dt)
theorem P_lv {C V : Nat → Nat} {N : Nat} : ∀ f s pos lv dp z ng acc p lv' cs dn, P C V N f s pos lv dp z ng acc = .inr (p, lv', cs, dn) → s < 10 → lv ≤ 50 → lv' ≤ 50 := by
  intro f
  induction f with
  | zero =>
    intro s pos lv dp z ng acc p lv' cs dn e
    cases e
  | succ f ih =>
    have two : ∀ (s1 s2 : Nat) (pos lv dp z : Nat) (acc : Den) (p : Nat) (lv' : Nat) (cs : List Nat) (dn : Den), (rdB (P C V N f s1 pos lv dp z 0 acc) fun p l cs dn => rdB (P C V N f s2 p l dp (z + cs.length) 0 dn) fun p2 l2 cs2 dn2 => .inr (p2, l2, cs ++ cs2, dn2)) = .inr (p, lv', cs, dn) → s1 < 10 → s2 < 10 → lv ≤ 50 → lv' ≤ 50 := by
      intro s1 s2 pos lv dp z acc p lv' cs dn e h1 h2 hlv
      obtain ⟨p1, lv1, cs1, dn1, e1, e2⟩ := rdB_inr e
      obtain ⟨p2, lv2, cs2, dn2, e3, e4⟩ := rdB_inr e2
      cases e4
      exact ih s2 _ _ _ _ _ _ _ _ _ _ e3 h2 (ih s1 _ _ _ _ _ _ _ _ _ _ e1 h1 hlv)
    intro s pos lv dp z ng acc p lv' cs dn e hs hlv
    have s10 : s = 0 ∨ s = 1 ∨ s = 2 ∨ s = 3 ∨ s = 4 ∨ s = 5 ∨ s = 6 ∨ s = 7 ∨ s = 8 ∨ s = 9 := by omega
    rcases s10 with r | r | r | r | r | r | r | r | r | r <;> subst r
    · rw [P_0] at e
      split at e
      · split at e
        · cases e
        · obtain ⟨p1, lv1, cs1, dn1, e1, e2⟩ := rdB_inr e
          split at e2
          · cases e2
            exact ih 3 _ _ _ _ _ _ _ _ _ _ e1 (by decide) hlv
          · cases e2
      · split at e
        · split at e
          · cases e
          · cases e
            omega
        · split at e
          · split at e
            · cases e
            · cases e
              omega
          · cases e
    · rw [P_1] at e
      exact two 0 2 pos lv dp z acc p lv' cs dn e (by decide) (by decide) hlv
    · rw [P_2] at e
      split at e
      · obtain ⟨p1, lv1, cs1, dn1, e1, e2⟩ := rdB_inr e
        obtain ⟨p2, lv2, cs2, dn2, e3, e4⟩ := rdB_inr e2
        cases e4
        exact ih 2 _ _ _ _ _ _ _ _ _ _ e3 (by decide) (ih 0 _ _ _ _ _ _ _ _ _ _ e1 (by decide) hlv)
      · cases e
        exact hlv
    · rw [P_3] at e
      exact two 1 4 pos lv dp z acc p lv' cs dn e (by decide) (by decide) hlv
    · rw [P_4] at e
      split at e
      · obtain ⟨p1, lv1, cs1, dn1, e1, e2⟩ := rdB_inr e
        obtain ⟨p2, lv2, cs2, dn2, e3, e4⟩ := rdB_inr e2
        cases e4
        exact ih 4 _ _ _ _ _ _ _ _ _ _ e3 (by decide) (ih 1 _ _ _ _ _ _ _ _ _ _ e1 (by decide) hlv)
      · cases e
        exact hlv
    · rw [P_5] at e
      split at e
      · exact ih 5 _ _ _ _ _ _ _ _ _ _ e (by decide) hlv
      · split at e
        · split at e
          · cases e
          · obtain ⟨p1, lv1, cs1, dn1, e1, e2⟩ := rdB_inr e
            split at e2
            · cases e2
              exact ih 8 _ _ _ _ _ _ _ _ _ _ e1 (by decide) hlv
            · cases e2
        · obtain ⟨p1, lv1, cs1, dn1, e1, e2⟩ := rdB_inr e
          split at e2
          · obtain ⟨p2, lv2, cs2, dn2, e3, e4⟩ := rdB_inr e2
            cases e4
            exact ih 3 _ _ _ _ _ _ _ _ _ _ e3 (by decide) (ih 3 _ _ _ _ _ _ _ _ _ _ e1 (by decide) hlv)
          · cases e2
    · rw [P_6] at e
      exact two 5 7 pos lv dp z acc p lv' cs dn e (by decide) (by decide) hlv
    · rw [P_7] at e
      split at e
      · obtain ⟨p1, lv1, cs1, dn1, e1, e2⟩ := rdB_inr e
        obtain ⟨p2, lv2, cs2, dn2, e3, e4⟩ := rdB_inr e2
        cases e4
        exact ih 7 _ _ _ _ _ _ _ _ _ _ e3 (by decide) (ih 5 _ _ _ _ _ _ _ _ _ _ e1 (by decide) hlv)
      · cases e
        exact hlv
    · rw [P_8] at e
      exact two 6 9 pos lv dp z acc p lv' cs dn e (by decide) (by decide) hlv
    · rw [P_9] at e
      split at e
      · obtain ⟨p1, lv1, cs1, dn1, e1, e2⟩ := rdB_inr e
        obtain ⟨p2, lv2, cs2, dn2, e3, e4⟩ := rdB_inr e2
        cases e4
        exact ih 9 _ _ _ _ _ _ _ _ _ _ e3 (by decide) (ih 6 _ _ _ _ _ _ _ _ _ _ e1 (by decide) hlv)
      · cases e
        exact hlv
theorem RH_b {C V : Nat → Nat} {N pos lv z p l : Nat} {cs : List Nat} {dn : Den} (e : RH C V N pos lv z = .inr (p, l, cs, dn)) (hlv : lv ≤ 50) : pos < N ∧ pos + 1 ≤ p ∧ p ≤ N ∧ cs.length ≤ p - pos ∧ l ≤ 50 ∧ (1 ≤ cAt C N pos ∧ cAt C N pos ≤ 4) ∧ ∀ x, x ∈ cs → x < 32 * (1002 + z + cs.length) := by
  unfold RH at e
  by_cases c1 : cAt C N pos = 1 ∨ cAt C N pos = 2 ∨ cAt C N pos = 3
  · rw [if_pos c1] at e
    have hp1 := C_pos (C := C) (N := N) (k := pos) (by omega)
    obtain ⟨i1, i2, i3, i4⟩ := PB _ _ _ _ _ _ _ _ _ _ _ _ e (by decide) (by decide) (by decide) (by omega)
    have := P_lv _ _ _ _ _ _ _ _ _ _ _ _ e (by decide) hlv
    exact ⟨hp1, i1, i2, by omega, this, by omega, i4⟩
  · rw [if_neg c1] at e
    by_cases c2 : cAt C N pos = 4
    · rw [if_pos c2] at e
      cases e
      have hp1 := C_pos (C := C) (N := N) (k := pos) (by omega)
      refine ⟨hp1, by omega, by omega, by simp, hlv, by omega, ?_⟩
      intro x hx
      rw [List.mem_singleton] at hx
      omega
    · rw [if_neg c2] at e
      cases e
theorem RI_b {C V : Nat → Nat} {N p l z p2 l2 : Nat} {cs : List Nat} {dt : Den} (e : RI C V N p l z = .inr (p2, l2, cs, dt)) (hp : p ≤ N) (hlv : l ≤ 50) : p ≤ p2 ∧ p2 ≤ N ∧ cs.length ≤ p2 - p + 1 ∧ l2 ≤ 50 ∧ ∀ x, x ∈ cs → x < 32 * (1002 + z + cs.length) := by
  unfold RI at e
  by_cases c1 : cAt C N p = 5
  · rw [if_pos c1] at e
    have hp1 := C_pos (C := C) (N := N) (k := p) (by omega)
    obtain ⟨i1, i2, i3, i4⟩ := PB _ _ _ _ _ _ _ _ _ _ _ _ e (by decide) (by decide) (by decide) (by omega)
    have := P_lv _ _ _ _ _ _ _ _ _ _ _ _ e (by decide) hlv
    exact ⟨by omega, i2, by omega, this, i4⟩
  · rw [if_neg c1] at e
    cases e
    refine ⟨Nat.le_refl _, hp, by simp, hlv, ?_⟩
    intro x hx
    rw [List.mem_singleton] at hx
    omega
theorem RL_b {C V : Nat → Nat} {N : Nat} : ∀ k pos lv z L, RL C V N k pos lv z = .inr L → pos ≤ N → lv ≤ 50 → 1 ≤ L.length ∧ L.length ≤ k ∧ (stepsOf L).length ≤ N - pos + L.length ∧ (∀ x, x ∈ stepsOf L → x < 32 * (1002 + z + (stepsOf L).length)) ∧ ∀ L1 c L2, L = L1 ++ c :: L2 → CR C V N (z + (stepsOf L1).length) c := by
  intro k
  induction k with
  | zero =>
    intro pos lv z L e
    cases e
  | succ k ih =>
    intro pos lv z L e hpos hlv
    rw [RL_s] at e
    obtain ⟨p, l, cs, dn, e1, e2⟩ := rdL_inr e
    obtain ⟨p2, l2, cs2, dt, e3, e4⟩ := rdL_inr e2
    obtain ⟨a1, a2, a3, a4, a5, a6, a7⟩ := RH_b e1 hlv
    obtain ⟨b1, b2, b3, b4, b5⟩ := RI_b e3 a3 a5
    have hcr : CR C V N z (cAt C N pos, cs ++ cs2, dn, dt) := ⟨pos, lv, p, l, cs, dn, p2, l2, cs2, dt, hpos, hlv, e1, e3, rfl⟩
    by_cases c1 : p2 = N
    · rw [if_pos c1] at e4
      cases e4
      have es : stepsOf [(cAt C N pos, cs ++ cs2, dn, dt)] = cs ++ cs2 := by
        rw [stepsOf_cons]
        exact List.append_nil _
      rw [es, List.length_append]
      refine ⟨by simp, by simp, ?_, ?_, ?_⟩
      · show cs.length + cs2.length ≤ N - pos + 1
        omega
      · intro x hx
        rcases List.mem_append.1 hx with hx | hx
        · have := a7 x hx
          omega
        · have := b5 x hx
          omega
      · intro L1 c L2 hL
        cases L1 with
        | nil =>
          cases hL
          exact hcr
        | cons x L1 =>
          have := congrArg List.length hL
          simp at this
    · rw [if_neg c1] at e4
      by_cases c2 : cAt C N p2 = 159
      · rw [if_pos c2] at e4
        obtain ⟨L', e5, e6⟩ := rlB_inr e4
        subst e6
        have hp3 := C_pos (C := C) (N := N) (k := p2) (by omega)
        obtain ⟨i1, i2, i3, i4, i5⟩ := ih (p2 + 1) l2 _ L' e5 (by omega) b4
        have es : stepsOf ((cAt C N pos, cs ++ cs2, dn, dt) :: L') = (cs ++ cs2) ++ stepsOf L' := stepsOf_cons _ _
        rw [es, List.length_append, List.length_append, List.length_cons]
        refine ⟨by omega, by omega, by omega, ?_, ?_⟩
        · intro x hx
          rcases List.mem_append.1 hx with hx | hx
          · rcases List.mem_append.1 hx with hx | hx
            · have := a7 x hx
              omega
            · have := b5 x hx
              omega
          · have := i4 x hx
            omega
        · intro L1 c L2 hL
          cases L1 with
          | nil =>
            cases hL
            exact hcr
          | cons x L1 =>
            rw [List.cons_append] at hL
            obtain ⟨h1, h2⟩ := List.cons.inj hL
            rw [← h1]
            have := i5 L1 c L2 h2
            rw [stepsOf_cons, List.length_append]
            show CR C V N (z + ((cs ++ cs2).length + (stepsOf L1).length)) c
            rw [List.length_append, show z + (cs.length + cs2.length + (stepsOf L1).length) = z + cs.length + cs2.length + (stepsOf L1).length by omega]
            exact this
      · rw [if_neg c2] at e4
        cases e4

theorem jv_cmp (s : Nat) (hs : s = 160 ∨ s = 162 ∨ s = 161) (x y : Int) : some (if (if s = 160 then x < y else if s = 162 then y < x else x = y) then 1 else 0) = jv (if s = 160 then 23 else if s = 162 then 24 else 25) x y := by
  rcases hs with r | r | r <;> subst r <;> rfl
theorem CE {h : QH} {a w n : Nat} {stp q : Nat → Nat} (X : VX h a w n stp q) (d : Nat) {C V : Nat → Nat} {N : Nat} : ∀ f s pos lv dp z ng acc p lv' cs dn, P C V N f s pos lv dp z ng acc = .inr (p, lv', cs, dn) → s < 10 → ng < 2 → lv ≤ 50 → (s = 2 ∨ s = 4 → sm (acc fun i => q i)) → (s = 7 ∨ s = 9 → b01 (acc fun i => q i)) →
    (lv ≤ lv' ∧ lv' ≤ 50 ∧ (s = 2 ∨ s = 4 ∨ s = 7 ∨ s = 9 ∨ lv + 1 ≤ lv') ∧ (s < 5 → sm (dn fun i => q i)) ∧ (5 ≤ s → b01 (dn fun i => q i))) ∧
    ∀ t S e, AtS stp z cs → z + cs.length ≤ e → e ≤ n → (¬(s = 2 ∨ s = 4 ∨ s = 7 ∨ s = 9) → t + (lv' - lv) ≤ 52 → RR h (dn fun i => q i) t S (vG d h a e z t S) (fun S' => vG d h a e (z + cs.length) (t + 1) S')) ∧ ((s = 2 ∨ s = 4 ∨ s = 7 ∨ s = 9) → t + 1 + (lv' - lv) ≤ 52 → ∀ x, (acc fun i => q i) = some x → S t = iZ x → RR h (dn fun i => q i) t S (vG d h a e z (t + 1) S) (fun S' => vG d h a e (z + cs.length) (t + 1) S')) := by
  intro f
  induction f with
  | zero =>
    intro s pos lv dp z ng acc p lv' cs dn e
    cases e
  | succ f ih =>
    -- a fresh one, then its rest
    have two : ∀ (s1 s2 : Nat) (pos lv dp z : Nat) (acc : Den) (p : Nat) (lv' : Nat) (cs : List Nat) (dn : Den), (rdB (P C V N f s1 pos lv dp z 0 acc) fun p l cs dn => rdB (P C V N f s2 p l dp (z + cs.length) 0 dn) fun p2 l2 cs2 dn2 => .inr (p2, l2, cs ++ cs2, dn2)) = .inr (p, lv', cs, dn) → s1 < 10 → ¬(s1 = 2 ∨ s1 = 4 ∨ s1 = 7 ∨ s1 = 9) → (s2 = 2 ∨ s2 = 4 ∨ s2 = 7 ∨ s2 = 9) → (s2 < 5 ↔ s1 < 5) → lv ≤ 50 →
        (lv ≤ lv' ∧ lv' ≤ 50 ∧ lv + 1 ≤ lv' ∧ (s1 < 5 → sm (dn fun i => q i)) ∧ (5 ≤ s1 → b01 (dn fun i => q i))) ∧ ∀ t S e, AtS stp z cs → z + cs.length ≤ e → e ≤ n → t + (lv' - lv) ≤ 52 → RR h (dn fun i => q i) t S (vG d h a e z t S) (fun S' => vG d h a e (z + cs.length) (t + 1) S') := by
      intro s1 s2 pos lv dp z acc p lv' cs dn e h10 hs1 hs2 hs12 hlv
      obtain ⟨p1, lv1, cs1, dn1, e1, e2⟩ := rdB_inr e
      obtain ⟨p2, lv2, cs2, dn2, e3, e4⟩ := rdB_inr e2
      cases e4
      obtain ⟨⟨i1, i2, i3, i4, i5⟩, i6⟩ := ih s1 pos lv dp z 0 acc p1 lv1 cs1 dn1 e1 h10 (by decide) hlv (by omega) (by omega)
      obtain ⟨⟨j1, j2, j3, j4, j5⟩, j6⟩ := ih s2 p1 lv1 dp _ 0 dn1 p lv' cs2 dn e3 (by omega) (by decide) i2 (fun hh => i4 (by omega)) (fun hh => i5 (by omega))
      refine ⟨⟨by omega, j2, by omega, fun hh => j4 (by omega), fun hh => j5 (by omega)⟩, ?_⟩
      intro t S e hat hle hen hbud
      obtain ⟨a1, a2⟩ := AtS_app cs1 cs2 z hat
      rw [List.length_append] at hle
      have r1 := (i6 t S e a1 (by omega) hen).1 hs1 (by omega)
      refine RR_seq r1 ?_ ?_
      · intro hn
        exact den_none f s2 _ _ _ _ _ _ _ _ _ _ e3 hs2 hn
      · intro x S' hx hS
        have r2 := (j6 t S' e a2 (by omega) hen).2 hs2 (by omega) x hx hS
        rw [List.length_append, ← Nat.add_assoc]
        exact r2
    intro s pos lv dp z ng acc p lv' cs dn e hs hng hlv ha1 ha2
    have s10 : s = 0 ∨ s = 1 ∨ s = 2 ∨ s = 3 ∨ s = 4 ∨ s = 5 ∨ s = 6 ∨ s = 7 ∨ s = 8 ∨ s = 9 := by omega
    rcases s10 with r | r | r | r | r | r | r | r | r | r <;> subst r
    · -- a part
      rw [P_0] at e
      by_cases c1 : cAt C N pos = 191
      · rw [if_pos c1] at e
        by_cases c2 : dp = 8
        · rw [if_pos c2] at e
          cases e
        · rw [if_neg c2] at e
          obtain ⟨p1, lv1, cs1, dn1, e1, e2⟩ := rdB_inr e
          by_cases c3 : cAt C N p1 = 193
          · rw [if_pos c3] at e2
            cases e2
            obtain ⟨⟨i1, i2, i3, i4, i5⟩, i6⟩ := ih 3 (pos + 1) lv (dp + 1) z 0 acc p1 _ _ _ e1 (by decide) (by decide) hlv (by omega) (by omega)
            refine ⟨⟨i1, i2, by omega, fun _ => i4 (by decide), by omega⟩, ?_⟩
            intro t S e hat hle hen
            exact ⟨fun _ hb => (i6 t S e hat hle hen).1 (by decide) hb, fun hh => absurd hh (by decide)⟩
          · rw [if_neg c3] at e2
            cases e2
      · rw [if_neg c1] at e
        by_cases c2 : cAt C N pos = 50 ∧ V pos ≤ 1000
        · rw [if_pos c2] at e
          by_cases c3 : lv = 50
          · rw [if_pos c3] at e
            cases e
          · rw [if_neg c3] at e
            cases e
            refine ⟨⟨by omega, by omega, by omega, fun _ x hx => ?_, by omega⟩, ?_⟩
            · cases hx
              omega
            · intro t S e hat hle hen
              refine ⟨fun _ hb => ?_, fun hh => absurd hh (by decide)⟩
              have hle' : z + 1 ≤ e := hle
              rw [v_num X d e z t (V pos) S hen (by omega) (by omega) (by omega) hat.1]
              exact ⟨_, rfl, by rw [upS_at, iZ_nat], fun j hj => upS_ne (by omega)⟩
        · rw [if_neg c2] at e
          by_cases c4 : 9 ≤ cAt C N pos ∧ cAt C N pos ≤ 17
          · rw [if_pos c4] at e
            by_cases c3 : lv = 50
            · rw [if_pos c3] at e
              cases e
            · rw [if_neg c3] at e
              cases e
              have hq := (X.2.2.2.2.2 (cAt C N pos - 9) (by omega)).2
              refine ⟨⟨by omega, by omega, by omega, fun _ x hx => ?_, by omega⟩, ?_⟩
              · have hx' : (q (cAt C N pos - 9) : Int) = x := Option.some.inj hx
                omega
              · intro t S e hat hle hen
                refine ⟨fun _ hb => ?_, fun hh => absurd hh (by decide)⟩
                have hle' : z + 1 ≤ e := hle
                rw [v_word X d e z t (cAt C N pos - 9) S hen (by omega) (by omega) (by omega) (hat.1.trans (by omega))]
                exact ⟨_, rfl, by rw [upS_at, iZ_nat], fun j hj => upS_ne (by omega)⟩
          · rw [if_neg c4] at e
            cases e
    · -- a term
      rw [P_1] at e
      obtain ⟨⟨i1, i2, i3, i4, i5⟩, i6⟩ := two 0 2 pos lv dp z acc p lv' cs dn e (by decide) (by decide) (by decide) (by decide) hlv
      exact ⟨⟨i1, i2, by omega, fun _ => i4 (by decide), by omega⟩, fun t S e hat hle hen => ⟨fun _ hb => i6 t S e hat hle hen hb, fun hh => absurd hh (by decide)⟩⟩
    · -- a term's rest
      rw [P_2] at e
      by_cases c1 : cAt C N pos = 142 ∨ cAt C N pos = 147
      · rw [if_pos c1] at e
        obtain ⟨p1, lv1, cs1, dn1, e1, e2⟩ := rdB_inr e
        obtain ⟨p2, lv2, cs2, dn2, e3, e4⟩ := rdB_inr e2
        cases e4
        obtain ⟨⟨i1, i2, i3, i4, i5⟩, i6⟩ := ih 0 (pos + 1) lv dp z 0 acc p1 _ _ _ e1 (by decide) (by decide) hlv (by omega) (by omega)
        have hs2 : sm ((if cAt C N pos = 142 then dMul acc dn1 else dDiv acc dn1) fun i => q i) := by
          split
          · exact sm_bind2 fun x y => sm_bdd _
          · refine sm_bind2 fun x y => ?_
            split
            · exact fun x hx => by cases hx
            · exact sm_bdd _
        obtain ⟨⟨j1, j2, j3, j4, j5⟩, j6⟩ := ih 2 p1 lv1 dp _ 0 _ p _ cs2 _ e3 (by decide) (by decide) i2 (fun _ => hs2) (by omega)
        refine ⟨⟨by omega, j2, by omega, fun _ => j4 (by decide), by omega⟩, ?_⟩
        intro t S e hat hle hen
        refine ⟨fun hh => absurd (by decide) hh, fun _ hb x hx hS => ?_⟩
        obtain ⟨a1, a2⟩ := AtS_app cs1 _ z hat
        rw [List.length_append, List.length_cons] at hle
        have r1 := (i6 (t + 1) S e a1 (by omega) hen).1 (by decide) (by omega)
        have hxs := ha1 (Or.inl rfl) x hx
        have r2 : RR h ((if cAt C N pos = 142 then dMul acc dn1 else dDiv acc dn1) fun i => q i) t S (vG d h a e z (t + 1) S) (fun S' => vG d h a e (z + cs1.length + 1) (t + 1) S') := by
          by_cases c2 : cAt C N pos = 142
          · rw [if_pos c2]
            exact RR_two X d e (z + cs1.length) t 28 S hx hS hxs (i4 (by decide)) r1 hen (by omega) (by omega) (by decide) (a2.1.trans (if_pos c2)) (f := fun x y => bdd (x * y)) (fun x y => rfl) rfl
          · rw [if_neg c2]
            exact RR_two X d e (z + cs1.length) t 29 S hx hS hxs (i4 (by decide)) r1 hen (by omega) (by omega) (by decide) (a2.1.trans (if_neg c2)) (f := fun x y => if y = 0 then none else bdd (x.tdiv y)) (fun x y => rfl) rfl
        refine RR_seq r2 ?_ ?_
        · intro hn
          exact den_none f 2 _ _ _ _ _ _ _ _ _ _ e3 (by decide) hn
        · intro y S' hy hS'
          have r3 := (j6 t S' e a2.2 (by omega) hen).2 (by decide) (by omega) y hy hS'
          rw [List.length_append, List.length_cons, show z + (cs1.length + (cs2.length + 1)) = z + cs1.length + 1 + cs2.length by omega]
          exact r3
      · rw [if_neg c1] at e
        cases e
        refine ⟨⟨Nat.le_refl _, hlv, by omega, fun _ => ha1 (Or.inl rfl), by omega⟩, ?_⟩
        intro t S e hat hle hen
        refine ⟨fun hh => absurd (by decide) hh, fun _ hb x hx hS => ?_⟩
        rw [hx]
        exact ⟨S, rfl, hS, fun _ _ => rfl⟩
    · -- a sum
      rw [P_3] at e
      obtain ⟨⟨i1, i2, i3, i4, i5⟩, i6⟩ := two 1 4 pos lv dp z acc p lv' cs dn e (by decide) (by decide) (by decide) (by decide) hlv
      exact ⟨⟨i1, i2, by omega, fun _ => i4 (by decide), by omega⟩, fun t S e hat hle hen => ⟨fun _ hb => i6 t S e hat hle hen hb, fun hh => absurd hh (by decide)⟩⟩
    · -- a sum's rest
      rw [P_4] at e
      by_cases c1 : cAt C N pos = 143 ∨ cAt C N pos = 145
      · rw [if_pos c1] at e
        obtain ⟨p1, lv1, cs1, dn1, e1, e2⟩ := rdB_inr e
        obtain ⟨p2, lv2, cs2, dn2, e3, e4⟩ := rdB_inr e2
        cases e4
        obtain ⟨⟨i1, i2, i3, i4, i5⟩, i6⟩ := ih 1 (pos + 1) lv dp z 0 acc p1 _ _ _ e1 (by decide) (by decide) hlv (by omega) (by omega)
        have hs2 : sm ((if cAt C N pos = 143 then dAdd acc dn1 else dSub acc dn1) fun i => q i) := by
          split
          · exact sm_bind2 fun x y => sm_bdd _
          · exact sm_bind2 fun x y => sm_bdd _
        obtain ⟨⟨j1, j2, j3, j4, j5⟩, j6⟩ := ih 4 p1 lv1 dp _ 0 _ p _ cs2 _ e3 (by decide) (by decide) i2 (fun _ => hs2) (by omega)
        refine ⟨⟨by omega, j2, by omega, fun _ => j4 (by decide), by omega⟩, ?_⟩
        intro t S e hat hle hen
        refine ⟨fun hh => absurd (by decide) hh, fun _ hb x hx hS => ?_⟩
        obtain ⟨a1, a2⟩ := AtS_app cs1 _ z hat
        rw [List.length_append, List.length_cons] at hle
        have r1 := (i6 (t + 1) S e a1 (by omega) hen).1 (by decide) (by omega)
        have hxs := ha1 (Or.inr rfl) x hx
        have r2 : RR h ((if cAt C N pos = 143 then dAdd acc dn1 else dSub acc dn1) fun i => q i) t S (vG d h a e z (t + 1) S) (fun S' => vG d h a e (z + cs1.length + 1) (t + 1) S') := by
          by_cases c2 : cAt C N pos = 143
          · rw [if_pos c2]
            exact RR_two X d e (z + cs1.length) t 26 S hx hS hxs (i4 (by decide)) r1 hen (by omega) (by omega) (by decide) (a2.1.trans (if_pos c2)) (f := fun x y => bdd (x + y)) (fun x y => rfl) rfl
          · rw [if_neg c2]
            exact RR_two X d e (z + cs1.length) t 27 S hx hS hxs (i4 (by decide)) r1 hen (by omega) (by omega) (by decide) (a2.1.trans (if_neg c2)) (f := fun x y => bdd (x - y)) (fun x y => rfl) rfl
        refine RR_seq r2 ?_ ?_
        · intro hn
          exact den_none f 4 _ _ _ _ _ _ _ _ _ _ e3 (by decide) hn
        · intro y S' hy hS'
          have r3 := (j6 t S' e a2.2 (by omega) hen).2 (by decide) (by omega) y hy hS'
          rw [List.length_append, List.length_cons, show z + (cs1.length + (cs2.length + 1)) = z + cs1.length + 1 + cs2.length by omega]
          exact r3
      · rw [if_neg c1] at e
        cases e
        refine ⟨⟨Nat.le_refl _, hlv, by omega, fun _ => ha1 (Or.inr rfl), by omega⟩, ?_⟩
        intro t S e hat hle hen
        refine ⟨fun hh => absurd (by decide) hh, fun _ hb x hx hS => ?_⟩
        rw [hx]
        exact ⟨S, rfl, hS, fun _ _ => rfl⟩
    · -- a plain one
      rw [P_5] at e
      by_cases c1 : cAt C N pos = 8
      · rw [if_pos c1] at e
        obtain ⟨⟨i1, i2, i3, i4, i5⟩, i6⟩ := ih 5 (pos + 1) lv dp z (1 - ng) acc p _ _ _ e (by decide) (by omega) hlv (by omega) (by omega)
        exact ⟨⟨i1, i2, i3, by omega, i5⟩, i6⟩
      · rw [if_neg c1] at e
        by_cases c2 : cAt C N pos = 140
        · rw [if_pos c2] at e
          by_cases c3 : dp = 8
          · rw [if_pos c3] at e
            cases e
          · rw [if_neg c3] at e
            obtain ⟨p1, lv1, cs1, dn1, e1, e2⟩ := rdB_inr e
            by_cases c4 : cAt C N p1 = 141
            · rw [if_pos c4] at e2
              cases e2
              obtain ⟨⟨i1, i2, i3, i4, i5⟩, i6⟩ := ih 8 (pos + 1) lv (dp + 1) z 0 acc p1 _ _ _ e1 (by decide) (by decide) hlv (by omega) (by omega)
              refine ⟨⟨i1, i2, by omega, by omega, fun _ => b01_not (i5 (by decide))⟩, ?_⟩
              intro t S e hat hle hen
              refine ⟨fun _ hb => ?_, fun hh => absurd hh (by decide)⟩
              obtain ⟨a1, a2⟩ := AtS_app cs1 _ z hat
              rw [List.length_append] at hle
              have r1 := (i6 t S e a1 (by omega) hen).1 (by decide) hb
              have r2 := RR_turn X d e (z + cs1.length) t ng S r1 hng hen (by omega) (by omega) a2
              rw [List.length_append, ← Nat.add_assoc]
              exact r2
            · rw [if_neg c4] at e2
              cases e2
        · rw [if_neg c2] at e
          obtain ⟨p1, lv1, cs1, dn1, e1, e2⟩ := rdB_inr e
          by_cases c3 : cAt C N p1 = 160 ∨ cAt C N p1 = 162 ∨ cAt C N p1 = 161
          · rw [if_pos c3] at e2
            obtain ⟨p2, lv2, cs2, dn2, e3, e4⟩ := rdB_inr e2
            cases e4
            obtain ⟨⟨i1, i2, i3, i4, i5⟩, i6⟩ := ih 3 pos lv dp z 0 acc p1 lv1 cs1 dn1 e1 (by decide) (by decide) hlv (by omega) (by omega)
            obtain ⟨⟨j1, j2, j3, j4, j5⟩, j6⟩ := ih 3 (p1 + 1) lv1 dp _ 0 acc p lv' cs2 dn2 e3 (by decide) (by decide) i2 (by omega) (by omega)
            refine ⟨⟨by omega, j2, by omega, by omega, fun _ => b01_not b01_cmp⟩, ?_⟩
            intro t S e hat hle hen
            refine ⟨fun _ hb => ?_, fun hh => absurd hh (by decide)⟩
            obtain ⟨a1, a2⟩ := AtS_app (cs1 ++ cs2) _ z hat
            obtain ⟨a3, a4⟩ := AtS_app cs1 cs2 z a1
            rw [List.length_append] at a2
            rw [List.length_append, List.length_append, List.length_cons] at hle
            have r1 := (i6 t S e a3 (by omega) hen).1 (by decide) (by omega)
            have r2 : RR h ((dCmp (cAt C N p1) dn1 dn2) fun i => q i) t S (vG d h a e z t S) (fun S' => vG d h a e (z + (cs1.length + cs2.length) + 1) (t + 1) S') := by
              refine RR_seq r1 ?_ ?_
              · intro hn
                unfold dCmp
                rw [hn]
                rfl
              · intro x S' hx hS
                have r3 := (j6 (t + 1) S' e a4 (by omega) hen).1 (by decide) (by omega)
                have hk : 23 ≤ (if cAt C N p1 = 160 then 23 else if cAt C N p1 = 162 then 24 else 25) ∧ (if cAt C N p1 = 160 then 23 else if cAt C N p1 = 162 then 24 else 25) ≤ 29 := by
                  split
                  · decide
                  · split <;> decide
                rw [Nat.add_assoc z] at r3
                exact RR_two X d e (z + (cs1.length + cs2.length)) t _ S' hx hS (i4 (by decide) x hx) (j4 (by decide)) r3 hen (by omega) (by omega) hk a2.1 (f := fun x y => some (if (if cAt C N p1 = 160 then x < y else if cAt C N p1 = 162 then y < x else x = y) then 1 else 0)) (fun x y => jv_cmp _ c3 x y) rfl
            have r4 := RR_turn X d e (z + (cs1.length + cs2.length) + 1) t ng S r2 hng hen (by omega) (by omega) a2.2
            rw [List.length_append, List.length_append, List.length_cons, show z + (cs1.length + cs2.length + ((if ng = 1 then [7] else []).length + 1)) = z + (cs1.length + cs2.length) + 1 + (if ng = 1 then [7] else []).length by omega]
            exact r4
          · rw [if_neg c3] at e2
            cases e2
    · -- both
      rw [P_6] at e
      obtain ⟨⟨i1, i2, i3, i4, i5⟩, i6⟩ := two 5 7 pos lv dp z acc p lv' cs dn e (by decide) (by decide) (by decide) (by decide) hlv
      exact ⟨⟨i1, i2, by omega, by omega, fun _ => i5 (by decide)⟩, fun t S e hat hle hen => ⟨fun _ hb => i6 t S e hat hle hen hb, fun hh => absurd hh (by decide)⟩⟩
    · -- a rest of both
      rw [P_7] at e
      by_cases c1 : cAt C N pos = 7
      · rw [if_pos c1] at e
        obtain ⟨p1, lv1, cs1, dn1, e1, e2⟩ := rdB_inr e
        obtain ⟨p2, lv2, cs2, dn2, e3, e4⟩ := rdB_inr e2
        cases e4
        obtain ⟨⟨i1, i2, i3, i4, i5⟩, i6⟩ := ih 5 (pos + 1) lv dp (z + 1) 0 acc p1 _ _ _ e1 (by decide) (by decide) hlv (by omega) (by omega)
        obtain ⟨⟨j1, j2, j3, j4, j5⟩, j6⟩ := ih 7 p1 lv1 dp _ 0 _ p _ cs2 _ e3 (by decide) (by decide) i2 (by omega) (fun _ => b01_and (i5 (by decide)))
        refine ⟨⟨by omega, j2, by omega, by omega, fun _ => j5 (by decide)⟩, ?_⟩
        intro t S e hat hle hen
        have hn := X.2.2.2.1
        refine ⟨fun hh => absurd (by decide) hh, fun _ hb x hx hS => ?_⟩
        obtain ⟨a1, a2⟩ := AtS_app ((6 + 32 * (z + 1 + cs1.length)) :: cs1) cs2 z hat
        rw [List.length_cons] at a2
        rw [List.length_append, List.length_cons] at hle
        have hx01 := ha2 (Or.inl rfl) x hx
        rw [show z + (cs1.length + 1) = z + 1 + cs1.length by omega] at a2
        rw [v_and X d e z t (z + 1 + cs1.length) x S hen (by omega) (by omega) (by omega) (by omega) a1.1 hS (by omega), List.length_append, List.length_cons, show z + (cs1.length + 1 + cs2.length) = z + 1 + cs1.length + cs2.length by omega]
        by_cases x0 : x = 0
        · rw [if_pos x0]
          exact (j6 t S e a2 (by omega) hen).2 (by decide) (by omega) x (by unfold dAnd; rw [hx, x0]; rfl) hS
        · rw [if_neg x0]
          have r1 := (i6 t S e a1.2 (by omega) hen).1 (by decide) (by omega)
          have ed : (dAnd acc dn1 fun i => q i) = (dn1 fun i => (q i : Int)) := by
            unfold dAnd
            rw [hx]
            simp only [Option.bind_some]
            rw [if_neg x0]
          refine RR_seq r1 ?_ ?_
          · intro hn
            exact den_none f 7 _ _ _ _ _ _ _ _ _ _ e3 (by decide) (ed.trans hn)
          · intro y S' hy hS'
            exact (j6 t S' e a2 (by omega) hen).2 (by decide) (by omega) y (ed.trans hy) hS'
      · rw [if_neg c1] at e
        cases e
        refine ⟨⟨Nat.le_refl _, hlv, by omega, by omega, fun _ => ha2 (Or.inl rfl)⟩, ?_⟩
        intro t S e hat hle hen
        refine ⟨fun hh => absurd (by decide) hh, fun _ hb x hx hS => ?_⟩
        rw [hx]
        exact ⟨S, rfl, hS, fun _ _ => rfl⟩
    · -- a test
      rw [P_8] at e
      obtain ⟨⟨i1, i2, i3, i4, i5⟩, i6⟩ := two 6 9 pos lv dp z acc p lv' cs dn e (by decide) (by decide) (by decide) (by decide) hlv
      exact ⟨⟨i1, i2, by omega, by omega, fun _ => i5 (by decide)⟩, fun t S e hat hle hen => ⟨fun _ hb => i6 t S e hat hle hen hb, fun hh => absurd hh (by decide)⟩⟩
    · -- a rest of a test
      rw [P_9] at e
      by_cases c1 : cAt C N pos = 6
      · rw [if_pos c1] at e
        obtain ⟨p1, lv1, cs1, dn1, e1, e2⟩ := rdB_inr e
        obtain ⟨p2, lv2, cs2, dn2, e3, e4⟩ := rdB_inr e2
        cases e4
        obtain ⟨⟨i1, i2, i3, i4, i5⟩, i6⟩ := ih 6 (pos + 1) lv dp (z + 1) 0 acc p1 _ _ _ e1 (by decide) (by decide) hlv (by omega) (by omega)
        obtain ⟨⟨j1, j2, j3, j4, j5⟩, j6⟩ := ih 9 p1 lv1 dp _ 0 _ p _ cs2 _ e3 (by decide) (by decide) i2 (by omega) (fun _ => b01_or (ha2 (Or.inr rfl)) (i5 (by decide)))
        refine ⟨⟨by omega, j2, by omega, by omega, fun _ => j5 (by decide)⟩, ?_⟩
        intro t S e hat hle hen
        have hn := X.2.2.2.1
        refine ⟨fun hh => absurd (by decide) hh, fun _ hb x hx hS => ?_⟩
        obtain ⟨a1, a2⟩ := AtS_app ((5 + 32 * (z + 1 + cs1.length)) :: cs1) cs2 z hat
        rw [List.length_cons] at a2
        rw [List.length_append, List.length_cons] at hle
        have hx01 := ha2 (Or.inr rfl) x hx
        rw [show z + (cs1.length + 1) = z + 1 + cs1.length by omega] at a2
        rw [v_or X d e z t (z + 1 + cs1.length) x S hen (by omega) (by omega) (by omega) (by omega) a1.1 hS (by omega), List.length_append, List.length_cons, show z + (cs1.length + 1 + cs2.length) = z + 1 + cs1.length + cs2.length by omega]
        by_cases x0 : x = 0
        · rw [if_pos x0]
          have r1 := (i6 t S e a1.2 (by omega) hen).1 (by decide) (by omega)
          have ed : (dOr acc dn1 fun i => q i) = (dn1 fun i => (q i : Int)) := by
            unfold dOr
            rw [hx]
            simp only [Option.bind_some]
            rw [if_pos x0]
          refine RR_seq r1 ?_ ?_
          · intro hn
            exact den_none f 9 _ _ _ _ _ _ _ _ _ _ e3 (by decide) (ed.trans hn)
          · intro y S' hy hS'
            exact (j6 t S' e a2 (by omega) hen).2 (by decide) (by omega) y (ed.trans hy) hS'
        · rw [if_neg x0]
          exact (j6 t S e a2 (by omega) hen).2 (by decide) (by omega) x (by unfold dOr; rw [hx]; simp only [Option.bind_some]; rw [if_neg x0]) hS
      · rw [if_neg c1] at e
        cases e
        refine ⟨⟨Nat.le_refl _, hlv, by omega, by omega, fun _ => ha2 (Or.inr rfl)⟩, ?_⟩
        intro t S e hat hle hen
        refine ⟨fun hh => absurd (by decide) hh, fun _ hb x hx hS => ?_⟩
        rw [hx]
        exact ⟨S, rfl, hS, fun _ _ => rfl⟩

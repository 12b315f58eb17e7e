/-! ===== what was read, run by the class ===== -/
/-- these steps stand from z on -/
def AtS (stp : Nat → Nat) : Nat → List Nat → Prop
  | _, [] => True
  | z, c :: cs => stp z = c ∧ AtS stp (z + 1) cs
theorem AtS_app {stp : Nat → Nat} : ∀ (a b : List Nat) (z : Nat), AtS stp z (a ++ b) → AtS stp z a ∧ AtS stp (z + a.length) b
  | [], b, z, h => ⟨trivial, h⟩
  | x :: a, b, z, h => by
    obtain ⟨h1, h2⟩ := AtS_app a b (z + 1) h.2
    refine ⟨⟨h.1, h1⟩, ?_⟩
    have e : z + (x :: a).length = z + 1 + a.length := by
      rw [List.length_cons]
      omega
    rw [e]
    exact h2
/-- how a run with a meaning goes on: its value at t, or broken -/
def RR (h : QH) (o : Option Int) (t : Nat) (S : Nat → Int32) (g : QO) (k : (Nat → Int32) → QO) : Prop := match o with
  | some x => ∃ S', g = k S' ∧ S' t = iZ x ∧ ∀ j, j < t → S' j = S j
  | none => ∃ S', g = some (some (qI (nZ 0)), hsA h 38 S')
theorem RR_some {h : QH} {o : Option Int} {t : Nat} {S : Nat → Int32} {g : QO} {k : (Nat → Int32) → QO} (r : RR h o t S g k) {x : Int} (e : o = some x) : ∃ S', g = k S' ∧ S' t = iZ x ∧ ∀ j, j < t → S' j = S j := by
  rw [e] at r
  exact r
theorem RR_none {h : QH} {o : Option Int} {t : Nat} {S : Nat → Int32} {g : QO} {k : (Nat → Int32) → QO} (r : RR h o t S g k) (e : o = none) : ∃ S', g = some (some (qI (nZ 0)), hsA h 38 S') := by
  rw [e] at r
  exact r
theorem RR_mk {h : QH} {o : Option Int} {t : Nat} {S : Nat → Int32} {g : QO} {k : (Nat → Int32) → QO} (hs : ∀ x, o = some x → ∃ S', g = k S' ∧ S' t = iZ x ∧ ∀ j, j < t → S' j = S j) (hn : o = none → ∃ S', g = some (some (qI (nZ 0)), hsA h 38 S')) : RR h o t S g k := by
  cases o with
  | none => exact hn rfl
  | some x => exact hs x rfl
/-- first one run, then the other, which stands on the first one's value -/
theorem RR_seq {h : QH} {o o2 : Option Int} {t : Nat} {S : Nat → Int32} {g : QO} {k k2 : (Nat → Int32) → QO} (r : RR h o t S g k) (hn : o = none → o2 = none) (r2 : ∀ x S', o = some x → S' t = iZ x → RR h o2 t S' (k S') k2) : RR h o2 t S g k2 := by
  cases e : o with
  | none =>
    have e2 := hn e
    rw [e2]
    exact RR_none r e
  | some x =>
    obtain ⟨S', h1, h2, h3⟩ := RR_some r e
    rw [h1]
    refine RR_mk ?_ ?_
    · intro y hy
      obtain ⟨S2, g1, g2, g3⟩ := RR_some (r2 x S' e h2) hy
      exact ⟨S2, g1, g2, fun j hj => (g3 j hj).trans (h3 j hj)⟩
    · intro hy
      exact RR_none (r2 x S' e h2) hy
theorem sm_b01 {o : Option Int} (h : b01 o) : sm o := fun x hx => by
  have := h x hx
  omega
/-- a rest of the same meaning none stays none -/
def restS (s : Nat) : Prop := s = 2 ∨ s = 4 ∨ s = 7 ∨ s = 9
theorem den_none {C V : Nat → Nat} {N : Nat} {q : Nat → Int} : ∀ f s pos lv dp z ng acc p lv' cs dn, P C V N f s pos lv dp z ng acc = .inr (p, lv', cs, dn) → s = 2 ∨ s = 4 ∨ s = 7 ∨ s = 9 → acc q = none → dn q = none := by
  intro f
  induction f with
  | zero =>
    intro s pos lv dp z ng acc p lv' cs dn e
    cases e
  | succ f ih =>
    intro s pos lv dp z ng acc p lv' cs dn e hs ha
    rcases hs with r | r | r | r <;> subst r
    · rw [P_2] at e
      split at e
      · obtain ⟨p1, lv1, cs1, dn1, e1, e2⟩ := rdB_inr e
        obtain ⟨p2, lv2, cs2, dn2, e3, e4⟩ := rdB_inr e2
        cases e4
        refine ih 2 _ _ _ _ _ _ _ _ _ _ e3 (by decide) ?_
        split
        · unfold dMul
          rw [ha]
          rfl
        · unfold dDiv
          rw [ha]
          rfl
      · cases e
        exact ha
    · rw [P_4] at e
      split at e
      · obtain ⟨p1, lv1, cs1, dn1, e1, e2⟩ := rdB_inr e
        obtain ⟨p2, lv2, cs2, dn2, e3, e4⟩ := rdB_inr e2
        cases e4
        refine ih 4 _ _ _ _ _ _ _ _ _ _ e3 (by decide) ?_
        split
        · unfold dAdd
          rw [ha]
          rfl
        · unfold dSub
          rw [ha]
          rfl
      · cases e
        exact ha
    · rw [P_7] at e
      split at e
      · obtain ⟨p1, lv1, cs1, dn1, e1, e2⟩ := rdB_inr e
        obtain ⟨p2, lv2, cs2, dn2, e3, e4⟩ := rdB_inr e2
        cases e4
        refine ih 7 _ _ _ _ _ _ _ _ _ _ e3 (by decide) ?_
        unfold dAnd
        rw [ha]
        rfl
      · cases e
        exact ha
    · rw [P_9] at e
      split at e
      · obtain ⟨p1, lv1, cs1, dn1, e1, e2⟩ := rdB_inr e
        obtain ⟨p2, lv2, cs2, dn2, e3, e4⟩ := rdB_inr e2
        cases e4
        refine ih 9 _ _ _ _ _ _ _ _ _ _ e3 (by decide) ?_
        unfold dOr
        rw [ha]
        rfl
      · cases e
        exact ha
/-- one step joins x at t and y behind it -/
theorem v_joinR {h : QH} {a w n : Nat} {stp q : Nat → Nat} (X : VX h a w n stp q) (d e pc t k : Nat) (x y : Int) (S : Nat → Int32) (he : e ≤ n) (hpc : pc < e) (ht : t < 51) (hk : 23 ≤ k ∧ k ≤ 29) (hs : stp pc = k) (ex : S t = iZ x) (ey : S (t + 1) = iZ y) (hx : -1000000000 ≤ x ∧ x ≤ 1000000000) (hy : -1000000000 ≤ y ∧ y ≤ 1000000000) : RR h (jv k x y) t S (vG d h a e pc (t + 2) S) (fun S' => vG d h a e (pc + 1) (t + 1) S') := by
  rw [v_join X d e pc t k x y S he hpc ht hk hs ex ey hx hy]
  cases jv k x y with
  | none => exact ⟨S, rfl⟩
  | some c => exact ⟨_, rfl, upS_at, fun j hj => upS_ne (by omega)⟩
theorem bind2_jv {a b : Option Int} {k : Nat} {f : Int → Int → Option Int} (hf : ∀ x y, f x y = jv k x y) {x y : Int} (ha : a = some x) (hb : b = some y) : (a.bind fun x => b.bind fun y => f x y) = jv k x y := by
  rw [ha, hb]
  exact hf x y
/-- acc at t, then another value at t + 1, then a sign that joins them -/
theorem RR_two {h : QH} {a w n : Nat} {stp q : Nat → Nat} (X : VX h a w n stp q) (d e pc2 t k : Nat) (S : Nat → Int32) {oa ob oc : Option Int} {g : QO} {x : Int} (ea : oa = some x) (ex : S t = iZ x) (hx : -1000000000 ≤ x ∧ x ≤ 1000000000) (hsm : sm ob) (rb : RR h ob (t + 1) S g (fun S' => vG d h a e pc2 (t + 2) S')) (he : e ≤ n) (hpc : pc2 < e) (ht : t < 51) (hk : 23 ≤ k ∧ k ≤ 29) (hs : stp pc2 = k) {f : Int → Int → Option Int} (hf : ∀ x y, f x y = jv k x y) (hoc : oc = oa.bind fun x => ob.bind fun y => f x y) : RR h oc t S g (fun S' => vG d h a e (pc2 + 1) (t + 1) S') := by
  cases eb : ob with
  | none =>
    have : oc = none := by
      rw [hoc, ea, eb]
      rfl
    rw [this]
    exact RR_none rb eb
  | some y =>
    obtain ⟨S', h1, h2, h3⟩ := RR_some rb eb
    have e2 : oc = jv k x y := by
      rw [hoc]
      exact bind2_jv hf ea eb
    rw [h1, e2]
    have r := v_joinR X d e pc2 t k x y S' he hpc ht hk hs ((h3 t (by omega)).trans ex) h2 hx (hsm y eb)
    refine RR_mk ?_ ?_
    · intro c hc
      obtain ⟨S2, g1, g2, g3⟩ := RR_some r hc
      exact ⟨S2, g1, g2, fun j hj => (g3 j hj).trans (h3 j (by omega))⟩
    · intro hc
      exact RR_none r hc
/-- turned or not -/
theorem RR_turn {h : QH} {a w n : Nat} {stp q : Nat → Nat} (X : VX h a w n stp q) (d e pc t ng : Nat) (S : Nat → Int32) {dn : Den} {qq : Nat → Int} {g : QO} (r : RR h (dn qq) t S g (fun S' => vG d h a e pc (t + 1) S')) (hng : ng < 2) (he : e ≤ n) (hpc : pc + (if ng = 1 then [7] else []).length ≤ e) (ht : t < 52) (hs : AtS stp pc (if ng = 1 then [7] else [])) : RR h ((if ng = 1 then dNot dn else dn) qq) t S g (fun S' => vG d h a e (pc + (if ng = 1 then [7] else []).length) (t + 1) S') := by
  by_cases c : ng = 1
  · rw [if_pos c] at hs hpc ⊢
    rw [if_pos c]
    have hp : pc < e := by
      simp only [List.length_cons, List.length_nil] at hpc
      omega
    refine RR_seq r ?_ ?_
    · intro hn
      unfold dNot
      rw [hn]
      rfl
    · intro x S' hx hS
      unfold dNot
      rw [hx, v_not X d e pc t x S' he hp ht hs.1 hS]
      exact ⟨_, rfl, upS_at, fun j hj => upS_ne (by omega)⟩
  · rw [if_neg c] at hs hpc ⊢
    rw [if_neg c]
    exact r

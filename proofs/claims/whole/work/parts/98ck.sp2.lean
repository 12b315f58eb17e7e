/-! a day of showing, by parts -/
abbrev tb (S : Nat) : Set8 := fun i => S.testBit i
def wm (W : Nat → Nat) (a E y K p : Nat) : Set8 := fun q => E.testBit q && (!K.testBit q && ((W (32 + p)).testBit q && (!(W (4 * q + 3)).testBit y && decide (W (40 + 4 * a) ≤ W (4 * q + 2)))))
def tl (W : Nat → Nat) (y K p : Nat) : Bool := K.testBit p && !(W (4 * p + 3)).testBit y
def cp (W : Nat → Nat) (a p : Nat) : Nat := W (4 * p + 2) / W (40 + 4 * a) * W (41 + 4 * a)
def rr (W : Nat → Nat) (a E y K : Nat) : Nat → Set8 → Nat
  | 0, _ => 0
  | p + 1, X => if tl W y K p = true then rPlus (rr W a E y K p) (wm W a E y K p) (cp W a p) X else rr W a E y K p X
theorem Rk_rr {W : Nat → Nat} {a E y K : Nat} : ∀ n, Rk (rr W a E y K n)
  | 0 => ⟨rfl, fun _ _ _ => Nat.le_refl 0, fun _ _ => Nat.le_refl 0⟩
  | n + 1 => by
    have ih := Rk_rr (W := W) (a := a) (E := E) (y := y) (K := K) n
    by_cases c : tl W y K n = true
    · have e : rr W a E y K (n + 1) = rPlus (rr W a E y K n) (wm W a E y K n) (cp W a n) := by
        funext X
        show (if _ then _ else _) = _
        rw [if_pos c]
      rw [e]
      exact ih.plus _ _
    · have e : rr W a E y K (n + 1) = rr W a E y K n := by
        funext X
        show (if _ then _ else _) = _
        rw [if_neg c]
      rw [e]
      exact ih
/-- parts given out to the first n -/
def cQ (W : Nat → Nat) (a E y K : Nat) : Nat → Set8 → Prop
  | 0, S => ∀ i, i < 8 → S i = false
  | p + 1, S => cQ W a E y K p S ∨ (tl W y K p = true ∧ ∃ P : Set8, (∃ i, i < 8 ∧ P i = true) ∧ (∀ i, i < 8 → P i = true → S i = true ∧ wm W a E y K p i = true) ∧ card8 P ≤ cp W a p ∧ cQ W a E y K p (fun i => S i && !P i))
theorem cQ_Hl {W : Nat → Nat} {a E y K : Nat} : ∀ n S, cQ W a E y K n S ↔ Hl (rr W a E y K n) S
  | 0, S => by
    constructor
    · intro h X hX
      apply Nat.le_of_not_lt
      intro c
      obtain ⟨i, hi, z⟩ := cN_pos (P := X) 8 (fun e => by
        unfold card8 at c
        rw [e] at c
        exact absurd c (Nat.lt_irrefl 0))
      have := hX i hi z
      rw [h i hi] at this
      cases this
    · intro h i hi
      cases c : S i
      · rfl
      · have h1 := h S (fun _ _ z => z)
        have h2 := cN_one (P := S) c 8 hi
        have h3 : rr W a E y K 0 S = 0 := rfl
        unfold card8 at h1
        omega
  | n + 1, S => by
    have ih := cQ_Hl (W := W) (a := a) (E := E) (y := y) (K := K) n
    by_cases c : tl W y K n = true
    · have e : rr W a E y K (n + 1) = rPlus (rr W a E y K n) (wm W a E y K n) (cp W a n) := by
        funext X
        show (if _ then _ else _) = _
        rw [if_pos c]
      rw [e, hl_plus (Rk_rr n)]
      constructor
      · intro h
        rcases h with h | ⟨_, P, _, p2, p3, p4⟩
        · refine ⟨fun _ => false, fun i hi z => (by cases z), ?_, ?_⟩
          · exact Nat.zero_le _
          · exact ((ih S).1 h).mono (fun i hi z => by
              have z1 : S i = true := by simpa using z
              exact z1)
        · exact ⟨P, p2, p3, (ih _).1 p4⟩
      · rintro ⟨P, p2, p3, p4⟩
        by_cases cP : ∃ i, i < 8 ∧ P i = true
        · exact Or.inr ⟨c, P, cP, p2, p3, (ih _).2 p4⟩
        · left
          apply (ih S).2
          exact p4.mono (fun i hi z => by
            show (S i && !P i) = true
            have : P i = false := by
              cases q : P i
              · rfl
              · exact absurd ⟨i, hi, q⟩ cP
            rw [z, this]
            rfl)
    · have e : rr W a E y K (n + 1) = rr W a E y K n := by
        funext X
        show (if _ then _ else _) = _
        rw [if_neg c]
      rw [e, ← ih S]
      constructor
      · intro h
        rcases h with h | h
        · exact h
        · exact absurd h.1 c
      · intro h
        exact Or.inl h
theorem rr_ext {W : Nat → Nat} {a E y K n : Nat} (h : ∀ p, n ≤ p → tl W y K p = false) : ∀ m, rr W a E y K (n + m) = rr W a E y K n
  | 0 => rfl
  | m + 1 => by
    have ih := rr_ext (a := a) (E := E) h m
    funext X
    show (if tl W y K (n + m) = true then _ else _) = _
    rw [if_neg (by rw [h (n + m) (by omega)]; decide)]
    exact congrFun ih X
/-- sets out of numbers -/
theorem mk8 (C : Set8) : ∃ m, m < 256 ∧ ∀ i, i < 8 → m.testBit i = C i := by
  have key : ∀ c0 c1 c2 c3 c4 c5 c6 c7 : Bool, c0.toNat + 2 * c1.toNat + 4 * c2.toNat + 8 * c3.toNat + 16 * c4.toNat + 32 * c5.toNat + 64 * c6.toNat + 128 * c7.toNat < 256 ∧ (c0.toNat + 2 * c1.toNat + 4 * c2.toNat + 8 * c3.toNat + 16 * c4.toNat + 32 * c5.toNat + 64 * c6.toNat + 128 * c7.toNat).testBit 0 = c0 ∧ (c0.toNat + 2 * c1.toNat + 4 * c2.toNat + 8 * c3.toNat + 16 * c4.toNat + 32 * c5.toNat + 64 * c6.toNat + 128 * c7.toNat).testBit 1 = c1 ∧ (c0.toNat + 2 * c1.toNat + 4 * c2.toNat + 8 * c3.toNat + 16 * c4.toNat + 32 * c5.toNat + 64 * c6.toNat + 128 * c7.toNat).testBit 2 = c2 ∧ (c0.toNat + 2 * c1.toNat + 4 * c2.toNat + 8 * c3.toNat + 16 * c4.toNat + 32 * c5.toNat + 64 * c6.toNat + 128 * c7.toNat).testBit 3 = c3 ∧ (c0.toNat + 2 * c1.toNat + 4 * c2.toNat + 8 * c3.toNat + 16 * c4.toNat + 32 * c5.toNat + 64 * c6.toNat + 128 * c7.toNat).testBit 4 = c4 ∧ (c0.toNat + 2 * c1.toNat + 4 * c2.toNat + 8 * c3.toNat + 16 * c4.toNat + 32 * c5.toNat + 64 * c6.toNat + 128 * c7.toNat).testBit 5 = c5 ∧ (c0.toNat + 2 * c1.toNat + 4 * c2.toNat + 8 * c3.toNat + 16 * c4.toNat + 32 * c5.toNat + 64 * c6.toNat + 128 * c7.toNat).testBit 6 = c6 ∧ (c0.toNat + 2 * c1.toNat + 4 * c2.toNat + 8 * c3.toNat + 16 * c4.toNat + 32 * c5.toNat + 64 * c6.toNat + 128 * c7.toNat).testBit 7 = c7 := by decide +kernel
  obtain ⟨h, k0, k1, k2, k3, k4, k5, k6, k7⟩ := key (C 0) (C 1) (C 2) (C 3) (C 4) (C 5) (C 6) (C 7)
  refine ⟨_, h, fun i hi => ?_⟩
  have : i = 0 ∨ i = 1 ∨ i = 2 ∨ i = 3 ∨ i = 4 ∨ i = 5 ∨ i = 6 ∨ i = 7 := by omega
  rcases this with e | e | e | e | e | e | e | e <;> subst e <;> assumption
theorem tb_hi {m i : Nat} (h : m < 256) (hi : 8 ≤ i) : m.testBit i = false := by
  apply Nat.testBit_lt_two_pow
  have : 2 ^ 8 ≤ 2 ^ i := Nat.pow_le_pow_right (by decide) hi
  omega
theorem tb_eq {m k : Nat} (hm : m < 256) (hk : k < 256) (e : ∀ i, i < 8 → m.testBit i = k.testBit i) : m = k := by
  apply Nat.eq_of_testBit_eq
  intro i
  by_cases c : i < 8
  · exact e i c
  · rw [tb_hi hm (by omega), tb_hi hk (by omega)]
theorem card8_le (X : Set8) : card8 X ≤ 8 := cN_le 8
theorem card8_c {X Y : Set8} (e : ∀ i, i < 8 → X i = Y i) : card8 X = card8 Y := cN_congr 8 e
theorem Hl.c {r : Set8 → Nat} {X Y : Set8} (h : Hl r X) (e : ∀ i, i < 8 → Y i = X i) : Hl r Y := h.mono (fun i hi z => by rw [← e i hi]; exact z)
/-- can be shown in a day -/
def fit (W : Nat → Nat) (a E y K S : Nat) : Prop := Hl (rr W a E y K 8) (tb S)
/-- and no more can be -/
def isM (W : Nat → Nat) (a E y K S : Nat) : Prop := S < 256 ∧ fit W a E y K S ∧ ∀ S', S' < 256 → fit W a E y K S' → card8 (tb S') ≤ card8 (tb S)
theorem fit_0 {W : Nat → Nat} {a E y K : Nat} : fit W a E y K 0 := fun X hX => by
  have : card8 X = 0 := by
    have e : card8 X = card8 (fun _ => false) := card8_c (fun i hi => by
      cases c : X i
      · rfl
      · have := hX i hi c
        simp at this)
    rw [e]
    rfl
  omega
/-- any that can be shown lies in one of the most -/
theorem isM_ext {W : Nat → Nat} {a E y K A : Nat} (hA : fit W a E y K A) : ∃ S, isM W a E y K S ∧ ∀ i, i < 8 → A.testBit i = true → S.testBit i = true := by
  have step : ∀ k S, S < 256 → fit W a E y K S → 8 ≤ card8 (tb S) + k → ∃ T, isM W a E y K T := by
    intro k
    induction k with
    | zero =>
      intro S h1 h2 h3
      exact ⟨S, h1, h2, fun S' _ _ => Nat.le_trans (card8_le _) h3⟩
    | succ k ih =>
      intro S h1 h2 h3
      by_cases c : ∀ S', S' < 256 → fit W a E y K S' → card8 (tb S') ≤ card8 (tb S)
      · exact ⟨S, h1, h2, c⟩
      · have : ∃ S', S' < 256 ∧ fit W a E y K S' ∧ card8 (tb S) < card8 (tb S') := by
          apply Classical.byContradiction
          intro w
          apply c
          intro S' q1 q2
          apply Nat.le_of_not_lt
          intro q3
          exact w ⟨S', q1, q2, q3⟩
        obtain ⟨S', q1, q2, q3⟩ := this
        exact ih S' q1 q2 (by omega)
  obtain ⟨B, b1, b2, b3⟩ := step 8 0 (by decide) fit_0 (by omega)
  obtain ⟨C, c1, c2, c3, c4⟩ := hl_ext (Rk_rr 8) hA b2
  obtain ⟨m, m1, m2⟩ := mk8 C
  refine ⟨m, ⟨m1, c3.c m2, fun S' q1 q2 => ?_⟩, fun i hi z => ?_⟩
  · have e : card8 (tb m) = card8 C := card8_c m2
    rw [e]
    exact Nat.le_trans (b3 S' q1 q2) c4
  · rw [m2 i hi]
    exact c1 i hi z
theorem isM_ex {W : Nat → Nat} {a E y K : Nat} : ∃ S, isM W a E y K S := by
  obtain ⟨S, h, _⟩ := isM_ext (fit_0 (W := W) (a := a) (E := E) (y := y) (K := K))
  exact ⟨S, h⟩
/-- one who can be shown is open -/
theorem fit_in {W : Nat → Nat} {a E y K S i : Nat} (h : fit W a E y K S) (hi : i < 8) (b : S.testBit i = true) : ∃ p, p < 8 ∧ tl W y K p = true ∧ wm W a E y K p i = true ∧ 1 ≤ cp W a p := by
  have h1 := h (fun j => j == i) (fun j hj z => by
    have : j = i := by simpa using z
    rw [this]
    exact b)
  have h2 : 1 ≤ card8 (fun j => j == i) := cN_one (i := i) (by simp) 8 hi
  have key : ∀ n, rr W a E y K n (fun j => j == i) ≠ 0 → ∃ p, p < n ∧ tl W y K p = true ∧ wm W a E y K p i = true ∧ 1 ≤ cp W a p := by
    intro n
    induction n with
    | zero => intro z; exact absurd rfl z
    | succ n ih =>
      intro z
      by_cases c : tl W y K n = true
      · have e : rr W a E y K (n + 1) (fun j => j == i) = rPlus (rr W a E y K n) (wm W a E y K n) (cp W a n) (fun j => j == i) := by
          show (if _ then _ else _) = _
          rw [if_pos c]
        rw [e] at z
        unfold rPlus at z
        by_cases c2 : rr W a E y K n (fun j => j == i) = 0
        · rw [c2] at z
          split at z
          · next w =>
            obtain ⟨j, hj, q⟩ := cN_pos 8 w
            have q1 : wm W a E y K n j = true ∧ j = i := by simpa using q
            refine ⟨n, by omega, c, ?_, by omega⟩
            rw [← q1.2]
            exact q1.1
          · exact absurd rfl z
        · obtain ⟨p, p1, p2⟩ := ih c2
          exact ⟨p, by omega, p2⟩
      · have e : rr W a E y K (n + 1) (fun j => j == i) = rr W a E y K n (fun j => j == i) := by
          show (if _ then _ else _) = _
          rw [if_neg c]
        rw [e] at z
        obtain ⟨p, p1, p2⟩ := ih z
        exact ⟨p, by omega, p2⟩
  exact key 8 (by omega)

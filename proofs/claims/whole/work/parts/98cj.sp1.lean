/-! rooms and parts (Hall) -/
abbrev Set8 : Type := Nat → Bool
def card8 (X : Set8) : Nat := cN X 8
def sub8 (X Y : Set8) : Prop := ∀ i, i < 8 → X i = true → Y i = true
theorem cN_mono {P Q : Nat → Bool} : ∀ n, (∀ i, i < n → P i = true → Q i = true) → cN P n ≤ cN Q n
  | 0, _ => Nat.le_refl 0
  | n + 1, e => by
    have ih := cN_mono n (fun i hi => e i (by omega))
    have en := e n (by omega)
    unfold cN
    cases hp : P n
    · split <;> split <;> first | omega | contradiction
    · rw [en hp]
      omega
theorem cN_oa {P Q : Nat → Bool} : ∀ n, cN (fun i => P i || Q i) n + cN (fun i => P i && Q i) n = cN P n + cN Q n
  | 0 => rfl
  | n + 1 => by
    have ih := cN_oa (P := P) (Q := Q) n
    have key : ∀ a b : Bool, (if (a || b) = true then 1 else 0) + (if (a && b) = true then 1 else 0) = (if a = true then 1 else 0) + (if b = true then (1 : Nat) else 0) := by decide
    have k := key (P n) (Q n)
    show cN (fun i => P i || Q i) n + (if (P n || Q n) = true then 1 else 0) + (cN (fun i => P i && Q i) n + (if (P n && Q n) = true then 1 else 0)) = cN P n + (if P n = true then 1 else 0) + (cN Q n + (if Q n = true then 1 else 0))
    omega
theorem cN_pos {P : Nat → Bool} : ∀ n, cN P n ≠ 0 → ∃ i, i < n ∧ P i = true
  | 0, h => absurd rfl h
  | n + 1, h => by
    cases hp : P n
    · unfold cN at h
      rw [hp] at h
      obtain ⟨i, h1, h2⟩ := cN_pos n (by simpa using h)
      exact ⟨i, by omega, h2⟩
    · exact ⟨n, by omega, hp⟩
theorem cN_one {P : Nat → Bool} {i : Nat} (hp : P i = true) : ∀ n, i < n → 1 ≤ cN P n
  | 0, h => by omega
  | n + 1, h => by
    unfold cN
    by_cases c : i = n
    · rw [← c, hp]
      simp
    · have := cN_one hp n (by omega)
      omega
/-- what rooms are like -/
def Rk (r : Set8 → Nat) : Prop := r (fun _ => false) = 0 ∧ (∀ X Y, sub8 X Y → r X ≤ r Y) ∧ ∀ X Y, r (fun i => X i || Y i) + r (fun i => X i && Y i) ≤ r X + r Y
def Hl (r : Set8 → Nat) (S : Set8) : Prop := ∀ X, sub8 X S → card8 X ≤ r X
theorem Hl.mono {r : Set8 → Nat} {S T : Set8} (h : Hl r T) (s : sub8 S T) : Hl r S := fun X hX => h X (fun i hi z => s i hi (hX i hi z))
theorem hl_core {r : Set8 → Nat} (R : Rk r) {A P : Set8} (dis : ∀ i, i < 8 → A i = true → P i = true → False) (hA : Hl r A) (hx : ∀ x, x < 8 → P x = true → ∃ X : Set8, (∀ i, i < 8 → X i = true → A i = true ∨ i = x) ∧ r X < card8 X) : ∀ k, k ≤ 8 → ∃ U : Set8, (∀ i, i < k → P i = true → U i = true) ∧ (∀ i, i < 8 → U i = true → A i = true ∨ (P i = true ∧ i < k)) ∧ r U + cN P k ≤ card8 U
  | 0, _ => by
    refine ⟨fun _ => false, fun i hi => by omega, fun i _ z => (by cases z), ?_⟩
    rw [R.1]
    exact Nat.zero_le _
  | k + 1, hk => by
    obtain ⟨U, u1, u2, u3⟩ := hl_core R dis hA hx k (by omega)
    cases pk : P k
    · refine ⟨U, fun i hi z => ?_, fun i hi z => ?_, ?_⟩
      · by_cases c : i = k
        · rw [c, pk] at z
          cases z
        · exact u1 i (by omega) z
      · rcases u2 i hi z with c | c
        · exact Or.inl c
        · exact Or.inr ⟨c.1, by omega⟩
      · unfold cN
        rw [pk]
        simpa using u3
    · obtain ⟨X, x1, x2⟩ := hx k (by omega) pk
      have xk : X k = true := by
        cases c : X k
        · exfalso
          have := hA X (fun i hi z => by
            rcases x1 i hi z with e | e
            · exact e
            · rw [e, c] at z
              cases z)
          omega
        · rfl
      have sm := R.2.2 U X
      have ca := hA (fun i => U i && X i) (fun i hi z => by
        have z1 : U i = true ∧ X i = true := by simpa using z
        rcases x1 i hi z1.2 with e | e
        · exact e
        · rcases u2 i hi z1.1 with c | c
          · exact c
          · omega)
      have oa := cN_oa (P := U) (Q := X) 8
      refine ⟨fun i => U i || X i, fun i hi z => ?_, fun i hi z => ?_, ?_⟩
      · by_cases c : i = k
        · show (U i || X i) = true
          rw [c, xk, Bool.or_true]
        · show (U i || X i) = true
          rw [u1 i (by omega) z, Bool.true_or]
      · have z1 : U i = true ∨ X i = true := by simpa using z
        rcases z1 with e | e
        · rcases u2 i hi e with c | c
          · exact Or.inl c
          · exact Or.inr ⟨c.1, by omega⟩
        · rcases x1 i hi e with c | c
          · exact Or.inl c
          · exact Or.inr ⟨by rw [c]; exact pk, by omega⟩
      · unfold cN
        rw [pk]
        unfold card8 at *
        simp only [if_true]
        omega
/-- as many as can be added one by one -/
theorem hl_grow {r : Set8 → Nat} {B Q : Set8} (hB : Hl r B) : ∀ k, k ≤ 8 → ∃ A : Set8, sub8 B A ∧ (∀ i, i < 8 → A i = true → B i = true ∨ Q i = true) ∧ Hl r A ∧ ∀ x, x < k → Q x = true → A x = false → ∃ X : Set8, (∀ i, i < 8 → X i = true → A i = true ∨ i = x) ∧ r X < card8 X
  | 0, _ => ⟨B, fun _ _ z => z, fun _ _ z => Or.inl z, hB, fun x hx => by omega⟩
  | k + 1, hk => by
    obtain ⟨A, a1, a2, a3, a4⟩ := hl_grow hB k (by omega)
    by_cases c : Q k = true ∧ Hl r (fun i => A i || i == k)
    · refine ⟨fun i => A i || i == k, fun i hi z => ?_, fun i hi z => ?_, c.2, fun x hx q z => ?_⟩
      · show (A i || i == k) = true
        rw [a1 i hi z, Bool.true_or]
      · have z1 : A i = true ∨ i = k := by simpa using z
        rcases z1 with e | e
        · exact a2 i hi e
        · rw [e]
          exact Or.inr c.1
      · have z1 : A x = false ∧ x ≠ k := by simpa using z
        obtain ⟨X, x1, x2⟩ := a4 x (by omega) q z1.1
        refine ⟨X, fun i hi w => ?_, x2⟩
        rcases x1 i hi w with e | e
        · left
          show (A i || i == k) = true
          rw [e, Bool.true_or]
        · exact Or.inr e
    · refine ⟨A, a1, a2, a3, fun x hx q z => ?_⟩
      by_cases cx : x = k
      · subst cx
        have nh : ¬Hl r (fun i => A i || i == x) := fun w => c ⟨q, w⟩
        have ex : ∃ X, sub8 X (fun i => A i || i == x) ∧ ¬(card8 X ≤ r X) := by
          apply Classical.byContradiction
          intro w
          apply nh
          intro X hX
          apply Classical.byContradiction
          intro w2
          exact w ⟨X, hX, w2⟩
        obtain ⟨X, x1, x2⟩ := ex
        refine ⟨X, fun i hi w => ?_, by omega⟩
        have := x1 i hi w
        simpa using this
      · exact a4 x (by omega) q z
/-- any part that can be shown lies in one of the most -/
theorem hl_ext {r : Set8 → Nat} (R : Rk r) {A B : Set8} (hA : Hl r A) (hB : Hl r B) : ∃ C : Set8, sub8 A C ∧ (∀ i, i < 8 → C i = true → A i = true ∨ B i = true) ∧ Hl r C ∧ card8 B ≤ card8 C := by
  obtain ⟨C, c1, c2, c3, c4⟩ := hl_grow (Q := B) hA 8 (Nat.le_refl 8)
  refine ⟨C, c1, c2, c3, ?_⟩
  have dis : ∀ i, i < 8 → C i = true → (B i && !C i) = true → False := fun i _ h1 h2 => by
    rw [h1] at h2
    simp at h2
  obtain ⟨U, u1, u2, u3⟩ := hl_core R (A := C) (P := fun i => B i && !C i) dis c3 (fun x hx z => by
    have z1 : B x = true ∧ C x = false := by simpa using z
    exact c4 x hx z1.1 z1.2) 8 (Nat.le_refl 8)
  have y1 := hB (fun i => U i && B i) (fun i hi z => by
    have z1 : U i = true ∧ B i = true := by simpa using z
    exact z1.2)
  have y2 := R.2.1 (fun i => U i && B i) U (fun i hi z => by
    have z1 : U i = true ∧ B i = true := by simpa using z
    exact z1.1)
  have y3 := cN_oa (P := U) (Q := B) 8
  have y4 : cN (fun i => U i || B i) 8 ≤ cN (fun i => C i || B i) 8 := cN_mono 8 (fun i hi z => by
    have z1 : U i = true ∨ B i = true := by simpa using z
    show (C i || B i) = true
    rcases z1 with e | e
    · rcases u2 i hi e with c | c
      · rw [c, Bool.true_or]
      · have c' : B i = true ∧ C i = false := by simpa using c.1
        rw [c'.1, Bool.or_true]
    · rw [e, Bool.or_true])
  have y5 := cN_oa (P := C) (Q := fun i => B i && !C i) 8
  have y6 : cN (fun i => C i || (B i && !C i)) 8 = cN (fun i => C i || B i) 8 := cN_congr 8 (fun i _ => by
    cases C i <;> cases B i <;> rfl)
  have y7 : cN (fun i => C i && (B i && !C i)) 8 = 0 := by
    have : cN (fun i => C i && (B i && !C i)) 8 = cN (fun _ => false) 8 := cN_congr 8 (fun i _ => by
      cases C i <;> cases B i <;> rfl)
    rw [this]
    rfl
  unfold card8 at *
  omega
/-- one more who shows -/
def rPlus (r : Set8 → Nat) (N : Set8) (m : Nat) (X : Set8) : Nat := r X + (if cN (fun i => N i && X i) 8 ≠ 0 then m else 0)
theorem Rk.plus {r : Set8 → Nat} (R : Rk r) (N : Set8) (m : Nat) : Rk (rPlus r N m) := by
  have mono : ∀ X Y : Set8, sub8 X Y → cN (fun i => N i && X i) 8 ≤ cN (fun i => N i && Y i) 8 := fun X Y s => cN_mono 8 (fun i hi z => by
    have z1 : N i = true ∧ X i = true := by simpa using z
    show (N i && Y i) = true
    rw [z1.1, s i hi z1.2]
    rfl)
  refine ⟨?_, fun X Y s => ?_, fun X Y => ?_⟩
  · unfold rPlus
    rw [R.1]
    have : cN (fun i => N i && (fun _ => false) i) 8 = cN (fun _ => false) 8 := cN_congr 8 (fun i _ => by
      cases N i <;> rfl)
    rw [this]
    rfl
  · have h1 := R.2.1 X Y s
    have h2 := mono X Y s
    unfold rPlus
    split <;> split <;> omega
  · have h1 := R.2.2 X Y
    have h2 := mono (fun i => X i && Y i) X (fun i _ z => by
      have z1 : X i = true ∧ Y i = true := by simpa using z
      exact z1.1)
    have h3 := mono (fun i => X i && Y i) Y (fun i _ z => by
      have z1 : X i = true ∧ Y i = true := by simpa using z
      exact z1.2)
    have h4 : cN (fun i => N i && (X i || Y i)) 8 + cN (fun i => (N i && X i) && (N i && Y i)) 8 = cN (fun i => N i && X i) 8 + cN (fun i => N i && Y i) 8 := by
      rw [← cN_oa (P := fun i => N i && X i) (Q := fun i => N i && Y i) 8]
      congr 1
      exact cN_congr 8 (fun i _ => by cases N i <;> rfl)
    show r _ + (if cN (fun i => N i && (X i || Y i)) 8 ≠ 0 then m else 0) + (r _ + (if cN (fun i => N i && (X i && Y i)) 8 ≠ 0 then m else 0)) ≤ r X + (if cN (fun i => N i && X i) 8 ≠ 0 then m else 0) + (r Y + (if cN (fun i => N i && Y i) 8 ≠ 0 then m else 0))
    generalize cN (fun i => N i && (X i || Y i)) 8 = e1 at *
    generalize cN (fun i => N i && (X i && Y i)) 8 = e2 at *
    generalize cN (fun i => N i && X i) 8 = e3 at *
    generalize cN (fun i => N i && Y i) 8 = e4 at *
    split <;> split <;> split <;> split <;> omega
theorem hl_plus {r : Set8 → Nat} (R : Rk r) {N S : Set8} {m : Nat} : Hl (rPlus r N m) S ↔ ∃ P : Set8, (∀ i, i < 8 → P i = true → S i = true ∧ N i = true) ∧ card8 P ≤ m ∧ Hl r (fun i => S i && !P i) := by
  constructor
  · intro h
    have hB : Hl r (fun i => S i && !N i) := fun X hX => by
      have h1 := h X (fun i hi z => by
        have := hX i hi z
        have z1 : S i = true ∧ N i = false := by simpa using this
        exact z1.1)
      unfold rPlus at h1
      rw [if_neg] at h1
      · exact h1
      · intro w
        obtain ⟨i, hi, z⟩ := cN_pos 8 w
        have z1 : N i = true ∧ X i = true := by simpa using z
        have := hX i hi z1.2
        have z2 : S i = true ∧ N i = false := by simpa using this
        rw [z1.1] at z2
        cases z2.2
    obtain ⟨A, a1, a2, a3, a4⟩ := hl_grow (Q := S) hB 8 (Nat.le_refl 8)
    have aS : ∀ i, i < 8 → A i = true → S i = true := fun i hi z => by
      rcases a2 i hi z with e | e
      · have z1 : S i = true ∧ N i = false := by simpa using e
        exact z1.1
      · exact e
    have pN : ∀ i, i < 8 → (S i && !A i) = true → S i = true ∧ N i = true := fun i hi z => by
      have z1 : S i = true ∧ A i = false := by simpa using z
      refine ⟨z1.1, ?_⟩
      cases c : N i
      · have := a1 i hi (by
          show (S i && !N i) = true
          rw [z1.1, c]
          rfl)
        rw [z1.2] at this
        cases this
      · rfl
    have dis : ∀ i, i < 8 → A i = true → (S i && !A i) = true → False := fun i _ h1 h2 => by
      rw [h1] at h2
      simp at h2
    obtain ⟨U, u1, u2, u3⟩ := hl_core R (A := A) (P := fun i => S i && !A i) dis a3 (fun x hx z => by
      have z1 : S x = true ∧ A x = false := by simpa using z
      exact a4 x hx z1.1 z1.2) 8 (Nat.le_refl 8)
    refine ⟨fun i => S i && !A i, pN, ?_, a3.mono (fun i hi z => ?_)⟩
    · by_cases c0 : cN (fun i => S i && !A i) 8 = 0
      · unfold card8
        rw [c0]
        exact Nat.zero_le m
      · obtain ⟨i, hi, z⟩ := cN_pos 8 c0
        have h1 := h U (fun j hj w => by
          rcases u2 j hj w with e | e
          · exact aS j hj e
          · have e1 : S j = true ∧ A j = false := by simpa using e.1
            exact e1.1)
        unfold rPlus at h1
        rw [if_pos] at h1
        · unfold card8 at *
          omega
        · have w := cN_one (P := fun i => N i && U i) (i := i) (by
            show (N i && U i) = true
            rw [(pN i hi z).2, u1 i hi z]
            rfl) 8 hi
          omega
    · have z1 : S i = true ∧ (S i = false ∨ A i = true) := by simpa using z
      rcases z1.2 with e | e
      · rw [z1.1] at e
        cases e
      · exact e
  · rintro ⟨P, p1, p2, p3⟩ X hX
    have h1 := p3 (fun i => X i && !P i) (fun i hi z => by
      have z1 : X i = true ∧ P i = false := by simpa using z
      show (S i && !P i) = true
      rw [hX i hi z1.1, z1.2]
      rfl)
    have h2 := R.2.1 (fun i => X i && !P i) X (fun i hi z => by
      have z1 : X i = true ∧ P i = false := by simpa using z
      exact z1.1)
    have h3 := cN_oa (P := fun i => X i && P i) (Q := fun i => X i && !P i) 8
    have h4 : cN (fun i => (X i && P i) || (X i && !P i)) 8 = cN X 8 := cN_congr 8 (fun i _ => by
      cases X i <;> cases P i <;> rfl)
    have h5 : cN (fun i => X i && P i) 8 ≤ cN P 8 := cN_mono 8 (fun i hi z => by
      have z1 : X i = true ∧ P i = true := by simpa using z
      exact z1.2)
    have h6 : cN (fun i => X i && P i) 8 ≤ cN (fun i => N i && X i) 8 := cN_mono 8 (fun i hi z => by
      have z1 : X i = true ∧ P i = true := by simpa using z
      show (N i && X i) = true
      rw [(p1 i hi z1.2).2, z1.1]
      rfl)
    unfold rPlus
    unfold card8 at *
    split <;> omega

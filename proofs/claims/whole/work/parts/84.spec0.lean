/-! ===== answers yes and no; numbers in a range ===== -/
def bI (p : Prop) [Decidable p] : Int32 := if p then nZ 1 else nZ 0
theorem bI_t {p : Prop} [Decidable p] (h : p) : bI p = nZ 1 := if_pos h
theorem bI_f {p : Prop} [Decidable p] (h : ¬p) : bI p = nZ 0 := if_neg h
theorem bI_0 {p : Prop} [Decidable p] : (bI p = nZ 0) = ¬p := by
  unfold bI
  by_cases h : p
  · rw [if_pos h]
    exact propext ⟨fun e => absurd e (by decide), fun n => absurd h n⟩
  · rw [if_neg h]
    exact propext ⟨fun _ => h, fun _ => rfl⟩
theorem bI_1 {p : Prop} [Decidable p] : (bI p = nZ 1) = p := by
  unfold bI
  by_cases h : p
  · rw [if_pos h]
    exact propext ⟨fun _ => h, fun _ => rfl⟩
  · rw [if_neg h]
    exact propext ⟨fun e => absurd e (by decide), fun n => absurd n h⟩
/-- x is one of 0 .. n - 1 -/
abbrev ltN (x : Int32) (n : Nat) : Prop := 0 ≤ x.toInt ∧ x.toInt < n
abbrev inR (x : Int32) (lo hi : Nat) : Prop := lo ≤ x.toInt ∧ x.toInt ≤ hi
theorem ltN_ex {x : Int32} {n : Nat} (h : ltN x n) : ∃ m, m < n ∧ x = nZ m := by
  have h0 : (0 : Int32) ≤ x := by
    rw [Int32.le_iff_toInt_le]
    exact h.1
  refine ⟨x.toNatClampNeg, ?_, (Int32.ofNat_toNatClampNeg x h0).symm⟩
  have := Int32.toInt_eq_toNatClampNeg h0
  have := h.2
  omega
theorem inR_ex {x : Int32} {lo hi : Nat} (h : inR x lo hi) : ∃ m, lo ≤ m ∧ m ≤ hi ∧ x = nZ m := by
  have h0 : (0 : Int32) ≤ x := by
    rw [Int32.le_iff_toInt_le]
    have := h.1
    show (0 : Int) ≤ _
    omega
  have e := Int32.toInt_eq_toNatClampNeg h0
  obtain ⟨h1, h2⟩ := h
  refine ⟨x.toNatClampNeg, ?_, ?_, (Int32.ofNat_toNatClampNeg x h0).symm⟩ <;> omega
theorem ltN_n {m n : Nat} (hm : m < 2147483648) : ltN (nZ m) n = (m < n) := by
  unfold ltN
  rw [nZ_int hm]
  apply propext
  omega
theorem inR_n {m lo hi : Nat} (hm : m < 2147483648) : inR (nZ m) lo hi = (lo ≤ m ∧ m ≤ hi) := by
  unfold inR
  rw [nZ_int hm]
  apply propext
  omega
theorem lt_nZ {x : Int32} {n : Nat} (hn : n < 2147483648) : (x < nZ n) = (x.toInt < n) := by
  rw [← nZ_int hn]
  exact propext Int32.lt_iff_toInt_lt
theorem nZ_lt' {x : Int32} {n : Nat} (hn : n < 2147483648) : (nZ n < x) = ((n : Int) < x.toInt) := by
  rw [← nZ_int hn]
  exact propext Int32.lt_iff_toInt_lt
theorem hI_ne {h : QH} {a i : Nat} {v : Int32} {b j : Nat} (e : b ≠ a ∨ j ≠ i) : hI (hsI h a i v) b j = hI h b j := by
  rw [hI_si, if_neg]
  intro z
  omega
theorem hI_at {h : QH} {a i : Nat} {v : Int32} {j : Nat} (e : j = i) : hI (hsI h a i v) a j = v := by
  rw [hI_si, if_pos ⟨rfl, e⟩]
theorem hA_ne {h : QH} {a : Nat} {f : Nat → Int32} {b j : Nat} (e : b ≠ a) : hI (hsA h a f) b j = hI h b j := by
  rw [hI_sA, if_neg e]
theorem hA_at {h : QH} {a : Nat} {f : Nat → Int32} {j : Nat} : hI (hsA h a f) a j = f j := by
  rw [hI_sA, if_pos rfl]
theorem ro00 {h : QH} (H : Ro h) : hI h 0 0 = nZ 9 := H 0 (by decide) 0
theorem ro01 {h : QH} (H : Ro h) : hI h 0 1 = nZ 9 := H 0 (by decide) 1
theorem ro02 {h : QH} (H : Ro h) : hI h 0 2 = nZ 12 := H 0 (by decide) 2
theorem ro03 {h : QH} (H : Ro h) : hI h 0 3 = nZ 1073741823 := H 0 (by decide) 3
theorem ro10 {h : QH} (H : Ro h) : hI h 1 0 = nZ 1 := H 1 (by decide) 0
theorem ro11 {h : QH} (H : Ro h) : hI h 1 1 = nZ 1 := H 1 (by decide) 1
theorem ro12 {h : QH} (H : Ro h) : hI h 1 2 = nZ 1 := H 1 (by decide) 2
theorem ro13 {h : QH} (H : Ro h) : hI h 1 3 = nZ 0 := H 1 (by decide) 3
theorem ro20 {h : QH} (H : Ro h) : hI h 2 0 = nZ 6 := H 2 (by decide) 0
theorem ro21 {h : QH} (H : Ro h) : hI h 2 1 = nZ 3 := H 2 (by decide) 1
theorem ro22 {h : QH} (H : Ro h) : hI h 2 2 = nZ 9 := H 2 (by decide) 2
theorem ro23 {h : QH} (H : Ro h) : hI h 2 3 = nZ 31 := H 2 (by decide) 3
/-! ===== small methods of both ===== -/
theorem y_if {p : Prop} [Decidable p] {h : QH} (q : Prop) [Decidable q] (e : p ↔ q) : (if p then some (some (qI (nZ 1)), h) else some (some (qI (nZ 0)), h) : QO) = some (some (qI (bI q)), h) := by
  by_cases hp : p
  · rw [if_pos hp, bI_t (e.1 hp)]
  · rw [if_neg hp, bI_f (fun z => hp (e.2 z))]
theorem n_if {p : Prop} [Decidable p] {h : QH} (q : Prop) [Decidable q] (e : p ↔ ¬q) : (if p then some (some (qI (nZ 0)), h) else some (some (qI (nZ 1)), h) : QO) = some (some (qI (bI q)), h) := by
  by_cases hp : p
  · rw [if_pos hp, bI_f (e.1 hp)]
  · rw [if_neg hp, bI_t (Decidable.byContradiction fun z => hp (e.2 z))]
theorem if_and {α : Type} {p q : Prop} [Decidable p] [Decidable q] {x y : α} : (if ¬p then x else if ¬q then x else y) = if p ∧ q then y else x := by
  by_cases hp : p <;> by_cases hq : q <;> simp [hp, hq]
theorem bI_iff {p q : Prop} [Decidable p] [Decidable q] (e : p ↔ q) : bI p = bI q := by
  by_cases hp : p
  · rw [bI_t hp, bI_t (e.1 hp)]
  · rw [bI_f hp, bI_f (fun z => hp (e.2 z))]
theorem bit_eq {x k : Nat} : (x >>> k) &&& 1 = if x.testBit k then 1 else 0 := by
  rw [Nat.testBit_eq_decide_div_mod_eq, Nat.and_one_is_mod, Nat.shiftRight_eq_div_pow]
  by_cases e : x / 2 ^ k % 2 = 1
  · rw [e, if_pos (by simp)]
  · rw [if_neg (by simpa using e)]
    omega
theorem em_b {p : Prop} [Decidable p] : (¬p ∨ p) = True := eq_true (by
  by_cases h : p
  · exact Or.inr h
  · exact Or.inl h)
theorem inR_lt {x : Int32} {n : Nat} (h : 1 ≤ n) : inR x 0 (n - 1) = ltN x n := by
  apply propext
  unfold inR ltN
  omega

theorem okblk (b n : Nat) (h : ((List.range n).all fun k => okC (b + k)) = true) {m : Nat} (h1 : b ≤ m) (h2 : m < b + n) : okC m = true := by
  have := List.all_eq_true.mp h (m - b) (List.mem_range.mpr (by omega))
  rw [show b + (m - b) = m by omega] at this
  exact this
theorem okblM (b n : Nat) (h : ((List.range n).all fun k => okM (b + k)) = true) {m : Nat} (h1 : b ≤ m) (h2 : m < b + n) : okM m = true := by
  have := List.all_eq_true.mp h (m - b) (List.mem_range.mpr (by omega))
  rw [show b + (m - b) = m by omega] at this
  exact this
theorem okcut {α : Type} (p : α → Bool) (L : List α) (n : Nat) (h1 : (L.take n).all p = true) (h2 : (L.drop n).all p = true) : L.all p = true := by
  have e := List.take_append_drop n L
  rw [← e, List.all_append, h1, h2]; rfl
theorem okcutD {α : Type} (p : α → Bool) (L : List α) (a n b : Nat) (hb : n + a = b) (h1 : ((L.drop a).take n).all p = true) (h2 : (L.drop b).all p = true) : (L.drop a).all p = true := by
  apply okcut p _ n h1
  rw [List.drop_drop]
  rw [show a + n = b by omega]; exact h2
noncomputable def okP (m : Nat) (c : Nat × List (Nat × QE)) : Bool := c.2.all (okT m)
theorem okc0_0 : (((qcode 0).drop 0).take 2).all (okP 0) = true := by decide +kernel
theorem okc0_1 : (((qcode 0).drop 2).take 2).all (okP 0) = true := by decide +kernel
theorem okc0_2 : (((qcode 0).drop 4).take 2).all (okP 0) = true := by decide +kernel
theorem okc0_3 : (((qcode 0).drop 6).take 2).all (okP 0) = true := by decide +kernel
theorem okc0_4 : (((qcode 0).drop 8).take 2).all (okP 0) = true := by decide +kernel
theorem okc0_5 : (((qcode 0).drop 10).take 2).all (okP 0) = true := by decide +kernel

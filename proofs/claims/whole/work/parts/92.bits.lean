/-! ===== meet ===== -/
def sb (x q m : Nat) : Nat := (x &&& (255 ^^^ (1 <<< q))) ||| (m <<< q)
theorem sb_32 : ∀ x, x < 256 → ∀ q, q < 8 → ∀ m, m < 2 → (nZ x &&& (nZ (1 <<< q) ^^^ -nZ 1)) ||| nZ (m <<< q) = nZ (sb x q m) := by decide +kernel
theorem sb_lt : ∀ x, x < 256 → ∀ q, q < 8 → ∀ m, m < 2 → sb x q m ≤ 255 := by decide +kernel
theorem sb_bit : ∀ x, x < 256 → ∀ q, q < 8 → ∀ m, m < 2 → ∀ j, j < 8 → (sb x q m).testBit j = if j = q then (m == 1) else x.testBit j := by decide +kernel
theorem bnd_me {p : Nat} (hp : p < 8) : bnd (32 + p) = 255 := by
  unfold bnd
  rw [if_neg (by omega), if_pos (by omega)]

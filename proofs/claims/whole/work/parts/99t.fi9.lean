/-! the run of a script -/
theorem run0 (L : Nat) (xs : Nat → Int32) (h3 : L ≤ 3072) : ∃ hf, qbig 121 0 0 (argL [qR (some 9)] 4) [] (q0 L xs) = some (some (qI 1), hf) ∧ hN hf ≤ 600010 ∧ hS hf ≤ 7302250 := by
  have hm : 6 * (L / 6) ≤ L ∧ L < 6 * (L / 6) + 6 ∧ L / 6 ≤ 512 := by omega
  obtain ⟨hf, e, r, _⟩ := loop0 (N := L) (f := xs) h3 0 (L / 6) 0 0 (bld L xs B266) (by omega) (by omega) (by omega) fRS fSc
  have e0 : (0 : Int32) = nZ 0 := rfl
  have e1 : qcl (120 + 1) 0 [qR (some 9)] (q0 L xs) = some (some (qI 1), hf) := by
    have a0 : hN (q0 L xs) = 10 := rfl
    have a1 : qno 11 14 (q0 L xs) = bld L xs B1 := rfl
    have a2 : hN (bld L xs B125) = 56 := x_n (by decide +kernel)
    have a3 : qno 12 45 (bld L xs B125) = bld L xs B126 := rfl
    rw [E0, a0, a1, z9 (L := L) (xs := xs) 115, jV, a2, a3, z164 (L := L) (xs := xs) 119, jV, e0]
    exact e
  refine ⟨hf, e1, ?_, ?_⟩
  · obtain ⟨_, _, _, _, _, b, _⟩ := r
    have := imc_le (h := hf)
    omega
  · obtain ⟨_, _, _, _, _, _, b⟩ := r
    have := imc_le (h := hf)
    omega

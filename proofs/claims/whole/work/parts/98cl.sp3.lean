/-! parts of a set, one by one -/
def dep : Nat → Nat → Nat → Nat
  | 0, _, _ => 0
  | f + 1, R, k => if R % 2 = 1 then 2 * dep f (R / 2) (k / 2) + k % 2 else 2 * dep f (R / 2) k
abbrev dp (R k : Nat) : Nat := dep 8 R k
def ext : Nat → Nat → Nat → Nat
  | 0, _, _ => 0
  | f + 1, R, S => if R % 2 = 1 then 2 * ext f (R / 2) (S / 2) + S % 2 else ext f (R / 2) (S / 2)
theorem dp_1 : ∀ R, R < 256 → ∀ k, k < 2 ^ pc R → k + 1 < 2 ^ pc R → ((nZ (dp R k) - nZ R) &&& nZ R) = nZ (dp R (k + 1)) ∧ ((nZ (dp R (k + 1)) - nZ 1) &&& nZ R) = nZ (dp R k) ∧ dp R k < dp R (k + 1) := by decide +kernel
theorem dp_2 : ∀ R, R < 256 → dp R 0 = 0 ∧ dp R (2 ^ pc R - 1) = R ∧ 1 ≤ 2 ^ pc R ∧ 2 ^ pc R ≤ 256 ∧ ((1 : Int32) <<< (nZ (pc R) &&& 31)) = nZ (2 ^ pc R) ∧ ∀ k, k < 2 ^ pc R → dp R k < 256 ∧ dp R k &&& R = dp R k := by decide +kernel
theorem pc_card : ∀ S, S < 256 → pc S = cN (fun i => S.testBit i) 8 := by decide +kernel
def pcr : Nat → Nat → Nat
  | 0, _ => 0
  | f + 1, R => if R % 2 = 1 then pcr f (R / 2) + 1 else pcr f (R / 2)
theorem pcr_pc : ∀ R, R < 256 → pcr 8 R = pc R := by decide +kernel
theorem and_half {S R : Nat} (h : S &&& R = S) : S / 2 &&& R / 2 = S / 2 ∧ (S % 2 = 1 → R % 2 = 1) := by
  constructor
  · rw [← Nat.and_div_two, h]
  · intro z
    have e : (S &&& R).testBit 0 = S.testBit 0 := by rw [h]
    rw [Nat.testBit_and, Nat.testBit_zero, Nat.testBit_zero, z] at e
    simpa using e
theorem dep_ext : ∀ f R S, R < 2 ^ f → S &&& R = S → ext f R S < 2 ^ pcr f R ∧ dep f R (ext f R S) = S
  | 0, R, S, hR, h => by
    have : R = 0 := by simpa using hR
    subst this
    rw [Nat.and_zero] at h
    exact ⟨by show 0 < 1; decide, h⟩
  | f + 1, R, S, hR, h => by
    obtain ⟨h1, h2⟩ := and_half h
    have ih := dep_ext f (R / 2) (S / 2) (by omega) h1
    by_cases c : R % 2 = 1
    · have e1 : ext (f + 1) R S = 2 * ext f (R / 2) (S / 2) + S % 2 := by
        show (if _ then _ else _) = _
        rw [if_pos c]
      have e2 : pcr (f + 1) R = pcr f (R / 2) + 1 := by
        show (if _ then _ else _) = _
        rw [if_pos c]
      have e3 : ∀ k, dep (f + 1) R k = 2 * dep f (R / 2) (k / 2) + k % 2 := fun k => by
        show (if _ then _ else _) = _
        rw [if_pos c]
      rw [e1, e2, e3, Nat.pow_succ, show (2 * ext f (R / 2) (S / 2) + S % 2) / 2 = ext f (R / 2) (S / 2) by omega, ih.2]
      omega
    · have e1 : ext (f + 1) R S = ext f (R / 2) (S / 2) := by
        show (if _ then _ else _) = _
        rw [if_neg c]
      have e2 : pcr (f + 1) R = pcr f (R / 2) := by
        show (if _ then _ else _) = _
        rw [if_neg c]
      have e3 : ∀ k, dep (f + 1) R k = 2 * dep f (R / 2) k := fun k => by
        show (if _ then _ else _) = _
        rw [if_neg c]
      rw [e1, e2, e3, ih.2]
      refine ⟨ih.1, ?_⟩
      have : S % 2 = 0 := by omega
      omega
theorem dp_3 {R S : Nat} (hR : R < 256) (h : S &&& R = S) : ext 8 R S < 2 ^ pc R ∧ dp R (ext 8 R S) = S := by
  rw [← pcr_pc R hR]
  exact dep_ext 8 R S hR h

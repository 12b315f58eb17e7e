/-! the reference's spread: one shows -/
/-- a row of a day -/
def fRw (y b j : Nat) : Bool := Nat.beq b 75 && decide (256 * y ≤ j ∧ j < 256 * y + 256)
theorem fRw_t {y j : Nat} (h1 : 256 * y ≤ j) (h2 : j < 256 * y + 256) : fRw y 75 j = true := by
  unfold fRw
  rw [decide_eq_true ⟨h1, h2⟩]
  rfl
theorem fRw_n {y b j : Nat} (h : b ≠ 75) : fRw y b j = false := by
  unfold fRw
  cases e : Nat.beq b 75
  · rfl
  · exact absurd (Nat.eq_of_beq_eq_true e) h
theorem fRw_o {y j : Nat} (h : j < 256 * y ∨ 256 * y + 256 ≤ j) : fRw y 75 j = false := by
  unfold fRw
  rw [decide_eq_false (by omega), Bool.and_false]
def PN (P : Nat → Prop) (M mn S : Nat) : Prop := P S ∨ ∃ Q, Q ≠ 0 ∧ Q &&& (S &&& M) = Q ∧ pc Q ≤ mn ∧ P (sd S Q)
theorem sd_lt {S Q : Nat} (hS : S < 256) (h : Q &&& S = Q) (h0 : Q ≠ 0) : sd S Q < S := by
  have le := sd_le (x := S) (y := Q)
  have ne : sd S Q ≠ S := fun e => by
    apply h0
    apply Nat.eq_of_testBit_eq
    intro i
    rw [Nat.zero_testBit]
    cases c : Q.testBit i
    · rfl
    · have q : (Q &&& S).testBit i = true := by
        rw [h]
        exact c
      rw [Nat.testBit_and, c, Bool.true_and] at q
      by_cases hi : i < 32
      · have s : (sd S Q).testBit i = true := by
          rw [e]
          exact q
        rw [sd_tb hi, c, Bool.not_true, Bool.and_false] at s
        exact s.symm
      · rw [tb_hi hS (by omega)] at q
        cases q
  omega
theorem m253_38 {h : QH} (H : Sh h) (d y M mn s : Nat) (P : Nat → Prop) (hy : y < 31) (hs : s < 256) (hM : M < 256) (hmn : mn < 1000) (old : ∀ S, S < s → tf (hI h 75 (256 * y + S)) (P S)) : ∀ k, k < 2 ^ pc (s &&& M) → (∀ j, k < j → j < 2 ^ pc (s &&& M) → ¬(pc (dp (s &&& M) j) ≤ mn ∧ P (sd s (dp (s &&& M) j)))) → ∃ w, qbig (d + 2) 253 38 [sR (some 56), sI (nZ (256 * y)), sI (nZ M), sI (nZ mn), sI (nZ s), sI (nZ 0), sI (nZ (s &&& M)), sI (nZ (dp (s &&& M) k))] [] h = qbig (d + 2) 253 5 [sR (some 56), sI (nZ (256 * y)), sI (nZ M), sI (nZ mn), sI (nZ s + (-1)), none, none, none] [] (hsI h 75 (256 * y + s) w) ∧ tf w (∃ Q, Q ≠ 0 ∧ Q &&& (s &&& M) = Q ∧ pc Q ≤ mn ∧ P (sd s Q))
  | 0, hk, fail => by
    have o8 : s &&& M < 256 := Nat.lt_of_le_of_lt Nat.and_le_left hs
    obtain ⟨d1, d2, d3, d4, d5, d6⟩ := dp_2 _ o8
    have v00 : nZ 0 &&& 1 = nZ 0 := by decide
    refine ⟨nZ 0, ?_, Or.inr ⟨rfl, ?_⟩⟩
    · rw [d1, E253_38, if_neg (by decide), g56_34 H, ob_some, ob_some, nZ_add, v00, S75 H (by omega), ob_some]
    · rintro ⟨Q, q1, q2, q3, q4⟩
      obtain ⟨r1, r2⟩ := dp_3 o8 q2
      have : ext 8 (s &&& M) Q ≠ 0 := fun e => by
        rw [e, d1] at r2
        exact q1 r2.symm
      exact fail (ext 8 (s &&& M) Q) (by omega) r1 (by rw [r2]; exact ⟨q3, q4⟩)
  | k + 1, hk, fail => by
    have o8 : s &&& M < 256 := Nat.lt_of_le_of_lt Nat.and_le_left hs
    obtain ⟨d1, d2, d3, d4, d5, d6⟩ := dp_2 _ o8
    obtain ⟨n1, n2, n3⟩ := dp_1 _ o8 k (by omega) hk
    obtain ⟨s1', s2'⟩ := d6 (k + 1) hk
    have p8 := (pc_le _ s1').1
    have z00 : nZ 0 = (0 : Int32) := rfl
    have z10 : ¬(nZ 1 = (0 : Int32)) := by decide
    have up : (0 : Int32) < nZ (dp (s &&& M) (k + 1)) := by
      rw [L0, nZ_lt (by decide) (by omega)]
      omega
    have q0 : dp (s &&& M) (k + 1) ≠ 0 := by omega
    have n2' : (nZ (dp (s &&& M) (k + 1)) - 1) &&& nZ (s &&& M) = nZ (dp (s &&& M) k) := n2
    have e228 := m228 d _ s1' h
    have subS : dp (s &&& M) (k + 1) &&& s = dp (s &&& M) (k + 1) := (and_sbs s1').2 (fun i hi z => by
      have := (and_sbs s1').1 s2' i hi z
      rw [Nat.testBit_and, Bool.and_eq_true] at this
      exact this.1)
    have sl := sd_lt hs subS q0
    have ix : nZ (256 * y) + (nZ s &&& (nZ (dp (s &&& M) (k + 1)) ^^^ (-1))) = nZ (256 * y + sd s (dp (s &&& M) (k + 1))) := by rw [sd_i, nZ_add]
    have next : ¬(pc (dp (s &&& M) (k + 1)) ≤ mn ∧ P (sd s (dp (s &&& M) (k + 1)))) → ∃ w, qbig (d + 2) 253 38 [sR (some 56), sI (nZ (256 * y)), sI (nZ M), sI (nZ mn), sI (nZ s), sI (nZ 0), sI (nZ (s &&& M)), sI (nZ (dp (s &&& M) k))] [] h = qbig (d + 2) 253 5 [sR (some 56), sI (nZ (256 * y)), sI (nZ M), sI (nZ mn), sI (nZ s + (-1)), none, none, none] [] (hsI h 75 (256 * y + s) w) ∧ tf w (∃ Q, Q ≠ 0 ∧ Q &&& (s &&& M) = Q ∧ pc Q ≤ mn ∧ P (sd s Q)) := fun nf => m253_38 H d y M mn s P hy hs hM hmn old k (by omega) (fun j h1 h2 => by
      by_cases c : j = k + 1
      · rw [c]
        exact nf
      · exact fail j (by omega) h2)
    by_cases cm : mn < pc (dp (s &&& M) (k + 1))
    · have g : nZ mn < nZ (pc (dp (s &&& M) (k + 1))) := by
        rw [nZ_lt (by omega) (by omega)]
        exact cm
      obtain ⟨w, ew, tw'⟩ := next (fun z => by omega)
      refine ⟨w, ?_, tw'⟩
      rw [E253_38, if_pos up, if_pos z00, e228, jI, if_pos g, n2']
      exact ew
    have g : ¬(nZ mn < nZ (pc (dp (s &&& M) (k + 1)))) := by
      rw [nZ_lt (by omega) (by omega)]
      exact cm
    rcases old _ sl with ⟨q1, q2⟩ | ⟨q1, q2⟩
    · have v11 : (1 : Int32) &&& 1 = nZ 1 := by decide
      have one : ¬((1 : Int32) = 0) := by decide
      refine ⟨nZ 1, ?_, Or.inl ⟨rfl, dp (s &&& M) (k + 1), q0, s2', by omega, q2⟩⟩
      rw [E253_38, if_pos up, if_pos z00, e228, jI, if_neg g, g56_34 H, ob_some, ob_some, ix, A75 H (by omega), ob_some, q1, if_neg z10, n2']
      by_cases c0 : (0 : Int32) < nZ (dp (s &&& M) k)
      · rw [E253_38, if_pos c0, if_neg one, g56_34 H, ob_some, ob_some, nZ_add, v11, S75 H (by omega), ob_some]
      · rw [E253_38, if_neg c0, g56_34 H, ob_some, ob_some, nZ_add, v11, S75 H (by omega), ob_some]
    · obtain ⟨w, ew, tw'⟩ := next (fun z => q2 z.2)
      refine ⟨w, ?_, tw'⟩
      rw [E253_38, if_pos up, if_pos z00, e228, jI, if_neg g, g56_34 H, ob_some, ob_some, ix, A75 H (by omega), ob_some, q1, if_pos z00, n2']
      exact ew
theorem m253_5 (d y M mn : Nat) (P : Nat → Prop) (hy : y < 31) (hM : M < 256) (hmn : mn < 1000) : ∀ m h x, m ≤ 256 → (0 < m → x = nZ (m - 1)) → (m = 0 → x < 0) → Sh h → (∀ S, S < m → tf (hI h 75 (256 * y + S)) (P S)) → (∀ S, m ≤ S → S < 256 → tf (hI h 75 (256 * y + S)) (PN P M mn S)) → ∃ k, qbig (d + 2) 253 5 [sR (some 56), sI (nZ (256 * y)), sI (nZ M), sI (nZ mn), sI x, none, none, none] [] h = some (none, k) ∧ Fr (fRw y) h k ∧ ∀ S, S < 256 → tf (hI k 75 (256 * y + S)) (PN P M mn S)
  | 0, h, x, _, _, ex, H, _, nw => by
    refine ⟨h, ?_, Fr.refl, fun S hS => nw S (by omega) hS⟩
    rw [E253_5, if_pos (ex rfl)]
  | m + 1, h, x, hm, ex, _, H, od, nw => by
    have hx := ex (by omega)
    rw [show m + 1 - 1 = m by omega] at hx
    subst hx
    have nl : ¬(nZ m < 0) := by
      rw [L0, nZ_lt (by omega) (by decide)]
      omega
    have z00 : nZ 0 = (0 : Int32) := rfl
    have z10 : ¬(nZ 1 = (0 : Int32)) := by decide
    have nx1 : 0 < m → nZ m + (-1) = nZ (m - 1) := fun _ => by
      rw [nZ_neg1, nZ_m1 (by omega)]
    have nx0 : m = 0 → nZ m + (-1) < 0 := fun e0 => by
      rw [e0]
      decide
    have o8 : m &&& M < 256 := Nat.lt_of_le_of_lt Nat.and_le_left (by omega)
    obtain ⟨d1, d2, d3, d4, d5, d6⟩ := dp_2 _ o8
    rcases od m (by omega) with ⟨q1, q2⟩ | ⟨q1, q2⟩
    · obtain ⟨k, ek, Fk, nk⟩ := m253_5 d y M mn P hy hM hmn m h _ (by omega) nx1 nx0 H (fun S hS => od S (by omega)) (fun S h1 h2 => by
        by_cases c : S = m
        · rw [c]
          exact Or.inl ⟨q1, Or.inl q2⟩
        · exact nw S (by omega) h2)
      refine ⟨k, ?_, Fk, nk⟩
      rw [E253_5, if_neg nl, g56_34 H, ob_some, ob_some, nZ_add, A75 H (by omega), ob_some, q1, if_neg z10]
      exact ek
    · obtain ⟨w, ew, tw'⟩ := m253_38 H d y M mn m P hy (by omega) hM hmn (fun S hS => od S (by omega)) (2 ^ pc (m &&& M) - 1) (by omega) (fun j h1 h2 => by omega)
      rw [d2] at ew
      have F1 : Fr (fRw y) h (hsI h 75 (256 * y + m) w) := Fr.si (fRw_t (by omega) (by omega)) Fr.refl
      obtain ⟨k, ek, Fk, nk⟩ := m253_5 d y M mn P hy hM hmn m (hsI h 75 (256 * y + m) w) _ (by omega) nx1 nx0 H (fun S hS => by
        rw [hI_ne (by omega)]
        exact od S (by omega)) (fun S h1 h2 => by
        by_cases c : S = m
        · rw [c, hI_at rfl]
          exact tw'.c ⟨fun z => Or.inr z, fun z => by
            rcases z with z | z
            · exact absurd z q2
            · exact z⟩
        · rw [hI_ne (by omega)]
          exact nw S (by omega) h2)
      refine ⟨k, ?_, F1.trans Fk, nk⟩
      rw [E253_5, if_neg nl, g56_34 H, ob_some, ob_some, nZ_add, A75 H (by omega), ob_some, q1, if_pos z00, nZ_and]
      exact ew.trans ek
theorem m253 {h : QH} (H : Sh h) (d y M mn : Nat) (P : Nat → Prop) (hy : y < 31) (hM : M < 256) (hmn : mn < 1000) (od : ∀ S, S < 256 → tf (hI h 75 (256 * y + S)) (P S)) : ∃ k, qcl (d + 2) 253 [qR (some 56), qI (nZ (256 * y)), qI (nZ M), qI (nZ mn)] h = some (none, k) ∧ Fr (fRw y) h k ∧ ∀ S, S < 256 → tf (hI k 75 (256 * y + S)) (PN P M mn S) := by
  obtain ⟨k, ek, Fk, nk⟩ := m253_5 d y M mn P hy hM hmn 256 h (nZ 255) (by decide) (fun _ => rfl) (fun z => by omega) H od (fun S h1 h2 => by omega)
  refine ⟨k, ?_, Fk, nk⟩
  rw [E253, ck56 H, ob_some]
  exact ek

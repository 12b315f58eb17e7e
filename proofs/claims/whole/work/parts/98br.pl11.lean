/-! the plan: a day -/
def pD (W : Nat → Nat) (o : Option (List CL)) (L Z0 : Nat → Nat) (y : Nat) (s : PlS) : Nat → PlS
  | 0 => s
  | k + 1 => if W (100 + 5 * k) = y then pS1 W o L Z0 k (pD W o L Z0 y s k) else pD W o L Z0 y s k
theorem pD_u {W : Nat → Nat} {o : Option (List CL)} {L Z0 : Nat → Nat} {y : Nat} {s : PlS} (U9 : ∀ l, l < 8 → s.2.2 l ≤ W (4 * l + 2)) : ∀ k l, l < 8 → (pD W o L Z0 y s k).2.2 l ≤ W (4 * l + 2)
  | 0, l, hl => U9 l hl
  | k + 1, l, hl => by
    unfold pD
    split
    · exact pS1_u (pD_u U9 k) l hl
    · exact pD_u U9 k l hl
/-- the day's reasons of the first k are set, other places of the plan stay -/
def pO2 (W : Nat → Nat) (y a b : Nat) (V : Nat → Nat) (h k : QH) : Prop := (∀ j, (j < (y + 1) * 40 ∨ (y + 2) * 40 ≤ j) → hI k 41 j = hI h 41 j ∧ hI k 42 j = hI h 42 j) ∧ (∀ j, (j < y * 8 ∨ y * 8 + 8 ≤ j) → hI k 43 j = hI h 43 j) ∧ ∀ j, hI k 44 j = if a ≤ j ∧ j < b ∧ W (100 + 5 * j) = y then nZ (V j) else hI h 44 j
theorem c96_103 {W : Nat → Nat} {o : Option (List CL)} {r : Option Nat} (d y : Nat) (L Z0 : Nat → Nat) (s : PlS) (hy : y < 30) (U9 : ∀ l, l < 8 → s.2.2 l ≤ W (4 * l + 2)) : ∀ m i h, i + m = W 410 → CX h W o r → pL h y L → (∀ p a, p < 8 → a < 5 → hI h 42 (y * 40 + (p * 5 + a)) = nZ (Z0 (5 * p + a))) → pS h y (pD W o L Z0 y s i) → ∃ k, qbig (d + 7) 96 103 [sR (some 40), sR (some 11), sR (some 36), none, sI (nZ y), sI (nZ i)] [] h = qbig (d + 7) 96 43 [sR (some 40), sR (some 11), sR (some 36), none, sI (nZ (y + 1)), none] [] k ∧ Fr fP h k ∧ CX k W o r ∧ pO2 W y i (W 410) (fun j => pR W o L (pD W o L Z0 y s j).2.2 j) h k ∧ pS k y (pD W o L Z0 y s (W 410))
  | 0, i, h, e, X, P, Z, S => by
    have e' : i = W 410 := by omega
    have H := X.1
    have n60 : W 410 ≤ 60 := X.2.2.2.1.1 410 (by decide) (by decide)
    have n0 : hI h 19 0 = nZ (W 410) := X.2.2.1.2.2.1.1
    have lt1 : ¬(nZ i < nZ (W 410)) := by
      rw [nZ_lt (by omega) (by omega)]
      omega
    have ip : nZ y + 1 = nZ (y + 1) := by rw [L1, nZ_add]
    rw [e'] at S
    refine ⟨h, ?_, Fr.refl, X, ⟨fun j _ => ⟨rfl, rfl⟩, fun j _ => rfl, fun j => ?_⟩, S⟩
    · rw [E96_103, ob_some, g11_2 H, ob_some, ob_some, g19_0 H, ob_some, n0, if_neg lt1, ip]
    · rw [if_neg (by omega)]
  | m + 1, i, h, e, X, P, Z, S => by
    have H := X.1
    have n60 : W 410 ≤ 60 := X.2.2.2.1.1 410 (by decide) (by decide)
    have n0 : hI h 19 0 = nZ (W 410) := X.2.2.1.2.2.1.1
    have hi : i < 60 := by omega
    have lt1 : nZ i < nZ (W 410) := by
      rw [nZ_lt (by omega) (by omega)]
      omega
    have ip : nZ i + 1 = nZ (i + 1) := by rw [L1, nZ_add]
    obtain ⟨s0, s1', s2', s3', s4'⟩ := X.sh0 hi
    obtain ⟨b0, b1, b2, b3, b4⟩ := X.2.2.2.1.sh hi
    have es : pD W o L Z0 y s (i + 1) = if W (100 + 5 * i) = y then pS1 W o L Z0 i (pD W o L Z0 y s i) else pD W o L Z0 y s i := rfl
    by_cases c : W (100 + 5 * i) = y
    · rw [if_pos c] at es
      have c0 : nZ (W (100 + 5 * i)) = nZ y := by rw [c]
      obtain ⟨k, ek, Fk, Ok, Sk⟩ := c97 X d i L Z0 (pD W o L Z0 y s i) hi (by rw [c]; exact P) (by rw [c]; exact Z _ _ b1 b2) (by rw [c]; exact S) (pD_u U9 i)
      rw [c] at Ok Sk
      rw [← es] at Sk
      obtain ⟨o1, o2, o3, o4⟩ := Ok
      have Xk := X.fr Fk nW_fP
      obtain ⟨k2, ek2, Fk2, Xk2, ⟨q1, q2, q3⟩, Sk2⟩ := c96_103 d y L Z0 s hy U9 m (i + 1) k (by omega) Xk (fun p a hp ha => by
        rw [(o1 _ (by omega)).1]
        exact P p a hp ha) (fun p a hp ha => by
        rw [(o1 _ (by omega)).2]
        exact Z p a hp ha) Sk
      refine ⟨k2, ?_, Fk.trans Fk2, Xk2, ⟨fun j hj => ⟨(q1 j hj).1.trans (o1 j hj).1, (q1 j hj).2.trans (o1 j hj).2⟩, fun j hj => (q2 j hj).trans (o2 j hj), fun j => ?_⟩, Sk2⟩
      · rw [← ek2, E96_103, ob_some, g11_2 H, ob_some, ob_some, g19_0 H, ob_some, n0, if_pos lt1, ob_some, g11_2 H, ob_some, ob_some, g19_1 H, ob_some, ob_some, A20 H hi, ob_some, s0, if_pos c0, ek, jV, ip]
      · rw [q3 j]
        by_cases cj : j = i
        · subst cj
          rw [if_neg (by omega), if_pos ⟨by omega, by omega, c⟩, o4]
        · rw [o3 j cj]
          by_cases cc : i + 1 ≤ j ∧ j < W 410 ∧ W (100 + 5 * j) = y
          · rw [if_pos cc, if_pos ⟨by omega, cc.2⟩]
          · rw [if_neg cc, if_neg (fun z => cc ⟨by omega, z.2⟩)]
    · rw [if_neg c] at es
      have c0 : ¬(nZ (W (100 + 5 * i)) = nZ y) := by
        rw [nZ_eq (by omega) (by omega)]
        exact c
      rw [← es] at S
      obtain ⟨k2, ek2, Fk2, Xk2, ⟨q1, q2, q3⟩, Sk2⟩ := c96_103 d y L Z0 s hy U9 m (i + 1) h (by omega) X P Z S
      refine ⟨k2, ?_, Fk2, Xk2, ⟨q1, q2, fun j => ?_⟩, Sk2⟩
      · rw [← ek2, E96_103, ob_some, g11_2 H, ob_some, ob_some, g19_0 H, ob_some, n0, if_pos lt1, ob_some, g11_2 H, ob_some, ob_some, g19_1 H, ob_some, ob_some, A20 H hi, ob_some, s0, if_neg c0, ip]
      · rw [q3 j]
        by_cases cc : i + 1 ≤ j ∧ j < W 410 ∧ W (100 + 5 * j) = y
        · rw [if_pos cc, if_pos ⟨by omega, cc.2⟩]
        · rw [if_neg cc, if_neg (fun z => cc ⟨by
            have : j ≠ i := fun e => by
              rw [e] at z
              exact c z.2.2
            omega, z.2⟩)]

/-! the plan: all days -/
def pY (W : Nat → Nat) (o : Option (List CL)) : Nat → (Nat → Nat) × (Nat → Nat)
  | 0 => (fun j => W (60 + j), fun _ => 0)
  | y + 1 => ((pD W o (pY W o y).1 (pY W o y).2 y ((pY W o y).1, (pY W o y).2, fun _ => 0) (W 410)).1, (pD W o (pY W o y).1 (pY W o y).2 y ((pY W o y).1, (pY W o y).2, fun _ => 0) (W 410)).2.1)
/-- day y behind its first k showings -/
def pK (W : Nat → Nat) (o : Option (List CL)) (y k : Nat) : PlS := pD W o (pY W o y).1 (pY W o y).2 y ((pY W o y).1, (pY W o y).2, fun _ => 0) k
/-- the reason of showing j -/
def pW (W : Nat → Nat) (o : Option (List CL)) (j : Nat) : Nat := pR W o (pY W o (W (100 + 5 * j))).1 (pK W o (W (100 + 5 * j)) j).2.2 j
/-- behind y days -/
def pA (W : Nat → Nat) (o : Option (List CL)) (y : Nat) (h : QH) : Prop := (∀ k, k ≤ y → ∀ p a, p < 8 → a < 5 → hI h 41 (k * 40 + (p * 5 + a)) = nZ ((pY W o k).1 (5 * p + a)) ∧ (pY W o k).1 (5 * p + a) ≤ 9) ∧ (∀ k, k ≤ y → ∀ p a, p < 8 → a < 5 → hI h 42 (k * 40 + (p * 5 + a)) = nZ ((pY W o k).2 (5 * p + a))) ∧ (∀ k, k < 30 → ∀ l, l < 8 → hI h 43 (k * 8 + l) = nZ (if k < y then (pK W o k (W 410)).2.2 l else 0)) ∧ ∀ j, j < W 410 → W (100 + 5 * j) < y → hI h 44 j = nZ (pW W o j)
def cpR (f : Nat → Int32) (y : Nat) : Nat → Int32 := fun j => if (y + 1) * 40 ≤ j ∧ j < (y + 1) * 40 + 40 then f (y * 40 + (j - (y + 1) * 40)) else f j
theorem c96_43 {W : Nat → Nat} {o : Option (List CL)} {r : Option Nat} (d : Nat) : ∀ m y h, y + m = 30 → CX h W o r → pA W o y h → ∃ k, qbig (d + 7) 96 43 [sR (some 40), sR (some 11), sR (some 36), none, sI (nZ y), none] [] h = some (none, k) ∧ Fr fP h k ∧ CX k W o r ∧ pA W o 30 k
  | 0, y, h, e, X, P => by
    have e' : y = 30 := by omega
    subst e'
    refine ⟨h, ?_, Fr.refl, X, P⟩
    rw [E96_43, if_neg (by decide)]
  | m + 1, y, h, e, X, P => by
    have H := X.1
    obtain ⟨P1', P2', P3', P4'⟩ := P
    have lt1 : nZ y < 30 := by
      rw [L30, nZ_lt (by omega) (by decide)]
      omega
    have e1 : nZ y * 40 = nZ (y * 40) := by rw [L40, nZ_mul]
    have e2 : (nZ y + 1) * 40 = nZ ((y + 1) * 40) := by rw [L1, L40, nZ_add, nZ_mul]
    have l41 : hL h 41 = 1240 := H.l (a := 41) (by decide) (by decide) rfl
    have l42 : hL h 42 = 1240 := H.l (a := 42) (by decide) (by decide) rfl
    have cp1 : qcp 41 (nZ (y * 40)) 41 (nZ ((y + 1) * 40)) 40 h = some (hsA h 41 (cpR (hI h 41) y)) := qcp_A (h := h) (s := 41) (d := 41) (sp := y * 40) (dp := (y + 1) * 40) (n := 40) ⟨by decide, H.n (by decide)⟩ ⟨by decide, H.n (by decide)⟩ (H.t (by decide) (by decide) rfl) (H.t (by decide) (by decide) rfl) (by omega) (by omega) (by omega) (by omega) (by decide)
    have H2 : Sh (hsA h 41 (cpR (hI h 41) y)) := H
    have l42' : hL (hsA h 41 (cpR (hI h 41) y)) 42 = 1240 := l42
    have cp2 : qcp 42 (nZ (y * 40)) 42 (nZ ((y + 1) * 40)) 40 (hsA h 41 (cpR (hI h 41) y)) = some (hsA (hsA h 41 (cpR (hI h 41) y)) 42 (cpR (hI (hsA h 41 (cpR (hI h 41) y)) 42) y)) := qcp_A (h := hsA h 41 (cpR (hI h 41) y)) (s := 42) (d := 42) (sp := y * 40) (dp := (y + 1) * 40) (n := 40) ⟨by decide, H2.n (by decide)⟩ ⟨by decide, H2.n (by decide)⟩ (H2.t (by decide) (by decide) rfl) (H2.t (by decide) (by decide) rfl) (by omega) (by omega) (by omega) (by omega) (by decide)
    have F1 : Fr fP h (hsA (hsA h 41 (cpR (hI h 41) y)) 42 (cpR (hI (hsA h 41 (cpR (hI h 41) y)) 42) y)) := Fr.sA (fun _ => rfl) (Fr.sA (fun _ => rfl) Fr.refl)
    have g41 : ∀ j, hI (hsA (hsA h 41 (cpR (hI h 41) y)) 42 (cpR (hI (hsA h 41 (cpR (hI h 41) y)) 42) y)) 41 j = cpR (hI h 41) y j := fun j => rfl
    have g42 : ∀ j, hI (hsA (hsA h 41 (cpR (hI h 41) y)) 42 (cpR (hI (hsA h 41 (cpR (hI h 41) y)) 42) y)) 42 j = cpR (hI h 42) y j := fun j => rfl
    have g43 : ∀ b j, b ≠ 41 → b ≠ 42 → hI (hsA (hsA h 41 (cpR (hI h 41) y)) 42 (cpR (hI (hsA h 41 (cpR (hI h 41) y)) 42) y)) b j = hI h b j := fun b j h1 h2 => by rw [hI_sA, if_neg h2, hI_sA, if_neg h1]
    generalize hsA (hsA h 41 (cpR (hI h 41) y)) 42 (cpR (hI (hsA h 41 (cpR (hI h 41) y)) 42) y) = h1 at *
    have X1 := X.fr F1 nW_fP
    have lo : ∀ f : Nat → Int32, ∀ j, j < (y + 1) * 40 → cpR f y j = f j := fun f j hj => by
      unfold cpR
      rw [if_neg (by omega)]
    have hi' : ∀ f : Nat → Int32, ∀ j, j < 40 → cpR f y ((y + 1) * 40 + j) = f (y * 40 + j) := fun f j hj => by
      unfold cpR
      rw [if_pos (by omega), show (y + 1) * 40 + j - (y + 1) * 40 = j by omega]
    obtain ⟨k, ek, Fk, Xk, ⟨q1, q2, q3⟩, Sk⟩ := c96_103 (o := o) (r := r) d y (pY W o y).1 (pY W o y).2 ((pY W o y).1, (pY W o y).2, fun _ => 0) (by omega) (fun l hl => Nat.zero_le _) (W 410) 0 h1 (by omega) X1 (fun p a hp ha => by
        rw [g41, lo _ _ (by omega)]
        exact P1' y (Nat.le_refl y) p a hp ha) (fun p a hp ha => by
        rw [g42, lo _ _ (by omega)]
        exact P2' y (Nat.le_refl y) p a hp ha) ⟨fun p a hp ha => by
        rw [g41, hi' _ _ (by omega)]
        exact P1' y (Nat.le_refl y) p a hp ha, fun p a hp ha => by
        rw [g42, hi' _ _ (by omega)]
        exact P2' y (Nat.le_refl y) p a hp ha, fun l hl => by
        rw [g43 43 _ (by decide) (by decide), P3' y (by omega) l hl, if_neg (by omega)]
        rfl⟩
    have Pn : pA W o (y + 1) k := by
      refine ⟨?_, ?_, ?_, ?_⟩
      · intro x hx p a hp ha
        by_cases c : x = y + 1
        · subst c
          exact Sk.1 p a hp ha
        · rw [(q1 _ (by omega)).1, g41, lo _ _ (by omega)]
          exact P1' x (by omega) p a hp ha
      · intro x hx p a hp ha
        by_cases c : x = y + 1
        · subst c
          exact Sk.2.1 p a hp ha
        · rw [(q1 _ (by omega)).2, g42, lo _ _ (by omega)]
          exact P2' x (by omega) p a hp ha
      · intro x hx l hl
        by_cases c : x = y
        · subst c
          rw [if_pos (by omega)]
          exact Sk.2.2 l hl
        · rw [q2 _ (by omega), g43 43 _ (by decide) (by decide), P3' x hx l hl]
          by_cases c2 : x < y
          · rw [if_pos c2, if_pos (by omega)]
          · rw [if_neg c2, if_neg (by omega)]
      · intro j hj hjy
        rw [q3 j]
        by_cases c : W (100 + 5 * j) = y
        · rw [if_pos ⟨by omega, hj, c⟩]
          unfold pW pK
          rw [c]
        · rw [if_neg (fun z => c z.2.2), g43 44 _ (by decide) (by decide)]
          exact P4' j hj (by omega)
    obtain ⟨k2, ek2, Fk2, Xk2, Pk2⟩ := c96_43 d m (y + 1) k (by omega) Xk Pn
    refine ⟨k2, ?_, (F1.trans Fk).trans Fk2, Xk2, Pk2⟩
    rw [E96_43, if_pos lt1, g40_0 H, ob_some, ob_some, ob_some, ob_some, e1, e2, cp1, ob_some, g40_1 H2, ob_some, ob_some, ob_some, ob_some, cp2, ob_some]
    exact ek.trans ek2

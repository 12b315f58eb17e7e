/-! the plan of the reference: lives -/
def hB (W : Nat → Nat) (o : Option (List CL)) : Nat → Nat
  | 0 => 0
  | y + 1 => hB W o y + sU (pK W o y (W 410)).2.2
def fLv (b j : Nat) : Bool := (match b with
  | 56 => (match j with
    | 19 => true | 20 => true | 21 => true | 28 => true | 29 => true | 30 => true | 31 => true | _ => false)
  | 67 => true | 68 => true | 69 => true | 70 => true | 71 => true | 72 => true | 73 => true
  | _ => false)
theorem fD_Lv (b j : Nat) (h : fD b j = true) : fLv b j = true := by
  unfold fD at h
  split at h
  · split at h <;> first | rfl | cases h
  · rfl
  · rfl
  · rfl
  · rfl
  · rfl
  · cases h
theorem f2_Lv1 (b j : Nat) (h : f2 68 70 b j = true) : fLv b j = true := by
  rcases f2_eq h with e | e <;> rw [e] <;> rfl
theorem f2_Lv2 (b j : Nat) (h : f2 69 71 b j = true) : fLv b j = true := by
  rcases f2_eq h with e | e <;> rw [e] <;> rfl
theorem f72_Lv (b j : Nat) (h : fO 72 b j = true) : fLv b j = true := by
  rw [fO_eq h]
  rfl
def rdD (W : Nat → Nat) (o : Option (List CL)) (x : Nat) : Bool := rdA W (pY W o (x + 1)).1 (W 408) 0
/-- behind y days -/
def mI (h : QH) (W : Nat → Nat) (o : Option (List CL)) (y : Nat) : Prop := mL h (pY W o y).1 ∧ mZ h (pY W o y).2 ∧ hI h 56 28 = nZ (cN (dP W o y 0) (W 410)) ∧ fs1 (dP W o y 0) (W 410) (hI h 56 29) ∧ hI h 56 30 = nZ (hB W o y) ∧ fs1 (rdD W o) y (hI h 56 31) ∧ (∀ j, j < W 410 → W (100 + 5 * j) < y → hI h 73 j = nZ (pW W o j)) ∧ (1 ≤ y → ∀ l, l < W 408 → hI h 72 l = nZ (W (4 * l + 2) - (pK W o (y - 1) (W 410)).2.2 l))
theorem and01 {n : Nat} (h : n ≤ 1) : nZ n &&& 1 = nZ n := by
  have : n = 0 ∨ n = 1 := by omega
  rcases this with e | e <;> subst e <;> decide
theorem m219_day {h : QH} {W : Nat → Nat} {o : Option (List CL)} (X : MX h W o) (d y : Nat) (a1 : Int32) (hy : y < 30) (I : mI h W o y) (hu : ¬(a1 < nZ y)) : ∃ k, qbig (d + 105) 219 58 [sR (some 56), sI a1, sI (nZ y), none] [] h = qbig (d + 105) 219 58 [sR (some 56), sI a1, sI (nZ (y + 1)), none] [] k ∧ Fr fLv h k ∧ mI k W o (y + 1) := by
  have H := X.1
  have n60 := X.mm.n60
  obtain ⟨I1, I2, I3, I4, I5, I6, I7, I8⟩ := I
  have ip : nZ y + 1 = nZ (y + 1) := by rw [L1, nZ_add]
  obtain ⟨h1, e1, F1, g1⟩ := m219_65 (d + 104) a1 (nZ y) 40 0 h (by decide) H (fun x hx => by
    have e := I2 (x / 5) (x % 5) (by omega) (by omega)
    rw [show 5 * (x / 5) + x % 5 = x by omega] at e
    rw [e.1, and01 e.2])
  have X1 := X.fr F1 (fun j => rfl)
  obtain ⟨h2, e2, F2, g2⟩ := m219_103 (o := o) (d + 103) a1 (nZ y) (W 408) 0 h1 (by omega) X1 (fun x hx => by omega)
  have X2 := X1.fr F2 (fun j => rfl)
  have F02 : Fr fLv h h2 := (F1.mono f2_Lv2).trans (F2.mono f72_Lv)
  have P2 : mL h2 (pY W o y).1 := (I1.fr F1 (fun j => rfl)).fr F2 (fun j => rfl)
  have Z2 : mZ h2 (pY W o y).2 := (I2.fr F1 (fun j => rfl)).fr F2 (fun j => rfl)
  have k56 : ∀ j, hI h2 56 j = hI h 56 j := fun j => by rw [F2.2 56 j rfl, F1.2 56 j rfl]
  have D2 : mD h2 W o y 0 (hB W o y) := by
    refine ⟨⟨fun p a hp ha => ?_, fun p a hp ha => ?_, fun l hl => ?_, ?_⟩, ?_, ?_, fun j hj z => ?_⟩
    · rw [F2.2 69 _ rfl, ((g1 _ (by omega)).1 (by omega)).1]
      exact I1 p a hp ha
    · rw [F2.2 71 _ rfl, ((g1 _ (by omega)).1 (by omega)).2]
      exact I2 p a hp ha
    · rw [g2 l hl]
      rfl
    · rw [k56]
      exact I5
    · rw [k56]
      exact I3
    · rw [k56]
      exact I4
    · rw [F2.2 73 j rfl, F1.2 73 j rfl]
      exact I7 j hj (by omega)
  obtain ⟨h3, e3, F3, D3⟩ := m219_131 (o := o) d y (hB W o y) a1 hy (W 410) 0 h2 (by omega) X2 P2 Z2 D2
  have X3 := X2.fr F3 (fun j => rfl)
  obtain ⟨S3, N3, Fs3, R3⟩ := D3
  obtain ⟨h4, e4, F4, g4⟩ := m219_223 (d + 104) a1 (nZ y) 40 0 h3 (by decide) X3.1 (fun x hx => by
    have e := S3.2.1 (x / 5) (x % 5) (by omega) (by omega)
    rw [show 5 * (x / 5) + x % 5 = x by omega] at e
    rw [e.1, and01 e.2])
  have X4 := X3.fr F4 (fun j => rfl)
  have H4 := X4.1
  have F04 : Fr fLv h h4 := (F02.trans (F3.mono fD_Lv)).trans (F4.mono f2_Lv1)
  have L4 : mL h4 (pY W o (y + 1)).1 := fun p a hp ha => by
    rw [((g4 _ (by omega)).1 (by omega)).1]
    exact S3.1 p a hp ha
  have Z4 : mZ h4 (pY W o (y + 1)).2 := fun p a hp ha => by
    rw [((g4 _ (by omega)).1 (by omega)).2]
    exact S3.2.1 p a hp ha
  have k4 : ∀ j, hI h4 56 j = hI h3 56 j := fun j => F4.2 56 j rfl
  have ed : ∀ j, j < W 410 → dP W o y (W 410) j = dP W o (y + 1) 0 j := fun j hj => by
    unfold dP
    apply decide_eq_decide.2
    exact ⟨fun z => ⟨z.1, by omega⟩, fun z => ⟨z.1, by omega⟩⟩
  have k31 : hI h4 56 31 = hI h 56 31 := by rw [k4, F3.2 56 31 rfl, k56]
  have all : ∀ k, (∀ b j, (b ≠ 56 ∨ j ≠ 31) → hI k b j = hI h4 b j) → fs1 (rdD W o) (y + 1) (hI k 56 31) → mI k W o (y + 1) := by
    intro k ek f
    refine ⟨fun p a hp ha => ?_, fun p a hp ha => ?_, ?_, ?_, ?_, f, fun j hj z => ?_, fun _ l hl => ?_⟩
    · rw [ek _ _ (by omega)]
      exact L4 p a hp ha
    · rw [ek _ _ (by omega)]
      exact Z4 p a hp ha
    · rw [ek _ _ (by omega), k4, ← cN_congr _ ed]
      exact N3
    · rw [ek _ _ (by omega), k4]
      exact fs1_c ed Fs3
    · rw [ek _ _ (by omega), k4]
      exact S3.2.2.2
    · rw [ek _ _ (by omega), F4.2 73 j rfl]
      exact R3 j hj (by omega)
    · rw [ek _ _ (by omega), F4.2 72 l rfl]
      exact S3.2.2.1 l hl
  have go : qbig (d + 105) 219 58 [sR (some 56), sI a1, sI (nZ y), none] [] h = qbig (d + 105) 219 223 [sR (some 56), sI a1, sI (nZ y), sI (nZ 40)] [] h4 := by
    rw [E219_58, if_neg hu]
    exact e1.trans (e2.trans (e3.trans e4))
  rw [go]
  by_cases c1' : hI h4 56 31 = -1
  case neg =>
    refine ⟨h4, ?_, F04, all h4 (fun b j _ => rfl) ?_⟩
    · rw [E219_223, if_neg (by decide), g56_31 H4, ob_some, if_neg c1', ip]
    · rw [k31] at c1' ⊢
      rcases I6 with ⟨a, b⟩ | ⟨m, m1, m2, m3, m4⟩
      · exact absurd a c1'
      · exact Or.inr ⟨m, by omega, m2, m3, m4⟩
  have all0 : ∀ j, j < y → rdD W o j = false := by
    rw [k31] at c1'
    rcases I6 with ⟨a, b⟩ | ⟨m, m1, m2, m3, m4⟩
    · exact b
    · rw [m2] at c1'
      exact absurd (c1'.trans nZ_neg1) (fun z => cast (nZ_nneg (a := m) (by omega)) z)
  have e204 := m204 X4.mm (d + 102) _ L4
  have z00 : nZ 0 = (0 : Int32) := rfl
  have z10 : ¬(nZ 1 = (0 : Int32)) := by decide
  by_cases cr : rdA W (pY W o (y + 1)).1 (W 408) 0 = true
  · rw [bI_t cr] at e204
    refine ⟨hsI h4 56 31 (nZ y), ?_, Fr.si rfl F04, all _ (fun b j hb => hI_ne hb) ?_⟩
    · rw [E219_223, if_neg (by decide), g56_31 H4, ob_some, if_pos c1', e204, jI, if_neg z10, p56_31 H4, ob_some, ip]
    · rw [hI_at rfl]
      exact Or.inr ⟨y, by omega, rfl, cr, all0⟩
  · rw [bI_f cr] at e204
    refine ⟨h4, ?_, F04, all h4 (fun b j _ => rfl) ?_⟩
    · rw [E219_223, if_neg (by decide), g56_31 H4, ob_some, if_pos c1', e204, jI, if_pos z00, ip]
    · refine Or.inl ⟨c1', fun j hj => ?_⟩
      by_cases cj : j = y
      · rw [cj]
        exact Bool.eq_false_iff.2 cr
      · exact all0 j (by omega)
theorem m219_58 {W : Nat → Nat} {o : Option (List CL)} (d u : Nat) (hu : u < 30) : ∀ m y h, y + m = u + 1 → MX h W o → mI h W o y → ∃ k, qbig (d + 105) 219 58 [sR (some 56), sI (nZ u), sI (nZ y), none] [] h = some (none, k) ∧ Fr fLv h k ∧ mI k W o (u + 1)
  | 0, y, h, e, X, I => by
    have e' : y = u + 1 := by omega
    subst e'
    have lt1 : nZ u < nZ (u + 1) := by
      rw [nZ_lt (by omega) (by omega)]
      omega
    refine ⟨h, ?_, Fr.refl, I⟩
    rw [E219_58, if_pos lt1]
  | m + 1, y, h, e, X, I => by
    have lt1 : ¬(nZ u < nZ y) := by
      rw [nZ_lt (by omega) (by omega)]
      omega
    obtain ⟨k, ek, Fk, Ik⟩ := m219_day X d y (nZ u) (by omega) I lt1
    obtain ⟨k2, ek2, Fk2, Ik2⟩ := m219_58 d u hu m (y + 1) k (by omega) (X.fr Fk (fun j => rfl)) Ik
    exact ⟨k2, ek.trans ek2, Fk.trans Fk2, Ik2⟩
theorem m219 {h : QH} {W : Nat → Nat} {o : Option (List CL)} (X : MX h W o) (d u : Nat) (hu : u < 30) : ∃ k, qcl (d + 105) 219 [qR (some 56), qI (nZ u)] h = some (none, k) ∧ Fr fLv h k ∧ mI k W o (u + 1) := by
  have H := X.1
  have M := X.mm
  have pre : ∃ h1, h1 = hsI (hsI (hsI (hsI h 56 28 0) 56 29 (-1)) 56 30 0) 56 31 (-1) := ⟨_, rfl⟩
  obtain ⟨h1, eh1⟩ := pre
  have F1 : Fr fLv h h1 := by
    rw [eh1]
    exact Fr.si rfl (Fr.si rfl (Fr.si rfl (Fr.si rfl Fr.refl)))
  have r28 : hI h1 56 28 = nZ 0 := by
    rw [eh1, hI_ne (by omega), hI_ne (by omega), hI_ne (by omega), hI_at rfl]
    rfl
  have r29 : hI h1 56 29 = -1 := by
    rw [eh1, hI_ne (by omega), hI_ne (by omega), hI_at rfl]
  have r30 : hI h1 56 30 = nZ 0 := by
    rw [eh1, hI_ne (by omega), hI_at rfl]
    rfl
  have r31 : hI h1 56 31 = -1 := by
    rw [eh1, hI_at rfl]
  have X1 := X.fr F1 (fun j => rfl)
  obtain ⟨h2, e2, F2, g2⟩ := m219_22 (h0 := h) (d + 104) (nZ u) 40 0 h1 (by decide) X1.1 (fun x => F1.2 58 x rfl)
  have X2 := X1.fr F2 (fun j => rfl)
  have I2 : mI h2 W o 0 := by
    refine ⟨fun p a hp ha => ?_, fun p a hp ha => ?_, ?_, ?_, ?_, ?_, fun j hj z => by omega, fun z => by omega⟩
    · rw [((g2 _ (by omega)).1 (by omega)).1, M.at (by omega) (by omega)]
      have b := X.2.2.1.bK hp ha
      exact ⟨rfl, by show W (60 + (5 * p + a)) ≤ 9; rw [← Nat.add_assoc]; exact b⟩
    · rw [((g2 _ (by omega)).1 (by omega)).2]
      exact ⟨rfl, Nat.zero_le 1⟩
    · rw [F2.2 56 28 rfl, r28]
      have : cN (dP W o 0 0) (W 410) = cN (fun _ => false) (W 410) := cN_congr _ (fun j hj => by
        unfold dP
        apply decide_eq_false
        intro z
        omega)
      rw [this]
      have z : ∀ n, cN (fun _ => false) n = 0 := fun n => by
        induction n with
        | zero => rfl
        | succ n ih =>
          unfold cN
          rw [ih]
          rfl
      rw [z]
    · rw [F2.2 56 29 rfl, r29]
      exact Or.inl ⟨rfl, fun j hj => by
        unfold dP
        apply decide_eq_false
        intro z
        omega⟩
    · rw [F2.2 56 30 rfl, r30]
      rfl
    · rw [F2.2 56 31 rfl, r31]
      exact Or.inl ⟨rfl, fun j hj => by omega⟩
  obtain ⟨k, ek, Fk, Ik⟩ := m219_58 d u hu (u + 1) 0 h2 (by omega) X2 I2
  refine ⟨k, ?_, (F1.trans (F2.mono f2_Lv1)).trans Fk, Ik⟩
  have p28 : qpi 12 28 56 0 h = some (hsI h 56 28 0) := p56_28 H 0
  have H1 : Sh (hsI h 56 28 0) := H
  have H2 : Sh (hsI (hsI h 56 28 0) 56 29 (-1)) := H
  have H3 : Sh (hsI (hsI (hsI h 56 28 0) 56 29 (-1)) 56 30 0) := H
  rw [E219, ck56 H, ob_some, p56_28 H, ob_some, p56_29 H1, ob_some, p56_30 H2, ob_some, p56_31 H3, ob_some, ← eh1]
  exact e2.trans ek

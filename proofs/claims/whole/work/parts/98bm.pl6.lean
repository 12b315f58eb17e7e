/-! the plan: handing over -/
abbrev PlS : Type := (Nat → Nat) × (Nat → Nat) × (Nat → Nat)
/-- what l gets of showing i: levels, wrongs, hours behind it -/
def pH (W : Nat → Nat) (o : Option (List CL)) (L Z0 : Nat → Nat) (i tk l : Nat) (s : PlS) : PlS :=
  if (W (103 + 5 * i)).testBit l = true then
    (if s.1 (5 * l + W (102 + 5 * i)) < tw o 1 (pq W L i l) (L (5 * W (101 + 5 * i) + W (102 + 5 * i)) - 1) then
      (up s.1 (5 * l + W (102 + 5 * i)) (tw o 1 (pq W L i l) (L (5 * W (101 + 5 * i) + W (102 + 5 * i)) - 1)), up s.2.1 (5 * l + W (102 + 5 * i)) (W (104 + 5 * i) ||| Z0 (5 * W (101 + 5 * i) + W (102 + 5 * i))), up s.2.2 l (s.2.2 l + tk))
    else (s.1, s.2.1, up s.2.2 l (s.2.2 l + tk)))
  else s
def fP (b j : Nat) : Bool := (match b with
  | 37 => true | 38 => true | 39 => (match j with | 0 => true | 1 => true | _ => false) | 41 => true | 42 => true | 43 => true | 44 => true | _ => false)
theorem fV_P (b j : Nat) (h : fV b j = true) : fP b j = true := by
  by_cases c1 : b = 37
  · subst c1; rfl
  · by_cases c2 : b = 38
    · subst c2; rfl
    · by_cases c3 : b = 39
      · subst c3
        exact h
      · exfalso
        unfold fV at h
        split at h <;> first | omega | cases h
theorem nW_fP : nW fP := by
  refine ⟨?_, ?_, ?_, rfl, rfl⟩
  · intro b j hb
    have : b = 0 ∨ b = 1 ∨ b = 2 ∨ b = 3 ∨ b = 4 ∨ b = 5 ∨ b = 6 ∨ b = 7 ∨ b = 8 ∨ b = 9 := by omega
    rcases this with e | e | e | e | e | e | e | e | e | e <;> subst e <;> rfl
  · intro b j h1 h2
    have : b = 11 ∨ b = 12 ∨ b = 13 ∨ b = 14 ∨ b = 15 ∨ b = 16 ∨ b = 17 ∨ b = 18 ∨ b = 19 ∨ b = 20 ∨ b = 21 ∨ b = 22 ∨ b = 23 ∨ b = 24 ∨ b = 25 := by omega
    rcases this with e | e | e | e | e | e | e | e | e | e | e | e | e | e | e <;> subst e <;> rfl
  · intro b j hb
    unfold fP
    split <;> first | omega | rfl
/-- the day's state in the class -/
def pS (h : QH) (y : Nat) (s : PlS) : Prop := (∀ p a, p < 8 → a < 5 → hI h 41 ((y + 1) * 40 + (p * 5 + a)) = nZ (s.1 (5 * p + a)) ∧ s.1 (5 * p + a) ≤ 9) ∧ (∀ p a, p < 8 → a < 5 → hI h 42 ((y + 1) * 40 + (p * 5 + a)) = nZ (s.2.1 (5 * p + a))) ∧ ∀ l, l < 8 → hI h 43 (y * 8 + l) = nZ (s.2.2 l)
/-- other rows stay -/
def pO (y : Nat) (h k : QH) : Prop := (∀ j, (j < (y + 1) * 40 ∨ (y + 2) * 40 ≤ j) → hI k 41 j = hI h 41 j ∧ hI k 42 j = hI h 42 j) ∧ (∀ j, (j < y * 8 ∨ y * 8 + 8 ≤ j) → hI k 43 j = hI h 43 j) ∧ ∀ j, hI k 44 j = hI h 44 j
theorem c98s {h : QH} {W : Nat → Nat} {o : Option (List CL)} {r : Option Nat} (X : CX h W o r) (d i tk l : Nat) (L Z0 : Nat → Nat) (s : PlS) (hi : i < 60) (hl : l < W 408) (P : pL h (W (100 + 5 * i)) L) (S : pS h (W (100 + 5 * i)) s) (A : vA h W (W (102 + 5 * i)) (W (100 + 5 * i)) (pc (W (103 + 5 * i)))) : ∃ k, qbig (d + 5) 98 82 [sR (some 40), sR (some 11), sR (some 36), sI (nZ i), sI (nZ tk), sR (some 19), sI (nZ (W (100 + 5 * i))), sI (nZ (W (102 + 5 * i))), none, sI (nZ (W (104 + 5 * i) ||| Z0 (5 * W (101 + 5 * i) + W (102 + 5 * i)))), sI (nZ l), none, none] [] h = qbig (d + 5) 98 82 [sR (some 40), sR (some 11), sR (some 36), sI (nZ i), sI (nZ tk), sR (some 19), sI (nZ (W (100 + 5 * i))), sI (nZ (W (102 + 5 * i))), none, sI (nZ (W (104 + 5 * i) ||| Z0 (5 * W (101 + 5 * i) + W (102 + 5 * i)))), sI (nZ (l + 1)), none, none] [] k ∧ Fr fP h k ∧ vA k W (W (102 + 5 * i)) (W (100 + 5 * i)) (pc (W (103 + 5 * i))) ∧ pO (W (100 + 5 * i)) h k ∧ pS k (W (100 + 5 * i)) (pH W o L Z0 i tk l s) := by
  have H := X.1
  have n8 := X.n8
  obtain ⟨s0, s1', s2', s3', s4'⟩ := X.sh0 hi
  obtain ⟨b0, b1, b2, b3, b4⟩ := X.2.2.2.1.sh hi
  have n0 : hI h 12 0 = nZ (W 408) := X.2.2.1.1.1
  have lt1 : nZ l < nZ (W 408) := by
    rw [nZ_lt (by omega) (by omega)]
    exact hl
  have z00 : nZ 0 = (0 : Int32) := rfl
  have z10 : ¬(nZ 1 = (0 : Int32)) := by decide
  have ip : nZ l + 1 = nZ (l + 1) := by rw [L1, nZ_add]
  have ebit : ((nZ (W (103 + 5 * i)) >>> (nZ l &&& 31)) &&& 1) = nZ (if (W (103 + 5 * i)).testBit l = true then 1 else 0) := by
    rw [L31, nZ_and, and31 (by omega), nZ_shr (by omega) (by omega), L1, nZ_and, bit_eq]
  unfold pH
  by_cases cb : (W (103 + 5 * i)).testBit l = true
  case neg =>
    rw [if_neg cb]
    rw [if_neg cb] at ebit
    refine ⟨h, ?_, Fr.refl, A, ⟨fun j _ => ⟨rfl, rfl⟩, fun j _ => rfl, fun j => rfl⟩, S⟩
    rw [E98_82, ob_some, g11_0 H, ob_some, ob_some, g12_0 H, ob_some, n0, if_pos lt1, ob_some, g19_4 H, ob_some, ob_some, A23 H hi, ob_some, s3', ebit, if_pos z00, ip]
  rw [if_pos cb]
  rw [if_pos cb] at ebit
  obtain ⟨S1', S2', S3'⟩ := S
  have u1 := S3' l (by omega)
  have ixU : nZ (W (100 + 5 * i)) * 8 + nZ l = nZ (W (100 + 5 * i) * 8 + l) := by rw [L8, nZ_mul, nZ_add]
  have ixN : (nZ (W (100 + 5 * i)) + 1) * 40 + nZ (l * 5 + W (102 + 5 * i)) = nZ ((W (100 + 5 * i) + 1) * 40 + (l * 5 + W (102 + 5 * i))) := by rw [L1, L40, nZ_add, nZ_mul, nZ_add]
  have F1 : Fr fP h (hsI h 43 (W (100 + 5 * i) * 8 + l) (nZ (s.2.2 l + tk))) := Fr.si rfl Fr.refl
  have X1 := X.fr F1 nW_fP
  have P1 : pL (hsI h 43 (W (100 + 5 * i) * 8 + l) (nZ (s.2.2 l + tk))) (W (100 + 5 * i)) L := fun p a hp ha => by
    rw [hI_ne (by omega)]
    exact P p a hp ha
  have A1' : vA (hsI h 43 (W (100 + 5 * i) * 8 + l) (nZ (s.2.2 l + tk))) W (W (102 + 5 * i)) (W (100 + 5 * i)) (pc (W (103 + 5 * i))) := by
    obtain ⟨a1, a2, a3, a4⟩ := A
    refine ⟨?_, ?_, ?_, ?_⟩
    · rw [hI_ne (by omega)]
      exact a1
    · rw [hI_ne (by omega)]
      exact a2
    · rw [hI_ne (by omega)]
      exact a3
    · rw [hI_ne (by omega)]
      exact a4
  obtain ⟨h2, e92, F2, A2, Q2⟩ := c92 X1 (d + 1) i l L hi (by omega) P1 A1'
  have X2 := X1.fr F2 nW_fV
  have e163 := c163 X2 (d + 3)
  obtain ⟨h3, e152, F3, g3⟩ := c152t X2 (q := pq W L i l) (d + 1) 1 (by decide) Q2 A2.1
  have A3 := A2.of g3
  have X3 := X2.fr F3 nW_fV
  have H3 := X3.1
  have bP := P _ _ b1 b2
  have bt : tw o 1 (pq W L i l) (L (5 * W (101 + 5 * i) + W (102 + 5 * i)) - 1) ≤ 9 := tw_le (by decide) (by omega)
  have e152' : qcl (d + 4) 152 [qR (some 36), qR r, qI 0] h2 = some (some (qI (nZ (tw o 1 (pq W L i l) (L (5 * W (101 + 5 * i) + W (102 + 5 * i)) - 1)))), h3) := e152
  have g13 : ∀ b j, b ≠ 37 → b ≠ 38 → b ≠ 39 → hI h3 b j = hI (hsI h 43 (W (100 + 5 * i) * 8 + l) (nZ (s.2.2 l + tk))) b j := by
    intro b j h1 h2' h3'
    have hf : fV b j = false := by
      unfold fV
      split <;> first | omega | rfl
    rw [F3.2 b j hf, F2.2 b j hf]
  have F13 : Fr fP h h3 := F1.trans ((F2.trans F3).mono fV_P)
  have xN : hI h3 41 ((W (100 + 5 * i) + 1) * 40 + (l * 5 + W (102 + 5 * i))) = nZ (s.1 (5 * l + W (102 + 5 * i))) := by
    rw [g13 _ _ (by decide) (by decide) (by decide), hI_ne (by omega)]
    exact (S1' l _ (by omega) b2).1
  have yN := (S1' l _ (by omega : l < 8) b2).2
  have r41 : ∀ j, hI h3 41 j = hI h 41 j := fun j => by
    rw [g13 _ _ (by decide) (by decide) (by decide), hI_ne (by omega)]
  have r42 : ∀ j, hI h3 42 j = hI h 42 j := fun j => by
    rw [g13 _ _ (by decide) (by decide) (by decide), hI_ne (by omega)]
  have r44 : ∀ j, hI h3 44 j = hI h 44 j := fun j => by
    rw [g13 _ _ (by decide) (by decide) (by decide), hI_ne (by omega)]
  have r43 : ∀ x, x < 8 → hI h3 43 (W (100 + 5 * i) * 8 + x) = nZ (up s.2.2 l (s.2.2 l + tk) x) := fun x hx => by
    rw [g13 _ _ (by decide) (by decide) (by decide)]
    by_cases c : x = l
    · rw [c, hI_at rfl, up_at rfl]
    · rw [hI_ne (by omega), up_ne c]
      exact S3' x hx
  have r43' : ∀ j, (j < W (100 + 5 * i) * 8 ∨ W (100 + 5 * i) * 8 + 8 ≤ j) → hI h3 43 j = hI h 43 j := fun j hj => by
    rw [g13 _ _ (by decide) (by decide) (by decide), hI_ne (by omega)]
  generalize tw o 1 (pq W L i l) (L (5 * W (101 + 5 * i) + W (102 + 5 * i)) - 1) = lvl at *
  generalize (W (104 + 5 * i) ||| Z0 (5 * W (101 + 5 * i) + W (102 + 5 * i))) = wv at *
  by_cases cl : s.1 (5 * l + W (102 + 5 * i)) < lvl
  · rw [if_pos cl]
    have f1 : nZ (s.1 (5 * l + W (102 + 5 * i))) < nZ lvl := by
      rw [nZ_lt (by omega) (by omega)]
      exact cl
    have H4 : Sh (hsI h3 41 ((W (100 + 5 * i) + 1) * 40 + (l * 5 + W (102 + 5 * i))) (nZ lvl)) := H3
    refine ⟨hsI (hsI h3 41 ((W (100 + 5 * i) + 1) * 40 + (l * 5 + W (102 + 5 * i))) (nZ lvl)) 42 ((W (100 + 5 * i) + 1) * 40 + (l * 5 + W (102 + 5 * i))) (nZ wv), ?_, Fr.si rfl (Fr.si rfl F13), ?_, ⟨?_, ?_, ?_⟩, ?_, ?_, ?_⟩
    · rw [E98_82, ob_some, g11_0 H, ob_some, ob_some, g12_0 H, ob_some, n0, if_pos lt1, ob_some, g19_4 H, ob_some, ob_some, A23 H hi, ob_some, s3', ebit, if_neg z10, g40_2 H, ob_some, ob_some, ixU, A43 H (by omega), ob_some, u1, ob_some, S43 H (by omega), ob_some, nZ_add, e92, jV, e163, jR, e152', jI, c18, jI, g40_0 H3, ob_some, ob_some, ixN, A41 H3 (by omega), ob_some, xN, if_pos f1, ob_some, ob_some, S41 H3 (by omega), ob_some, g40_1 H4, ob_some, ob_some, S42 H4 (by omega), ob_some, ip]
    · obtain ⟨a1, a2, a3, a4⟩ := A3
      refine ⟨?_, ?_, ?_, ?_⟩
      · rw [hI_ne (by omega), hI_ne (by omega)]
        exact a1
      · rw [hI_ne (by omega), hI_ne (by omega)]
        exact a2
      · rw [hI_ne (by omega), hI_ne (by omega)]
        exact a3
      · rw [hI_ne (by omega), hI_ne (by omega)]
        exact a4
    · intro j hj
      rw [hI_ne (by omega), hI_ne (by omega), hI_ne (by omega), hI_ne (by omega)]
      exact ⟨r41 j, r42 j⟩
    · intro j hj
      rw [hI_ne (by omega), hI_ne (by omega)]
      exact r43' j hj
    · intro j
      rw [hI_ne (by omega), hI_ne (by omega)]
      exact r44 j
    · intro x a' hx ha'
      by_cases c : 5 * x + a' = 5 * l + W (102 + 5 * i)
      · show hI _ 41 _ = nZ (up s.1 _ _ _) ∧ up s.1 _ _ _ ≤ 9
        rw [up_at c, hI_ne (by omega), show x * 5 + a' = l * 5 + W (102 + 5 * i) by omega, hI_at rfl]
        exact ⟨rfl, bt⟩
      · show hI _ 41 _ = nZ (up s.1 _ _ _) ∧ up s.1 _ _ _ ≤ 9
        rw [up_ne c, hI_ne (by omega), hI_ne (by omega), r41]
        exact S1' x a' hx ha'
    · intro x a' hx ha'
      by_cases c : 5 * x + a' = 5 * l + W (102 + 5 * i)
      · show hI _ 42 _ = nZ (up s.2.1 _ _ _)
        rw [up_at c, show x * 5 + a' = l * 5 + W (102 + 5 * i) by omega, hI_at rfl]
      · show hI _ 42 _ = nZ (up s.2.1 _ _ _)
        rw [up_ne c, hI_ne (by omega), hI_ne (by omega), r42]
        exact S2' x a' hx ha'
    · intro x hx
      rw [hI_ne (by omega), hI_ne (by omega)]
      exact r43 x hx
  · rw [if_neg cl]
    have f1 : ¬(nZ (s.1 (5 * l + W (102 + 5 * i))) < nZ lvl) := by
      rw [nZ_lt (by omega) (by omega)]
      exact cl
    refine ⟨h3, ?_, F13, A3, ⟨fun j hj => ⟨r41 j, r42 j⟩, r43', r44⟩, ?_, ?_, r43⟩
    · rw [E98_82, ob_some, g11_0 H, ob_some, ob_some, g12_0 H, ob_some, n0, if_pos lt1, ob_some, g19_4 H, ob_some, ob_some, A23 H hi, ob_some, s3', ebit, if_neg z10, g40_2 H, ob_some, ob_some, ixU, A43 H (by omega), ob_some, u1, ob_some, S43 H (by omega), ob_some, nZ_add, e92, jV, e163, jR, e152', jI, c18, jI, g40_0 H3, ob_some, ob_some, ixN, A41 H3 (by omega), ob_some, xN, if_neg f1, ip]
    · intro x a' hx ha'
      rw [r41]
      exact S1' x a' hx ha'
    · intro x a' hx ha'
      rw [r42]
      exact S2' x a' hx ha'

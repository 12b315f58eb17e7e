/-! the plan: one showing -/
def pTk (W : Nat → Nat) (o : Option (List CL)) (L : Nat → Nat) (i : Nat) : Nat := if W (103 + 5 * i) = 0 then W (40 + 4 * W (102 + 5 * i)) else tw o 2 (pq W L i (tz (W (103 + 5 * i)))) (W (40 + 4 * W (102 + 5 * i)))
def pR (W : Nat → Nat) (o : Option (List CL)) (L U : Nat → Nat) (i : Nat) : Nat := if rT W L U i (pTk W o L i) = 0 then rLs W o L U i (pTk W o L i) (W 408) else rT W L U i (pTk W o L i)
def pS1 (W : Nat → Nat) (o : Option (List CL)) (L Z0 : Nat → Nat) (i : Nat) (s : PlS) : PlS := if pR W o L s.2.2 i = 0 then pG W o L Z0 i (pTk W o L i) s else s
theorem rT_le {W L U : Nat → Nat} {i tk : Nat} : rT W L U i tk ≤ 9 := by
  unfold rT
  repeat' split
  all_goals decide
theorem pTk_le {W : Nat → Nat} (w : WI W) {o : Option (List CL)} {L : Nat → Nat} {i : Nat} (hi : i < 60) : pTk W o L i ≤ 12 := by
  have b := (w.sh hi).2.2.1
  have h1 : W (40 + 4 * W (102 + 5 * i)) ≤ 12 := by
    have h1 := w.1 (40 + 4 * W (102 + 5 * i)) (by omega) (by omega)
    unfold bnd at h1
    rw [if_neg (by omega), if_neg (by omega), if_pos (by omega), if_pos (by omega)] at h1
    omega
  unfold pTk
  split
  · exact h1
  · exact tw_le (by decide) h1
/-- other places of the plan stay, the reason is set -/
def pO1 (y i v : Nat) (h k : QH) : Prop := (∀ j, (j < (y + 1) * 40 ∨ (y + 2) * 40 ≤ j) → hI k 41 j = hI h 41 j ∧ hI k 42 j = hI h 42 j) ∧ (∀ j, (j < y * 8 ∨ y * 8 + 8 ≤ j) → hI k 43 j = hI h 43 j) ∧ (∀ j, j ≠ i → hI k 44 j = hI h 44 j) ∧ hI k 44 i = nZ v
theorem c97_0 {h : QH} {W : Nat → Nat} {o : Option (List CL)} {r : Option Nat} (X : CX h W o r) (d i : Nat) (L Z0 : Nat → Nat) (s : PlS) (hi : i < 60) (P : pL h (W (100 + 5 * i)) L) (S : pS h (W (100 + 5 * i)) s) (U9 : ∀ l, l < 8 → s.2.2 l ≤ W (4 * l + 2)) (m0' : W (103 + 5 * i) = 0) : ∃ k, qcl (d + 6) 97 [qR (some 40), qR (some 11), qR (some 36), qI (nZ i)] h = some (none, k) ∧ Fr fP h k ∧ pO1 (W (100 + 5 * i)) i (pR W o L s.2.2 i) h k ∧ pS k (W (100 + 5 * i)) (pS1 W o L Z0 i s) := by
  have H := X.1
  obtain ⟨s0, s1', s2', s3', s4'⟩ := X.sh0 hi
  obtain ⟨b0, b1, b2, b3, b4⟩ := X.2.2.2.1.sh hi
  have e71 : qcl (d + 5) 71 [qR (some 17), qI (nZ (W (102 + 5 * i))), qI 0] h = some (some (qI (nZ (W (40 + 4 * W (102 + 5 * i))))), h) := X.k71 (d + 4) (a := W (102 + 5 * i)) (f := 0) b2 (by decide)
  have ec1 := c1 (d + 4) _ b3 h
  obtain ⟨h1, e148, F1, A1'⟩ := c148 X (d + 3) (W (102 + 5 * i)) (W (100 + 5 * i)) (pc (W (103 + 5 * i))) b2
  have X1 := X.fr F1 nW_fV
  have H1 := X1.1
  have P1 : pL h1 (W (100 + 5 * i)) L := P.fr F1 (fun j => rfl)
  have Q : pU h (W (100 + 5 * i)) W s.2.2 := fun l hl => ⟨S.2.2 l hl, U9 l hl⟩
  have Q1 : pU h1 (W (100 + 5 * i)) W s.2.2 := Q.fr F1 (fun j => rfl)
  have ht := pTk_le X.2.2.2.1 (o := o) (L := L) hi
  have et : pTk W o L i = W (40 + 4 * W (102 + 5 * i)) := by
    unfold pTk
    rw [if_pos m0']
  have e103 := c103 X1 (d + 1) i (pTk W o L i) L s.2.2 hi (by omega) P1 Q1
  have r1 : rT W L s.2.2 i (pTk W o L i) ≠ 0 := by
    unfold rT
    rw [m0']
    have : pc 0 < 1 := by decide
    rw [if_pos (Or.inl this)]
    repeat' split
    all_goals decide
  have er : pR W o L s.2.2 i = rT W L s.2.2 i (pTk W o L i) := by
    unfold pR
    rw [if_neg r1]
  have e1 : pS1 W o L Z0 i s = s := by
    unfold pS1
    rw [er, if_neg r1]
  rw [e1, er]
  have r9 := rT_le (W := W) (L := L) (U := s.2.2) (i := i) (tk := pTk W o L i)
  have r0 : ¬(nZ (rT W L s.2.2 i (pTk W o L i)) = (0 : Int32)) := by
    rw [L0, nZ_eq (by omega) (by decide)]
    exact r1
  rw [et] at e103
  rw [et] at r0 r9 ⊢
  generalize rT W L s.2.2 i (W (40 + 4 * W (102 + 5 * i))) = v at *
  have m0 : nZ (W (103 + 5 * i)) = (0 : Int32) := by
    rw [m0']
    rfl
  have H2 : Sh (hsI h1 44 i (nZ v)) := H1
  have gg : ∀ b j, b ≠ 44 → b ≠ 37 → b ≠ 38 → b ≠ 39 → hI (hsI h1 44 i (nZ v)) b j = hI h b j := by
    intro b j h4 h1' h2' h3'
    have hf : fV b j = false := by
      unfold fV
      split <;> first | omega | rfl
    rw [hI_ne (Or.inl h4), F1.2 b j hf]
  refine ⟨hsI h1 44 i (nZ v), ?_, Fr.si rfl (F1.mono fV_P), ⟨?_, ?_, ?_, hI_at rfl⟩, ?_, ?_, ?_⟩
  · rw [E97, ck40 H, ob_some, ob_some, g11_2 H, ob_some, ob_some, g19_3 H, ob_some, ob_some, A22 H hi, ob_some, s2', ob_some, g19_4 H, ob_some, ob_some, A23 H hi, ob_some, s3', ob_some, g11_1 H, ob_some, e71, jI]
    rw [E97_36, ob_some, g11_1 H, ob_some, ob_some, g19_1 H, ob_some, ob_some, A20 H hi, ob_some, s0, ec1, jI, e148, jV, if_pos m0, g40_3 H1, ob_some, e103, jI, ob_some, S44 H1 (by omega), ob_some, g40_3 H2, ob_some, ob_some, A44 H2 (by omega), ob_some, hI_at rfl, if_neg r0, ob_some, ob_some, A44 H2 (by omega), ob_some, hI_at rfl, if_neg r0]
  · intro j _
    rw [gg _ _ (by decide) (by decide) (by decide) (by decide), gg _ _ (by decide) (by decide) (by decide) (by decide)]
    exact ⟨rfl, rfl⟩
  · intro j _
    rw [gg _ _ (by decide) (by decide) (by decide) (by decide)]
  · intro j hj
    rw [hI_ne (by omega), F1.2 44 j rfl]
  · intro p a hp ha
    rw [gg _ _ (by decide) (by decide) (by decide) (by decide)]
    exact S.1 p a hp ha
  · intro p a hp ha
    rw [gg _ _ (by decide) (by decide) (by decide) (by decide)]
    exact S.2.1 p a hp ha
  · intro l hl
    rw [gg _ _ (by decide) (by decide) (by decide) (by decide)]
    exact S.2.2 l hl

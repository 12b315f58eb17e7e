/-! the plan: hours stay within bounds -/
theorem pHs_u {W : Nat → Nat} {o : Option (List CL)} {L Z0 : Nat → Nat} {i tk : Nat} {s : PlS} (x : Nat) : ∀ k, (pHs W o L Z0 i tk s k).2.2 x = s.2.2 x + (if x < k ∧ (W (103 + 5 * i)).testBit x = true then tk else 0)
  | 0 => by
    rw [if_neg (by omega)]
    rfl
  | k + 1 => by
    have ih := pHs_u (W := W) (o := o) (L := L) (Z0 := Z0) (i := i) (tk := tk) (s := s) x k
    have e : pHs W o L Z0 i tk s (k + 1) = pH W o L Z0 i tk k (pHs W o L Z0 i tk s k) := rfl
    rw [e]
    have hu : (pH W o L Z0 i tk k (pHs W o L Z0 i tk s k)).2.2 = if (W (103 + 5 * i)).testBit k = true then up (pHs W o L Z0 i tk s k).2.2 k ((pHs W o L Z0 i tk s k).2.2 k + tk) else (pHs W o L Z0 i tk s k).2.2 := by
      unfold pH
      by_cases c : (W (103 + 5 * i)).testBit k = true
      · rw [if_pos c, if_pos c]
        split <;> rfl
      · rw [if_neg c, if_neg c]
    rw [hu]
    by_cases c : (W (103 + 5 * i)).testBit k = true
    · rw [if_pos c]
      by_cases cx : x = k
      · subst cx
        rw [up_at rfl, ih, if_neg (by omega), if_pos ⟨by omega, c⟩]
        omega
      · rw [up_ne cx, ih]
        by_cases c2 : x < k ∧ (W (103 + 5 * i)).testBit x = true
        · rw [if_pos c2, if_pos ⟨by omega, c2.2⟩]
        · rw [if_neg c2, if_neg (fun z => c2 ⟨by omega, z.2⟩)]
    · rw [if_neg c, ih]
      by_cases c2 : x < k ∧ (W (103 + 5 * i)).testBit x = true
      · rw [if_pos c2, if_pos ⟨by omega, c2.2⟩]
      · rw [if_neg c2, if_neg (fun z => c2 ⟨by
          have : x ≠ k := fun e => by
            rw [e] at z
            exact c z.2
          omega, z.2⟩)]
theorem rLs_0 {W : Nat → Nat} {o : Option (List CL)} {L U : Nat → Nat} {i tk : Nat} : ∀ k, rLs W o L U i tk k = 0 → ∀ l, l < k → (W (103 + 5 * i)).testBit l = true → rL W o L U i tk l = 0
  | 0, _, l, h, _ => by omega
  | k + 1, e, l, h, b => by
    unfold rLs at e
    by_cases c : (W (103 + 5 * i)).testBit k = true
    · rw [if_pos c] at e
      by_cases c2 : rL W o L U i tk k ≠ 0 ∧ (rLs W o L U i tk k = 0 ∨ rL W o L U i tk k < rLs W o L U i tk k)
      · rw [if_pos c2] at e
        exact absurd e c2.1
      · rw [if_neg c2] at e
        by_cases cl : l = k
        · subst cl
          by_cases c3 : rL W o L U i tk l = 0
          · exact c3
          · exact absurd ⟨c3, Or.inl e⟩ c2
        · exact rLs_0 k e l (by omega) b
    · rw [if_neg c] at e
      have : l ≠ k := fun z => by
        rw [z] at b
        exact c b
      exact rLs_0 k e l (by omega) b
theorem pS1_u {W : Nat → Nat} {o : Option (List CL)} {L Z0 : Nat → Nat} {i : Nat} {s : PlS} (U9 : ∀ l, l < 8 → s.2.2 l ≤ W (4 * l + 2)) : ∀ l, l < 8 → (pS1 W o L Z0 i s).2.2 l ≤ W (4 * l + 2) := by
  intro l hl
  have u := U9 l hl
  unfold pS1
  by_cases c : pR W o L s.2.2 i = 0
  · rw [if_pos c]
    unfold pR at c
    by_cases ct : rT W L s.2.2 i (pTk W o L i) = 0
    · rw [if_pos ct] at c
      unfold pG
      rw [pHs_u]
      show up s.2.2 _ _ l + _ ≤ _
      generalize pTk W o L i = tk at *
      have t3 : ¬(W (4 * W (101 + 5 * i) + 2) - s.2.2 (W (101 + 5 * i)) < tk) ∧ ¬((W (103 + 5 * i)).testBit (W (101 + 5 * i)) = true) := by
        unfold rT at ct
        refine ⟨fun z => ?_, fun z => ?_⟩
        · rw [if_pos z] at ct
          split at ct
          · cases ct
          · split at ct <;> cases ct
        · rw [if_pos (Or.inr (Or.inr z))] at ct
          split at ct
          · cases ct
          · split at ct
            · cases ct
            · split at ct <;> cases ct
      by_cases cp : l = W (101 + 5 * i)
      · rw [up_at cp, if_neg (fun z => t3.2 (by rw [← cp]; exact z.2)), ← cp]
        rw [← cp] at t3
        omega
      · rw [up_ne cp]
        by_cases cl : l < W 408 ∧ (W (103 + 5 * i)).testBit l = true
        · rw [if_pos cl]
          have e0 := rLs_0 _ c l cl.1 cl.2
          have e8 : rL8 W L s.2.2 i tk l = 0 := by
            unfold rL at e0
            by_cases z : rL8 W L s.2.2 i tk l = 0
            · exact z
            · rw [if_neg z] at e0
              exact e0
          have e7 : ¬(W (4 * l + 2) - s.2.2 l < tk) := fun z => by
            unfold rL8 at e8
            rw [if_pos z] at e8
            split at e8
            · cases e8
            · split at e8 <;> cases e8
          omega
        · rw [if_neg cl]
          omega
    · rw [if_neg ct] at c
      exact absurd c ct
  · rw [if_neg c]
    exact u
theorem c97 {h : QH} {W : Nat → Nat} {o : Option (List CL)} {r : Option Nat} (X : CX h W o r) (d i : Nat) (L Z0 : Nat → Nat) (s : PlS) (hi : i < 60) (P : pL h (W (100 + 5 * i)) L) (Z : hI h 42 (W (100 + 5 * i) * 40 + (W (101 + 5 * i) * 5 + W (102 + 5 * i))) = nZ (Z0 (5 * W (101 + 5 * i) + W (102 + 5 * i)))) (S : pS h (W (100 + 5 * i)) s) (U9 : ∀ l, l < 8 → s.2.2 l ≤ W (4 * l + 2)) : ∃ k, qcl (d + 6) 97 [qR (some 40), qR (some 11), qR (some 36), qI (nZ i)] h = some (none, k) ∧ Fr fP h k ∧ pO1 (W (100 + 5 * i)) i (pR W o L s.2.2 i) h k ∧ pS k (W (100 + 5 * i)) (pS1 W o L Z0 i s) := by
  by_cases c : W (103 + 5 * i) = 0
  · exact c97_0 X d i L Z0 s hi P S U9 c
  · exact c97_1 X d i L Z0 s hi P Z S U9 c

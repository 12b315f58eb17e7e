def fPl (b j : Nat) : Bool := fP b j || (match b with
  | 40 => (match j with | 4 => true | _ => false)
  | _ => false)
theorem fP_Pl (b j : Nat) (h : fP b j = true) : fPl b j = true := by
  unfold fPl
  rw [h]
  rfl
theorem c96 {h : QH} {W : Nat → Nat} {o : Option (List CL)} {r : Option Nat} (X : CX h W o r) (d c : Nat) (Z : ∀ j, j < 40 → hI h 42 j = nZ 0) (C : hI h 40 4 = nZ c → pA W o 30 h) : ∃ k, qcl (d + 7) 96 [qR (some 40), qR (some 11), qR (some 36), qI (nZ c)] h = some (none, k) ∧ Fr fPl h k ∧ pA W o 30 k ∧ hI k 40 4 = nZ c ∧ ∀ j, j < 40 → hI k 42 j = nZ 0 := by
  have H := X.1
  by_cases cc : hI h 40 4 = nZ c
  · refine ⟨h, ?_, Fr.refl, C cc, cc, Z⟩
    rw [E96, ck40 H, ob_some, g40_4 H, ob_some, if_pos cc]
  have H2 : Sh (hsI h 40 4 (nZ c)) := H
  have F2 : Fr fPl h (hsI h 40 4 (nZ c)) := Fr.si rfl Fr.refl
  obtain ⟨h4, e8, F4, z4⟩ := c8 (d + 5) 240 (by decide) 240 0 (hsI h 40 4 (nZ c)) (by decide) H2 rfl (fun j hj => by omega)
  have H4 := F4.Sh H2
  have e8' : qcl (d + 6) 8 [qR (some 43), qI 0] (hsI h 40 4 (nZ c)) = some (none, h4) := by
    rw [E8, ob_some, l43 H2, ob_some]
    exact e8
  have g4 : ∀ b j, b ≠ 43 → (b ≠ 40 ∨ j ≠ 4) → hI h4 b j = hI h b j := fun b j h1 h2 => by
    rw [F4.2 b j (fO_ne h1), hI_ne h2]
  have q4 : hI h4 40 4 = nZ c := by
    rw [F4.2 40 4 rfl, hI_at rfl]
  have cp : qcp 16 0 41 0 40 h4 = some (hsA h4 41 (fun j => if 0 ≤ j ∧ j < 0 + 40 then hI h4 16 (0 + (j - 0)) else hI h4 41 j)) := qcp_A (h := h4) (s := 16) (d := 41) (sp := 0) (dp := 0) (n := 40) ⟨by decide, H4.n (by decide)⟩ ⟨by decide, H4.n (by decide)⟩ (H4.t (by decide) (by decide) rfl) (H4.t (by decide) (by decide) rfl) (by rw [H4.l (a := 16) (by decide) (by decide) rfl]; decide) (by rw [H4.l (a := 41) (by decide) (by decide) rfl]; decide) (by decide) (by decide) (by decide)
  have F5 : Fr fP h4 (hsA h4 41 (fun j => if 0 ≤ j ∧ j < 0 + 40 then hI h4 16 (0 + (j - 0)) else hI h4 41 j)) := Fr.sA (fun _ => rfl) Fr.refl
  have g5 : ∀ b j, b ≠ 41 → hI (hsA h4 41 (fun j => if 0 ≤ j ∧ j < 0 + 40 then hI h4 16 (0 + (j - 0)) else hI h4 41 j)) b j = hI h4 b j := fun b j hb => by rw [hI_sA, if_neg hb]
  have g51 : ∀ j, j < 40 → hI (hsA h4 41 (fun j => if 0 ≤ j ∧ j < 0 + 40 then hI h4 16 (0 + (j - 0)) else hI h4 41 j)) 41 j = hI h4 16 j := fun j hj => by
    rw [hI_sA, if_pos rfl, if_pos (by omega), show 0 + (j - 0) = j by omega]
  generalize hsA h4 41 (fun j => if 0 ≤ j ∧ j < 0 + 40 then hI h4 16 (0 + (j - 0)) else hI h4 41 j) = h5 at *
  have F15 : Fr fPl h h5 := (F2.trans (F4.mono (fun b j z => fP_Pl b j (fO43_P b j z)))).trans (F5.mono fP_Pl)
  have nPl : nW fPl := by
    obtain ⟨n1, n2, n3, n4, n5⟩ := nW_fP
    refine ⟨fun b j hb => ?_, fun b j h1 h2 => ?_, fun b j hb => ?_, rfl, rfl⟩
    · unfold fPl
      rw [n1 b j hb]
      split <;> first | omega | rfl
    · unfold fPl
      rw [n2 b j h1 h2]
      split <;> first | omega | rfl
    · unfold fPl
      rw [n3 b j hb]
      split <;> first | omega | rfl
  have X5 := X.fr F15 nPl
  have A5 : pA W o 0 h5 := by
    refine ⟨?_, ?_, ?_, fun j _ hz => by omega⟩
    · intro k hk p a hp ha
      have : k = 0 := by omega
      subst this
      rw [show 0 * 40 + (p * 5 + a) = p * 5 + a by omega, g51 _ (by omega), g4 16 _ (by decide) (Or.inl (by decide)), X.2.2.1.1.2.2.2.2.2 (p * 5 + a) (by omega)]
      have b := X.2.2.2.1.bK hp ha
      rw [show 60 + (p * 5 + a) = 60 + (5 * p + a) by omega]
      exact ⟨rfl, by show W (60 + (5 * p + a)) ≤ 9; rw [← Nat.add_assoc]; exact b⟩
    · intro k hk p a hp ha
      have : k = 0 := by omega
      subst this
      rw [show 0 * 40 + (p * 5 + a) = p * 5 + a by omega, g5 42 _ (by decide), g4 42 _ (by decide) (Or.inl (by decide))]
      exact Z _ (by omega)
    · intro k hk l hl
      rw [g5 43 _ (by decide), z4 _ (by omega), if_neg (by omega)]
  obtain ⟨k, ek, Fk, Xk, Pk⟩ := c96_43 (o := o) (r := r) d 30 0 h5 (by decide) X5 A5
  refine ⟨k, ?_, F15.trans (Fk.mono fP_Pl), Pk, ?_, ?_⟩
  · rw [E96, ck40 H, ob_some, g40_4 H, ob_some, if_neg cc, p40_4 H, ob_some, g40_2 H2, ob_some, e8', jV, ob_some, g11_0 H4, ob_some, ob_some, g12_5 H4, ob_some, g40_0 H4, ob_some, ob_some, ob_some, cp, ob_some]
    exact ek
  · rw [Fk.2 40 4 rfl, g5 40 4 (by decide)]
    exact q4
  · intro j hj
    have e := Pk.2.1 0 (by decide) (j / 5) (j % 5) (by omega) (by omega)
    rw [show 0 * 40 + (j / 5 * 5 + j % 5) = j by omega] at e
    exact e

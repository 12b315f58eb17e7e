/-! ===== what is read depends on the tokens alone ===== -/
theorem cAt_congr {C E : Nat → Nat} {N : Nat} (hc : ∀ k, k < N → C k = E k) (k : Nat) : cAt C N k = cAt E N k := by
  unfold cAt
  by_cases c : k < N
  · rw [if_pos c, if_pos c, hc k c]
  · rw [if_neg c, if_neg c]
theorem P_congr {C E V U : Nat → Nat} {N : Nat} (hc : ∀ k, k < N → C k = E k) (hv : ∀ k, k < N → V k = U k) : ∀ f s pos lv dp z ng acc, P C V N f s pos lv dp z ng acc = P E U N f s pos lv dp z ng acc := by
  have ha := cAt_congr hc
  intro f
  induction f with
  | zero =>
    intro s pos lv dp z ng acc
    rfl
  | succ f ih =>
    intro s pos lv dp z ng acc
    have hV : cAt E N pos ≠ 0 → V pos = U pos := fun h0 => hv pos (C_pos h0)
    by_cases c50 : cAt E N pos = 50
    · have e := hV (by omega)
      unfold P
      simp only [ha, ih, e]
    · unfold P
      simp only [ha, ih, c50, false_and, if_false]
theorem RL_congr {C E V U : Nat → Nat} {N : Nat} (hc : ∀ k, k < N → C k = E k) (hv : ∀ k, k < N → V k = U k) : ∀ k pos lv z, RL C V N k pos lv z = RL E U N k pos lv z := by
  have ha := cAt_congr hc
  have hp := P_congr hc hv
  intro k
  induction k with
  | zero =>
    intro pos lv z
    rfl
  | succ k ih =>
    intro pos lv z
    rw [RL_s, RL_s]
    unfold RH RI
    simp only [ha, hp, ih]
theorem LRW.c {W V : Nat → Nat} {t : Nat} {L : List CL} (h : LRW W t L) (e0 : V (414 + t) = W (414 + t)) (e1 : ∀ j, j < W (414 + t) → V (420 + 400 * t + j) = W (420 + 400 * t + j)) (e2 : ∀ j, j < W (414 + t) → V (2820 + 400 * t + j) = W (2820 + 400 * t + j)) : LRW V t L := by
  unfold LRW
  rw [e0]
  refine ⟨h.1, ?_, ?_⟩
  · rw [← h.2.1]
    exact RL_congr e1 e2 12 0 0 0
  · intro j hj
    rw [e1 j hj, e2 j hj]
    exact h.2.2 j hj
/-! ===== law ===== -/
def LawP (h k : QH) (W : Nat → Nat) (c : Nat) (T : Nat → Nat) : Prop := ∃ W' c' T', K1 k W' c' T' ∧ WC k ∧ FrA lC lR 4 439 h k ∧ ((c' = c ∧ W' = W) ∨ c' = c + 1)
theorem lawK {h k : QH} {W W' : Nat → Nat} {c c' : Nat} {T T' : Nat → Nat} {m s : Nat} (K : K1 h W c T) (F : FrA lC lR m s h k) (Hk : Sh k) (e : ∀ j, j < 411 ∨ j = 412 ∨ j = 413 → W' j = W j) (wi : WI W') (mk : MK k W') (e4 : hI k 11 4 = nZ (W' 411)) (ch : hI k 10 10 = nZ c') (vs : hI k 56 1 = nZ c') (km : KM k) (kt : KT k T') (lws : LWS k W') : K1 k W' c' T' := by
  obtain ⟨K0', hL, v2, v3⟩ := K
  have h79 := K0'.sh.1
  have fI : ∀ b j, b < 79 → lC b j = false → hI k b j = hI h b j := fun b j hb hc => F.2.2.1 b j (by omega) hc
  refine ⟨⟨Hk, ?_, wi, mk, ⟨?_, ?_, ?_, ?_⟩, ⟨ch, vs⟩, km, kt⟩, lws, (fI 39 2 (by decide) rfl).trans v2, (fI 39 3 (by decide) rfl).trans v3⟩
  · intro b hb j
    rw [fI b j (by omega) (by
      have : b = 0 ∨ b = 1 ∨ b = 2 ∨ b = 3 ∨ b = 4 ∨ b = 5 ∨ b = 6 ∨ b = 7 ∨ b = 8 := by omega
      rcases this with x | x | x | x | x | x | x | x | x <;> subst x <;> rfl)]
    exact K0'.ro b hb j
  · refine CP.w (CP.of K0'.cp ?_) (fun j hj => e j (by omega))
    intro i j h1 h2
    have : i = 1 ∨ i = 2 ∨ i = 3 ∨ i = 4 ∨ i = 5 := by omega
    rcases this with x | x | x | x | x <;> subst x <;> exact fI _ _ (by decide) rfl
  · refine CA.w (CA.of K0'.ca ?_) (fun j hj => e j (by omega))
    intro i j h1 h2
    have : i = 6 ∨ i = 7 := by omega
    rcases this with x | x <;> subst x <;> exact fI _ _ (by decide) rfl
  · refine CS.w (CS.of K0'.cs ?_) (fun j hj => e j (by omega))
    intro i j h1 h2
    have : i = 8 ∨ i = 9 ∨ i = 10 ∨ i = 11 ∨ i = 12 ∨ i = 13 := by omega
    rcases this with x | x | x | x | x | x <;> subst x <;> exact fI _ _ (by decide) rfl
  · refine ⟨e4, ?_⟩
    rw [fI 11 5 (by decide) rfl, e 413 (by omega)]
    exact K0'.cf.2
theorem WC.fA {h k : QH} (w : WC h) {m s : Nat} (H : Sh h) (F : FrA lC lR m s h k) : WC k := by
  have h79 := H.1
  exact ⟨fun j hj => (F.2.2.1 61 j (by omega) rfl).trans (w.1 j hj), fun j hj => (F.2.2.1 31 j (by omega) rfl).trans (w.2.1 j hj), fun j hj => (F.2.2.1 32 j (by omega) rfl).trans (w.2.2 j hj)⟩
theorem mC_lC (b j : Nat) (h : mC b j = true) : lC b j = true := by
  by_cases c1 : b = 58
  · subst c1; rfl
  · by_cases c2 : b = 64
    · subst c2; rfl
    · by_cases c3 : b = 65
      · subst c3; rfl
      · by_cases c4 : b = 66
        · subst c4; rfl
        · by_cases c5 : b = 56
          · subst c5
            unfold mC at h
            split at h <;> first | omega | skip
            all_goals first | (split at h <;> first | rfl | cases h) | cases h
          · exfalso
            unfold mC at h
            split at h <;> first | omega | cases h
/-- the tape is empty -/
theorem KT_0 {h k : QH} {T : Nat → Nat} (C : KT h T) (e27 : hI k 27 0 = nZ 0) (e28 : ∀ j, hI k 28 j = hI h 28 j) (e62 : ∀ j, hI k 62 j = hI h 62 j) (e10 : hI k 56 10 = nZ 0) : KT k (up T 400 0) := by
  refine ⟨?_, ?_, ?_, ?_⟩
  · rw [up_at rfl]
    decide
  · rw [up_at rfl, e27]
  · rw [up_at rfl, e10]
  · intro i hi
    rw [up_ne (by omega), e28, e62]
    exact C.2.2.2 i hi
theorem LWS.fA {h k : QH} {W : Nat → Nat} (l : LWS h W) {m s : Nat} (F : FrA lC lR m s h k) (e25 : ∀ i, i < W 411 → hR k 25 i = hR h 25 i) : LWS k W := by
  intro t ht
  obtain ⟨L, x1, a, x2, x3⟩ := l t ht
  exact ⟨L, x1, a, (e25 t ht).trans x2, x3.frA F lCR_79⟩

/-! the plan: gone through -/
theorem c8 (d n : Nat) (hn : n ≤ 240) : ∀ m i h, i + m = 240 → Sh h → n = 240 → (∀ j, j < i → hI h 43 j = nZ 0) → ∃ k, qbig (d + 1) 8 5 [sR (some 43), sI (nZ 0), sI (nZ i), sI (nZ 240)] [] h = some (none, k) ∧ Fr (fO 43) h k ∧ ∀ j, j < 240 → hI k 43 j = nZ 0
  | 0, i, h, e, H, _, z => by
    have e' : i = 240 := by omega
    subst e'
    refine ⟨h, ?_, Fr.refl, z⟩
    rw [E8_5, if_neg (by decide)]
  | m + 1, i, h, e, H, hn', z => by
    have lt1 : nZ i < nZ 240 := by
      rw [nZ_lt (by omega) (by decide)]
      omega
    have ip : nZ i + 1 = nZ (i + 1) := by rw [L1, nZ_add]
    have F1 : Fr (fO 43) h (hsI h 43 i (nZ 0)) := Fr.si rfl Fr.refl
    obtain ⟨k, ek, Fk, zk⟩ := c8 d n hn m (i + 1) (hsI h 43 i (nZ 0)) (by omega) H hn' (fun j hj => by
      by_cases c : j = i
      · rw [c, hI_at rfl]
      · rw [hI_ne (by omega)]
        exact z j (by omega))
    refine ⟨k, ?_, F1.trans Fk, zk⟩
    rw [E8_5, if_pos lt1, ob_some, S43 H (by omega), ob_some, ip]
    exact ek
theorem fO43_P (b j : Nat) (h : fO 43 b j = true) : fP b j = true := by
  rw [fO_eq h]
  rfl

/-! worlds anywhere: copying -/
def WS (h : QH) (A : Nat) : Prop := (10 ≤ A ∧ A + 15 ≤ hN h) ∧ (∀ i, i < 15 → h.2.2.1 (A + i) = shT (11 + i)) ∧ (hR h A 0 = some (A + 1) ∧ hR h A 1 = some (A + 6) ∧ hR h A 2 = some (A + 8) ∧ hR h A 3 = some (A + 14)) ∧ (hR h (A + 1) 2 = some (A + 2) ∧ hR h (A + 1) 3 = some (A + 3) ∧ hR h (A + 1) 4 = some (A + 4) ∧ hR h (A + 1) 5 = some (A + 5)) ∧ hR h (A + 6) 1 = some (A + 7) ∧ (hR h (A + 8) 1 = some (A + 9) ∧ hR h (A + 8) 2 = some (A + 10) ∧ hR h (A + 8) 3 = some (A + 11) ∧ hR h (A + 8) 4 = some (A + 12) ∧ hR h (A + 8) 5 = some (A + 13))
theorem WS.t {h : QH} {A : Nat} (w : WS h A) {i t n : Nat} (hi : i < 15) (e : shT (11 + i) = (t, n)) : hT h (A + i) = t ∧ hL h (A + i) = n := by
  have q := w.2.1 i hi
  rw [e] at q
  refine ⟨?_, ?_⟩
  · show (h.2.2.1 (A + i)).1 = t
    rw [q]
  · show (h.2.2.1 (A + i)).2 = n
    rw [q]
theorem WS.b {h : QH} {A : Nat} (w : WS h A) {i : Nat} (hi : i < 15) : 10 ≤ A + i ∧ A + i < hN h := by
  have := w.1
  omega
theorem WS.ck {h : QH} {A : Nat} (w : WS h A) {i c n : Nat} (hi : i < 15) (e : shT (11 + i) = (16 + c, n)) : qck c (A + i) h = some () := if_pos ⟨(w.b hi).2, Or.inr (w.t hi e).1⟩
theorem WS.gi {h : QH} {A : Nat} (w : WS h A) {i c n k : Nat} (hi : i < 15) (e : shT (11 + i) = (16 + c, n)) (hk : k < n) : qgi c k (A + i) h = some (hI h (A + i) k) := if_pos ⟨(w.b hi).2, (w.t hi e).1, by rw [(w.t hi e).2]; exact hk⟩
theorem WS.gr {h : QH} {A : Nat} (w : WS h A) {i c n k : Nat} {v : Option Nat} (hi : i < 15) (e : shT (11 + i) = (16 + c, n)) (hk : k < n) (hv : hR h (A + i) k = v) : qgr c k (A + i) h = some v := by
  rw [← hv]
  exact if_pos ⟨(w.b hi).2, (w.t hi e).1, by rw [(w.t hi e).2]; exact hk⟩
theorem WS.pi {h : QH} {A : Nat} (w : WS h A) {i c n k : Nat} (hi : i < 15) (e : shT (11 + i) = (16 + c, n)) (hk : k < n) (v : Int32) : qpi c k (A + i) v h = some (hsI h (A + i) k v) := if_pos ⟨w.b hi, (w.t hi e).1, by rw [(w.t hi e).2]; exact hk⟩
theorem WS.al {h : QH} {A : Nat} (w : WS h A) {i n : Nat} (hi : i < 15) (e : shT (11 + i) = (0, n)) : qal (A + i) h = some (nZ n) := by
  have q := w.t hi e
  have : qal (A + i) h = some (Int32.ofNat (hL h (A + i))) := if_pos ⟨(w.b hi).2, by rw [q.1]; decide⟩
  rw [this, q.2]
  rfl
def cpg (h : QH) (d s n : Nat) : Nat → Int32 := fun j => if 0 ≤ j ∧ j < 0 + n then hI h s (0 + (j - 0)) else hI h d j
theorem cpg_at {h : QH} {d s n j : Nat} (hj : j < n) : cpg h d s n j = hI h s j := by
  unfold cpg
  rw [if_pos ⟨Nat.zero_le _, by omega⟩, Nat.zero_add, Nat.sub_zero]
theorem WS.cp {h : QH} {A B : Nat} (w : WS h A) (v : WS h B) {i n : Nat} (hi : i < 15) (e : shT (11 + i) = (0, n)) (hn : n ≤ 60) : qcp (B + i) 0 (A + i) 0 (nZ n) h = some (hsA h (A + i) (cpg h (A + i) (B + i) n)) := qcp_A (h := h) (s := B + i) (d := A + i) (sp := 0) (dp := 0) (n := n) (v.b hi) (w.b hi) (v.t hi e).1 (w.t hi e).1 (by rw [(v.t hi e).2]; omega) (by rw [(w.t hi e).2]; omega) (by decide) (by decide) (by omega)
/-- within a world -/
def fWd (A b _j : Nat) : Bool := decide (A ≤ b ∧ b < A + 15)
theorem fWd_t {A b j : Nat} (h1 : A ≤ b) (h2 : b < A + 15) : fWd A b j = true := decide_eq_true ⟨h1, h2⟩
theorem fWd_n {A b j : Nat} (h : b < A ∨ A + 15 ≤ b) : fWd A b j = false := decide_eq_false (by omega)
theorem c78 {h : QH} {A B : Nat} {W : Nat → Nat} (d : Nat) (w : WS h A) (v : WS h B) (ds : A + 15 ≤ B ∨ B + 15 ≤ A) (C : CP h B W) : ∃ k, qcl (d + 1) 78 [qR (some (A + 1)), qR (some (B + 1))] h = some (none, k) ∧ Fr (fWd A) h k ∧ CP k A W ∧ ∀ b j, b = A ∨ A + 5 < b → hI k b j = hI h b j := by
  obtain ⟨C1, C2, C3, C4, C5, C6⟩ := C
  have pre : ∃ h6, h6 = hsI (hsI h (A + 1) 0 (nZ (W 408))) (A + 1) 1 (nZ (W 412)) := ⟨_, rfl⟩
  obtain ⟨h6, e6⟩ := pre
  have w3 : WS (hsI h (A + 1) 0 (nZ (W 408))) A := w
  have v3 : WS (hsI h (A + 1) 0 (nZ (W 408))) B := v
  have w6 : WS h6 A := by
    rw [e6]
    exact w
  have v6 : WS h6 B := by
    rw [e6]
    exact v
  have pre : ∃ k1, k1 = hsA h6 (A + 2) (cpg h6 (A + 2) (B + 2) 32) := ⟨_, rfl⟩
  obtain ⟨k1, f1⟩ := pre
  have w7 : WS k1 A := by
    rw [f1]
    exact w6
  have v7 : WS k1 B := by
    rw [f1]
    exact v6
  have pre : ∃ k2, k2 = hsA k1 (A + 3) (cpg k1 (A + 3) (B + 3) 8) := ⟨_, rfl⟩
  obtain ⟨k2, f2'⟩ := pre
  have w8 : WS k2 A := by
    rw [f2']
    exact w7
  have v8 : WS k2 B := by
    rw [f2']
    exact v7
  have pre : ∃ k3, k3 = hsA k2 (A + 4) (cpg k2 (A + 4) (B + 4) 8) := ⟨_, rfl⟩
  obtain ⟨k3, f3⟩ := pre
  have w9 : WS k3 A := by
    rw [f3]
    exact w8
  have v9 : WS k3 B := by
    rw [f3]
    exact v8
  have g6 : ∀ b j, b ≠ A + 1 → hI h6 b j = hI h b j := fun b j hb => by
    rw [e6, hI_ne (Or.inl hb), hI_ne (Or.inl hb)]
  have q0 : hI h (B + 1) 0 = nZ (W 408) := C1
  have q1 : hI (hsI h (A + 1) 0 (nZ (W 408))) (B + 1) 1 = nZ (W 412) := by
    rw [hI_ne (by omega)]
    exact C2
  have sA : ∀ (h : QH) a f b j, b ≠ a → hI (hsA h a f) b j = hI h b j := fun h a f b j hb => by
    rw [hI_sA, if_neg hb]
  have aA : ∀ (h : QH) a f j, hI (hsA h a f) a j = f j := fun h a f j => by
    rw [hI_sA, if_pos rfl]
  refine ⟨hsA k3 (A + 5) (cpg k3 (A + 5) (B + 5) 40), ?_, ?_, ⟨?_, ?_, ?_, ?_, ?_, ?_⟩, ?_⟩
  · rw [E78, w.ck (i := 1) (n := 6) (by decide) rfl, ob_some, ob_some, v.gi (i := 1) (n := 6) (by decide) rfl (by decide), ob_some, q0, w.pi (i := 1) (n := 6) (by decide) rfl (by decide), ob_some, ob_some, v3.gi (i := 1) (n := 6) (by decide) rfl (by decide), ob_some, q1, w3.pi (i := 1) (n := 6) (by decide) rfl (by decide), ob_some, ← e6]
    rw [ob_some, v6.gr (i := 1) (n := 6) (by decide) rfl (by decide) v6.2.2.2.1.1, ob_some, w6.gr (i := 1) (n := 6) (by decide) rfl (by decide) w6.2.2.2.1.1, ob_some, ob_some, ob_some, w6.al (i := 2) (n := 32) (by decide) rfl, ob_some, ob_some, ob_some, w6.cp v6 (i := 2) (n := 32) (by decide) rfl (by decide), ob_some, ← f1]
    rw [ob_some, v7.gr (i := 1) (n := 6) (by decide) rfl (by decide) v7.2.2.2.1.2.1, ob_some, w7.gr (i := 1) (n := 6) (by decide) rfl (by decide) w7.2.2.2.1.2.1, ob_some, ob_some, ob_some, w7.al (i := 3) (n := 8) (by decide) rfl, ob_some, ob_some, ob_some, w7.cp v7 (i := 3) (n := 8) (by decide) rfl (by decide), ob_some, ← f2']
    rw [ob_some, v8.gr (i := 1) (n := 6) (by decide) rfl (by decide) v8.2.2.2.1.2.2.1, ob_some, w8.gr (i := 1) (n := 6) (by decide) rfl (by decide) w8.2.2.2.1.2.2.1, ob_some, ob_some, ob_some, w8.al (i := 4) (n := 8) (by decide) rfl, ob_some, ob_some, ob_some, w8.cp v8 (i := 4) (n := 8) (by decide) rfl (by decide), ob_some, ← f3]
    rw [ob_some, v9.gr (i := 1) (n := 6) (by decide) rfl (by decide) v9.2.2.2.1.2.2.2, ob_some, w9.gr (i := 1) (n := 6) (by decide) rfl (by decide) w9.2.2.2.1.2.2.2, ob_some, ob_some, ob_some, w9.al (i := 5) (n := 40) (by decide) rfl, ob_some, ob_some, ob_some, w9.cp v9 (i := 5) (n := 40) (by decide) rfl (by decide), ob_some]
  · refine Fr.sA (fun i => fWd_t (by omega) (by omega)) ?_
    rw [f3]
    refine Fr.sA (fun i => fWd_t (by omega) (by omega)) ?_
    rw [f2']
    refine Fr.sA (fun i => fWd_t (by omega) (by omega)) ?_
    rw [f1]
    refine Fr.sA (fun i => fWd_t (by omega) (by omega)) ?_
    rw [e6]
    exact Fr.si (fWd_t (by omega) (by omega)) (Fr.si (fWd_t (by omega) (by omega)) Fr.refl)
  · rw [sA _ _ _ _ _ (by omega), f3, sA _ _ _ _ _ (by omega), f2', sA _ _ _ _ _ (by omega), f1, sA _ _ _ _ _ (by omega), e6, hI_ne (by omega), hI_at rfl]
  · rw [sA _ _ _ _ _ (by omega), f3, sA _ _ _ _ _ (by omega), f2', sA _ _ _ _ _ (by omega), f1, sA _ _ _ _ _ (by omega), e6, hI_at rfl]
  · intro p f hp hf
    rw [sA _ _ _ _ _ (by omega), f3, sA _ _ _ _ _ (by omega), f2', sA _ _ _ _ _ (by omega), f1, aA, cpg_at (by omega), g6 _ _ (by omega)]
    exact C3 p f hp hf
  · intro p hp
    rw [sA _ _ _ _ _ (by omega), f3, sA _ _ _ _ _ (by omega), f2', aA, cpg_at (by omega), f1, sA _ _ _ _ _ (by omega), g6 _ _ (by omega)]
    exact C4 p hp
  · intro p hp
    rw [sA _ _ _ _ _ (by omega), f3, aA, cpg_at (by omega), f2', sA _ _ _ _ _ (by omega), f1, sA _ _ _ _ _ (by omega), g6 _ _ (by omega)]
    exact C5 p hp
  · intro j hj
    rw [aA, cpg_at hj, f3, sA _ _ _ _ _ (by omega), f2', sA _ _ _ _ _ (by omega), f1, sA _ _ _ _ _ (by omega), g6 _ _ (by omega)]
    exact C6 j hj
  · intro b j hb
    rw [sA _ _ _ _ _ (by omega), f3, sA _ _ _ _ _ (by omega), f2', sA _ _ _ _ _ (by omega), f1, sA _ _ _ _ _ (by omega), g6 _ _ (by omega)]
theorem c69 {h : QH} {A B : Nat} {W : Nat → Nat} (d : Nat) (w : WS h A) (v : WS h B) (ds : A + 15 ≤ B ∨ B + 15 ≤ A) (C : CA h B W) : ∃ k, qcl (d + 1) 69 [qR (some (A + 6)), qR (some (B + 6))] h = some (none, k) ∧ Fr (fWd A) h k ∧ CA k A W ∧ ∀ b j, b < A + 6 ∨ A + 7 < b → hI k b j = hI h b j := by
  obtain ⟨C1, C2⟩ := C
  have w3 : WS (hsI h (A + 6) 0 (nZ (W 409))) A := w
  have v3 : WS (hsI h (A + 6) 0 (nZ (W 409))) B := v
  have sA : ∀ (h : QH) a f b j, b ≠ a → hI (hsA h a f) b j = hI h b j := fun h a f b j hb => by
    rw [hI_sA, if_neg hb]
  have aA : ∀ (h : QH) a f j, hI (hsA h a f) a j = f j := fun h a f j => by
    rw [hI_sA, if_pos rfl]
  refine ⟨hsA (hsI h (A + 6) 0 (nZ (W 409))) (A + 7) (cpg (hsI h (A + 6) 0 (nZ (W 409))) (A + 7) (B + 7) 20), ?_, Fr.sA (fun i => fWd_t (by omega) (by omega)) (Fr.si (fWd_t (by omega) (by omega)) Fr.refl), ⟨?_, ?_⟩, ?_⟩
  · rw [E69, w.ck (i := 6) (n := 2) (by decide) rfl, ob_some, ob_some, v.gi (i := 6) (n := 2) (by decide) rfl (by decide), ob_some, C1, w.pi (i := 6) (n := 2) (by decide) rfl (by decide), ob_some]
    rw [ob_some, v3.gr (i := 6) (n := 2) (by decide) rfl (by decide) v3.2.2.2.2.1, ob_some, w3.gr (i := 6) (n := 2) (by decide) rfl (by decide) w3.2.2.2.2.1, ob_some, ob_some, ob_some, w3.al (i := 7) (n := 20) (by decide) rfl, ob_some, ob_some, ob_some, w3.cp v3 (i := 7) (n := 20) (by decide) rfl (by decide), ob_some]
  · rw [sA _ _ _ _ _ (by omega), hI_at rfl]
  · intro a f ha hf
    rw [aA, cpg_at (by omega), hI_ne (by omega)]
    exact C2 a f ha hf
  · intro b j hb
    rw [sA _ _ _ _ _ (by omega), hI_ne (by omega)]

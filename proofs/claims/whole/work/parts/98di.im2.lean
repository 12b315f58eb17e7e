/-! worlds anywhere: copying all -/
theorem c127 {h : QH} {A B : Nat} {W : Nat → Nat} (d : Nat) (w : WS h A) (v : WS h B) (ds : A + 15 ≤ B ∨ B + 15 ≤ A) (C : CS h B W) : ∃ k, qcl (d + 1) 127 [qR (some (A + 8)), qR (some (B + 8))] h = some (none, k) ∧ Fr (fWd A) h k ∧ CS k A W ∧ ∀ b j, b < A + 8 ∨ A + 13 < b → hI k b j = hI h b j := by
  obtain ⟨C1, C2⟩ := C
  have pre : ∃ k0, k0 = hsI h (A + 8) 0 (nZ (W 410)) := ⟨_, rfl⟩
  obtain ⟨k0, f0⟩ := pre
  have w0 : WS k0 A := by
    rw [f0]
    exact w
  have v0 : WS k0 B := by
    rw [f0]
    exact v
  have pre : ∃ k1, k1 = hsA k0 (A + 9) (cpg k0 (A + 9) (B + 9) 60) := ⟨_, rfl⟩
  obtain ⟨k1, f1⟩ := pre
  have w1 : WS k1 A := by
    rw [f1]
    exact w0
  have v1 : WS k1 B := by
    rw [f1]
    exact v0
  have pre : ∃ k2, k2 = hsA k1 (A + 10) (cpg k1 (A + 10) (B + 10) 60) := ⟨_, rfl⟩
  obtain ⟨k2, f2⟩ := pre
  have w2 : WS k2 A := by
    rw [f2]
    exact w1
  have v2 : WS k2 B := by
    rw [f2]
    exact v1
  have pre : ∃ k3, k3 = hsA k2 (A + 11) (cpg k2 (A + 11) (B + 11) 60) := ⟨_, rfl⟩
  obtain ⟨k3, f3⟩ := pre
  have w3 : WS k3 A := by
    rw [f3]
    exact w2
  have v3 : WS k3 B := by
    rw [f3]
    exact v2
  have pre : ∃ k4, k4 = hsA k3 (A + 12) (cpg k3 (A + 12) (B + 12) 60) := ⟨_, rfl⟩
  obtain ⟨k4, f4⟩ := pre
  have w4 : WS k4 A := by
    rw [f4]
    exact w3
  have v4 : WS k4 B := by
    rw [f4]
    exact v3
  have sA : ∀ (h : QH) a f b j, b ≠ a → hI (hsA h a f) b j = hI h b j := fun h a f b j hb => by
    rw [hI_sA, if_neg hb]
  have aA : ∀ (h : QH) a f j, hI (hsA h a f) a j = f j := fun h a f j => by
    rw [hI_sA, if_pos rfl]
  refine ⟨hsA k4 (A + 13) (cpg k4 (A + 13) (B + 13) 60), ?_, ?_, ⟨?_, fun s hs => ⟨?_, ?_, ?_, ?_, ?_⟩⟩, ?_⟩
  · rw [E127, w.ck (i := 8) (n := 6) (by decide) rfl, ob_some, ob_some, v.gi (i := 8) (n := 6) (by decide) rfl (by decide), ob_some, C1, w.pi (i := 8) (n := 6) (by decide) rfl (by decide), ob_some, ← f0]
    rw [ob_some, v0.gr (i := 8) (n := 6) (by decide) rfl (by decide) v0.2.2.2.2.2.1, ob_some, w0.gr (i := 8) (n := 6) (by decide) rfl (by decide) w0.2.2.2.2.2.1, ob_some, ob_some, ob_some, w0.al (i := 9) (n := 60) (by decide) rfl, ob_some, ob_some, ob_some, w0.cp v0 (i := 9) (n := 60) (by decide) rfl (by decide), ob_some, ← f1]
    rw [ob_some, v1.gr (i := 8) (n := 6) (by decide) rfl (by decide) v1.2.2.2.2.2.2.1, ob_some, w1.gr (i := 8) (n := 6) (by decide) rfl (by decide) w1.2.2.2.2.2.2.1, ob_some, ob_some, ob_some, w1.al (i := 10) (n := 60) (by decide) rfl, ob_some, ob_some, ob_some, w1.cp v1 (i := 10) (n := 60) (by decide) rfl (by decide), ob_some, ← f2]
    rw [ob_some, v2.gr (i := 8) (n := 6) (by decide) rfl (by decide) v2.2.2.2.2.2.2.2.1, ob_some, w2.gr (i := 8) (n := 6) (by decide) rfl (by decide) w2.2.2.2.2.2.2.2.1, ob_some, ob_some, ob_some, w2.al (i := 11) (n := 60) (by decide) rfl, ob_some, ob_some, ob_some, w2.cp v2 (i := 11) (n := 60) (by decide) rfl (by decide), ob_some, ← f3]
    rw [ob_some, v3.gr (i := 8) (n := 6) (by decide) rfl (by decide) v3.2.2.2.2.2.2.2.2.1, ob_some, w3.gr (i := 8) (n := 6) (by decide) rfl (by decide) w3.2.2.2.2.2.2.2.2.1, ob_some, ob_some, ob_some, w3.al (i := 12) (n := 60) (by decide) rfl, ob_some, ob_some, ob_some, w3.cp v3 (i := 12) (n := 60) (by decide) rfl (by decide), ob_some, ← f4]
    rw [ob_some, v4.gr (i := 8) (n := 6) (by decide) rfl (by decide) v4.2.2.2.2.2.2.2.2.2, ob_some, w4.gr (i := 8) (n := 6) (by decide) rfl (by decide) w4.2.2.2.2.2.2.2.2.2, ob_some, ob_some, ob_some, w4.al (i := 13) (n := 60) (by decide) rfl, ob_some, ob_some, ob_some, w4.cp v4 (i := 13) (n := 60) (by decide) rfl (by decide), ob_some]
  · refine Fr.sA (fun i => fWd_t (by omega) (by omega)) ?_
    rw [f4]
    refine Fr.sA (fun i => fWd_t (by omega) (by omega)) ?_
    rw [f3]
    refine Fr.sA (fun i => fWd_t (by omega) (by omega)) ?_
    rw [f2]
    refine Fr.sA (fun i => fWd_t (by omega) (by omega)) ?_
    rw [f1]
    refine Fr.sA (fun i => fWd_t (by omega) (by omega)) ?_
    rw [f0]
    exact Fr.si (fWd_t (by omega) (by omega)) Fr.refl
  · rw [sA _ _ _ _ _ (by omega), f4, sA _ _ _ _ _ (by omega), f3, sA _ _ _ _ _ (by omega), f2, sA _ _ _ _ _ (by omega), f1, sA _ _ _ _ _ (by omega), f0, hI_at rfl]
  · rw [sA _ _ _ _ _ (by omega), f4, sA _ _ _ _ _ (by omega), f3, sA _ _ _ _ _ (by omega), f2, sA _ _ _ _ _ (by omega), f1, aA, cpg_at hs, f0, hI_ne (by omega)]
    exact (C2 s hs).1
  · rw [sA _ _ _ _ _ (by omega), f4, sA _ _ _ _ _ (by omega), f3, sA _ _ _ _ _ (by omega), f2, aA, cpg_at hs, f1, sA _ _ _ _ _ (by omega), f0, hI_ne (by omega)]
    exact (C2 s hs).2.1
  · rw [sA _ _ _ _ _ (by omega), f4, sA _ _ _ _ _ (by omega), f3, aA, cpg_at hs, f2, sA _ _ _ _ _ (by omega), f1, sA _ _ _ _ _ (by omega), f0, hI_ne (by omega)]
    exact (C2 s hs).2.2.1
  · rw [sA _ _ _ _ _ (by omega), f4, aA, cpg_at hs, f3, sA _ _ _ _ _ (by omega), f2, sA _ _ _ _ _ (by omega), f1, sA _ _ _ _ _ (by omega), f0, hI_ne (by omega)]
    exact (C2 s hs).2.2.2.1
  · rw [aA, cpg_at hs, f4, sA _ _ _ _ _ (by omega), f3, sA _ _ _ _ _ (by omega), f2, sA _ _ _ _ _ (by omega), f1, sA _ _ _ _ _ (by omega), f0, hI_ne (by omega)]
    exact (C2 s hs).2.2.2.2
  · intro b j hb
    rw [sA _ _ _ _ _ (by omega), f4, sA _ _ _ _ _ (by omega), f3, sA _ _ _ _ _ (by omega), f2, sA _ _ _ _ _ (by omega), f1, sA _ _ _ _ _ (by omega), f0, hI_ne (by omega)]
theorem hR_sR {h : QH} {a i : Nat} {v : Option Nat} {b j : Nat} : hR (hsR h a i v) b j = if b = a ∧ j = i then v else hR h b j := rfl
theorem WS.of {h k : QH} {X : Nat} (w : WS h X) (e1 : hN h ≤ hN k) (e2 : ∀ b, X ≤ b → b < X + 15 → k.2.2.1 b = h.2.2.1 b) (e3 : ∀ b j, (b = X ∨ b = X + 1 ∨ b = X + 6 ∨ b = X + 8) → hR k b j = hR h b j) : WS k X := by
  obtain ⟨a1, a2, ⟨b1, b2, b3, b4⟩, ⟨c1', c2', c3, c4⟩, d1, ⟨g1, g2, g3, g4, g5⟩⟩ := w
  refine ⟨⟨a1.1, by omega⟩, fun i hi => ?_, ⟨?_, ?_, ?_, ?_⟩, ⟨?_, ?_, ?_, ?_⟩, ?_, ⟨?_, ?_, ?_, ?_, ?_⟩⟩
  · rw [e2 _ (by omega) (by omega)]
    exact a2 i hi
  all_goals rw [e3 _ _ (by omega)]
  all_goals assumption
/-- what a law's place may hold -/
def lwF (h : QH) (X : Nat) : Prop := ∀ t, t < 6 → qfit 5 (hR h (X + 14) t) h = true
theorem qfit_of {h k : QH} {v : Option Nat} (f : qfit 5 v h = true) (e1 : hN h ≤ hN k) (e2 : ∀ b, b < hN h → k.2.2.1 b = h.2.2.1 b) : qfit 5 v k = true := by
  cases v with
  | none => rfl
  | some b =>
    have f' : decide ((10 ≤ b ∧ b < hN h) ∧ (((5 : Nat) = 4 ∧ hT h b = 26) ∨ ((5 : Nat) = 5 ∧ hT h b = 17))) = true := f
    have g := of_decide_eq_true f'
    apply decide_eq_true
    refine ⟨⟨g.1.1, by omega⟩, Or.inr ⟨rfl, ?_⟩⟩
    have q : hT k b = hT h b := by
      show (k.2.2.1 b).1 = (h.2.2.1 b).1
      rw [e2 b g.1.2]
    rw [q]
    rcases g.2 with z | z
    · omega
    · exact z.2
theorem WS.ar {h : QH} {X : Nat} (w : WS h X) {t : Nat} (ht : t < 6) : qar (X + 14) (nZ t) h = some (hR h (X + 14) t) := by
  have q := w.t (i := 14) (t := 5) (n := 6) (by decide) rfl
  have b := w.b (i := 14) (by decide)
  have e1 : (nZ t).toNatClampNeg = t := nZ_nat (by omega)
  have e0 : (0 : Int32) ≤ nZ t := by
    rw [L0, nZ_le (by decide) (by omega)]
    omega
  have : qar (X + 14) (nZ t) h = some (hR h (X + 14) (nZ t).toNatClampNeg) := if_pos ⟨b, Or.inr q.1, e0, by rw [e1, q.2]; exact ht⟩
  rw [this, e1]
theorem WS.sr {h : QH} {X : Nat} (w : WS h X) {t : Nat} (ht : t < 6) {v : Option Nat} (f : qfit 5 v h = true) : qsr (X + 14) (nZ t) v h = some (hsR h (X + 14) t v) := by
  have q := w.t (i := 14) (t := 5) (n := 6) (by decide) rfl
  have b := w.b (i := 14) (by decide)
  have e1 : (nZ t).toNatClampNeg = t := nZ_nat (by omega)
  have e0 : (0 : Int32) ≤ nZ t := by
    rw [L0, nZ_le (by decide) (by omega)]
    omega
  have : qsr (X + 14) (nZ t) v h = some (hsR h (X + 14) (nZ t).toNatClampNeg v) := if_pos ⟨b, Or.inr q.1, e0, by rw [e1, q.2]; exact ht, by rw [q.1]; exact f⟩
  rw [this, e1]

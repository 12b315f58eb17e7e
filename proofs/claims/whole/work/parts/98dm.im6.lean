/-! a world copied; laws stay -/
theorem LG.fit {h : QH} {a : Nat} (g : LG h a) : qfit 5 (some a) h = true := by
  apply decide_eq_true
  have := g.1
  exact ⟨⟨by omega, by omega⟩, Or.inr ⟨rfl, g.2.1⟩⟩
def LW1 (h : QH) (X : Nat) : Prop := ∀ t a, t < 6 → hR h (X + 14) t = some a → LG h a
theorem LW1.f {h : QH} {X : Nat} (l : LW1 h X) : lwF h X := fun t ht => by
  cases e : hR h (X + 14) t with
  | none => rfl
  | some a => exact (l t a ht e).fit
def LWx (h : QH) (X : Nat) (W : Nat → Nat) : Prop := ∀ t, t < W 411 → ∃ L, LRW W t L ∧ ∃ a, hR h (X + 14) t = some a ∧ LO h a L
theorem LO.loc {h k : QH} {a : Nat} {L : List CL} (O : LO h a L) (g : LG h a) (e1 : hN h ≤ hN k) (e2 : ∀ b, b < hN h → k.2.2.1 b = h.2.2.1 b) (e3 : ∀ j, hR k a j = hR h a j) (e4 : ∀ b j, a < b → b ≤ a + 3 → hI k b j = hI h b j) : LO k a L := by
  obtain ⟨x, y, w, ⟨a1, a2, a3, a4⟩, ⟨b1, b2, b3⟩, ⟨x1, x2, x3, x4⟩, ⟨y1, y2, y3, y4⟩, ⟨w1, w2, w3, w4⟩, c1', c2'⟩ := O
  have ex : x = a + 1 := Option.some.inj (b1.symm.trans g.2.2.1.1)
  have ey : y = a + 2 := Option.some.inj (b2.symm.trans g.2.2.1.2.1)
  have ew : w = a + 3 := Option.some.inj (b3.symm.trans g.2.2.1.2.2)
  have tl : ∀ b, b < hN h → hT k b = hT h b ∧ hL k b = hL h b := fun b h2 => by
    unfold hT hL
    rw [e2 b h2]
    exact ⟨rfl, rfl⟩
  refine ⟨x, y, w, ⟨a1, by omega, (tl a a2).1.trans a3, (tl a a2).2.trans a4⟩, ⟨(e3 0).trans b1, (e3 1).trans b2, (e3 2).trans b3⟩, ⟨x1, by omega, (tl x x2).1.trans x3, (tl x x2).2.trans x4⟩, ⟨y1, by omega, (tl y y2).1.trans y3, (tl y y2).2.trans y4⟩, ⟨w1, by omega, (tl w w2).1.trans w3, (tl w w2).2.trans w4⟩, ?_, ?_⟩
  · intro La c Lb hLe
    rw [e4 x _ (by omega) (by omega), e4 y _ (by omega) (by omega)]
    exact c1' La c Lb hLe
  · intro j hj
    rw [e4 w _ (by omega) (by omega)]
    exact c2' j hj
theorem shT_17 : ∀ i, i < 15 → (shT (11 + i)).1 ≠ 17 := by decide
theorem LG.sep {h : QH} {a A : Nat} (g : LG h a) (w : WS h A) : a + 3 < A ∨ A + 15 ≤ a := by
  obtain ⟨_, g2, _, t1, t2, t3⟩ := g
  have hA : hT h A = 26 := (w.t (i := 0) (t := 26) (n := 6) (by decide) rfl).1
  by_cases c1' : A + 15 ≤ a
  · exact Or.inr c1'
  · left
    by_cases c2' : A ≤ a
    · exfalso
      have q := w.2.1 (a - A) (by omega)
      rw [show A + (a - A) = a by omega] at q
      have e : hT h a = (shT (11 + (a - A))).1 := by
        show (h.2.2.1 a).1 = _
        rw [q]
      exact shT_17 (a - A) (by omega) (e.symm.trans g2)
    · apply Nat.lt_of_not_le
      intro c3
      have : A = a + 1 ∨ A = a + 2 ∨ A = a + 3 := by omega
      rcases this with e | e | e
      · rw [e, t1] at hA
        cases hA
      · rw [e, t2] at hA
        cases hA
      · rw [e, t3] at hA
        cases hA
/-- only world A is another -/
def WO (A : Nat) (h k : QH) : Prop := hN k = hN h ∧ hS k = hS h ∧ k.2.2.1 = h.2.2.1 ∧ (∀ b j, b < A ∨ A + 15 ≤ b → hI k b j = hI h b j) ∧ ∀ b j, b ≠ A + 14 → hR k b j = hR h b j
theorem WO.fr {A : Nat} {h k : QH} (F : Fr (fWd A) h k) : WO A h k := ⟨F.n, F.s, F.1.2.2.1, fun b j hb => F.2 b j (fWd_n hb), fun b j _ => F.r b j⟩
theorem WO.trans {A : Nat} {h k l : QH} (a : WO A h k) (b : WO A k l) : WO A h l := ⟨b.1.trans a.1, b.2.1.trans a.2.1, b.2.2.1.trans a.2.2.1, fun x j hx => (b.2.2.2.1 x j hx).trans (a.2.2.2.1 x j hx), fun x j hx => (b.2.2.2.2 x j hx).trans (a.2.2.2.2 x j hx)⟩
theorem WS.wo {h k : QH} {X A : Nat} (w : WS h X) (o : WO A h k) (ds : X = A ∨ A + 15 ≤ X ∨ X + 15 ≤ A) : WS k X := w.of (by rw [o.1]; exact Nat.le_refl _) (fun b _ _ => by rw [o.2.2.1]) (fun b j hb => o.2.2.2.2 b j (by omega))
theorem c160_35 {h0 : QH} {A B : Nat} {W : Nat → Nat} (d : Nat) (wA : WS h0 A) (wB : WS h0 B) (ds : A + 15 ≤ B ∨ B + 15 ≤ A) (lw : lwF h0 B) (C : CF h0 B W) : ∀ m t h, t + m = 6 → WO A h0 h → (∀ b j, hI h b j = hI h0 b j) → (∀ j, j < t → hR h (A + 14) j = hR h0 (B + 14) j) → ∃ k, qbig (d + 1) 160 35 [sR (some A), sR (some B), sI (nZ t)] [] h = some (none, k) ∧ WO A h0 k ∧ (∀ b j, (b ≠ A ∨ (j ≠ 4 ∧ j ≠ 5)) → hI k b j = hI h0 b j) ∧ CF k A W ∧ ∀ j, j < 6 → hR k (A + 14) j = hR h0 (B + 14) j
  | 0, t, h, e, O, I, R => by
    have e' : t = 6 := by omega
    subst e'
    have w := wA.wo O (Or.inl rfl)
    have v := wB.wo O (by omega)
    have w1 : WS (hsI h A 4 (nZ (W 411))) A := w
    have v1 : WS (hsI h A 4 (nZ (W 411))) B := v
    have g4 : qgi 10 4 B h = some (hI h B 4) := v.gi (i := 0) (c := 10) (n := 6) (by decide) rfl (by decide)
    have p4 : qpi 10 4 A (nZ (W 411)) h = some (hsI h A 4 (nZ (W 411))) := w.pi (i := 0) (c := 10) (n := 6) (by decide) rfl (by decide) _
    have g5 : qgi 10 5 B (hsI h A 4 (nZ (W 411))) = some (hI (hsI h A 4 (nZ (W 411))) B 5) := v1.gi (i := 0) (c := 10) (n := 6) (by decide) rfl (by decide)
    have p5 : qpi 10 5 A (nZ (W 413) - nZ 1) (hsI h A 4 (nZ (W 411))) = some (hsI (hsI h A 4 (nZ (W 411))) A 5 (nZ (W 413) - nZ 1)) := w1.pi (i := 0) (c := 10) (n := 6) (by decide) rfl (by decide) _
    have q4 : hI h B 4 = nZ (W 411) := by
      rw [I]
      exact C.1
    have q5 : hI (hsI h A 4 (nZ (W 411))) B 5 = nZ (W 413) - nZ 1 := by
      rw [hI_ne (by omega), I]
      exact C.2
    refine ⟨hsI (hsI h A 4 (nZ (W 411))) A 5 (nZ (W 413) - nZ 1), ?_, ⟨O.1, O.2.1, O.2.2.1, fun b j hb => ?_, O.2.2.2.2⟩, fun b j hb => ?_, ⟨?_, hI_at rfl⟩, R⟩
    · rw [E160_35, if_neg (by decide), ob_some, g4, ob_some, q4, p4, ob_some, ob_some, g5, ob_some, q5, p5, ob_some]
    · rw [hI_ne (by omega), hI_ne (by omega)]
      exact O.2.2.2.1 b j hb
    · rw [hI_ne (by omega), hI_ne (by omega)]
      exact I b j
    · rw [hI_ne (by omega), hI_at rfl]
  | m + 1, t, h, e, O, I, R => by
    have w := wA.wo O (Or.inl rfl)
    have v := wB.wo O (by omega)
    have lt1 : nZ t < 6 := by
      rw [L6, nZ_lt (by omega) (by decide)]
      omega
    have ip : nZ t + 1 = nZ (t + 1) := by rw [L1, nZ_add]
    have gA : qgr 10 3 A h = some (some (A + 14)) := w.gr (i := 0) (c := 10) (n := 6) (by decide) rfl (by decide) w.2.2.1.2.2.2
    have gB : qgr 10 3 B h = some (some (B + 14)) := v.gr (i := 0) (c := 10) (n := 6) (by decide) rfl (by decide) v.2.2.1.2.2.2
    have rB' : hR h (B + 14) t = hR h0 (B + 14) t := O.2.2.2.2 _ _ (by omega)
    have ar := v.ar (t := t) (by omega)
    have ft : qfit 5 (hR h (B + 14) t) h = true := by
      rw [rB']
      exact qfit_of (lw t (by omega)) (by rw [O.1]; exact Nat.le_refl _) (fun b _ => by rw [O.2.2.1])
    have sr := w.sr (t := t) (by omega) ft
    have O2 : WO A h0 (hsR h (A + 14) t (hR h (B + 14) t)) := ⟨O.1, O.2.1, O.2.2.1, O.2.2.2.1, fun b j hb => by
      rw [hR_sR, if_neg (fun z => hb z.1)]
      exact O.2.2.2.2 b j hb⟩
    obtain ⟨k, ek, r⟩ := c160_35 (h0 := h0) (W := W) d wA wB ds lw C m (t + 1) (hsR h (A + 14) t (hR h (B + 14) t)) (by omega) O2 I (fun j hj => by
      rw [hR_sR]
      by_cases c : j = t
      · rw [if_pos ⟨rfl, c⟩, c]
        exact rB'
      · rw [if_neg (fun z => c z.2)]
        exact R j (by omega))
    refine ⟨k, ?_, r⟩
    rw [E160_35, if_pos lt1, gA, ob_some, ob_some, gB, ob_some, ob_some, ar, ob_some, ob_some, sr, ob_some, ip]
    exact ek
theorem CP.o {h k : QH} {A : Nat} {W : Nat → Nat} (C : CP h A W) (e : ∀ b j, A + 1 ≤ b → b ≤ A + 5 → hI k b j = hI h b j) : CP k A W := C.of (fun i j h1 h2 => e _ _ (by omega) (by omega))
theorem c160 {h : QH} {A B : Nat} {W : Nat → Nat} (d : Nat) (w : WS h A) (v : WS h B) (ds : A + 15 ≤ B ∨ B + 15 ≤ A) (lw : lwF h B) (C : CW h B W) : ∃ k, qcl (d + 2) 160 [qR (some A), qR (some B)] h = some (none, k) ∧ WO A h k ∧ CW k A W ∧ ∀ j, j < 6 → hR k (A + 14) j = hR h (B + 14) j := by
  obtain ⟨C1, C2, C3, C4⟩ := C
  obtain ⟨k1, e1, F1, D1, o1⟩ := c78 (W := W) d w v ds C1
  have O1 := WO.fr F1
  have w1 := w.wo O1 (Or.inl rfl)
  have v1 := v.wo O1 (by omega)
  have B1 : ∀ b j, B ≤ b → b < B + 15 → hI k1 b j = hI h b j := fun b j h1 h2 => O1.2.2.2.1 b j (by omega)
  obtain ⟨k2, e2, F2, D2, o2⟩ := c69 (W := W) d w1 v1 ds (C2.of (fun i j h1 h2 => B1 _ _ (by omega) (by omega)))
  have O2 := O1.trans (WO.fr F2)
  have w2 := w.wo O2 (Or.inl rfl)
  have v2 := v.wo O2 (by omega)
  have B2 : ∀ b j, B ≤ b → b < B + 15 → hI k2 b j = hI h b j := fun b j h1 h2 => O2.2.2.2.1 b j (by omega)
  obtain ⟨k3, e3, F3, D3, o3⟩ := c127 (W := W) d w2 v2 ds (C3.of (fun i j h1 h2 => B2 _ _ (by omega) (by omega)))
  have O3 := O2.trans (WO.fr F3)
  have w3 := w.wo O3 (Or.inl rfl)
  have v3 := v.wo O3 (by omega)
  have B3 : ∀ b j, B ≤ b → b < B + 15 → hI k3 b j = hI h b j := fun b j h1 h2 => O3.2.2.2.1 b j (by omega)
  have lw3 : lwF k3 B := fun t ht => by
    rw [O3.2.2.2.2 _ _ (by omega)]
    exact qfit_of (lw t ht) (by rw [O3.1]; exact Nat.le_refl _) (fun b _ => by rw [O3.2.2.1])
  obtain ⟨k4, e4, O4, I4, D4, R4⟩ := c160_35 (h0 := k3) (W := W) (d + 1) w3 v3 ds lw3 (C4.of (fun j => B3 _ _ (by omega) (by omega))) 6 0 k3 (by decide) (WO.fr Fr.refl) (fun _ _ => rfl) (fun j hj => by omega)
  refine ⟨k4, ?_, O3.trans O4, ⟨?_, ?_, ?_, D4⟩, fun j hj => ?_⟩
  · have ckA : qck 10 A h = some () := w.ck (i := 0) (c := 10) (n := 6) (by decide) rfl
    have g0A : qgr 10 0 A h = some (some (A + 1)) := w.gr (i := 0) (c := 10) (n := 6) (by decide) rfl (by decide) w.2.2.1.1
    have g0B : qgr 10 0 B h = some (some (B + 1)) := v.gr (i := 0) (c := 10) (n := 6) (by decide) rfl (by decide) v.2.2.1.1
    have g1A : qgr 10 1 A k1 = some (some (A + 6)) := w1.gr (i := 0) (c := 10) (n := 6) (by decide) rfl (by decide) w1.2.2.1.2.1
    have g1B : qgr 10 1 B k1 = some (some (B + 6)) := v1.gr (i := 0) (c := 10) (n := 6) (by decide) rfl (by decide) v1.2.2.1.2.1
    have g2A : qgr 10 2 A k2 = some (some (A + 8)) := w2.gr (i := 0) (c := 10) (n := 6) (by decide) rfl (by decide) w2.2.2.1.2.2.1
    have g2B : qgr 10 2 B k2 = some (some (B + 8)) := v2.gr (i := 0) (c := 10) (n := 6) (by decide) rfl (by decide) v2.2.2.1.2.2.1
    rw [E160, ckA, ob_some, g0A, ob_some, ob_some, g0B, ob_some, e1, jV, g1A, ob_some, ob_some, g1B, ob_some, e2, jV, g2A, ob_some, ob_some, g2B, ob_some, e3, jV]
    exact e4
  · refine D1.o (fun b j h1 h2 => ?_)
    rw [I4 b j (Or.inl (by omega)), o3 b j (by omega), o2 b j (by omega)]
  · refine D2.of (fun i j h1 h2 => ?_)
    rw [I4 _ j (Or.inl (by omega)), o3 _ j (by omega)]
  · refine D3.of (fun i j h1 h2 => ?_)
    rw [I4 _ j (Or.inl (by omega))]
  · rw [R4 j hj]
    exact O3.2.2.2.2 _ _ (by omega)

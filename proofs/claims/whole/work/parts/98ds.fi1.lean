/-! what both stand in, between calls -/
theorem sb1.up {x : Int32} {c c' : Nat} (s : sb1 x c) (h : c ≤ c') : sb1 x c' := by
  rcases s with e | ⟨m, m1, m2⟩
  · exact Or.inl e
  · exact Or.inr ⟨m, by omega, m2⟩
theorem sb1.no {x : Int32} {c : Nat} (s : sb1 x c) (hc : c < 100000) : x ≠ nZ (c + 1) := by
  intro z
  rcases s with e | ⟨m, m1, m2⟩
  · rw [e] at z
    exact absurd (z.symm.trans nZ_neg1) (fun w => cast (nZ_nneg (a := c + 1) (by omega)) w)
  · rw [m2, nZ_eq (by omega) (by omega)] at z
    omega
def R (h : QH) (W : Nat → Nat) (c : Nat) (T : Nat → Nat) : Prop := K1 h W c T ∧ WC h ∧ (IMs h ∧ LW1 h 11) ∧ (PlR h W c ∧ SoR h W c ∧ FpR h W c ∧ WkR h)
/-- the same, or changed by one call -/
def stp (W W' : Nat → Nat) (c c' : Nat) : Prop := (c' = c ∧ W' = W) ∨ c' = c + 1
theorem stp.le {W W' : Nat → Nat} {c c' : Nat} (s : stp W W' c c') : c ≤ c' ∧ c' ≤ c + 1 := by
  rcases s with ⟨e, _⟩ | e <;> omega
theorem PlR.step {h k : QH} {W W' : Nat → Nat} {c c' : Nat} (P : PlR h W c) (s : stp W W' c c') (hc : c < 100000) (e : ∀ b j, 40 ≤ b → b ≤ 44 → hI k b j = hI h b j) : PlR k W' c' := by
  rcases s with ⟨e1, e2⟩ | e1
  · rw [e1, e2]
    exact P.of e
  · refine ⟨fun j hj => ?_, fun z => ?_, by rw [e 40 4 (by decide) (by decide)]; exact P.2.2.up (by omega)⟩
    · rw [e 42 j (by decide) (by decide)]
      exact P.1 j hj
    · rw [e 40 4 (by decide) (by decide), e1] at z
      exact absurd z (P.2.2.no hc)
theorem SoR.step {h k : QH} {W W' : Nat → Nat} {c c' : Nat} (P : SoR h W c) (s : stp W W' c c') (hc : c < 100000) (e : ∀ j, 35 ≤ j → j ≤ 38 → hI k 56 j = hI h 56 j) (e4 : ∀ j, hI k 74 j = hI h 74 j) : SoR k W' c' := by
  rcases s with ⟨e1, e2⟩ | e1
  · rw [e1, e2]
    exact P.of e e4
  · refine ⟨by rw [e 37 (by decide) (by decide)]; exact P.1.up (by omega), fun z => ?_⟩
    rw [e 37 (by decide) (by decide), e1] at z
    exact absurd z (P.1.no hc)
theorem FpR.step {h k : QH} {W W' : Nat → Nat} {c c' : Nat} (P : FpR h W c) (s : stp W W' c c') (hc : c < 100000) (e : ∀ j, j < 4 → hI k 45 j = hI h 45 j) (e6 : ∀ j, hI k 46 j = hI h 46 j) : FpR k W' c' := by
  rcases s with ⟨e1, e2⟩ | e1
  · rw [e1, e2]
    exact P.of e e6
  · refine ⟨by rw [e 2 (by decide)]; exact P.1.up (by omega), fun z => ?_⟩
    rw [e 2 (by decide), e1] at z
    exact absurd z (P.1.no hc)
theorem WkR.of {h k : QH} (w : WkR h) (e2 : ∀ j, hI k 52 j = hI h 52 j) (e3 : ∀ j, hI k 53 j = hI h 53 j) (e4 : hI k 56 42 = hI h 56 42) (e5 : hI k 56 43 = hI h 56 43) (e8 : ∀ j, hI k 78 j = hI h 78 j) : WkR k := by
  rcases w with ⟨a1, a2⟩ | ⟨a1, n, b1, b2, b3, b4, b5⟩
  · exact Or.inl ⟨by rw [e2]; exact a1, by rw [e4]; exact a2⟩
  · refine Or.inr ⟨by rw [e2]; exact a1, n, b1, by rw [e2]; exact b2, by rw [e4]; exact b3, by rw [e2, e5]; exact b4, fun i hi q hq => ?_⟩
    rw [e3, e8]
    exact b5 i hi q hq
theorem WC.of {h k : QH} (w : WC h) (e1 : ∀ j, hI k 61 j = hI h 61 j) (e2 : ∀ j, hI k 31 j = hI h 31 j) (e3 : ∀ j, hI k 32 j = hI h 32 j) : WC k := ⟨fun j hj => (e1 j).trans (w.1 j hj), fun j hj => (e2 j).trans (w.2.1 j hj), fun j hj => (e3 j).trans (w.2.2 j hj)⟩
/-- images when nothing beyond the first cells changes -/
theorem IMs.tr {h k : QH} (I : IMs h) (t : TRN h k (hN h)) (r26 : ∀ i, hR k 26 i = hR h 26 i) (e59 : ∀ j, hI k 59 j = hI h 59 j) (e60 : ∀ j, hI k 60 j = hI h 60 j) : IMs k := by
  have one : ∀ x, IM1 h x → IM1 k x := fun x o => by
    rcases o with ⟨u1, u2⟩ | ⟨B, U, u1, u2, u3, u4⟩
    · exact Or.inl ⟨by rw [r26]; exact u1, by rw [e60]; exact u2⟩
    · refine Or.inr ⟨B, U, by rw [r26]; exact u1, u2.tr t (Or.inl u2.2.1.1.2) (fun a g => Or.inl g.1.2), by rw [e60]; exact u3, fun j hj => ?_⟩
      rw [e59]
      exact u4 j hj
  refine ⟨one 0 I.1, one 1 I.2.1, fun A B hA hB => ?_⟩
  rw [r26] at hA hB
  exact I.2.2 A B hA hB
theorem LW1.tr {h k : QH} (l : LW1 h 11) (t : TRN h k (hN h)) (r25 : ∀ i, i < 6 → hR k 25 i = hR h 25 i) : LW1 k 11 := fun x a hx e => by
  have e' : hR k 25 x = some a := e
  rw [r25 x hx] at e'
  have g := l x a hx e'
  exact g.tr t (Or.inl g.1.2)
theorem Fr.trn {cs : Nat → Nat → Bool} {h k : QH} (F : Fr cs h k) (e : ∀ b j, 79 ≤ b → cs b j = false) : TRN h k (hN h) := ⟨by rw [F.n]; exact Nat.le_refl _, fun b _ => by rw [F.1.2.2.1], fun b j h1 _ _ => ⟨F.2 b j (e b j h1), F.r b j⟩⟩
/-- frames that touch no image, no words -/
def nQ (cs : Nat → Nat → Bool) : Prop := (∀ b j, 79 ≤ b → cs b j = false) ∧ (∀ j, cs 59 j = false) ∧ (∀ j, cs 60 j = false) ∧ (∀ j, cs 61 j = false) ∧ (∀ j, cs 31 j = false) ∧ (∀ j, cs 32 j = false) ∧ cs 39 2 = false ∧ cs 39 3 = false
theorem R_base {h k : QH} {W W' : Nat → Nat} {c c' : Nat} {T T' : Nat → Nat} {cs : Nat → Nat → Bool} (r : R h W c T) (K : K0 k W' c' T') (F : Fr cs h k) (q : nQ cs) (w1 : ∀ j, 414 ≤ j → W' j = W j) (w2 : W' 411 = W 411) : K1 k W' c' T' ∧ WC k ∧ IMs k ∧ LW1 k 11 := by
  obtain ⟨KK, wc, ⟨I, l⟩, _⟩ := r
  obtain ⟨q1, q2, q3, q4, q5, q6, q7, q8⟩ := q
  have t := F.trn q1
  refine ⟨⟨K, fun x hx => ?_, ?_, ?_⟩, wc.of (fun j => F.2 61 j (q4 j)) (fun j => F.2 31 j (q5 j)) (fun j => F.2 32 j (q6 j)), I.tr t (fun i => F.r 26 i) (fun j => F.2 59 j (q2 j)) (fun j => F.2 60 j (q3 j)), l.tr t (fun i _ => F.r 25 i)⟩
  · rw [w2] at hx
    obtain ⟨L, l1', a, a1, a2⟩ := KK.2.1 x hx
    exact ⟨L, l1'.w w1, a, (F.r 25 x).trans a1, a2.ofFr F q1⟩
  · rw [F.2 39 2 q7]
    exact KK.2.2.1
  · rw [F.2 39 3 q8]
    exact KK.2.2.2
theorem nQ_sC : nQ sC := by
  refine ⟨fun b j hb => ?_, fun j => rfl, fun j => rfl, fun j => rfl, fun j => rfl, fun j => rfl, rfl, rfl⟩
  unfold sC
  split <;> first | omega | rfl
theorem R_Sim {h k : QH} {W : Nat → Nat} {c : Nat} {T : Nat → Nat} (r : R h W c T) (hc : c < 100000) (s : Sim h k W c T) : ∃ W' c' T', R k W' c' T' ∧ c' ≤ c + 1 ∧ Fr sC h k := by
  obtain ⟨W', c', T', K, F, w1, w2, cc⟩ := s
  have st : stp W W' c c' := cc
  obtain ⟨b1, b2, b3, b4⟩ := R_base r K F nQ_sC w1 w2
  obtain ⟨_, _, _, p1, p2, p3, p4⟩ := r
  refine ⟨W', c', T', ⟨b1, b2, ⟨b3, b4⟩, ⟨p1.step st hc (fun b j h1 h2 => F.2 b j ?_), p2.step st hc (fun j h1 h2 => F.2 56 j ?_) (fun j => F.2 74 j rfl), p3.step st hc (fun j _ => F.2 45 j rfl) (fun j => F.2 46 j rfl), p4.of (fun j => F.2 52 j rfl) (fun j => F.2 53 j rfl) (F.2 56 42 rfl) (F.2 56 43 rfl) (fun j => F.2 78 j rfl)⟩⟩, st.le.2, F⟩
  · have : b = 40 ∨ b = 41 ∨ b = 42 ∨ b = 43 ∨ b = 44 := by omega
    rcases this with e | e | e | e | e <;> subst e <;> rfl
  · have : j = 35 ∨ j = 36 ∨ j = 37 ∨ j = 38 := by omega
    rcases this with e | e | e | e <;> subst e <;> rfl

/-! image -/
def FI (h k : QH) : Prop := (∀ b j, 26 ≤ b → b < 79 → b ≠ 58 → b ≠ 59 → b ≠ 60 → (b ≠ 56 ∨ (j ≠ 0 ∧ j ≠ 1)) → hI k b j = hI h b j) ∧ (∀ b j, b < 79 → b ≠ 25 → b ≠ 26 → hR k b j = hR h b j) ∧ ∀ b, b < hN h → k.2.2.1 b = h.2.2.1 b
def ImR (h k : QH) : Prop := (hN k = hN h ∧ hS k = hS h ∧ ∀ i, hR k 26 i = hR h 26 i) ∨ ∃ i, i < 2 ∧ hR h 26 i = none ∧ hR k 26 i ≠ none ∧ hN k = hN h + 15 ∧ hS k = hS h + 434 ∧ ∀ j, j ≠ i → hR k 26 j = hR h 26 j
def ImP (h k : QH) (W : Nat → Nat) (c : Nat) (T : Nat → Nat) : Prop := ∃ W', K1 k W' (c + 1) T ∧ IMs k ∧ LW1 k 11 ∧ FI h k ∧ ImR h k
theorem Sh.ws {h : QH} (H : Sh h) : WS h 11 := by
  have r : ∀ q ∈ shR, hR h q.1 q.2.1 = some q.2.2 := H.2.2
  have h79 := H.1
  refine ⟨⟨by decide, by omega⟩, fun i hi => H.2.1 (11 + i) (by omega) (by omega), ⟨?_, ?_, ?_, ?_⟩, ⟨?_, ?_, ?_, ?_⟩, ?_, ⟨?_, ?_, ?_, ?_, ?_⟩⟩
  · exact r (11, 0, 12) (by decide)
  · exact r (11, 1, 17) (by decide)
  · exact r (11, 2, 19) (by decide)
  · exact r (11, 3, 25) (by decide)
  · exact r (12, 2, 13) (by decide)
  · exact r (12, 3, 14) (by decide)
  · exact r (12, 4, 15) (by decide)
  · exact r (12, 5, 16) (by decide)
  · exact r (17, 1, 18) (by decide)
  · exact r (19, 1, 20) (by decide)
  · exact r (19, 2, 21) (by decide)
  · exact r (19, 3, 22) (by decide)
  · exact r (19, 4, 23) (by decide)
  · exact r (19, 5, 24) (by decide)
theorem kv_eq {h : QH} {W : Nat → Nat} (M : MK h W) {j : Nat} (hj : j < 5220) : hI h 58 j = kv W j := M j hj
/-- the world is kept as image i, which lies at A in g -/
theorem im_fin {h g fh : QH} {W : Nat → Nat} {c : Nat} {T : Nat → Nat} {i A : Nat} (KK : K1 h W c T) (I : IMs h) (l1 : LW1 h 11) (hi : i < 2) (hA : 79 ≤ A) (n1 : hN h ≤ hN g) (s1' : ∀ b, b < hN h → g.2.2.1 b = h.2.2.1 b) (wA : WS g A) (cA : CW g A W) (rA : ∀ j, j < 6 → hR g (A + 14) j = hR h 25 j) (gi : ∀ b j, b < hN h → (b < A ∨ A + 15 ≤ b) → hI g b j = hI h b j) (gr : ∀ b j, b < hN h → (b < A ∨ A + 15 ≤ b) → (b ≠ 26 ∨ j ≠ i) → hR g b j = hR h b j) (g26 : hR g 26 i = some A) (sp : ∀ a, LG h a → a + 3 < A ∨ A + 15 ≤ a) (dsj : ∀ B, hR h 26 (1 - i) = some B → A + 15 ≤ B ∨ B + 15 ≤ A) (f0 : fh.1 = g.1 ∧ fh.2.1 = g.2.1 ∧ fh.2.2.1 = g.2.2.1 ∧ fh.2.2.2.2 = g.2.2.2.2) (fi : ∀ b j, b ≠ 59 → b ≠ 60 → hI fh b j = hI (okM' (okC' g)) b j) (f59 : ∀ x, x < 5220 → hI fh 59 (5220 * i + x) = hI g 58 x) (f59' : ∀ x, x < 5220 → hI fh 59 (5220 * (1 - i) + x) = hI g 59 (5220 * (1 - i) + x)) (f60 : hI fh 60 i = nZ 1) (f60' : hI fh 60 (1 - i) = hI g 60 (1 - i)) : K1 fh W (c + 1) T ∧ IMs fh ∧ LW1 fh 11 ∧ FI h fh := by
  have K := KK.1
  have H := K.sh
  have h79 := H.1
  have nf : hN fh = hN g := f0.1
  have rf : ∀ b j, hR fh b j = hR g b j := fun b j => congrFun (congrFun f0.2.2.2 b) j
  have sf : ∀ b, fh.2.2.1 b = g.2.2.1 b := fun b => congrFun f0.2.2.1 b
  have ok : ∀ b j, b ≠ 10 → b ≠ 56 → hI (okM' (okC' g)) b j = hI g b j := fun b j h1 h2 => by
    unfold okM' okC'
    rw [hI_ne (Or.inl h2), hI_ne (Or.inl h2), hI_ne (Or.inl h1), hI_ne (Or.inl h1)]
  have Hg : Sh g := H.tr n1 (fun b hb => s1' b (by omega)) (fun b j h1 h2 h3 => gr b j (by omega) (by omega) (Or.inl h3))
  have Hf : Sh fh := Hg.tr (by rw [nf]; exact Nat.le_refl _) (fun b _ => sf b) (fun b j _ _ _ => rf b j)
  have Kg : K0 g W c T := K.gen Hg K.wi (K.mk.of (fun j => gi 58 j (by omega) (by omega))) (K.2.2.2.2.1.o (fun b j h1 h2 => gi b j (by omega) (by omega))) (fun b j h1 _ _ _ _ => gi b j (by omega) (by omega))
  have Kok := K0_ok Kg
  have Kf : K0 fh W (c + 1) T := Kok.gen Hf K.wi (Kok.mk.of (fun j => fi 58 j (by decide) (by decide))) (Kok.2.2.2.2.1.o (fun b j h1 h2 => fi b j (by omega) (by omega))) (fun b j h1 _ _ h3 h4 => fi b j h3 h4)
  have tr : TRN h fh A := by
    refine ⟨by omega, fun b hb => (sf b).trans (s1' b hb), fun b j h1 h2 h3 => ⟨?_, ?_⟩⟩
    · rw [fi b j (by omega) (by omega), ok b j (by omega) (by omega)]
      exact gi b j h2 h3
    · rw [rf]
      exact gr b j h2 h3 (Or.inl (by omega))
  have r25 : ∀ t, hR fh 25 t = hR h 25 t := fun t => by
    rw [rf]
    exact gr 25 t (by omega) (by omega) (Or.inl (by decide))
  have L1f : LW1 fh 11 := fun t a ht e => by
    have e' : hR fh 25 t = some a := e
    rw [r25] at e'
    have g' := l1 t a ht e'
    exact g'.tr tr (sp a g')
  have w6 : W 411 ≤ 6 := K.wi.1 411 (by decide) (by decide)
  have LWf : ∀ (X : Nat), (∀ t, t < 6 → hR fh (X + 14) t = hR h 25 t) → LWx fh X W := fun X hX t ht => by
    obtain ⟨L, q1, a, q2, q3⟩ := KK.2.1 t ht
    have g' := l1 t a (by omega) q2
    refine ⟨L, q1, a, ?_, q3.tr g' tr (sp a g')⟩
    rw [hX t (by omega)]
    exact q2
  have rAf : ∀ t, t < 6 → hR fh (A + 14) t = hR h 25 t := fun t ht => by
    rw [rf]
    exact rA t ht
  have wf : WS fh A := wA.of (by rw [nf]; exact Nat.le_refl _) (fun b _ _ => sf b) (fun b j _ => rf b j)
  have new : IM1 fh i := by
    refine Or.inr ⟨A, W, by rw [rf]; exact g26, ⟨hA, wf, cA.o (fun b j h1 h2 => ?_), K.wi, fun t a ht e => ?_, LWf A rAf⟩, f60, fun j hj => ?_⟩
    · rw [fi b j (by omega) (by omega), ok b j (by omega) (by omega)]
    · rw [rAf t ht] at e
      have g' := l1 t a ht e
      exact g'.tr tr (sp a g')
    · rw [f59 j hj, gi 58 j (by omega) (by omega)]
      exact kv_eq K.mk hj
  have oth : IM1 fh (1 - i) := by
    have o0 : IM1 h (1 - i) := by
      have : i = 0 ∨ i = 1 := by omega
      rcases this with e | e
      · rw [e]
        exact I.2.1
      · rw [e]
        exact I.1
    have r26 : hR fh 26 (1 - i) = hR h 26 (1 - i) := by
      rw [rf]
      exact gr 26 (1 - i) (by omega) (by omega) (Or.inr (by omega))
    have e60 : hI fh 60 (1 - i) = hI h 60 (1 - i) := by
      rw [f60']
      exact gi 60 _ (by omega) (by omega)
    rcases o0 with ⟨q1, q2⟩ | ⟨B, V, q1, q2, q3, q4⟩
    · exact Or.inl ⟨by rw [r26]; exact q1, by rw [e60]; exact q2⟩
    · refine Or.inr ⟨B, V, by rw [r26]; exact q1, q2.tr tr ?_ sp, by rw [e60]; exact q3, fun j hj => ?_⟩
      · have := dsj B q1
        omega
      · rw [f59' j hj, gi 59 _ (by omega) (by omega)]
        exact q4 j hj
  refine ⟨⟨Kf, LWf 11 (fun t _ => r25 t), ?_, ?_⟩, ⟨?_, ?_, ?_⟩, L1f, ⟨fun b j h1 h2 h3 h4 h5 h6 => ?_, fun b j h1 h2 h3 => ?_, fun b hb => (sf b).trans (s1' b hb)⟩⟩
  · rw [fi 39 2 (by decide) (by decide), ok 39 2 (by decide) (by decide), gi 39 2 (by omega) (by omega)]
    exact KK.2.2.1
  · rw [fi 39 3 (by decide) (by decide), ok 39 3 (by decide) (by decide), gi 39 3 (by omega) (by omega)]
    exact KK.2.2.2
  · have : i = 0 ∨ i = 1 := by omega
    rcases this with e | e
    · rw [e] at new
      exact new
    · rw [e] at oth
      exact oth
  · have : i = 0 ∨ i = 1 := by omega
    rcases this with e | e
    · rw [e] at oth
      exact oth
    · rw [e] at new
      exact new
  · intro X Y hX hY
    rw [rf] at hX hY
    have : i = 0 ∨ i = 1 := by omega
    rcases this with e | e
    · subst e
      rw [g26] at hX
      rw [gr 26 1 (by omega) (by omega) (Or.inr (by decide))] at hY
      have := dsj Y hY
      have e2 := Option.some.inj hX
      omega
    · subst e
      rw [g26] at hY
      rw [gr 26 0 (by omega) (by omega) (Or.inr (by decide))] at hX
      have := dsj X hX
      have e2 := Option.some.inj hY
      omega
  · rw [fi b j h4 h5]
    unfold okM' okC'
    rw [hI_ne (by omega), hI_ne (by omega), hI_ne (by omega), hI_ne (by omega)]
    exact gi b j (by omega) (by omega)
  · rw [rf]
    exact gr b j (by omega) (by omega) (Or.inl h3)

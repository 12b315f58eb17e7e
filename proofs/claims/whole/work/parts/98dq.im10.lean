/-! back: the call -/
theorem op_back {h : QH} {W : Nat → Nat} {c : Nat} {T : Nat → Nat} (KK : K1 h W c T) (I : IMs h) (d : Nat) (a1 : Int32) : Op (d + 120) 15 171 [qI a1] h (fun k => Sim h k W c T ∨ ImP h k W c T) := by
  have K := KK.1
  have H := K.sh
  have h79 := H.1
  have z00 : nZ 0 = (0 : Int32) := rfl
  have z10 : ¬(nZ 1 = (0 : Int32)) := by decide
  have e218 : ∀ k, qcl (d + 119) 218 [qI a1, qI 0, qI 1] k = some (some (qI (bI (inR a1 0 1))), k) := fun k => m218 (d + 118) a1 0 1 (by decide) (by decide) k
  by_cases h1 : inR a1 0 1
  case neg =>
    obtain ⟨k1, k2, e43, e244, sim, Hk⟩ := Sim_ref1 K (d + 117)
    have e244' : qcl (d + 119) 244 [qR (some 56), qI (-1)] k1 = some (some (qI (-1)), k2) := by
      have := m244_1 Hk (d + 118)
      have e : qcl (d + 118) 244 [qR (some 56), qI (-1)] k1 = some (some (qI (-1)), rfM k1 (-nZ 1) 1) := m244_1 Hk (d + 117)
      have q := e244.symm.trans e
      injection q with q
      injection q with q1 q2
      rw [q2]
      exact this
    have e218' := e218 k1
    rw [bI_f h1] at e218'
    refine ⟨-1, k1, k2, ?_, ?_, Or.inl sim⟩
    · rcases out01 h1 with c1' | ⟨c1', c2'⟩
      · rw [E15, ck10 H, ob_some, if_pos c1', e43, jI]
      · rw [E15, ck10 H, ob_some, if_neg c1', if_neg c2', e43, jI]
    · rw [E171, ck56 Hk, ob_some, e218', jI, if_pos z00, e244', jI]
  obtain ⟨i, -, hi', rfl⟩ := inR_ex h1
  have hi : i < 2 := by omega
  have n1 : ¬(nZ i < 0) := by
    rw [L0, nZ_lt (by omega) (by decide)]
    omega
  have n2 : nZ i < 2 := by
    rw [L2, nZ_lt (by omega) (by decide)]
    omega
  have ar := R26 H hi
  have w11 := H.ws
  have o0 : IM1 h i := by
    have : i = 0 ∨ i = 1 := by omega
    rcases this with e | e
    · rw [e]
      exact I.1
    · rw [e]
      exact I.2.1
  rcases o0 with ⟨q1, q2⟩ | ⟨A, V, q1, ⟨i1, i2, i3, i4, i5, i6⟩, q3, q4⟩
  · obtain ⟨k1, k2, e43, e244, sim, Hk, k60⟩ := Sim_ref2 K (d + 117)
    have e244' : qcl (d + 119) 244 [qR (some 56), qI (-2)] k1 = some (some (qI (-2)), k2) := by
      have := m244_2 Hk (d + 118)
      have e : qcl (d + 118) 244 [qR (some 56), qI (-2)] k1 = some (some (qI (-2)), rfM k1 (-nZ 2) 2) := m244_2 Hk (d + 117)
      have q := e244.symm.trans e
      injection q with q
      injection q with q1 q2
      rw [q2]
      exact this
    have e218' := e218 k1
    rw [bI_t h1] at e218'
    have v60 : hI k1 60 i = nZ 0 := (k60 i).trans q2
    refine ⟨-2, k1, k2, ?_, ?_, Or.inl sim⟩
    · rw [E15, ck10 H, ob_some, if_neg n1, if_pos n2, g10_1 H, ob_some, ob_some, ar, ob_some, q1, if_pos rfl, e43, jI]
    · rw [E171, ck56 Hk, ob_some, e218', jI, if_neg z10, g56_5 Hk, ob_some, ob_some, A60 Hk hi, ob_some, v60, if_pos z00, e244', jI]
  have ns : ¬((some A : Option Nat) = none) := fun z => by cases z
  have nA := i2.1.2
  obtain ⟨k, e160, O, C, R⟩ := c160 (d + 117) w11 i2 (by omega) i5.f i3
  have Hk : Sh k := H.tr (by rw [O.1]; exact Nat.le_refl _) (fun b _ => by rw [O.2.2.1]) (fun b j hb h2 _ => O.2.2.2.2 b j h2)
  have Hc : Sh (okC' k) := Hk
  obtain ⟨k5, e33, F5, g1, g2⟩ := m171_33 (d + 118) i hi 5220 0 (okC' k) (by decide) Hc
  have e218' := e218 (okC' k)
  rw [bI_t h1] at e218'
  have ck' : ∀ b j, b ≠ 10 → hI (okC' k) b j = hI k b j := fun b j hb => by
    unfold okC'
    rw [hI_ne (Or.inl hb), hI_ne (Or.inl hb)]
  have v60 : hI (okC' k) 60 i = nZ 1 := by
    rw [ck' 60 i (by decide), O.2.2.2.1 60 i (by omega)]
    exact q3
  have o5 : ∀ b j, b ≠ 58 → hI k5 b j = hI (okC' k) b j := fun b j hb => F5.2 b j (fO_ne hb)
  have rf : ∀ b j, hR (okM' k5) b j = hR k b j := fun b j => F5.r b j
  have nf : hN (okM' k5) = hN h := F5.1.1.trans O.1
  have sf : ∀ b, (okM' k5).2.2.1 b = h.2.2.1 b := fun b => by
    show k5.2.2.1 b = _
    rw [F5.1.2.2.1]
    show k.2.2.1 b = _
    rw [O.2.2.1]
  have om : ∀ b j, b ≠ 10 → b ≠ 56 → b ≠ 58 → hI (okM' k5) b j = hI k b j := fun b j h1 h2 h3 => by
    unfold okM'
    rw [hI_ne (Or.inl h2), hI_ne (Or.inl h2), o5 b j h3, ck' b j h1]
  have Hf : Sh (okM' k5) := H.tr (by omega) (fun b _ => sf b) (fun b j hb h2 _ => by
    rw [rf]
    exact O.2.2.2.2 b j h2)
  have base : ∀ b j, b < 79 → (b < 11 ∨ 26 ≤ b) → b ≠ 58 → hI (okM' k5) b j = hI (okM' (okC' h)) b j := fun b j h1 h2 h3 => by
    have kk : ∀ b j, (b < 11 ∨ 26 ≤ b) → hI (okC' k) b j = hI (okC' h) b j := fun b j hb => by
      unfold okC'
      rw [O.2.2.2.1 10 10 (by omega)]
      simp only [hI_si]
      rw [O.2.2.2.1 b j (by omega)]
    unfold okM'
    rw [o5 56 1 (by decide), kk 56 1 (by omega)]
    simp only [hI_si]
    rw [o5 b j h3, kk b j h2]
  have mkf : MK (okM' k5) V := fun j hj => by
    have e : hI (okM' k5) 58 j = hI k5 58 j := by
      unfold okM'
      rw [hI_ne (by omega), hI_ne (by omega)]
    rw [e, g1 j (Nat.zero_le _) hj, ck' 59 _ (by decide), O.2.2.2.1 59 _ (by omega)]
    exact q4 j hj
  have cwf : CW (okM' k5) 11 V := C.o (fun b j h1 h2 => om b j (by omega) (by omega) (by omega))
  have Kf : K0 (okM' k5) V (c + 1) T := (K0_ok K).gen Hf i4 mkf cwf (fun b j h1 h2 h3 _ _ => base b j h1 h2 h3)
  have tr : TRN h (okM' k5) (hN h) := ⟨by omega, fun b _ => sf b, fun b j h1 h2 _ => ⟨by
    rw [om b j (by omega) (by omega) (by omega)]
    exact O.2.2.2.1 b j (by omega), by
    rw [rf]
    exact O.2.2.2.2 b j (by omega)⟩⟩
  have sp : ∀ a, LG h a → a + 3 < hN h ∨ hN h + 15 ≤ a := fun a g => Or.inl g.1.2
  have r25 : ∀ t, t < 6 → hR (okM' k5) (11 + 14) t = hR h (A + 14) t := fun t ht => by
    rw [rf]
    exact R t ht
  have r26 : ∀ t, hR (okM' k5) 26 t = hR h 26 t := fun t => by
    rw [rf]
    exact O.2.2.2.2 26 t (by decide)
  have imt : ∀ x, IM1 h x → IM1 (okM' k5) x := fun x o => by
    have e60 : hI (okM' k5) 60 x = hI h 60 x := by
      rw [om 60 x (by decide) (by decide) (by decide)]
      exact O.2.2.2.1 60 x (by omega)
    rcases o with ⟨u1, u2⟩ | ⟨B, U, u1, u2, u3, u4⟩
    · exact Or.inl ⟨by rw [r26]; exact u1, by rw [e60]; exact u2⟩
    · refine Or.inr ⟨B, U, by rw [r26]; exact u1, u2.tr tr (Or.inl u2.2.1.1.2) sp, by rw [e60]; exact u3, fun j hj => ?_⟩
      rw [om 59 _ (by decide) (by decide) (by decide), O.2.2.2.1 59 _ (by omega)]
      exact u4 j hj
  have v6 : V 411 ≤ 6 := i4.1 411 (by decide) (by decide)
  refine ⟨0, okC' k, okM' k5, ?_, ?_, Or.inr ⟨V, ⟨Kf, fun t ht => ?_, ?_, ?_⟩, ⟨imt 0 I.1, imt 1 I.2.1, fun X Y hX hY => ?_⟩, fun t a ht e => ?_, ⟨fun b j h1 h2 h3 h4 h5 h6 => ?_, fun b j h1 h2 _ => ?_, fun b _ => sf b⟩, Or.inl ⟨nf, ?_, r26⟩⟩⟩
  · rw [E15, ck10 H, ob_some, if_neg n1, if_pos n2, g10_1 H, ob_some, ob_some, ar, ob_some, q1, if_neg ns, g10_0 H, ob_some, ob_some, ob_some, ar, ob_some, q1, e160, jV, c10 Hk (d + 118), jI]
  · rw [E171, ck56 Hc, ob_some, e218', jI, if_neg z10, g56_5 Hc, ob_some, ob_some, A60 Hc hi, ob_some, v60, if_neg z10]
    exact e33
  · obtain ⟨L, l1', a, l2', l3'⟩ := i6 t ht
    have g := i5 t a (by omega) l2'
    exact ⟨L, l1', a, (r25 t (by omega)).trans l2', l3'.tr g tr (sp a g)⟩
  · rw [base 39 2 (by decide) (by decide) (by decide)]
    unfold okM' okC'
    rw [hI_ne (by omega), hI_ne (by omega), hI_ne (by omega), hI_ne (by omega)]
    exact KK.2.2.1
  · rw [base 39 3 (by decide) (by decide) (by decide)]
    unfold okM' okC'
    rw [hI_ne (by omega), hI_ne (by omega), hI_ne (by omega), hI_ne (by omega)]
    exact KK.2.2.2
  · rw [r26] at hX hY
    exact I.2.2 X Y hX hY
  · rw [r25 t ht] at e
    have g := i5 t a ht e
    exact g.tr tr (sp a g)
  · rw [base b j h2 (Or.inr h1) h3]
    unfold okM' okC'
    rw [hI_ne (by omega), hI_ne (by omega), hI_ne (by omega), hI_ne (by omega)]
  · rw [rf]
    exact O.2.2.2.2 b j h2
  · exact F5.1.2.1.trans O.2.1

/-! image: the call -/
theorem Sim_ref1 {h : QH} {W : Nat → Nat} {c : Nat} {T : Nat → Nat} (K : K0 h W c T) (d : Nat) : ∃ h1 h2, qcl (d + 2) 43 [qR (some 10), qI (-1)] h = some (some (qI (-1)), h1) ∧ qcl (d + 1) 244 [qR (some 56), qI (-1)] h1 = some (some (qI (-1)), h2) ∧ Sim h h2 W c T ∧ Sh h1 := ⟨rfC h (-nZ 1) 0, rfM (rfC h (-nZ 1) 0) (-nZ 1) 1, c43_1 K.sh d, m244_1 (h := rfC h (-nZ 1) 0) K.sh d, Sim_ref K (-nZ 1) (by decide), K.sh⟩
theorem Sim_ref2 {h : QH} {W : Nat → Nat} {c : Nat} {T : Nat → Nat} (K : K0 h W c T) (d : Nat) : ∃ h1 h2, qcl (d + 2) 43 [qR (some 10), qI (-2)] h = some (some (qI (-2)), h1) ∧ qcl (d + 1) 244 [qR (some 56), qI (-2)] h1 = some (some (qI (-2)), h2) ∧ Sim h h2 W c T ∧ Sh h1 ∧ ∀ j, hI h1 60 j = hI h 60 j := ⟨rfC h (-nZ 2) 1, rfM (rfC h (-nZ 2) 1) (-nZ 2) 2, c43_2 K.sh d, m244_2 (h := rfC h (-nZ 2) 1) K.sh d, Sim_ref K (-nZ 2) (by decide), K.sh, fun j => by
  unfold rfC
  rw [hI_ne (by omega), hI_ne (by omega)]⟩
theorem out01 {x : Int32} (h : ¬inR x 0 1) : x < 0 ∨ (¬(x < 0) ∧ ¬(x < 2)) := by
  rcases out_c h (by decide) (by decide) with e | ⟨e1, e2⟩
  · left
    have e' : x < nZ 0 := cast e.symm trivial
    exact e'
  · right
    refine ⟨fun z => cast e1 z, fun z => ?_⟩
    have q : nZ 1 < x := cast e2.symm trivial
    have h1 : (nZ 1).toInt < x.toInt := Int32.lt_iff_toInt_lt.1 q
    have h2 : x.toInt < (2 : Int32).toInt := Int32.lt_iff_toInt_lt.1 z
    have h3 : (nZ 1).toInt = 1 := by decide
    have h4 : (2 : Int32).toInt = 2 := by decide
    omega
theorem op_image {h : QH} {W : Nat → Nat} {c : Nat} {T : Nat → Nat} (KK : K1 h W c T) (I : IMs h) (l1 : LW1 h 11) (d : Nat) (a1 : Int32) : Op (d + 120) 32 198 [qI a1] h (fun k => Sim h k W c T ∨ ImP h k W c T) := by
  have K := KK.1
  have H := K.sh
  have h79 := H.1
  have z00 : nZ 0 = (0 : Int32) := rfl
  have z10 : ¬(nZ 1 = (0 : Int32)) := by decide
  have e218 : ∀ k, qcl (d + 119) 218 [qI a1, qI 0, qI 1] k = some (some (qI (bI (inR a1 0 1))), k) := fun k => m218 (d + 118) a1 0 1 (by decide) (by decide) k
  by_cases h1 : inR a1 0 1
  case neg =>
    obtain ⟨k1, k2, e43, e244, sim, Hk⟩ := Sim_ref1 K (d + 117)
    have e244' : qcl (d + 119) 244 [qR (some 56), qI (-1)] k1 = some (some (qI (-1)), k2) := by
      have := m244_1 Hk (d + 118)
      have e : qcl (d + 118) 244 [qR (some 56), qI (-1)] k1 = some (some (qI (-1)), rfM k1 (-nZ 1) 1) := m244_1 Hk (d + 117)
      have q := e244.symm.trans e
      injection q with q
      injection q with q1 q2
      rw [q2]
      exact this
    have e218' := e218 k1
    rw [bI_f h1] at e218'
    refine ⟨-1, k1, k2, ?_, ?_, Or.inl sim⟩
    · rcases out01 h1 with c1' | ⟨c1', c2'⟩
      · rw [E32, ck10 H, ob_some, if_pos c1', e43, jI]
      · rw [E32, ck10 H, ob_some, if_neg c1', if_neg c2', e43, jI]
    · rw [E198, ck56 Hk, ob_some, e218', jI, if_pos z00, e244', jI]
  obtain ⟨i, -, hi', rfl⟩ := inR_ex h1
  have hi : i < 2 := by omega
  have n1 : ¬(nZ i < 0) := by
    rw [L0, nZ_lt (by omega) (by decide)]
    omega
  have n2 : nZ i < 2 := by
    rw [L2, nZ_lt (by omega) (by decide)]
    omega
  have ar := R26 H hi
  have w11 := H.ws
  -- the end of it, once g is there
  have fin : ∀ g A, Sh g → (79 ≤ A) → hN h ≤ hN g → (∀ b, b < hN h → g.2.2.1 b = h.2.2.1 b) → WS g A → CW g A W → (∀ j, j < 6 → hR g (A + 14) j = hR h 25 j) → (∀ b j, b < hN h → (b < A ∨ A + 15 ≤ b) → hI g b j = hI h b j) → (∀ b j, b < hN h → (b < A ∨ A + 15 ≤ b) → (b ≠ 26 ∨ j ≠ i) → hR g b j = hR h b j) → hR g 26 i = some A → (∀ a, LG h a → a + 3 < A ∨ A + 15 ≤ a) → (∀ B, hR h 26 (1 - i) = some B → A + 15 ≤ B ∨ B + 15 ≤ A) → ImR h g → qcl (d + 120) 32 [qR (some 10), qI (nZ i)] h = some (some (qI 0), okC' g) → Op (d + 120) 32 198 [qI (nZ i)] h (fun k => Sim h k W c T ∨ ImP h k W c T) := by
    intro g A Hg hA q1 q2 q3 q4 q5 q6 q7 q8 q9 q10 q11 q12
    have Hc : Sh (okC' g) := Hg
    obtain ⟨k5, e17, F5, g1, g2⟩ := m198_17 (d + 118) i hi 5220 0 (okC' g) (by decide) Hc
    have e218' := e218 (okC' g)
    rw [bI_t h1] at e218'
    have c58 : ∀ b j, b ≠ 10 → hI (okC' g) b j = hI g b j := fun b j hb => by
      unfold okC'
      rw [hI_ne (Or.inl hb), hI_ne (Or.inl hb)]
    have o5 : ∀ b j, b ≠ 59 → hI k5 b j = hI (okC' g) b j := fun b j hb => F5.2 b j (fO_ne hb)
    have res := im_fin (fh := okM' (hsI k5 60 i (nZ 1))) KK I l1 hi hA q1 q2 q3 q4 q5 q6 q7 q8 q9 q10 ⟨F5.1.1, F5.1.2.1, F5.1.2.2.1, F5.1.2.2.2⟩ (fun b j hb hb' => by
      unfold okM'
      rw [hI_ne (b := 56) (j := 1) (by omega), o5 56 1 (by decide)]
      simp only [hI_si]
      by_cases x1 : b = 56 ∧ j = 1
      · rw [if_pos x1, if_pos x1]
      · rw [if_neg x1, if_neg x1]
        by_cases x2 : b = 56 ∧ j = 0
        · rw [if_pos x2, if_pos x2]
        · rw [if_neg x2, if_neg x2, if_neg (fun z => hb' z.1)]
          exact o5 b j hb) (fun x hx => by
      unfold okM'
      rw [hI_ne (by omega), hI_ne (by omega), hI_ne (by omega), g1 x (Nat.zero_le _) hx]
      exact c58 58 x (by decide)) (fun x hx => by
      unfold okM'
      rw [hI_ne (by omega), hI_ne (by omega), hI_ne (by omega), g2 _ (by omega)]
      exact c58 59 _ (by decide)) (by
      unfold okM'
      rw [hI_ne (by omega), hI_ne (by omega), hI_at rfl]) (by
      unfold okM'
      rw [hI_ne (by omega), hI_ne (by omega), hI_ne (by omega), o5 60 _ (by decide)]
      exact c58 60 _ (by decide))
    obtain ⟨r1, r2, r3, r4⟩ := res
    refine ⟨0, okC' g, okM' (hsI k5 60 i (nZ 1)), q12, ?_, Or.inr ⟨W, r1, r2, r3, r4, ?_⟩⟩
    · rw [E198, ck56 Hc, ob_some, e218', jI, if_neg z10]
      exact e17
    · have rf : ∀ b j, hR (okM' (hsI k5 60 i (nZ 1))) b j = hR g b j := fun b j => F5.r b j
      have nf : hN (okM' (hsI k5 60 i (nZ 1))) = hN g := F5.1.1
      have sf : hS (okM' (hsI k5 60 i (nZ 1))) = hS g := F5.1.2.1
      rcases q11 with ⟨u1, u2, u3⟩ | ⟨x, u1, u2, u3, u4, u5, u6⟩
      · exact Or.inl ⟨nf.trans u1, sf.trans u2, fun j => (rf 26 j).trans (u3 j)⟩
      · exact Or.inr ⟨x, u1, u2, by rw [rf]; exact u3, nf.trans u4, sf.trans u5, fun j hj => (rf 26 j).trans (u6 j hj)⟩
  cases e26 : hR h 26 i with
  | none =>
    obtain ⟨k1, e159, nk, sk, old, wk', lk⟩ := c159 (h := h) (by omega) (d + 117)
    have Hk1 : Sh k1 := H.tr (by omega) (fun b hb => (old b (by omega)).1) (fun b j hb _ _ => ((old b (by omega)).2 j).2)
    have t26 : hT k1 26 = 4 ∧ hL k1 26 = 2 := ⟨Hk1.t (by decide) (by decide) rfl, Hk1.l (by decide) (by decide) rfl⟩
    have tA : hT k1 (hN h) = 26 := (wk'.t (i := 0) (t := 26) (n := 6) (by decide) rfl).1
    have sr : qsr 26 (nZ i) (some (hN h)) k1 = some (hsR k1 26 i (some (hN h))) := by
      have e1 : (nZ i).toNatClampNeg = i := nZ_nat (by omega)
      have e0 : (0 : Int32) ≤ nZ i := by
        rw [L0, nZ_le (by decide) (by omega)]
        omega
      have : qsr 26 (nZ i) (some (hN h)) k1 = some (hsR k1 26 (nZ i).toNatClampNeg (some (hN h))) := if_pos ⟨⟨by decide, Hk1.n (by decide)⟩, Or.inl t26.1, e0, by rw [e1, t26.2]; exact hi, by
        rw [t26.1]
        exact decide_eq_true ⟨⟨by omega, by omega⟩, Or.inl ⟨rfl, tA⟩⟩⟩
      rw [this, e1]
    have Hk2 : Sh (hsR k1 26 i (some (hN h))) := Hk1.tr (Nat.le_refl _) (fun b _ => rfl) (fun b j _ _ h3 => by
      rw [hR_sR, if_neg (fun z => h3 z.1)])
    have wA2 : WS (hsR k1 26 i (some (hN h))) (hN h) := wk'.of (Nat.le_refl _) (fun b _ _ => rfl) (fun b j hb => by
      rw [hR_sR, if_neg (by omega)])
    have w11' := Hk2.ws
    have ar2 : qar 26 (nZ i) (hsR k1 26 i (some (hN h))) = some (some (hN h)) := by
      rw [R26 Hk2 hi, hR_sR, if_pos ⟨rfl, rfl⟩]
    have r25 : ∀ t, hR (hsR k1 26 i (some (hN h))) 25 t = hR h 25 t := fun t => by
      rw [hR_sR, if_neg (by omega)]
      exact ((old 25 (by omega)).2 t).2
    have lw2 : lwF (hsR k1 26 i (some (hN h))) 11 := fun t ht => by
      have e : hR (hsR k1 26 i (some (hN h))) (11 + 14) t = hR h 25 t := r25 t
      rw [e]
      exact qfit_of (l1.f t ht) (by show hN h ≤ hN k1; omega) (fun b hb => (old b hb).1)
    have C2 : CW (hsR k1 26 i (some (hN h))) 11 W := K.2.2.2.2.1.o (fun b j h1 h2 => ((old b (by omega)).2 j).1)
    obtain ⟨k3, e160, O3, C3, R3⟩ := c160 (d + 117) wA2 w11' (by omega) lw2 C2
    have Hk3 : Sh k3 := Hk2.tr (by rw [O3.1]; exact Nat.le_refl _) (fun b _ => by rw [O3.2.2.1]) (fun b j hb _ _ => O3.2.2.2.2 b j (by omega))
    have nk3 : hN k3 = hN h + 15 := O3.1.trans nk
    refine fin k3 (hN h) Hk3 h79 (by omega) (fun b hb => ?_) (wA2.wo O3 (Or.inl rfl)) C3 (fun j hj => ?_) (fun b j hb _ => ?_) (fun b j hb _ h3 => ?_) ?_ (fun a g => Or.inl (by have := g.1; omega)) (fun B q => ?_) (Or.inr ⟨i, hi, e26, ?_, nk3, O3.2.1.trans sk, fun j hj => ?_⟩) ?_
    · rw [O3.2.2.1]
      exact (old b hb).1
    · rw [R3 j hj]
      exact r25 j
    · rw [O3.2.2.2.1 b j (Or.inl hb)]
      exact ((old b hb).2 j).1
    · rw [O3.2.2.2.2 b j (by omega), hR_sR, if_neg (by omega)]
      exact ((old b hb).2 j).2
    · rw [O3.2.2.2.2 26 i (by omega), hR_sR, if_pos ⟨rfl, rfl⟩]
    · have o0 : IM1 h (1 - i) := by
        have : i = 0 ∨ i = 1 := by omega
        rcases this with e | e
        · rw [e]
          exact I.2.1
        · rw [e]
          exact I.1
      rcases o0 with ⟨q1, _⟩ | ⟨B', V, q1, q2, _⟩
      · rw [q1] at q
        cases q
      · have e := Option.some.inj (q1.symm.trans q)
        have := q2.2.1.1.2
        omega
    · rw [O3.2.2.2.2 26 i (by omega), hR_sR, if_pos ⟨rfl, rfl⟩]
      exact fun z => by cases z
    · rw [O3.2.2.2.2 26 j (by omega), hR_sR, if_neg (fun z => hj z.2)]
      exact ((old 26 (by omega)).2 j).2
    · have e159' : qcl (d + 119) 159 [qR (some (hN h))] (qno 10 6 h) = some (none, k1) := e159
      rw [E32, ck10 H, ob_some, if_neg n1, if_pos n2, g10_1 H, ob_some, ob_some, ar, ob_some, e26, if_pos rfl, ob_some, e159', jV, ob_some, sr, ob_some, g10_1 Hk2, ob_some, ob_some, ar2, ob_some, g10_0 Hk2, ob_some, e160, jV, c10 Hk3 (d + 118), jI]
  | some A =>
    have o0 : IM1 h i := by
      have : i = 0 ∨ i = 1 := by omega
      rcases this with e | e
      · rw [e]
        exact I.1
      · rw [e]
        exact I.2.1
    rcases o0 with ⟨q1, _⟩ | ⟨A', V, q1, ⟨i1, i2, i3, i4, i5, i6⟩, _⟩
    · rw [q1] at e26
      cases e26
    · have eA := Option.some.inj (q1.symm.trans e26)
      subst eA
      obtain ⟨k3, e160, O3, C3, R3⟩ := c160 (d + 117) i2 w11 (by omega) l1.f K.2.2.2.2.1
      have Hk3 : Sh k3 := H.tr (by rw [O3.1]; exact Nat.le_refl _) (fun b _ => by rw [O3.2.2.1]) (fun b j hb _ _ => O3.2.2.2.2 b j (by omega))
      refine fin k3 A' Hk3 i1 (by rw [O3.1]; exact Nat.le_refl _) (fun b _ => by rw [O3.2.2.1]) (i2.wo O3 (Or.inl rfl)) C3 (fun j hj => R3 j hj) (fun b j _ h3 => O3.2.2.2.1 b j h3) (fun b j _ h3 _ => O3.2.2.2.2 b j (by omega)) (by rw [O3.2.2.2.2 26 i (by omega)]; exact e26) (fun a g => g.sep i2) (fun B q => ?_) (Or.inl ⟨O3.1, O3.2.1, fun j => O3.2.2.2.2 26 j (by omega)⟩) ?_
      · have : i = 0 ∨ i = 1 := by omega
        rcases this with e | e
        · subst e
          exact I.2.2 A' B e26 q
        · subst e
          have := I.2.2 B A' q e26
          omega
      · have ns : ¬((some A' : Option Nat) = none) := fun z => by cases z
        rw [E32, ck10 H, ob_some, if_neg n1, if_pos n2, g10_1 H, ob_some, ob_some, ar, ob_some, e26, if_neg ns, ob_some, ob_some, ar, ob_some, e26, g10_0 H, ob_some, e160, jV, c10 Hk3 (d + 118), jI]

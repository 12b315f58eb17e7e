/-! ===== law: the class, the reference ===== -/
theorem lCR_79 (b j : Nat) (hb : 79 ≤ b) : lC b j = false ∧ lR b j = false := by
  constructor
  · unfold lC
    split <;> first | omega | rfl
  · unfold lR
    split <;> first | omega | rfl
/-- the class's law(): nothing is read; a fault; a law -/
theorem c35 {h : QH} {W : Nat → Nat} {c : Nat} {T : Nat → Nat} (K : K0 h W c T) (wc : WC h) (d N : Nat) (w : NN T (T 400) N) : (W 411 = 6 → qcl (d + 65) 35 [qR (some 10)] h = some (some (qI (-nZ 5)), rfC (hsI h 27 0 (nZ 0)) (-nZ 5) 3)) ∧ (W 411 ≠ 6 → (match RL (CT T (T 400)) (VT T (T 400)) N 12 0 0 0 with
    | .inl e => ∃ k, qcl (d + 65) 35 [qR (some 10)] h = some (some (qI (-nZ 6)), rfC (hsI k 10 13 (nZ (ts T (T 400) e))) (-nZ 6) 4) ∧ FrA lC lR 0 0 h k ∧ hI k 27 0 = nZ 0 ∧ (∀ j, hI k 10 j = hI h 10 j) ∧ (∀ j, hI k 54 j = hI h 54 j) ∧ Sh k ∧ (∀ b j, 55 < b → b < 79 → hI k b j = hI h b j) ∧ (∀ i, hR k 25 i = hR h 25 i) ∧ hI k 11 4 = hI h 11 4
    | .inr L => ∃ k, qcl (d + 65) 35 [qR (some 10)] h = some (some (qI (nZ (W 411))), okC' (hsI (hsR (hsI k 10 13 (-nZ 1)) 25 (W 411) (some (hN h))) 11 4 (nZ (W 411 + 1)))) ∧ FrA lC lR 4 439 h k ∧ hI k 27 0 = nZ 0 ∧ (∀ j, hI k 10 j = hI h 10 j) ∧ (∀ j, hI k 54 j = hI h 54 j) ∧ Sh k ∧ (∀ b j, 55 < b → b < 79 → hI k b j = hI h b j) ∧ (∀ i, hR k 25 i = hR h 25 i) ∧ LO k (hN h) L)) := by
  have H := K.sh
  have n6 : W 411 ≤ 6 := K.wi.1 411 (by decide) (by decide)
  have kt := K.2.2.2.2.2.2.2
  have h27 : hI h 27 0 = nZ (T 400) := kt.2.1
  have f4 : hI h 11 4 = nZ (W 411) := K.2.2.2.2.1.2.2.2.1
  have hn := kt.1
  have H1 : Sh (hsI h 27 0 (nZ 0)) := H
  have wc1 : WC (hsI h 27 0 (nZ 0)) := ⟨fun j hj => (hI_ne (by omega)).trans (wc.1 j hj), fun j hj => (hI_ne (by omega)).trans (wc.2.1 j hj), fun j hj => (hI_ne (by omega)).trans (wc.2.2 j hj)⟩
  have tc1 : ∀ i, i < 400 → T i < 256 ∧ hI (hsI h 27 0 (nZ 0)) 28 i = nZ (T i) := fun i hi => ⟨(kt.2.2.2 i hi).1, (hI_ne (by omega)).trans (kt.2.2.2 i hi).2.1⟩
  have f4' : hI (hsI h 27 0 (nZ 0)) 11 4 = nZ (W 411) := (hI_ne (by omega)).trans f4
  refine ⟨?_, ?_⟩
  · intro c6
    have e43 := c43_5 H1 (d + 62)
    rw [c6] at f4'
    simp (disch := first | assumption | omega) only [E35, ck10, ob_some, g10_2, g27_0, h27, p27_0, L0, g10_0, g11_4, f4', L6, nZ_lt, Nat.lt_irrefl, if_false]
    have m5 : (-5 : Int32) = -nZ 5 := rfl
    rw [m5, e43, jI]
  · intro c6
    have o := c112 H1 wc1 tc1 (d + 1) (T 400) N hn w
    have lt6 : W 411 < 6 := by omega
    cases er : RL (CT T (T 400)) (VT T (T 400)) N 12 0 0 0 with
    | inl e =>
      rw [er] at o
      obtain ⟨A, B, G, R, g1, g2⟩ := o
      have Hk : Sh (st2' (bs (hsR (hsI h 27 0 (nZ 0)) 29 1 (some 28)) A B) G R) := Sh_r29 H1 (some 28)
      have hk : ∀ b j, b ≠ 35 → b ≠ 29 → b ≠ 34 → b ≠ 33 → b ≠ 27 → hI (st2' (bs (hsR (hsI h 27 0 (nZ 0)) 29 1 (some 28)) A B) G R) b j = hI h b j := by
        intro b j h1 h2 h3 h4 h5
        rw [s2_ne h2 h1]
        unfold bs
        rw [hA_ne h3, hA_ne h4]
        show hI (hsI h 27 0 (nZ 0)) b j = _
        rw [hI_ne (Or.inl h5)]
      have h270 : hI (st2' (bs (hsR (hsI h 27 0 (nZ 0)) 29 1 (some 28)) A B) G R) 27 0 = nZ 0 := by
        rw [s2_ne (by decide) (by decide)]
        unfold bs
        rw [hA_ne (by decide), hA_ne (by decide)]
        show hI (hsI h 27 0 (nZ 0)) 27 0 = _
        exact hI_at rfl
      refine ⟨st2' (bs (hsR (hsI h 27 0 (nZ 0)) 29 1 (some 28)) A B) G R, ?_, ?_, h270, fun j => hk 10 j (by decide) (by decide) (by decide) (by decide) (by decide), fun j => hk 54 j (by decide) (by decide) (by decide) (by decide) (by decide), Hk, fun b j h1 h2 => hk b j (by omega) (by omega) (by omega) (by omega) (by omega), fun i => rfl, hk 11 4 (by decide) (by decide) (by decide) (by decide) (by decide)⟩
      · have e43 := c43_6 (h := hsI (st2' (bs (hsR (hsI h 27 0 (nZ 0)) 29 1 (some 28)) A B) G R) 10 13 (nZ (ts T (T 400) e))) Hk (d + 62)
        have g0 : hI (st2' (bs (hsR (hsI h 27 0 (nZ 0)) 29 1 (some 28)) A B) G R) 29 0 = nZ (ts T (T 400) e) := s2_29.trans g2
        have m6 : (-6 : Int32) = -nZ 6 := rfl
        simp (disch := first | assumption | omega) only [E35, ck10, ob_some, g10_2, g27_0, h27, p27_0, L0, g10_0, g11_4, f4', L6, nZ_lt, nd_lt_t, if_true, g10_3, g27_1, g1, jR, g29_0, g0, p10_13, m6, e43, jI]
      · exact FrA.sA (fun i => rfl) (FrA.sA (fun i => rfl) (FrA.sA (fun i => rfl) (FrA.sA (fun i => rfl) (FrA.sR rfl (FrA.si rfl FrA.refl)))))
    | inr L =>
      obtain ⟨r1, r2, r3, r4, r5⟩ := RL_b _ _ _ _ _ er (Nat.zero_le _) (Nat.zero_le _)
      have hNn := w.1
      rw [er] at o
      obtain ⟨A, B, G, R, k, g1, g2, g3⟩ := o
      have Hk : Sh k := g2.Sh (Sh_r29 H1 (some 28))
      have n0 : hN (st2' (bs (hsR (hsI h 27 0 (nZ 0)) 29 1 (some 28)) A B) G R) = hN h := rfl
      have h79 := H.1
      have hk : ∀ b j, b ≠ 35 → b ≠ 29 → b ≠ 34 → b ≠ 33 → b ≠ 27 → b < hN h → hI k b j = hI h b j := by
        intro b j h1 h2 h3 h4 h5 h6
        rw [g2.2.2.2.1 b j (by rw [n0]; exact h6), s2_ne h2 h1]
        unfold bs
        rw [hA_ne h3, hA_ne h4]
        show hI (hsI h 27 0 (nZ 0)) b j = _
        rw [hI_ne (Or.inl h5)]
      have h270 : hI k 27 0 = nZ 0 := by
        rw [g2.2.2.2.1 27 0 (by rw [n0]; omega), s2_ne (by decide) (by decide)]
        unfold bs
        rw [hA_ne (by decide), hA_ne (by decide)]
        show hI (hsI h 27 0 (nZ 0)) 27 0 = _
        exact hI_at rfl
      have k25 : ∀ i, hR k 25 i = hR h 25 i := fun i => g2.2.2.2.2 25 i (by rw [n0]; omega)
      have Hk2 : Sh (hsI k 10 13 (-nZ 1)) := Hk
      have hk11 : hI (hsI k 10 13 (-nZ 1)) 11 4 = nZ (W 411) := by
        rw [hI_ne (by decide), hk 11 4 (by decide) (by decide) (by decide) (by decide) (by decide) (by omega)]
        exact f4
      have gN : hN k = hN h + 4 := by rw [g2.1, n0]
      have aT : hT k (hN h) = 17 := by
        obtain ⟨x, y, z, ⟨q1, q2, q3, q4⟩, _⟩ := g3
        exact q3
      have qs : qsr 25 (nZ (W 411)) (some (hN h)) (hsI k 10 13 (-nZ 1)) = some (hsR (hsI k 10 13 (-nZ 1)) 25 (W 411) (some (hN h))) := by
        unfold qsr
        have t25 : hT (hsI k 10 13 (-nZ 1)) 25 = 5 := Hk2.t (by decide) (by decide) rfl
        have l25 : hL (hsI k 10 13 (-nZ 1)) 25 = 6 := Hk2.l (by decide) (by decide) rfl
        rw [nZ_nat (by omega), t25, l25, if_pos]
        refine ⟨⟨by decide, Hk2.n (by decide)⟩, Or.inr rfl, z_nn (by omega), by omega, ?_⟩
        exact decide_eq_true ⟨⟨by omega, by show hN h < hN k; omega⟩, Or.inr ⟨rfl, aT⟩⟩
      have Hk3 : Sh (hsR (hsI k 10 13 (-nZ 1)) 25 (W 411) (some (hN h))) := Sh_r25 Hk2 _ _
      have hk11' : hI (hsR (hsI k 10 13 (-nZ 1)) 25 (W 411) (some (hN h))) 11 4 = nZ (W 411) := hk11
      have e162 : qcl (d + 64) 162 [qR (some 11), qR (some (hN h))] (hsI k 10 13 (-nZ 1)) = some (some (qI (nZ (W 411))), hsI (hsR (hsI k 10 13 (-nZ 1)) 25 (W 411) (some (hN h))) 11 4 (nZ (W 411 + 1))) := by
        simp (disch := first | assumption | omega) only [E162, ck11, ob_some, g11_4, hk11, g11_3, qs, hk11', L1, nZ_add, p11_4]
      have e10 := c10 (h := hsI (hsR (hsI k 10 13 (-nZ 1)) 25 (W 411) (some (hN h))) 11 4 (nZ (W 411 + 1))) Hk3 (d + 63) (nZ (W 411))
      refine ⟨k, ?_, ?_, h270, fun j => hk 10 j (by decide) (by decide) (by decide) (by decide) (by decide) (by omega), fun j => hk 54 j (by decide) (by decide) (by decide) (by decide) (by decide) (by omega), Hk, fun b j h1 h2 => hk b j (by omega) (by omega) (by omega) (by omega) (by omega) (by omega), k25, g3⟩
      · have sn : (some (hN h) = (none : Option Nat)) = False := eq_false (fun z => by cases z)
        have m1 : (-1 : Int32) = -nZ 1 := rfl
        have g1' : qcl (d + 64) 112 [qR (some 29), qR (some 28), qI (nZ (T 400))] (hsI h 27 0 (nZ 0)) = some (some (qR (some (hN h))), k) := g1
        simp (disch := first | assumption | omega) only [E35, ck10, ob_some, g10_2, g27_0, h27, p27_0, L0, g10_0, g11_4, f4', L6, nZ_lt, nd_lt_t, if_true, if_false, g10_3, g27_1, g1', jR, sn, m1, p10_13, e162, jI, e10]
      · refine FrA.of (FrA.gw (m := 0) (s := 0) (FrA.sA (fun i => rfl) (FrA.sA (fun i => rfl) (FrA.sA (fun i => rfl) (FrA.sA (fun i => rfl) (FrA.sR rfl (FrA.si rfl FrA.refl)))))) g2) (by omega) (by omega)

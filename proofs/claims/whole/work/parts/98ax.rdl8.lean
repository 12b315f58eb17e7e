/-- the two of them at once -/
theorem op_law {h : QH} {W : Nat → Nat} {c : Nat} {T : Nat → Nat} (KK : K1 h W c T) (wc : WC h) (d : Nat) : Op (d + 65) 35 214 [] h (fun k => LawP h k W c T) := by
  have K := KK.1
  have H := K.sh
  have h79 := H.1
  have n6 : W 411 ≤ 6 := K.wi.1 411 (by decide) (by decide)
  have kt := K.2.2.2.2.2.2.2
  have hn := kt.1
  have km := K.2.2.2.2.2.2.1
  obtain ⟨⟨s0, s1', s2'⟩, ⟨q0, q1, q2, q3, q4⟩⟩ := km
  have tp0 : TP h T := fun i hi => ⟨(kt.2.2.2 i hi).1, (kt.2.2.2 i hi).2.2⟩
  obtain ⟨N, _, w, _, _, _, _⟩ := m_reads H wc tp0 0 (T 400) hn kt.2.2.1
  obtain ⟨cA, cB⟩ := c35 KK.1 wc d N w
  by_cases c6 : W 411 = 6
  · have e1 := cA c6
    have F1 : FrA lC lR 0 0 h (rfC (hsI h 27 0 (nZ 0)) (-nZ 5) 3) := FrA.si rfl (FrA.si rfl (FrA.si rfl FrA.refl))
    have H1 : Sh (rfC (hsI h 27 0 (nZ 0)) (-nZ 5) 3) := H
    have mk1 : MK (rfC (hsI h 27 0 (nZ 0)) (-nZ 5) 3) W := MK.si (by decide) (MK.si (by decide) (MK.si (by decide) K.mk))
    have tp1 : TP (rfC (hsI h 27 0 (nZ 0)) (-nZ 5) 3) T := fun i hi => ⟨(tp0 i hi).1, (F1.2.2.1 62 i (by omega) rfl).trans (tp0 i hi).2⟩
    have h10' : hI (rfC (hsI h 27 0 (nZ 0)) (-nZ 5) 3) 56 10 = nZ (T 400) := by
      unfold rfC
      simp (disch := decide) only [hI_ne]
      exact kt.2.2.1
    have e2 := (m214 H1 (wc.fA H F1) mk1 tp1 d (T 400) N hn h10' n6 w).1 c6
    have F2 : FrA lC lR 0 0 h (rfM (hsI (rfC (hsI h 27 0 (nZ 0)) (-nZ 5) 3) 56 10 (nZ 0)) (-nZ 5) 5) := FrA.si rfl (FrA.si rfl (FrA.si rfl F1))
    refine ⟨-nZ 5, _, _, e1, e2, W, c, up T 400 0, ?_, wc.fA H F2, F2.of (by omega) (by omega), Or.inl ⟨rfl, rfl⟩⟩
    refine lawK KK F2 H1 (fun j hj => rfl) K.wi ?_ ?_ ?_ ?_ ?_ ?_ ?_
    · exact MK.si (by decide) (MK.si (by decide) (MK.si (by decide) mk1))
    · unfold rfM rfC
      simp (disch := decide) only [hI_ne]
      exact K.2.2.2.2.1.2.2.2.1
    · unfold rfM rfC
      simp (disch := decide) only [hI_ne]
      exact K.ch
    · unfold rfM rfC
      simp (disch := decide) only [hI_ne]
      exact K.vs
    · unfold rfM rfC KM
      simp (disch := decide) only [hI_ne, hI_at]
      rw [q3]
      exact ⟨⟨by first | rfl | trivial, s1', s2'⟩, ⟨q0, q1, q2, by first | rfl | trivial, q4⟩⟩
    · refine KT_0 kt ?_ ?_ ?_ ?_
      · unfold rfM rfC
        simp (disch := decide) only [hI_ne, hI_at]
      · intro j
        exact F2.2.2.1 28 j (by omega) rfl
      · intro j
        exact F2.2.2.1 62 j (by omega) rfl
      · unfold rfM
        simp (disch := decide) only [hI_ne, hI_at]
    · exact KK.2.1.fA F2 (fun i _ => rfl)
  · have o1 := cB c6
    have hNn := w.1
    cases er : RL (CT T (T 400)) (VT T (T 400)) N 12 0 0 0 with
    | inl e =>
      rw [er] at o1
      obtain ⟨k, e1, F0, k27, k10, k54, Hk, kI, kR, k11⟩ := o1
      have F1 : FrA lC lR 0 0 h (rfC (hsI k 10 13 (nZ (ts T (T 400) e))) (-nZ 6) 4) := FrA.si rfl (FrA.si rfl (FrA.si rfl F0))
      have H1 : Sh (rfC (hsI k 10 13 (nZ (ts T (T 400) e))) (-nZ 6) 4) := Hk
      have gI : ∀ b j, 55 < b → b < 79 → hI (rfC (hsI k 10 13 (nZ (ts T (T 400) e))) (-nZ 6) 4) b j = hI h b j := by
        intro b j h1 h2
        unfold rfC
        rw [hI_ne (by omega), hI_ne (by omega), hI_ne (by omega)]
        exact kI b j h1 h2
      have mk1 : MK (rfC (hsI k 10 13 (nZ (ts T (T 400) e))) (-nZ 6) 4) W := K.mk.of (fun j => gI 58 j (by decide) (by decide))
      have tp1 : TP (rfC (hsI k 10 13 (nZ (ts T (T 400) e))) (-nZ 6) 4) T := fun i hi => ⟨(tp0 i hi).1, (gI 62 i (by decide) (by decide)).trans (tp0 i hi).2⟩
      have o2 := (m214 H1 (wc.fA H F1) mk1 tp1 d (T 400) N hn ((gI 56 10 (by decide) (by decide)).trans kt.2.2.1) n6 w).2 c6
      rw [er] at o2
      obtain ⟨he, k2, e2, F2, mk2, m11, m10⟩ := o2
      have F3 : FrA lC lR 0 0 h (rfM k2 (-nZ 6) 6) := FrA.si rfl (FrA.si rfl (F1.trans (FrA.fr F2 mC_lC)))
      refine ⟨-nZ 6, _, _, e1, e2, W, c, up T 400 0, ?_, wc.fA H F3, F3.of (by omega) (by omega), Or.inl ⟨rfl, rfl⟩⟩
      have g2 : ∀ b j, mC b j = false → hI (rfM k2 (-nZ 6) 6) b j = hI (rfM (rfC (hsI k 10 13 (nZ (ts T (T 400) e))) (-nZ 6) 4) (-nZ 6) 6) b j := by
        intro b j hc
        unfold rfM
        simp only [hI_si]
        by_cases x1 : b = 57 ∧ j = 6
        · rw [if_pos x1, if_pos x1, F2.2 57 6 rfl]
        · rw [if_neg x1, if_neg x1]
          by_cases x2 : b = 56 ∧ j = 0
          · rw [if_pos x2, if_pos x2]
          · rw [if_neg x2, if_neg x2]
            exact F2.2 b j hc
      have j1 : ∀ j, hI (hsI k 10 13 (nZ (ts T (T 400) e))) 57 j = hI h 57 j := fun j => (hI_ne (by omega)).trans (kI 57 j (by decide) (by decide))
      refine lawK KK F3 (F2.Sh H1) (fun j hj => rfl) K.wi ?_ ?_ ?_ ?_ ?_ ?_ ?_
      · exact MK.si (by decide) (MK.si (by decide) mk2)
      · rw [g2 11 4 rfl]
        unfold rfM rfC
        simp (disch := decide) only [hI_ne]
        rw [k11]
        exact K.2.2.2.2.1.2.2.2.1
      · rw [g2 10 10 rfl]
        unfold rfM rfC
        simp (disch := decide) only [hI_ne]
        rw [k10]
        exact K.ch
      · rw [g2 56 1 rfl]
        unfold rfM rfC
        simp (disch := decide) only [hI_ne]
        rw [kI 56 1 (by decide) (by decide)]
        exact K.vs
      · unfold KM
        rw [g2 10 11 rfl, g2 56 0 rfl, g2 10 12 rfl, g2 56 6 rfl, g2 10 13 rfl, g2 54 0 rfl, g2 54 1 rfl, g2 54 2 rfl, g2 54 3 rfl, g2 54 4 rfl, g2 57 1 rfl, g2 57 2 rfl, g2 57 3 rfl, g2 57 5 rfl, g2 57 6 rfl]
        have m11' : hI (rfM k2 (-nZ 6) 6) 56 11 = nZ (ts T (T 400) e) := by
          unfold rfM
          simp (disch := decide) only [hI_ne]
          exact m11
        rw [m11']
        unfold rfM rfC
        simp (disch := decide) only [hI_ne, hI_at, k10, k54, kI 57 _ (by decide) (by decide), kI 56 _ (by decide) (by decide)]
        rw [q4]
        exact ⟨⟨by first | rfl | trivial, s1', by first | rfl | trivial⟩, ⟨q0, q1, q2, q3, by first | rfl | trivial⟩⟩
      · refine KT_0 kt ?_ ?_ ?_ ?_
        · rw [g2 27 0 rfl]
          unfold rfM rfC
          simp (disch := decide) only [hI_ne]
          exact k27
        · intro j
          exact F3.2.2.1 28 j (by omega) rfl
        · intro j
          exact F3.2.2.1 62 j (by omega) rfl
        · unfold rfM
          simp (disch := decide) only [hI_ne]
          exact m10
      · refine KK.2.1.fA F3 (fun i _ => ?_)
        show hR k2 25 i = hR h 25 i
        rw [F2.r 25 i]
        exact kR i
    | inr L =>
      rw [er] at o1
      obtain ⟨k, e1, F0, k27, k10, k54, Hk, kI, kR, kL⟩ := o1
      obtain ⟨g, hg⟩ : ∃ g, g = okC' (hsI (hsR (hsI k 10 13 (-nZ 1)) 25 (W 411) (some (hN h))) 11 4 (nZ (W 411 + 1))) := ⟨_, rfl⟩
      have F1 : FrA lC lR 4 439 h g := by
        rw [hg]
        exact FrA.si rfl (FrA.si rfl (FrA.si rfl (FrA.sR rfl (FrA.si rfl F0))))
      have H1 : Sh g := by
        rw [hg]
        exact Sh_r25 (h := hsI k 10 13 (-nZ 1)) Hk _ _
      have gI : ∀ b j, 55 < b → b < 79 → hI g b j = hI h b j := by
        intro b j h1 h2
        rw [hg]
        unfold okC'
        rw [hI_ne (by omega), hI_ne (by omega), hI_ne (by omega)]
        show hI (hsI k 10 13 (-nZ 1)) b j = _
        rw [hI_ne (by omega)]
        exact kI b j h1 h2
      have mk1 : MK g W := K.mk.of (fun j => gI 58 j (by decide) (by decide))
      have tp1 : TP g T := fun i hi => ⟨(tp0 i hi).1, (gI 62 i (by decide) (by decide)).trans (tp0 i hi).2⟩
      have o2 := (m214 H1 (wc.fA H F1) mk1 tp1 d (T 400) N hn ((gI 56 10 (by decide) (by decide)).trans kt.2.2.1) n6 w).2 c6
      rw [er] at o2
      obtain ⟨k2, e2, F2, mk2, m11, m10⟩ := o2
      have F3 : FrA lC lR 4 439 h (okM' k2) := FrA.si rfl (FrA.si rfl (F1.trans (FrA.fr F2 mC_lC)))
      rw [← hg] at e1
      have lt6 : W 411 < 6 := by omega
      have hWe : ∀ j, j < 411 ∨ j = 412 ∨ j = 413 → nlW W N (CT T (T 400)) (VT T (T 400)) j = W j := by
        intro j hj
        unfold nlW
        rw [up_ne (by omega)]
        unfold lawW
        rw [if_neg (by omega), if_neg (by omega), if_neg (by omega)]
      have hW411 : nlW W N (CT T (T 400)) (VT T (T 400)) 411 = W 411 + 1 := up_at rfl
      refine ⟨nZ (W 411), _, _, e1, e2, nlW W N (CT T (T 400)) (VT T (T 400)), c + 1, up T 400 0, ?_, wc.fA H F3, F3, Or.inr rfl⟩
      have g2 : ∀ b j, mC b j = false → b ≠ 56 → hI (okM' k2) b j = hI g b j := by
        intro b j hc hb
        unfold okM'
        rw [hI_ne (Or.inl hb), hI_ne (Or.inl hb)]
        exact F2.2 b j hc
      refine lawK KK F3 (F2.Sh H1) hWe ?_ ?_ ?_ ?_ ?_ ?_ ?_ ?_
      · obtain ⟨w1, w2, w3, w4, w5, w6, w7⟩ := K.wi
        refine ⟨?_, ?_, ?_, ?_, ?_, ?_, ?_⟩
        · intro j hj h4
          by_cases cj : j = 411
          · rw [cj, hW411]
            show W 411 + 1 ≤ 6
            omega
          · rw [hWe j (by omega)]
            exact w1 j hj h4
        · intro p q hp hq
          rw [hWe _ (by omega), hWe _ (by omega)]
          exact w2 p q hp hq
        · intro a ha
          have h409 := hWe 409 (by omega)
          rw [h409] at ha
          have n5 : W 409 ≤ 5 := w1 409 (by decide) (by decide)
          rw [hWe _ (by omega)]
          exact w3 a ha
        · intro p a hp ha hh
          rw [hWe 408 (by omega), hWe 409 (by omega)] at hh
          rw [hWe _ (by omega)]
          exact w4 p a hp ha hh
        · intro s hs
          rw [hWe 410 (by omega)] at hs
          have n60 : W 410 ≤ 60 := w1 410 (by decide) (by decide)
          rw [hWe (101 + 5 * s) (by omega), hWe (102 + 5 * s) (by omega), hWe 408 (by omega), hWe 409 (by omega)]
          exact w5 s hs
        · rw [hWe 413 (by omega), hW411]
          omega
        · intro p hp hh
          rw [hWe 408 (by omega)] at hh
          rw [hWe _ (by omega)]
          exact w7 p hp hh
      · exact MK.okM mk2
      · rw [g2 11 4 rfl (by decide), hW411, hg]
        unfold okC'
        simp (disch := decide) only [hI_ne, hI_at]
      · rw [g2 10 10 rfl (by decide), hg]
        unfold okC'
        rw [hI_at rfl, hI_ne (by decide)]
        show hI (hsI k 10 13 (-nZ 1)) 10 10 + nZ 1 = _
        rw [hI_ne (by decide), k10, K.ch, nZ_add]
      · unfold okM'
        rw [hI_at rfl, F2.2 56 1 rfl, gI 56 1 (by decide) (by decide), K.vs, nZ_add]
      · unfold KM
        rw [g2 10 11 rfl (by decide), g2 10 12 rfl (by decide), g2 10 13 rfl (by decide), g2 54 0 rfl (by decide), g2 54 1 rfl (by decide), g2 54 2 rfl (by decide), g2 54 3 rfl (by decide), g2 54 4 rfl (by decide), g2 57 1 rfl (by decide), g2 57 2 rfl (by decide), g2 57 3 rfl (by decide), g2 57 5 rfl (by decide), g2 57 6 rfl (by decide)]
        have p0 : hI (okM' k2) 56 0 = nZ 0 := by
          unfold okM'
          simp (disch := decide) only [hI_ne, hI_at]
        have p6 : hI (okM' k2) 56 6 = hI h 56 6 := by
          unfold okM'
          simp (disch := decide) only [hI_ne]
          rw [F2.2 56 6 rfl]
          exact gI 56 6 (by decide) (by decide)
        have p11 : hI (okM' k2) 56 11 = -nZ 1 := by
          unfold okM'
          simp (disch := decide) only [hI_ne]
          exact m11
        have c11 : hI g 10 11 = nZ 0 := by
          rw [hg]
          unfold okC'
          simp (disch := decide) only [hI_ne, hI_at]
        have c12 : hI g 10 12 = hI h 10 12 := by
          rw [hg]
          unfold okC'
          simp (disch := decide) only [hI_ne]
          show hI (hsI k 10 13 (-nZ 1)) 10 12 = _
          rw [hI_ne (by decide), k10]
        have c13 : hI g 10 13 = -nZ 1 := by
          rw [hg]
          unfold okC'
          simp (disch := decide) only [hI_ne]
          show hI (hsI k 10 13 (-nZ 1)) 10 13 = _
          exact hI_at rfl
        have c54 : ∀ j, hI g 54 j = hI h 54 j := by
          intro j
          rw [hg]
          unfold okC'
          rw [hI_ne (by omega), hI_ne (by omega), hI_ne (by omega)]
          show hI (hsI k 10 13 (-nZ 1)) 54 j = _
          rw [hI_ne (by omega), k54]
        rw [p0, p6, p11, c11, c12, c13, c54, c54, c54, c54, c54, gI 57 1 (by decide) (by decide), gI 57 2 (by decide) (by decide), gI 57 3 (by decide) (by decide), gI 57 5 (by decide) (by decide), gI 57 6 (by decide) (by decide)]
        exact ⟨⟨rfl, s1', rfl⟩, ⟨q0, q1, q2, q3, q4⟩⟩
      · refine KT_0 kt ?_ ?_ ?_ ?_
        · rw [g2 27 0 rfl (by decide), hg]
          unfold okC'
          rw [hI_ne (by decide), hI_ne (by decide), hI_ne (by decide)]
          show hI (hsI k 10 13 (-nZ 1)) 27 0 = _
          rw [hI_ne (by decide)]
          exact k27
        · intro j
          exact F3.2.2.1 28 j (by omega) rfl
        · intro j
          exact F3.2.2.1 62 j (by omega) rfl
        · unfold okM'
          simp (disch := decide) only [hI_ne]
          exact m10
      · intro t ht
        rw [hW411] at ht
        have r25 : ∀ i, hR (okM' k2) 25 i = if i = W 411 then some (hN h) else hR h 25 i := by
          intro i
          show hR k2 25 i = _
          rw [F2.r 25 i, hg]
          show (if (25 : Nat) = 25 ∧ i = W 411 then some (hN h) else hR k 25 i) = _
          by_cases ci : i = W 411
          · rw [if_pos ⟨rfl, ci⟩, if_pos ci]
          · rw [if_neg (fun z => ci z.2), if_neg ci]
            exact kR i
        by_cases ct : t = W 411
        · subst ct
          have hT : ∀ i, i < T 400 → T i < 256 := fun i hi => (kt.2.2.2 i (by omega)).1
          have w414 : nlW W N (CT T (T 400)) (VT T (T 400)) (414 + W 411) = N := by
            unfold nlW
            rw [up_ne (by omega)]
            unfold lawW
            rw [if_pos rfl]
          have wC : ∀ j, j < N → nlW W N (CT T (T 400)) (VT T (T 400)) (420 + 400 * W 411 + j) = CT T (T 400) j := by
            intro j hj
            unfold nlW
            rw [up_ne (by omega)]
            unfold lawW
            rw [if_neg (by omega), if_pos (by omega)]
            congr 1
            omega
          have wV : ∀ j, j < N → nlW W N (CT T (T 400)) (VT T (T 400)) (2820 + 400 * W 411 + j) = VT T (T 400) j := by
            intro j hj
            unfold nlW
            rw [up_ne (by omega)]
            unfold lawW
            rw [if_neg (by omega), if_neg (by omega), if_pos (by omega)]
            congr 1
            omega
          refine ⟨L, ⟨?_, ?_, ?_⟩, hN h, ?_, ?_⟩
          · rw [w414]
            omega
          · rw [w414, ← er]
            exact RL_congr wC wV 12 0 0 0
          · intro j hj
            rw [w414] at hj
            rw [wC j hj, wV j hj]
            have h4 : cdT T (T 400) (ts T (T 400) j) < 400 := cdT_lt (hT _ (w.2.2 j hj))
            exact ⟨by show cdT T (T 400) (ts T (T 400) j) < 1000; omega, vlT_lt hT (w.2.2 j hj)⟩
          · rw [r25, if_pos rfl]
          · have Fk : FrA lC lR 0 0 k (okM' k2) := by
              have Fg : FrA lC lR 0 0 k g := by
                rw [hg]
                exact FrA.si rfl (FrA.si rfl (FrA.si rfl (FrA.sR rfl (FrA.si rfl FrA.refl))))
              exact FrA.si rfl (FrA.si rfl (Fg.trans (FrA.fr F2 mC_lC)))
            exact kL.frA Fk lCR_79
        · obtain ⟨L0', x1, a, x2, x3⟩ := KK.2.1 t (by omega)
          have hx := x1.1
          refine ⟨L0', x1.c ?_ ?_ ?_, a, ?_, x3.frA F3 lCR_79⟩
          · unfold nlW
            rw [up_ne (by omega)]
            unfold lawW
            rw [if_neg (by omega), if_neg (by omega), if_neg (by omega)]
          · intro j hj
            unfold nlW
            rw [up_ne (by omega)]
            unfold lawW
            rw [if_neg (by omega), if_neg (by omega), if_neg (by omega)]
          · intro j hj
            unfold nlW
            rw [up_ne (by omega)]
            unfold lawW
            rw [if_neg (by omega), if_neg (by omega), if_neg (by omega)]
          · rw [r25, if_neg ct]
            exact x2

/-! laws, where they lie -/
def LO2 (h : QH) (a : Nat) (L : List CL) : Prop := LO h a L ∧ (hR h a 0 = some (a + 1) ∧ hR h a 1 = some (a + 2) ∧ hR h a 2 = some (a + 3))
/-- a law's place -/
def LG (h : QH) (a : Nat) : Prop := (79 ≤ a ∧ a + 3 < hN h) ∧ hT h a = 17 ∧ (hR h a 0 = some (a + 1) ∧ hR h a 1 = some (a + 2) ∧ hR h a 2 = some (a + 3)) ∧ (hT h (a + 1) = 0 ∧ hT h (a + 2) = 0 ∧ hT h (a + 3) = 0)
theorem LO2.lg {h : QH} {a : Nat} {L : List CL} (O : LO2 h a L) : LG h a := by
  obtain ⟨⟨x, y, w, ⟨a1, a2, a3, a4⟩, ⟨b1, b2, b3⟩, ⟨c1', c2', c3, c4⟩, ⟨d1, d2, d3, d4⟩, ⟨g1, g2, g3, g4⟩, _⟩, r0, r1, r2⟩ := O
  have ex : x = a + 1 := Option.some.inj (b1.symm.trans r0)
  have ey : y = a + 2 := Option.some.inj (b2.symm.trans r1)
  have ew : w = a + 3 := Option.some.inj (b3.symm.trans r2)
  subst ex
  subst ey
  subst ew
  exact ⟨⟨a1, g2⟩, a3, ⟨r0, r1, r2⟩, ⟨c3, d3, g3⟩⟩
theorem LG.of {h k : QH} {a : Nat} (g : LG h a) (e1 : hN h ≤ hN k) (e2 : ∀ b, b < hN h → k.2.2.1 b = h.2.2.1 b) (e3 : ∀ j, hR k a j = hR h a j) : LG k a := by
  obtain ⟨⟨a1, a2⟩, a3, ⟨b1, b2, b3⟩, c1', c2', c3⟩ := g
  have t : ∀ b, b < hN h → hT k b = hT h b := fun b hb => by
    show (k.2.2.1 b).1 = (h.2.2.1 b).1
    rw [e2 b hb]
  refine ⟨⟨a1, by omega⟩, ?_, ⟨?_, ?_, ?_⟩, ?_, ?_, ?_⟩
  · rw [t a (by omega)]
    exact a3
  · rw [e3]
    exact b1
  · rw [e3]
    exact b2
  · rw [e3]
    exact b3
  · rw [t _ (by omega)]
    exact c1'
  · rw [t _ (by omega)]
    exact c2'
  · rw [t _ (by omega)]
    exact c3
theorem mkL_c2 {h : QH} (H : Sh h) (d : Nat) (L : List CL) (A B G R : Nat → Int32) (hL1 : L.length ≤ 12) (hL2 : (stepsOf L).length ≤ 412) (g8 : G 8 = nZ L.length) (g9 : G 9 = nZ (stepsOf L).length) (hR1 : AtI R 0 (stepsOf L)) (hH : HdI A B 0 0 L) : ∃ k, mkL (d + 1) (st2' (bs h A B) G R) = some (some (qR (some (hN h))), k) ∧ GW 4 (3 + (L.length + (L.length + (stepsOf L).length))) (st2' (bs h A B) G R) k ∧ LO2 k (hN h) L := by
  have hn79 := H.1
  have hN0 : hN (st2' (bs h A B) G R) = hN h := rfl
  have H0 : Sh (st2' (bs h A B) G R) := H
  obtain ⟨u0, u1'⟩ := GW_push (h := st2' (bs h A B) G R) (t := 16 + 1) (n := 3)
  have u1 : GW 1 3 (st2' (bs h A B) G R) (qno 1 3 (st2' (bs h A B) G R)) := u0
  have H1 : Sh (qno 1 3 (st2' (bs h A B) G R)) := u1.Sh H0
  have i29 : ∀ j, hI (qno 1 3 (st2' (bs h A B) G R)) 29 j = G j := fun j => (u1.2.2.2.1 29 j (by rw [hN0]; omega)).trans s2_29
  have t33 : hT (qno 1 3 (st2' (bs h A B) G R)) 33 = 0 ∧ hL (qno 1 3 (st2' (bs h A B) G R)) 33 = 12 := ⟨H1.t (by decide) (by decide) rfl, H1.l (by decide) (by decide) rfl⟩
  obtain ⟨k1, e1, v1, v1', c1⟩ := c7 (h := qno 1 3 (st2' (bs h A B) G R)) d 33 L.length ⟨by decide, H1.n (by decide)⟩ t33.1 (by rw [t33.2]; omega) (by rw [t33.2]; decide)
  have H2 := v1.Sh H1
  have n1 : hN (qno 1 3 (st2' (bs h A B) G R)) = hN h + 1 := u1.1
  have n2 : hN k1 = hN h + 2 := by rw [v1.1, n1]
  have t34 : hT k1 34 = 0 ∧ hL k1 34 = 12 := ⟨H2.t (by decide) (by decide) rfl, H2.l (by decide) (by decide) rfl⟩
  obtain ⟨k2, e2, v2, v2', c2⟩ := c7 (h := k1) d 34 L.length ⟨by decide, H2.n (by decide)⟩ t34.1 (by rw [t34.2]; omega) (by rw [t34.2]; decide)
  have H3 := v2.Sh H2
  have n3 : hN k2 = hN h + 3 := by rw [v2.1, n2]
  have t35 : hT k2 35 = 0 ∧ hL k2 35 = 412 := ⟨H3.t (by decide) (by decide) rfl, H3.l (by decide) (by decide) rfl⟩
  obtain ⟨k3, e3, v3, v3', c3⟩ := c7 (h := k2) d 35 (stepsOf L).length ⟨by decide, H3.n (by decide)⟩ t35.1 (by rw [t35.2]; omega) (by rw [t35.2]; decide)
  have H4 := v3.Sh H3
  have n4 : hN k3 = hN h + 4 := by rw [v3.1, n3]
  have j1 : ∀ j, hI k1 29 j = G j := fun j => (v1.2.2.2.1 29 j (by omega)).trans (i29 j)
  have j2 : ∀ j, hI k2 29 j = G j := fun j => (v2.2.2.2.1 29 j (by omega)).trans (j1 j)
  -- the object
  have tO : hT k3 (hN h) = 17 ∧ hL k3 (hN h) = 3 := by
    have s1 := v3.t (b := hN h) (by omega)
    have s2 := v2.t (b := hN h) (by omega)
    have s3 := v1.t (b := hN h) (by rw [n1]; omega)
    have s4 : hT (qno 1 3 (st2' (bs h A B) G R)) (hN h) = 17 ∧ hL (qno 1 3 (st2' (bs h A B) G R)) (hN h) = 3 := by
      unfold hT hL
      have : (qno 1 3 (st2' (bs h A B) G R)).2.2.1 (hN h) = (17, 3) := u1'
      rw [this]
      exact ⟨rfl, rfl⟩
    exact ⟨s1.1.trans (s2.1.trans (s3.1.trans s4.1)), s1.2.trans (s2.2.trans (s3.2.trans s4.2))⟩
  have w73 : qcl (d + 1) 73 [qR (some (hN h)), qR (some (hN h + 1)), qR (some (hN h + 2)), qR (some (hN h + 3))] k3 = some (none, hsR (hsR (hsR k3 (hN h) 0 (some (hN h + 1))) (hN h) 1 (some (hN h + 2))) (hN h) 2 (some (hN h + 3))) := by
    have ck : qck 1 (hN h) k3 = some () := by
      unfold qck
      rw [if_pos ⟨by omega, Or.inr tO.1⟩]
    have q0 : qpr 1 0 (hN h) (some (hN h + 1)) k3 = some (hsR k3 (hN h) 0 (some (hN h + 1))) := by
      unfold qpr
      rw [if_pos ⟨⟨by omega, by omega⟩, tO.1, by rw [tO.2]; decide⟩]
    have q1 : qpr 1 1 (hN h) (some (hN h + 2)) (hsR k3 (hN h) 0 (some (hN h + 1))) = some (hsR (hsR k3 (hN h) 0 (some (hN h + 1))) (hN h) 1 (some (hN h + 2))) := by
      unfold qpr
      rw [if_pos ⟨⟨by omega, by show hN h < hN k3; omega⟩, tO.1, by show 1 < hL k3 (hN h); rw [tO.2]; decide⟩]
    have q2 : qpr 1 2 (hN h) (some (hN h + 3)) (hsR (hsR k3 (hN h) 0 (some (hN h + 1))) (hN h) 1 (some (hN h + 2))) = some (hsR (hsR (hsR k3 (hN h) 0 (some (hN h + 1))) (hN h) 1 (some (hN h + 2))) (hN h) 2 (some (hN h + 3))) := by
      unfold qpr
      rw [if_pos ⟨⟨by omega, by show hN h < hN k3; omega⟩, tO.1, by show 2 < hL k3 (hN h); rw [tO.2]; decide⟩]
    rw [E73, ck, ob_some, q0, ob_some, q1, ob_some, q2, ob_some]
  have hRs : ∀ b j, hR (hsR (hsR (hsR k3 (hN h) 0 (some (hN h + 1))) (hN h) 1 (some (hN h + 2))) (hN h) 2 (some (hN h + 3))) b j = if b = hN h ∧ j = 2 then some (hN h + 3) else if b = hN h ∧ j = 1 then some (hN h + 2) else if b = hN h ∧ j = 0 then some (hN h + 1) else hR k3 b j := fun b j => rfl
  have g123 := (u1.trans v1).trans (v2.trans v3)
  refine ⟨hsR (hsR (hsR k3 (hN h) 0 (some (hN h + 1))) (hN h) 1 (some (hN h + 2))) (hN h) 2 (some (hN h + 3)), ?_, ⟨?_, ?_, ?_, ?_, ?_⟩, ?_, ⟨by rw [hRs, if_neg (by omega), if_neg (by omega), if_pos ⟨rfl, rfl⟩], by rw [hRs, if_neg (by omega), if_pos ⟨rfl, rfl⟩], by rw [hRs, if_pos ⟨rfl, rfl⟩]⟩⟩
  · have e1' : qcl (d + 1) 7 [qR (some 33), qI (nZ L.length)] (qno 1 3 (st2' (bs h A B) G R)) = some (some (qR (some (hN h + 1))), k1) := by
      rw [e1, n1]
    have e2' : qcl (d + 1) 7 [qR (some 34), qI (nZ L.length)] k1 = some (some (qR (some (hN h + 2))), k2) := by
      rw [e2, n2]
    have e3' : qcl (d + 1) 7 [qR (some 35), qI (nZ (stepsOf L).length)] k2 = some (some (qR (some (hN h + 3))), k3) := by
      rw [e3, n3]
    unfold mkL
    rw [g29_12 H1, ob_some, g29_8 H1, ob_some, i29 8, g8, e1', jR, g29_13 H2, ob_some, g29_8 H2, ob_some, j1 8, g8, e2', jR, g29_14 H3, ob_some, g29_9 H3, ob_some, j2 9, g9, e3', jR, hN0, w73, jV]
  · exact g123.1
  · have := g123.2.1
    show hS k3 = _
    rw [this]
    omega
  · exact g123.2.2.1
  · exact g123.2.2.2.1
  · intro b j hb
    rw [hRs, if_neg (by rw [hN0] at hb; omega), if_neg (by rw [hN0] at hb; omega), if_neg (by rw [hN0] at hb; omega)]
    exact g123.2.2.2.2 b j hb
  · have sx : hT k3 (hN h + 1) = 0 ∧ hL k3 (hN h + 1) = L.length := by
      have s1 := v3.t (b := hN h + 1) (by omega)
      have s2 := v2.t (b := hN h + 1) (by omega)
      have s3 : hT k1 (hN h + 1) = 0 ∧ hL k1 (hN h + 1) = L.length := by
        unfold hT hL
        rw [n1] at v1'
        rw [v1']
        exact ⟨rfl, rfl⟩
      exact ⟨s1.1.trans (s2.1.trans s3.1), s1.2.trans (s2.2.trans s3.2)⟩
    have sy : hT k3 (hN h + 2) = 0 ∧ hL k3 (hN h + 2) = L.length := by
      have s1 := v3.t (b := hN h + 2) (by omega)
      have s2 : hT k2 (hN h + 2) = 0 ∧ hL k2 (hN h + 2) = L.length := by
        unfold hT hL
        rw [n2] at v2'
        rw [v2']
        exact ⟨rfl, rfl⟩
      exact ⟨s1.1.trans s2.1, s1.2.trans s2.2⟩
    have sw : hT k3 (hN h + 3) = 0 ∧ hL k3 (hN h + 3) = (stepsOf L).length := by
      unfold hT hL
      rw [n3] at v3'
      rw [v3']
      exact ⟨rfl, rfl⟩
    have xI : ∀ j, j < L.length → hI k3 (hN h + 1) j = A j := by
      intro j hj
      rw [v3.2.2.2.1 _ _ (by omega), v2.2.2.2.1 _ _ (by omega), ← n1, c1 j hj, u1.2.2.2.1 33 j (by rw [hN0]; omega)]
      rw [s2_ne (by decide) (by decide)]
      unfold bs
      rw [hA_ne (by decide), hA_at]
    have yI : ∀ j, j < L.length → hI k3 (hN h + 2) j = B j := by
      intro j hj
      rw [v3.2.2.2.1 _ _ (by omega), ← n2, c2 j hj, v1.2.2.2.1 34 j (by omega), u1.2.2.2.1 34 j (by rw [hN0]; omega)]
      rw [s2_ne (by decide) (by decide)]
      unfold bs
      rw [hA_at]
    have wI : ∀ j, j < (stepsOf L).length → hI k3 (hN h + 3) j = R j := by
      intro j hj
      rw [← n3, c3 j hj, v2.2.2.2.1 35 j (by omega), v1.2.2.2.1 35 j (by omega), u1.2.2.2.1 35 j (by rw [hN0]; omega), s2_35]
    refine ⟨hN h + 1, hN h + 2, hN h + 3, ⟨hn79, by show hN h < hN k3; omega, tO.1, tO.2⟩, ⟨?_, ?_, ?_⟩, ⟨by omega, by show _ < hN k3; omega, sx.1, sx.2⟩, ⟨by omega, by show _ < hN k3; omega, sy.1, sy.2⟩, ⟨by omega, by show _ < hN k3; omega, sw.1, sw.2⟩, ?_, ?_⟩
    · rw [hRs, if_neg (by omega), if_neg (by omega), if_pos ⟨rfl, rfl⟩]
    · rw [hRs, if_neg (by omega), if_pos ⟨rfl, rfl⟩]
    · rw [hRs, if_pos ⟨rfl, rfl⟩]
    · intro La c Lb e
      have hl : La.length < L.length := by
        rw [e, List.length_append, List.length_cons]
        omega
      have hh := HdI_at L La c Lb 0 0 hH e
      rw [Nat.zero_add, Nat.zero_add] at hh
      refine ⟨(xI _ hl).trans hh.1, (yI _ hl).trans hh.2⟩
    · intro j hj
      have hh := AtI_get (stepsOf L) 0 j hR1 hj
      rw [Nat.zero_add] at hh
      exact (wI j hj).trans hh
theorem c112b {h : QH} (H : Sh h) (wc : WC h) {T : Nat → Nat} (tc : ∀ i, i < 400 → T i < 256 ∧ hI h 28 i = nZ (T i)) (d n N : Nat) (hn : n ≤ 400) (w : NN T n N) : (match RL (CT T n) (VT T n) N 12 0 0 0 with
    | .inl e => ∃ A B G R, qcl (d + 63) 112 [qR (some 29), qR (some 28), qI (nZ n)] h = some (some (qR none), st2' (bs (hsR h 29 1 (some 28)) A B) G R) ∧ G 0 = nZ (ts T n e)
    | .inr L => ∃ A B G R k, qcl (d + 63) 112 [qR (some 29), qR (some 28), qI (nZ n)] h = some (some (qR (some (hN h))), k) ∧ GW 4 (3 + (L.length + (L.length + (stepsOf L).length))) (st2' (bs (hsR h 29 1 (some 28)) A B) G R) k ∧ LO2 k (hN h) L) := by
  have Hr := Sh_r29 H (some 28)
  have hNn := w.1
  have Xr : CRX (hsR h 29 1 (some 28)) T n := by
    refine ⟨Hr, hn, ?_, tc, wc⟩
    show (if (29 : Nat) = 29 ∧ (1 : Nat) = 1 then some 28 else hR h 29 1) = some 28
    rw [if_pos ⟨rfl, rfl⟩]
  have Xb := bs_X Xr (hI h 33) (hI h 34)
  have F0 : ∃ F : Nat → Int32, F = upS (upS (upS (upS (upS (upS (hI h 29) 2 (nZ n)) 3 (nZ 0)) 6 (nZ 0)) 7 (nZ 0)) 8 (nZ 0)) 9 (nZ 0) := ⟨_, rfl⟩
  obtain ⟨F, hF⟩ := F0
  have f2 : F 2 = nZ n := by
    rw [hF]
    simp (disch := decide) only [upS_ne, upS_at]
  have f3 : F 3 = nZ 0 := by
    rw [hF]
    simp (disch := decide) only [upS_ne, upS_at]
  have f6 : F 6 = nZ 0 := by
    rw [hF]
    simp (disch := decide) only [upS_ne, upS_at]
  have f7 : F 7 = nZ 0 := by
    rw [hF]
    simp (disch := decide) only [upS_ne, upS_at]
  have f8 : F 8 = nZ 0 := by
    rw [hF]
    simp (disch := decide) only [upS_ne, upS_at]
  have f9 : F 9 = nZ 0 := by
    rw [hF]
    exact upS_at
  obtain ⟨G1, a1, a2, a3⟩ := c106_first Xb (d + 59) F (hI h 35) f2 f3
  have ps : PS T n G1 0 0 0 0 := ⟨a2, a3.2.1.trans f6, a3.2.2.1.trans f7, a3.2.2.2.2.trans f9⟩
  have o := c112_44 Xr w d 11 0 0 0 (hI h 33) (hI h 34) G1 (hI h 35) (by decide) (Nat.zero_le _) (Nat.zero_le _) (by omega) ps (a3.2.2.2.1.trans f8)
  have st : qcl (d + 63) 112 [qR (some 29), qR (some 28), qI (nZ n)] h = qbig (d + 63) 112 46 [sR (some 29), none, none, sI (nZ 0)] [] (st2' (bs (hsR h 29 1 (some 28)) (hI h 33) (hI h 34)) G1 (hI h 35)) := by
    have pr : qpr 4 1 29 (some 28) h = some (hsR h 29 1 (some 28)) := by
      unfold qpr
      rw [if_pos ⟨⟨by decide, H.n (by decide)⟩, H.t (by decide) (by decide) rfl, by rw [H.l (a := 29) (by decide) (by decide) rfl]; decide⟩]
    have em : (if nZ 400 < nZ n then nZ 400 else nZ n) = nZ n := by
      have e := nZ_lt (a := 400) (b := n) (by decide) (by omega)
      simp only [e]
      rw [if_neg (by omega)]
    have s0 : hsR h 29 1 (some 28) = st2' (bs (hsR h 29 1 (some 28)) (hI h 33) (hI h 34)) (hI h 29) (hI h 35) := (s2_id (h := hsR h 29 1 (some 28))).symm
    have Hb : Sh (bs (hsR h 29 1 (some 28)) (hI h 33) (hI h 34)) := Hr
    have el : qal 28 (hsR h 29 1 (some 28)) = some (nZ 400) := l28 Hr
    have a1' : qcl (d + 62) 106 [qR (some 29)] (st2' (bs (hsR h 29 1 (some 28)) (hI h 33) (hI h 34)) (upS (upS (upS (upS (upS (upS (hI h 29) 2 (nZ n)) 3 (nZ 0)) 6 (nZ 0)) 7 (nZ 0)) 8 (nZ 0)) 9 (nZ 0)) (hI h 35)) = some (none, st2' (bs (hsR h 29 1 (some 28)) (hI h 33) (hI h 34)) G1 (hI h 35)) := by
      rw [← hF]
      exact a1
    rw [E112, ck29 H, ob_some, pr, ob_some, ob_some, el, ob_some]
    have em' : (if (nZ 400) < (nZ n) then (nZ 400) else (nZ n)) = nZ n := em
    rw [em', s0]
    simp (disch := first | assumption | omega | (simp only [Sh_s2]; assumption)) only [p29_2, p29_3, p29_6, p29_7, p29_8, p29_9, ob_some, s2_s29, L0, a1', jV]
    rw [← s0]
  rw [st]
  cases er : RL (CT T n) (VT T n) N 12 0 0 0 with
  | inl e =>
    rw [er] at o
    obtain ⟨he, A, B, G, R, g1, g2⟩ := o
    exact ⟨A, B, G, R, g1, g2⟩
  | inr L =>
    obtain ⟨r1, r2, r3, r4, r5⟩ := RL_b _ _ _ _ _ er (Nat.zero_le _) (Nat.zero_le _)
    rw [er] at o
    obtain ⟨A, B, G, R, g1, g2, g3, g4, g5, g6, g7⟩ := o
    rw [Nat.zero_add] at g3
    have g2' : G 8 = nZ L.length := by
      rw [g2]
      congr 1
      omega
    obtain ⟨k, m1, m2, m3⟩ := mkL_c2 Hr (d + 61) L A B G R r2 (by omega) g2' g3 g5 g7
    exact ⟨A, B, G, R, k, g1.trans m1, m2, m3⟩
/-! frames with new cells -/
theorem c35b {h : QH} {W : Nat → Nat} {c : Nat} {T : Nat → Nat} (K : K0 h W c T) (wc : WC h) (d N : Nat) (w : NN T (T 400) N) : (W 411 = 6 → qcl (d + 65) 35 [qR (some 10)] h = some (some (qI (-nZ 5)), rfC (hsI h 27 0 (nZ 0)) (-nZ 5) 3)) ∧ (W 411 ≠ 6 → (match RL (CT T (T 400)) (VT T (T 400)) N 12 0 0 0 with
    | .inl e => ∃ k, qcl (d + 65) 35 [qR (some 10)] h = some (some (qI (-nZ 6)), rfC (hsI k 10 13 (nZ (ts T (T 400) e))) (-nZ 6) 4) ∧ FrA lC lR 0 0 h k ∧ hI k 27 0 = nZ 0 ∧ (∀ j, hI k 10 j = hI h 10 j) ∧ (∀ j, hI k 54 j = hI h 54 j) ∧ Sh k ∧ (∀ b j, 55 < b → b < 79 → hI k b j = hI h b j) ∧ (∀ i, hR k 25 i = hR h 25 i) ∧ hI k 11 4 = hI h 11 4
    | .inr L => ∃ k, qcl (d + 65) 35 [qR (some 10)] h = some (some (qI (nZ (W 411))), okC' (hsI (hsR (hsI k 10 13 (-nZ 1)) 25 (W 411) (some (hN h))) 11 4 (nZ (W 411 + 1)))) ∧ FrA lC lR 4 439 h k ∧ hI k 27 0 = nZ 0 ∧ (∀ j, hI k 10 j = hI h 10 j) ∧ (∀ j, hI k 54 j = hI h 54 j) ∧ Sh k ∧ (∀ b j, 55 < b → b < 79 → hI k b j = hI h b j) ∧ (∀ i, hR k 25 i = hR h 25 i) ∧ LO2 k (hN h) L)) := by
  have H := K.sh
  have n6 : W 411 ≤ 6 := K.wi.1 411 (by decide) (by decide)
  have kt := K.2.2.2.2.2.2.2
  have h27 : hI h 27 0 = nZ (T 400) := kt.2.1
  have f4 : hI h 11 4 = nZ (W 411) := K.2.2.2.2.1.2.2.2.1
  have hn := kt.1
  have H1 : Sh (hsI h 27 0 (nZ 0)) := H
  have wc1 : WC (hsI h 27 0 (nZ 0)) := ⟨fun j hj => (hI_ne (by omega)).trans (wc.1 j hj), fun j hj => (hI_ne (by omega)).trans (wc.2.1 j hj), fun j hj => (hI_ne (by omega)).trans (wc.2.2 j hj)⟩
  have tc1 : ∀ i, i < 400 → T i < 256 ∧ hI (hsI h 27 0 (nZ 0)) 28 i = nZ (T i) := fun i hi => ⟨(kt.2.2.2 i hi).1, (hI_ne (by omega)).trans (kt.2.2.2 i hi).2.1⟩
  have f4' : hI (hsI h 27 0 (nZ 0)) 11 4 = nZ (W 411) := (hI_ne (by omega)).trans f4
  refine ⟨?_, ?_⟩
  · intro c6
    have e43 := c43_5 H1 (d + 62)
    rw [c6] at f4'
    simp (disch := first | assumption | omega) only [E35, ck10, ob_some, g10_2, g27_0, h27, p27_0, L0, g10_0, g11_4, f4', L6, nZ_lt, Nat.lt_irrefl, if_false]
    have m5 : (-5 : Int32) = -nZ 5 := rfl
    rw [m5, e43, jI]
  · intro c6
    have o := c112b H1 wc1 tc1 (d + 1) (T 400) N hn w
    have lt6 : W 411 < 6 := by omega
    cases er : RL (CT T (T 400)) (VT T (T 400)) N 12 0 0 0 with
    | inl e =>
      rw [er] at o
      obtain ⟨A, B, G, R, g1, g2⟩ := o
      have Hk : Sh (st2' (bs (hsR (hsI h 27 0 (nZ 0)) 29 1 (some 28)) A B) G R) := Sh_r29 H1 (some 28)
      have hk : ∀ b j, b ≠ 35 → b ≠ 29 → b ≠ 34 → b ≠ 33 → b ≠ 27 → hI (st2' (bs (hsR (hsI h 27 0 (nZ 0)) 29 1 (some 28)) A B) G R) b j = hI h b j := by
        intro b j h1 h2 h3 h4 h5
        rw [s2_ne h2 h1]
        unfold bs
        rw [hA_ne h3, hA_ne h4]
        show hI (hsI h 27 0 (nZ 0)) b j = _
        rw [hI_ne (Or.inl h5)]
      have h270 : hI (st2' (bs (hsR (hsI h 27 0 (nZ 0)) 29 1 (some 28)) A B) G R) 27 0 = nZ 0 := by
        rw [s2_ne (by decide) (by decide)]
        unfold bs
        rw [hA_ne (by decide), hA_ne (by decide)]
        show hI (hsI h 27 0 (nZ 0)) 27 0 = _
        exact hI_at rfl
      refine ⟨st2' (bs (hsR (hsI h 27 0 (nZ 0)) 29 1 (some 28)) A B) G R, ?_, ?_, h270, fun j => hk 10 j (by decide) (by decide) (by decide) (by decide) (by decide), fun j => hk 54 j (by decide) (by decide) (by decide) (by decide) (by decide), Hk, fun b j h1 h2 => hk b j (by omega) (by omega) (by omega) (by omega) (by omega), fun i => rfl, hk 11 4 (by decide) (by decide) (by decide) (by decide) (by decide)⟩
      · have e43 := c43_6 (h := hsI (st2' (bs (hsR (hsI h 27 0 (nZ 0)) 29 1 (some 28)) A B) G R) 10 13 (nZ (ts T (T 400) e))) Hk (d + 62)
        have g0 : hI (st2' (bs (hsR (hsI h 27 0 (nZ 0)) 29 1 (some 28)) A B) G R) 29 0 = nZ (ts T (T 400) e) := s2_29.trans g2
        have m6 : (-6 : Int32) = -nZ 6 := rfl
        simp (disch := first | assumption | omega) only [E35, ck10, ob_some, g10_2, g27_0, h27, p27_0, L0, g10_0, g11_4, f4', L6, nZ_lt, nd_lt_t, if_true, g10_3, g27_1, g1, jR, g29_0, g0, p10_13, m6, e43, jI]
      · exact FrA.sA (fun i => rfl) (FrA.sA (fun i => rfl) (FrA.sA (fun i => rfl) (FrA.sA (fun i => rfl) (FrA.sR rfl (FrA.si rfl FrA.refl)))))
    | inr L =>
      obtain ⟨r1, r2, r3, r4, r5⟩ := RL_b _ _ _ _ _ er (Nat.zero_le _) (Nat.zero_le _)
      have hNn := w.1
      rw [er] at o
      obtain ⟨A, B, G, R, k, g1, g2, g3⟩ := o
      have Hk : Sh k := g2.Sh (Sh_r29 H1 (some 28))
      have n0 : hN (st2' (bs (hsR (hsI h 27 0 (nZ 0)) 29 1 (some 28)) A B) G R) = hN h := rfl
      have h79 := H.1
      have hk : ∀ b j, b ≠ 35 → b ≠ 29 → b ≠ 34 → b ≠ 33 → b ≠ 27 → b < hN h → hI k b j = hI h b j := by
        intro b j h1 h2 h3 h4 h5 h6
        rw [g2.2.2.2.1 b j (by rw [n0]; exact h6), s2_ne h2 h1]
        unfold bs
        rw [hA_ne h3, hA_ne h4]
        show hI (hsI h 27 0 (nZ 0)) b j = _
        rw [hI_ne (Or.inl h5)]
      have h270 : hI k 27 0 = nZ 0 := by
        rw [g2.2.2.2.1 27 0 (by rw [n0]; omega), s2_ne (by decide) (by decide)]
        unfold bs
        rw [hA_ne (by decide), hA_ne (by decide)]
        show hI (hsI h 27 0 (nZ 0)) 27 0 = _
        exact hI_at rfl
      have k25 : ∀ i, hR k 25 i = hR h 25 i := fun i => g2.2.2.2.2 25 i (by rw [n0]; omega)
      have Hk2 : Sh (hsI k 10 13 (-nZ 1)) := Hk
      have hk11 : hI (hsI k 10 13 (-nZ 1)) 11 4 = nZ (W 411) := by
        rw [hI_ne (by decide), hk 11 4 (by decide) (by decide) (by decide) (by decide) (by decide) (by omega)]
        exact f4
      have gN : hN k = hN h + 4 := by rw [g2.1, n0]
      have aT : hT k (hN h) = 17 := by
        obtain ⟨x, y, z, ⟨q1, q2, q3, q4⟩, _⟩ := g3.1
        exact q3
      have qs : qsr 25 (nZ (W 411)) (some (hN h)) (hsI k 10 13 (-nZ 1)) = some (hsR (hsI k 10 13 (-nZ 1)) 25 (W 411) (some (hN h))) := by
        unfold qsr
        have t25 : hT (hsI k 10 13 (-nZ 1)) 25 = 5 := Hk2.t (by decide) (by decide) rfl
        have l25 : hL (hsI k 10 13 (-nZ 1)) 25 = 6 := Hk2.l (by decide) (by decide) rfl
        rw [nZ_nat (by omega), t25, l25, if_pos]
        refine ⟨⟨by decide, Hk2.n (by decide)⟩, Or.inr rfl, z_nn (by omega), by omega, ?_⟩
        exact decide_eq_true ⟨⟨by omega, by show hN h < hN k; omega⟩, Or.inr ⟨rfl, aT⟩⟩
      have Hk3 : Sh (hsR (hsI k 10 13 (-nZ 1)) 25 (W 411) (some (hN h))) := Sh_r25 Hk2 _ _
      have hk11' : hI (hsR (hsI k 10 13 (-nZ 1)) 25 (W 411) (some (hN h))) 11 4 = nZ (W 411) := hk11
      have e162 : qcl (d + 64) 162 [qR (some 11), qR (some (hN h))] (hsI k 10 13 (-nZ 1)) = some (some (qI (nZ (W 411))), hsI (hsR (hsI k 10 13 (-nZ 1)) 25 (W 411) (some (hN h))) 11 4 (nZ (W 411 + 1))) := by
        simp (disch := first | assumption | omega) only [E162, ck11, ob_some, g11_4, hk11, g11_3, qs, hk11', L1, nZ_add, p11_4]
      have e10 := c10 (h := hsI (hsR (hsI k 10 13 (-nZ 1)) 25 (W 411) (some (hN h))) 11 4 (nZ (W 411 + 1))) Hk3 (d + 63) (nZ (W 411))
      refine ⟨k, ?_, ?_, h270, fun j => hk 10 j (by decide) (by decide) (by decide) (by decide) (by decide) (by omega), fun j => hk 54 j (by decide) (by decide) (by decide) (by decide) (by decide) (by omega), Hk, fun b j h1 h2 => hk b j (by omega) (by omega) (by omega) (by omega) (by omega) (by omega), k25, g3⟩
      · have sn : (some (hN h) = (none : Option Nat)) = False := eq_false (fun z => by cases z)
        have m1 : (-1 : Int32) = -nZ 1 := rfl
        have g1' : qcl (d + 64) 112 [qR (some 29), qR (some 28), qI (nZ (T 400))] (hsI h 27 0 (nZ 0)) = some (some (qR (some (hN h))), k) := g1
        simp (disch := first | assumption | omega) only [E35, ck10, ob_some, g10_2, g27_0, h27, p27_0, L0, g10_0, g11_4, f4', L6, nZ_lt, nd_lt_t, if_true, if_false, g10_3, g27_1, g1', jR, sn, m1, p10_13, e162, jI, e10]
      · refine FrA.of (FrA.gw (m := 0) (s := 0) (FrA.sA (fun i => rfl) (FrA.sA (fun i => rfl) (FrA.sA (fun i => rfl) (FrA.sA (fun i => rfl) (FrA.sR rfl (FrA.si rfl FrA.refl)))))) g2) (by omega) (by omega)
theorem op_law2 {h : QH} {W : Nat → Nat} {c : Nat} {T : Nat → Nat} (KK : K1 h W c T) (wc : WC h) (d : Nat) : Op (d + 65) 35 214 [] h (fun k => LawP h k W c T ∧ ∀ i a, hR k 25 i = some a → hR h 25 i = some a ∨ LG k a) := by
  obtain ⟨v, h1, h2, o1', o2', PP⟩ := op_law KK wc d
  refine ⟨v, h1, h2, o1', o2', PP, ?_⟩
  have K := KK.1
  have H := K.sh
  have n6 : W 411 ≤ 6 := K.wi.1 411 (by decide) (by decide)
  have kt := K.2.2.2.2.2.2.2
  have hn := kt.1
  have tp0 : TP h T := fun i hi => ⟨(kt.2.2.2 i hi).1, (kt.2.2.2 i hi).2.2⟩
  obtain ⟨N, _, w, _, _, _, _⟩ := m_reads H wc tp0 0 (T 400) hn kt.2.2.1
  obtain ⟨cA, cB⟩ := c35b KK.1 wc d N w
  have inj : ∀ {x y : Option QV} {p q : QH}, (some (x, p) : QO) = some (y, q) → p = q := fun e => by
    injection e with e
    injection e
  by_cases c6 : W 411 = 6
  · have e1 := cA c6
    have eh1 := inj (o1'.symm.trans e1)
    subst eh1
    have F1 : FrA lC lR 0 0 h (rfC (hsI h 27 0 (nZ 0)) (-nZ 5) 3) := FrA.si rfl (FrA.si rfl (FrA.si rfl FrA.refl))
    have H1 : Sh (rfC (hsI h 27 0 (nZ 0)) (-nZ 5) 3) := H
    have h79 := H.1
    have mk1 : MK (rfC (hsI h 27 0 (nZ 0)) (-nZ 5) 3) W := MK.si (by decide) (MK.si (by decide) (MK.si (by decide) K.mk))
    have tp1 : TP (rfC (hsI h 27 0 (nZ 0)) (-nZ 5) 3) T := fun i hi => ⟨(tp0 i hi).1, (F1.2.2.1 62 i (by omega) rfl).trans (tp0 i hi).2⟩
    have h10' : hI (rfC (hsI h 27 0 (nZ 0)) (-nZ 5) 3) 56 10 = nZ (T 400) := by
      unfold rfC
      simp (disch := decide) only [hI_ne]
      exact kt.2.2.1
    have e2 := (m214 H1 (wc.fA H F1) mk1 tp1 d (T 400) N hn h10' n6 w).1 c6
    have eh2 := inj (o2'.symm.trans e2)
    subst eh2
    exact fun i a z => Or.inl z
  · have o1 := cB c6
    cases er : RL (CT T (T 400)) (VT T (T 400)) N 12 0 0 0 with
    | inl e =>
      rw [er] at o1
      obtain ⟨k, e1, F0, k27, k10, k54, Hk, kI, kR, k11⟩ := o1
      have eh1 := inj (o1'.symm.trans e1)
      subst eh1
      have F1 : FrA lC lR 0 0 h (rfC (hsI k 10 13 (nZ (ts T (T 400) e))) (-nZ 6) 4) := FrA.si rfl (FrA.si rfl (FrA.si rfl F0))
      have H1 : Sh (rfC (hsI k 10 13 (nZ (ts T (T 400) e))) (-nZ 6) 4) := Hk
      have gI : ∀ b j, 55 < b → b < 79 → hI (rfC (hsI k 10 13 (nZ (ts T (T 400) e))) (-nZ 6) 4) b j = hI h b j := by
        intro b j h1 h2
        unfold rfC
        rw [hI_ne (by omega), hI_ne (by omega), hI_ne (by omega)]
        exact kI b j h1 h2
      have mk1 : MK (rfC (hsI k 10 13 (nZ (ts T (T 400) e))) (-nZ 6) 4) W := K.mk.of (fun j => gI 58 j (by decide) (by decide))
      have tp1 : TP (rfC (hsI k 10 13 (nZ (ts T (T 400) e))) (-nZ 6) 4) T := fun i hi => ⟨(tp0 i hi).1, (gI 62 i (by decide) (by decide)).trans (tp0 i hi).2⟩
      have o2 := (m214 H1 (wc.fA H F1) mk1 tp1 d (T 400) N hn ((gI 56 10 (by decide) (by decide)).trans kt.2.2.1) n6 w).2 c6
      rw [er] at o2
      obtain ⟨he, k2, e2, F2, mk2, m11, m10⟩ := o2
      have eh2 := inj (o2'.symm.trans e2)
      subst eh2
      intro i a z
      left
      have z' : hR k2 25 i = some a := z
      rw [F2.r 25 i] at z'
      rw [← kR i]
      exact z'
    | inr L =>
      rw [er] at o1
      obtain ⟨k, e1, F0, k27, k10, k54, Hk, kI, kR, kL⟩ := o1
      obtain ⟨g, hg⟩ : ∃ g, g = okC' (hsI (hsR (hsI k 10 13 (-nZ 1)) 25 (W 411) (some (hN h))) 11 4 (nZ (W 411 + 1))) := ⟨_, rfl⟩
      rw [← hg] at e1
      have eh1 := inj (o1'.symm.trans e1)
      subst eh1
      have F1 : FrA lC lR 4 439 h h1 := by
        rw [hg]
        exact FrA.si rfl (FrA.si rfl (FrA.si rfl (FrA.sR rfl (FrA.si rfl F0))))
      have H1 : Sh h1 := by
        rw [hg]
        exact Sh_r25 (h := hsI k 10 13 (-nZ 1)) Hk _ _
      have gI : ∀ b j, 55 < b → b < 79 → hI h1 b j = hI h b j := by
        intro b j h1 h2
        rw [hg]
        unfold okC'
        rw [hI_ne (by omega), hI_ne (by omega), hI_ne (by omega)]
        show hI (hsI k 10 13 (-nZ 1)) b j = _
        rw [hI_ne (by omega)]
        exact kI b j h1 h2
      have mk1 : MK h1 W := K.mk.of (fun j => gI 58 j (by decide) (by decide))
      have tp1 : TP h1 T := fun i hi => ⟨(tp0 i hi).1, (gI 62 i (by decide) (by decide)).trans (tp0 i hi).2⟩
      have o2 := (m214 H1 (wc.fA H F1) mk1 tp1 d (T 400) N hn ((gI 56 10 (by decide) (by decide)).trans kt.2.2.1) n6 w).2 c6
      rw [er] at o2
      obtain ⟨k2, e2, F2, mk2, m11, m10⟩ := o2
      have eh2 := inj (o2'.symm.trans e2)
      subst eh2
      have r1 : ∀ b j, hR h1 b j = if b = 25 ∧ j = W 411 then some (hN h) else hR k b j := fun b j => by
        rw [hg]
        rfl
      have nk : hN h1 = hN k := by
        rw [hg]
        rfl
      have sk : h1.2.2.1 = k.2.2.1 := by
        rw [hg]
        rfl
      have lg := kL.lg
      have lg2 : LG (okM' k2) (hN h) := lg.of (by
        show hN k ≤ hN k2
        rw [F2.n, nk]
        exact Nat.le_refl _) (fun b _ => by
        show k2.2.2.1 b = _
        rw [F2.1.2.2.1, sk]) (fun j => by
        show hR k2 (hN h) j = _
        rw [F2.r, r1, if_neg]
        intro z
        have := H.1
        omega)
      intro i a z
      have z' : hR k2 25 i = some a := z
      rw [F2.r 25 i, r1] at z'
      by_cases ci : i = W 411
      · rw [if_pos ⟨rfl, ci⟩] at z'
        right
        rw [← Option.some.inj z']
        exact lg2
      · rw [if_neg (fun q => ci q.2), kR i] at z'
        exact Or.inl z'

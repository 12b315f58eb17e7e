/-! ===== a law is made ===== -/
/-- new cells; the old ones are as they were -/
def GW (m s : Nat) (h k : QH) : Prop := hN k = hN h + m ∧ hS k = hS h + s ∧ (∀ b, b < hN h → k.2.2.1 b = h.2.2.1 b) ∧ (∀ b j, b < hN h → hI k b j = hI h b j) ∧ ∀ b j, b < hN h → hR k b j = hR h b j
theorem GW.trans {m s m2 s2 : Nat} {h k l : QH} (a : GW m s h k) (b : GW m2 s2 k l) : GW (m + m2) (s + s2) h l := by
  obtain ⟨a1, a2, a3, a4, a5⟩ := a
  obtain ⟨b1, b2, b3, b4, b5⟩ := b
  exact ⟨by omega, by omega, fun x hx => (b3 x (by omega)).trans (a3 x hx), fun x j hx => (b4 x j (by omega)).trans (a4 x j hx), fun x j hx => (b5 x j (by omega)).trans (a5 x j hx)⟩
theorem shR_lt : ∀ q ∈ shR, q.1 < 79 := by decide
theorem GW.Sh {m s : Nat} {h k : QH} (g : GW m s h k) (H : Sh h) : Sh k := by
  obtain ⟨g1, g2, g3, g4, g5⟩ := g
  refine ⟨?_, ?_, ?_⟩
  · have := H.1
    omega
  · intro j hj h9
    rw [g3 j (by have := H.1; omega)]
    exact H.2.1 j hj h9
  · intro q hq
    have := shR_lt q hq
    rw [g5 _ _ (by have := H.1; omega)]
    exact H.2.2 q hq
theorem GW.t {m s : Nat} {h k : QH} (g : GW m s h k) {b : Nat} (hb : b < hN h) : hT k b = hT h b ∧ hL k b = hL h b := by
  unfold hT hL
  rw [g.2.2.1 b hb]
  exact ⟨rfl, rfl⟩
theorem GW_push {h : QH} {t n : Nat} : GW 1 n h (hPush h t n) ∧ (hPush h t n).2.2.1 (hN h) = (t, n) := by
  refine ⟨⟨rfl, rfl, ?_, ?_, ?_⟩, ?_⟩
  · intro b hb
    show (if b = h.1 then (t, n) else h.2.2.1 b) = _
    rw [if_neg (by unfold hN at hb; omega)]
  · intro b j hb
    show (if b = h.1 then 0 else h.2.2.2.1 b j) = _
    rw [if_neg (by unfold hN at hb; omega)]
    rfl
  · intro b j hb
    show (if b = h.1 then none else h.2.2.2.2 b j) = _
    rw [if_neg (by unfold hN at hb; omega)]
    rfl
  · show (if h.1 = h.1 then (t, n) else h.2.2.1 h.1) = _
    rw [if_pos rfl]
def hCl (h : QH) (p : Nat) : QH := (h.1 + 1, h.2.1 + hL h p, fun b => if b = h.1 then (0, hL h p) else h.2.2.1 b, fun b j => if b = h.1 then hI h p j else h.2.2.2.1 b j, fun b j => if b = h.1 then none else h.2.2.2.2 b j)
theorem c7 {h : QH} (d p n : Nat) (h1 : 10 ≤ p ∧ p < hN h) (h2 : hT h p = 0) (h3 : n ≤ hL h p) (h4 : hL h p < 100000) : ∃ k, qcl (d + 1) 7 [qR (some p), qI (nZ n)] h = some (some (qR (some (hN h))), k) ∧ GW 1 n h k ∧ k.2.2.1 (hN h) = (0, n) ∧ ∀ j, j < n → hI k (hN h) j = hI h p j := by
  have el : qal p h = some (nZ (hL h p)) := qal_of h1.2 h2
  by_cases c : n = hL h p
  · subst c
    have ec : qcn p h = some (h.1 + 1, h.2.1 + hL h p, fun b => if b = h.1 then (0, hL h p) else h.2.2.1 b, fun b j => if b = h.1 then hI h p j else h.2.2.2.1 b j, fun b j => if b = h.1 then none else h.2.2.2.2 b j) := by
      unfold qcn
      rw [if_pos ⟨h1, h2⟩]
    refine ⟨hCl h p, ?_, ⟨rfl, rfl, ?_, ?_, ?_⟩, ?_, ?_⟩
    · rw [E7]
      rw [ob_some, el, ob_some, if_pos rfl, ob_some, ec, ob_some]
      have eca : qca (hN h) (h.1 + 1, h.2.1 + hL h p, fun b => if b = h.1 then (0, hL h p) else h.2.2.1 b, fun b j => if b = h.1 then hI h p j else h.2.2.2.1 b j, fun b j => if b = h.1 then none else h.2.2.2.2 b j) = some () := by
        unfold qca
        refine if_pos ⟨⟨by omega, ?_⟩, ?_⟩
        · show hN h < h.1 + 1
          exact Nat.lt_succ_self _
        · show (if h.1 = h.1 then (0, hL h p) else h.2.2.1 h.1).1 = 0
          rw [if_pos rfl]
      rw [eca]
      rfl
    · intro b hb
      show (if b = h.1 then (0, hL h p) else h.2.2.1 b) = _
      rw [if_neg (by unfold hN at hb; omega)]
    · intro b j hb
      show (if b = h.1 then hI h p j else h.2.2.2.1 b j) = _
      rw [if_neg (by unfold hN at hb; omega)]
      rfl
    · intro b j hb
      show (if b = h.1 then none else h.2.2.2.2 b j) = _
      rw [if_neg (by unfold hN at hb; omega)]
      rfl
    · show (if h.1 = h.1 then (0, hL h p) else h.2.2.1 h.1) = _
      rw [if_pos rfl]
    · intro j hj
      show (if h.1 = h.1 then hI h p j else h.2.2.2.1 h.1 j) = _
      rw [if_pos rfl]
  · have en : qna 0 (nZ n) h = some (hPush h 0 n) := by
      unfold qna
      rw [nZ_nat (by omega), if_pos ⟨z_nn (by omega), by omega⟩]
    obtain ⟨g, g6⟩ := GW_push (h := h) (t := 0) (n := n)
    have gt := g.t h1.2
    have el2 : qal p (hPush h 0 n) = some (nZ (hL h p)) := by
      rw [qal_of (by rw [g.1]; omega) (gt.1.trans h2), gt.2]
    have eq1 : (nZ n = nZ (hL h p)) = False := by
      rw [nZ_eq (by omega) (by omega)]
      exact eq_false c
    have em : (if nZ n < nZ (hL h p) then nZ n else nZ (hL h p)) = nZ n := by
      have e := nZ_lt (a := n) (b := hL h p) (by omega) (by omega)
      simp only [e]
      rw [if_pos (by omega)]
    have hTn : hT (hPush h 0 n) (hN h) = 0 ∧ hL (hPush h 0 n) (hN h) = n := by
      unfold hT hL
      rw [g6]
      exact ⟨rfl, rfl⟩
    have hb10 : 10 ≤ hN h := by omega
    have hlt : hN h < hN (hPush h 0 n) := by rw [g.1]; omega
    have ecp := qcp_A (h := hPush h 0 n) (s := p) (d := hN h) (sp := 0) (dp := 0) (n := n) ⟨h1.1, by rw [g.1]; omega⟩ ⟨hb10, hlt⟩ (gt.1.trans h2) hTn.1 (by rw [gt.2]; omega) (by rw [hTn.2]; omega) (by decide) (by decide) (by omega)
    refine ⟨hsA (hPush h 0 n) (hN h) (fun j => if 0 ≤ j ∧ j < 0 + n then hI (hPush h 0 n) p (0 + (j - 0)) else hI (hPush h 0 n) (hN h) j), ?_, ⟨g.1, g.2.1, g.2.2.1, ?_, g.2.2.2.2⟩, g6, ?_⟩
    · rw [E7, ob_some, el, ob_some]
      simp only [eq1, if_false]
      rw [en, ob_some, ob_some, el2, ob_some, ob_some]
      have em' : (if nZ n < nZ (hL h p) then nZ n else nZ (hL h p)) = nZ n := em
      rw [em']
      have ecp' : qcp p 0 (hN h) 0 (nZ n) (hPush h 0 n) = _ := ecp
      rw [ecp', ob_some]
    · intro b j hb
      rw [hA_ne (by omega)]
      exact g.2.2.2.1 b j hb
    · intro j hj
      rw [hA_at, if_pos (by omega), g.2.2.2.1 p _ h1.2]
      congr 1
      omega
/-- the rows of a law -/
theorem HdI_at {A B : Nat → Int32} : ∀ (L La : List CL) (c : CL) (Lb : List CL) (k z : Nat), HdI A B k z L → L = La ++ c :: Lb → A (k + La.length) = nZ (c.1 - 1) ∧ B (k + La.length) = nZ (z + ((stepsOf La).length + c.2.1.length))
  | [], La, c, Lb, k, z, _, e => by
    have := congrArg List.length e
    simp at this
  | x :: L, [], c, Lb, k, z, hh, e => by
    obtain ⟨e1, e2⟩ := List.cons.inj e
    subst e1
    refine ⟨hh.1, ?_⟩
    show B k = nZ (z + (0 + x.2.1.length))
    rw [Nat.zero_add]
    exact hh.2.1
  | x :: L, y :: La, c, Lb, k, z, hh, e => by
    rw [List.cons_append] at e
    obtain ⟨e1, e2⟩ := List.cons.inj e
    subst e1
    have := HdI_at L La c Lb (k + 1) (z + x.2.1.length) hh.2.2 e2
    rw [List.length_cons, stepsOf_cons, List.length_append]
    rw [show k + (La.length + 1) = k + 1 + La.length by omega, show z + (x.2.1.length + (stepsOf La).length + c.2.1.length) = z + x.2.1.length + ((stepsOf La).length + c.2.1.length) by omega]
    exact this
theorem AtI_get {S : Nat → Int32} : ∀ (l : List Nat) (z j : Nat), AtI S z l → j < l.length → S (z + j) = nZ (l.getD j 0)
  | [], z, j, _, h => by
    simp at h
  | x :: l, z, 0, hh, _ => hh.1
  | x :: l, z, j + 1, hh, h => by
    have := AtI_get l (z + 1) j hh.2 (by simpa using h)
    rw [show z + (j + 1) = z + 1 + j by omega, this]
    rfl
theorem mkL_c {h : QH} (H : Sh h) (d : Nat) (L : List CL) (A B G R : Nat → Int32) (hL1 : L.length ≤ 12) (hL2 : (stepsOf L).length ≤ 412) (g8 : G 8 = nZ L.length) (g9 : G 9 = nZ (stepsOf L).length) (hR1 : AtI R 0 (stepsOf L)) (hH : HdI A B 0 0 L) : ∃ k, mkL (d + 1) (st2' (bs h A B) G R) = some (some (qR (some (hN h))), k) ∧ GW 4 (3 + (L.length + (L.length + (stepsOf L).length))) (st2' (bs h A B) G R) k ∧ LO k (hN h) L := by
  have hn79 := H.1
  have hN0 : hN (st2' (bs h A B) G R) = hN h := rfl
  have H0 : Sh (st2' (bs h A B) G R) := H
  obtain ⟨u0, u1'⟩ := GW_push (h := st2' (bs h A B) G R) (t := 16 + 1) (n := 3)
  have u1 : GW 1 3 (st2' (bs h A B) G R) (qno 1 3 (st2' (bs h A B) G R)) := u0
  have H1 : Sh (qno 1 3 (st2' (bs h A B) G R)) := u1.Sh H0
  have i29 : ∀ j, hI (qno 1 3 (st2' (bs h A B) G R)) 29 j = G j := fun j => (u1.2.2.2.1 29 j (by rw [hN0]; omega)).trans s2_29
  have t33 : hT (qno 1 3 (st2' (bs h A B) G R)) 33 = 0 ∧ hL (qno 1 3 (st2' (bs h A B) G R)) 33 = 12 := ⟨H1.t (by decide) (by decide) rfl, H1.l (by decide) (by decide) rfl⟩
  obtain ⟨k1, e1, v1, v1', c1⟩ := c7 (h := qno 1 3 (st2' (bs h A B) G R)) d 33 L.length ⟨by decide, H1.n (by decide)⟩ t33.1 (by rw [t33.2]; omega) (by rw [t33.2]; decide)
  have H2 := v1.Sh H1
  have n1 : hN (qno 1 3 (st2' (bs h A B) G R)) = hN h + 1 := u1.1
  have n2 : hN k1 = hN h + 2 := by rw [v1.1, n1]
  have t34 : hT k1 34 = 0 ∧ hL k1 34 = 12 := ⟨H2.t (by decide) (by decide) rfl, H2.l (by decide) (by decide) rfl⟩
  obtain ⟨k2, e2, v2, v2', c2⟩ := c7 (h := k1) d 34 L.length ⟨by decide, H2.n (by decide)⟩ t34.1 (by rw [t34.2]; omega) (by rw [t34.2]; decide)
  have H3 := v2.Sh H2
  have n3 : hN k2 = hN h + 3 := by rw [v2.1, n2]
  have t35 : hT k2 35 = 0 ∧ hL k2 35 = 412 := ⟨H3.t (by decide) (by decide) rfl, H3.l (by decide) (by decide) rfl⟩
  obtain ⟨k3, e3, v3, v3', c3⟩ := c7 (h := k2) d 35 (stepsOf L).length ⟨by decide, H3.n (by decide)⟩ t35.1 (by rw [t35.2]; omega) (by rw [t35.2]; decide)
  have H4 := v3.Sh H3
  have n4 : hN k3 = hN h + 4 := by rw [v3.1, n3]
  have j1 : ∀ j, hI k1 29 j = G j := fun j => (v1.2.2.2.1 29 j (by omega)).trans (i29 j)
  have j2 : ∀ j, hI k2 29 j = G j := fun j => (v2.2.2.2.1 29 j (by omega)).trans (j1 j)
  -- the object
  have tO : hT k3 (hN h) = 17 ∧ hL k3 (hN h) = 3 := by
    have s1 := v3.t (b := hN h) (by omega)
    have s2 := v2.t (b := hN h) (by omega)
    have s3 := v1.t (b := hN h) (by rw [n1]; omega)
    have s4 : hT (qno 1 3 (st2' (bs h A B) G R)) (hN h) = 17 ∧ hL (qno 1 3 (st2' (bs h A B) G R)) (hN h) = 3 := by
      unfold hT hL
      have : (qno 1 3 (st2' (bs h A B) G R)).2.2.1 (hN h) = (17, 3) := u1'
      rw [this]
      exact ⟨rfl, rfl⟩
    exact ⟨s1.1.trans (s2.1.trans (s3.1.trans s4.1)), s1.2.trans (s2.2.trans (s3.2.trans s4.2))⟩
  have w73 : qcl (d + 1) 73 [qR (some (hN h)), qR (some (hN h + 1)), qR (some (hN h + 2)), qR (some (hN h + 3))] k3 = some (none, hsR (hsR (hsR k3 (hN h) 0 (some (hN h + 1))) (hN h) 1 (some (hN h + 2))) (hN h) 2 (some (hN h + 3))) := by
    have ck : qck 1 (hN h) k3 = some () := by
      unfold qck
      rw [if_pos ⟨by omega, Or.inr tO.1⟩]
    have q0 : qpr 1 0 (hN h) (some (hN h + 1)) k3 = some (hsR k3 (hN h) 0 (some (hN h + 1))) := by
      unfold qpr
      rw [if_pos ⟨⟨by omega, by omega⟩, tO.1, by rw [tO.2]; decide⟩]
    have q1 : qpr 1 1 (hN h) (some (hN h + 2)) (hsR k3 (hN h) 0 (some (hN h + 1))) = some (hsR (hsR k3 (hN h) 0 (some (hN h + 1))) (hN h) 1 (some (hN h + 2))) := by
      unfold qpr
      rw [if_pos ⟨⟨by omega, by show hN h < hN k3; omega⟩, tO.1, by show 1 < hL k3 (hN h); rw [tO.2]; decide⟩]
    have q2 : qpr 1 2 (hN h) (some (hN h + 3)) (hsR (hsR k3 (hN h) 0 (some (hN h + 1))) (hN h) 1 (some (hN h + 2))) = some (hsR (hsR (hsR k3 (hN h) 0 (some (hN h + 1))) (hN h) 1 (some (hN h + 2))) (hN h) 2 (some (hN h + 3))) := by
      unfold qpr
      rw [if_pos ⟨⟨by omega, by show hN h < hN k3; omega⟩, tO.1, by show 2 < hL k3 (hN h); rw [tO.2]; decide⟩]
    rw [E73, ck, ob_some, q0, ob_some, q1, ob_some, q2, ob_some]
  have hRs : ∀ b j, hR (hsR (hsR (hsR k3 (hN h) 0 (some (hN h + 1))) (hN h) 1 (some (hN h + 2))) (hN h) 2 (some (hN h + 3))) b j = if b = hN h ∧ j = 2 then some (hN h + 3) else if b = hN h ∧ j = 1 then some (hN h + 2) else if b = hN h ∧ j = 0 then some (hN h + 1) else hR k3 b j := fun b j => rfl
  have g123 := (u1.trans v1).trans (v2.trans v3)
  refine ⟨hsR (hsR (hsR k3 (hN h) 0 (some (hN h + 1))) (hN h) 1 (some (hN h + 2))) (hN h) 2 (some (hN h + 3)), ?_, ⟨?_, ?_, ?_, ?_, ?_⟩, ?_⟩
  · have e1' : qcl (d + 1) 7 [qR (some 33), qI (nZ L.length)] (qno 1 3 (st2' (bs h A B) G R)) = some (some (qR (some (hN h + 1))), k1) := by
      rw [e1, n1]
    have e2' : qcl (d + 1) 7 [qR (some 34), qI (nZ L.length)] k1 = some (some (qR (some (hN h + 2))), k2) := by
      rw [e2, n2]
    have e3' : qcl (d + 1) 7 [qR (some 35), qI (nZ (stepsOf L).length)] k2 = some (some (qR (some (hN h + 3))), k3) := by
      rw [e3, n3]
    unfold mkL
    rw [g29_12 H1, ob_some, g29_8 H1, ob_some, i29 8, g8, e1', jR, g29_13 H2, ob_some, g29_8 H2, ob_some, j1 8, g8, e2', jR, g29_14 H3, ob_some, g29_9 H3, ob_some, j2 9, g9, e3', jR, hN0, w73, jV]
  · exact g123.1
  · have := g123.2.1
    show hS k3 = _
    rw [this]
    omega
  · exact g123.2.2.1
  · exact g123.2.2.2.1
  · intro b j hb
    rw [hRs, if_neg (by rw [hN0] at hb; omega), if_neg (by rw [hN0] at hb; omega), if_neg (by rw [hN0] at hb; omega)]
    exact g123.2.2.2.2 b j hb
  · have sx : hT k3 (hN h + 1) = 0 ∧ hL k3 (hN h + 1) = L.length := by
      have s1 := v3.t (b := hN h + 1) (by omega)
      have s2 := v2.t (b := hN h + 1) (by omega)
      have s3 : hT k1 (hN h + 1) = 0 ∧ hL k1 (hN h + 1) = L.length := by
        unfold hT hL
        rw [n1] at v1'
        rw [v1']
        exact ⟨rfl, rfl⟩
      exact ⟨s1.1.trans (s2.1.trans s3.1), s1.2.trans (s2.2.trans s3.2)⟩
    have sy : hT k3 (hN h + 2) = 0 ∧ hL k3 (hN h + 2) = L.length := by
      have s1 := v3.t (b := hN h + 2) (by omega)
      have s2 : hT k2 (hN h + 2) = 0 ∧ hL k2 (hN h + 2) = L.length := by
        unfold hT hL
        rw [n2] at v2'
        rw [v2']
        exact ⟨rfl, rfl⟩
      exact ⟨s1.1.trans s2.1, s1.2.trans s2.2⟩
    have sw : hT k3 (hN h + 3) = 0 ∧ hL k3 (hN h + 3) = (stepsOf L).length := by
      unfold hT hL
      rw [n3] at v3'
      rw [v3']
      exact ⟨rfl, rfl⟩
    have xI : ∀ j, j < L.length → hI k3 (hN h + 1) j = A j := by
      intro j hj
      rw [v3.2.2.2.1 _ _ (by omega), v2.2.2.2.1 _ _ (by omega), ← n1, c1 j hj, u1.2.2.2.1 33 j (by rw [hN0]; omega)]
      rw [s2_ne (by decide) (by decide)]
      unfold bs
      rw [hA_ne (by decide), hA_at]
    have yI : ∀ j, j < L.length → hI k3 (hN h + 2) j = B j := by
      intro j hj
      rw [v3.2.2.2.1 _ _ (by omega), ← n2, c2 j hj, v1.2.2.2.1 34 j (by omega), u1.2.2.2.1 34 j (by rw [hN0]; omega)]
      rw [s2_ne (by decide) (by decide)]
      unfold bs
      rw [hA_at]
    have wI : ∀ j, j < (stepsOf L).length → hI k3 (hN h + 3) j = R j := by
      intro j hj
      rw [← n3, c3 j hj, v2.2.2.2.1 35 j (by omega), v1.2.2.2.1 35 j (by omega), u1.2.2.2.1 35 j (by rw [hN0]; omega), s2_35]
    refine ⟨hN h + 1, hN h + 2, hN h + 3, ⟨hn79, by show hN h < hN k3; omega, tO.1, tO.2⟩, ⟨?_, ?_, ?_⟩, ⟨by omega, by show _ < hN k3; omega, sx.1, sx.2⟩, ⟨by omega, by show _ < hN k3; omega, sy.1, sy.2⟩, ⟨by omega, by show _ < hN k3; omega, sw.1, sw.2⟩, ?_, ?_⟩
    · rw [hRs, if_neg (by omega), if_neg (by omega), if_pos ⟨rfl, rfl⟩]
    · rw [hRs, if_neg (by omega), if_pos ⟨rfl, rfl⟩]
    · rw [hRs, if_pos ⟨rfl, rfl⟩]
    · intro La c Lb e
      have hl : La.length < L.length := by
        rw [e, List.length_append, List.length_cons]
        omega
      have hh := HdI_at L La c Lb 0 0 hH e
      rw [Nat.zero_add, Nat.zero_add] at hh
      refine ⟨(xI _ hl).trans hh.1, (yI _ hl).trans hh.2⟩
    · intro j hj
      have hh := AtI_get (stepsOf L) 0 j hR1 hj
      rw [Nat.zero_add] at hh
      exact (wI j hj).trans hh

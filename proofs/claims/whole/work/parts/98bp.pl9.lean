/-! the plan: one showing with learners -/
theorem vA.n {h : QH} {W : Nat → Nat} {a y n i : Nat} {v : Int32} (A : vA h W a y n) : vA (hsI h 44 i v) W a y n := by
  obtain ⟨a1, a2, a3, a4⟩ := A
  refine ⟨?_, ?_, ?_, ?_⟩
  · rw [hI_ne (by omega)]
    exact a1
  · rw [hI_ne (by omega)]
    exact a2
  · rw [hI_ne (by omega)]
    exact a3
  · rw [hI_ne (by omega)]
    exact a4
/-- all but the Voice and reason i -/
def sSm (i : Nat) (h k : QH) : Prop := ∀ b j, (b ≠ 44 ∨ j ≠ i) → b ≠ 37 → b ≠ 38 → b ≠ 39 → hI k b j = hI h b j
theorem sSm.fr {i : Nat} {h k l : QH} (a : sSm i h k) (F : Fr fV k l) : sSm i h l := by
  intro b j h4 h1' h2' h3'
  have hf : fV b j = false := by
    unfold fV
    split <;> first | omega | rfl
  rw [F.2 b j hf]
  exact a b j h4 h1' h2' h3'
theorem sSm.si {i : Nat} {h k : QH} {v : Int32} (a : sSm i h k) : sSm i h (hsI k 44 i v) := by
  intro b j h4 h1' h2' h3'
  rw [hI_ne h4]
  exact a b j h4 h1' h2' h3'
theorem pL.sSm {i y : Nat} {h k : QH} {L : Nat → Nat} (P : pL h y L) (a : sSm i h k) : pL k y L := fun p a' hp ha => by
  rw [a 41 _ (Or.inl (by decide)) (by decide) (by decide) (by decide)]
  exact P p a' hp ha
theorem pU.sSm {i y : Nat} {h k : QH} {W U : Nat → Nat} (P : pU h y W U) (a : sSm i h k) : pU k y W U := fun l hl => by
  rw [a 43 _ (Or.inl (by decide)) (by decide) (by decide) (by decide)]
  exact P l hl
theorem pS.sSm {i y : Nat} {h k : QH} {s : PlS} (S : pS h y s) (a : sSm i h k) : pS k y s := by
  refine ⟨fun p a' hp ha => ?_, fun p a' hp ha => ?_, fun l hl => ?_⟩
  · rw [a 41 _ (Or.inl (by decide)) (by decide) (by decide) (by decide)]
    exact S.1 p a' hp ha
  · rw [a 42 _ (Or.inl (by decide)) (by decide) (by decide) (by decide)]
    exact S.2.1 p a' hp ha
  · rw [a 43 _ (Or.inl (by decide)) (by decide) (by decide) (by decide)]
    exact S.2.2 l hl
theorem pO1.sSm {i y v : Nat} {h k : QH} (a : sSm i h k) (e : hI k 44 i = nZ v) : pO1 y i v h k := by
  refine ⟨fun j _ => ⟨?_, ?_⟩, fun j _ => ?_, fun j hj => ?_, e⟩
  · exact a 41 _ (Or.inl (by decide)) (by decide) (by decide) (by decide)
  · exact a 42 _ (Or.inl (by decide)) (by decide) (by decide) (by decide)
  · exact a 43 _ (Or.inl (by decide)) (by decide) (by decide) (by decide)
  · exact a 44 _ (Or.inr hj) (by decide) (by decide) (by decide)
theorem c97_1 {h : QH} {W : Nat → Nat} {o : Option (List CL)} {r : Option Nat} (X : CX h W o r) (d i : Nat) (L Z0 : Nat → Nat) (s : PlS) (hi : i < 60) (P : pL h (W (100 + 5 * i)) L) (Z : hI h 42 (W (100 + 5 * i) * 40 + (W (101 + 5 * i) * 5 + W (102 + 5 * i))) = nZ (Z0 (5 * W (101 + 5 * i) + W (102 + 5 * i)))) (S : pS h (W (100 + 5 * i)) s) (U9 : ∀ l, l < 8 → s.2.2 l ≤ W (4 * l + 2)) (m0' : W (103 + 5 * i) ≠ 0) : ∃ k, qcl (d + 6) 97 [qR (some 40), qR (some 11), qR (some 36), qI (nZ i)] h = some (none, k) ∧ Fr fP h k ∧ pO1 (W (100 + 5 * i)) i (pR W o L s.2.2 i) h k ∧ pS k (W (100 + 5 * i)) (pS1 W o L Z0 i s) := by
  have H := X.1
  obtain ⟨s0, s1', s2', s3', s4'⟩ := X.sh0 hi
  obtain ⟨b0, b1, b2, b3, b4⟩ := X.2.2.2.1.sh hi
  have e71 : qcl (d + 5) 71 [qR (some 17), qI (nZ (W (102 + 5 * i))), qI 0] h = some (some (qI (nZ (W (40 + 4 * W (102 + 5 * i))))), h) := X.k71 (d + 4) (a := W (102 + 5 * i)) (f := 0) b2 (by decide)
  have ec1 := c1 (d + 4) _ b3 h
  have tz8 := (tz_ok _ b3 (by omega)).1
  obtain ⟨h1, e148, F1, A1'⟩ := c148 X (d + 3) (W (102 + 5 * i)) (W (100 + 5 * i)) (pc (W (103 + 5 * i))) b2
  have ec2 := c2 (d + 4) _ b3 (by omega) h1
  have X1 := X.fr F1 nW_fV
  have sm1 : sSm i h h1 := (show sSm i h h from fun _ _ _ _ _ _ => rfl).fr F1
  have Q : pU h (W (100 + 5 * i)) W s.2.2 := fun l hl => ⟨S.2.2 l hl, U9 l hl⟩
  obtain ⟨h2, e92, F2, A2, Q2⟩ := c92 X1 (d + 2) i (tz (W (103 + 5 * i))) L hi tz8 (P.sSm sm1) A1'
  have X2 := X1.fr F2 nW_fV
  have e163 := c163 X2 (d + 4)
  obtain ⟨h3, e152, F3, g3⟩ := c152t X2 (q := pq W L i (tz (W (103 + 5 * i)))) (d + 2) 2 (by decide) Q2 A2.1
  have X3 := X2.fr F3 nW_fV
  have H3 := X3.1
  have A3 := A2.of g3
  have sm3 := (sm1.fr F2).fr F3
  have ht := pTk_le X.2.2.2.1 (o := o) (L := L) hi
  have et : pTk W o L i = tw o 2 (pq W L i (tz (W (103 + 5 * i)))) (W (40 + 4 * W (102 + 5 * i))) := by
    unfold pTk
    rw [if_neg m0']
  have e152' : qcl (d + 5) 152 [qR (some 36), qR r, qI 1] h2 = some (some (qI (nZ (pTk W o L i))), h3) := by
    rw [et]
    exact e152
  have m0 : ¬(nZ (W (103 + 5 * i)) = (0 : Int32)) := by
    rw [L0, nZ_eq (by omega) (by decide)]
    exact m0'
  have F13 : Fr fP h h3 := ((F1.trans F2).trans F3).mono fV_P
  unfold pS1 pR
  generalize pTk W o L i = tk at *
  have e103 := c103 X3 (d + 1) i tk L s.2.2 hi (by omega) (P.sSm sm3) (Q.sSm sm3)
  have r9 := rT_le (W := W) (L := L) (U := s.2.2) (i := i) (tk := tk)
  have l9 := rLs_le (W := W) (o := o) (L := L) (U := s.2.2) (i := i) (tk := tk) (W 408)
  generalize rT W L s.2.2 i tk = v at *
  have H4 : Sh (hsI h3 44 i (nZ v)) := H3
  have F4 : Fr fP h (hsI h3 44 i (nZ v)) := Fr.si rfl F13
  have sm4 : sSm i h (hsI h3 44 i (nZ v)) := sm3.si
  by_cases cv : v = 0
  case neg =>
    have r0 : ¬(nZ v = (0 : Int32)) := by
      rw [L0, nZ_eq (by omega) (by decide)]
      exact cv
    rw [if_neg cv, if_neg cv]
    refine ⟨_, ?_, F4, pO1.sSm sm4 (hI_at rfl), S.sSm sm4⟩
    rw [E97, ck40 H, ob_some, ob_some, g11_2 H, ob_some, ob_some, g19_3 H, ob_some, ob_some, A22 H hi, ob_some, s2', ob_some, g19_4 H, ob_some, ob_some, A23 H hi, ob_some, s3', ob_some, g11_1 H, ob_some, e71, jI]
    rw [E97_36, ob_some, g11_1 H, ob_some, ob_some, g19_1 H, ob_some, ob_some, A20 H hi, ob_some, s0, ec1, jI, e148, jV, if_neg m0, ec2, jI, e92, jV, e163, jR, e152', jI, g40_3 H3, ob_some, e103, jI, ob_some, S44 H3 (by omega), ob_some, g40_3 H4, ob_some, ob_some, A44 H4 (by omega), ob_some, hI_at rfl, if_neg r0, ob_some, ob_some, A44 H4 (by omega), ob_some, hI_at rfl, if_neg r0]
  have r0 : nZ v = (0 : Int32) := by
    rw [cv]
    rfl
  rw [if_pos cv]
  have X4 := X.fr F4 nW_fP
  obtain ⟨h5, e102, F5, A5⟩ := c102 X4 d i tk L s.2.2 hi (by omega) (P.sSm sm4) (Q.sSm sm4) A3.n
  have H5 := F5.Sh H4
  generalize rLs W o L s.2.2 i tk (W 408) = u at *
  have H6 : Sh (hsI h5 44 i (nZ u)) := H5
  have F6 : Fr fP h (hsI h5 44 i (nZ u)) := Fr.si rfl (F4.trans (F5.mono fV_P))
  have sm6 : sSm i h (hsI h5 44 i (nZ u)) := (sm4.fr F5).si
  by_cases cu : u = 0
  case neg =>
    have u0 : ¬(nZ u = (0 : Int32)) := by
      rw [L0, nZ_eq (by omega) (by decide)]
      exact cu
    rw [if_neg cu]
    refine ⟨_, ?_, F6, pO1.sSm sm6 (hI_at rfl), S.sSm sm6⟩
    rw [E97, ck40 H, ob_some, ob_some, g11_2 H, ob_some, ob_some, g19_3 H, ob_some, ob_some, A22 H hi, ob_some, s2', ob_some, g19_4 H, ob_some, ob_some, A23 H hi, ob_some, s3', ob_some, g11_1 H, ob_some, e71, jI]
    rw [E97_36, ob_some, g11_1 H, ob_some, ob_some, g19_1 H, ob_some, ob_some, A20 H hi, ob_some, s0, ec1, jI, e148, jV, if_neg m0, ec2, jI, e92, jV, e163, jR, e152', jI, g40_3 H3, ob_some, e103, jI, ob_some, S44 H3 (by omega), ob_some, g40_3 H4, ob_some, ob_some, A44 H4 (by omega), ob_some, hI_at rfl, if_pos r0, ob_some, e102, jI, ob_some, S44 H5 (by omega), ob_some, g40_3 H6, ob_some, ob_some, A44 H6 (by omega), ob_some, hI_at rfl, if_neg u0]
  have u0 : nZ u = (0 : Int32) := by
    rw [cu]
    rfl
  rw [if_pos cu]
  have X6 := X.fr F6 nW_fP
  obtain ⟨k, e98, Fk, Ok, Sk⟩ := c98 X6 d i tk L Z0 s hi (P.sSm sm6) (by
    rw [sm6 42 _ (Or.inl (by decide)) (by decide) (by decide) (by decide)]
    exact Z) (S.sSm sm6) A5.n
  have o6 : pO1 (W (100 + 5 * i)) i u h (hsI h5 44 i (nZ u)) := pO1.sSm sm6 (hI_at rfl)
  refine ⟨k, ?_, F6.trans Fk, ?_, Sk⟩
  · rw [E97, ck40 H, ob_some, ob_some, g11_2 H, ob_some, ob_some, g19_3 H, ob_some, ob_some, A22 H hi, ob_some, s2', ob_some, g19_4 H, ob_some, ob_some, A23 H hi, ob_some, s3', ob_some, g11_1 H, ob_some, e71, jI]
    rw [E97_36, ob_some, g11_1 H, ob_some, ob_some, g19_1 H, ob_some, ob_some, A20 H hi, ob_some, s0, ec1, jI, e148, jV, if_neg m0, ec2, jI, e92, jV, e163, jR, e152', jI, g40_3 H3, ob_some, e103, jI, ob_some, S44 H3 (by omega), ob_some, g40_3 H4, ob_some, ob_some, A44 H4 (by omega), ob_some, hI_at rfl, if_pos r0, ob_some, e102, jI, ob_some, S44 H5 (by omega), ob_some, g40_3 H6, ob_some, ob_some, A44 H6 (by omega), ob_some, hI_at rfl, if_pos u0, e98, jV]
  · obtain ⟨o1, o2, o3, o4⟩ := o6
    obtain ⟨p1', p2', p3'⟩ := Ok
    exact ⟨fun j hj => ⟨(p1' j hj).1.trans (o1 j hj).1, (p1' j hj).2.trans (o1 j hj).2⟩, fun j hj => (p2' j hj).trans (o2 j hj), fun j hj => (p3' j).trans (o3 j hj), (p3' i).trans o4⟩

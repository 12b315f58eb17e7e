/-! a new world, all of it -/
theorem uS_ne {f : Nat → Nat × Nat} {i x : Nat} {v q : Nat × Nat} (h : f i = q) (hx : i < x) : uS f x v i = q := by
  unfold uS
  rw [if_neg (by omega)]
  exact h
theorem c65 {h k : QH} {m s : Nat} {sh : Nat → Nat × Nat} {rf : Nat → Nat → Option Nat} (G : GNw h k m s sh rf) (h10 : 10 ≤ hN h) (d i : Nat) (hi : i < m) (e : sh i = (16, 2)) : ∃ k', qcl (d + 1) 65 [qR (some (hN h + i))] k = some (none, k') ∧ GNw h k' (m + 1) (s + 20) (uS sh m (0, 20)) (uR (uN rf m) i 1 (some (hN h + m))) := by
  have G1 := G.sI i 0 0
  have e1 : uS sh m (0, 20) i = (16, 2) := uS_ne e hi
  have G2 := (G1.na h10 (i := i) (c := 0) (n := 2) (j := 1) (tg := 0) (ln := 20) (lit := 20) hi e1 (by decide) rfl (fun _ => none)).2
  refine ⟨_, ?_, G2⟩
  rw [E65, G.ck (i := i) (c := 0) (n := 2) hi e, ob_some, G.pi h10 (c := 0) (n := 2) hi e (by decide), ob_some]
  rw [(G1.na h10 (i := i) (c := 0) (n := 2) (j := 1) (tg := 0) (ln := 20) (lit := 20) hi e1 (by decide) rfl _).1]
theorem c125 {h k : QH} {m s : Nat} {sh : Nat → Nat × Nat} {rf : Nat → Nat → Option Nat} (G : GNw h k m s sh rf) (h10 : 10 ≤ hN h) (d i : Nat) (hi : i < m) (e : sh i = (21, 6)) : ∃ k', qcl (d + 1) 125 [qR (some (hN h + i))] k = some (none, k') ∧ GNw h k' (m + 1 + 1 + 1 + 1 + 1) (s + 60 + 60 + 60 + 60 + 60) (uS (uS (uS (uS (uS sh (m) (0, 60)) (m + 1) (0, 60)) (m + 1 + 1) (0, 60)) (m + 1 + 1 + 1) (0, 60)) (m + 1 + 1 + 1 + 1) (0, 60)) (uR (uN (uR (uN (uR (uN (uR (uN (uR (uN rf (m)) i 1 (some (hN h + (m)))) (m + 1)) i 2 (some (hN h + (m + 1)))) (m + 1 + 1)) i 3 (some (hN h + (m + 1 + 1)))) (m + 1 + 1 + 1)) i 4 (some (hN h + (m + 1 + 1 + 1)))) (m + 1 + 1 + 1 + 1)) i 5 (some (hN h + (m + 1 + 1 + 1 + 1)))) := by
  have G1 := G.sI i 0 0
  have e1 : (uS sh (m) (0, 60)) i = (21, 6) := uS_ne e (by omega)
  have G2 := (G1.na h10 (i := i) (c := 5) (n := 6) (j := 1) (tg := 0) (ln := 60) (lit := 60) (by omega) e1 (by decide) rfl (fun _ => none)).2
  have e2 : (uS (uS sh (m) (0, 60)) (m + 1) (0, 60)) i = (21, 6) := uS_ne e1 (by omega)
  have G3 := (G2.na h10 (i := i) (c := 5) (n := 6) (j := 2) (tg := 0) (ln := 60) (lit := 60) (by omega) e2 (by decide) rfl (fun _ => none)).2
  have e3 : (uS (uS (uS sh (m) (0, 60)) (m + 1) (0, 60)) (m + 1 + 1) (0, 60)) i = (21, 6) := uS_ne e2 (by omega)
  have G4 := (G3.na h10 (i := i) (c := 5) (n := 6) (j := 3) (tg := 0) (ln := 60) (lit := 60) (by omega) e3 (by decide) rfl (fun _ => none)).2
  have e4 : (uS (uS (uS (uS sh (m) (0, 60)) (m + 1) (0, 60)) (m + 1 + 1) (0, 60)) (m + 1 + 1 + 1) (0, 60)) i = (21, 6) := uS_ne e3 (by omega)
  have G5 := (G4.na h10 (i := i) (c := 5) (n := 6) (j := 4) (tg := 0) (ln := 60) (lit := 60) (by omega) e4 (by decide) rfl (fun _ => none)).2
  have e5 : (uS (uS (uS (uS (uS sh (m) (0, 60)) (m + 1) (0, 60)) (m + 1 + 1) (0, 60)) (m + 1 + 1 + 1) (0, 60)) (m + 1 + 1 + 1 + 1) (0, 60)) i = (21, 6) := uS_ne e4 (by omega)
  have G6 := (G5.na h10 (i := i) (c := 5) (n := 6) (j := 5) (tg := 0) (ln := 60) (lit := 60) (by omega) e5 (by decide) rfl (fun _ => none)).2
  refine ⟨_, ?_, G6⟩
  rw [E125, G.ck (i := i) (c := 5) (n := 6) hi e, ob_some, G.pi h10 (c := 5) (n := 6) hi e (by decide), ob_some]
  rw [(G1.na h10 (i := i) (c := 5) (n := 6) (j := 1) (tg := 0) (ln := 60) (lit := 60) (by omega) e1 (by decide) rfl _).1]
  rw [(G2.na h10 (i := i) (c := 5) (n := 6) (j := 2) (tg := 0) (ln := 60) (lit := 60) (by omega) e2 (by decide) rfl _).1]
  rw [(G3.na h10 (i := i) (c := 5) (n := 6) (j := 3) (tg := 0) (ln := 60) (lit := 60) (by omega) e3 (by decide) rfl _).1]
  rw [(G4.na h10 (i := i) (c := 5) (n := 6) (j := 4) (tg := 0) (ln := 60) (lit := 60) (by omega) e4 (by decide) rfl _).1]
  rw [(G5.na h10 (i := i) (c := 5) (n := 6) (j := 5) (tg := 0) (ln := 60) (lit := 60) (by omega) e5 (by decide) rfl _).1]
theorem c159 {h : QH} (h10 : 10 ≤ hN h) (d : Nat) : ∃ k, qcl (d + 2) 159 [qR (some (hN h + 0))] (qno 10 6 h) = some (none, k) ∧ hN k = hN h + 15 ∧ hS k = hS h + 434 ∧ (∀ b, b < hN h → k.2.2.1 b = h.2.2.1 b ∧ ∀ j, hI k b j = hI h b j ∧ hR k b j = hR h b j) ∧ WS k (hN h) ∧ lwF k (hN h) := by
  have G1 : GNw h (qno 10 6 h) 1 6 _ _ := GNw_0.push 26 6
  have G2 : GNw h (qno 2 6 (qno 10 6 h)) 2 12 _ _ := G1.push 18 6
  obtain ⟨k1, e74, G3⟩ := c74 G2 h10 d 1 (by decide) rfl
  have G4 := G3.sR 0 0 (some (hN h + 1))
  have pre : ∃ k2, k2 = hsR k1 (hN h + 0) 0 (some (hN h + 1)) := ⟨_, rfl⟩
  obtain ⟨k2, f2'⟩ := pre
  rw [← f2'] at G4
  have G5 : GNw h (qno 0 2 k2) 7 _ _ _ := G4.push 16 2
  obtain ⟨k3, e65, G6⟩ := c65 G5 h10 d 6 (by decide) rfl
  have G7 := G6.sR 0 1 (some (hN h + 6))
  have pre : ∃ k4, k4 = hsR k3 (hN h + 0) 1 (some (hN h + 6)) := ⟨_, rfl⟩
  obtain ⟨k4, f4⟩ := pre
  rw [← f4] at G7
  have G8 : GNw h (qno 5 6 k4) 9 _ _ _ := G7.push 21 6
  obtain ⟨k5, e125, G9⟩ := c125 G8 h10 d 8 (by decide) rfl
  have G10 := G9.sR 0 2 (some (hN h + 8))
  have pre : ∃ k6, k6 = hsR k5 (hN h + 0) 2 (some (hN h + 8)) := ⟨_, rfl⟩
  obtain ⟨k6, f6⟩ := pre
  rw [← f6] at G10
  have G11 := (G10.na h10 (i := 0) (c := 10) (n := 6) (j := 3) (tg := 5) (ln := 6) (lit := 6) (by decide) rfl (by decide) rfl (fun _ => none)).2
  have G12 := G11.sI 0 4 0
  have G13 := G12.sI 0 5 (-1)
  have n1 : hN (qno 10 6 h) = hN h + 1 := G1.1
  have n2 : hN k2 = hN h + 6 := G4.1
  have n4 : hN k4 = hN h + 8 := G7.1
  refine ⟨_, ?_, G13.1, ?_, G13.2.2.1, ?_, ?_⟩
  · rw [E159, G1.ck (i := 0) (c := 10) (n := 6) (by decide) rfl, ob_some, n1, e74, jV, G3.pr h10 (i := 0) (c := 10) (n := 6) (by decide) rfl (by decide), ob_some, ← f2', n2, e65, jV, G6.pr h10 (i := 0) (c := 10) (n := 6) (by decide) rfl (by decide), ob_some, ← f4, n4, e125, jV, G9.pr h10 (i := 0) (c := 10) (n := 6) (by decide) rfl (by decide), ob_some, ← f6]
    rw [(G10.na h10 (i := 0) (c := 10) (n := 6) (j := 3) (tg := 5) (ln := 6) (lit := 6) (by decide) rfl (by decide) rfl _).1]
    rw [G11.pi h10 (i := 0) (c := 10) (n := 6) (by decide) rfl (by decide), ob_some, G12.pi h10 (i := 0) (c := 10) (n := 6) (by decide) rfl (by decide), ob_some]
  · exact G13.2.1
  · have q := G13.2.2.2
    refine ⟨⟨h10, by rw [G13.1]; exact Nat.le_refl _⟩, fun i hi => ?_, ⟨?_, ?_, ?_, ?_⟩, ⟨?_, ?_, ?_, ?_⟩, ?_, ⟨?_, ?_, ?_, ?_, ?_⟩⟩
    · rw [(q i hi).1]
      have : i = 0 ∨ i = 1 ∨ i = 2 ∨ i = 3 ∨ i = 4 ∨ i = 5 ∨ i = 6 ∨ i = 7 ∨ i = 8 ∨ i = 9 ∨ i = 10 ∨ i = 11 ∨ i = 12 ∨ i = 13 ∨ i = 14 := by omega
      rcases this with e | e | e | e | e | e | e | e | e | e | e | e | e | e | e <;> subst e <;> rfl
    · exact (q 0 (by decide)).2 0
    · exact (q 0 (by decide)).2 1
    · exact (q 0 (by decide)).2 2
    · exact (q 0 (by decide)).2 3
    · exact (q 1 (by decide)).2 2
    · exact (q 1 (by decide)).2 3
    · exact (q 1 (by decide)).2 4
    · exact (q 1 (by decide)).2 5
    · exact (q 6 (by decide)).2 1
    · exact (q 8 (by decide)).2 1
    · exact (q 8 (by decide)).2 2
    · exact (q 8 (by decide)).2 3
    · exact (q 8 (by decide)).2 4
    · exact (q 8 (by decide)).2 5
  · intro t ht
    have q := (G13.2.2.2 14 (by decide)).2 t
    have z : hR _ (hN h + 14) t = none := q
    rw [z]
    rfl

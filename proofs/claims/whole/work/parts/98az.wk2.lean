/-! the class -/
def fK (b j : Nat) : Bool := (match b with
  | 37 => true | 38 => true | 39 => (match j with | 0 => true | 1 => true | _ => false) | 52 => (match j with | 0 => false | _ => true) | 53 => true | _ => false)
def fW (b j : Nat) : Bool := (match b with
  | 37 => true | 38 => true | 39 => (match j with | 0 => true | 1 => true | _ => false) | 52 => true | 53 => true | _ => false)
theorem fV_K (b j : Nat) (h : fV b j = true) : fK b j = true := by
  by_cases c1 : b = 37
  · subst c1; rfl
  · by_cases c2 : b = 38
    · subst c2; rfl
    · by_cases c3 : b = 39
      · subst c3
        exact h
      · exfalso
        unfold fV at h
        split at h <;> first | omega | cases h
theorem nW_fK : nW fK := by
  refine ⟨?_, ?_, ?_, rfl, rfl⟩
  · intro b j hb
    have : b = 0 ∨ b = 1 ∨ b = 2 ∨ b = 3 ∨ b = 4 ∨ b = 5 ∨ b = 6 ∨ b = 7 ∨ b = 8 ∨ b = 9 := by omega
    rcases this with e | e | e | e | e | e | e | e | e | e <;> subst e <;> rfl
  · intro b j h1 h2
    have : b = 11 ∨ b = 12 ∨ b = 13 ∨ b = 14 ∨ b = 15 ∨ b = 16 ∨ b = 17 ∨ b = 18 ∨ b = 19 ∨ b = 20 ∨ b = 21 ∨ b = 22 ∨ b = 23 ∨ b = 24 ∨ b = 25 := by omega
    rcases this with e | e | e | e | e | e | e | e | e | e | e | e | e | e | e <;> subst e <;> rfl
  · intro b j hb
    unfold fK
    split <;> first | omega | rfl
theorem nW_fW : nW fW := by
  refine ⟨?_, ?_, ?_, rfl, rfl⟩
  · intro b j hb
    have : b = 0 ∨ b = 1 ∨ b = 2 ∨ b = 3 ∨ b = 4 ∨ b = 5 ∨ b = 6 ∨ b = 7 ∨ b = 8 ∨ b = 9 := by omega
    rcases this with e | e | e | e | e | e | e | e | e | e <;> subst e <;> rfl
  · intro b j h1 h2
    have : b = 11 ∨ b = 12 ∨ b = 13 ∨ b = 14 ∨ b = 15 ∨ b = 16 ∨ b = 17 ∨ b = 18 ∨ b = 19 ∨ b = 20 ∨ b = 21 ∨ b = 22 ∨ b = 23 ∨ b = 24 ∨ b = 25 := by omega
    rcases this with e | e | e | e | e | e | e | e | e | e | e | e | e | e | e <;> subst e <;> rfl
  · intro b j hb
    unfold fW
    split <;> first | omega | rfl
theorem fK_W (b j : Nat) (h : fK b j = true) : fW b j = true := by
  by_cases c1 : b = 52
  · subst c1; rfl
  · have e : fW b j = fK b j := by
      unfold fW fK
      split <;> first | omega | rfl
    rw [e]
    exact h
theorem CX.k75 {h : QH} {W : Nat → Nat} {o : Option (List CL)} {r : Option Nat} (X : CX h W o r) (d : Nat) {p k : Nat} (hp : p < 8) (hk : k < 30) : qcl (d + 2) 75 [qR (some 12), qI (nZ p), qI (nZ k)] h = some (some (qI (bI ((W (4 * p + 3)).testBit k = true))), h) := c75 X.1 d p k _ hp hk (X.tr hp (f := 3) (by decide)) (Nat.lt_of_le_of_lt (X.2.2.2.1.1 (4 * p + 3) (by omega) (by omega)) (bnd_big _))
theorem CX.k83 {h : QH} {W : Nat → Nat} {o : Option (List CL)} {r : Option Nat} (X : CX h W o r) (d : Nat) {p k : Nat} (hp : p < 8) (hk : k < 30) : qcl (d + 1) 83 [qR (some 12), qI (nZ p), qI (nZ k)] h = some (some (qI (bI ((W (32 + p)).testBit k = true))), h) := c83 X.1 d p k _ hp hk (X.2.2.1.1.2.2.2.1 p hp) (Nat.lt_of_le_of_lt (X.2.2.2.1.1 (32 + p) (by omega) (by omega)) (bnd_big _))
/-- the class's week, within a day: levels at its beginning lv, state s, the rows of earlier days as in R -/
def wC (h : QH) (n day : Nat) (lv : Nat → Nat) (s : WkS) : Prop := hI h 52 1 = nZ n ∧ hI h 52 4 = nZ s.1 ∧ hI h 52 2 = nZ s.2.2.2 ∧ (∀ q, q < n → hI h 53 (day * 8 + q) = nZ (lv q)) ∧ ∀ q, q < n → hI h 53 ((day + 1) * 8 + q) = nZ (s.2.1 q)
/-- no other row of the week changes -/
def wO (day : Nat) (h k : QH) : Prop := ∀ j, (j < (day + 1) * 8 ∨ (day + 2) * 8 ≤ j) → hI k 53 j = hI h 53 j
theorem c158 {h : QH} {W : Nat → Nat} {o : Option (List CL)} {r : Option Nat} (X : CX h W o r) (d a n day p q : Nat) (lv : Nat → Nat) (s : WkS) (B : Nat) (hB : B < 1000) (ha : a < 5) (hn : n ≤ 8) (hday : day < 7) (hp : p < n) (hq : q < n) (hlv : ∀ q, q < n → lv q ≤ 9) (i : WkI lv n B s) (hA : vA h W a day 1) (hw : wC h n day lv s) : ∃ k, qcl (d + 20) 158 [qR (some 52), qR (some 11), qR (some 36), qI (nZ day), qI (nZ p), qI (nZ q)] h = some (none, k) ∧ Fr fK h k ∧ CX k W o r ∧ vA k W a day 1 ∧ wO day h k ∧ wC k n day lv (dr s.1, up s.2.1 q (max (lv q) (if dr s.1 % 100 < tw o 3 (wq W a day lv p q) 0 then tw o 1 (wq W a day lv p q) (lv p - 1) - 1 else tw o 1 (wq W a day lv p q) (lv p - 1))), s.2.2.1 ||| 1 <<< q, s.2.2.2 + (if dr s.1 % 100 < tw o 3 (wq W a day lv p q) 0 then 1 else 0)) := by
  have H := X.1
  have hlp := hlv p hp
  have hlq := hlv q hq
  obtain ⟨i1, i2, i3, i4, i5⟩ := i
  obtain ⟨w1, w4, w2, w5, w6⟩ := hw
  obtain ⟨h2, e149, F2, vA2, vQ2⟩ := c149 X (d + 17) a day 1 p (lv p) q (lv q) hA (by omega) (by omega) ha (by omega) (by omega) (by omega) (by omega)
  have X2 := X.fr F2 nW_fV
  have H2 := X2.1
  have e163 := c163 X2 (d + 18)
  obtain ⟨h3, e152, F3, g3⟩ := c152t X2 (q := wq W a day lv p q) (d + 16) 1 (by decide) vQ2 vA2.1
  have X3 := X2.fr F3 nW_fV
  have H3 := X3.1
  have f23 : ∀ b j, b ≠ 37 → b ≠ 38 → b ≠ 39 → hI h3 b j = hI h b j := by
    intro b j h1 h2' h3'
    have hf : fV b j = false := by
      unfold fV
      split <;> first | omega | rfl
    rw [F3.2 b j hf, F2.2 b j hf]
  have s4 : hI h3 52 4 = nZ s.1 := (f23 52 4 (by decide) (by decide) (by decide)).trans w4
  have ed := c155 H3 (d + 18) s.1 100 i1 (by decide) s4
  -- behind the draw
  have Fd : Fr fK h3 (hsI h3 52 4 (nZ (dr s.1))) := Fr.si rfl Fr.refl
  have X4 := X3.fr Fd nW_fK
  have H4 := X4.1
  have vQ4 : vQ (hsI h3 52 4 (nZ (dr s.1))) (wq W a day lv p q) := by
    refine ⟨fun j hj => ⟨?_, (vQ2.1 j hj).2⟩, ?_⟩
    · rw [hI_ne (by omega), g3 37 j (by decide)]
      exact (vQ2.1 j hj).1
    · rw [hI_ne (by omega), g3 39 0 (by decide)]
      exact vQ2.2
  have vT4 : hI (hsI h3 52 4 (nZ (dr s.1))) 39 1 = nZ (W (40 + 4 * wq W a day lv p q 4)) := by
    rw [hI_ne (by omega), g3 39 1 (by decide)]
    exact vA2.1
  have e163b := c163 X4 (d + 18)
  obtain ⟨h5, e152b, F5, g5⟩ := c152t X4 (q := wq W a day lv p q) (d + 16) 3 (by decide) vQ4 vT4
  have X5 := X4.fr F5 nW_fV
  have H5 := X5.1
  have f35 : ∀ b j, b ≠ 38 → hI h5 b j = hI (hsI h3 52 4 (nZ (dr s.1))) b j := g5
  have tW : tw o 3 (wq W a day lv p q) (wo W (wq W a day lv p q) 3) = tw o 3 (wq W a day lv p q) 0 := rfl
  have tL : tw o 1 (wq W a day lv p q) (wo W (wq W a day lv p q) 1) = tw o 1 (wq W a day lv p q) (lv p - 1) := rfl
  rw [tL] at e152
  rw [tW] at e152b
  have bW : tw o 3 (wq W a day lv p q) 0 ≤ 100 := tw_le (by decide) (by decide)
  have bL : tw o 1 (wq W a day lv p q) (lv p - 1) ≤ 9 := tw_le (by decide) (by omega)
  generalize tw o 3 (wq W a day lv p q) 0 = wv at *
  generalize tw o 1 (wq W a day lv p q) (lv p - 1) = lvl at *
  have b100 := Nat.mod_lt (dr s.1) (show 100 > 0 by decide)
  have x3 : hI h 53 (day * 8 + q) = nZ (lv q) := w5 q hq
  have x8 : hI h 53 (day * 8 + p) = nZ (lv p) := w5 p hp
  have e152' : qcl (d + 19) 152 [qR (some 36), qR r, qI (nZ 0)] h2 = some (some (qI (nZ lvl)), h3) := e152
  have e152b' : qcl (d + 19) 152 [qR (some 36), qR r, qI (nZ 2)] (hsI h3 52 4 (nZ (dr s.1))) = some (some (qI (nZ wv)), h5) := e152b
  have k2 : hI h5 52 2 = nZ s.2.2.2 := by
    rw [f35 52 2 (by decide), hI_ne (by decide), f23 52 2 (by decide) (by decide) (by decide)]
    exact w2
  have F1 : Fr fK h h5 := ((F2.trans F3).mono fV_K).trans (Fd.trans (F5.mono fV_K))
  have rows : ∀ j, hI h5 53 j = hI h 53 j := by
    intro j
    rw [f35 53 j (by decide), hI_ne (by omega), f23 53 j (by decide) (by decide) (by decide)]
  have vA5 : vA h5 W a day 1 := by
    obtain ⟨b1, b2, b3, b4⟩ := vA2
    refine ⟨?_, ?_, ?_, ?_⟩
    · rw [f35 39 1 (by decide), hI_ne (by decide), g3 39 1 (by decide)]
      exact b1
    · rw [f35 37 4 (by decide), hI_ne (by decide), g3 37 4 (by decide)]
      exact b2
    · rw [f35 37 5 (by decide), hI_ne (by decide), g3 37 5 (by decide)]
      exact b3
    · rw [f35 37 8 (by decide), hI_ne (by decide), g3 37 8 (by decide)]
      exact b4
  have st : ∀ sp' v, sp' < 100000 → v ≤ 9 → qcl (d + 20) 158 [qR (some 52), qR (some 11), qR (some 36), qI (nZ day), qI (nZ p), qI (nZ q)] h = some (none, hsI (hsI h5 52 2 (nZ sp')) 53 ((day + 1) * 8 + q) (nZ v)) → ∃ k, qcl (d + 20) 158 [qR (some 52), qR (some 11), qR (some 36), qI (nZ day), qI (nZ p), qI (nZ q)] h = some (none, k) ∧ Fr fK h k ∧ CX k W o r ∧ vA k W a day 1 ∧ wO day h k ∧ wC k n day lv (dr s.1, up s.2.1 q v, s.2.2.1 ||| 1 <<< q, sp') := by
    intro sp' v hsp hv e
    have Fk : Fr fK h5 (hsI (hsI h5 52 2 (nZ sp')) 53 ((day + 1) * 8 + q) (nZ v)) := Fr.si rfl (Fr.si rfl Fr.refl)
    refine ⟨_, e, F1.trans Fk, X5.fr Fk nW_fK, ?_, ?_, ?_⟩
    · obtain ⟨b1, b2, b3, b4⟩ := vA5
      refine ⟨?_, ?_, ?_, ?_⟩
      · rw [hI_ne (by omega), hI_ne (by omega)]
        exact b1
      · rw [hI_ne (by omega), hI_ne (by omega)]
        exact b2
      · rw [hI_ne (by omega), hI_ne (by omega)]
        exact b3
      · rw [hI_ne (by omega), hI_ne (by omega)]
        exact b4
    · intro j hj
      rw [hI_ne (by omega), hI_ne (by omega)]
      exact rows j
    · refine ⟨?_, ?_, ?_, ?_, ?_⟩
      · rw [hI_ne (by omega), hI_ne (by omega), f35 52 1 (by decide), hI_ne (by decide), f23 52 1 (by decide) (by decide) (by decide)]
        exact w1
      · rw [hI_ne (by omega), hI_ne (by omega), f35 52 4 (by decide), hI_at rfl]
      · rw [hI_ne (by omega), hI_at rfl]
      · intro x hx
        rw [hI_ne (by omega), hI_ne (by omega), rows]
        exact w5 x hx
      · intro x hx
        by_cases c : x = q
        · rw [c, hI_at rfl]
          show _ = nZ (up s.2.1 q v q)
          rw [up_at rfl]
        · rw [hI_ne (by omega), hI_ne (by omega), rows]
          show _ = nZ (up s.2.1 q v x)
          rw [up_ne c]
          exact w6 x hx
  by_cases cw : dr s.1 % 100 < wv
  · rw [if_pos cw, if_pos cw]
    refine st _ _ (by omega) ?_ ?_
    · exact Nat.max_le.2 ⟨hlq, by omega⟩
    · have em1 : (if (nZ lvl - 1) < 0 then 0 else (nZ lvl - 1)) = nZ (lvl - 1) := by
        by_cases c : 1 ≤ lvl
        · have e1 : nZ lvl - 1 = nZ (lvl - 1) := nZ_sub c
          rw [e1]
          exact if_neg (fun z => by
            have z2 : (nZ (lvl - 1) < nZ 0) = False := nZ_neg_lt (by omega)
            exact cast z2 z)
        · have : lvl = 0 := by omega
          subst this
          decide
      have em2 := max_nZ (x := lv q) (y := lvl - 1) (by omega) (by omega)
      have s5 : hI (hsI h5 52 2 (nZ (s.2.2.2 + 1))) 52 2 = nZ (s.2.2.2 + 1) := hI_at rfl
      have H6 : Sh (hsI h5 52 2 (nZ (s.2.2.2 + 1))) := H5
      rw [E158]
      simp (disch := first | assumption | omega) only [ck52, ob_some, g52_3, nZ_mul, nZ_add, L8, A53, x3, x8, g11_0, e149, jV, e163, jR, L0, e152', jI, L100, ed, e163b, L2, e152b', nZ_lt, nd_lt_t, if_true, g52_2, k2, L1, p52_2, S53, ↓em2]
      have em4 : (if nZ (lv q) < (if (nZ lvl - 1) < 0 then 0 else (nZ lvl - 1)) then (if (nZ lvl - 1) < 0 then 0 else (nZ lvl - 1)) else nZ (lv q)) = nZ (max (lv q) (lvl - 1)) := by
        rw [em1, em2]
      exact congrArg (fun v => some ((none : Option QV), hsI (hsI h5 52 2 (nZ (s.2.2.2 + 1))) 53 ((day + 1) * 8 + q) v)) em4
  · rw [if_neg cw, if_neg cw]
    have e2 : hsI h5 52 2 (nZ (s.2.2.2 + 0)) = h5 := by
      refine qh_ext rfl rfl rfl ?_ rfl
      intro b j
      rw [hI_si]
      by_cases c : b = 52 ∧ j = 2
      · rw [if_pos c, c.1, c.2, k2]
        rfl
      · rw [if_neg c]
    refine st _ _ (by omega) ?_ ?_
    · exact Nat.max_le.2 ⟨hlq, by omega⟩
    · rw [e2]
      have em2 := max_nZ (x := lv q) (y := lvl) (by omega) (by omega)
      rw [E158]
      simp (disch := first | assumption | omega) only [ck52, ob_some, g52_3, nZ_mul, nZ_add, L8, A53, x3, x8, g11_0, e149, jV, e163, jR, L0, e152', jI, L100, ed, e163b, L2, e152b', nZ_lt, nd_lt_f, if_false, L1, S53, ↓em2]

/-! the plan: a learner's reason -/
def rL8 (W L U : Nat → Nat) (i tk l : Nat) : Nat :=
  if (W (4 * l + 3)).testBit (W (100 + 5 * i)) = true then 5 else
  if (W (32 + W (101 + 5 * i))).testBit l = true then
    (if W (4 * l + 2) - U l < tk then 7 else
    if rdF W L (W (102 + 5 * i)) l (W 409) 0 = true then 0 else 8)
  else 6
theorem c101 {h : QH} {W : Nat → Nat} {o : Option (List CL)} {r : Option Nat} (X : CX h W o r) (d i tk l : Nat) (L U : Nat → Nat) (hi : i < 60) (hl : l < 8) (ht : tk < 1000) (P : pL h (W (100 + 5 * i)) L) (Q : pU h (W (100 + 5 * i)) W U) : qcl (d + 4) 101 [qR (some 40), qR (some 11), qI (nZ i), qI (nZ l), qI (nZ tk)] h = some (some (qI (nZ (rL8 W L U i tk l))), h) := by
  have H := X.1
  obtain ⟨s0, s1', s2', s3', s4'⟩ := X.sh0 hi
  obtain ⟨b0, b1, b2, b3, b4⟩ := X.2.2.2.1.sh hi
  have e99 := c99 X d (W (102 + 5 * i)) (W (100 + 5 * i)) l L b2 b0 hl P
  unfold rL8
  generalize W (102 + 5 * i) = a at *
  generalize W (101 + 5 * i) = p at *
  generalize W (100 + 5 * i) = y at *
  obtain ⟨u1, u2⟩ := Q l hl
  have e75 := X.k75 (d + 1) (p := l) (k := y) hl (by omega)
  have e83 := X.k83 (d + 2) (p := p) (k := l) b1 (by omega)
  have e100 := c100 X (d + 1) y l (U l) b0 hl u1 u2
  have bh : W (4 * l + 2) < 2147483648 := Nat.lt_of_le_of_lt (X.2.2.2.1.1 (4 * l + 2) (by omega) (by omega)) (bnd_big _)
  have z00 : nZ 0 = (0 : Int32) := rfl
  have z10 : ¬(nZ 1 = (0 : Int32)) := by decide
  by_cases c1' : (W (4 * l + 3)).testBit y = true
  · rw [if_pos c1']
    rw [bI_t c1'] at e75
    rw [E101, ck40 H, ob_some, ob_some, g11_2 H, ob_some, ob_some, g19_1 H, ob_some, ob_some, A20 H hi, ob_some, s0, ob_some, g11_0 H, ob_some, e75, jI, if_neg z10]
    rfl
  rw [if_neg c1']
  rw [bI_f c1'] at e75
  by_cases c2' : (W (32 + p)).testBit l = true
  case neg =>
    rw [if_neg c2']
    rw [bI_f c2'] at e83
    rw [E101, ck40 H, ob_some, ob_some, g11_2 H, ob_some, ob_some, g19_1 H, ob_some, ob_some, A20 H hi, ob_some, s0, ob_some, g11_0 H, ob_some, e75, jI, if_pos z00, ob_some, g11_0 H, ob_some, ob_some, g11_2 H, ob_some, ob_some, g19_2 H, ob_some, ob_some, A21 H hi, ob_some, s1', e83, jI, if_pos z00]
    rfl
  rw [if_pos c2']
  rw [bI_t c2'] at e83
  by_cases c3 : W (4 * l + 2) - U l < tk
  · rw [if_pos c3]
    have g3 : nZ (W (4 * l + 2) - U l) < nZ tk := by
      rw [nZ_lt (by omega) (by omega)]
      exact c3
    rw [E101, ck40 H, ob_some, ob_some, g11_2 H, ob_some, ob_some, g19_1 H, ob_some, ob_some, A20 H hi, ob_some, s0, ob_some, g11_0 H, ob_some, e75, jI, if_pos z00, ob_some, g11_0 H, ob_some, ob_some, g11_2 H, ob_some, ob_some, g19_2 H, ob_some, ob_some, A21 H hi, ob_some, s1', e83, jI, if_neg z10, ob_some, g11_0 H, ob_some, e100, jI, if_pos g3]
    rfl
  rw [if_neg c3]
  have g3 : ¬(nZ (W (4 * l + 2) - U l) < nZ tk) := by
    rw [nZ_lt (by omega) (by omega)]
    exact c3
  by_cases c4 : rdF W L a l (W 409) 0 = true
  · rw [if_pos c4]
    rw [bI_t c4] at e99
    rw [E101, ck40 H, ob_some, ob_some, g11_2 H, ob_some, ob_some, g19_1 H, ob_some, ob_some, A20 H hi, ob_some, s0, ob_some, g11_0 H, ob_some, e75, jI, if_pos z00, ob_some, g11_0 H, ob_some, ob_some, g11_2 H, ob_some, ob_some, g19_2 H, ob_some, ob_some, A21 H hi, ob_some, s1', e83, jI, if_neg z10, ob_some, g11_0 H, ob_some, e100, jI, if_neg g3, ob_some, g11_1 H, ob_some, ob_some, g11_2 H, ob_some, ob_some, g19_3 H, ob_some, ob_some, A22 H hi, ob_some, s2', e99, jI, if_neg z10]
    rfl
  · rw [if_neg c4]
    rw [bI_f c4] at e99
    rw [E101, ck40 H, ob_some, ob_some, g11_2 H, ob_some, ob_some, g19_1 H, ob_some, ob_some, A20 H hi, ob_some, s0, ob_some, g11_0 H, ob_some, e75, jI, if_pos z00, ob_some, g11_0 H, ob_some, ob_some, g11_2 H, ob_some, ob_some, g19_2 H, ob_some, ob_some, A21 H hi, ob_some, s1', e83, jI, if_neg z10, ob_some, g11_0 H, ob_some, e100, jI, if_neg g3, ob_some, g11_1 H, ob_some, ob_some, g11_2 H, ob_some, ob_some, g19_3 H, ob_some, ob_some, A22 H hi, ob_some, s2', e99, jI, if_pos z00]
    rfl

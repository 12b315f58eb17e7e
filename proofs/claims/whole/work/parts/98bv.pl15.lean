/-! the plan of the reference: ready, takes -/
def mL (h : QH) (L : Nat → Nat) : Prop := ∀ p a, p < 8 → a < 5 → hI h 68 (5 * p + a) = nZ (L (5 * p + a)) ∧ L (5 * p + a) ≤ 9
theorem m205_2 {h : QH} {W : Nat → Nat} (M : MM h W) (d a l : Nat) (L : Nat → Nat) (ha : a < 5) (hl : l < 8) (P : mL h L) : ∀ m b, b + m = W 409 → qbig (d + 2) 205 2 [sR (some 56), sI (nZ l), sI (nZ a), sI (nZ b)] [] h = some (some (qI (bI (rdF W L a l m b = true))), h)
  | 0, b, e => by
    have H := M.1
    have n5 := M.n5
    have e169 := n169 M d
    have eb : bI (rdF W L a l 0 b = true) = nZ 1 := bI_t rfl
    have lt1 : ¬(nZ b < nZ (W 409)) := by
      rw [nZ_lt (by omega) (by omega)]
      omega
    rw [eb, E205_2, e169, jI, if_neg lt1]
    rfl
  | m + 1, b, e => by
    have H := M.1
    have n5 := M.n5
    have e169 := n169 M d
    have lt1 : nZ b < nZ (W 409) := by
      rw [nZ_lt (by omega) (by omega)]
      omega
    have ip : nZ b + 1 = nZ (b + 1) := by rw [L1, nZ_add]
    have ix : (5 : Int32) * nZ l + nZ b = nZ (5 * l + b) := by rw [L5, nZ_mul, nZ_add]
    have z00 : nZ 0 = (0 : Int32) := rfl
    have z10 : ¬(nZ 1 = (0 : Int32)) := by decide
    have ih := m205_2 M d a l L ha hl P m (b + 1) (by omega)
    have hb : W (43 + 4 * a) < 2147483648 := M.b (by omega) (by omega)
    obtain ⟨x7, b7⟩ := P l b hl (by omega)
    have e3 : qcl (d + 1) 168 [qR (some 56), qI (nZ a), qI 3] h = some (some (qI (nZ (W (43 + 4 * a)))), h) := by
      rw [show 43 + 4 * a = 40 + 4 * a + 3 by omega]
      exact n168 M d (a := a) (f := 3) ha (by decide)
    have e2 : qcl (d + 1) 168 [qR (some 56), qI (nZ b), qI 2] h = some (some (qI (nZ (W (42 + 4 * b)))), h) := by
      rw [show 42 + 4 * b = 40 + 4 * b + 2 by omega]
      exact n168 M d (a := b) (f := 2) (by omega) (by decide)
    have b42 : W (42 + 4 * b) < 2147483648 := M.b (by omega) (by omega)
    have e196 := m196 d (W (43 + 4 * a)) b h (by omega) hb
    by_cases c1 : (W (43 + 4 * a)).testBit b = true
    · rw [bI_t c1] at e196
      by_cases c2 : L (5 * l + b) < W (42 + 4 * b)
      · have eb : bI (rdF W L a l (m + 1) b = true) = nZ 0 := by
          apply bI_f
          unfold rdF
          rw [if_pos ⟨c1, c2⟩]
          decide
        have f1 : nZ (L (5 * l + b)) < nZ (W (42 + 4 * b)) := by
          rw [nZ_lt (by omega) b42]
          exact c2
        rw [eb, E205_2, e169, jI, if_pos lt1, e3, jI, e196, jI, if_neg z10, g56_23 H, ob_some, ob_some, ix, A68 H (by omega), ob_some, x7, e2, jI, if_pos f1]
        rfl
      · have eb : rdF W L a l (m + 1) b = rdF W L a l m (b + 1) := by
          show (if _ then _ else _) = _
          rw [if_neg (fun z => c2 z.2)]
        have f1 : ¬(nZ (L (5 * l + b)) < nZ (W (42 + 4 * b))) := by
          rw [nZ_lt (by omega) b42]
          exact c2
        rw [eb, E205_2, e169, jI, if_pos lt1, e3, jI, e196, jI, if_neg z10, g56_23 H, ob_some, ob_some, ix, A68 H (by omega), ob_some, x7, e2, jI, if_neg f1, ip]
        exact ih
    · have eb : rdF W L a l (m + 1) b = rdF W L a l m (b + 1) := by
        show (if _ then _ else _) = _
        rw [if_neg (fun z => c1 z.1)]
      rw [bI_f c1] at e196
      rw [eb, E205_2, e169, jI, if_pos lt1, e3, jI, e196, jI, if_pos z00, ip]
      exact ih
theorem m205 {h : QH} {W : Nat → Nat} (M : MM h W) (d a l : Nat) (L : Nat → Nat) (ha : a < 5) (hl : l < 8) (P : mL h L) : qcl (d + 2) 205 [qR (some 56), qI (nZ l), qI (nZ a)] h = some (some (qI (bI (rdF W L a l (W 409) 0 = true))), h) := by
  rw [E205, ck56 M.1, ob_some]
  exact m205_2 M d a l L ha hl P (W 409) 0 (by omega)

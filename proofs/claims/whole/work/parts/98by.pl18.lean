/-! the plan of the reference: what a showing lacks -/
theorem mL.fr {h k : QH} {L : Nat → Nat} (P : mL h L) {cs : Nat → Nat → Bool} (F : Fr cs h k) (e : ∀ j, cs 68 j = false) : mL k L := fun p a hp ha => by
  rw [F.2 68 _ (e _)]
  exact P p a hp ha
/-- hours left -/
def mU (h : QH) (W U : Nat → Nat) : Prop := ∀ l, l < W 408 → hI h 72 l = nZ (W (4 * l + 2) - U l) ∧ U l ≤ W (4 * l + 2)
theorem mU.fr {h k : QH} {W U : Nat → Nat} (P : mU h W U) {cs : Nat → Nat → Bool} (F : Fr cs h k) (e : ∀ j, cs 72 j = false) : mU k W U := fun l hl => by
  rw [F.2 72 _ (e _)]
  exact P l hl
/-- ten stands for none -/
def tn (f : Nat) : Nat := if f = 0 then 10 else f
theorem tn_min0 : ∀ f, f < 10 → ∀ v, v < 10 → min (tn f) (tn v) = tn (if v ≠ 0 ∧ (f = 0 ∨ v < f) then v else f) := by decide +kernel
theorem tn_min {f v : Nat} (hf : f ≤ 9) (hv : v ≤ 9) : min (tn f) (tn v) = tn (if v ≠ 0 ∧ (f = 0 ∨ v < f) then v else f) := tn_min0 f (by omega) v (by omega)
theorem m213s {h : QH} {W : Nat → Nat} {o : Option (List CL)} (X : MX h W o) (d i tk l : Nat) (L U : Nat → Nat) (hi : i < 60) (hl : l < W 408) (ht : tk < 1000) (P : mL h L) (Q : mU h W U) : ∃ k, qbig (d + 103) 213 119 [sR (some 56), none, sI (nZ (W (100 + 5 * i))), sI (nZ (W (101 + 5 * i))), sI (nZ (W (102 + 5 * i))), sI (nZ (W (103 + 5 * i))), sI (nZ (pc (W (103 + 5 * i)))), sI (nZ tk), sI (nZ (tn (rLs W o L U i tk l))), sI (nZ l)] [] h = qbig (d + 103) 213 119 [sR (some 56), none, sI (nZ (W (100 + 5 * i))), sI (nZ (W (101 + 5 * i))), sI (nZ (W (102 + 5 * i))), sI (nZ (W (103 + 5 * i))), sI (nZ (pc (W (103 + 5 * i)))), sI (nZ tk), sI (nZ (tn (rLs W o L U i tk (l + 1)))), sI (nZ (l + 1))] [] k ∧ Fr fQ h k := by
  have H := X.1
  have M := X.mm
  have n8 := M.n8
  obtain ⟨b0, b1, b2, b3, b4⟩ := X.2.2.1.sh hi
  have bp := pc_le _ b3
  have e232 := n232 M (d + 101)
  have lt1 : nZ l < nZ (W 408) := by
    rw [nZ_lt (by omega) (by omega)]
    exact hl
  have z00 : nZ 0 = (0 : Int32) := rfl
  have z10 : ¬(nZ 1 = (0 : Int32)) := by decide
  have ip : nZ l + 1 = nZ (l + 1) := by rw [L1, nZ_add]
  have e196 := m196 (d + 101) (W (103 + 5 * i)) l h (by omega) (by omega)
  have f9 := rLs_le (W := W) (o := o) (L := L) (U := U) (i := i) (tk := tk) l
  have v9 := rL_le (W := W) (o := o) (L := L) (U := U) (i := i) (tk := tk) (l := l)
  have es : rLs W o L U i tk (l + 1) = if (W (103 + 5 * i)).testBit l = true then (if rL W o L U i tk l ≠ 0 ∧ (rLs W o L U i tk l = 0 ∨ rL W o L U i tk l < rLs W o L U i tk l) then rL W o L U i tk l else rLs W o L U i tk l) else rLs W o L U i tk l := rfl
  rw [es]
  by_cases cb : (W (103 + 5 * i)).testBit l = true
  case neg =>
    rw [if_neg cb]
    rw [bI_f cb] at e196
    refine ⟨h, ?_, Fr.refl⟩
    rw [E213_119, e232, jI, if_pos lt1, e196, jI, if_pos z00, ip]
  rw [if_pos cb, ← tn_min f9 v9]
  rw [bI_t cb] at e196
  generalize rLs W o L U i tk l = f at *
  have t10 : tn f ≤ 10 := by
    unfold tn
    split <;> omega
  obtain ⟨x7, y7⟩ := P _ _ b1 b2
  obtain ⟨x10, y10⟩ := P l _ (by omega) b2
  have ix : (5 : Int32) * nZ (W (101 + 5 * i)) + nZ (W (102 + 5 * i)) = nZ (5 * W (101 + 5 * i) + W (102 + 5 * i)) := by rw [L5, nZ_mul, nZ_add]
  have ix2 : (5 : Int32) * nZ l + nZ (W (102 + 5 * i)) = nZ (5 * l + W (102 + 5 * i)) := by rw [L5, nZ_mul, nZ_add]
  obtain ⟨h2, e170, F2, q2⟩ := m170 X (d + 100) (W (102 + 5 * i)) (W (100 + 5 * i)) (pc (W (103 + 5 * i))) (W (101 + 5 * i)) (L (5 * W (101 + 5 * i) + W (102 + 5 * i))) l (L (5 * l + W (102 + 5 * i))) b1 (by omega) b2 (by omega) (by omega) (by omega) (by omega)
  have X2 := X.fr F2 (fun j => rfl)
  have H2 := X2.1
  have M2 := X2.mm
  have e201 := n201 M2 (d + 100) (p := l) (k := W (100 + 5 * i)) (by omega) (by omega)
  have e223 := n223 M2 (d + 100) (p := l) (k := W (101 + 5 * i)) (by omega) (by omega)
  have sym : (W (32 + l)).testBit (W (101 + 5 * i)) = (W (32 + W (101 + 5 * i))).testBit l := X.2.2.1.2.1 l _ (by omega) b1
  rw [sym] at e223
  obtain ⟨x20, y20⟩ := (Q.fr F2 (fun j => rfl)) l hl
  have e205 := m205 M2 (d + 100) (W (102 + 5 * i)) l L b2 (by omega) (P.fr F2 (fun j => rfl))
  obtain ⟨h3, e206, F3⟩ := m206 X2 (q := pq W L i l) q2 d
  have bt : tw o 4 (pq W L i l) 0 ≤ 1 := tw_le (by decide) (by decide)
  have bh : W (4 * l + 2) < 2147483648 := M.b (by omega) (by omega)
  have e217 : ∀ (v : Nat) (k : QH), v < 100 → qcl (d + 102) 217 [qI (nZ (tn f)), qI (nZ v)] k = some (some (qI (nZ (min (tn f) v))), k) := fun v k hv => m217 (d + 101) (tn f) v (by omega) (by omega) k
  unfold rL rL8
  by_cases c1 : (W (4 * l + 3)).testBit (W (100 + 5 * i)) = true
  · rw [if_pos c1, if_neg (by decide)]
    rw [bI_t c1] at e201
    refine ⟨h2, ?_, F2⟩
    rw [E213_119, e232, jI, if_pos lt1, e196, jI, if_neg z10, g56_23 H, ob_some, ob_some, ix, A68 H (by omega), ob_some, x7, ob_some, ob_some, ix2, A68 H (by omega), ob_some, x10, e170, jV, e201, jI, if_neg z10]
    exact (congrArg (fun z => cI z _) (e217 5 h2 (by decide))).trans (by rw [jI, ip]; rfl)
  rw [if_neg c1]
  rw [bI_f c1] at e201
  by_cases c2 : (W (32 + W (101 + 5 * i))).testBit l = true
  case neg =>
    rw [if_neg c2, if_neg (by decide)]
    rw [bI_f c2] at e223
    refine ⟨h2, ?_, F2⟩
    rw [E213_119, e232, jI, if_pos lt1, e196, jI, if_neg z10, g56_23 H, ob_some, ob_some, ix, A68 H (by omega), ob_some, x7, ob_some, ob_some, ix2, A68 H (by omega), ob_some, x10, e170, jV, e201, jI, if_pos z00, e223, jI, if_pos z00]
    exact (congrArg (fun z => cI z _) (e217 6 h2 (by decide))).trans (by rw [jI, ip]; rfl)
  rw [if_pos c2]
  rw [bI_t c2] at e223
  by_cases c3 : W (4 * l + 2) - U l < tk
  · rw [if_pos c3, if_neg (by decide)]
    have f1 : nZ (W (4 * l + 2) - U l) < nZ tk := by
      rw [nZ_lt (by omega) (by omega)]
      exact c3
    refine ⟨h2, ?_, F2⟩
    rw [E213_119, e232, jI, if_pos lt1, e196, jI, if_neg z10, g56_23 H, ob_some, ob_some, ix, A68 H (by omega), ob_some, x7, ob_some, ob_some, ix2, A68 H (by omega), ob_some, x10, e170, jV, e201, jI, if_pos z00, e223, jI, if_neg z10, g56_27 H2, ob_some, ob_some, A72 H2 (by omega), ob_some, x20, if_pos f1]
    exact (congrArg (fun z => cI z _) (e217 7 h2 (by decide))).trans (by rw [jI, ip]; rfl)
  rw [if_neg c3]
  have f1 : ¬(nZ (W (4 * l + 2) - U l) < nZ tk) := by
    rw [nZ_lt (by omega) (by omega)]
    exact c3
  by_cases c4 : rdF W L (W (102 + 5 * i)) l (W 409) 0 = true
  case neg =>
    rw [if_neg c4, if_neg (by decide)]
    rw [bI_f c4] at e205
    refine ⟨h2, ?_, F2⟩
    rw [E213_119, e232, jI, if_pos lt1, e196, jI, if_neg z10, g56_23 H, ob_some, ob_some, ix, A68 H (by omega), ob_some, x7, ob_some, ob_some, ix2, A68 H (by omega), ob_some, x10, e170, jV, e201, jI, if_pos z00, e223, jI, if_neg z10, g56_27 H2, ob_some, ob_some, A72 H2 (by omega), ob_some, x20, if_neg f1, e205, jI, if_pos z00]
    exact (congrArg (fun z => cI z _) (e217 8 h2 (by decide))).trans (by rw [jI, ip]; rfl)
  rw [if_pos c4, if_pos rfl]
  rw [bI_t c4] at e205
  refine ⟨h3, ?_, F2.trans F3⟩
  by_cases c5 : tw o 4 (pq W L i l) 0 = 0
  · rw [if_pos c5]
    rw [c5] at e206
    rw [E213_119, e232, jI, if_pos lt1, e196, jI, if_neg z10, g56_23 H, ob_some, ob_some, ix, A68 H (by omega), ob_some, x7, ob_some, ob_some, ix2, A68 H (by omega), ob_some, x10, e170, jV, e201, jI, if_pos z00, e223, jI, if_neg z10, g56_27 H2, ob_some, ob_some, A72 H2 (by omega), ob_some, x20, if_neg f1, e205, jI, if_neg z10, e206, jI, if_pos z00]
    exact (congrArg (fun z => cI z _) (e217 10 h3 (by decide))).trans (by rw [jI, ip]; rfl)
  · rw [if_neg c5]
    rw [show tw o 4 (pq W L i l) 0 = 1 by omega] at e206
    rw [E213_119, e232, jI, if_pos lt1, e196, jI, if_neg z10, g56_23 H, ob_some, ob_some, ix, A68 H (by omega), ob_some, x7, ob_some, ob_some, ix2, A68 H (by omega), ob_some, x10, e170, jV, e201, jI, if_pos z00, e223, jI, if_neg z10, g56_27 H2, ob_some, ob_some, A72 H2 (by omega), ob_some, x20, if_neg f1, e205, jI, if_neg z10, e206, jI, if_neg z10]
    exact (congrArg (fun z => cI z _) (e217 9 h3 (by decide))).trans (by rw [jI, ip]; rfl)

/-! the plan: the learners' reason -/
theorem pL.fr {h k : QH} {y : Nat} {L : Nat → Nat} (P : pL h y L) {cs : Nat → Nat → Bool} (F : Fr cs h k) (e : ∀ j, cs 41 j = false) : pL k y L := fun p a hp ha => by
  rw [F.2 41 _ (e _)]
  exact P p a hp ha
theorem pU.fr {h k : QH} {y : Nat} {W U : Nat → Nat} (P : pU h y W U) {cs : Nat → Nat → Bool} (F : Fr cs h k) (e : ∀ j, cs 43 j = false) : pU k y W U := fun l hl => by
  rw [F.2 43 _ (e _)]
  exact P l hl
theorem vA.of {h k : QH} {W : Nat → Nat} {a y n : Nat} (A : vA h W a y n) (g : ∀ b j, b ≠ 38 → hI k b j = hI h b j) : vA k W a y n := by
  obtain ⟨b1, b2, b3, b4⟩ := A
  refine ⟨?_, ?_, ?_, ?_⟩
  · rw [g 39 1 (by decide)]
    exact b1
  · rw [g 37 4 (by decide)]
    exact b2
  · rw [g 37 5 (by decide)]
    exact b3
  · rw [g 37 8 (by decide)]
    exact b4
theorem rL8_le {W L U : Nat → Nat} {i tk l : Nat} : rL8 W L U i tk l ≤ 9 := by
  unfold rL8
  repeat' split
  all_goals decide
def rL (W : Nat → Nat) (o : Option (List CL)) (L U : Nat → Nat) (i tk l : Nat) : Nat :=
  if rL8 W L U i tk l = 0 then (if tw o 4 (pq W L i l) 0 = 0 then 0 else 9) else rL8 W L U i tk l
theorem rL_le {W : Nat → Nat} {o : Option (List CL)} {L U : Nat → Nat} {i tk l : Nat} : rL W o L U i tk l ≤ 9 := by
  unfold rL
  split
  · split <;> decide
  · exact rL8_le
/-- the least reason of the first k -/
def rLs (W : Nat → Nat) (o : Option (List CL)) (L U : Nat → Nat) (i tk : Nat) : Nat → Nat
  | 0 => 0
  | k + 1 => if (W (103 + 5 * i)).testBit k = true then (if rL W o L U i tk k ≠ 0 ∧ (rLs W o L U i tk k = 0 ∨ rL W o L U i tk k < rLs W o L U i tk k) then rL W o L U i tk k else rLs W o L U i tk k) else rLs W o L U i tk k
theorem rLs_le {W : Nat → Nat} {o : Option (List CL)} {L U : Nat → Nat} {i tk : Nat} : ∀ k, rLs W o L U i tk k ≤ 9
  | 0 => Nat.zero_le 9
  | k + 1 => by
    unfold rLs
    split
    · split
      · exact rL_le
      · exact rLs_le k
    · exact rLs_le k
theorem c102s {h : QH} {W : Nat → Nat} {o : Option (List CL)} {r : Option Nat} (X : CX h W o r) (d i tk l : Nat) (L U : Nat → Nat) (hi : i < 60) (hl : l < W 408) (ht : tk < 1000) (P : pL h (W (100 + 5 * i)) L) (Q : pU h (W (100 + 5 * i)) W U) (A : vA h W (W (102 + 5 * i)) (W (100 + 5 * i)) (pc (W (103 + 5 * i)))) : ∃ k, qbig (d + 5) 102 6 [sR (some 40), sR (some 11), sR (some 36), sI (nZ i), sI (nZ tk), sI (nZ (rLs W o L U i tk l)), sI (nZ l), none] [] h = qbig (d + 5) 102 6 [sR (some 40), sR (some 11), sR (some 36), sI (nZ i), sI (nZ tk), sI (nZ (rLs W o L U i tk (l + 1))), sI (nZ (l + 1)), none] [] k ∧ Fr fV h k ∧ vA k W (W (102 + 5 * i)) (W (100 + 5 * i)) (pc (W (103 + 5 * i))) := by
  have H := X.1
  have n8 := X.n8
  obtain ⟨s0, s1', s2', s3', s4'⟩ := X.sh0 hi
  obtain ⟨b0, b1, b2, b3, b4⟩ := X.2.2.2.1.sh hi
  have n0 : hI h 12 0 = nZ (W 408) := X.2.2.1.1.1
  have lt1 : nZ l < nZ (W 408) := by
    rw [nZ_lt (by omega) (by omega)]
    exact hl
  have z00 : nZ 0 = (0 : Int32) := rfl
  have z10 : ¬(nZ 1 = (0 : Int32)) := by decide
  have ip : nZ l + 1 = nZ (l + 1) := by rw [L1, nZ_add]
  have ebit : ((nZ (W (103 + 5 * i)) >>> (nZ l &&& 31)) &&& 1) = nZ (if (W (103 + 5 * i)).testBit l = true then 1 else 0) := by
    rw [L31, nZ_and, and31 (by omega), nZ_shr (by omega) (by omega), L1, nZ_and, bit_eq]
  have f9 := rLs_le (W := W) (o := o) (L := L) (U := U) (i := i) (tk := tk) l
  have es : rLs W o L U i tk (l + 1) = if (W (103 + 5 * i)).testBit l = true then (if rL W o L U i tk l ≠ 0 ∧ (rLs W o L U i tk l = 0 ∨ rL W o L U i tk l < rLs W o L U i tk l) then rL W o L U i tk l else rLs W o L U i tk l) else rLs W o L U i tk l := rfl
  rw [es]
  generalize rLs W o L U i tk l = f at *
  by_cases cb : (W (103 + 5 * i)).testBit l = true
  case neg =>
    rw [if_neg cb]
    rw [if_neg cb] at ebit
    refine ⟨h, ?_, Fr.refl, A⟩
    rw [E102_6, ob_some, g11_0 H, ob_some, ob_some, g12_0 H, ob_some, n0, if_pos lt1, ob_some, g11_2 H, ob_some, ob_some, g19_4 H, ob_some, ob_some, A23 H hi, ob_some, s3', ebit, if_pos z00, E102_101, ip]
  rw [if_pos cb]
  rw [if_pos cb] at ebit
  have e101 := c101 X d i tk l L U hi (by omega) ht P Q
  obtain ⟨h2, e92, F2, A2, Q2⟩ := c92 X (d + 1) i l L hi (by omega) P A
  have X2 := X.fr F2 nW_fV
  have r9 := rL8_le (W := W) (L := L) (U := U) (i := i) (tk := tk) (l := l)
  by_cases c8 : rL8 W L U i tk l = 0
  · have e163 := c163 X2 (d + 3)
    obtain ⟨h3, e152, F3, g3⟩ := c152t X2 (q := pq W L i l) (d + 1) 4 (by decide) Q2 A2.1
    have e152' : qcl (d + 4) 152 [qR (some 36), qR r, qI 3] h2 = some (some (qI (nZ (tw o 4 (pq W L i l) 0))), h3) := e152
    have r0 : nZ (rL8 W L U i tk l) = (0 : Int32) := by
      rw [c8]
      rfl
    have bt : tw o 4 (pq W L i l) 0 ≤ 1 := tw_le (by decide) (by decide)
    have er : rL W o L U i tk l = if tw o 4 (pq W L i l) 0 = 0 then 0 else 9 := by
      unfold rL
      rw [if_pos c8]
    refine ⟨h3, ?_, F2.trans F3, A2.of g3⟩
    rw [er]
    by_cases ct : tw o 4 (pq W L i l) 0 = 0
    · rw [if_pos ct, if_neg (fun z => z.1 rfl)]
      rw [ct] at e152'
      rw [E102_6, ob_some, g11_0 H, ob_some, ob_some, g12_0 H, ob_some, n0, if_pos lt1, ob_some, g11_2 H, ob_some, ob_some, g19_4 H, ob_some, ob_some, A23 H hi, ob_some, s3', ebit, if_neg z10, e101, jI, e92, jV, if_pos r0, e163, jR, e152', jI, if_pos z00, if_pos r0, E102_101, ip]
    · have ct1 : tw o 4 (pq W L i l) 0 = 1 := by omega
      rw [if_neg ct]
      rw [ct1] at e152'
      by_cases cf : f = 0
      · rw [if_pos ⟨by decide, Or.inl cf⟩]
        have f0 : nZ f = (0 : Int32) := by
          rw [cf]
          rfl
        rw [E102_6, ob_some, g11_0 H, ob_some, ob_some, g12_0 H, ob_some, n0, if_pos lt1, ob_some, g11_2 H, ob_some, ob_some, g19_4 H, ob_some, ob_some, A23 H hi, ob_some, s3', ebit, if_neg z10, e101, jI, e92, jV, if_pos r0, e163, jR, e152', jI, if_neg z10, if_neg (by decide), if_pos f0, E102_101, ip]
        rfl
      · rw [if_neg (fun z => by omega)]
        have f0 : ¬(nZ f = (0 : Int32)) := by
          rw [L0, nZ_eq (by omega) (by decide)]
          exact cf
        have f1 : ¬((9 : Int32) < nZ f) := by
          rw [L9, nZ_lt (by decide) (by omega)]
          omega
        rw [E102_6, ob_some, g11_0 H, ob_some, ob_some, g12_0 H, ob_some, n0, if_pos lt1, ob_some, g11_2 H, ob_some, ob_some, g19_4 H, ob_some, ob_some, A23 H hi, ob_some, s3', ebit, if_neg z10, e101, jI, e92, jV, if_pos r0, e163, jR, e152', jI, if_neg z10, if_neg (by decide), if_neg f0, if_neg f1, E102_101, ip]
  · have er : rL W o L U i tk l = rL8 W L U i tk l := by
      unfold rL
      rw [if_neg c8]
    have r0 : ¬(nZ (rL8 W L U i tk l) = (0 : Int32)) := by
      rw [L0, nZ_eq (by omega) (by decide)]
      exact c8
    refine ⟨h2, ?_, F2, A2⟩
    rw [er]
    by_cases cf : f = 0
    · rw [if_pos ⟨c8, Or.inl cf⟩]
      have f0 : nZ f = (0 : Int32) := by
        rw [cf]
        rfl
      rw [E102_6, ob_some, g11_0 H, ob_some, ob_some, g12_0 H, ob_some, n0, if_pos lt1, ob_some, g11_2 H, ob_some, ob_some, g19_4 H, ob_some, ob_some, A23 H hi, ob_some, s3', ebit, if_neg z10, e101, jI, e92, jV, if_neg r0, if_neg r0, if_pos f0, E102_101, ip]
    · have f0 : ¬(nZ f = (0 : Int32)) := by
        rw [L0, nZ_eq (by omega) (by decide)]
        exact cf
      by_cases cl : rL8 W L U i tk l < f
      · rw [if_pos ⟨c8, Or.inr cl⟩]
        have f1 : nZ (rL8 W L U i tk l) < nZ f := by
          rw [nZ_lt (by omega) (by omega)]
          exact cl
        rw [E102_6, ob_some, g11_0 H, ob_some, ob_some, g12_0 H, ob_some, n0, if_pos lt1, ob_some, g11_2 H, ob_some, ob_some, g19_4 H, ob_some, ob_some, A23 H hi, ob_some, s3', ebit, if_neg z10, e101, jI, e92, jV, if_neg r0, if_neg r0, if_neg f0, if_pos f1, E102_101, ip]
      · rw [if_neg (fun z => by omega)]
        have f1 : ¬(nZ (rL8 W L U i tk l) < nZ f) := by
          rw [nZ_lt (by omega) (by omega)]
          exact cl
        rw [E102_6, ob_some, g11_0 H, ob_some, ob_some, g12_0 H, ob_some, n0, if_pos lt1, ob_some, g11_2 H, ob_some, ob_some, g19_4 H, ob_some, ob_some, A23 H hi, ob_some, s3', ebit, if_neg z10, e101, jI, e92, jV, if_neg r0, if_neg r0, if_neg f0, if_neg f1, E102_101, ip]
theorem c102l {W : Nat → Nat} {o : Option (List CL)} {r : Option Nat} (d i tk : Nat) (L U : Nat → Nat) (hi : i < 60) (ht : tk < 1000) : ∀ m l h, l + m = W 408 → CX h W o r → pL h (W (100 + 5 * i)) L → pU h (W (100 + 5 * i)) W U → vA h W (W (102 + 5 * i)) (W (100 + 5 * i)) (pc (W (103 + 5 * i))) → ∃ k, qbig (d + 5) 102 6 [sR (some 40), sR (some 11), sR (some 36), sI (nZ i), sI (nZ tk), sI (nZ (rLs W o L U i tk l)), sI (nZ l), none] [] h = some (some (qI (nZ (rLs W o L U i tk (W 408)))), k) ∧ Fr fV h k ∧ vA k W (W (102 + 5 * i)) (W (100 + 5 * i)) (pc (W (103 + 5 * i)))
  | 0, l, h, e, X, P, Q, A => by
    have e' : l = W 408 := by omega
    have H := X.1
    have n8 := X.n8
    have n0 : hI h 12 0 = nZ (W 408) := X.2.2.1.1.1
    have lt1 : ¬(nZ l < nZ (W 408)) := by
      rw [nZ_lt (by omega) (by omega)]
      omega
    refine ⟨h, ?_, Fr.refl, A⟩
    rw [E102_6, ob_some, g11_0 H, ob_some, ob_some, g12_0 H, ob_some, n0, if_neg lt1, e']
  | m + 1, l, h, e, X, P, Q, A => by
    obtain ⟨k, ek, Fk, Ak⟩ := c102s X d i tk l L U hi (by omega) ht P Q A
    obtain ⟨k2, ek2, Fk2, Ak2⟩ := c102l d i tk L U hi ht m (l + 1) k (by omega) (X.fr Fk nW_fV) (P.fr Fk (fun j => rfl)) (Q.fr Fk (fun j => rfl)) Ak
    exact ⟨k2, ek.trans ek2, Fk.trans Fk2, Ak2⟩
theorem c102 {h : QH} {W : Nat → Nat} {o : Option (List CL)} {r : Option Nat} (X : CX h W o r) (d i tk : Nat) (L U : Nat → Nat) (hi : i < 60) (ht : tk < 1000) (P : pL h (W (100 + 5 * i)) L) (Q : pU h (W (100 + 5 * i)) W U) (A : vA h W (W (102 + 5 * i)) (W (100 + 5 * i)) (pc (W (103 + 5 * i)))) : ∃ k, qcl (d + 5) 102 [qR (some 40), qR (some 11), qR (some 36), qI (nZ i), qI (nZ tk)] h = some (some (qI (nZ (rLs W o L U i tk (W 408)))), k) ∧ Fr fV h k ∧ vA k W (W (102 + 5 * i)) (W (100 + 5 * i)) (pc (W (103 + 5 * i))) := by
  obtain ⟨k, ek, Fk, Ak⟩ := c102l (o := o) (r := r) d i tk L U hi ht (W 408) 0 h (by omega) X P Q A
  refine ⟨k, ?_, Fk, Ak⟩
  rw [E102, ck40 X.1, ob_some]
  exact ek

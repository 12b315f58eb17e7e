/-! the plan of the reference: ready, a day's end -/
def rdP (W L : Nat → Nat) (p : Nat) : Nat → Nat → Bool
  | 0, _ => true
  | m + 1, a => if L (5 * p + a) < W (42 + 4 * a) then false else rdP W L p m (a + 1)
def rdA (W L : Nat → Nat) : Nat → Nat → Bool
  | 0, _ => true
  | m + 1, p => if rdP W L p (W 409) 0 = true then rdA W L m (p + 1) else false
theorem m204_12 {h : QH} {W : Nat → Nat} (M : MM h W) (d p : Nat) (L : Nat → Nat) (hp : p < 8) (P : mL h L) : ∀ m a, a + m = W 409 → qbig (d + 2) 204 12 [sR (some 56), sI (nZ p), sI (nZ a)] [] h = if rdP W L p m a = true then qbig (d + 2) 204 2 [sR (some 56), sI (nZ (p + 1)), none] [] h else some (some (qI (nZ 0)), h)
  | 0, a, e => by
    have n5 := M.n5
    have e169 := n169 M d
    have lt1 : ¬(nZ a < nZ (W 409)) := by
      rw [nZ_lt (by omega) (by omega)]
      omega
    have ip : nZ p + 1 = nZ (p + 1) := by rw [L1, nZ_add]
    rw [E204_12, e169, jI, if_neg lt1, ip]
    rfl
  | m + 1, a, e => by
    have H := M.1
    have n5 := M.n5
    have e169 := n169 M d
    have lt1 : nZ a < nZ (W 409) := by
      rw [nZ_lt (by omega) (by omega)]
      omega
    have ip : nZ a + 1 = nZ (a + 1) := by rw [L1, nZ_add]
    have ix : (5 : Int32) * nZ p + nZ a = nZ (5 * p + a) := by rw [L5, nZ_mul, nZ_add]
    have ih := m204_12 M d p L hp P m (a + 1) (by omega)
    obtain ⟨x5, b5⟩ := P p a hp (by omega)
    have e2 : qcl (d + 1) 168 [qR (some 56), qI (nZ a), qI 2] h = some (some (qI (nZ (W (42 + 4 * a)))), h) := by
      rw [show 42 + 4 * a = 40 + 4 * a + 2 by omega]
      exact n168 M d (a := a) (f := 2) (by omega) (by decide)
    have b42 : W (42 + 4 * a) < 2147483648 := M.b (by omega) (by omega)
    have er : rdP W L p (m + 1) a = if L (5 * p + a) < W (42 + 4 * a) then false else rdP W L p m (a + 1) := rfl
    by_cases c : L (5 * p + a) < W (42 + 4 * a)
    · have f1 : nZ (L (5 * p + a)) < nZ (W (42 + 4 * a)) := by
        rw [nZ_lt (by omega) b42]
        exact c
      rw [er, if_pos c, if_neg (by decide), E204_12, e169, jI, if_pos lt1, g56_23 H, ob_some, ob_some, ix, A68 H (by omega), ob_some, x5, e2, jI, if_pos f1, if_pos (by decide)]
      rfl
    · have f1 : ¬(nZ (L (5 * p + a)) < nZ (W (42 + 4 * a))) := by
        rw [nZ_lt (by omega) b42]
        exact c
      rw [er, if_neg c, E204_12, e169, jI, if_pos lt1, g56_23 H, ob_some, ob_some, ix, A68 H (by omega), ob_some, x5, e2, jI, if_neg f1, ip]
      exact ih
theorem m204_2 {h : QH} {W : Nat → Nat} (M : MM h W) (d : Nat) (L : Nat → Nat) (P : mL h L) : ∀ m p, p + m = W 408 → qbig (d + 2) 204 2 [sR (some 56), sI (nZ p), none] [] h = some (some (qI (bI (rdA W L m p = true))), h)
  | 0, p, e => by
    have n8 := M.n8
    have e232 := n232 M d
    have lt1 : ¬(nZ p < nZ (W 408)) := by
      rw [nZ_lt (by omega) (by omega)]
      omega
    have eb : bI (rdA W L 0 p = true) = nZ 1 := bI_t rfl
    rw [eb, E204_2, e232, jI, if_neg lt1, if_pos (by decide)]
    rfl
  | m + 1, p, e => by
    have n8 := M.n8
    have e232 := n232 M d
    have lt1 : nZ p < nZ (W 408) := by
      rw [nZ_lt (by omega) (by omega)]
      omega
    have ih := m204_2 M d L P m (p + 1) (by omega)
    have e12 : qbig (d + 2) 204 12 [sR (some 56), sI (nZ p), sI 0] [] h = _ := m204_12 M d p L (by omega) P (W 409) 0 (by omega)
    have er : rdA W L (m + 1) p = if rdP W L p (W 409) 0 = true then rdA W L m (p + 1) else false := rfl
    rw [E204_2, e232, jI, if_pos lt1, e12, er]
    by_cases c : rdP W L p (W 409) 0 = true
    · rw [if_pos c, if_pos c]
      exact ih
    · rw [if_neg c, if_neg c]
      rfl
theorem m204 {h : QH} {W : Nat → Nat} (M : MM h W) (d : Nat) (L : Nat → Nat) (P : mL h L) : qcl (d + 2) 204 [qR (some 56)] h = some (some (qI (bI (rdA W L (W 408) 0 = true))), h) := by
  rw [E204, ck56 M.1, ob_some]
  exact m204_2 M d L P (W 408) 0 (by omega)
theorem m219_223 (d : Nat) (a1 a2 : Int32) : ∀ m j h, j + m = 40 → Sh h → (∀ x, x < 40 → hI h 71 x &&& 1 = hI h 71 x) → ∃ k, qbig (d + 1) 219 223 [sR (some 56), sI a1, sI a2, sI (nZ j)] [] h = qbig (d + 1) 219 223 [sR (some 56), sI a1, sI a2, sI (nZ 40)] [] k ∧ Fr (f2 68 70) h k ∧ ∀ x, x < 40 → (j ≤ x → hI k 68 x = hI h 69 x ∧ hI k 70 x = hI h 71 x) ∧ (x < j → hI k 68 x = hI h 68 x ∧ hI k 70 x = hI h 70 x)
  | 0, j, h, e, H, z => by
    have e' : j = 40 := by omega
    subst e'
    exact ⟨h, rfl, Fr.refl, fun x hx => ⟨fun hj => by omega, fun _ => ⟨rfl, rfl⟩⟩⟩
  | m + 1, j, h, e, H, z => by
    have lt1 : nZ j < 40 := by
      rw [L40, nZ_lt (by omega) (by decide)]
      omega
    have ip : nZ j + 1 = nZ (j + 1) := by rw [L1, nZ_add]
    have H1 : Sh (hsI h 68 j (hI h 69 j)) := H
    have x10 : hI (hsI h 68 j (hI h 69 j)) 71 j = hI h 71 j := hI_ne (by omega)
    obtain ⟨k, ek, Fk, gk⟩ := m219_223 d a1 a2 m (j + 1) (hsI (hsI h 68 j (hI h 69 j)) 70 j (hI h 71 j)) (by omega) H (fun x hx => by
      rw [hI_ne (by omega), hI_ne (by omega)]
      exact z x hx)
    have F1 : Fr (f2 68 70) h (hsI (hsI h 68 j (hI h 69 j)) 70 j (hI h 71 j)) := Fr.si rfl (Fr.si rfl Fr.refl)
    refine ⟨k, ?_, F1.trans Fk, fun x hx => ?_⟩
    · rw [← ek, E219_223, if_pos lt1, g56_23 H, ob_some, g56_24 H, ob_some, ob_some, A69 H (by omega), ob_some, ob_some, S68 H (by omega), ob_some, g56_25 H1, ob_some, g56_26 H1, ob_some, ob_some, A71 H1 (by omega), ob_some, ob_some, x10, z j (by omega), S70 H1 (by omega), ob_some, ip]
    · obtain ⟨g1, g2⟩ := gk x hx
      refine ⟨fun hj => ?_, fun hj => ?_⟩
      · by_cases c : x = j
        · subst c
          obtain ⟨q1, q2⟩ := g2 (by omega)
          rw [q1, q2]
          refine ⟨?_, hI_at rfl⟩
          rw [hI_ne (by omega), hI_at rfl]
        · obtain ⟨q1, q2⟩ := g1 (by omega)
          rw [q1, q2]
          refine ⟨?_, ?_⟩
          · rw [hI_ne (by omega), hI_ne (by omega)]
          · rw [hI_ne (by omega), hI_ne (by omega)]
      · obtain ⟨q1, q2⟩ := g2 (by omega)
        rw [q1, q2]
        refine ⟨?_, ?_⟩
        · rw [hI_ne (by omega), hI_ne (by omega)]
        · rw [hI_ne (by omega), hI_ne (by omega)]
/-- one more -/
theorem fs1_s {P Q : Nat → Bool} {n i : Nat} {v : Int32} (a : fs1 P n v) (hi : i < n) (hn : n < 1000) (p0 : P i = false) (q1 : Q i = true) (e : ∀ j, j < n → j ≠ i → Q j = P j) : (v = -1 ∨ v < nZ i ∨ nZ i < v) ∧ (v = -1 ∨ nZ i < v → fs1 Q n (nZ i)) ∧ (¬(v = -1) → ¬(nZ i < v) → fs1 Q n v) := by
  rcases a with ⟨a1, a2⟩ | ⟨m, m1, m2, m3, m4⟩
  · refine ⟨Or.inl a1, fun _ => Or.inr ⟨i, hi, rfl, q1, fun j hj => ?_⟩, fun c => absurd a1 c⟩
    rw [e j (by omega) (by omega)]
    exact a2 j (by omega)
  · have ne : m ≠ i := fun z => by
      rw [z, p0] at m3
      cases m3
    have nn : ¬(nZ m = (-1 : Int32)) := fun z => cast (nZ_nneg (a := m) (by omega)) (z.trans nZ_neg1)
    have l1' : (nZ i < nZ m) = (i < m) := nZ_lt (by omega) (by omega)
    have l2 : (nZ m < nZ i) = (m < i) := nZ_lt (by omega) (by omega)
    rw [m2, l1', l2]
    refine ⟨by omega, fun c => ?_, fun _ c => ?_⟩
    · rcases c with c | c
      · exact absurd c nn
      · refine Or.inr ⟨i, hi, rfl, q1, fun j hj => ?_⟩
        rw [e j (by omega) (by omega)]
        exact m4 j (by omega)
    · refine Or.inr ⟨m, m1, rfl, ?_, fun j hj => ?_⟩
      · rw [e m m1 ne]
        exact m3
      · rw [e j (by omega) (by omega)]
        exact m4 j hj

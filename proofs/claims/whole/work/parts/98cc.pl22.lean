/-! the plan of the reference: copying, ready, counting -/
def cN (P : Nat → Bool) : Nat → Nat
  | 0 => 0
  | n + 1 => cN P n + (if P n = true then 1 else 0)
theorem cN_congr {P Q : Nat → Bool} : ∀ n, (∀ j, j < n → P j = Q j) → cN P n = cN Q n
  | 0, _ => rfl
  | n + 1, e => by
    unfold cN
    rw [cN_congr n (fun j hj => e j (by omega)), e n (by omega)]
theorem cN_up {P Q : Nat → Bool} {i : Nat} (hp : P i = false) (hq : Q i = true) : ∀ n, i < n → (∀ j, j < n → j ≠ i → Q j = P j) → cN Q n = cN P n + 1
  | 0, h, _ => by omega
  | n + 1, h, e => by
    unfold cN
    by_cases c : i = n
    · subst c
      rw [hp, hq, cN_congr (P := Q) (Q := P) i (fun j hj => e j (by omega) (by omega))]
      rfl
    · rw [cN_up hp hq n (by omega) (fun j hj hne => e j (by omega) hne), e n (by omega) (fun z => c z.symm)]
      omega
theorem cN_le {P : Nat → Bool} : ∀ n, cN P n ≤ n
  | 0 => Nat.le_refl 0
  | n + 1 => by
    have := cN_le (P := P) n
    unfold cN
    split <;> omega
/-- the first of them, or none -/
def fs1 (P : Nat → Bool) (n : Nat) (v : Int32) : Prop := (v = -1 ∧ ∀ j, j < n → P j = false) ∨ ∃ m, m < n ∧ v = nZ m ∧ P m = true ∧ ∀ j, j < m → P j = false
theorem fs1_u {P : Nat → Bool} {n : Nat} {v w : Int32} (a : fs1 P n v) (b : fs1 P n w) : v = w := by
  rcases a with ⟨a1, a2⟩ | ⟨m, m1, m2, m3, m4⟩
  · rcases b with ⟨b1, b2⟩ | ⟨k, k1, k2, k3, k4⟩
    · rw [a1, b1]
    · rw [a2 k k1] at k3
      cases k3
  · rcases b with ⟨b1, b2⟩ | ⟨k, k1, k2, k3, k4⟩
    · rw [b2 m m1] at m3
      cases m3
    · have : m = k := by
        rcases Nat.lt_trichotomy m k with c | c | c
        · rw [k4 m c] at m3
          cases m3
        · exact c
        · rw [m4 k c] at k3
          cases k3
      rw [m2, k2, this]
theorem fs1_c {P Q : Nat → Bool} {n : Nat} {v : Int32} (e : ∀ j, j < n → P j = Q j) (a : fs1 P n v) : fs1 Q n v := by
  rcases a with ⟨a1, a2⟩ | ⟨m, m1, m2, m3, m4⟩
  · exact Or.inl ⟨a1, fun j hj => by rw [← e j hj]; exact a2 j hj⟩
  · exact Or.inr ⟨m, m1, m2, by rw [← e m m1]; exact m3, fun j hj => by rw [← e j (by omega)]; exact m4 j hj⟩
/-- two cells -/
def f2 (p q b _j : Nat) : Bool := Nat.beq b p || Nat.beq b q
theorem f2_1 {p q j : Nat} : f2 p q p j = true := by
  unfold f2
  rw [Nat.beq_refl]
  rfl
theorem f2_eq {p q b j : Nat} (h : f2 p q b j = true) : b = p ∨ b = q := by
  unfold f2 at h
  cases e : Nat.beq b p
  · rw [e] at h
    exact Or.inr (Nat.eq_of_beq_eq_true h)
  · exact Or.inl (Nat.eq_of_beq_eq_true e)
theorem m219_65 (d : Nat) (a1 a2 : Int32) : ∀ m j h, j + m = 40 → Sh h → (∀ x, x < 40 → hI h 70 x &&& 1 = hI h 70 x) → ∃ k, qbig (d + 1) 219 65 [sR (some 56), sI a1, sI a2, sI (nZ j)] [] h = qbig (d + 1) 219 103 [sR (some 56), sI a1, sI a2, sI (nZ 0)] [] k ∧ Fr (f2 69 71) h k ∧ ∀ x, x < 40 → (j ≤ x → hI k 69 x = hI h 68 x ∧ hI k 71 x = hI h 70 x) ∧ (x < j → hI k 69 x = hI h 69 x ∧ hI k 71 x = hI h 71 x)
  | 0, j, h, e, H, z => by
    have e' : j = 40 := by omega
    subst e'
    refine ⟨h, ?_, Fr.refl, fun x hx => ⟨fun hj => by omega, fun _ => ⟨rfl, rfl⟩⟩⟩
    rw [E219_65, if_neg (by decide)]
    rfl
  | m + 1, j, h, e, H, z => by
    have lt1 : nZ j < 40 := by
      rw [L40, nZ_lt (by omega) (by decide)]
      omega
    have ip : nZ j + 1 = nZ (j + 1) := by rw [L1, nZ_add]
    have H1 : Sh (hsI h 69 j (hI h 68 j)) := H
    have x10 : hI (hsI h 69 j (hI h 68 j)) 70 j = hI h 70 j := hI_ne (by omega)
    obtain ⟨k, ek, Fk, gk⟩ := m219_65 d a1 a2 m (j + 1) (hsI (hsI h 69 j (hI h 68 j)) 71 j (hI h 70 j)) (by omega) H (fun x hx => by
      rw [hI_ne (by omega), hI_ne (by omega)]
      exact z x hx)
    have F1 : Fr (f2 69 71) h (hsI (hsI h 69 j (hI h 68 j)) 71 j (hI h 70 j)) := Fr.si rfl (Fr.si rfl Fr.refl)
    refine ⟨k, ?_, F1.trans Fk, fun x hx => ?_⟩
    · rw [E219_65, if_pos lt1, g56_24 H, ob_some, g56_23 H, ob_some, ob_some, A68 H (by omega), ob_some, ob_some, S69 H (by omega), ob_some, g56_26 H1, ob_some, g56_25 H1, ob_some, ob_some, A70 H1 (by omega), ob_some, ob_some, x10, z j (by omega), S71 H1 (by omega), ob_some, ip]
      exact ek
    · obtain ⟨g1, g2⟩ := gk x hx
      refine ⟨fun hj => ?_, fun hj => ?_⟩
      · by_cases c : x = j
        · subst c
          obtain ⟨q1, q2⟩ := g2 (by omega)
          rw [q1, q2]
          refine ⟨?_, hI_at rfl⟩
          rw [hI_ne (by omega), hI_at rfl]
        · obtain ⟨q1, q2⟩ := g1 (by omega)
          rw [q1, q2]
          refine ⟨?_, ?_⟩
          · rw [hI_ne (by omega), hI_ne (by omega)]
          · rw [hI_ne (by omega), hI_ne (by omega)]
      · obtain ⟨q1, q2⟩ := g2 (by omega)
        rw [q1, q2]
        refine ⟨?_, ?_⟩
        · rw [hI_ne (by omega), hI_ne (by omega)]
        · rw [hI_ne (by omega), hI_ne (by omega)]
theorem m219_22 {h0 : QH} (d : Nat) (a1 : Int32) : ∀ m j h, j + m = 40 → Sh h → (∀ x, hI h 58 x = hI h0 58 x) → ∃ k, qbig (d + 1) 219 22 [sR (some 56), sI a1, sI (nZ j), none] [] h = qbig (d + 1) 219 58 [sR (some 56), sI a1, sI (nZ 0), none] [] k ∧ Fr (f2 68 70) h k ∧ ∀ x, x < 40 → (j ≤ x → hI k 68 x = hI h0 58 (60 + x) ∧ hI k 70 x = nZ 0) ∧ (x < j → hI k 68 x = hI h 68 x ∧ hI k 70 x = hI h 70 x)
  | 0, j, h, e, H, z => by
    have e' : j = 40 := by omega
    subst e'
    refine ⟨h, ?_, Fr.refl, fun x hx => ⟨fun hj => by omega, fun _ => ⟨rfl, rfl⟩⟩⟩
    rw [E219_22, if_neg (by decide)]
    rfl
  | m + 1, j, h, e, H, z => by
    have lt1 : nZ j < 40 := by
      rw [L40, nZ_lt (by omega) (by decide)]
      omega
    have ip : nZ j + 1 = nZ (j + 1) := by rw [L1, nZ_add]
    have ix : 60 + nZ j = nZ (60 + j) := by rw [L60, nZ_add]
    have v00 : (0 : Int32) &&& 1 = nZ 0 := by decide
    have H1 : Sh (hsI h 68 j (hI h0 58 (60 + j))) := H
    obtain ⟨k, ek, Fk, gk⟩ := m219_22 (h0 := h0) d a1 m (j + 1) (hsI (hsI h 68 j (hI h0 58 (60 + j))) 70 j (nZ 0)) (by omega) H (fun x => by
      rw [hI_ne (by omega), hI_ne (by omega)]
      exact z x)
    have F1 : Fr (f2 68 70) h (hsI (hsI h 68 j (hI h0 58 (60 + j))) 70 j (nZ 0)) := Fr.si rfl (Fr.si rfl Fr.refl)
    refine ⟨k, ?_, F1.trans Fk, fun x hx => ?_⟩
    · rw [E219_22, if_pos lt1, g56_23 H, ob_some, g56_3 H, ob_some, ob_some, ix, A58 H (by omega), ob_some, z, ob_some, S68 H (by omega), ob_some, g56_25 H1, ob_some, ob_some, v00, S70 H1 (by omega), ob_some, ip]
      exact ek
    · obtain ⟨g1, g2⟩ := gk x hx
      refine ⟨fun hj => ?_, fun hj => ?_⟩
      · by_cases c : x = j
        · subst c
          obtain ⟨q1, q2⟩ := g2 (by omega)
          rw [q1, q2]
          refine ⟨?_, hI_at rfl⟩
          rw [hI_ne (by omega), hI_at rfl]
        · exact g1 (by omega)
      · obtain ⟨q1, q2⟩ := g2 (by omega)
        rw [q1, q2]
        refine ⟨?_, ?_⟩
        · rw [hI_ne (by omega), hI_ne (by omega)]
        · rw [hI_ne (by omega), hI_ne (by omega)]
theorem m219_103 {W : Nat → Nat} {o : Option (List CL)} (d : Nat) (a1 a2 : Int32) : ∀ m j h, j + m = W 408 → MX h W o → (∀ x, x < j → hI h 72 x = nZ (W (4 * x + 2))) → ∃ k, qbig (d + 2) 219 103 [sR (some 56), sI a1, sI a2, sI (nZ j)] [] h = qbig (d + 2) 219 131 [sR (some 56), sI a1, sI a2, sI (nZ 0)] [] k ∧ Fr (fO 72) h k ∧ ∀ x, x < W 408 → hI k 72 x = nZ (W (4 * x + 2))
  | 0, j, h, e, X, z => by
    have e' : j = W 408 := by omega
    have M := X.mm
    have n8 := M.n8
    have e232 := n232 M d
    have lt1 : ¬(nZ j < nZ (W 408)) := by
      rw [nZ_lt (by omega) (by omega)]
      omega
    refine ⟨h, ?_, Fr.refl, fun x hx => z x (by omega)⟩
    rw [E219_103, e232, jI, if_neg lt1]
    rfl
  | m + 1, j, h, e, X, z => by
    have H := X.1
    have M := X.mm
    have n8 := M.n8
    have e232 := n232 M d
    have lt1 : nZ j < nZ (W 408) := by
      rw [nZ_lt (by omega) (by omega)]
      omega
    have ip : nZ j + 1 = nZ (j + 1) := by rw [L1, nZ_add]
    have e227 : qcl (d + 1) 227 [qR (some 56), qI (nZ j), qI 2] h = some (some (qI (nZ (W (4 * j + 2)))), h) := by
      have e := m227 H d j 2 (by omega) (by decide)
      rw [M.at (by omega) (by omega)] at e
      exact e
    have F1 : Fr (fO 72) h (hsI h 72 j (nZ (W (4 * j + 2)))) := Fr.si rfl Fr.refl
    obtain ⟨k, ek, Fk, gk⟩ := m219_103 (o := o) d a1 a2 m (j + 1) (hsI h 72 j (nZ (W (4 * j + 2)))) (by omega) (X.fr F1 (fun j => rfl)) (fun x hx => by
      by_cases c : x = j
      · rw [c, hI_at rfl]
      · rw [hI_ne (by omega)]
        exact z x (by omega))
    refine ⟨k, ?_, F1.trans Fk, gk⟩
    rw [E219_103, e232, jI, if_pos lt1, g56_27 H, ob_some, e227, jI, ob_some, S72 H (by omega), ob_some, ip]
    exact ek

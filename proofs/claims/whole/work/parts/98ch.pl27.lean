/-! judge -/
def sN (f : Nat → Nat) : Nat → Nat
  | 0 => 0
  | n + 1 => sN f n + f n
theorem sN_congr {f g : Nat → Nat} : ∀ n, (∀ j, j < n → f j = g j) → sN f n = sN g n
  | 0, _ => rfl
  | n + 1, e => by
    unfold sN
    rw [sN_congr n (fun j hj => e j (by omega)), e n (by omega)]
theorem sN_tail {f : Nat → Nat} {n : Nat} : ∀ m, (∀ j, n ≤ j → j < n + m → f j = 0) → sN f (n + m) = sN f n
  | 0, _ => rfl
  | m + 1, e => by
    show sN f (n + m) + f (n + m) = _
    rw [sN_tail m (fun j h1 h2 => e j h1 (by omega)), e (n + m) (by omega) (by omega)]
    rfl
theorem sN_0 {f : Nat → Nat} : ∀ n, (∀ j, j < n → f j = 0) → sN f n = 0
  | 0, _ => rfl
  | n + 1, e => by
    unfold sN
    rw [sN_0 n (fun j hj => e j (by omega)), e n (by omega)]
theorem sN_5 {g : Nat → Nat} : ∀ n, sN g (5 * n) = sN (fun p => sN (fun a => g (5 * p + a)) 5) n
  | 0 => rfl
  | n + 1 => by
    show sN g (5 * n) + g (5 * n) + g (5 * n + 1) + g (5 * n + 2) + g (5 * n + 3) + g (5 * n + 4) = sN (fun p => sN (fun a => g (5 * p + a)) 5) n + (0 + g (5 * n) + g (5 * n + 1) + g (5 * n + 2) + g (5 * n + 3) + g (5 * n + 4))
    rw [sN_5 n]
    omega
/-- out of all people and arts -/
def oX (W : Nat → Nat) (j : Nat) : Prop := ∀ l a, l < W 408 → a < W 409 → j ≠ 5 * l + a
theorem pHs_o {W : Nat → Nat} {o : Option (List CL)} {L Z0 : Nat → Nat} {i tk j : Nat} {s : PlS} (O : oX W j) (ha : W (102 + 5 * i) < W 409) : ∀ k, k ≤ W 408 → (pHs W o L Z0 i tk s k).2.1 j = s.2.1 j
  | 0, _ => rfl
  | k + 1, hk => by
    have ih := pHs_o (o := o) (L := L) (Z0 := Z0) (tk := tk) (s := s) O ha k (by omega)
    show (pH W o L Z0 i tk k (pHs W o L Z0 i tk s k)).2.1 j = _
    unfold pH
    split
    · split
      · show up _ _ _ j = _
        rw [up_ne (O k _ (by omega) ha)]
        exact ih
      · exact ih
    · exact ih
theorem pD_o {W : Nat → Nat} {o : Option (List CL)} {L Z0 : Nat → Nat} {y j : Nat} {s : PlS} (w : WI W) (O : oX W j) : ∀ k, k ≤ W 410 → (pD W o L Z0 y s k).2.1 j = s.2.1 j
  | 0, _ => rfl
  | k + 1, hk => by
    have ih := pD_o (o := o) (L := L) (Z0 := Z0) (y := y) (s := s) w O k (by omega)
    have wk := (w.2.2.2.2.1 k (by omega)).2
    unfold pD
    split
    · unfold pS1
      split
      · unfold pG
        rw [pHs_o O wk (W 408) (Nat.le_refl _)]
        exact ih
      · exact ih
    · exact ih
theorem pY_o {W : Nat → Nat} {o : Option (List CL)} {j : Nat} (w : WI W) (O : oX W j) : ∀ y, (pY W o y).2 j = 0
  | 0 => rfl
  | y + 1 => by
    show (pD W o (pY W o y).1 (pY W o y).2 y ((pY W o y).1, (pY W o y).2, fun _ => 0) (W 410)).2.1 j = 0
    rw [pD_o w O _ (Nat.le_refl _)]
    exact pY_o w O y
/-- wrongs, all of them -/
theorem wr_eq {W : Nat → Nat} {o : Option (List CL)} (w : WI W) (n8 : W 408 ≤ 8) (n5 : W 409 ≤ 5) (y : Nat) : sN (pY W o y).2 40 = sN (fun p => sN (fun a => (pY W o y).2 (5 * p + a)) (W 409)) (W 408) := by
  have o1 : ∀ p a, p < 8 → a < 5 → (W 408 ≤ p ∨ W 409 ≤ a) → (pY W o y).2 (5 * p + a) = 0 := fun p a hp ha z => pY_o w (fun l b hl hb e => by omega) y
  rw [show (40 : Nat) = 5 * 8 by decide, sN_5]
  have e8 : (8 : Nat) = W 408 + (8 - W 408) := by omega
  rw [e8, sN_tail]
  · apply sN_congr
    intro p hp
    have e5 : (5 : Nat) = W 409 + (5 - W 409) := by omega
    show sN (fun a => (pY W o y).2 (5 * p + a)) 5 = _
    rw [show sN (fun a => (pY W o y).2 (5 * p + a)) 5 = sN (fun a => (pY W o y).2 (5 * p + a)) (W 409 + (5 - W 409)) by rw [← e5]]
    rw [sN_tail]
    intro j h1 h2
    exact o1 p j (by omega) (by omega) (Or.inr h1)
  · intro p h1 h2
    apply sN_0
    intro a ha
    exact o1 p a (by omega) ha (Or.inl h1)
theorem m209_32 {h : QH} {W : Nat → Nat} (M : MM h W) (d p : Nat) (Z0 : Nat → Nat) (a1 : Int32) (hp : p < 8) (Z : mZ h Z0) (B : Nat) : ∀ m a, a + m = W 409 → qbig (d + 2) 209 32 [sR (some 56), sI a1, sI (nZ (B + sN (fun x => Z0 (5 * p + x)) a)), sI (nZ p), sI (nZ a)] [] h = qbig (d + 2) 209 21 [sR (some 56), sI a1, sI (nZ (B + sN (fun x => Z0 (5 * p + x)) (W 409))), sI (nZ (p + 1)), none] [] h
  | 0, a, e => by
    have e' : a = W 409 := by omega
    have n5 := M.n5
    have e169 := n169 M d
    have lt1 : ¬(nZ a < nZ (W 409)) := by
      rw [nZ_lt (by omega) (by omega)]
      omega
    have ip : nZ p + 1 = nZ (p + 1) := by rw [L1, nZ_add]
    rw [E209_32, e169, jI, if_neg lt1, ip, e']
  | m + 1, a, e => by
    have H := M.1
    have n5 := M.n5
    have e169 := n169 M d
    have lt1 : nZ a < nZ (W 409) := by
      rw [nZ_lt (by omega) (by omega)]
      omega
    have ip : nZ a + 1 = nZ (a + 1) := by rw [L1, nZ_add]
    have ix : (5 : Int32) * nZ p + nZ a = nZ (5 * p + a) := by rw [L5, nZ_mul, nZ_add]
    have ih := m209_32 M d p Z0 a1 hp Z B m (a + 1) (by omega)
    obtain ⟨x5, b5⟩ := Z p a hp (by omega)
    have z00 : nZ 0 = (0 : Int32) := rfl
    have z10 : ¬(nZ 1 = (0 : Int32)) := by decide
    have es : sN (fun x => Z0 (5 * p + x)) (a + 1) = sN (fun x => Z0 (5 * p + x)) a + Z0 (5 * p + a) := rfl
    rw [es] at ih
    have : Z0 (5 * p + a) = 0 ∨ Z0 (5 * p + a) = 1 := by omega
    rcases this with c | c
    · rw [c] at x5 ih
      rw [E209_32, e169, jI, if_pos lt1, g56_25 H, ob_some, ob_some, ix, A70 H (by omega), ob_some, x5, if_pos z00, ip]
      rw [L0, nZ_add, Nat.add_assoc]
      exact ih
    · rw [c] at x5 ih
      rw [E209_32, e169, jI, if_pos lt1, g56_25 H, ob_some, ob_some, ix, A70 H (by omega), ob_some, x5, if_neg z10, ip]
      rw [L1, nZ_add, Nat.add_assoc]
      exact ih
theorem m209_21 {h : QH} {W : Nat → Nat} (M : MM h W) (d : Nat) (Z0 : Nat → Nat) (a1 : Int32) (Z : mZ h Z0) : ∀ m p, p + m = W 408 → qbig (d + 2) 209 21 [sR (some 56), sI a1, sI (nZ (sN (fun p => sN (fun a => Z0 (5 * p + a)) (W 409)) p)), sI (nZ p), none] [] h = qbig (d + 2) 209 21 [sR (some 56), sI a1, sI (nZ (sN (fun p => sN (fun a => Z0 (5 * p + a)) (W 409)) (W 408))), sI (nZ (W 408)), none] [] h
  | 0, p, e => by
    have e' : p = W 408 := by omega
    rw [e']
  | m + 1, p, e => by
    have n8 := M.n8
    have e232 := n232 M d
    have lt1 : nZ p < nZ (W 408) := by
      rw [nZ_lt (by omega) (by omega)]
      omega
    have ih := m209_21 M d Z0 a1 Z m (p + 1) (by omega)
    have e32 := m209_32 M d p Z0 a1 (by omega) Z (sN (fun p => sN (fun a => Z0 (5 * p + a)) (W 409)) p) (W 409) 0 (by omega)
    rw [← ih]
    rw [E209_21, e232, jI, if_pos lt1]
    exact e32
theorem c94_4 {h : QH} (H : Sh h) (d n : Nat) (f : Nat → Nat) (hn : n ≤ 60) (e : ∀ j, j < n → hI h 44 j = nZ (f j) ∧ f j ≤ 9) : ∀ m i, i + m = n → qbig (d + 1) 94 4 [sR (some 40), sI (nZ n), sI (nZ (cN (fun j => decide (f j ≠ 0)) i)), sI (nZ i)] [] h = some (some (qI (nZ (cN (fun j => decide (f j ≠ 0)) n))), h)
  | 0, i, ei => by
    have e' : i = n := by omega
    have lt1 : ¬(nZ i < nZ n) := by
      rw [nZ_lt (by omega) (by omega)]
      omega
    rw [E94_4, if_neg lt1, e']
  | m + 1, i, ei => by
    have lt1 : nZ i < nZ n := by
      rw [nZ_lt (by omega) (by omega)]
      omega
    have ip : nZ i + 1 = nZ (i + 1) := by rw [L1, nZ_add]
    have ih := c94_4 H d n f hn e m (i + 1) (by omega)
    obtain ⟨x, b⟩ := e i (by omega)
    have es : cN (fun j => decide (f j ≠ 0)) (i + 1) = cN (fun j => decide (f j ≠ 0)) i + (if decide (f i ≠ 0) = true then 1 else 0) := rfl
    rw [es] at ih
    by_cases c : f i = 0
    · have z : nZ (f i) = (0 : Int32) := by
        rw [c]
        rfl
      rw [if_neg (by rw [c]; decide)] at ih
      rw [E94_4, if_pos lt1, g40_3 H, ob_some, ob_some, A44 H (by omega), ob_some, x, if_pos z, ip]
      exact ih
    · have z : ¬(nZ (f i) = (0 : Int32)) := by
        rw [L0, nZ_eq (by omega) (by decide)]
        exact c
      rw [if_pos (decide_eq_true c)] at ih
      rw [E94_4, if_pos lt1, g40_3 H, ob_some, ob_some, A44 H (by omega), ob_some, x, if_neg z, ip]
      rw [show nZ (cN (fun j => decide (f j ≠ 0)) i) + 1 = nZ (cN (fun j => decide (f j ≠ 0)) i + 1) by rw [L1, nZ_add]]
      exact ih
theorem c93_2 {h : QH} (H : Sh h) (d n : Nat) (f : Nat → Nat) (hn : n ≤ 60) (e : ∀ j, j < n → hI h 44 j = nZ (f j) ∧ f j ≤ 9) : ∀ m i, i + m = n → (∀ j, j < i → f j = 0) → ∃ v, qbig (d + 1) 93 2 [sR (some 40), sI (nZ n), sI (nZ i)] [] h = some (some (qI v), h) ∧ fs1 (fun j => decide (f j ≠ 0)) n v
  | 0, i, ei, z => by
    have e' : i = n := by omega
    have lt1 : ¬(nZ i < nZ n) := by
      rw [nZ_lt (by omega) (by omega)]
      omega
    refine ⟨-1, ?_, Or.inl ⟨rfl, fun j hj => decide_eq_false (fun q => q (z j (by omega)))⟩⟩
    rw [E93_2, if_neg lt1]
  | m + 1, i, ei, z => by
    have lt1 : nZ i < nZ n := by
      rw [nZ_lt (by omega) (by omega)]
      omega
    have ip : nZ i + 1 = nZ (i + 1) := by rw [L1, nZ_add]
    obtain ⟨x, b⟩ := e i (by omega)
    by_cases c : f i = 0
    · have z0 : nZ (f i) = (0 : Int32) := by
        rw [c]
        rfl
      obtain ⟨v, ev, fv⟩ := c93_2 H d n f hn e m (i + 1) (by omega) (fun j hj => by
        by_cases cj : j = i
        · rw [cj]
          exact c
        · exact z j (by omega))
      refine ⟨v, ?_, fv⟩
      rw [E93_2, if_pos lt1, g40_3 H, ob_some, ob_some, A44 H (by omega), ob_some, x, if_pos z0, ip]
      exact ev
    · have z0 : ¬(nZ (f i) = (0 : Int32)) := by
        rw [L0, nZ_eq (by omega) (by decide)]
        exact c
      refine ⟨nZ i, ?_, Or.inr ⟨i, by omega, rfl, decide_eq_true c, fun j hj => decide_eq_false (fun q => q (z j hj))⟩⟩
      rw [E93_2, if_pos lt1, g40_3 H, ob_some, ob_some, A44 H (by omega), ob_some, x, if_neg z0]
theorem c91_4 {h : QH} (H : Sh h) (d : Nat) (f : Nat → Nat) (e : ∀ j, j < 240 → hI h 43 j = nZ (f j)) : ∀ m i, i + m = 240 → qbig (d + 1) 91 4 [sR (some 40), sI (nZ (sN f i)), sI (nZ i)] [] h = some (some (qI (nZ (sN f 240))), h)
  | 0, i, ei => by
    have e' : i = 240 := by omega
    subst e'
    rw [E91_4, g40_2 H, ob_some, ob_some, l43 H, ob_some, if_neg (by decide)]
  | m + 1, i, ei => by
    have lt1 : nZ i < 240 := by
      rw [show (240 : Int32) = nZ 240 from rfl, nZ_lt (by omega) (by decide)]
      omega
    have ip : nZ i + 1 = nZ (i + 1) := by rw [L1, nZ_add]
    have ih := c91_4 H d f e m (i + 1) (by omega)
    rw [E91_4, g40_2 H, ob_some, ob_some, l43 H, ob_some, if_pos lt1, ob_some, ob_some, A43 H (by omega), ob_some, e i (by omega), ip, nZ_add]
    exact ih
theorem c104_6 {h : QH} (H : Sh h) (d : Nat) (f : Nat → Nat) (e : ∀ j, j < 40 → hI h 42 (1200 + j) = nZ (f j)) : ∀ m i, i + m = 40 → qbig (d + 1) 104 6 [sR (some 40), sI (nZ (sN f i)), sI (nZ (1200 + i))] [] h = some (some (qI (nZ (sN f 40))), h)
  | 0, i, ei => by
    have e' : i = 40 := by omega
    subst e'
    rw [E104_6, g40_1 H, ob_some, ob_some, l42 H, ob_some, if_neg (by decide)]
  | m + 1, i, ei => by
    have lt1 : nZ (1200 + i) < 1240 := by
      rw [show (1240 : Int32) = nZ 1240 from rfl, nZ_lt (by omega) (by decide)]
      omega
    have ip : nZ (1200 + i) + 1 = nZ (1200 + (i + 1)) := by
      rw [L1, nZ_add]
      rfl
    have ih := c104_6 H d f e m (i + 1) (by omega)
    rw [E104_6, g40_1 H, ob_some, ob_some, l42 H, ob_some, if_pos lt1, ob_some, ob_some, A42 H (by omega), ob_some, e i (by omega), ip, nZ_add]
    exact ih
theorem hB_s {W : Nat → Nat} {o : Option (List CL)} : ∀ y, sN (fun j => (pK W o (j / 8) (W 410)).2.2 (j % 8)) (8 * y) = hB W o y
  | 0 => rfl
  | y + 1 => by
    show sN (fun j => (pK W o (j / 8) (W 410)).2.2 (j % 8)) (8 * y) + (pK W o ((8 * y) / 8) (W 410)).2.2 ((8 * y) % 8) + (pK W o ((8 * y + 1) / 8) (W 410)).2.2 ((8 * y + 1) % 8) + (pK W o ((8 * y + 2) / 8) (W 410)).2.2 ((8 * y + 2) % 8) + (pK W o ((8 * y + 3) / 8) (W 410)).2.2 ((8 * y + 3) % 8) + (pK W o ((8 * y + 4) / 8) (W 410)).2.2 ((8 * y + 4) % 8) + (pK W o ((8 * y + 5) / 8) (W 410)).2.2 ((8 * y + 5) % 8) + (pK W o ((8 * y + 6) / 8) (W 410)).2.2 ((8 * y + 6) % 8) + (pK W o ((8 * y + 7) / 8) (W 410)).2.2 ((8 * y + 7) % 8) = hB W o y + sU (pK W o y (W 410)).2.2
    rw [hB_s y]
    rw [show (8 * y) / 8 = y by omega, show (8 * y + 1) / 8 = y by omega, show (8 * y + 2) / 8 = y by omega, show (8 * y + 3) / 8 = y by omega, show (8 * y + 4) / 8 = y by omega, show (8 * y + 5) / 8 = y by omega, show (8 * y + 6) / 8 = y by omega, show (8 * y + 7) / 8 = y by omega]
    rw [show (8 * y) % 8 = 0 by omega, show (8 * y + 1) % 8 = 1 by omega, show (8 * y + 2) % 8 = 2 by omega, show (8 * y + 3) % 8 = 3 by omega, show (8 * y + 4) % 8 = 4 by omega, show (8 * y + 5) % 8 = 5 by omega, show (8 * y + 6) % 8 = 6 by omega, show (8 * y + 7) % 8 = 7 by omega]
    unfold sU
    omega

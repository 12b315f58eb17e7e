/-! new cells, one by one: a list of what was done, the newest first -/
abbrev BO : Type := (Nat × Nat) ⊕ ((Nat × Nat × Int32) ⊕ (Nat × Nat × Nat))
abbrev uuN (t n : Nat) : BO := Sum.inl (t, n)
abbrev uuI (a j : Nat) (x : Int32) : BO := Sum.inr (Sum.inl (a, j, x))
abbrev uuP (a j b : Nat) : BO := Sum.inr (Sum.inr (a, j, b))
def bld (L : Nat) (xs : Nat → Int32) : List BO → QH
  | [] => q0 L xs
  | Sum.inl (t, n) :: B => hPush (bld L xs B) t n
  | Sum.inr (Sum.inl (a, j, x)) :: B => hsI (bld L xs B) a j x
  | Sum.inr (Sum.inr (a, j, b)) :: B => hsR (bld L xs B) a j (some b)
def nn : List BO → Nat
  | [] => 0
  | Sum.inl (_, _) :: B => nn B + 1
  | Sum.inr (Sum.inl (_, _, _)) :: B => nn B
  | Sum.inr (Sum.inr (_, _, _)) :: B => nn B
def nsl : List BO → Nat
  | [] => 0
  | Sum.inl (_, n) :: B => nsl B + n
  | Sum.inr (Sum.inl (_, _, _)) :: B => nsl B
  | Sum.inr (Sum.inr (_, _, _)) :: B => nsl B
def bsh : List BO → Nat → Nat → Nat × Nat
  | [], _, a => qroS 0 a
  | Sum.inl (t, n) :: B, c, a => bif Nat.beq a (9 + c) then (t, n) else bsh B (c - 1) a
  | Sum.inr (Sum.inl (_, _, _)) :: B, c, a => bsh B c a
  | Sum.inr (Sum.inr (_, _, _)) :: B, c, a => bsh B c a
def rdI : List BO → Nat → Nat → Nat → Int32
  | [], _, a, j => qroI (fun _ => 0) a j
  | Sum.inl (_, _) :: B, c, a, j => bif Nat.beq a (9 + c) then 0 else rdI B (c - 1) a j
  | Sum.inr (Sum.inl (b, i, x)) :: B, c, a, j => bif Nat.beq a b && Nat.beq j i then x else rdI B c a j
  | Sum.inr (Sum.inr (_, _, _)) :: B, c, a, j => rdI B c a j
def rdR : List BO → Nat → Nat → Nat → Option Nat
  | [], _, a, j => qroR a j
  | Sum.inl (_, _) :: B, c, a, j => bif Nat.beq a (9 + c) then none else rdR B (c - 1) a j
  | Sum.inr (Sum.inl (_, _, _)) :: B, c, a, j => rdR B c a j
  | Sum.inr (Sum.inr (b, i, v)) :: B, c, a, j => bif Nat.beq a b && Nat.beq j i then some v else rdR B c a j
/-- the script's cell is never touched -/
def n9 : List BO → Bool
  | [] => true
  | Sum.inl (_, _) :: B => n9 B
  | Sum.inr (Sum.inl (a, _, _)) :: B => !(Nat.beq a 9) && n9 B
  | Sum.inr (Sum.inr (_, _, _)) :: B => n9 B
theorem b_n {L : Nat} {xs : Nat → Int32} : ∀ B, hN (bld L xs B) = 10 + nn B
  | [] => rfl
  | Sum.inl (t, n) :: B => by
    show hN (bld L xs B) + 1 = 10 + (nn B + 1)
    rw [b_n B]
    rfl
  | Sum.inr (Sum.inl (a, j, x)) :: B => b_n B
  | Sum.inr (Sum.inr (a, j, x)) :: B => b_n B
theorem b_s {L : Nat} {xs : Nat → Int32} : ∀ B, hS (bld L xs B) = nsl B
  | [] => rfl
  | Sum.inl (t, n) :: B => by
    show hS (bld L xs B) + n = nsl B + n
    rw [b_s B]
  | Sum.inr (Sum.inl (a, j, x)) :: B => b_s B
  | Sum.inr (Sum.inr (a, j, x)) :: B => b_s B
theorem bq {a b : Nat} (h : a = b) : Nat.beq a b = true := by
  subst h
  exact Nat.beq_refl a
theorem bqn {a b : Nat} (h : a ≠ b) : Nat.beq a b = false := by
  cases e : Nat.beq a b
  · rfl
  · exact absurd (Nat.eq_of_beq_eq_true e) h
theorem b_sh {L : Nat} {xs : Nat → Int32} {a : Nat} (ha : a ≠ 9) : ∀ B, a < 10 + nn B → (bld L xs B).2.2.1 a = bsh B (nn B) a
  | [], hb => by
    show qroS L a = qroS 0 a
    have hb' : a < 10 := hb
    unfold qroS
    by_cases c5 : a < 5
    · rw [if_pos c5, if_pos c5]
    · rw [if_neg c5, if_neg c5]
      by_cases c7 : a < 7
      · rw [if_pos c7, if_pos c7]
      · rw [if_neg c7, if_neg c7]
        by_cases c8 : a = 7
        · rw [if_pos c8, if_pos c8]
        · rw [if_neg c8, if_neg c8, if_pos (by omega), if_pos (by omega)]
  | Sum.inl (t, n) :: B, hb => by
    have e := b_n (L := L) (xs := xs) B
    have e' : (bld L xs B).1 = 10 + nn B := e
    have hb' : a < 10 + (nn B + 1) := hb
    show (if a = (bld L xs B).1 then (t, n) else (bld L xs B).2.2.1 a) = bif Nat.beq a (9 + (nn B + 1)) then (t, n) else bsh B (nn B + 1 - 1) a
    by_cases c : a = (bld L xs B).1
    · rw [if_pos c, bq (by omega)]
      rfl
    · rw [if_neg c, bqn (by omega), b_sh ha B (by omega)]
      rfl
  | Sum.inr (Sum.inl (a', j, x)) :: B, hb => b_sh ha B hb
  | Sum.inr (Sum.inr (a', j, x)) :: B, hb => b_sh ha B hb
theorem b_I {L : Nat} {xs : Nat → Int32} {a : Nat} (ha : a ≠ 9) (j : Nat) : ∀ B, a < 10 + nn B → hI (bld L xs B) a j = rdI B (nn B) a j
  | [], hb => qroI_lo (k := a) (by have : a < 10 := hb; omega) xs j
  | Sum.inl (t, n) :: B, hb => by
    have e := b_n (L := L) (xs := xs) B
    have e' : (bld L xs B).1 = 10 + nn B := e
    have hb' : a < 10 + (nn B + 1) := hb
    show (if a = (bld L xs B).1 then 0 else hI (bld L xs B) a j) = bif Nat.beq a (9 + (nn B + 1)) then 0 else rdI B (nn B + 1 - 1) a j
    by_cases c : a = (bld L xs B).1
    · rw [if_pos c, bq (by omega)]
      rfl
    · rw [if_neg c, bqn (by omega), b_I ha j B (by omega)]
      rfl
  | Sum.inr (Sum.inl (b, i, x)) :: B, hb => by
    show hI (hsI (bld L xs B) b i x) a j = bif Nat.beq a b && Nat.beq j i then x else rdI B (nn B) a j
    rw [hI_si]
    by_cases c : a = b ∧ j = i
    · rw [if_pos c, bq c.1, bq c.2]
      rfl
    · rw [if_neg c, b_I ha j B hb]
      by_cases c1 : a = b
      · rw [bqn (a := j) (b := i) (fun z => c ⟨c1, z⟩), Bool.and_false]
        rfl
      · rw [bqn c1, Bool.false_and]
        rfl
  | Sum.inr (Sum.inr (b, i, v)) :: B, hb => b_I ha j B hb
theorem b_R {L : Nat} {xs : Nat → Int32} {a : Nat} (j : Nat) : ∀ B, a < 10 + nn B → hR (bld L xs B) a j = rdR B (nn B) a j
  | [], _ => rfl
  | Sum.inl (t, n) :: B, hb => by
    have e := b_n (L := L) (xs := xs) B
    have e' : (bld L xs B).1 = 10 + nn B := e
    have hb' : a < 10 + (nn B + 1) := hb
    show (if a = (bld L xs B).1 then none else hR (bld L xs B) a j) = bif Nat.beq a (9 + (nn B + 1)) then none else rdR B (nn B + 1 - 1) a j
    by_cases c : a = (bld L xs B).1
    · rw [if_pos c, bq (by omega)]
      rfl
    · rw [if_neg c, bqn (by omega), b_R j B (by omega)]
      rfl
  | Sum.inr (Sum.inl (b, i, x)) :: B, hb => b_R j B hb
  | Sum.inr (Sum.inr (b, i, v)) :: B, hb => by
    show hR (hsR (bld L xs B) b i (some v)) a j = bif Nat.beq a b && Nat.beq j i then some v else rdR B (nn B) a j
    rw [hR_sR]
    by_cases c : a = b ∧ j = i
    · rw [if_pos c, bq c.1, bq c.2]
      rfl
    · rw [if_neg c, b_R j B hb]
      by_cases c1 : a = b
      · rw [bqn (a := j) (b := i) (fun z => c ⟨c1, z⟩), Bool.and_false]
        rfl
      · rw [bqn c1, Bool.false_and]
        rfl
theorem b_9s {L : Nat} {xs : Nat → Int32} : ∀ B, (bld L xs B).2.2.1 9 = (0, L)
  | [] => rfl
  | Sum.inl (t, n) :: B => by
    have e := b_n (L := L) (xs := xs) B
    have e' : (bld L xs B).1 = 10 + nn B := e
    show (if 9 = (bld L xs B).1 then (t, n) else (bld L xs B).2.2.1 9) = (0, L)
    rw [if_neg (by omega), b_9s B]
  | Sum.inr (Sum.inl (a', j, x)) :: B => b_9s B
  | Sum.inr (Sum.inr (a', j, x)) :: B => b_9s B
theorem b_9i {L : Nat} {xs : Nat → Int32} (j : Nat) : ∀ B, n9 B = true → hI (bld L xs B) 9 j = xs j
  | [], _ => rfl
  | Sum.inl (t, n) :: B, hb => by
    have e := b_n (L := L) (xs := xs) B
    have e' : (bld L xs B).1 = 10 + nn B := e
    show (if 9 = (bld L xs B).1 then 0 else hI (bld L xs B) 9 j) = xs j
    rw [if_neg (by omega), b_9i j B hb]
  | Sum.inr (Sum.inl (b, i, x)) :: B, hb => by
    show hI (hsI (bld L xs B) b i x) 9 j = xs j
    have hb' : (!(Nat.beq b 9) && n9 B) = true := hb
    rw [Bool.and_eq_true] at hb'
    rw [hI_si, if_neg, b_9i j B hb'.2]
    intro z
    rw [← z.1] at hb'
    exact absurd hb'.1 (by decide)
  | Sum.inr (Sum.inr (b, i, v)) :: B, hb => b_9i j B hb
/-! the steps, tried on the list -/
def tob (B : List BO) (a t : Nat) : Bool := !(Nat.beq a 9) && (Nat.ble (a + 1) (10 + nn B) && Nat.beq (bsh B (nn B) a).1 t)
def tpp (B : List BO) (a t k : Nat) : Bool := Nat.ble 10 a && (tob B a t && Nat.ble (k + 1) (bsh B (nn B) a).2)
theorem tob_ {L : Nat} {xs : Nat → Int32} {B : List BO} {a t : Nat} (e : tob B a t = true) : a < hN (bld L xs B) ∧ hT (bld L xs B) a = t ∧ hL (bld L xs B) a = (bsh B (nn B) a).2 := by
  unfold tob at e
  rw [Bool.and_eq_true, Bool.and_eq_true] at e
  have h9 : a ≠ 9 := by
    intro z
    rw [z] at e
    exact absurd e.1 (by decide)
  have h1 := Nat.le_of_ble_eq_true e.2.1
  have h2 := Nat.eq_of_beq_eq_true e.2.2
  have s := b_sh (L := L) (xs := xs) h9 B (by omega)
  refine ⟨by rw [b_n]; omega, ?_, ?_⟩
  · show ((bld L xs B).2.2.1 a).1 = t
    rw [s, h2]
  · show ((bld L xs B).2.2.1 a).2 = _
    rw [s]
theorem tpp_ {L : Nat} {xs : Nat → Int32} {B : List BO} {a t k : Nat} (e : tpp B a t k = true) : (10 ≤ a ∧ a < hN (bld L xs B)) ∧ hT (bld L xs B) a = t ∧ k < hL (bld L xs B) a := by
  unfold tpp at e
  rw [Bool.and_eq_true, Bool.and_eq_true] at e
  have h := tob_ (L := L) (xs := xs) e.2.1
  refine ⟨⟨Nat.le_of_ble_eq_true e.1, h.1⟩, h.2.1, ?_⟩
  rw [h.2.2]
  exact Nat.le_of_ble_eq_true e.2.2
theorem x_ck {L : Nat} {xs : Nat → Int32} {B : List BO} (c a : Nat) (e : tob B a (16 + c) = true) : qck c a (bld L xs B) = some () := if_pos ⟨(tob_ e).1, Or.inr (tob_ e).2.1⟩
theorem x_n {L : Nat} {xs : Nat → Int32} {B : List BO} {m : Nat} (e : Nat.beq (10 + nn B) m = true) : hN (bld L xs B) = m := (b_n B).trans (Nat.eq_of_beq_eq_true e)
theorem x_no {L : Nat} {xs : Nat → Int32} {B B' : List BO} {c n : Nat} (e : B' = uuN (16 + c) n :: B) : qno c n (bld L xs B) = bld L xs B' := by
  rw [e]
  rfl
theorem x_na {L : Nat} {xs : Nat → Int32} {B B' : List BO} {t n : Nat} {x : Int32} (e : B' = uuN t n :: B) (e1 : (decide (0 ≤ x) && (Nat.beq x.toNatClampNeg n && Nat.ble n 100000)) = true) : qna t x (bld L xs B) = some (bld L xs B') := by
  rw [Bool.and_eq_true, Bool.and_eq_true] at e1
  have h := Nat.eq_of_beq_eq_true e1.2.1
  have h2 := Nat.le_of_ble_eq_true e1.2.2
  unfold qna
  rw [h, if_pos ⟨of_decide_eq_true e1.1, h2⟩, e]
  rfl
theorem x_pi {L : Nat} {xs : Nat → Int32} {B B' : List BO} {c k a : Nat} {v : Int32} (e : B' = uuI a k v :: B) (e1 : tpp B a (16 + c) k = true) : qpi c k a v (bld L xs B) = some (bld L xs B') := by
  unfold qpi
  rw [if_pos (tpp_ e1), e]
  rfl
theorem x_pz {L : Nat} {xs : Nat → Int32} {B B' : List BO} {c k a : Nat} (e : B' = uuI a k 0 :: B) (e1 : tpp B a (16 + c) k = true) : qpz c k a 0 (bld L xs B) = some (bld L xs B') := by
  have h := tpp_ (L := L) (xs := xs) e1
  unfold qpz
  rw [if_pos ⟨h.1, h.2.1, h.2.2, Or.inl rfl⟩, e]
  rfl
theorem x_pr {L : Nat} {xs : Nat → Int32} {B B' : List BO} {c k a b : Nat} (e : B' = uuP a k b :: B) (e1 : tpp B a (16 + c) k = true) : qpr c k a (some b) (bld L xs B) = some (bld L xs B') := by
  unfold qpr
  rw [if_pos (tpp_ e1), e]
  rfl
theorem x_si {L : Nat} {xs : Nat → Int32} {B B' : List BO} {t a j : Nat} {i v : Int32} (e : B' = uuI a j v :: B) (e1 : (decide (0 ≤ i) && (Nat.beq i.toNatClampNeg j && tpp B a t j)) = true) : qsi t a i v (bld L xs B) = some (bld L xs B') := by
  rw [Bool.and_eq_true, Bool.and_eq_true] at e1
  have h := Nat.eq_of_beq_eq_true e1.2.1
  have h2 := tpp_ (L := L) (xs := xs) e1.2.2
  unfold qsi
  rw [h, if_pos ⟨h2.1, h2.2.1, of_decide_eq_true e1.1, h2.2.2⟩, e]
  rfl
theorem x_gi {L : Nat} {xs : Nat → Int32} {B : List BO} {c k a : Nat} {x : Int32} (e1 : (tob B a (16 + c) && (Nat.ble (k + 1) (bsh B (nn B) a).2 && decide (rdI B (nn B) a k = x))) = true) : qgi c k a (bld L xs B) = some x := by
  rw [Bool.and_eq_true, Bool.and_eq_true] at e1
  have h := tob_ (L := L) (xs := xs) e1.1
  have h9 : a ≠ 9 := by
    intro z
    have := e1.1
    rw [z] at this
    unfold tob at this
    exact absurd (Bool.and_eq_true _ _ ▸ this).1 (by decide)
  have hn : a < 10 + nn B := by
    rw [← b_n (L := L) (xs := xs) B]
    exact h.1
  unfold qgi
  rw [if_pos ⟨h.1, h.2.1, by rw [h.2.2]; exact Nat.le_of_ble_eq_true e1.2.1⟩, b_I h9 k B hn, of_decide_eq_true e1.2.2]
theorem x_gr {L : Nat} {xs : Nat → Int32} {B : List BO} {c k a : Nat} {x : Option Nat} (e1 : (tob B a (16 + c) && (Nat.ble (k + 1) (bsh B (nn B) a).2 && decide (rdR B (nn B) a k = x))) = true) : qgr c k a (bld L xs B) = some x := by
  rw [Bool.and_eq_true, Bool.and_eq_true] at e1
  have h := tob_ (L := L) (xs := xs) e1.1
  have hn : a < 10 + nn B := by
    rw [← b_n (L := L) (xs := xs) B]
    exact h.1
  unfold qgr
  rw [if_pos ⟨h.1, h.2.1, by rw [h.2.2]; exact Nat.le_of_ble_eq_true e1.2.1⟩, b_R k B hn, of_decide_eq_true e1.2.2]
/-! characters out of bytes -/
theorem nZ_p0 {a : Nat} (ha : a < 2147483648) : (0 : Int32) ≤ nZ a := by
  have e : (nZ 0 ≤ nZ a) = (0 ≤ a) := nZ_le (by decide) ha
  have : nZ 0 ≤ nZ a := by
    rw [e]
    omega
  exact this
def cv16 (x2 : Int32) : Int32 := ((Int32.toUInt32 ((Int32.toUInt32 (x2 &&& 255) % 65536).toInt32)).toUInt16.toUInt32.toInt32)
def cpy (p t : Nat) : Nat → Nat → List BO → List BO
  | 0, _, B => B
  | m + 1, i, B => cpy p t m (i + 1) (uuI t i (cv16 (rdI B (nn B) p i)) :: B)
theorem x_cpy {L : Nat} {xs : Nat → Int32} {p t n : Nat} (d : Nat) (hn : n < 1000) (hp : p < 9) : ∀ m i B, i + m = n → tob B p 1 = true → (bsh B (nn B) p).2 = n → tob B t 3 = true → (bsh B (nn B) t).2 = n → 10 ≤ t → qbig (d + 1) 5 3 [sR (some p), sI (nZ i), sR (some t), sI (nZ i), sI (nZ n), sI (nZ i)] [] (bld L xs B) = some (none, bld L xs (cpy p t m i B))
  | 0, i, B, hm, _, _, _, _, _ => by
    have e : i = n := by omega
    rw [E5_3, e, if_neg (by rw [nZ_lt (by omega) (by omega)]; omega)]
    rfl
  | m + 1, i, B, hm, h1, h2, h3, h4, h5 => by
    have a1 := tob_ (L := L) (xs := xs) h1
    have a3 := tob_ (L := L) (xs := xs) h3
    have hb : p < 10 + nn B := by omega
    have r1 : qai 1 p (nZ i) (bld L xs B) = some (rdI B (nn B) p i) := by
      unfold qai
      rw [nZ_nat (by omega), if_pos ⟨a1.1, a1.2.1, nZ_p0 (by omega), by rw [a1.2.2, h2]; omega⟩, b_I (by omega) i B hb]
    have r2 : ∀ v, qsi 3 t (nZ i) v (bld L xs B) = some (bld L xs (uuI t i v :: B)) := fun v => by
      unfold qsi
      rw [nZ_nat (by omega), if_pos ⟨⟨h5, a3.1⟩, a3.2.1, nZ_p0 (by omega), by rw [a3.2.2, h4]; omega⟩]
      rfl
    rw [E5_3, if_pos (by rw [nZ_lt (by omega) (by omega)]; omega), ob_some, r1, ob_some, ob_some, r2, ob_some, L1, nZ_add]
    exact x_cpy d hn hp m (i + 1) (uuI t i (cv16 (rdI B (nn B) p i)) :: B) (by omega) h1 h2 h3 h4 h5

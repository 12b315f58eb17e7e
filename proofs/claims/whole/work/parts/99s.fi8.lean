/-! what stands behind both constructors -/
def n10 : List BO → Bool
  | [] => true
  | Sum.inl (_, _) :: B => n10 B
  | Sum.inr (Sum.inl (a, _, _)) :: B => Nat.ble 10 a && n10 B
  | Sum.inr (Sum.inr (_, _, _)) :: B => n10 B
theorem b_lo {L : Nat} {xs : Nat → Int32} {a : Nat} (ha : a < 10) (j : Nat) : ∀ B, n10 B = true → hI (bld L xs B) a j = qroI xs a j
  | [], _ => rfl
  | Sum.inl (t, n) :: B, hb => by
    have e := b_n (L := L) (xs := xs) B
    have e' : (bld L xs B).1 = 10 + nn B := e
    show (if a = (bld L xs B).1 then 0 else hI (bld L xs B) a j) = qroI xs a j
    rw [if_neg (by omega), b_lo ha j B hb]
  | Sum.inr (Sum.inl (b, i, x)) :: B, hb => by
    show hI (hsI (bld L xs B) b i x) a j = qroI xs a j
    have hb' : (Nat.ble 10 b && n10 B) = true := hb
    rw [Bool.and_eq_true] at hb'
    have := Nat.le_of_ble_eq_true hb'.1
    rw [hI_si, if_neg (fun z => by omega), b_lo ha j B hb'.2]
  | Sum.inr (Sum.inr (b, i, v)) :: B, hb => b_lo ha j B hb
/-- nought but at one place -/
def zex : List BO → Nat → Nat → Bool
  | [], a, _ => Nat.ble 10 a
  | Sum.inl (_, _) :: B, a, i => zex B a i
  | Sum.inr (Sum.inl (b, k, x)) :: B, a, i => (!(Nat.beq a b) || (Nat.beq k i || decide (x = 0))) && zex B a i
  | Sum.inr (Sum.inr (_, _, _)) :: B, a, i => zex B a i
theorem qroI_hi {a : Nat} (ha : 10 ≤ a) (j : Nat) : qroI (fun _ => 0) a j = 0 := by
  unfold qroI
  rw [if_neg (by omega), if_neg (by omega), if_neg (by omega), if_neg (by omega), if_neg (by omega), if_neg (by omega), if_neg (by omega), if_neg (by omega)]
theorem zex_ {a i j : Nat} (hj : j ≠ i) : ∀ B c, zex B a i = true → rdI B c a j = 0
  | [], c, e => qroI_hi (Nat.le_of_ble_eq_true e) j
  | Sum.inl (t, n) :: B, c, e => by
    show (bif Nat.beq a (9 + c) then 0 else rdI B (c - 1) a j) = 0
    rw [zex_ hj B (c - 1) e]
    cases Nat.beq a (9 + c) <;> rfl
  | Sum.inr (Sum.inl (b, k, x)) :: B, c, e => by
    have e' : ((!(Nat.beq a b) || (Nat.beq k i || decide (x = 0))) && zex B a i) = true := e
    rw [Bool.and_eq_true] at e'
    show (bif Nat.beq a b && Nat.beq j k then x else rdI B c a j) = 0
    rw [zex_ hj B c e'.2]
    have q := e'.1
    by_cases c1 : a = b
    · by_cases c2 : j = k
      · rw [bq c1, bqn (a := k) (b := i) (by omega)] at q
        have z : decide (x = 0) = true := q
        rw [of_decide_eq_true z]
        cases (Nat.beq a b && Nat.beq j k) <;> rfl
      · rw [bqn c2, Bool.and_false]
        rfl
    · rw [bqn c1, Bool.false_and]
      rfl
  | Sum.inr (Sum.inr (b, k, v)) :: B, c, e => zex_ hj B c e
theorem fnn : nn B266 = 69 := by decide +kernel
theorem fI {L : Nat} {xs : Nat → Int32} {a j : Nat} {x : Int32} (e : (Nat.ble (a + 1) 79 && (!(Nat.beq a 9) && decide (rdI B266 69 a j = x))) = true) : hI (bld L xs B266) a j = x := by
  rw [Bool.and_eq_true, Bool.and_eq_true] at e
  have h1 := Nat.le_of_ble_eq_true e.1
  have h9 : a ≠ 9 := by
    intro z
    rw [z] at e
    exact absurd e.2.1 (by decide)
  rw [b_I h9 j B266 (by rw [fnn]; omega), fnn]
  exact of_decide_eq_true e.2.2
theorem f0 {L : Nat} {xs : Nat → Int32} {a : Nat} (i : Nat) (e : (Nat.ble 10 a && (Nat.ble (a + 1) 79 && zex B266 a i)) = true) {j : Nat} (hj : j ≠ i) : hI (bld L xs B266) a j = nZ 0 := by
  rw [Bool.and_eq_true, Bool.and_eq_true] at e
  have h1 := Nat.le_of_ble_eq_true e.1
  have h2 := Nat.le_of_ble_eq_true e.2.1
  rw [b_I (by omega) j B266 (by rw [fnn]; omega), fnn]
  exact zex_ hj B266 69 e.2.2
theorem gR {L : Nat} {xs : Nat → Int32} {a j : Nat} {x : Option Nat} (e : (Nat.ble (a + 1) 79 && decide (rdR B266 69 a j = x)) = true) : hR (bld L xs B266) a j = x := by
  rw [Bool.and_eq_true] at e
  have h1 := Nat.le_of_ble_eq_true e.1
  rw [b_R j B266 (by rw [fnn]; omega), fnn]
  exact of_decide_eq_true e.2
theorem fSh0 : ((List.range 79).all fun k => Nat.beq k 9 || decide (bsh B266 69 k = shT k)) = true := by decide +kernel
theorem fSh1 : (shR.all fun q => Nat.ble (q.1 + 1) 79 && decide (rdR B266 69 q.1 q.2.1 = some q.2.2)) = true := by decide +kernel
theorem fShh {L : Nat} {xs : Nat → Int32} : Sh (bld L xs B266) := by
  refine ⟨by rw [b_n, fnn]; decide, fun k hk h9 => ?_, fun q hq => ?_⟩
  · have h := List.all_eq_true.mp fSh0 k (List.mem_range.mpr hk)
    rw [bqn h9, Bool.false_or] at h
    rw [b_sh h9 B266 (by rw [fnn]; omega), fnn]
    exact of_decide_eq_true h
  · exact gR (List.all_eq_true.mp fSh1 q hq)
theorem fRo {L : Nat} {xs : Nat → Int32} : Ro (bld L xs B266) := fun k hk j => by
  rw [b_lo (by omega) j B266 (by decide +kernel), qroI_lo (by omega)]
theorem fSc {L : Nat} {xs : Nat → Int32} : Sc (bld L xs B266) L xs := ⟨by rw [b_n]; omega, b_9s B266, fun j => b_lo (by decide) j B266 (by decide +kernel)⟩
theorem fWI : WI (fun _ => 0) := ⟨fun _ _ _ => Nat.zero_le _, fun p q _ _ => (Nat.zero_testBit q).trans (Nat.zero_testBit p).symm, fun _ h => absurd h (Nat.not_lt_zero _), fun _ _ _ _ _ => rfl, fun _ h => absurd h (Nat.not_lt_zero _), Nat.le_refl _, fun _ _ _ => rfl⟩
theorem fMK {L : Nat} {xs : Nat → Int32} : MK (bld L xs B266) (fun _ => 0) := fun j hj => by
  by_cases c : j = 413
  · rw [c]
    show _ = nZ 0 - nZ 1
    exact fI (x := nZ 0 - nZ 1) (by decide +kernel)
  · rw [kv_ne c]
    exact f0 413 (by decide +kernel) c
theorem fCW {L : Nat} {xs : Nat → Int32} : CW (bld L xs B266) 11 (fun _ => 0) := by
  refine ⟨⟨?_, ?_, fun p f hp hf => ?_, fun p hp => ?_, fun p hp => ?_, fun j hj => ?_⟩, ⟨?_, fun a f ha hf => ?_⟩, ⟨?_, fun s hs => ⟨?_, ?_, ?_, ?_, ?_⟩⟩, ?_, ?_⟩
  · exact fI (x := nZ 0) (by decide +kernel)
  · exact fI (x := nZ 0) (by decide +kernel)
  · exact f0 1000 (by decide +kernel) (by omega)
  · exact f0 1000 (by decide +kernel) (by omega)
  · exact f0 1000 (by decide +kernel) (by omega)
  · exact f0 1000 (by decide +kernel) (by omega)
  · exact fI (x := nZ 0) (by decide +kernel)
  · exact f0 1000 (by decide +kernel) (by omega)
  · exact fI (x := nZ 0) (by decide +kernel)
  · exact f0 1000 (by decide +kernel) (by omega)
  · exact f0 1000 (by decide +kernel) (by omega)
  · exact f0 1000 (by decide +kernel) (by omega)
  · exact f0 1000 (by decide +kernel) (by omega)
  · exact f0 1000 (by decide +kernel) (by omega)
  · exact fI (x := nZ 0) (by decide +kernel)
  · exact fI (x := nZ 0 - nZ 1) (by decide +kernel)
theorem fab {L : Nat} {xs : Nat → Int32} {a j b i : Nat} (x : Int32) (e1 : (Nat.ble (a + 1) 79 && (!(Nat.beq a 9) && decide (rdI B266 69 a j = x))) = true) (e2 : (Nat.ble (b + 1) 79 && (!(Nat.beq b 9) && decide (rdI B266 69 b i = x))) = true) : hI (bld L xs B266) a j = hI (bld L xs B266) b i := (fI e1).trans (fI e2).symm
theorem fKM {L : Nat} {xs : Nat → Int32} : KM (bld L xs B266) := ⟨⟨fab 0 (by decide +kernel) (by decide +kernel), fab 0 (by decide +kernel) (by decide +kernel), fab (-1) (by decide +kernel) (by decide +kernel)⟩, fab 0 (by decide +kernel) (by decide +kernel), fab 0 (by decide +kernel) (by decide +kernel), fab 0 (by decide +kernel) (by decide +kernel), fab 0 (by decide +kernel) (by decide +kernel), fab 0 (by decide +kernel) (by decide +kernel)⟩
theorem fKT {L : Nat} {xs : Nat → Int32} : KT (bld L xs B266) (fun _ => 0) := by
  refine ⟨Nat.zero_le _, fI (by decide +kernel), fI (by decide +kernel), fun i hi => ⟨(by decide : 0 < 256), ?_, ?_⟩⟩
  · exact f0 1000 (by decide +kernel) (by omega)
  · rw [show sB 0 = nZ 0 from rfl]
    exact f0 1000 (by decide +kernel) (by omega)
theorem fK0 {L : Nat} {xs : Nat → Int32} : K0 (bld L xs B266) (fun _ => 0) 0 (fun _ => 0) := ⟨fShh, fRo, fWI, fMK, fCW, ⟨fI (by decide +kernel), fI (by decide +kernel)⟩, fKM, fKT⟩
theorem fK1 {L : Nat} {xs : Nat → Int32} : K1 (bld L xs B266) (fun _ => 0) 0 (fun _ => 0) := ⟨fK0, fun t h => absurd h (Nat.not_lt_zero _), fI (by decide +kernel), fI (by decide +kernel)⟩
theorem fWC1 : ((List.range 90).all fun j => decide (rdI B266 69 61 j = nZ (Wb j)) && decide (rdI B266 69 31 j = nZ (Wb j))) = true := by decide +kernel
theorem fWC2 : ((List.range 12).all fun j => decide (rdI B266 69 32 j = nZ (sgn j))) = true := by decide +kernel
theorem fWC {L : Nat} {xs : Nat → Int32} : WC (bld L xs B266) := by
  refine ⟨fun j hj => ?_, fun j hj => ?_, fun j hj => ?_⟩
  · have h := List.all_eq_true.mp fWC1 j (List.mem_range.mpr hj)
    rw [Bool.and_eq_true] at h
    rw [b_I (by decide) j B266 (by rw [fnn]; omega), fnn]
    exact of_decide_eq_true h.1
  · have h := List.all_eq_true.mp fWC1 j (List.mem_range.mpr hj)
    rw [Bool.and_eq_true] at h
    rw [b_I (by decide) j B266 (by rw [fnn]; omega), fnn]
    exact of_decide_eq_true h.2
  · have h := List.all_eq_true.mp fWC2 j (List.mem_range.mpr hj)
    rw [b_I (by decide) j B266 (by rw [fnn]; omega), fnn]
    exact of_decide_eq_true h
theorem fIM {L : Nat} {xs : Nat → Int32} : IMs (bld L xs B266) := by
  refine ⟨Or.inl ⟨gR (by decide +kernel), fI (by decide +kernel)⟩, Or.inl ⟨gR (by decide +kernel), fI (by decide +kernel)⟩, fun A B hA hB => ?_⟩
  rw [gR (x := none) (by decide +kernel)] at hA
  cases hA
theorem fLW0 : ((List.range 6).all fun t => decide (rdR B266 69 25 t = none)) = true := by decide +kernel
theorem fLW {L : Nat} {xs : Nat → Int32} : LW1 (bld L xs B266) 11 := fun t a ht e => by
  have h := List.all_eq_true.mp fLW0 t (List.mem_range.mpr ht)
  have e' : hR (bld L xs B266) 25 t = some a := e
  rw [b_R t B266 (by rw [fnn]; omega), fnn, of_decide_eq_true h] at e'
  cases e'
theorem fneg : ¬ ((-1 : Int32) = nZ 0) := by decide
theorem fPlR {L : Nat} {xs : Nat → Int32} : PlR (bld L xs B266) (fun _ => 0) 0 := by
  have e : hI (bld L xs B266) 40 4 = -1 := fI (by decide +kernel)
  refine ⟨fun j hj => f0 2000 (by decide +kernel) (by omega), fun z => ?_, Or.inl e⟩
  rw [e] at z
  exact absurd z fneg
theorem fSoR {L : Nat} {xs : Nat → Int32} : SoR (bld L xs B266) (fun _ => 0) 0 := by
  have e : hI (bld L xs B266) 56 37 = -1 := fI (by decide +kernel)
  refine ⟨Or.inl e, fun z => ?_⟩
  rw [e] at z
  exact absurd z fneg
theorem fFpR {L : Nat} {xs : Nat → Int32} : FpR (bld L xs B266) (fun _ => 0) 0 := by
  have e : hI (bld L xs B266) 45 2 = -1 := fI (by decide +kernel)
  refine ⟨Or.inl e, fun z => ?_⟩
  rw [e] at z
  exact absurd z fneg
theorem fWk {L : Nat} {xs : Nat → Int32} : WkR (bld L xs B266) := Or.inl ⟨fI (by decide +kernel), fI (by decide +kernel)⟩
theorem fRS {L : Nat} {xs : Nat → Int32} : RS (bld L xs B266) 0 := by
  refine ⟨fun _ => 0, 0, fun _ => 0, ⟨fK1, fWC, ⟨fIM, fLW⟩, fPlR, fSoR, fFpR, fWk⟩, Nat.le_refl _, ?_, ?_⟩
  · rw [b_n, fnn]
    omega
  · rw [b_s]
    have : nsl B266 ≤ 200000 := by decide +kernel
    omega

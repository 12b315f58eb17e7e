/-! ===== numbers: ints that are not negative ===== -/
def nZ (n : Nat) : Int32 := Int32.ofNat n
theorem nZ_add (a b : Nat) : nZ a + nZ b = nZ (a + b) := (Int32.ofNat_add a b).symm
theorem nZ_mul (a b : Nat) : nZ a * nZ b = nZ (a * b) := (Int32.ofNat_mul a b).symm
theorem nZ_sub {a b : Nat} (h : b ≤ a) : nZ a - nZ b = nZ (a - b) := (Int32.ofNat_sub a b h).symm
theorem nZ_lt {a b : Nat} (ha : a < 2147483648) (hb : b < 2147483648) : (nZ a < nZ b) = (a < b) := propext (Int32.ofNat_lt_iff_lt ha hb)
theorem nZ_le {a b : Nat} (ha : a < 2147483648) (hb : b < 2147483648) : (nZ a ≤ nZ b) = (a ≤ b) := propext (Int32.ofNat_le_iff_le ha hb)
theorem nZ_nat {a : Nat} (ha : a < 2147483648) : (nZ a).toNatClampNeg = a := Int32.toNatClampNeg_ofNat_of_lt ha
theorem nZ_int {a : Nat} (ha : a < 2147483648) : (nZ a).toInt = a := Int32.toInt_ofNat_of_lt ha
theorem nZ_eq {a b : Nat} (ha : a < 2147483648) (hb : b < 2147483648) : (nZ a = nZ b) = (a = b) := propext ⟨fun e => by
  have := congrArg Int32.toNatClampNeg e
  rwa [nZ_nat ha, nZ_nat hb] at this, fun e => by rw [e]⟩
theorem nZ_div {a b : Nat} (ha : a < 2147483648) (hb : b < 2147483648) : nZ a / nZ b = nZ (a / b) := (Int32.ofNat_div ha hb).symm
theorem nZ_rem {a b : Nat} (ha : a < 2147483648) (hb : b < 2147483648) : nZ a - nZ a / nZ b * nZ b = nZ (a % b) := by
  rw [nZ_div ha hb, nZ_mul, nZ_sub (Nat.div_mul_le_self a b)]
  congr 1
  have := Nat.div_add_mod a b
  have e : a / b * b = b * (a / b) := Nat.mul_comm _ _
  omega
theorem nZ_bv (a : Nat) : (nZ a).toBitVec = BitVec.ofNat 32 a := rfl
theorem nZ_and (a b : Nat) : nZ a &&& nZ b = nZ (a &&& b) := by
  apply Int32.toBitVec.inj
  show BitVec.ofNat 32 a &&& BitVec.ofNat 32 b = BitVec.ofNat 32 (a &&& b)
  apply BitVec.eq_of_toNat_eq
  simp [Nat.and_mod_two_pow]
theorem nZ_or (a b : Nat) : nZ a ||| nZ b = nZ (a ||| b) := by
  apply Int32.toBitVec.inj
  show BitVec.ofNat 32 a ||| BitVec.ofNat 32 b = BitVec.ofNat 32 (a ||| b)
  apply BitVec.eq_of_toNat_eq
  simp [Nat.or_mod_two_pow]
theorem nZ_xor (a b : Nat) : nZ a ^^^ nZ b = nZ (a ^^^ b) := by
  apply Int32.toBitVec.inj
  show BitVec.ofNat 32 a ^^^ BitVec.ofNat 32 b = BitVec.ofNat 32 (a ^^^ b)
  apply BitVec.eq_of_toNat_eq
  simp [Nat.xor_mod_two_pow]
theorem and31 {k : Nat} (hk : k < 32) : k &&& 31 = k := by
  have : (31 : Nat) = 2 ^ 5 - 1 := rfl
  rw [this, Nat.and_two_pow_sub_one_eq_mod]
  omega
theorem nZ_shl {a k : Nat} (hk : k < 32) : nZ a <<< nZ k = nZ (a <<< k) := by
  apply Int32.toBitVec.inj
  show BitVec.ofNat 32 a <<< ((BitVec.ofNat 32 k).smod 32) = BitVec.ofNat 32 (a <<< k)
  have e : (BitVec.ofNat 32 k).smod 32 = BitVec.ofNat 32 k := by
    have : ∀ k, k < 32 → (BitVec.ofNat 32 k).smod 32 = BitVec.ofNat 32 k := by decide +kernel
    exact this k hk
  rw [e]
  apply BitVec.eq_of_toNat_eq
  rw [BitVec.shiftLeft_eq', BitVec.toNat_shiftLeft]
  simp only [BitVec.toNat_ofNat, Nat.shiftLeft_eq]
  rw [Nat.mod_eq_of_lt (show k < 2 ^ 32 by omega), Nat.mod_mul_mod]
theorem nZ_shr {a k : Nat} (ha : a < 2147483648) (hk : k < 32) : nZ a >>> nZ k = nZ (a >>> k) := by
  apply Int32.toBitVec.inj
  show BitVec.sshiftRight' (BitVec.ofNat 32 a) ((BitVec.ofNat 32 k).smod 32) = BitVec.ofNat 32 (a >>> k)
  have e : (BitVec.ofNat 32 k).smod 32 = BitVec.ofNat 32 k := by
    have : ∀ k, k < 32 → (BitVec.ofNat 32 k).smod 32 = BitVec.ofNat 32 k := by decide +kernel
    exact this k hk
  rw [e]
  have hm : (BitVec.ofNat 32 a).msb = false := by
    rw [BitVec.msb_eq_decide]
    simp only [BitVec.toNat_ofNat]
    rw [Nat.mod_eq_of_lt (by omega)]
    simp
    omega
  show BitVec.sshiftRight (BitVec.ofNat 32 a) (BitVec.ofNat 32 k).toNat = _
  rw [BitVec.sshiftRight_eq_of_msb_false hm]
  apply BitVec.eq_of_toNat_eq
  simp only [BitVec.toNat_ushiftRight, BitVec.toNat_ofNat]
  rw [Nat.mod_eq_of_lt (show k < 2 ^ 32 by omega), Nat.mod_eq_of_lt (show a < 2 ^ 32 by omega), Nat.mod_eq_of_lt]
  have := Nat.shiftRight_le a k
  omega
theorem nZ_m1 {a : Nat} (h : 1 ≤ a) : nZ a + -nZ 1 = nZ (a - 1) := by
  rw [← nZ_sub h]
  apply Int32.toInt.inj
  simp [nZ, Int.sub_eq_add_neg]
theorem nZ_neg1 : (-1 : Int32) = -nZ 1 := rfl
theorem nZ_nneg {a : Nat} (ha : a < 2147483648) : (nZ a = -nZ 1) = False := by
  apply eq_false
  intro e
  have := congrArg Int32.toInt e
  rw [nZ_int ha] at this
  have h2 : (-nZ 1).toInt = -1 := by decide
  omega
theorem nZ_nneg' {a : Nat} (ha : a < 2147483648) : (-nZ 1 = nZ a) = False := eq_false fun e => cast (nZ_nneg ha) e.symm
theorem nZ_nlt {a : Nat} (ha : a < 2147483648) : (nZ a < -nZ 1) = False := by
  apply eq_false
  rw [Int32.lt_iff_toInt_lt, nZ_int ha]
  have h2 : (-nZ 1).toInt = -1 := by decide
  omega
theorem nZ_ltn {a : Nat} (ha : a < 2147483648) : (-nZ 1 < nZ a) = True := by
  apply eq_true
  rw [Int32.lt_iff_toInt_lt, nZ_int ha]
  have h2 : (-nZ 1).toInt = -1 := by decide
  omega
theorem nZ_neg_lt {a : Nat} (ha : a < 2147483648) : (nZ a < nZ 0) = False := by
  rw [nZ_lt ha (by omega)]
  simp
/-- a number is below 0, or it is one of these -/
theorem nZ_or_neg (x : Int32) : x < 0 ∨ ∃ n, n < 2147483648 ∧ x = nZ n := by
  by_cases h : x < 0
  · exact Or.inl h
  · have h0 : (0 : Int32) ≤ x := Int32.not_lt.1 h
    exact Or.inr ⟨x.toNatClampNeg, Int32.toNatClampNeg_lt x, (Int32.ofNat_toNatClampNeg x h0).symm⟩
/-! ===== what omega can tell of numbers ===== -/
theorem nd_lt_t {a b : Nat} (h : a < b) : (a < b) = True := eq_true h
theorem nd_lt_f {a b : Nat} (h : b ≤ a) : (a < b) = False := eq_false (by omega)
theorem nd_le_t {a b : Nat} (h : a ≤ b) : (a ≤ b) = True := eq_true h
theorem nd_le_f {a b : Nat} (h : b < a) : (a ≤ b) = False := eq_false (by omega)
theorem nd_eq_f {a b : Nat} (h : a < b ∨ b < a) : (a = b) = False := eq_false (by omega)
/-! ===== heaps: a whole array anew; results; loops ===== -/
def hsA (h : QH) (a : Nat) (f : Nat → Int32) : QH := (h.1, h.2.1, h.2.2.1, fun b j => if b = a then f j else h.2.2.2.1 b j, h.2.2.2.2)
theorem Sh_sA {h : QH} {a : Nat} {f : Nat → Int32} : Sh (hsA h a f) ↔ Sh h := Iff.rfl
theorem hI_sA {h : QH} {a : Nat} {f : Nat → Int32} {b j : Nat} : hI (hsA h a f) b j = if b = a then f j else hI h b j := rfl
theorem hN_sA {h : QH} {a : Nat} {f : Nat → Int32} : hN (hsA h a f) = hN h := rfl
theorem hS_sA {h : QH} {a : Nat} {f : Nat → Int32} : hS (hsA h a f) = hS h := rfl
theorem hR_sA {h : QH} {a : Nat} {f : Nat → Int32} : hR (hsA h a f) = hR h := rfl
theorem qh_ext {h k : QH} (h1 : h.1 = k.1) (h2 : h.2.1 = k.2.1) (h3 : h.2.2.1 = k.2.2.1) (h4 : ∀ b j, hI h b j = hI k b j) (h5 : h.2.2.2.2 = k.2.2.2.2) : h = k := by
  obtain ⟨a, b, c, e, f⟩ := h
  obtain ⟨a', b', c', e', f'⟩ := k
  cases h1
  cases h2
  cases h3
  cases h5
  have : e = e' := funext fun b => funext fun j => h4 b j
  rw [this]
theorem qcp_A {h : QH} {s d sp dp n : Nat} (hs : 10 ≤ s ∧ s < hN h) (hd : 10 ≤ d ∧ d < hN h) (ts : hT h s = 0) (td : hT h d = 0) (h1 : sp + n ≤ hL h s) (h2 : dp + n ≤ hL h d) (b1 : sp < 2147483648) (b2 : dp < 2147483648) (b3 : n < 2147483648) : qcp s (nZ sp) d (nZ dp) (nZ n) h = some (hsA h d (fun j => if dp ≤ j ∧ j < dp + n then hI h s (sp + (j - dp)) else hI h d j)) := by
  have z : ∀ k, k < 2147483648 → (0 : Int32) ≤ nZ k := fun k hk => Int32.zero_le_ofNat_of_lt hk
  unfold qcp
  rw [nZ_nat b1, nZ_nat b2, nZ_nat b3, if_pos ⟨hs, hd, ts, td, z sp b1, z dp b2, z n b3, h1, h2⟩]
  refine congrArg some (qh_ext rfl rfl rfl ?_ rfl)
  intro b j
  show (if b = d ∧ dp ≤ j ∧ j < dp + n then hI h s (sp + (j - dp)) else hI h b j) = (if b = d then (if dp ≤ j ∧ j < dp + n then hI h s (sp + (j - dp)) else hI h d j) else hI h b j)
  by_cases hb : b = d
  · subst hb
    rw [if_pos rfl]
    by_cases c : dp ≤ j ∧ j < dp + n
    · rw [if_pos ⟨rfl, c⟩, if_pos c]
    · rw [if_neg (fun z => c z.2), if_neg c]
  · rw [if_neg (fun z => hb z.1), if_neg hb]
theorem loopP {σ : Type} {F : Nat → σ → QO} {n : Nat} {I : Nat → σ → Prop} {P : QO → Prop} (hs : ∀ i s, i < n → I i s → (∃ s', F i s = F (i + 1) s' ∧ I (i + 1) s') ∨ P (F i s)) (he : ∀ s, I n s → P (F n s)) : ∀ j s, j ≤ n → I j s → P (F j s) := by
  have key : ∀ k j s, n - j = k → j ≤ n → I j s → P (F j s) := by
    intro k
    induction k with
    | zero =>
      intro j s hk hj hI
      have : j = n := by omega
      subst this
      exact he s hI
    | succ k ih =>
      intro j s hk hj hI
      rcases hs j s (by omega) hI with ⟨s', e, hI'⟩ | hP
      · rw [e]
        exact ih (j + 1) s' (by omega) (by omega) hI'
      · exact hP
  intro j s hj hI
  exact key (n - j) j s rfl hj hI
theorem hsA_id {h : QH} {a : Nat} {f : Nat → Int32} (e : ∀ k, f k = hI h a k) : hsA h a f = h := by
  refine qh_ext rfl rfl rfl ?_ rfl
  intro b j
  rw [hI_sA]
  by_cases hb : b = a
  · rw [if_pos hb, hb, e]
  · rw [if_neg hb]
theorem hsA_sI {h : QH} {a i : Nat} {v : Int32} {f g : Nat → Int32} (e : ∀ k, f k = g k) : hsA (hsI h a i v) a f = hsA h a g := by
  refine qh_ext rfl rfl rfl ?_ rfl
  intro b j
  rw [hI_sA, hI_sA]
  by_cases hb : b = a
  · rw [if_pos hb, if_pos hb, e]
  · rw [if_neg hb, if_neg hb, hI_si, if_neg (fun z => hb z.1)]
/-- a loop that changes the elements c + j .. c + n - 1 of one array, each by itself -/
theorem loopA {F : Nat → QH → QO} {G : QH → QO} {a n c : Nat} {u : Nat → Int32 → Int32} {P : QH → Prop} (hP : ∀ h i v, P h → P (hsI h a i v)) (hs : ∀ i h, i < n → P h → F i h = F (i + 1) (hsI h a (c + i) (u i (hI h a (c + i))))) (he : ∀ h, P h → F n h = G h) : ∀ j h, j ≤ n → P h → F j h = G (hsA h a (fun k => if c + j ≤ k ∧ k < c + n then u (k - c) (hI h a k) else hI h a k)) := by
  have key : ∀ m j h, n - j = m → j ≤ n → P h → F j h = G (hsA h a (fun k => if c + j ≤ k ∧ k < c + n then u (k - c) (hI h a k) else hI h a k)) := by
    intro m
    induction m with
    | zero =>
      intro j h hm hj hp
      have : j = n := by omega
      subst this
      rw [he h hp, hsA_id]
      intro k
      rw [if_neg (by omega)]
    | succ m ih =>
      intro j h hm hj hp
      rw [hs j h (by omega) hp, ih (j + 1) _ (by omega) (by omega) (hP _ _ _ hp)]
      congr 1
      apply hsA_sI
      intro k
      have hk : hI (hsI h a (c + j) (u j (hI h a (c + j)))) a k = if k = c + j then u j (hI h a (c + j)) else hI h a k := by
        rw [hI_si]
        by_cases e : k = c + j
        · rw [if_pos ⟨rfl, e⟩, if_pos e]
        · rw [if_neg (fun z => e z.2), if_neg e]
      rw [hk]
      by_cases e : k = c + j
      · subst e
        rw [if_neg (by omega), if_pos rfl, if_pos (by omega)]
        congr 1
        omega
      · rw [if_neg e]
        by_cases e2 : c + (j + 1) ≤ k ∧ k < c + n
        · rw [if_pos e2, if_pos (by omega)]
        · rw [if_neg e2, if_neg (by omega)]
  intro j h hj hp
  exact key (n - j) j h rfl hj hp

/-! without, start, left, best -/
theorem op_without {h : QH} {W : Nat → Nat} {c : Nat} {T : Nat → Nat} (K : K0 h W c T) (R : SoR h W c) (d : Nat) (a1 a2 : Int32) : Op (d + 120) 63 275 [qI a1, qI a2] h (fun k => SpP h k W c T) := by
  have H := K.sh
  have n8 := K.n8
  have n5 := K.n5
  have e161 := k161 K (d + 117) a2 a1
  have e200 := n200 K.mm (d + 117) a1
  have e203 := n203 K.mm (d + 117) a2
  have z00 : nZ 0 = (0 : Int32) := rfl
  have z10 : ¬(nZ 1 = (0 : Int32)) := by decide
  by_cases h1 : ltN a1 (W 409)
  case neg =>
    rw [bI_f (fun z => h1 z.2)] at e161
    rw [bI_f h1] at e200
    refine ⟨-1, h, h, ?_, ?_, SpP.same K R⟩
    · rw [E63, ck10 H, ob_some, g10_0 H, ob_some, e161, jI, if_pos z00]
    · rw [E275, ck56 H, ob_some, e200, jI, if_pos z00]
  by_cases h2 : ltN a2 (W 408)
  case neg =>
    rw [bI_f (fun z => h2 z.1)] at e161
    rw [bI_t h1] at e200
    rw [bI_f h2] at e203
    refine ⟨-1, h, h, ?_, ?_, SpP.same K R⟩
    · rw [E63, ck10 H, ob_some, g10_0 H, ob_some, e161, jI, if_pos z00]
    · rw [E275, ck56 H, ob_some, e200, jI, if_neg z10, e203, jI, if_pos z00]
  rw [bI_t ⟨h2, h1⟩] at e161
  obtain ⟨a, ha, rfl⟩ := ltN_ex h1
  obtain ⟨p, hp, rfl⟩ := ltN_ex h2
  obtain ⟨k, v, e52, F, dv⟩ := c52 K.ck (d + 113) a p ha hp
  have Kk := K.fr F nK_fSp
  obtain ⟨m, v', e275, G, Rm, dv'⟩ := m275 Kk.mm (d + 84) a p Kk.v1 (R.sp F) ha hp
  have ev := dys_u dv' dv
  rw [ev] at e275
  refine ⟨v, k, m, ?_, e275, SpP.run K F G Rm⟩
  rw [E63, ck10 H, ob_some, g10_0 H, ob_some, e161, jI, if_neg z10, e52, jI]
/-- from one alone -/
theorem c51p {h : QH} {W : Nat → Nat} (X : CK h W) (d a p : Nat) (ha : a < W 409) (hp : p < W 408) : ∃ k v, qcl (d + 5) 51 [qR (some 10), qI (nZ a), qI (nZ (2 ^ W 408 - 1)), qI ((1 : Int32) <<< (nZ p &&& 31))] h = some (some (qI v), k) ∧ Fr fSp h k ∧ dys W a (2 ^ W 408 - 1) (2 ^ p) v := by
  have n8 := X.n8
  have p8 : 2 ^ p < 256 := by
    have : 2 ^ p ≤ 2 ^ 7 := Nat.pow_le_pow_right (by decide) (by omega)
    omega
  have ep : (1 : Int32) <<< (nZ p &&& 31) = nZ (2 ^ p) := by
    rw [L31, nZ_and, and31 (by omega), L1, nZ_shl (by omega), Nat.one_shiftLeft]
  rw [ep]
  exact c51 X d a (2 ^ W 408 - 1) (2 ^ p) ha (two_8 n8) p8 (fun i _ z => by
    rw [Nat.testBit_two_pow] at z
    have : p = i := of_decide_eq_true z
    rw [all_tb, decide_eq_true (by omega)])
theorem op_start {h : QH} {W : Nat → Nat} {c : Nat} {T : Nat → Nat} (K : K0 h W c T) (R : SoR h W c) (d : Nat) (a1 a2 : Int32) : Op (d + 120) 54 261 [qI a1, qI a2] h (fun k => SpP h k W c T) := by
  have H := K.sh
  have n8 := K.n8
  have n5 := K.n5
  have e161 := k161 K (d + 117) a2 a1
  have e200 := n200 K.mm (d + 117) a1
  have e203 := n203 K.mm (d + 117) a2
  have z00 : nZ 0 = (0 : Int32) := rfl
  have z10 : ¬(nZ 1 = (0 : Int32)) := by decide
  by_cases h1 : ltN a1 (W 409)
  case neg =>
    rw [bI_f (fun z => h1 z.2)] at e161
    rw [bI_f h1] at e200
    refine ⟨-1, h, h, ?_, ?_, SpP.same K R⟩
    · rw [E54, ck10 H, ob_some, g10_0 H, ob_some, e161, jI, if_pos z00]
    · rw [E261, ck56 H, ob_some, e200, jI, if_pos z00]
  by_cases h2 : ltN a2 (W 408)
  case neg =>
    rw [bI_f (fun z => h2 z.1)] at e161
    rw [bI_t h1] at e200
    rw [bI_f h2] at e203
    refine ⟨-1, h, h, ?_, ?_, SpP.same K R⟩
    · rw [E54, ck10 H, ob_some, g10_0 H, ob_some, e161, jI, if_pos z00]
    · rw [E261, ck56 H, ob_some, e200, jI, if_neg z10, e203, jI, if_pos z00]
  rw [bI_t ⟨h2, h1⟩] at e161
  obtain ⟨a, ha, rfl⟩ := ltN_ex h1
  obtain ⟨p, hp, rfl⟩ := ltN_ex h2
  have e79 := k79 K (d + 118)
  obtain ⟨k, v, e51, F, dv⟩ := c51p K.ck (d + 114) a p ha hp
  have Kk := K.fr F nK_fSp
  obtain ⟨m, v', e261, G, Rm, dv'⟩ := m261 Kk.mm (d + 84) a p Kk.v1 (R.sp F) ha hp
  have ev := dys_u dv' dv
  rw [ev] at e261
  refine ⟨v, k, m, ?_, e261, SpP.run K F G Rm⟩
  rw [E54, ck10 H, ob_some, g10_0 H, ob_some, e161, jI, if_neg z10, g10_0 H, ob_some, ob_some, g11_0 H, ob_some, e79, jI, e51, jI]
theorem dys_ex {W : Nat → Nat} {a E K : Nat} : ∃ v, dys W a E K v := by
  obtain ⟨v, h⟩ := sfv_ex (W := W) (a := a) (E := E) (y := 0) (K := K)
  rcases h with ⟨_, h2⟩ | ⟨h1, h2, h3⟩
  · exact ⟨-1, Or.inl ⟨rfl, fun m hm => h2 m (by omega)⟩⟩
  · exact ⟨nZ v, Or.inr ⟨v, by omega, rfl, h2, h3⟩⟩
/-- the first of the fewest -/
def rB (F : Nat → Int32) (l0 : Int32) : Nat → Int32 × Int32
  | 0 => (-1, l0)
  | p + 1 => if F p = -1 then rB F l0 p else if F p < (rB F l0 p).2 then (nZ p, F p) else rB F l0 p
theorem rB_eq {F : Nat → Int32} {n : Nat} (f : ∀ p, p < n → F p = -1 ∨ ∃ m, m ≤ 30 ∧ F p = nZ m) : ∀ p, p ≤ n → (rB F 31 p = (-1, 31) ∧ rB F 1000 p = (-1, 1000)) ∨ rB F 31 p = rB F 1000 p
  | 0, _ => Or.inl ⟨rfl, rfl⟩
  | p + 1, hp => by
    have ih := rB_eq f p (by omega)
    have e1 : ∀ l0, rB F l0 (p + 1) = if F p = -1 then rB F l0 p else if F p < (rB F l0 p).2 then (nZ p, F p) else rB F l0 p := fun l0 => rfl
    rw [e1, e1]
    by_cases c : F p = -1
    · rw [if_pos c, if_pos c]
      exact ih
    · rw [if_neg c, if_neg c]
      rcases f p (by omega) with q | ⟨m, m1, m2⟩
      · exact absurd q c
      · rcases ih with ⟨i1, i2⟩ | i
        · have g1 : F p < (31 : Int32) := by
            rw [m2, L31, nZ_lt (by omega) (by decide)]
            omega
          have g2 : F p < (1000 : Int32) := by
            rw [m2, L1000, nZ_lt (by omega) (by decide)]
            omega
          rw [i1, i2, if_pos g1, if_pos g2]
          exact Or.inr rfl
        · rw [i]
          exact Or.inr rfl
theorem dys_f {W : Nat → Nat} {a E K : Nat} {v : Int32} (h : dys W a E K v) : v = -1 ∨ ∃ m, m ≤ 30 ∧ v = nZ m := by
  rcases h with ⟨h1, _⟩ | ⟨m, m1, m2, _⟩
  · exact Or.inl h1
  · exact Or.inr ⟨m, m1, m2⟩
theorem c36_24 {W : Nat → Nat} (d a : Nat) (ha : a < W 409) (F : Nat → Int32) (dv : ∀ p, p < W 408 → dys W a (sd (2 ^ W 408 - 1) (2 ^ p)) (kw W a &&& sd (2 ^ W 408 - 1) (2 ^ p)) (F p)) : ∀ m p h, p + m = W 408 → CK h W → ∃ k, qbig (d + 7) 36 24 [sR (some 10), sI (nZ a), sI (rB F 31 p).1, sI (rB F 31 p).2, sI (nZ p), none] [] h = some (some (qI (rB F 31 (W 408)).1), k) ∧ Fr fSp h k
  | 0, p, h, e, X => by
    have e' : p = W 408 := by omega
    have n8 := X.n8
    have H := X.1
    have lt1 : ¬(nZ p < nZ (W 408)) := by
      rw [nZ_lt (by omega) (by omega)]
      omega
    refine ⟨h, ?_, Fr.refl⟩
    rw [E36_24, g10_0 H, ob_some, ob_some, g11_0 H, ob_some, ob_some, g12_0 H, ob_some, X.c12, if_neg lt1, e']
  | m + 1, p, h, e, X => by
    have n8 := X.n8
    have H := X.1
    have lt1 : nZ p < nZ (W 408) := by
      rw [nZ_lt (by omega) (by omega)]
      omega
    have ip : nZ p + 1 = nZ (p + 1) := by rw [L1, nZ_add]
    obtain ⟨k, v, e5, Fk, dv'⟩ := c52 X d a p ha (by omega)
    have ev := dys_u dv' (dv p (by omega))
    rw [ev] at e5
    obtain ⟨k2, ek2, F2⟩ := c36_24 d a ha F dv m (p + 1) k (by omega) (X.fr Fk fSp_n)
    refine ⟨k2, ?_, Fk.trans F2⟩
    have es : rB F 31 (p + 1) = if F p = -1 then rB F 31 p else if F p < (rB F 31 p).2 then (nZ p, F p) else rB F 31 p := rfl
    rw [es] at ek2
    by_cases c1' : F p = -1
    · rw [if_pos c1'] at ek2
      rw [E36_24, g10_0 H, ob_some, ob_some, g11_0 H, ob_some, ob_some, g12_0 H, ob_some, X.c12, if_pos lt1, e5, jI, if_pos c1', E36_69, ip]
      exact ek2
    · rw [if_neg c1'] at ek2
      by_cases c2' : F p < (rB F 31 p).2
      · rw [if_pos c2'] at ek2
        rw [E36_24, g10_0 H, ob_some, ob_some, g11_0 H, ob_some, ob_some, g12_0 H, ob_some, X.c12, if_pos lt1, e5, jI, if_neg c1', if_pos c2', E36_69, ip]
        exact ek2
      · rw [if_neg c2'] at ek2
        rw [E36_24, g10_0 H, ob_some, ob_some, g11_0 H, ob_some, ob_some, g12_0 H, ob_some, X.c12, if_pos lt1, e5, jI, if_neg c1', if_neg c2', E36_69, ip]
        exact ek2
theorem c17_24 {W : Nat → Nat} (d a : Nat) (ha : a < W 409) (F : Nat → Int32) (dv : ∀ p, p < W 408 → dys W a (2 ^ W 408 - 1) (2 ^ p) (F p)) : ∀ m p h, p + m = W 408 → CK h W → ∃ k, qbig (d + 7) 17 24 [sR (some 10), sI (nZ a), sI (rB F 31 p).1, sI (rB F 31 p).2, sI (nZ p), none] [] h = some (some (qI (rB F 31 (W 408)).1), k) ∧ Fr fSp h k
  | 0, p, h, e, X => by
    have e' : p = W 408 := by omega
    have n8 := X.n8
    have H := X.1
    have lt1 : ¬(nZ p < nZ (W 408)) := by
      rw [nZ_lt (by omega) (by omega)]
      omega
    refine ⟨h, ?_, Fr.refl⟩
    rw [E17_24, g10_0 H, ob_some, ob_some, g11_0 H, ob_some, ob_some, g12_0 H, ob_some, X.c12, if_neg lt1, e']
  | m + 1, p, h, e, X => by
    have n8 := X.n8
    have H := X.1
    have lt1 : nZ p < nZ (W 408) := by
      rw [nZ_lt (by omega) (by omega)]
      omega
    have ip : nZ p + 1 = nZ (p + 1) := by rw [L1, nZ_add]
    have e79 := c79 H (d + 5) _ X.c12 n8
    obtain ⟨k, v, e5, Fk, dv'⟩ := c51p X (d + 1) a p ha (by omega)
    have ev := dys_u dv' (dv p (by omega))
    rw [ev] at e5
    obtain ⟨k2, ek2, F2⟩ := c17_24 d a ha F dv m (p + 1) k (by omega) (X.fr Fk fSp_n)
    refine ⟨k2, ?_, Fk.trans F2⟩
    have es : rB F 31 (p + 1) = if F p = -1 then rB F 31 p else if F p < (rB F 31 p).2 then (nZ p, F p) else rB F 31 p := rfl
    rw [es] at ek2
    by_cases c1' : F p = -1
    · rw [if_pos c1'] at ek2
      rw [E17_24, g10_0 H, ob_some, ob_some, g11_0 H, ob_some, ob_some, g12_0 H, ob_some, X.c12, if_pos lt1, ob_some, ob_some, g11_0 H, ob_some, e79, jI, e5, jI, if_pos c1', E17_81, ip]
      exact ek2
    · rw [if_neg c1'] at ek2
      by_cases c2' : F p < (rB F 31 p).2
      · rw [if_pos c2'] at ek2
        rw [E17_24, g10_0 H, ob_some, ob_some, g11_0 H, ob_some, ob_some, g12_0 H, ob_some, X.c12, if_pos lt1, ob_some, ob_some, g11_0 H, ob_some, e79, jI, e5, jI, if_neg c1', if_pos c2', E17_81, ip]
        exact ek2
      · rw [if_neg c2'] at ek2
        rw [E17_24, g10_0 H, ob_some, ob_some, g11_0 H, ob_some, ob_some, g12_0 H, ob_some, X.c12, if_pos lt1, ob_some, ob_some, g11_0 H, ob_some, e79, jI, e5, jI, if_neg c1', if_neg c2', E17_81, ip]
        exact ek2
theorem m216_19 {W : Nat → Nat} {c : Nat} (d a : Nat) (ha : a < W 409) (F : Nat → Int32) (dv : ∀ p, p < W 408 → dys W a (sd (2 ^ W 408 - 1) (2 ^ p)) (kw W a &&& sd (2 ^ W 408 - 1) (2 ^ p)) (F p)) : ∀ m p h, p + m = W 408 → MM h W → hI h 56 1 = nZ c → SoR h W c → ∃ k, qbig (d + 37) 216 19 [sR (some 56), sI (nZ a), sI (rB F 1000 p).1, sI (rB F 1000 p).2, sI (nZ p), none] [] h = some (some (qI (rB F 1000 (W 408)).1), k) ∧ Fr fSo h k ∧ SoR k W c
  | 0, p, h, e, M, v1, R => by
    have e' : p = W 408 := by omega
    have n8 := M.n8
    have lt1 : ¬(nZ p < nZ (W 408)) := by
      rw [nZ_lt (by omega) (by omega)]
      omega
    refine ⟨h, ?_, Fr.refl, R⟩
    rw [E216_19, n232 M (d + 35), jI, if_neg lt1, e']
  | m + 1, p, h, e, M, v1, R => by
    have n8 := M.n8
    have lt1 : nZ p < nZ (W 408) := by
      rw [nZ_lt (by omega) (by omega)]
      omega
    have ip : nZ p + 1 = nZ (p + 1) := by rw [L1, nZ_add]
    obtain ⟨k, v, e5, Fk, Rk, dv'⟩ := m275 M d a p v1 R ha (by omega)
    have ev := dys_u dv' (dv p (by omega))
    rw [ev] at e5
    obtain ⟨k2, ek2, F2, R2⟩ := m216_19 d a ha F dv m (p + 1) k (by omega) (M.fr Fk (fun j => rfl)) (by rw [Fk.2 56 1 rfl]; exact v1) Rk
    refine ⟨k2, ?_, Fk.trans F2, R2⟩
    have es : rB F 1000 (p + 1) = if F p = -1 then rB F 1000 p else if F p < (rB F 1000 p).2 then (nZ p, F p) else rB F 1000 p := rfl
    rw [es] at ek2
    by_cases c1' : F p = -1
    · rw [if_pos c1'] at ek2
      rw [E216_19, n232 M (d + 35), jI, if_pos lt1, e5, jI, if_pos c1', E216_61, ip]
      exact ek2
    · rw [if_neg c1'] at ek2
      by_cases c2' : F p < (rB F 1000 p).2
      · rw [if_pos c2'] at ek2
        rw [E216_19, n232 M (d + 35), jI, if_pos lt1, e5, jI, if_neg c1', if_pos c2', E216_61, ip]
        exact ek2
      · rw [if_neg c2'] at ek2
        rw [E216_19, n232 M (d + 35), jI, if_pos lt1, e5, jI, if_neg c1', if_neg c2', E216_61, ip]
        exact ek2
theorem m174_19 {W : Nat → Nat} {c : Nat} (d a : Nat) (ha : a < W 409) (F : Nat → Int32) (dv : ∀ p, p < W 408 → dys W a (2 ^ W 408 - 1) (2 ^ p) (F p)) : ∀ m p h, p + m = W 408 → MM h W → hI h 56 1 = nZ c → SoR h W c → ∃ k, qbig (d + 37) 174 19 [sR (some 56), sI (nZ a), sI (rB F 1000 p).1, sI (rB F 1000 p).2, sI (nZ p), none] [] h = some (some (qI (rB F 1000 (W 408)).1), k) ∧ Fr fSo h k ∧ SoR k W c
  | 0, p, h, e, M, v1, R => by
    have e' : p = W 408 := by omega
    have n8 := M.n8
    have lt1 : ¬(nZ p < nZ (W 408)) := by
      rw [nZ_lt (by omega) (by omega)]
      omega
    refine ⟨h, ?_, Fr.refl, R⟩
    rw [E174_19, n232 M (d + 35), jI, if_neg lt1, e']
  | m + 1, p, h, e, M, v1, R => by
    have n8 := M.n8
    have lt1 : nZ p < nZ (W 408) := by
      rw [nZ_lt (by omega) (by omega)]
      omega
    have ip : nZ p + 1 = nZ (p + 1) := by rw [L1, nZ_add]
    obtain ⟨k, v, e5, Fk, Rk, dv'⟩ := m261 M d a p v1 R ha (by omega)
    have ev := dys_u dv' (dv p (by omega))
    rw [ev] at e5
    obtain ⟨k2, ek2, F2, R2⟩ := m174_19 d a ha F dv m (p + 1) k (by omega) (M.fr Fk (fun j => rfl)) (by rw [Fk.2 56 1 rfl]; exact v1) Rk
    refine ⟨k2, ?_, Fk.trans F2, R2⟩
    have es : rB F 1000 (p + 1) = if F p = -1 then rB F 1000 p else if F p < (rB F 1000 p).2 then (nZ p, F p) else rB F 1000 p := rfl
    rw [es] at ek2
    by_cases c1' : F p = -1
    · rw [if_pos c1'] at ek2
      rw [E174_19, n232 M (d + 35), jI, if_pos lt1, e5, jI, if_pos c1', E174_61, ip]
      exact ek2
    · rw [if_neg c1'] at ek2
      by_cases c2' : F p < (rB F 1000 p).2
      · rw [if_pos c2'] at ek2
        rw [E174_19, n232 M (d + 35), jI, if_pos lt1, e5, jI, if_neg c1', if_pos c2', E174_61, ip]
        exact ek2
      · rw [if_neg c2'] at ek2
        rw [E174_19, n232 M (d + 35), jI, if_pos lt1, e5, jI, if_neg c1', if_neg c2', E174_61, ip]
        exact ek2
theorem op_left {h : QH} {W : Nat → Nat} {c : Nat} {T : Nat → Nat} (K : K0 h W c T) (R : SoR h W c) (d : Nat) (a1 : Int32) : Op (d + 120) 36 216 [qI a1] h (fun k => SpP h k W c T) := by
  have H := K.sh
  have n8 := K.n8
  have n5 := K.n5
  have e72 := k72 K (d + 118) a1
  have e200 := n200 K.mm (d + 117) a1
  have z00 : nZ 0 = (0 : Int32) := rfl
  have z10 : ¬(nZ 1 = (0 : Int32)) := by decide
  by_cases h1 : ltN a1 (W 409)
  case neg =>
    rw [bI_f h1] at e72 e200
    refine ⟨-1, h, h, ?_, ?_, SpP.same K R⟩
    · rw [E36, ck10 H, ob_some, g10_0 H, ob_some, ob_some, g11_1 H, ob_some, e72, jI, if_pos z00]
    · rw [E216, ck56 H, ob_some, e200, jI, if_pos z00]
  rw [bI_t h1] at e72
  obtain ⟨a, ha, rfl⟩ := ltN_ex h1
  have cho : ∃ F : Nat → Int32, ∀ p, dys W a (sd (2 ^ W 408 - 1) (2 ^ p)) (kw W a &&& sd (2 ^ W 408 - 1) (2 ^ p)) (F p) := ⟨fun p => Classical.choose (dys_ex (W := W) (a := a)), fun p => Classical.choose_spec (dys_ex (W := W) (a := a))⟩
  obtain ⟨F, dv⟩ := cho
  obtain ⟨k, ek, Fk⟩ := c36_24 (d + 113) a ha F (fun p _ => dv p) (W 408) 0 h (by omega) K.ck
  have Kk := K.fr Fk nK_fSp
  have e200' := n200 Kk.mm (d + 117) (nZ a)
  rw [bI_t h1] at e200'
  obtain ⟨m, em, Fm, Rm⟩ := m216_19 (d + 83) a ha F (fun p _ => dv p) (W 408) 0 k (by omega) Kk.mm Kk.v1 (R.sp Fk)
  have eq : (rB F 31 (W 408)).1 = (rB F 1000 (W 408)).1 := by
    rcases rB_eq (fun p _ => dys_f (dv p)) (W 408) (Nat.le_refl _) with ⟨q1, q2⟩ | q
    · rw [q1, q2]
    · rw [q]
  rw [← eq] at em
  refine ⟨(rB F 31 (W 408)).1, k, m, ?_, ?_, SpP.run K Fk Fm Rm⟩
  · rw [E36, ck10 H, ob_some, g10_0 H, ob_some, ob_some, g11_1 H, ob_some, e72, jI, if_neg z10]
    exact ek
  · rw [E216, ck56 Kk.sh, ob_some, e200', jI, if_neg z10]
    exact em
theorem op_best {h : QH} {W : Nat → Nat} {c : Nat} {T : Nat → Nat} (K : K0 h W c T) (R : SoR h W c) (d : Nat) (a1 : Int32) : Op (d + 120) 17 174 [qI a1] h (fun k => SpP h k W c T) := by
  have H := K.sh
  have n8 := K.n8
  have n5 := K.n5
  have e72 := k72 K (d + 118) a1
  have e200 := n200 K.mm (d + 117) a1
  have z00 : nZ 0 = (0 : Int32) := rfl
  have z10 : ¬(nZ 1 = (0 : Int32)) := by decide
  by_cases h1 : ltN a1 (W 409)
  case neg =>
    rw [bI_f h1] at e72 e200
    refine ⟨-1, h, h, ?_, ?_, SpP.same K R⟩
    · rw [E17, ck10 H, ob_some, g10_0 H, ob_some, ob_some, g11_1 H, ob_some, e72, jI, if_pos z00]
    · rw [E174, ck56 H, ob_some, e200, jI, if_pos z00]
  rw [bI_t h1] at e72
  obtain ⟨a, ha, rfl⟩ := ltN_ex h1
  have cho : ∃ F : Nat → Int32, ∀ p, dys W a (2 ^ W 408 - 1) (2 ^ p) (F p) := ⟨fun p => Classical.choose (dys_ex (W := W) (a := a)), fun p => Classical.choose_spec (dys_ex (W := W) (a := a))⟩
  obtain ⟨F, dv⟩ := cho
  obtain ⟨k, ek, Fk⟩ := c17_24 (d + 113) a ha F (fun p _ => dv p) (W 408) 0 h (by omega) K.ck
  have Kk := K.fr Fk nK_fSp
  have e200' := n200 Kk.mm (d + 117) (nZ a)
  rw [bI_t h1] at e200'
  obtain ⟨m, em, Fm, Rm⟩ := m174_19 (d + 83) a ha F (fun p _ => dv p) (W 408) 0 k (by omega) Kk.mm Kk.v1 (R.sp Fk)
  have eq : (rB F 31 (W 408)).1 = (rB F 1000 (W 408)).1 := by
    rcases rB_eq (fun p _ => dys_f (dv p)) (W 408) (Nat.le_refl _) with ⟨q1, q2⟩ | q
    · rw [q1, q2]
    · rw [q]
  rw [← eq] at em
  refine ⟨(rB F 31 (W 408)).1, k, m, ?_, ?_, SpP.run K Fk Fm Rm⟩
  · rw [E17, ck10 H, ob_some, g10_0 H, ob_some, ob_some, g11_1 H, ob_some, e72, jI, if_neg z10]
    exact ek
  · rw [E174, ck56 Kk.sh, ob_some, e200', jI, if_neg z10]
    exact em

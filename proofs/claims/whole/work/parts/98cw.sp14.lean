/-! soonest, without, start -/
def kwB (W : Nat → Nat) (a p : Nat) : Bool := decide (0 < W (60 + 5 * p + a))
def kw (W : Nat → Nat) (a : Nat) : Nat := mb (kwB W a) (W 408)
theorem kw_lt {W : Nat → Nat} {a : Nat} (n8 : W 408 ≤ 8) : kw W a < 256 := Nat.lt_of_lt_of_le (mb_lt (W 408)) (Nat.pow_le_pow_right (n := 2) (by decide) n8)
theorem all_tb {n i : Nat} : (2 ^ n - 1).testBit i = decide (i < n) := Nat.testBit_two_pow_sub_one n i
theorem kw_sbs {W : Nat → Nat} {a : Nat} : sbs (kw W a) (2 ^ W 408 - 1) := fun i _ z => by
  unfold kw at z
  rw [mb_tb, Bool.and_eq_true] at z
  rw [all_tb]
  exact z.1
theorem CK.k82 {h : QH} {W : Nat → Nat} (X : CK h W) (d : Nat) {p a : Nat} (hp : p < 8) (ha : a < 5) : qcl (d + 2) 82 [qR (some 12), qI (nZ p), qI (nZ a)] h = some (some (qI (nZ (W (60 + 5 * p + a)))), h) := by
  have e : hI h 16 (p * 5 + a) = nZ (W (60 + (p * 5 + a))) := X.2.1.1.2.2.2.2.2 (p * 5 + a) (by omega)
  rw [c82 X.1 d p a hp ha, e, show 60 + (p * 5 + a) = 60 + 5 * p + a by omega]
theorem CK.n8 {h : QH} {W : Nat → Nat} (X : CK h W) : W 408 ≤ 8 := X.2.2.1 408 (by decide) (by decide)
theorem CK.n5 {h : QH} {W : Nat → Nat} (X : CK h W) : W 409 ≤ 5 := X.2.2.1 409 (by decide) (by decide)
theorem CK.c12 {h : QH} {W : Nat → Nat} (X : CK h W) : hI h 12 0 = nZ (W 408) := X.2.1.1.1
theorem WI.bk {W : Nat → Nat} (w : WI W) {p a : Nat} (hp : p < 8) (ha : a < 5) : W (60 + 5 * p + a) < 2147483648 := Nat.lt_of_le_of_lt (w.1 (60 + 5 * p + a) (by omega) (by omega)) (bnd_big _)
theorem c81_4 {h : QH} {W : Nat → Nat} (X : CK h W) (d a : Nat) (ha : a < 5) : ∀ m p, p + m = W 408 → qbig (d + 3) 81 4 [sR (some 12), sI (nZ a), sI (nZ (mb (kwB W a) p)), sI (nZ p)] [] h = some (some (qI (nZ (kw W a))), h)
  | 0, p, e => by
    have e' : p = W 408 := by omega
    have n8 := X.n8
    have H := X.1
    have lt1 : ¬(nZ p < nZ (W 408)) := by
      rw [nZ_lt (by omega) (by omega)]
      omega
    rw [E81_4, g12_0 H, ob_some, X.c12, if_neg lt1, e']
    rfl
  | m + 1, p, e => by
    have n8 := X.n8
    have H := X.1
    have hp : p < 8 := by omega
    have lt1 : nZ p < nZ (W 408) := by
      rw [nZ_lt (by omega) (by omega)]
      omega
    have ip : nZ p + 1 = nZ (p + 1) := by rw [L1, nZ_add]
    have ih := c81_4 X d a ha m (p + 1) (by omega)
    have e82 := X.k82 d (p := p) (a := a) hp ha
    have bk := X.2.2.bk hp ha
    have es : mb (kwB W a) (p + 1) = if kwB W a p = true then mb (kwB W a) p ||| 2 ^ p else mb (kwB W a) p := rfl
    rw [es] at ih
    by_cases c : 0 < W (60 + 5 * p + a)
    · have g : (0 : Int32) < nZ (W (60 + 5 * p + a)) := by
        rw [L0, nZ_lt (by decide) bk]
        exact c
      rw [if_pos (show kwB W a p = true from decide_eq_true c)] at ih
      rw [E81_4, g12_0 H, ob_some, X.c12, if_pos lt1, e82, jI, if_pos g, bit_set (by omega), ip]
      exact ih
    · have g : ¬((0 : Int32) < nZ (W (60 + 5 * p + a))) := by
        rw [L0, nZ_lt (by decide) bk]
        exact c
      rw [if_neg (show ¬(kwB W a p = true) from fun z => c (of_decide_eq_true z))] at ih
      rw [E81_4, g12_0 H, ob_some, X.c12, if_pos lt1, e82, jI, if_neg g, ip]
      exact ih
theorem c81 {h : QH} {W : Nat → Nat} (X : CK h W) (d a : Nat) (ha : a < 5) : qcl (d + 3) 81 [qR (some 12), qI (nZ a)] h = some (some (qI (nZ (kw W a))), h) := by
  rw [E81, ck12 X.1, ob_some]
  exact c81_4 X d a ha (W 408) 0 (by omega)
theorem m211_4 {h : QH} {W : Nat → Nat} (M : MM h W) (d a : Nat) (ha : a < 5) : ∀ m p, p + m = W 408 → qbig (d + 2) 211 4 [sR (some 56), sI (nZ a), sI (nZ (mb (kwB W a) p)), sI (nZ p)] [] h = some (some (qI (nZ (kw W a))), h)
  | 0, p, e => by
    have e' : p = W 408 := by omega
    have n8 := M.n8
    have lt1 : ¬(nZ p < nZ (W 408)) := by
      rw [nZ_lt (by omega) (by omega)]
      omega
    rw [E211_4, n232 M d, jI, if_neg lt1, e']
    rfl
  | m + 1, p, e => by
    have n8 := M.n8
    have hp : p < 8 := by omega
    have lt1 : nZ p < nZ (W 408) := by
      rw [nZ_lt (by omega) (by omega)]
      omega
    have ip : nZ p + 1 = nZ (p + 1) := by rw [L1, nZ_add]
    have ih := m211_4 M d a ha m (p + 1) (by omega)
    have e212 := n212 M d (p := p) (a := a) hp ha
    have bk := M.2.2.bk hp ha
    have es : mb (kwB W a) (p + 1) = if kwB W a p = true then mb (kwB W a) p ||| 2 ^ p else mb (kwB W a) p := rfl
    rw [es] at ih
    by_cases c : 0 < W (60 + 5 * p + a)
    · have g : (0 : Int32) < nZ (W (60 + 5 * p + a)) := by
        rw [L0, nZ_lt (by decide) bk]
        exact c
      rw [if_pos (show kwB W a p = true from decide_eq_true c)] at ih
      rw [E211_4, n232 M d, jI, if_pos lt1, e212, jI, if_pos g, bit_set (by omega), ip]
      exact ih
    · have g : ¬((0 : Int32) < nZ (W (60 + 5 * p + a))) := by
        rw [L0, nZ_lt (by decide) bk]
        exact c
      have o0 : nZ (mb (kwB W a) p) ||| 0 = nZ (mb (kwB W a) p) := by rw [L0, nZ_or, Nat.or_zero]
      rw [if_neg (show ¬(kwB W a p = true) from fun z => c (of_decide_eq_true z))] at ih
      rw [E211_4, n232 M d, jI, if_pos lt1, e212, jI, if_neg g, o0, ip]
      exact ih
theorem m211 {h : QH} {W : Nat → Nat} (M : MM h W) (d a : Nat) (ha : a < 5) : qcl (d + 2) 211 [qR (some 56), qI (nZ a)] h = some (some (qI (nZ (kw W a))), h) := by
  rw [E211, ck56 M.1, ob_some]
  exact m211_4 M d a ha (W 408) 0 (by omega)
theorem c51 {h : QH} {W : Nat → Nat} (X : CK h W) (d a E K : Nat) (ha : a < W 409) (hE : E < 256) (hK : K < 256) (sK : sbs K E) : ∃ k v, qcl (d + 5) 51 [qR (some 10), qI (nZ a), qI (nZ E), qI (nZ K)] h = some (some (qI v), k) ∧ Fr fSp h k ∧ dys W a E K v := by
  have H := X.1
  obtain ⟨h1, e1, F1, C1⟩ := c139 X (d + 1) a E ha hE
  have X1 := X.fr F1 fSp_n
  have H1 := X1.1
  obtain ⟨k, v, e2, F2, dv⟩ := c131 X1 d a E K ha hE hK sK C1
  refine ⟨k, v, ?_, F1.trans (F2.mono fG_Sp), dv⟩
  rw [E51, ck10 H, ob_some, g10_6 H, ob_some, g10_0 H, ob_some, e1, jV, g10_6 H1, ob_some, g10_0 H1, ob_some, ob_some, g11_0 H1, ob_some, e2, jI]
theorem c52 {h : QH} {W : Nat → Nat} (X : CK h W) (d a p : Nat) (ha : a < W 409) (hp : p < W 408) : ∃ k v, qcl (d + 6) 52 [qR (some 10), qI (nZ a), qI (nZ p)] h = some (some (qI v), k) ∧ Fr fSp h k ∧ dys W a (sd (2 ^ W 408 - 1) (2 ^ p)) (kw W a &&& sd (2 ^ W 408 - 1) (2 ^ p)) v := by
  have H := X.1
  have n8 := X.n8
  have n5 := X.n5
  have l := two_8 n8
  have l2 : sd (2 ^ W 408 - 1) (2 ^ p) < 256 := Nat.lt_of_le_of_lt sd_le l
  have e79 := c79 H (d + 4) _ X.c12 n8
  have e81 := c81 X (d + 2) a (by omega)
  obtain ⟨k, v, e51, F, dv⟩ := c51 X d a (sd (2 ^ W 408 - 1) (2 ^ p)) (kw W a &&& sd (2 ^ W 408 - 1) (2 ^ p)) ha l2 (Nat.lt_of_le_of_lt Nat.and_le_right l2) (fun i _ z => by
    rw [Nat.testBit_and, Bool.and_eq_true] at z
    exact z.2)
  have eo : nZ (2 ^ W 408 - 1) &&& (((1 : Int32) <<< (nZ p &&& 31)) ^^^ (-1)) = nZ (sd (2 ^ W 408 - 1) (2 ^ p)) := by
    rw [L31, nZ_and, and31 (by omega), L1, nZ_shl (by omega), Nat.one_shiftLeft]
    exact sd_i
  refine ⟨k, v, ?_, F, dv⟩
  rw [E52, ck10 H, ob_some, g10_0 H, ob_some, ob_some, g11_0 H, ob_some, e79, jI, g10_0 H, ob_some, ob_some, g11_0 H, ob_some, e81, jI, eo, nZ_and, e51, jI]
/-- all that both may touch -/
def fSS (b j : Nat) : Bool := fSp b j || fSo b j
theorem fSp_SS (b j : Nat) (h : fSp b j = true) : fSS b j = true := by
  unfold fSS
  rw [h]
  rfl
theorem fSo_SS (b j : Nat) (h : fSo b j = true) : fSS b j = true := by
  unfold fSS
  rw [h, Bool.or_true]
theorem nW_fSp : nW fSp := by
  refine ⟨?_, ?_, ?_, rfl, rfl⟩
  · intro b j hb
    unfold fSp
    split <;> first | omega | rfl
  · intro b j h1 h2
    exact fSp_n b j h1 h2
  · intro b j hb
    unfold fSp
    split <;> first | omega | rfl
theorem nW_fSo : nW fSo := by
  refine ⟨?_, ?_, ?_, rfl, rfl⟩
  · intro b j hb
    unfold fSo
    split <;> first | omega | rfl
  · intro b j h1 h2
    unfold fSo
    split <;> first | omega | rfl
  · intro b j hb
    unfold fSo
    split <;> first | omega | rfl
theorem nK_fSp : nK fSp := ⟨nW_fSp, fun j => ⟨rfl, rfl, rfl, rfl, rfl, rfl, rfl⟩, ⟨rfl, rfl, rfl, rfl, rfl⟩⟩
theorem nK_fSo : nK fSo := ⟨nW_fSo, fun j => ⟨rfl, rfl, rfl, rfl, rfl, rfl, rfl⟩, ⟨rfl, rfl, rfl, rfl, rfl⟩⟩
def SpP (h k : QH) (W : Nat → Nat) (c : Nat) (T : Nat → Nat) : Prop := K0 k W c T ∧ Fr fSS h k ∧ SoR k W c
theorem SpP.same {h : QH} {W : Nat → Nat} {c : Nat} {T : Nat → Nat} (K : K0 h W c T) (R : SoR h W c) : SpP h h W c T := ⟨K, Fr.refl, R⟩
theorem K0.ck {h : QH} {W : Nat → Nat} {c : Nat} {T : Nat → Nat} (K : K0 h W c T) : CK h W := ⟨K.sh, K.2.2.2.2.1, K.wi⟩
theorem K0.mm {h : QH} {W : Nat → Nat} {c : Nat} {T : Nat → Nat} (K : K0 h W c T) : MM h W := ⟨K.sh, K.mk, K.wi⟩
theorem K0.v1 {h : QH} {W : Nat → Nat} {c : Nat} {T : Nat → Nat} (K : K0 h W c T) : hI h 56 1 = nZ c := K.2.2.2.2.2.1.2
theorem SoR.of {h k : QH} {W : Nat → Nat} {c : Nat} (R : SoR h W c) (e : ∀ j, 35 ≤ j → j ≤ 38 → hI k 56 j = hI h 56 j) (e4 : ∀ j, hI k 74 j = hI h 74 j) : SoR k W c := by
  refine ⟨by rw [e 37 (by decide) (by decide)]; exact R.1, fun z => ?_⟩
  rw [e 37 (by decide) (by decide)] at z
  obtain ⟨a, E, r1, r2, r3, r4⟩ := R.2 z
  refine ⟨a, E, r1, ⟨?_, ?_⟩, ?_, fun y K h1 h2 => ?_⟩
  · rw [e 35 (by decide) (by decide)]
    exact r2.1
  · rw [e 38 (by decide) (by decide)]
    exact r2.2
  · rw [e 36 (by decide) (by decide)]
    exact r3
  · rw [e4]
    exact r4 y K h1 h2
theorem SoR.sp {h k : QH} {W : Nat → Nat} {c : Nat} (R : SoR h W c) (F : Fr fSp h k) : SoR k W c := R.of (fun j _ _ => F.2 56 j rfl) (fun j => F.2 74 j rfl)
theorem SpP.run {h k m : QH} {W : Nat → Nat} {c : Nat} {T : Nat → Nat} (K : K0 h W c T) (F : Fr fSp h k) (G : Fr fSo k m) (R : SoR m W c) : SpP h m W c T := ⟨(K.fr F nK_fSp).fr G nK_fSo, (F.mono fSp_SS).trans (G.mono fSo_SS), R⟩
theorem kw_and {W : Nat → Nat} {a : Nat} (n8 : W 408 ≤ 8) : kw W a &&& (2 ^ W 408 - 1) = kw W a := (and_sbs (kw_lt n8)).2 kw_sbs
theorem op_soonest {h : QH} {W : Nat → Nat} {c : Nat} {T : Nat → Nat} (K : K0 h W c T) (R : SoR h W c) (d : Nat) (a1 : Int32) : Op (d + 120) 50 258 [qI a1] h (fun k => SpP h k W c T) := by
  have H := K.sh
  have n8 := K.n8
  have n5 := K.n5
  have e72 := k72 K (d + 118) a1
  have e200 := n200 K.mm (d + 117) a1
  have z00 : nZ 0 = (0 : Int32) := rfl
  have z10 : ¬(nZ 1 = (0 : Int32)) := by decide
  by_cases h1 : ltN a1 (W 409)
  case neg =>
    rw [bI_f h1] at e72 e200
    refine ⟨-1, h, h, ?_, ?_, SpP.same K R⟩
    · rw [E50, ck10 H, ob_some, g10_0 H, ob_some, ob_some, g11_1 H, ob_some, e72, jI, if_pos z00]
    · rw [E258, ck56 H, ob_some, e200, jI, if_pos z00]
  rw [bI_t h1] at e72
  obtain ⟨a, ha, rfl⟩ := ltN_ex h1
  have e79 := k79 K (d + 118)
  have e81 := c81 K.ck (d + 116) a (by omega)
  obtain ⟨k, v, e51, F, dv⟩ := c51 K.ck (d + 114) a (2 ^ W 408 - 1) (kw W a) ha (two_8 n8) (kw_lt n8) kw_sbs
  have Kk := K.fr F nK_fSp
  have e200' := n200 Kk.mm (d + 117) (nZ a)
  rw [bI_t h1] at e200'
  have e211 := m211 Kk.mm (d + 117) a (by omega)
  obtain ⟨m, v', e257, G, Rm, _, _, dv'⟩ := m257 Kk.mm (d + 84) a (-1) (2 ^ W 408 - 1) (kw W a) Kk.v1 (R.sp F) ha (Or.inl ⟨rfl, rfl⟩) (kw_lt n8)
  rw [kw_and n8] at dv'
  have ev := dys_u dv' dv
  rw [ev] at e257
  refine ⟨v, k, m, ?_, ?_, SpP.run K F G Rm⟩
  · rw [E50, ck10 H, ob_some, g10_0 H, ob_some, ob_some, g11_1 H, ob_some, e72, jI, if_neg z10, g10_0 H, ob_some, ob_some, g11_0 H, ob_some, e79, jI, g10_0 H, ob_some, ob_some, g11_0 H, ob_some, e81, jI, e51, jI]
  · rw [E258, ck56 Kk.sh, ob_some, e200', jI, if_neg z10, e211, jI, e257, jI]
theorem m275 {h : QH} {W : Nat → Nat} {c : Nat} (M : MM h W) (d a p : Nat) (v1 : hI h 56 1 = nZ c) (R : SoR h W c) (ha : a < W 409) (hp : p < W 408) : ∃ k v, qcl (d + 36) 275 [qR (some 56), qI (nZ a), qI (nZ p)] h = some (some (qI v), k) ∧ Fr fSo h k ∧ SoR k W c ∧ dys W a (sd (2 ^ W 408 - 1) (2 ^ p)) (kw W a &&& sd (2 ^ W 408 - 1) (2 ^ p)) v := by
  have H := M.1
  have n8 := M.n8
  have n5 := M.n5
  have z10 : ¬(nZ 1 = (0 : Int32)) := by decide
  have h1 : ltN (nZ a) (W 409) := by
    rw [ltN_n (by omega)]
    exact ha
  have h2 : ltN (nZ p) (W 408) := by
    rw [ltN_n (by omega)]
    exact hp
  have e200 := n200 M (d + 33) (nZ a)
  have e203 := n203 M (d + 33) (nZ p)
  rw [bI_t h1] at e200
  rw [bI_t h2] at e203
  have e211 := m211 M (d + 33) a (by omega)
  obtain ⟨m, v', e257, G, Rm, _, _, dv'⟩ := m257 M d a (nZ p) (sd (2 ^ W 408 - 1) (2 ^ p)) (kw W a) v1 R ha (Or.inr ⟨p, hp, rfl, rfl⟩) (kw_lt n8)
  refine ⟨m, v', ?_, G, Rm, dv'⟩
  rw [E275, ck56 H, ob_some, e200, jI, if_neg z10, e203, jI, if_neg z10, e211, jI, e257, jI]
theorem m261 {h : QH} {W : Nat → Nat} {c : Nat} (M : MM h W) (d a p : Nat) (v1 : hI h 56 1 = nZ c) (R : SoR h W c) (ha : a < W 409) (hp : p < W 408) : ∃ k v, qcl (d + 36) 261 [qR (some 56), qI (nZ a), qI (nZ p)] h = some (some (qI v), k) ∧ Fr fSo h k ∧ SoR k W c ∧ dys W a (2 ^ W 408 - 1) (2 ^ p) v := by
  have H := M.1
  have n8 := M.n8
  have n5 := M.n5
  have z10 : ¬(nZ 1 = (0 : Int32)) := by decide
  have h1 : ltN (nZ a) (W 409) := by
    rw [ltN_n (by omega)]
    exact ha
  have h2 : ltN (nZ p) (W 408) := by
    rw [ltN_n (by omega)]
    exact hp
  have e200 := n200 M (d + 33) (nZ a)
  have e203 := n203 M (d + 33) (nZ p)
  rw [bI_t h1] at e200
  rw [bI_t h2] at e203
  have p8 : 2 ^ p < 256 := by
    have : 2 ^ p ≤ 2 ^ 7 := Nat.pow_le_pow_right (by decide) (by omega)
    omega
  have ep : (1 : Int32) <<< (nZ p &&& 31) = nZ (2 ^ p) := by
    rw [L31, nZ_and, and31 (by omega), L1, nZ_shl (by omega), Nat.one_shiftLeft]
  have ea : 2 ^ p &&& (2 ^ W 408 - 1) = 2 ^ p := (and_sbs p8).2 (fun i _ z => by
    rw [Nat.testBit_two_pow] at z
    have : p = i := of_decide_eq_true z
    rw [all_tb, decide_eq_true (by omega)])
  obtain ⟨m, v', e257, G, Rm, _, _, dv'⟩ := m257 M d a (-1) (2 ^ W 408 - 1) (2 ^ p) v1 R ha (Or.inl ⟨rfl, rfl⟩) p8
  rw [ea] at dv'
  refine ⟨m, v', ?_, G, Rm, dv'⟩
  rw [E261, ck56 H, ob_some, e200, jI, if_neg z10, e203, jI, if_neg z10, ep, e257, jI]

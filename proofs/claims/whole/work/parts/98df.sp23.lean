/-! the reference's fewest showings; fewest -/
def shS (h : QH) (W : Nat → Nat) (a E s : Nat) : Prop := ∀ T, s ≤ T → T ≤ E → ∃ v, hI h 76 T = nZ v ∧ shv W a E T v
def wk (x : Int32) (p : Nat) : Prop := x = -1 ∨ nZ p = x
theorem or_le_all {n K Q : Nat} (h1 : K ≤ 2 ^ n - 1) (h2 : Q ≤ 2 ^ n - 1) : K ||| Q ≤ 2 ^ n - 1 := by
  have p := Nat.one_le_two_pow (n := n)
  have := Nat.or_lt_two_pow (n := n) (x := K) (y := Q) (by omega) (by omega)
  omega
theorem m252_69 {h : QH} {W : Nat → Nat} (M : MM h W) (d a K p : Nat) (x : Int32) (ha : a < 5) (hK : K ≤ 2 ^ W 408 - 1) (O0 : Nat → Prop) (S : shS h W a (2 ^ W 408 - 1) (K + 1)) : ∀ k b, k < 2 ^ pc (fm W (2 ^ W 408 - 1) K p) → bsO W a (2 ^ W 408 - 1) K (fun Q => O0 Q ∨ ∃ j, k < j ∧ j < 2 ^ pc (fm W (2 ^ W 408 - 1) K p) ∧ Q = dp (fm W (2 ^ W 408 - 1) K p) j ∧ pc Q ≤ W (41 + 4 * a)) b → ∃ b', qbig (d + 2) 252 69 [sR (some 56), sI (nZ K), sI (nZ a), sI x, sI (nZ b), sI (nZ p), sI (nZ (fm W (2 ^ W 408 - 1) K p)), sI (nZ (dp (fm W (2 ^ W 408 - 1) K p) k))] [] h = qbig (d + 2) 252 8 [sR (some 56), sI (nZ K), sI (nZ a), sI x, sI (nZ b'), sI (nZ (p + 1)), none, none] [] h ∧ bsO W a (2 ^ W 408 - 1) K (fun Q => O0 Q ∨ ∃ j, 0 < j ∧ j < 2 ^ pc (fm W (2 ^ W 408 - 1) K p) ∧ Q = dp (fm W (2 ^ W 408 - 1) K p) j ∧ pc Q ≤ W (41 + 4 * a)) b'
  | 0, b, hk, hb => by
    have l8 := two_8 M.n8
    obtain ⟨d1, d2, d3, d4, d5, d6⟩ := dp_2 _ (fm_lt (W := W) (K := K) (p := p) l8)
    have ip : nZ p + 1 = nZ (p + 1) := by rw [L1, nZ_add]
    refine ⟨b, ?_, hb⟩
    rw [d1, E252_69, if_neg (by decide), ip]
  | k + 1, b, hk, hb => by
    have H := M.1
    have w := M.2.2
    have l8 := two_8 M.n8
    have bt := (w.bt ha).2
    have f8 := fm_lt (W := W) (K := K) (p := p) l8
    obtain ⟨d1, d2, d3, d4, d5, d6⟩ := dp_2 _ f8
    obtain ⟨n1, n2, n3⟩ := dp_1 _ f8 k (by omega) hk
    obtain ⟨s1', s2'⟩ := d6 (k + 1) hk
    have p8 := (pc_le _ s1').1
    have up : (0 : Int32) < nZ (dp (fm W (2 ^ W 408 - 1) K p) (k + 1)) := by
      rw [L0, nZ_lt (by decide) (by omega)]
      omega
    have n2' : (nZ (dp (fm W (2 ^ W 408 - 1) K p) (k + 1)) - 1) &&& nZ (fm W (2 ^ W 408 - 1) K p) = nZ (dp (fm W (2 ^ W 408 - 1) K p) k) := n2
    have e228 := m228 d _ s1' h
    have e168 : qcl (d + 1) 168 [qR (some 56), qI (nZ a), qI 1] h = some (some (qI (nZ (W (41 + 4 * a)))), h) := by
      rw [show 41 + 4 * a = 40 + 4 * a + 1 by omega]
      exact n168 M d (a := a) (f := 1) ha (by decide)
    by_cases cs : W (41 + 4 * a) < pc (dp (fm W (2 ^ W 408 - 1) K p) (k + 1))
    · have g : nZ (W (41 + 4 * a)) < nZ (pc (dp (fm W (2 ^ W 408 - 1) K p) (k + 1))) := by
        rw [nZ_lt (by omega) (by omega)]
        exact cs
      obtain ⟨b', eb, r⟩ := m252_69 M d a K p x ha hK O0 S k b (by omega) (bsO_c hb (fun Q => by
        constructor
        · rintro (q | ⟨j, j1, j2⟩)
          · exact Or.inl q
          · exact Or.inr ⟨j, by omega, j2⟩
        · rintro (q | ⟨j, j1, j2, j3, j4⟩)
          · exact Or.inl q
          · have : j ≠ k + 1 := fun c => by
              rw [c] at j3
              rw [j3] at j4
              omega
            exact Or.inr ⟨j, by omega, j2, j3, j4⟩))
      refine ⟨b', ?_, r⟩
      rw [E252_69, if_pos up, e228, jI, e168, jI, if_pos g, n2']
      exact eb
    · have g : ¬(nZ (W (41 + 4 * a)) < nZ (pc (dp (fm W (2 ^ W 408 - 1) K p) (k + 1)))) := by
        rw [nZ_lt (by omega) (by omega)]
        exact cs
      have mo := q_more l8 (show dp (fm W (2 ^ W 408 - 1) K p) (k + 1) ≠ 0 by omega) s2'
      have ql : dp (fm W (2 ^ W 408 - 1) K p) (k + 1) ≤ 2 ^ W 408 - 1 := by
        have h1 : dp (fm W (2 ^ W 408 - 1) K p) (k + 1) ≤ fm W (2 ^ W 408 - 1) K p := by
          have : dp (fm W (2 ^ W 408 - 1) K p) (k + 1) &&& fm W (2 ^ W 408 - 1) K p ≤ fm W (2 ^ W 408 - 1) K p := Nat.and_le_right
          omega
        have h2 : fm W (2 ^ W 408 - 1) K p ≤ 2 ^ W 408 - 1 := Nat.le_trans sd_le Nat.and_le_right
        omega
      have ol := or_le_all hK ql
      obtain ⟨v, v1, v2⟩ := S _ (by omega) ol
      have vle := shv_le l8 v2
      have bl := hb.1
      have e1v : (1 : Int32) + nZ v = nZ (1 + v) := by rw [L1, nZ_add]
      have e217 := m217 d b (1 + v) (by omega) (by omega) h
      obtain ⟨b', eb, r⟩ := m252_69 M d a K p x ha hK O0 S k (min b (1 + v)) (by omega) (bsO_c (bsO_s hb v2) (fun Q => by
        constructor
        · rintro ((q | ⟨j, j1, j2⟩) | q)
          · exact Or.inl q
          · exact Or.inr ⟨j, by omega, j2⟩
          · exact Or.inr ⟨k + 1, by omega, hk, q, by rw [q]; omega⟩
        · rintro (q | ⟨j, j1, j2, j3, j4⟩)
          · exact Or.inl (Or.inl q)
          · by_cases c : j = k + 1
            · rw [c] at j3
              exact Or.inr j3
            · exact Or.inl (Or.inr ⟨j, by omega, j2, j3, j4⟩)))
      refine ⟨b', ?_, r⟩
      rw [E252_69, if_pos up, e228, jI, e168, jI, if_neg g, g56_39 H, ob_some, ob_some, nZ_or, A76 H (by omega), ob_some, v1, e1v, e217, jI, n2']
      exact eb
theorem opt_dp {W : Nat → Nat} {a E K p : Nat} (hE : E < 256) (t : K.testBit p = true) (Q : Nat) : (∃ j, 0 < j ∧ j < 2 ^ pc (fm W E K p) ∧ Q = dp (fm W E K p) j ∧ pc Q ≤ W (41 + 4 * a)) ↔ opt W a E K p Q := by
  have f8 := fm_lt (W := W) (K := K) (p := p) hE
  obtain ⟨d1, d2, d3, d4, d5, d6⟩ := dp_2 _ f8
  constructor
  · rintro ⟨j, j1, j2, j3, j4⟩
    have l := dp_lt f8 j1 j2
    rw [d1] at l
    exact ⟨t, by rw [j3]; omega, by rw [j3]; exact (d6 j j2).2, j4⟩
  · rintro ⟨_, q2, q3, q4⟩
    obtain ⟨r1, r2⟩ := dp_3 f8 q3
    refine ⟨ext 8 (fm W E K p) Q, ?_, r1, r2.symm, q4⟩
    apply Nat.pos_of_ne_zero
    intro z
    rw [z, d1] at r2
    exact q2 r2.symm
theorem m252_8 {h : QH} {W : Nat → Nat} (M : MM h W) (d a K : Nat) (x : Int32) (ha : a < 5) (hK : K ≤ 2 ^ W 408 - 1) (S : shS h W a (2 ^ W 408 - 1) (K + 1)) : ∀ m p b, p + m = W 408 → bsO W a (2 ^ W 408 - 1) K (fun Q => ∃ q, q < p ∧ wk x q ∧ opt W a (2 ^ W 408 - 1) K q Q) b → ∃ b', qbig (d + 2) 252 8 [sR (some 56), sI (nZ K), sI (nZ a), sI x, sI (nZ b), sI (nZ p), none, none] [] h = some (some (qI (nZ b')), h) ∧ bsO W a (2 ^ W 408 - 1) K (fun Q => ∃ q, q < W 408 ∧ wk x q ∧ opt W a (2 ^ W 408 - 1) K q Q) b'
  | 0, p, b, e, hb => by
    have e' : p = W 408 := by omega
    have n8 := M.n8
    have lt1 : ¬(nZ p < nZ (W 408)) := by
      rw [nZ_lt (by omega) (by omega)]
      omega
    rw [e'] at hb
    refine ⟨b, ?_, hb⟩
    rw [E252_8, n232 M d, jI, if_neg lt1]
  | m + 1, p, b, e, hb => by
    have H := M.1
    have n8 := M.n8
    have l8 := two_8 n8
    have hp : p < 8 := by omega
    have lt1 : nZ p < nZ (W 408) := by
      rw [nZ_lt (by omega) (by omega)]
      omega
    have ip : nZ p + 1 = nZ (p + 1) := by rw [L1, nZ_add]
    have z00 : nZ 0 = (0 : Int32) := rfl
    have z10 : ¬(nZ 1 = (0 : Int32)) := by decide
    have e196 := m196 d K p h (by omega) (by omega)
    have skip : ¬(K.testBit p = true ∧ wk x p) → ∃ b', qbig (d + 2) 252 8 [sR (some 56), sI (nZ K), sI (nZ a), sI x, sI (nZ b), sI (nZ (p + 1)), none, none] [] h = some (some (qI (nZ b')), h) ∧ bsO W a (2 ^ W 408 - 1) K (fun Q => ∃ q, q < W 408 ∧ wk x q ∧ opt W a (2 ^ W 408 - 1) K q Q) b' := fun n => m252_8 M d a K x ha hK S m (p + 1) b (by omega) (bsO_c hb (fun Q => by
      constructor
      · rintro ⟨q, q1, q2⟩
        exact ⟨q, by omega, q2⟩
      · rintro ⟨q, q1, q2, q3⟩
        have : q ≠ p := fun c => by
          rw [c] at q2 q3
          exact n ⟨q3.1, q2⟩
        exact ⟨q, by omega, q2, q3⟩))
    by_cases ck : K.testBit p = true
    case neg =>
      rw [bI_f ck] at e196
      obtain ⟨b', eb, r⟩ := skip (fun z => ck z.1)
      refine ⟨b', ?_, r⟩
      rw [E252_8, n232 M d, jI, if_pos lt1, e196, jI, if_pos z00, ip]
      exact eb
    rw [bI_t ck] at e196
    by_cases cw : wk x p
    case neg =>
      have c1' : ¬(x = -1) := fun z => cw (Or.inl z)
      have c2' : ¬(nZ p = x) := fun z => cw (Or.inr z)
      obtain ⟨b', eb, r⟩ := skip (fun z => cw z.2)
      refine ⟨b', ?_, r⟩
      rw [E252_8, n232 M d, jI, if_pos lt1, e196, jI, if_neg z10, if_neg c1', if_neg c2', ip]
      exact eb
    have f8 := fm_lt (W := W) (K := K) (p := p) l8
    obtain ⟨d1, d2, d3, d4, d5, d6⟩ := dp_2 _ f8
    obtain ⟨b1, e69, hb1⟩ := m252_69 M d a K p x ha hK (fun Q => ∃ q, q < p ∧ wk x q ∧ opt W a (2 ^ W 408 - 1) K q Q) S (2 ^ pc (fm W (2 ^ W 408 - 1) K p) - 1) b (by omega) (bsO_c hb (fun Q => by
      constructor
      · exact Or.inl
      · rintro (q | ⟨j, j1, j2, _⟩)
        · exact q
        · omega))
    rw [d2] at e69
    obtain ⟨b', eb, r⟩ := m252_8 M d a K x ha hK S m (p + 1) b1 (by omega) (bsO_c hb1 (fun Q => by
      constructor
      · rintro (⟨q, q1, q2⟩ | q)
        · exact ⟨q, by omega, q2⟩
        · exact ⟨p, by omega, cw, (opt_dp l8 ck Q).1 q⟩
      · rintro ⟨q, q1, q2, q3⟩
        by_cases c : q = p
        · rw [c] at q3
          exact Or.inr ((opt_dp l8 ck Q).2 q3)
        · exact Or.inl ⟨q, by omega, q2, q3⟩))
    refine ⟨b', ?_, r⟩
    have ix : (32 : Int32) + nZ p = nZ (32 + p) := by rw [L32, nZ_add]
    have e58 : hI h 58 (32 + p) = nZ (W (32 + p)) := M.at (by omega) (by omega)
    have pw : ((1 : Int32) <<< (nZ (W 408) &&& 31)) - 1 = nZ (2 ^ W 408 - 1) := by
      rw [L31, nZ_and, and31 (by omega), L1, nZ_shl (by omega), Nat.one_shiftLeft, nZ_sub Nat.one_le_two_pow]
    have eF : (nZ (W (32 + p)) &&& (nZ K ^^^ (-1))) &&& (((1 : Int32) <<< (nZ (W 408) &&& 31)) - 1) = nZ (fm W (2 ^ W 408 - 1) K p) := by
      rw [pw, sd_i, nZ_and]
      have : sd (W (32 + p)) K &&& (2 ^ W 408 - 1) = fm W (2 ^ W 408 - 1) K p := by
        unfold fm sd
        rw [Nat.and_assoc, Nat.and_comm (K ^^^ 4294967295), ← Nat.and_assoc]
      rw [this]
    by_cases c1' : x = -1
    · rw [E252_8, n232 M d, jI, if_pos lt1, e196, jI, if_neg z10, if_pos c1', g56_3 H, ob_some, ob_some, ix, A58 H (by omega), ob_some, e58, n232 M d, jI, eF]
      exact e69.trans eb
    · have c2' : nZ p = x := by
        rcases cw with q | q
        · exact absurd q c1'
        · exact q
      rw [E252_8, n232 M d, jI, if_pos lt1, e196, jI, if_neg z10, if_neg c1', if_pos c2', g56_3 H, ob_some, ob_some, ix, A58 H (by omega), ob_some, e58, n232 M d, jI, eF]
      exact e69.trans eb
theorem m252 {h : QH} {W : Nat → Nat} (M : MM h W) (d a K : Nat) (x : Int32) (ha : a < 5) (hK : K ≤ 2 ^ W 408 - 1) (S : shS h W a (2 ^ W 408 - 1) (K + 1)) : ∃ b, qcl (d + 2) 252 [qR (some 56), qI (nZ K), qI (nZ a), qI x] h = some (some (qI (nZ b)), h) ∧ bsO W a (2 ^ W 408 - 1) K (fun Q => ∃ q, q < W 408 ∧ wk x q ∧ opt W a (2 ^ W 408 - 1) K q Q) b := by
  obtain ⟨b, eb, r⟩ := m252_8 M d a K x ha hK S (W 408) 0 1000 (by omega) (bsO_c bsO_0 (fun Q => ⟨False.elim, fun ⟨q, q1, _⟩ => by omega⟩))
  refine ⟨b, ?_, r⟩
  rw [E252, ck56 M.1, ob_some]
  exact eb
theorem in_all {W : Nat → Nat} {K q : Nat} (n8 : W 408 ≤ 8) (hK : K ≤ 2 ^ W 408 - 1) (hq : q < 8) (t : K.testBit q = true) : q < W 408 := by
  have := all_le hK q hq t
  rw [all_tb] at this
  exact of_decide_eq_true this
theorem m251_11 {W : Nat → Nat} (d a : Nat) (ha : a < 5) : ∀ m h x, m ≤ 2 ^ W 408 → (0 < m → x = nZ (m - 1)) → (m = 0 → x < 0) → MM h W → shS h W a (2 ^ W 408 - 1) m → ∃ k, qbig (d + 3) 251 11 [sR (some 56), sI (nZ a), sI (nZ (2 ^ W 408 - 1)), sI x] [] h = some (none, k) ∧ Fr (fO 76) h k ∧ shS k W a (2 ^ W 408 - 1) 0
  | 0, h, x, _, _, ex, M, S => by
    refine ⟨h, ?_, Fr.refl, S⟩
    rw [E251_11, if_pos (ex rfl)]
  | m + 1, h, x, hm, ex, _, M, S => by
    have H := M.1
    have n8 := M.n8
    have l8 := two_8 n8
    have hx := ex (by omega)
    rw [show m + 1 - 1 = m by omega] at hx
    subst hx
    have s8 : m < 256 := by omega
    have nl : ¬(nZ m < 0) := by
      rw [L0, nZ_lt (by omega) (by decide)]
      omega
    have nx1 : 0 < m → nZ m + (-1) = nZ (m - 1) := fun _ => by
      rw [nZ_neg1, nZ_m1 (by omega)]
    have nx0 : m = 0 → nZ m + (-1) < 0 := fun e0 => by
      rw [e0]
      decide
    have go : ∀ v, shv W a (2 ^ W 408 - 1) m v → ∃ k, qbig (d + 3) 251 11 [sR (some 56), sI (nZ a), sI (nZ (2 ^ W 408 - 1)), sI (nZ m + (-1))] [] (hsI h 76 m (nZ v)) = some (none, k) ∧ Fr (fO 76) h k ∧ shS k W a (2 ^ W 408 - 1) 0 := fun v sv => by
      have F1 : Fr (fO 76) h (hsI h 76 m (nZ v)) := Fr.si rfl Fr.refl
      obtain ⟨k, ek, Fk, r⟩ := m251_11 d a ha m (hsI h 76 m (nZ v)) _ (by omega) nx1 nx0 (M.fr F1 (fun j => rfl)) (fun T h1 h2 => by
        by_cases c : T = m
        · rw [c, hI_at rfl]
          exact ⟨v, rfl, sv⟩
        · rw [hI_ne (Or.inr c)]
          exact S T (by omega) h2)
      exact ⟨k, ek, F1.trans Fk, r⟩
    by_cases c : m = 2 ^ W 408 - 1
    · have ce : nZ m = nZ (2 ^ W 408 - 1) := by rw [← c]
      obtain ⟨k, ek, r⟩ := go 0 (Or.inr ⟨by omega, c, fun j hj => by omega⟩)
      refine ⟨k, ?_, r⟩
      rw [E251_11, if_neg nl, g56_39 H, ob_some, if_pos ce, ob_some, L0, S76 H s8, ob_some]
      exact ek
    · have ce : ¬(nZ m = nZ (2 ^ W 408 - 1)) := by
        rw [nZ_eq (by omega) (by omega)]
        exact c
      obtain ⟨b, e252, hb⟩ := m252 M d a m (-1) ha (by omega) S
      have hb' : bsO W a (2 ^ W 408 - 1) m (fun Q => ∃ p, p < 8 ∧ opt W a (2 ^ W 408 - 1) m p Q) b := bsO_c hb (fun Q => by
        constructor
        · rintro ⟨q, q1, _, q3⟩
          exact ⟨q, by omega, q3⟩
        · rintro ⟨q, q1, q3⟩
          exact ⟨q, in_all n8 (by omega) q1 q3.1, Or.inl rfl, q3⟩)
      have sv := bs_shv l8 c hb'
      have bl := hb.1
      have e217 : qcl (d + 2) 217 [qI 1000, qI (nZ b)] h = some (some (qI (nZ b)), h) := by
        have e := m217 (d + 1) 1000 b (by decide) (by omega) h
        rw [Nat.min_eq_right bl] at e
        exact e
      obtain ⟨k, ek, r⟩ := go b sv
      refine ⟨k, ?_, r⟩
      rw [E251_11, if_neg nl, g56_39 H, ob_some, if_neg ce, e252, jI, e217, jI, ob_some, S76 H s8, ob_some]
      exact ek
theorem m251 {h : QH} {W : Nat → Nat} (M : MM h W) (d a : Nat) (ha : a < 5) : ∃ k, qcl (d + 3) 251 [qR (some 56), qI (nZ a)] h = some (none, k) ∧ Fr (fO 76) h k ∧ shS k W a (2 ^ W 408 - 1) 0 := by
  have n8 := M.n8
  have p1' := Nat.one_le_two_pow (n := W 408)
  have pw : ((1 : Int32) <<< (nZ (W 408) &&& 31)) - 1 = nZ (2 ^ W 408 - 1) := by
    rw [L31, nZ_and, and31 (by omega), L1, nZ_shl (by omega), Nat.one_shiftLeft, nZ_sub Nat.one_le_two_pow]
  obtain ⟨k, ek, r⟩ := m251_11 (W := W) d a ha (2 ^ W 408) h (nZ (2 ^ W 408 - 1)) (Nat.le_refl _) (fun _ => rfl) (fun z => by omega) M (fun T h1 h2 => by omega)
  refine ⟨k, ?_, r⟩
  rw [E251, ck56 M.1, ob_some, n232 M (d + 1), jI, pw]
  exact ek
theorem m186_58 {h : QH} {W : Nat → Nat} (M : MM h W) (d a K v : Nat) (ha : a < 5) (hK : K ≤ 2 ^ W 408 - 1) (S : shS h W a (2 ^ W 408 - 1) 0) (z : hI h 76 K = nZ v) (hv : v < 1000) (bF : Nat → Nat) (hF : ∀ p, p < 8 → bsO W a (2 ^ W 408 - 1) K (fun Q => opx W a (2 ^ W 408 - 1) K p Q) (bF p)) : ∀ m p, p + m = W 408 → (∀ q, q < p → bF q ≠ v) → ∃ r, qbig (d + 3) 186 58 [sR (some 56), sI (nZ a), none, sI (nZ K), sI (nZ p)] [] h = some (some (qI r), h) ∧ ((v = 0 ∧ r = -1) ∨ (0 < v ∧ fs1 (fun p => decide (bF p = v)) (W 408) r))
  | 0, p, e, n => by
    have e' : p = W 408 := by omega
    have n8 := M.n8
    have lt1 : ¬(nZ p < nZ (W 408)) := by
      rw [nZ_lt (by omega) (by omega)]
      omega
    refine ⟨-1, ?_, ?_⟩
    · rw [E186_58, n232 M (d + 1), jI, if_neg lt1]
    · by_cases c : v = 0
      · exact Or.inl ⟨c, rfl⟩
      · exact Or.inr ⟨by omega, Or.inl ⟨rfl, fun j hj => decide_eq_false (n j (by omega))⟩⟩
  | m + 1, p, e, n => by
    have H := M.1
    have n8 := M.n8
    have l8 := two_8 n8
    have lt1 : nZ p < nZ (W 408) := by
      rw [nZ_lt (by omega) (by omega)]
      omega
    have ip : nZ p + 1 = nZ (p + 1) := by rw [L1, nZ_add]
    have k8 : K < 256 := by omega
    by_cases c0 : v = 0
    · have g : ¬((0 : Int32) < nZ v) := by
        rw [c0]
        decide
      have loop : ∀ m p, p + m = W 408 → qbig (d + 3) 186 58 [sR (some 56), sI (nZ a), none, sI (nZ K), sI (nZ p)] [] h = some (some (qI (-1)), h) := by
        intro m
        induction m with
        | zero =>
          intro p e
          have lt1 : ¬(nZ p < nZ (W 408)) := by
            rw [nZ_lt (by omega) (by omega)]
            omega
          rw [E186_58, n232 M (d + 1), jI, if_neg lt1]
        | succ m ih =>
          intro p e
          have lt1 : nZ p < nZ (W 408) := by
            rw [nZ_lt (by omega) (by omega)]
            omega
          have ip : nZ p + 1 = nZ (p + 1) := by rw [L1, nZ_add]
          rw [E186_58, n232 M (d + 1), jI, if_pos lt1, g56_39 H, ob_some, ob_some, A76 H k8, ob_some, z, if_neg g, ip]
          exact ih (p + 1) (by omega)
      exact ⟨-1, loop (m + 1) p e, Or.inl ⟨c0, rfl⟩⟩
    · have g : (0 : Int32) < nZ v := by
        rw [L0, nZ_lt (by decide) (by omega)]
        omega
      obtain ⟨b, e252, hb⟩ := m252 M d a K (nZ p) ha hK (fun T h1 h2 => S T (Nat.zero_le _) h2)
      have hb' : bsO W a (2 ^ W 408 - 1) K (fun Q => opt W a (2 ^ W 408 - 1) K p Q) b := bsO_c hb (fun Q => by
        constructor
        · rintro ⟨q, q1, q2, q3⟩
          rcases q2 with w | w
          · exact absurd (w.trans nZ_neg1) (fun w => cast (nZ_nneg (a := p) (by omega)) w)
          · rw [nZ_eq (by omega) (by omega)] at w
            rw [w] at q3
            exact q3
        · intro q
          exact ⟨p, by omega, Or.inr rfl, q⟩)
      have eb : b = bF p := bsO_dom l8 hb' (hF p (by omega)) (fun Q q => opx_t q) (fun Q q => opt_x l8 k8 (all_le hK) q)
      rw [eb] at e252
      have bl : bF p ≤ 1000 := (hF p (by omega)).1
      by_cases c : bF p = v
      · have ce : nZ (bF p) = nZ v := by rw [c]
        refine ⟨nZ p, ?_, Or.inr ⟨by omega, Or.inr ⟨p, by omega, rfl, decide_eq_true c, fun j hj => decide_eq_false (n j hj)⟩⟩⟩
        rw [E186_58, n232 M (d + 1), jI, if_pos lt1, g56_39 H, ob_some, ob_some, A76 H k8, ob_some, z, if_pos g, e252, jI, g56_39 H, ob_some, ob_some, A76 H k8, ob_some, z, if_pos ce]
      · have ce : ¬(nZ (bF p) = nZ v) := by
          rw [nZ_eq (by omega) (by omega)]
          exact c
        obtain ⟨r, er, fr'⟩ := m186_58 M d a K v ha hK S z hv bF hF m (p + 1) (by omega) (fun q hq => by
          by_cases cq : q = p
          · rw [cq]
            exact c
          · exact n q (by omega))
        refine ⟨r, ?_, fr'⟩
        rw [E186_58, n232 M (d + 1), jI, if_pos lt1, g56_39 H, ob_some, ob_some, A76 H k8, ob_some, z, if_pos g, e252, jI, g56_39 H, ob_some, ob_some, A76 H k8, ob_some, z, if_neg ce, ip]
        exact er

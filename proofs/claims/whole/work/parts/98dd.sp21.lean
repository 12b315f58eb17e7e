/-! the class's fewest showings -/
def cVv (v : Nat) : Int32 := if v < 1000 then nZ v else -1
theorem cVv_1 {v : Nat} (h : v < 1000) : cVv v = nZ v := if_pos h
theorem cVv_2 {v : Nat} (h : ¬v < 1000) : cVv v = -1 := if_neg h
theorem cVv_n {v : Nat} : cVv v = -1 ↔ ¬v < 1000 := by
  constructor
  · intro h c
    rw [cVv_1 c] at h
    exact cast (nZ_nneg (by omega)) (h.trans nZ_neg1)
  · exact cVv_2
theorem bsO_ex {W : Nat → Nat} {a E K : Nat} (O : Nat → Prop) : ∃ b, bsO W a E K O b := by
  have key : ∀ n, n ≤ 1000 → (∀ Q v, O Q → shv W a E (K ||| Q) v → n ≤ 1 + v) ∨ ∃ b, bsO W a E K O b := by
    intro n
    induction n with
    | zero => exact fun _ => Or.inl (fun _ _ _ _ => Nat.zero_le _)
    | succ n ih =>
      intro hn
      rcases ih (by omega) with h | h
      · by_cases c : ∃ Q v, O Q ∧ shv W a E (K ||| Q) v ∧ n = 1 + v
        · exact Or.inr ⟨n, by omega, h, Or.inr c⟩
        · refine Or.inl (fun Q v h1 h2 => ?_)
          have := h Q v h1 h2
          apply Classical.byContradiction
          intro w
          exact c ⟨Q, v, h1, h2, by omega⟩
      · exact Or.inr h
  rcases key 1000 (Nat.le_refl _) with h | h
  · exact ⟨1000, Nat.le_refl _, h, Or.inl rfl⟩
  · exact h
theorem bsO_or {W : Nat → Nat} {a E K b b' : Nat} {O P : Nat → Prop} (h : bsO W a E K O b) (g : bsO W a E K P b') : bsO W a E K (fun Q => O Q ∨ P Q) (min b b') := by
  have hb := h.1
  have gb := g.1
  refine ⟨by omega, fun Q v q z => ?_, ?_⟩
  · rcases q with q | q
    · have := h.2.1 Q v q z
      omega
    · have := g.2.1 Q v q z
      omega
  · by_cases c : b ≤ b'
    · rw [Nat.min_eq_left c]
      rcases h.2.2 with e | ⟨Q, v, e1, e2⟩
      · exact Or.inl e
      · exact Or.inr ⟨Q, v, Or.inl e1, e2⟩
    · rw [Nat.min_eq_right (by omega)]
      rcases g.2.2 with e | ⟨Q, v, e1, e2⟩
      · exact Or.inl e
      · exact Or.inr ⟨Q, v, Or.inr e1, e2⟩
/-- the choices of p, taken by parts -/
theorem opx_dp {W : Nat → Nat} {a E K p : Nat} (hE : E < 256) (t : K.testBit p = true) (Q : Nat) : (∃ j, 0 < j ∧ j < 2 ^ pc (fm W E K p) ∧ Q = dp (fm W E K p) j ∧ pc Q = min (W (41 + 4 * a)) (pc (fm W E K p))) ↔ opx W a E K p Q := by
  have f8 := fm_lt (W := W) (K := K) (p := p) hE
  obtain ⟨d1, d2, d3, d4, d5, d6⟩ := dp_2 _ f8
  constructor
  · rintro ⟨j, j1, j2, j3, j4⟩
    have l := dp_lt f8 j1 j2
    rw [d1] at l
    exact ⟨t, by rw [j3]; omega, by rw [j3]; exact (d6 j j2).2, j4⟩
  · rintro ⟨_, q2, q3, q4⟩
    obtain ⟨r1, r2⟩ := dp_3 f8 q3
    refine ⟨ext 8 (fm W E K p) Q, ?_, r1, r2.symm, q4⟩
    apply Nat.pos_of_ne_zero
    intro z
    rw [z, d1] at r2
    exact q2 r2.symm
theorem c141_49 {h : QH} {W : Nat → Nat} (H : Sh h) (d a E K p : Nat) (hE : E < 256) (hK : K < 256) (mk : ∀ Q, Q ≠ 0 → Q &&& fm W E K p = Q → ∃ v, hI h 50 (K ||| Q) = cVv v ∧ shv W a E (K ||| Q) v) (sz : Nat) (hsz : sz ≤ 8) : ∀ k b, k < 2 ^ pc (fm W E K p) → bsO W a E K (fun Q => ∃ j, k < j ∧ j < 2 ^ pc (fm W E K p) ∧ Q = dp (fm W E K p) j ∧ pc Q = sz) b → ∃ b', qbig (d + 2) 141 49 [sR (some 45), none, none, sI (nZ K), none, sI (nZ (fm W E K p)), sI (nZ sz), sI (cVv b), sI (nZ (dp (fm W E K p) k)), none] [] h = some (some (qI (cVv b')), h) ∧ bsO W a E K (fun Q => ∃ j, 0 < j ∧ j < 2 ^ pc (fm W E K p) ∧ Q = dp (fm W E K p) j ∧ pc Q = sz) b'
  | 0, b, hk, hb => by
    obtain ⟨d1, d2, d3, d4, d5, d6⟩ := dp_2 _ (fm_lt (W := W) (K := K) (p := p) hE)
    refine ⟨b, ?_, hb⟩
    rw [d1, E141_49, if_neg (by decide)]
  | k + 1, b, hk, hb => by
    have f8 := fm_lt (W := W) (K := K) (p := p) hE
    obtain ⟨d1, d2, d3, d4, d5, d6⟩ := dp_2 _ f8
    obtain ⟨n1, n2, n3⟩ := dp_1 _ f8 k (by omega) hk
    obtain ⟨s1', s2'⟩ := d6 (k + 1) hk
    have p8 := (pc_le _ s1').1
    have up : (0 : Int32) < nZ (dp (fm W E K p) (k + 1)) := by
      rw [L0, nZ_lt (by decide) (by omega)]
      omega
    have n2' : (nZ (dp (fm W E K p) (k + 1)) - 1) &&& nZ (fm W E K p) = nZ (dp (fm W E K p) k) := n2
    have ec1 := c1 d _ s1' h
    by_cases cs : pc (dp (fm W E K p) (k + 1)) = sz
    · have es : nZ (pc (dp (fm W E K p) (k + 1))) = nZ sz := by rw [cs]
      obtain ⟨v, v1, v2⟩ := mk (dp (fm W E K p) (k + 1)) (by omega) s2'
      have ko := or_256 hK s1'
      have vle := shv_le hE v2
      have nb : bsO W a E K (fun Q => ∃ j, k < j ∧ j < 2 ^ pc (fm W E K p) ∧ Q = dp (fm W E K p) j ∧ pc Q = sz) (min b (1 + v)) := bsO_c (bsO_s hb v2) (fun Q => by
        constructor
        · rintro (⟨j, j1, j2⟩ | q)
          · exact ⟨j, by omega, j2⟩
          · exact ⟨k + 1, by omega, hk, q, by rw [q]; exact cs⟩
        · rintro ⟨j, j1, j2, j3, j4⟩
          by_cases c : j = k + 1
          · rw [c] at j3
            exact Or.inr j3
          · exact Or.inl ⟨j, by omega, j2, j3, j4⟩)
      obtain ⟨b', eb, r⟩ := c141_49 H d a E K p hE hK mk sz hsz k (min b (1 + v)) (by omega) nb
      refine ⟨b', ?_, r⟩
      have bl := hb.1
      by_cases cv : v < 1000
      · have nv : ¬(cVv v = -1) := fun z => cVv_n.1 z cv
        have e1v : nZ v + 1 = nZ (v + 1) := by rw [L1, nZ_add]
        by_cases cb : b < 1000
        · have nb' : ¬(cVv b = -1) := fun z => cVv_n.1 z cb
          by_cases cl : v + 1 < b
          · have g : nZ (v + 1) < cVv b := by
              rw [cVv_1 cb, nZ_lt (by omega) (by omega)]
              exact cl
            rw [Nat.min_eq_right (by omega), cVv_1 (show 1 + v < 1000 by omega), Nat.add_comm 1 v] at eb
            rw [E141_49, if_pos up, ec1, jI, if_pos es, g45_11 H, ob_some, ob_some, nZ_or, A50 H ko, ob_some, v1, if_neg nv, if_neg nb', cVv_1 cv, e1v, if_pos g, n2']
            exact eb
          · have g : ¬(nZ (v + 1) < cVv b) := by
              rw [cVv_1 cb, nZ_lt (by omega) (by omega)]
              exact cl
            rw [Nat.min_eq_left (by omega)] at eb
            rw [E141_49, if_pos up, ec1, jI, if_pos es, g45_11 H, ob_some, ob_some, nZ_or, A50 H ko, ob_some, v1, if_neg nv, if_neg nb', cVv_1 cv, e1v, if_neg g, n2']
            exact eb
        · have nb' : cVv b = -1 := cVv_2 cb
          rw [Nat.min_eq_right (by omega)] at eb
          by_cases c999 : 1 + v < 1000
          · rw [cVv_1 c999, Nat.add_comm 1 v] at eb
            rw [E141_49, if_pos up, ec1, jI, if_pos es, g45_11 H, ob_some, ob_some, nZ_or, A50 H ko, ob_some, v1, if_neg nv, if_pos nb', cVv_1 cv, e1v, n2']
            exact eb
          · exfalso
            rcases v2 with ⟨q, _⟩ | ⟨q, _⟩ <;> omega
      · have nv : cVv v = -1 := cVv_2 cv
        rw [Nat.min_eq_left (by omega)] at eb
        rw [E141_49, if_pos up, ec1, jI, if_pos es, g45_11 H, ob_some, ob_some, nZ_or, A50 H ko, ob_some, v1, if_pos nv, n2']
        exact eb
    · have es : ¬(nZ (pc (dp (fm W E K p) (k + 1))) = nZ sz) := by
        rw [nZ_eq (by omega) (by omega)]
        exact cs
      obtain ⟨b', eb, r⟩ := c141_49 H d a E K p hE hK mk sz hsz k b (by omega) (bsO_c hb (fun Q => by
        constructor
        · rintro ⟨j, j1, j2⟩
          exact ⟨j, by omega, j2⟩
        · rintro ⟨j, j1, j2, j3, j4⟩
          have : j ≠ k + 1 := fun c => by
            rw [c] at j3
            rw [j3] at j4
            exact cs j4
          exact ⟨j, by omega, j2, j3, j4⟩))
      refine ⟨b', ?_, r⟩
      rw [E141_49, if_pos up, ec1, jI, if_neg es, if_pos rfl, n2']
      exact eb
theorem c141 {h : QH} {W : Nat → Nat} (X : CK h W) (d a E K p : Nat) (ha : a < 5) (hE : E < 256) (hK : K < 256) (hp : p < 8) (e4 : hI h 45 4 = nZ E) (mk : ∀ Q, Q ≠ 0 → Q &&& fm W E K p = Q → ∃ v, hI h 50 (K ||| Q) = cVv v ∧ shv W a E (K ||| Q) v) : ∃ b, qcl (d + 2) 141 [qR (some 45), qR (some 12), qI (nZ (W (41 + 4 * a))), qI (nZ K), qI (nZ p)] h = some (some (qI (cVv b)), h) ∧ bsO W a E K (fun Q => opx W a E K p Q) b := by
  have H := X.1
  have w := X.2.2
  have bt := (w.bt ha).2
  have z00 : nZ 0 = (0 : Int32) := rfl
  have z10 : ¬(nZ 1 = (0 : Int32)) := by decide
  have eb := bit_get (x := K) (p := p) (by omega) (by omega)
  by_cases c : K.testBit p = true
  · rw [if_pos c] at eb
    have f8 := fm_lt (W := W) (K := K) (p := p) hE
    obtain ⟨d1, d2, d3, d4, d5, d6⟩ := dp_2 _ f8
    have p8 := (pc_le _ f8).1
    have eF : (nZ (W (32 + p)) &&& nZ E) &&& (nZ K ^^^ (-1)) = nZ (fm W E K p) := by
      rw [nZ_and, sd_i]
      rfl
    have esz : (if nZ (pc (fm W E K p)) < nZ (W (41 + 4 * a)) then nZ (pc (fm W E K p)) else nZ (W (41 + 4 * a))) = nZ (min (W (41 + 4 * a)) (pc (fm W E K p))) := by
      by_cases q : pc (fm W E K p) < W (41 + 4 * a)
      · rw [if_pos (by rw [nZ_lt (by omega) (by omega)]; exact q), Nat.min_eq_right (by omega)]
      · rw [if_neg (by rw [nZ_lt (by omega) (by omega)]; exact q), Nat.min_eq_left (by omega)]
    obtain ⟨b', e49, r⟩ := c141_49 H d a E K p hE hK mk (min (W (41 + 4 * a)) (pc (fm W E K p))) (by omega) (2 ^ pc (fm W E K p) - 1) 1000 (by omega) (bsO_c bsO_0 (fun Q => by
      constructor
      · exact False.elim
      · rintro ⟨j, j1, j2, _⟩
        omega))
    rw [d2] at e49
    refine ⟨b', ?_, bsO_c r (opx_dp hE c)⟩
    rw [E141, ck45 H, ob_some, eb, if_neg z10, ob_some, g12_3 H, ob_some, ob_some, A14 H hp, ob_some, X.me hp, g45_4 H, ob_some, e4, eF, c1 d _ f8 h, jI, esz]
    exact e49
  · rw [if_neg c] at eb
    have ec1 : qcl (d + 1) 1 [qI 0] h = some (some (qI (nZ 0)), h) := c1 d 0 (by decide) h
    refine ⟨1000, ?_, bsO_c bsO_0 (fun Q => ⟨False.elim, fun q => absurd q.1 c⟩)⟩
    rw [E141, ck45 H, ob_some, eb, if_pos z00, ec1, jI, E141_49, if_neg (by decide)]
    rfl

/-! the class's fewest showings: all sets; who shows first -/
/-- marks of the sets from s on -/
def mkS (h : QH) (W : Nat → Nat) (a E K0 s : Nat) : Prop := ∀ T, s ≤ T → T < 256 → sbs K0 T → sbs T E → ∃ v, hI h 50 T = cVv v ∧ shv W a E T v
theorem mkS.q {h : QH} {W : Nat → Nat} {a E K0 K p : Nat} (S : mkS h W a E K0 (K + 1)) (hE : E < 256) (hK : K < 256) (s0 : sbs K0 K) (sK : sbs K E) : ∀ Q, Q ≠ 0 → Q &&& fm W E K p = Q → ∃ v, hI h 50 (K ||| Q) = cVv v ∧ shv W a E (K ||| Q) v := fun Q q1 q2 => by
  obtain ⟨u1, u2⟩ := q_up hE hK sK q2
  have := q_more hE q1 q2
  exact S (K ||| Q) (by omega) u1 (sbs_up s0) u2
theorem c142_57 {W : Nat → Nat} (d a E K0 T : Nat) (ha : a < 5) (hE : E < 256) (hT : T < 256) (s0 : sbs K0 T) (sE : sbs T E) (hK0 : K0 < 256) (ct : T &&& K0 = K0) : ∀ m p h b, p + m = 8 → CK h W → hI h 45 4 = nZ E → mkS h W a E K0 (T + 1) → hI h 50 T = cVv b → bsO W a E T (fun Q => ∃ q, q < p ∧ opx W a E T q Q) b → ∃ k b', qbig (d + 3) 142 57 [sR (some 45), sR (some 11), none, sI (nZ K0), sI (nZ (W (41 + 4 * a))), sI (nZ T), sI (nZ p), none] [] h = qbig (d + 3) 142 48 [sR (some 45), sR (some 11), none, sI (nZ K0), sI (nZ (W (41 + 4 * a))), sI (nZ T + (-1)), none, none] [] k ∧ Fr (fO 50) h k ∧ (∀ j, j ≠ T → hI k 50 j = hI h 50 j) ∧ hI k 50 T = cVv b' ∧ bsO W a E T (fun Q => ∃ q, q < 8 ∧ opx W a E T q Q) b'
  | 0, p, h, b, e, X, e4, S, z, hb => by
    have e' : p = 8 := by omega
    subst e'
    have ce : nZ T &&& nZ K0 = nZ K0 := by rw [nZ_and, ct]
    refine ⟨h, b, ?_, Fr.refl, fun _ _ => rfl, z, hb⟩
    rw [E142_57, if_pos ce, if_neg (by decide)]
  | m + 1, p, h, b, e, X, e4, S, z, hb => by
    have H := X.1
    have hp : p < 8 := by omega
    have lt1 : nZ p < 8 := by
      rw [L8, nZ_lt (by omega) (by decide)]
      exact hp
    have ip : nZ p + 1 = nZ (p + 1) := by rw [L1, nZ_add]
    have ce : nZ T &&& nZ K0 = nZ K0 := by rw [nZ_and, ct]
    obtain ⟨b1, e141, hb1⟩ := c141 X d a E T p ha hE hT hp e4 (S.q hE hT s0 sE)
    have nb : bsO W a E T (fun Q => ∃ q, q < p + 1 ∧ opx W a E T q Q) (min b b1) := bsO_c (bsO_or hb hb1) (fun Q => by
      constructor
      · rintro (⟨q, q1, q2⟩ | q)
        · exact ⟨q, by omega, q2⟩
        · exact ⟨p, by omega, q⟩
      · rintro ⟨q, q1, q2⟩
        by_cases c : q = p
        · rw [c] at q2
          exact Or.inr q2
        · exact Or.inl ⟨q, by omega, q2⟩)
    have bl := hb.1
    have bl1 := hb1.1
    have next : ∀ h', Fr (fO 50) h h' → (∀ j, j ≠ T → hI h' 50 j = hI h 50 j) → hI h' 50 T = cVv (min b b1) → ∃ k b', qbig (d + 3) 142 57 [sR (some 45), sR (some 11), none, sI (nZ K0), sI (nZ (W (41 + 4 * a))), sI (nZ T), sI (nZ (p + 1)), none] [] h' = qbig (d + 3) 142 48 [sR (some 45), sR (some 11), none, sI (nZ K0), sI (nZ (W (41 + 4 * a))), sI (nZ T + (-1)), none, none] [] k ∧ Fr (fO 50) h k ∧ (∀ j, j ≠ T → hI k 50 j = hI h 50 j) ∧ hI k 50 T = cVv b' ∧ bsO W a E T (fun Q => ∃ q, q < 8 ∧ opx W a E T q Q) b' := fun h' F' o' z' => by
      obtain ⟨k, b', ek, Fk, ok, r⟩ := c142_57 d a E K0 T ha hE hT s0 sE hK0 ct m (p + 1) h' (min b b1) (by omega) (X.fr F' (fO_n (by decide))) (by rw [F'.2 45 4 rfl]; exact e4) (fun T' h1 h2 h3 h4 => by
        rw [o' T' (by omega)]
        exact S T' h1 h2 h3 h4) z' nb
      exact ⟨k, b', ek, F'.trans Fk, fun j hj => (ok j hj).trans (o' j hj), r⟩
    by_cases c1' : b1 < 1000
    · have nv : ¬(cVv b1 = -1) := fun q => cVv_n.1 q c1'
      by_cases cb : b < 1000
      · have nb' : ¬(cVv b = -1) := fun q => cVv_n.1 q cb
        by_cases cl : b1 < b
        · have g : cVv b1 < cVv b := by
            rw [cVv_1 cb, cVv_1 c1', nZ_lt (by omega) (by omega)]
            exact cl
          obtain ⟨k, b', ek, r⟩ := next (hsI h 50 T (cVv b1)) (Fr.si rfl Fr.refl) (fun j hj => hI_ne (Or.inr hj)) (by rw [hI_at rfl, Nat.min_eq_right (by omega)])
          refine ⟨k, b', ?_, r⟩
          rw [E142_57, if_pos ce, if_pos lt1, ob_some, g11_0 H, ob_some, e141, jI, if_neg nv, g45_11 H, ob_some, ob_some, A50 H hT, ob_some, z, if_neg nb', ob_some, ob_some, A50 H hT, ob_some, z, if_pos g, ob_some, ob_some, S50 H hT, ob_some, ip]
          exact ek
        · have g : ¬(cVv b1 < cVv b) := by
            rw [cVv_1 cb, cVv_1 c1', nZ_lt (by omega) (by omega)]
            exact cl
          obtain ⟨k, b', ek, r⟩ := next h Fr.refl (fun j hj => rfl) (by rw [z, Nat.min_eq_left (by omega)])
          refine ⟨k, b', ?_, r⟩
          rw [E142_57, if_pos ce, if_pos lt1, ob_some, g11_0 H, ob_some, e141, jI, if_neg nv, g45_11 H, ob_some, ob_some, A50 H hT, ob_some, z, if_neg nb', ob_some, ob_some, A50 H hT, ob_some, z, if_neg g, ip]
          exact ek
      · have nb' : cVv b = -1 := cVv_2 cb
        obtain ⟨k, b', ek, r⟩ := next (hsI h 50 T (cVv b1)) (Fr.si rfl Fr.refl) (fun j hj => hI_ne (Or.inr hj)) (by rw [hI_at rfl, Nat.min_eq_right (by omega)])
        refine ⟨k, b', ?_, r⟩
        rw [E142_57, if_pos ce, if_pos lt1, ob_some, g11_0 H, ob_some, e141, jI, if_neg nv, g45_11 H, ob_some, ob_some, A50 H hT, ob_some, z, if_pos nb', ob_some, ob_some, S50 H hT, ob_some, ip]
        exact ek
    · have nv : cVv b1 = -1 := cVv_2 c1'
      obtain ⟨k, b', ek, r⟩ := next h Fr.refl (fun j hj => rfl) (by rw [z, Nat.min_eq_left (by omega)])
      refine ⟨k, b', ?_, r⟩
      rw [E142_57, if_pos ce, if_pos lt1, ob_some, g11_0 H, ob_some, e141, jI, if_pos nv, ip]
      exact ek
theorem bs_x {W : Nat → Nat} {a E T b : Nat} (hE : E < 256) (hT : T < 256) (sE : sbs T E) (h : bsO W a E T (fun Q => ∃ q, q < 8 ∧ opx W a E T q Q) b) : bsO W a E T (fun Q => ∃ q, q < 8 ∧ opt W a E T q Q) b := by
  obtain ⟨b0, h0⟩ := bsO_ex (W := W) (a := a) (E := E) (K := T) (fun Q => ∃ q, q < 8 ∧ opt W a E T q Q)
  have e := bsO_dom hE h0 h (fun Q ⟨q, q1, q2⟩ => ⟨q, q1, opx_t q2⟩) (fun Q ⟨q, q1, q2⟩ => by
    obtain ⟨Q', r1, r2⟩ := opt_x hE hT sE q2
    exact ⟨Q', ⟨q, q1, r1⟩, r2⟩)
  rw [← e]
  exact h0
theorem c142_48 {W : Nat → Nat} (d a E K0 : Nat) (ha : a < 5) (hE : E < 256) (hEn : ∀ T, T ≤ E → sbs T E) (hK0 : K0 < 256) (sK : sbs K0 E) : ∀ m h x, K0 + m ≤ E → (0 < m → x = nZ (K0 + m - 1)) → (m = 0 → x < nZ K0) → CK h W → hI h 45 4 = nZ E → mkS h W a E K0 (K0 + m) → (∀ T, T < K0 + m → hI h 50 T = -1) → ∃ k v, qbig (d + 3) 142 48 [sR (some 45), sR (some 11), none, sI (nZ K0), sI (nZ (W (41 + 4 * a))), sI x, none, none] [] h = some (some (qI (cVv v)), k) ∧ Fr (fO 50) h k ∧ mkS k W a E K0 K0 ∧ hI k 50 K0 = cVv v ∧ shv W a E K0 v
  | 0, h, x, _, _, ex, X, e4, S, z => by
    have H := X.1
    obtain ⟨v, v1, v2⟩ := S K0 (by omega) hK0 (fun _ _ q => q) sK
    refine ⟨h, v, ?_, Fr.refl, S, v1, v2⟩
    rw [E142_48, if_pos (ex rfl), g45_11 H, ob_some, ob_some, A50 H hK0, ob_some, v1]
  | m + 1, h, x, hm, ex, _, X, e4, S, z => by
    have H := X.1
    have hx := ex (by omega)
    rw [show K0 + (m + 1) - 1 = K0 + m by omega] at hx
    subst hx
    have s8 : K0 + m < 256 := by omega
    have ne : K0 + m ≠ E := by omega
    have nl : ¬(nZ (K0 + m) < nZ K0) := by
      rw [nZ_lt (by omega) (by omega)]
      omega
    have nx1 : 0 < m → nZ (K0 + m) + (-1) = nZ (K0 + m - 1) := fun _ => by
      rw [nZ_neg1, nZ_m1 (by omega)]
    have nx0 : m = 0 → nZ (K0 + m) + (-1) < nZ K0 := fun e0 => by
      rw [e0, nZ_neg1, Nat.add_zero]
      by_cases c : K0 = 0
      · rw [c]
        decide
      · rw [nZ_m1 (by omega), nZ_lt (by omega) (by omega)]
        omega
    by_cases ct : (K0 + m) &&& K0 = K0
    · have s0 : sbs K0 (K0 + m) := by
        apply (and_sbs hK0).1
        rw [Nat.and_comm]
        exact ct
      have sE := hEn (K0 + m) (by omega)
      obtain ⟨k, b', ek, Fk, ok, zk, hb⟩ := c142_57 (W := W) d a E K0 (K0 + m) ha hE s8 s0 sE hK0 ct 8 0 h 1000 (by decide) X e4 S (z (K0 + m) (by omega)) (bsO_c bsO_0 (fun Q => ⟨False.elim, fun ⟨q, q1, _⟩ => by omega⟩))
      have sv := bs_shv hE ne (bs_x hE s8 sE hb)
      obtain ⟨k2, v, ek2, Fk2, r⟩ := c142_48 d a E K0 ha hE hEn hK0 sK m k _ (by omega) nx1 nx0 (X.fr Fk (fO_n (by decide))) (by rw [Fk.2 45 4 rfl]; exact e4) (fun T h1 h2 h3 h4 => by
        by_cases c : T = K0 + m
        · rw [c]
          exact ⟨b', zk, sv⟩
        · rw [ok T c]
          exact S T (by omega) h2 h3 h4) (fun T hT => by
        rw [ok T (by omega)]
        exact z T (by omega))
      refine ⟨k2, v, ?_, Fk.trans Fk2, r⟩
      rw [E142_48, if_neg nl]
      exact ek.trans ek2
    · have ce : ¬(nZ (K0 + m) &&& nZ K0 = nZ K0) := by
        have l : (K0 + m) &&& K0 < 256 := Nat.lt_of_le_of_lt Nat.and_le_right hK0
        rw [nZ_and, nZ_eq (by omega) (by omega)]
        exact ct
      obtain ⟨k2, v, ek2, Fk2, r⟩ := c142_48 d a E K0 ha hE hEn hK0 sK m h _ (by omega) nx1 nx0 X e4 (fun T h1 h2 h3 h4 => by
        by_cases c : T = K0 + m
        · rw [c] at h3
          exact absurd (by rw [Nat.and_comm]; exact (and_sbs hK0).2 h3) ct
        · exact S T (by omega) h2 h3 h4) (fun T hT => z T (by omega))
      refine ⟨k2, v, ?_, Fk2, r⟩
      rw [E142_48, if_neg nl, E142_57, if_neg ce]
      exact ek2
theorem c142 {h : QH} {W : Nat → Nat} (X : CK h W) (d a K0 : Nat) (ha : a < W 409) (hK0 : K0 < 256) (sK : sbs K0 (2 ^ W 408 - 1)) : ∃ k v, qcl (d + 3) 142 [qR (some 45), qR (some 11), qI (nZ a), qI (nZ K0)] h = some (some (qI (cVv v)), k) ∧ Fr fSp h k ∧ hI k 45 4 = nZ (2 ^ W 408 - 1) ∧ mkS k W a (2 ^ W 408 - 1) K0 K0 ∧ hI k 50 K0 = cVv v ∧ shv W a (2 ^ W 408 - 1) K0 v := by
  have H := X.1
  have n8 := X.n8
  have n5 := X.n5
  have l8 := two_8 n8
  have le := sbs_le hK0 sK
  have e79 := c79 H (d + 1) _ X.c12 n8
  have F1 : Fr fSp h (hsI h 45 4 (nZ (2 ^ W 408 - 1))) := Fr.si rfl Fr.refl
  have X1 := X.fr F1 fSp_n
  have H1 := X1.1
  have e71 : qcl (d + 2) 71 [qR (some 17), qI (nZ a), qI 1] (hsI h 45 4 (nZ (2 ^ W 408 - 1))) = some (some (qI (nZ (W (41 + 4 * a)))), hsI h 45 4 (nZ (2 ^ W 408 - 1))) := by
    rw [show 41 + 4 * a = 40 + 4 * a + 1 by omega]
    exact X1.k71 (d + 1) (a := a) (f := 1) (by omega) (by decide)
  obtain ⟨h2, e8, F2, z2⟩ := c8g (d + 1) 50 256 (-1) (by decide) (fun h i H hi => S50 H hi _) 256 0 (hsI h 45 4 (nZ (2 ^ W 408 - 1))) (by decide) H1 (fun j hj => by omega)
  have H2 := F2.Sh H1
  have e8' : qcl (d + 2) 8 [qR (some 50), qI (-1)] (hsI h 45 4 (nZ (2 ^ W 408 - 1))) = some (none, h2) := by
    rw [E8, ob_some, l50 H1, ob_some]
    exact e8
  have q4 : hI h2 45 4 = nZ (2 ^ W 408 - 1) := by
    rw [F2.2 45 4 rfl, hI_at rfl]
  have F3 : Fr fSp h (hsI h2 50 (2 ^ W 408 - 1) (nZ 0)) := Fr.si rfl (F1.trans (F2.mono (fun b j z => by rw [fO_eq z]; rfl)))
  have X3 := X.fr F3 fSp_n
  have H3 := X3.1
  have q4' : hI (hsI h2 50 (2 ^ W 408 - 1) (nZ 0)) 45 4 = nZ (2 ^ W 408 - 1) := by
    rw [hI_ne (by omega)]
    exact q4
  have pos : 0 < 2 ^ W 408 := Nat.pos_of_ne_zero (by
    have := Nat.one_le_two_pow (n := W 408)
    omega)
  obtain ⟨k, v, ek, Fk, Sk, zk, sv⟩ := c142_48 (W := W) d a (2 ^ W 408 - 1) K0 (by omega) l8 (fun T => all_le) hK0 sK (2 ^ W 408 - 1 - K0) (hsI h2 50 (2 ^ W 408 - 1) (nZ 0)) (nZ (2 ^ W 408 - 1) - 1) (by omega) (fun hm => by
    rw [show K0 + (2 ^ W 408 - 1 - K0) - 1 = 2 ^ W 408 - 1 - 1 by omega, L1, nZ_sub (by omega)]) (fun hm => by
    have : K0 = 2 ^ W 408 - 1 := by omega
    rw [this]
    by_cases c : 2 ^ W 408 - 1 = 0
    · rw [c]
      decide
    · rw [L1, nZ_sub (by omega), nZ_lt (by omega) (by omega)]
      omega) X3 q4' (fun T h1 h2' h3 h4 => by
    have : T = 2 ^ W 408 - 1 := by
      have := sbs_le h2' h4
      omega
    rw [this, hI_at rfl]
    exact ⟨0, rfl, Or.inr ⟨by omega, rfl, fun m hm => by omega⟩⟩) (fun T hT => by
    rw [hI_ne (by omega)]
    exact z2 T (by omega))
  refine ⟨k, v, ?_, F3.trans (Fk.mono (fun b j z => by rw [fO_eq z]; rfl)), ?_, Sk, zk, sv⟩
  · have s50 : qsi 0 50 (nZ (2 ^ W 408 - 1)) 0 h2 = some (hsI h2 50 (2 ^ W 408 - 1) (nZ 0)) := S50 H2 l8 _
    rw [E142, ck45 H, ob_some, ob_some, g11_0 H, ob_some, e79, jI, p45_4 H, ob_some, ob_some, g11_1 H1, ob_some, e71, jI, g45_11 H1, ob_some, e8', jV, g45_11 H2, ob_some, g45_4 H2, ob_some, q4, ob_some, s50, ob_some, g45_4 H3, ob_some, q4']
    exact ek
  · rw [Fk.2 45 4 rfl]
    exact q4'
theorem c133_14 {h : QH} {W : Nat → Nat} (X : CK h W) (d a E K v : Nat) (ha : a < 5) (hE : E < 256) (hK : K < 256) (sK : sbs K E) (e4 : hI h 45 4 = nZ E) (S : mkS h W a E K K) (z : hI h 50 K = cVv v) (hv : v < 1000) (bF : Nat → Nat) (hF : ∀ p, p < 8 → bsO W a E K (fun Q => opx W a E K p Q) (bF p)) : ∀ m p, p + m = 8 → (∀ q, q < p → bF q ≠ v) → ∃ r, qbig (d + 3) 133 14 [sR (some 45), sR (some 11), none, sI (nZ K), sI (nZ (W (41 + 4 * a))), sI (nZ p)] [] h = some (some (qI r), h) ∧ fs1 (fun p => decide (bF p = v)) 8 r
  | 0, p, e, n => by
    have e' : p = 8 := by omega
    subst e'
    refine ⟨-1, ?_, Or.inl ⟨rfl, fun j hj => decide_eq_false (n j hj)⟩⟩
    rw [E133_14, if_neg (by decide)]
  | m + 1, p, e, n => by
    have H := X.1
    have hp : p < 8 := by omega
    have lt1 : nZ p < 8 := by
      rw [L8, nZ_lt (by omega) (by decide)]
      exact hp
    have ip : nZ p + 1 = nZ (p + 1) := by rw [L1, nZ_add]
    obtain ⟨b, e141, hb⟩ := c141 X d a E K p ha hE hK hp e4 ((show mkS h W a E K (K + 1) from fun T h1 => S T (by omega)).q hE hK (fun _ _ q => q) sK)
    have eb : b = bF p := bsO_dom hE hb (hF p hp) (fun Q q => q) (fun Q q => ⟨Q, q, fun _ s => s⟩)
    rw [eb] at e141
    by_cases c : bF p = v
    · refine ⟨nZ p, ?_, Or.inr ⟨p, hp, rfl, decide_eq_true c, fun j hj => decide_eq_false (n j hj)⟩⟩
      rw [c] at e141
      rw [E133_14, if_pos lt1, ob_some, g11_0 H, ob_some, e141, jI, g45_11 H, ob_some, ob_some, A50 H hK, ob_some, z, if_pos rfl]
    · have g : ¬(cVv (bF p) = cVv v) := fun q => by
        by_cases c1' : bF p < 1000
        · rw [cVv_1 c1', cVv_1 hv, nZ_eq (by omega) (by omega)] at q
          exact c q
        · rw [cVv_2 c1'] at q
          exact cVv_n.1 q.symm hv
      obtain ⟨r, er, fr'⟩ := c133_14 X d a E K v ha hE hK sK e4 S z hv bF hF m (p + 1) (by omega) (fun q hq => by
        by_cases cq : q = p
        · rw [cq]
          exact c
        · exact n q (by omega))
      refine ⟨r, ?_, fr'⟩
      rw [E133_14, if_pos lt1, ob_some, g11_0 H, ob_some, e141, jI, g45_11 H, ob_some, ob_some, A50 H hK, ob_some, z, if_neg g, ip]
      exact er

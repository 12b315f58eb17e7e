/-! the class's spread: the path -/
theorem c138_25 {W : Nat → Nat} (d a E K0 D : Nat) (ha : a < W 409) (hE : E < 256) (hEn : ∀ T, T ≤ E → sbs T E) (hK0 : K0 < 256) (sK : sbs K0 E) (hD : D ≤ 30) : ∀ m h, m < D → CK h W → spC h W a E → mkT h E (m + 1) → (∀ d, m < d → d ≤ D → inT h W a E K0 D d) → ∃ k, qbig (d + 4) 138 25 [sR (some 45), sR (some 12), sI (nZ K0), sI (nZ m), none] [] h = some (none, k) ∧ Fr fMt h k ∧ ∀ d, 0 < d → d ≤ D → inT k W a E K0 D d
  | 0, h, _, X, C, t, I => by
    refine ⟨h, ?_, Fr.refl, I⟩
    rw [E138_25, if_neg (by decide)]
  | m + 1, h, hm, X, C, t, I => by
    have H := X.1
    have le := sbs_le hK0 sK
    have up : (0 : Int32) < nZ (m + 1) := by
      rw [L0, nZ_lt (by decide) (by omega)]
      omega
    have x1 : 0 < E - K0 → nZ E - 1 = nZ (K0 + (E - K0) - 1) := fun _ => by
      rw [show K0 + (E - K0) - 1 = E - 1 by omega, L1, nZ_sub (by omega)]
    have x0 : E - K0 = 0 → nZ E - 1 < nZ K0 := fun e => by
      have : K0 = E := by omega
      rw [this]
      by_cases c : E = 0
      · rw [c]
        decide
      · rw [L1, nZ_sub (by omega), nZ_lt (by omega) (by omega)]
        omega
    obtain ⟨k, ek, Fk, tk, Ik⟩ := c138_37 (W := W) d a E K0 D (m + 1) ha hE hEn hK0 (by omega) hm hD (E - K0) h (nZ E - 1) (by omega) x1 x0 X C (by
      refine ⟨⟨t.1, fun T hT nT => ?_⟩, fun d' h1 h2 => I d' h1 h2, fun T h1 hT q1 q2 => ?_⟩
      · obtain ⟨u, u1, u2, u3⟩ := t.2 T hT nT
        exact ⟨u, u1, u2, fun d' hd => u3 d' (by omega), fun _ => u3 (m + 1) (by omega)⟩
      · have : T = E := by
          have := sbs_le hT q2
          omega
        rw [this, t.1]
        exact ⟨fun _ => wi_E _ _, fun _ => btd_m1 (m + 1) (by omega)⟩)
    obtain ⟨k2, ek2, Fk2, r⟩ := c138_25 d a E K0 D ha hE hEn hK0 sK hD m k (by omega) (X.fr Fk fMt_n) (C.fr Fk rfl rfl (fun _ => rfl) (fun _ => rfl)) tk (fun d' h1 h2 => Ik d' (by omega) h2)
    refine ⟨k2, ?_, Fk.trans Fk2, r⟩
    rw [E138_25, if_pos up, g45_4 H, ob_some, C.1]
    exact ek.trans ek2
theorem c138 {h : QH} {W : Nat → Nat} (X : CK h W) (d a E K0 D : Nat) (ha : a < W 409) (hE : E < 256) (hEn : ∀ T, T ≤ E → sbs T E) (hK0 : K0 < 256) (sK : sbs K0 E) (hD : D ≤ 30) (C : spC h W a E) (e0 : hI h 45 0 = nZ D) : ∃ k, qcl (d + 4) 138 [qR (some 45), qR (some 12), qI (nZ K0)] h = some (none, k) ∧ Fr fMt h k ∧ ∀ d, 0 < d → d ≤ D → inT k W a E K0 D d := by
  have H := X.1
  obtain ⟨h1, e8, F1, z1⟩ := c8g (d + 2) 51 256 (nZ 0) (by decide) (fun h i H hi => S51 H hi _) 256 0 h (by decide) H (fun j hj => by omega)
  have H1 := F1.Sh H
  have e8' : qcl (d + 3) 8 [qR (some 51), qI 0] h = some (none, h1) := by
    rw [E8, ob_some, l51 H, ob_some]
    exact e8
  have F2 : Fr fMt h (hsI h1 51 E (-1)) := Fr.si rfl (F1.mono (fun b j z => by rw [fO_eq z]; rfl))
  have X2 := X.fr F2 fMt_n
  have C2 := C.fr F2 rfl rfl (fun _ => rfl) (fun _ => rfl)
  have H2 := X2.1
  have q4 : hI h1 45 4 = nZ E := by
    rw [F1.2 45 4 rfl]
    exact C.1
  have q0 : hI (hsI h1 51 E (-1)) 45 0 = nZ D := by
    rw [F2.2 45 0 rfl]
    exact e0
  by_cases c0 : D = 0
  · refine ⟨hsI h1 51 E (-1), ?_, F2, fun d' h1 h2 => by omega⟩
    rw [E138, ck45 H, ob_some, g45_12 H, ob_some, e8', jV, g45_12 H1, ob_some, g45_4 H1, ob_some, q4, ob_some, S51 H1 hE, ob_some, g45_0 H2, ob_some, q0, c0, E138_25, if_neg (by decide)]
  · have t : mkT (hsI h1 51 E (-1)) E (D - 1 + 1) := by
      refine ⟨hI_at rfl, fun T hT nT => ⟨0, by decide, ?_, fun d' _ => Nat.zero_testBit d'⟩⟩
      rw [hI_ne (Or.inr nT)]
      exact z1 T hT
    obtain ⟨k, ek, Fk, r⟩ := c138_25 (W := W) d a E K0 D ha hE hEn hK0 sK hD (D - 1) (hsI h1 51 E (-1)) (by omega) X2 C2 t (fun d' h1 h2 T hT q1 q2 => by
      have ed : d' = D := by omega
      rw [ed]
      by_cases cT : T = E
      · rw [cT, hI_at rfl]
        exact ⟨fun _ => wi_E _ _, fun _ => btd_m1 D (by omega)⟩
      · rw [hI_ne (Or.inr cT), z1 T hT, btd_n (by decide) (by omega), Nat.zero_testBit, Nat.sub_self]
        exact ⟨fun z => (by cases z), fun z => absurd z cT⟩)
    refine ⟨k, ?_, F2.trans Fk, r⟩
    have eD : nZ D - 1 = nZ (D - 1) := by rw [L1, nZ_sub (by omega)]
    rw [E138, ck45 H, ob_some, g45_12 H, ob_some, e8', jV, g45_12 H1, ob_some, g45_4 H1, ob_some, q4, ob_some, S51 H1 hE, ob_some, g45_0 H2, ob_some, q0, eD]
    exact ek
/-- the lowest in time -/
def lowS (W : Nat → Nat) (a E D y T S : Nat) : Prop := S < 256 ∧ fit W a E y T S ∧ wi W a E (D - (y + 1)) (y + 1) (T ||| S) ∧ ∀ S', S' < S → fit W a E y T S' → ¬wi W a E (D - (y + 1)) (y + 1) (T ||| S')
theorem lowS_u {W : Nat → Nat} {a E D y T S S' : Nat} (h : lowS W a E D y T S) (g : lowS W a E D y T S') : S = S' := by
  rcases Nat.lt_trichotomy S S' with c | c | c
  · exact absurd h.2.2.1 (g.2.2.2 S c h.2.1)
  · exact c
  · exact absurd g.2.2.1 (h.2.2.2 S' c g.2.1)
theorem low_ex {W : Nat → Nat} {a E D y T : Nat} (hyD : y < D) (w : wi W a E (D - y) y T) : ∃ S, S < 256 ∧ fit W a E y T S ∧ wi W a E (D - (y + 1)) (y + 1) (T ||| S) := by
  rw [show D - y = (D - (y + 1)) + 1 by omega] at w
  rcases w with w | ⟨S, w1, w2⟩
  · refine ⟨0, by decide, fit_0, ?_⟩
    rw [Nat.or_zero, w]
    exact wi_E _ _
  · exact ⟨S, w1.1, w1.2.1, w2⟩
theorem c137_13 {W : Nat → Nat} {h : QH} (H : Sh h) (d a E K0 D y T R v : Nat) (hy : y < 30) (hyD : y < D) (hT : T < 256) (s0 : sbs K0 T) (sE : sbs T E) (w : wi W a E (D - y) y T) (L : lkD h W a E y T R v) (I : inT h W a E K0 D (y + 1)) : ∀ m k x, k + m = 2 ^ pc R → (0 < m → x = nZ (dp R k)) → (∀ j, j < k → fit W a E y T (dp R j) → ¬wi W a E (D - (y + 1)) (y + 1) (T ||| dp R j)) → ∃ S, qbig (d + 2) 137 13 [sR (some 45), sI (nZ T), sI (nZ y), sI x, sI (nZ m)] [] h = some (some (qI (nZ S)), h) ∧ lowS W a E D y T S
  | 0, k, x, e, _, z => by
    exfalso
    have e' : k = 2 ^ pc R := by omega
    rw [e'] at z
    obtain ⟨S, q1, q2, q3⟩ := low_ex hyD w
    obtain ⟨r1, r2⟩ := dp_3 L.2.2.1 (L.2.2.2.2.1 S q1 q2)
    exact z _ r1 (by rw [r2]; exact q2) (by rw [r2]; exact q3)
  | m + 1, k, x, e, ex, z => by
    have hR := L.2.2.1
    obtain ⟨d1, d2, d3, d4, d5, d6⟩ := dp_2 R hR
    obtain ⟨s1', s2'⟩ := d6 k (by omega)
    have hx := ex (by omega)
    subst hx
    have up : (0 : Int32) < nZ (m + 1) := by
      rw [L0, nZ_lt (by decide) (by omega)]
      omega
    have dn : nZ (m + 1) + (-1) = nZ m := by
      rw [nZ_neg1, nZ_m1 (by omega)]
      rfl
    have z00 : nZ 0 = (0 : Int32) := rfl
    have z10 : ¬(nZ 1 = (0 : Int32)) := by decide
    have nx' : 0 < m → (nZ (dp R k) - nZ R) &&& nZ R = nZ (dp R (k + 1)) := fun hm => (dp_1 R hR k (by omega) (by omega)).1
    have l6 := L.1
    have skip : (fit W a E y T (dp R k) → ¬wi W a E (D - (y + 1)) (y + 1) (T ||| dp R k)) → ∃ S, qbig (d + 2) 137 13 [sR (some 45), sI (nZ T), sI (nZ y), sI ((nZ (dp R k) - nZ R) &&& nZ R), sI (nZ m)] [] h = some (some (qI (nZ S)), h) ∧ lowS W a E D y T S := fun nm => c137_13 H d a E K0 D y T R v hy hyD hT s0 sE w L I m (k + 1) _ (by omega) nx' (fun j hj q => by
      by_cases c : j = k
      · rw [c] at q ⊢
        exact nm q
      · exact z j (by omega) q)
    rcases L.2.2.2.1 _ s1' s2' with ⟨q1, q2⟩ | ⟨q1, q2⟩
    · have ko := or_256 hT s1'
      have eo : nZ T ||| nZ (dp R k) = nZ (T ||| dp R k) := nZ_or _ _
      have ey : nZ y + 1 = nZ (y + 1) := by rw [L1, nZ_add]
      obtain ⟨u, eu, tu⟩ := c135 H d (T ||| dp R k) (y + 1) ko
      have it := I _ ko (sbs_up s0) (sbs_or q2 sE)
      rcases tu with ⟨w1, w2⟩ | ⟨w1, w2⟩
      · rw [w1] at eu
        refine ⟨dp R k, ?_, s1', q2, it.1 w2, fun S' hS f => ?_⟩
        · rw [E137_13, if_pos up, g45_10 H, ob_some, ob_some, A49 H s1', ob_some, q1, if_neg z10, eo, ey, eu, jI, if_neg z10]
        · obtain ⟨r1, r2⟩ := dp_3 hR (L.2.2.2.2.1 S' (by omega) f)
          have jk : ext 8 R S' < k := by
            apply Nat.lt_of_not_le
            intro c
            have g := dp_le hR (ext 8 R S' - k) k (by omega)
            rw [show k + (ext 8 R S' - k) = ext 8 R S' by omega, r2] at g
            omega
          have := z _ jk (by rw [r2]; exact f)
          rw [r2] at this
          exact this
      · rw [w1] at eu
        obtain ⟨S, eS, r⟩ := skip (fun _ q => w2 (it.2 q))
        refine ⟨S, ?_, r⟩
        rw [E137_13, if_pos up, g45_10 H, ob_some, ob_some, A49 H s1', ob_some, q1, if_neg z10, eo, ey, eu, jI, if_pos z00, g45_6 H, ob_some, ob_some, l6, dn]
        exact eS
    · obtain ⟨S, eS, r⟩ := skip (fun q => absurd q q2)
      refine ⟨S, ?_, r⟩
      rw [E137_13, if_pos up, g45_10 H, ob_some, ob_some, A49 H s1', ob_some, q1, if_pos z00, g45_6 H, ob_some, ob_some, l6, dn]
      exact eS
/-- the path -/
def pP (W : Nat → Nat) (a E K0 D : Nat) : Nat → Nat → Prop
  | 0, K => K = K0
  | y + 1, K' => ∃ K S, pP W a E K0 D y K ∧ lowS W a E D y K S ∧ K' = K ||| S
theorem pP_u {W : Nat → Nat} {a E K0 D : Nat} : ∀ y K K', pP W a E K0 D y K → pP W a E K0 D y K' → K = K'
  | 0, K, K', h, g => by
    have h' : K = K0 := h
    have g' : K' = K0 := g
    rw [h', g']
  | y + 1, K, K', ⟨K1, S1', a1, a2, a3⟩, ⟨K2, S2, b1, b2, b3⟩ => by
    have e := pP_u y K1 K2 a1 b1
    rw [e] at a2 a3
    have e2 := lowS_u a2 b2
    rw [a3, b3, e2]
def fWa (b j : Nat) : Bool := (match b with
  | 45 => (match j with | 6 => true | 7 => true | _ => false)
  | 46 => true | 49 => true
  | _ => false)
theorem fWa_n (b j : Nat) (h1 : 11 ≤ b) (h2 : b < 26) : fWa b j = false := by
  unfold fWa
  split <;> first | omega | rfl
theorem fL_Wa (b j : Nat) (h : fL b j = true) : fWa b j = true := by
  unfold fL at h
  split at h
  · split at h
    · rfl
    · rfl
    · cases h
  · rfl
  · cases h
theorem c144_9 {W : Nat → Nat} (d a E K0 D : Nat) (ha : a < W 409) (hE : E < 256) (hK0 : K0 < 256) (hD : D ≤ 30) : ∀ m y h K, y + m = D → CK h W → spC h W a E → hI h 45 0 = nZ D → (∀ d, 0 < d → d ≤ D → inT h W a E K0 D d) → hI h 46 y = nZ K → K < 256 → sbs K0 K → sbs K E → wi W a E (D - y) y K → pP W a E K0 D y K → (∀ j, j < y → ∃ K, hI h 46 j = nZ K ∧ pP W a E K0 D j K) → ∃ k, qbig (d + 4) 144 9 [sR (some 45), sR (some 12), none, sI (nZ y)] [] h = some (none, k) ∧ Fr fWa h k ∧ ∀ j, j ≤ D → ∃ K, hI k 46 j = nZ K ∧ pP W a E K0 D j K
  | 0, y, h, K, e, X, C, e0, I, p1, p2, p3, p4, p5, p6, p7 => by
    have e' : y = D := by omega
    have H := X.1
    have lt1 : ¬(nZ y < nZ D) := by
      rw [nZ_lt (by omega) (by omega)]
      omega
    refine ⟨h, ?_, Fr.refl, fun j hj => ?_⟩
    · rw [E144_9, g45_0 H, ob_some, e0, if_neg lt1]
    · by_cases c : j = y
      · rw [c]
        exact ⟨K, p1, p6⟩
      · exact p7 j (by omega)
  | m + 1, y, h, K, e, X, C, e0, I, p1, p2, p3, p4, p5, p6, p7 => by
    have H := X.1
    have lt1 : nZ y < nZ D := by
      rw [nZ_lt (by omega) (by omega)]
      omega
    have ip : nZ y + 1 = nZ (y + 1) := by rw [L1, nZ_add]
    obtain ⟨k, R, v, e136, Fk, L⟩ := c136 X (d + 1) a E y K ha (by omega) p2 p4 C
    have Xk := X.fr Fk fL_n
    have Hk := Xk.1
    obtain ⟨d1, d2, d3, d4, d5, d6⟩ := dp_2 R L.2.2.1
    have Ik := (I (y + 1) (by omega) (by omega)).of (fun j => Fk.2 51 j rfl)
    obtain ⟨S, eS, lS⟩ := c137_13 (W := W) Hk (d + 1) a E K0 D y K R v (by omega) (by omega) p2 p3 p4 p5 L Ik (2 ^ pc R) 0 (nZ 0) (by omega) (fun _ => by rw [d1]) (fun j hj => by omega)
    have e137 : qcl (d + 3) 137 [qR (some 45), qI (nZ K), qI (nZ y)] k = some (some (qI (nZ S)), k) := by
      rw [E137, ck45 Hk, ob_some, g45_6 Hk, ob_some, L.1, c1 (d + 1) _ L.2.2.1 k, jI, d5]
      exact eS
    have k46 : hI k 46 y = nZ K := by
      rw [Fk.2 46 y rfl]
      exact p1
    have ko := or_256 p2 lS.1
    have F2 : Fr fWa h (hsI k 46 (y + 1) (nZ (K ||| S))) := Fr.si rfl (Fk.mono fL_Wa)
    obtain ⟨k2, ek2, Fk2, r⟩ := c144_9 d a E K0 D ha hE hK0 hD m (y + 1) (hsI k 46 (y + 1) (nZ (K ||| S))) (K ||| S) (by omega) (X.fr F2 fWa_n) (C.fr F2 rfl rfl (fun _ => rfl) (fun _ => rfl)) (by rw [F2.2 45 0 rfl]; exact e0) (fun d' h1 h2 => (I d' h1 h2).of (fun j => F2.2 51 j rfl)) (hI_at rfl) ko (sbs_up p3) (sbs_or lS.2.1 p4) lS.2.2.1 ⟨K, S, p6, lS, rfl⟩ (fun j hj => by
      rw [hI_ne (by omega), Fk.2 46 j rfl]
      by_cases c : j = y
      · rw [c]
        exact ⟨K, p1, p6⟩
      · exact p7 j (by omega))
    refine ⟨k2, ?_, F2.trans Fk2, r⟩
    rw [E144_9, g45_0 H, ob_some, e0, if_pos lt1, g45_1 H, ob_some, ob_some, A46 H (by omega), ob_some, p1, e136, jV, g45_1 Hk, ob_some, ob_some, ob_some, A46 Hk (by omega), ob_some, k46, ob_some, ob_some, A46 Hk (by omega), ob_some, k46, e137, jI, ob_some, ip, nZ_or, S46 Hk (by omega), ob_some]
    exact ek2
/-- what the path holds -/
def FpD (h : QH) (W : Nat → Nat) (a : Nat) : Prop := (hI h 45 0 = -1 ∧ ∀ m, m ≤ 30 → ¬wi W a (2 ^ W 408 - 1) m 0 (kw W a)) ∨ ∃ D, D ≤ 30 ∧ hI h 45 0 = nZ D ∧ wi W a (2 ^ W 408 - 1) D 0 (kw W a) ∧ (∀ j, j < D → ¬wi W a (2 ^ W 408 - 1) j 0 (kw W a)) ∧ ∀ y, y ≤ D → ∃ K, hI h 46 y = nZ K ∧ pP W a (2 ^ W 408 - 1) (kw W a) D y K
def FpR (h : QH) (W : Nat → Nat) (c : Nat) : Prop := sb1 (hI h 45 2) c ∧ (hI h 45 2 = nZ c → ∃ a, a < W 409 ∧ hI h 45 3 = nZ a ∧ FpD h W a)
def fFp (b j : Nat) : Bool := (match b with
  | 45 => (match j with | 0 => true | 2 => true | 3 => true | 4 => true | 5 => true | 6 => true | 7 => true | _ => false)
  | 46 => true | 47 => true | 48 => true | 49 => true | 50 => true | 51 => true
  | _ => false)
theorem fFp_n (b j : Nat) (h1 : 11 ≤ b) (h2 : b < 26) : fFp b j = false := by
  unfold fFp
  split <;> first | omega | rfl
theorem fSp_Fp (b j : Nat) (h : fSp b j = true) : fFp b j = true := by
  unfold fSp at h
  split at h
  · split at h <;> first | rfl | cases h
  · rfl
  · rfl
  · rfl
  · rfl
  · cases h
theorem fMt_Fp (b j : Nat) (h : fMt b j = true) : fFp b j = true := by
  unfold fMt at h
  split at h
  · split at h <;> first | rfl | cases h
  · rfl
  · rfl
  · cases h
theorem fWa_Fp (b j : Nat) (h : fWa b j = true) : fFp b j = true := by
  unfold fWa at h
  split at h
  · split at h <;> first | rfl | cases h
  · rfl
  · rfl
  · cases h
theorem all_le {n T : Nat} (h : T ≤ 2 ^ n - 1) : sbs T (2 ^ n - 1) := fun i _ z => by
  rw [all_tb]
  apply decide_eq_true
  apply Nat.lt_of_not_le
  intro c
  have : T < 2 ^ i := by
    have h1 : 2 ^ n ≤ 2 ^ i := Nat.pow_le_pow_right (by decide) c
    have h2 : 1 ≤ 2 ^ n := Nat.one_le_two_pow
    omega
  rw [Nat.testBit_lt_two_pow this] at z
  cases z
theorem c132b {h : QH} {W : Nat → Nat} (X : CK h W) (d a c : Nat) (ha : a < W 409) (e2 : hI h 45 2 = nZ c) (e3 : hI h 45 3 = nZ a) : ∃ h1 h2 v, qcl (d + 4) 139 [qR (some 45), qR (some 11), qI (nZ a), qI (nZ (2 ^ W 408 - 1))] h = some (none, h1) ∧ Sh h1 ∧ qcl (d + 4) 131 [qR (some 45), qR (some 12), qI (nZ (kw W a))] h1 = some (some (qI v), h2) ∧ Sh h2 ∧ Fr fSp h h2 ∧ ((v = -1 ∧ ∀ m, m ≤ 30 → ¬wi W a (2 ^ W 408 - 1) m 0 (kw W a)) ∨ (¬(v = -1) ∧ ∃ h4 k, qcl (d + 4) 138 [qR (some 45), qR (some 12), qI (nZ (kw W a))] (hsI h2 45 0 v) = some (none, h4) ∧ Sh h4 ∧ qcl (d + 4) 144 [qR (some 45), qR (some 12), qI (nZ (kw W a))] h4 = some (none, k) ∧ Fr fFp h k ∧ FpD k W a ∧ hI k 45 2 = nZ c ∧ hI k 45 3 = nZ a)) := by
  have H := X.1
  have n8 := X.n8
  have l8 := two_8 n8
  obtain ⟨h1, e1, F1, C1⟩ := c139 X (d + 1) a (2 ^ W 408 - 1) ha l8
  have X1 := X.fr F1 fSp_n
  obtain ⟨h2, v, e131, F2, dv⟩ := c131 X1 d a (2 ^ W 408 - 1) (kw W a) ha l8 (kw_lt n8) kw_sbs C1
  have X2 := X1.fr F2 fG_n
  have F12 : Fr fSp h h2 := F1.trans (F2.mono fG_Sp)
  refine ⟨h1, h2, v, e1, X1.1, e131, X2.1, F12, ?_⟩
  rcases dv with ⟨v1, v2⟩ | ⟨D, D1, D2, D3, D4⟩
  · exact Or.inl ⟨v1, v2⟩
  right
  have nv : ¬(v = -1) := fun z => by
    rw [D2] at z
    exact absurd (z.trans nZ_neg1) (fun w => cast (nZ_nneg (a := D) (by omega)) w)
  refine ⟨nv, ?_⟩
  have F3 : Fr fFp h (hsI h2 45 0 v) := Fr.si rfl (F12.mono fSp_Fp)
  have X3 := X.fr F3 fFp_n
  have C3 : spC (hsI h2 45 0 v) W a (2 ^ W 408 - 1) := by
    have C2 := C1.fr F2 rfl rfl (fun _ => rfl) (fun _ => rfl)
    refine ⟨?_, ?_, fun p hp => ?_, fun y hy => ?_⟩
    · rw [hI_ne (by omega)]
      exact C2.1
    · rw [hI_ne (by omega)]
      exact C2.2.1
    · rw [hI_ne (by omega)]
      exact C2.2.2.1 p hp
    · rw [hI_ne (by omega)]
      exact C2.2.2.2 y hy
  have q0 : hI (hsI h2 45 0 v) 45 0 = nZ D := by
    rw [hI_at rfl]
    exact D2
  obtain ⟨h4, e138, F4, I4⟩ := c138 X3 d a (2 ^ W 408 - 1) (kw W a) D ha l8 (fun T => all_le) (kw_lt n8) kw_sbs D1 C3 q0
  have X4 := X3.fr F4 fMt_n
  have C4 := C3.fr F4 rfl rfl (fun _ => rfl) (fun _ => rfl)
  have H4 := X4.1
  have F5 : Fr fWa h4 (hsI h4 46 0 (nZ (kw W a))) := Fr.si rfl Fr.refl
  have X5 := X4.fr F5 fWa_n
  have w0 : wi W a (2 ^ W 408 - 1) (D - 0) 0 (kw W a) := D3
  obtain ⟨k, ek, Fk, r⟩ := c144_9 (W := W) d a (2 ^ W 408 - 1) (kw W a) D ha l8 (kw_lt n8) D1 D 0 (hsI h4 46 0 (nZ (kw W a))) (kw W a) (by omega) X5 (C4.fr F5 rfl rfl (fun _ => rfl) (fun _ => rfl)) (by rw [F5.2 45 0 rfl, F4.2 45 0 rfl]; exact q0) (fun d' h1 h2 => (I4 d' h1 h2).of (fun j => F5.2 51 j rfl)) (hI_at rfl) (kw_lt n8) (fun _ _ z => z) kw_sbs w0 rfl (fun j hj => by omega)
  have s46 : qsi 0 46 0 (nZ (kw W a)) h4 = some (hsI h4 46 0 (nZ (kw W a))) := S46 H4 (i := 0) (by decide) _
  refine ⟨h4, k, e138, H4, ?_, ((F3.trans (F4.mono fMt_Fp)).trans (F5.mono fWa_Fp)).trans (Fk.mono fWa_Fp), Or.inr ⟨D, D1, ?_, D3, D4, r⟩, ?_, ?_⟩
  · rw [E144, ck45 H4, ob_some, g45_1 H4, ob_some, ob_some, s46, ob_some]
    exact ek
  · rw [Fk.2 45 0 rfl, F5.2 45 0 rfl, F4.2 45 0 rfl]
    exact q0
  · rw [Fk.2 45 2 rfl, F5.2 45 2 rfl, F4.2 45 2 rfl, hI_ne (by omega), F12.2 45 2 rfl]
    exact e2
  · rw [Fk.2 45 3 rfl, F5.2 45 3 rfl, F4.2 45 3 rfl, hI_ne (by omega), F12.2 45 3 rfl]
    exact e3
theorem c132 {h : QH} {W : Nat → Nat} {c : Nat} (X : CK h W) (d a : Nat) (ha : a < W 409) (R : FpR h W c) : ∃ k, qcl (d + 5) 132 [qR (some 45), qR (some 11), qI (nZ a), qI (nZ c)] h = some (none, k) ∧ Fr fFp h k ∧ FpD k W a ∧ FpR k W c := by
  have H := X.1
  have n8 := X.n8
  have n5 := X.n5
  by_cases c23 : hI h 45 2 = nZ c ∧ hI h 45 3 = nZ a
  · obtain ⟨q1, q2⟩ := c23
    obtain ⟨a', r1, r2, r3⟩ := R.2 q1
    have ea : a' = a := by
      have e := r2.symm.trans q2
      rw [nZ_eq (by omega) (by omega)] at e
      exact e
    rw [ea] at r3
    refine ⟨h, ?_, Fr.refl, r3, R⟩
    rw [E132, ck45 H, ob_some, g45_2 H, ob_some, if_pos q1, g45_3 H, ob_some, if_pos q2]
  have pre : ∃ h0, h0 = hsI (hsI h 45 2 (nZ c)) 45 3 (nZ a) := ⟨_, rfl⟩
  obtain ⟨h0, eh0⟩ := pre
  have H1 : Sh (hsI h 45 2 (nZ c)) := H
  have F0 : Fr fFp h h0 := by
    rw [eh0]
    exact Fr.si rfl (Fr.si rfl Fr.refl)
  have X0 := X.fr F0 fFp_n
  have H0 := X0.1
  have r2 : hI h0 45 2 = nZ c := by
    rw [eh0, hI_ne (by omega), hI_at rfl]
  have r3 : hI h0 45 3 = nZ a := by
    rw [eh0, hI_at rfl]
  have e81 := c81 X0 (d + 1) a (by omega)
  have e79 := c79 H0 (d + 3) _ X0.c12 n8
  obtain ⟨h1, h2, v, e139, K1', e131, K2, F2, rest⟩ := c132b X0 d a c ha r2 r3
  have K3 : Sh (hsI h2 45 0 v) := K2
  have q0 : hI (hsI h2 45 0 v) 45 0 = v := hI_at rfl
  rcases rest with ⟨v1, v2⟩ | ⟨nv, h4, k, e138, K4, e144, Fk, Dk, t2, t3⟩
  · have D3 : FpD (hsI h2 45 0 v) W a := Or.inl ⟨by rw [q0]; exact v1, v2⟩
    refine ⟨hsI h2 45 0 v, ?_, Fr.si rfl (F0.trans (F2.mono fSp_Fp)), D3, Or.inr ⟨c, Nat.le_refl c, by rw [hI_ne (by omega), F2.2 45 2 rfl]; exact r2⟩, fun _ => ⟨a, ha, ?_, D3⟩⟩
    · by_cases d1 : hI h 45 2 = nZ c
      · have d2 : ¬(hI h 45 3 = nZ a) := fun z => c23 ⟨d1, z⟩
        rw [E132, ck45 H, ob_some, g45_2 H, ob_some, if_pos d1, g45_3 H, ob_some, if_neg d2, p45_2 H, ob_some, p45_3 H1, ob_some, ← eh0, ob_some, g11_0 H0, ob_some, e81, jI, ob_some, g11_0 H0, ob_some, e79, jI, e139, jV, ob_some, g11_0 K1', ob_some, e131, jI, p45_0 K2, ob_some, g45_0 K3, ob_some, q0, if_pos v1]
      · rw [E132, ck45 H, ob_some, g45_2 H, ob_some, if_neg d1, p45_2 H, ob_some, p45_3 H1, ob_some, ← eh0, ob_some, g11_0 H0, ob_some, e81, jI, ob_some, g11_0 H0, ob_some, e79, jI, e139, jV, ob_some, g11_0 K1', ob_some, e131, jI, p45_0 K2, ob_some, g45_0 K3, ob_some, q0, if_pos v1]
    · rw [hI_ne (by omega), F2.2 45 3 rfl]
      exact r3
  · refine ⟨k, ?_, F0.trans Fk, Dk, Or.inr ⟨c, Nat.le_refl c, t2⟩, fun _ => ⟨a, ha, t3, Dk⟩⟩
    by_cases d1 : hI h 45 2 = nZ c
    · have d2 : ¬(hI h 45 3 = nZ a) := fun z => c23 ⟨d1, z⟩
      rw [E132, ck45 H, ob_some, g45_2 H, ob_some, if_pos d1, g45_3 H, ob_some, if_neg d2, p45_2 H, ob_some, p45_3 H1, ob_some, ← eh0, ob_some, g11_0 H0, ob_some, e81, jI, ob_some, g11_0 H0, ob_some, e79, jI, e139, jV, ob_some, g11_0 K1', ob_some, e131, jI, p45_0 K2, ob_some, g45_0 K3, ob_some, q0, if_neg nv, ob_some, g11_0 K3, ob_some, e138, jV, ob_some, g11_0 K4, ob_some, e144, jV]
    · rw [E132, ck45 H, ob_some, g45_2 H, ob_some, if_neg d1, p45_2 H, ob_some, p45_3 H1, ob_some, ← eh0, ob_some, g11_0 H0, ob_some, e81, jI, ob_some, g11_0 H0, ob_some, e79, jI, e139, jV, ob_some, g11_0 K1', ob_some, e131, jI, p45_0 K2, ob_some, g45_0 K3, ob_some, q0, if_neg nv, ob_some, g11_0 K3, ob_some, e138, jV, ob_some, g11_0 K4, ob_some, e144, jV]

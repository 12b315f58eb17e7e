/-! the class's spread: in time -/
def btd (x : Int32) (d : Nat) : Prop := ¬(((x >>> (nZ d &&& 31)) &&& 1) = 0)
theorem btd_m1 : ∀ d, d < 31 → ¬((((-1 : Int32) >>> (nZ d &&& 31)) &&& 1) = 0) := by decide +kernel
theorem btd_n {x d : Nat} (hx : x < 2147483648) (hd : d < 32) : btd (nZ x) d ↔ x.testBit d = true := by
  unfold btd
  rw [bit_get hx hd]
  by_cases c : x.testBit d = true
  · rw [if_pos c]
    exact ⟨fun _ => c, fun _ => by decide⟩
  · rw [if_neg c]
    exact ⟨fun z => absurd rfl z, fun z => absurd z c⟩
theorem c135 {h : QH} (H : Sh h) (d T y : Nat) (hT : T < 256) : ∃ v, qcl (d + 1) 135 [qR (some 45), qI (nZ T), qI (nZ y)] h = some (some (qI v), h) ∧ tf v (btd (hI h 51 T) y) := by
  by_cases c : ((hI h 51 T >>> (nZ y &&& 31)) &&& 1) = 0
  · refine ⟨nZ 0, ?_, Or.inr ⟨rfl, fun z => z c⟩⟩
    rw [E135, ck45 H, ob_some, g45_12 H, ob_some, ob_some, A51 H hT, ob_some, if_pos c, if_pos (by decide)]
    rfl
  · refine ⟨nZ 1, ?_, Or.inl ⟨rfl, c⟩⟩
    rw [E135, ck45 H, ob_some, g45_12 H, ob_some, ob_some, A51 H hT, ob_some, if_neg c, if_pos (by decide)]
    rfl
/-- who can be in time, at day d -/
def inT (h : QH) (W : Nat → Nat) (a E K0 D d : Nat) : Prop := ∀ T, T < 256 → sbs K0 T → sbs T E → (btd (hI h 51 T) d ↔ wi W a E (D - d) d T)
theorem inT.of {h k : QH} {W : Nat → Nat} {a E K0 D d : Nat} (I : inT h W a E K0 D d) (e : ∀ j, hI k 51 j = hI h 51 j) : inT k W a E K0 D d := fun T h1 h2 h3 => by
  rw [e T]
  exact I T h1 h2 h3
theorem sbs_up {K0 T S : Nat} (s : sbs K0 T) : sbs K0 (T ||| S) := fun i hi z => by
  rw [Nat.testBit_or, s i hi z]
  rfl
theorem c130_34 {W : Nat → Nat} {h : QH} (H : Sh h) (d a E K0 D y T R v : Nat) (hy : y < 30) (hT : T < 256) (s0 : sbs K0 T) (sE : sbs T E) (L : lkD h W a E y T R v) (I : inT h W a E K0 D (y + 1)) : ∀ m k x, k + m = 2 ^ pc R → (0 < m → x = nZ (dp R k)) → (∀ j, j < k → ¬(isM W a E y T (dp R j) ∧ wi W a E (D - (y + 1)) (y + 1) (T ||| dp R j))) → ∃ w, qbig (d + 2) 130 34 [sR (some 45), none, sI (nZ T), sI (nZ y), sI x, sI (nZ m)] [] h = some (some (qI w), h) ∧ tf w (∃ S, isM W a E y T S ∧ wi W a E (D - (y + 1)) (y + 1) (T ||| S))
  | 0, k, x, e, _, z => by
    have e' : k = 2 ^ pc R := by omega
    rw [e'] at z
    refine ⟨nZ 0, ?_, Or.inr ⟨rfl, fun ⟨S, q1, q2⟩ => ?_⟩⟩
    · rw [E130_34, if_neg (by decide), if_pos (by decide)]
      rfl
    · obtain ⟨r1, r2⟩ := dp_3 L.2.2.1 (L.2.2.2.2.1 S q1.1 q1.2.1)
      exact z _ r1 (by rw [r2]; exact ⟨q1, q2⟩)
  | m + 1, k, x, e, ex, z => by
    have hR := L.2.2.1
    obtain ⟨d1, d2, d3, d4, d5, d6⟩ := dp_2 R hR
    obtain ⟨s1', s2'⟩ := d6 k (by omega)
    have hx := ex (by omega)
    subst hx
    have up : (0 : Int32) < nZ (m + 1) := by
      rw [L0, nZ_lt (by decide) (by omega)]
      omega
    have dn : nZ (m + 1) + (-1) = nZ m := by
      rw [nZ_neg1, nZ_m1 (by omega)]
      rfl
    have z00 : nZ 0 = (0 : Int32) := rfl
    have z10 : ¬(nZ 1 = (0 : Int32)) := by decide
    have nx' : 0 < m → (nZ (dp R k) - nZ R) &&& nZ R = nZ (dp R (k + 1)) := fun hm => (dp_1 R hR k (by omega) (by omega)).1
    have l6 := L.1
    have l7 := L.2.1
    have Mi := L.m s1'
    have v8 : v ≤ 8 := by
      obtain ⟨S0, q1, q2⟩ := L.2.2.2.2.2
      have := (pc_le S0 q1.1).1
      omega
    have p8 := (pc_le _ s1').1
    have skip : ¬(isM W a E y T (dp R k) ∧ wi W a E (D - (y + 1)) (y + 1) (T ||| dp R k)) → ∃ w, qbig (d + 2) 130 34 [sR (some 45), none, sI (nZ T), sI (nZ y), sI ((nZ (dp R k) - nZ R) &&& nZ R), sI (nZ m)] [] h = some (some (qI w), h) ∧ tf w (∃ S, isM W a E y T S ∧ wi W a E (D - (y + 1)) (y + 1) (T ||| S)) := fun nm => c130_34 H d a E K0 D y T R v hy hT s0 sE L I m (k + 1) _ (by omega) nx' (fun j hj q => by
      by_cases c : j = k
      · rw [c] at q
        exact nm q
      · exact z j (by omega) q)
    rcases L.2.2.2.1 _ s1' s2' with ⟨q1, q2⟩ | ⟨q1, q2⟩
    · by_cases cv : pc (dp R k) = v
      · have ev : nZ (pc (dp R k)) = nZ v := by rw [cv]
        have im := Mi.2 ⟨q2, cv⟩
        have ko := or_256 hT s1'
        have eo : nZ T ||| nZ (dp R k) = nZ (T ||| dp R k) := nZ_or _ _
        have ey : nZ y + 1 = nZ (y + 1) := by rw [L1, nZ_add]
        obtain ⟨w, ew, tw'⟩ := c135 H d (T ||| dp R k) (y + 1) ko
        have it := I _ ko (sbs_up s0) (sbs_or q2 sE)
        rcases tw' with ⟨w1, w2⟩ | ⟨w1, w2⟩
        · rw [w1] at ew
          refine ⟨nZ 1, ?_, Or.inl ⟨rfl, dp R k, im, it.1 w2⟩⟩
          rw [E130_34, if_pos up, g45_10 H, ob_some, ob_some, A49 H s1', ob_some, q1, if_neg z10, c1 d _ s1' h, jI, g45_7 H, ob_some, l7, if_pos ev, eo, ey, ew, jI, if_neg z10, if_pos (by decide)]
          rfl
        · rw [w1] at ew
          obtain ⟨w', ew', r⟩ := skip (fun q => w2 (it.2 q.2))
          refine ⟨w', ?_, r⟩
          rw [E130_34, if_pos up, g45_10 H, ob_some, ob_some, A49 H s1', ob_some, q1, if_neg z10, c1 d _ s1' h, jI, g45_7 H, ob_some, l7, if_pos ev, eo, ey, ew, jI, if_pos z00, g45_6 H, ob_some, ob_some, l6, dn]
          exact ew'
      · have ev : ¬(nZ (pc (dp R k)) = nZ v) := by
          rw [nZ_eq (by omega) (by omega)]
          exact cv
        obtain ⟨w', ew', r⟩ := skip (fun q => cv (Mi.1 q.1).2)
        refine ⟨w', ?_, r⟩
        rw [E130_34, if_pos up, g45_10 H, ob_some, ob_some, A49 H s1', ob_some, q1, if_neg z10, c1 d _ s1' h, jI, g45_7 H, ob_some, l7, if_neg ev, g45_6 H, ob_some, ob_some, l6, dn]
        exact ew'
    · obtain ⟨w', ew', r⟩ := skip (fun q => q2 (Mi.1 q.1).1)
      refine ⟨w', ?_, r⟩
      rw [E130_34, if_pos up, g45_10 H, ob_some, ob_some, A49 H s1', ob_some, q1, if_pos z00, g45_6 H, ob_some, ob_some, l6, dn]
      exact ew'
theorem c130 {h : QH} {W : Nat → Nat} (X : CK h W) (d a E K0 D y T : Nat) (ha : a < W 409) (hE : E < 256) (hy : y < 30) (hyD : y < D) (hT : T < 256) (s0 : sbs K0 T) (sE : sbs T E) (ne : T ≠ E) (C : spC h W a E) (I : inT h W a E K0 D (y + 1)) : ∃ k w, qcl (d + 3) 130 [qR (some 45), qR (some 12), qI (nZ T), qI (nZ y)] h = some (some (qI w), k) ∧ Fr fL h k ∧ tf w (wi W a E (D - y) y T) := by
  have H := X.1
  have z00 : nZ 0 = (0 : Int32) := rfl
  have z10 : ¬(nZ 1 = (0 : Int32)) := by decide
  have ey : nZ y + 1 = nZ (y + 1) := by rw [L1, nZ_add]
  have eD : D - y = (D - (y + 1)) + 1 := by omega
  obtain ⟨v, ev, tv⟩ := c135 H (d + 1) T (y + 1) hT
  have it := I T hT s0 sE
  rcases tv with ⟨v1, v2⟩ | ⟨v1, v2⟩
  · rw [v1] at ev
    refine ⟨h, nZ 1, ?_, Fr.refl, Or.inl ⟨rfl, ?_⟩⟩
    · rw [E130, ck45 H, ob_some, ey, ev, jI, if_neg z10, if_pos (by decide)]
      rfl
    · rw [eD]
      exact wi_wait hE hT sE (it.1 v2)
  · rw [v1] at ev
    obtain ⟨k, R, v, e136, Fk, L⟩ := c136 X d a E y T ha hy hT sE C
    have Hk := (X.fr Fk fL_n).1
    obtain ⟨d1, d2, d3, d4, d5, d6⟩ := dp_2 R L.2.2.1
    obtain ⟨w, ew, tw'⟩ := c130_34 (W := W) Hk (d + 1) a E K0 D y T R v hy hT s0 sE L (I.of (fun j => Fk.2 51 j rfl)) (2 ^ pc R) 0 (nZ 0) (by omega) (fun _ => by rw [d1]) (fun j hj => by omega)
    refine ⟨k, w, ?_, Fk, tw'.c ?_⟩
    · rw [E130, ck45 H, ob_some, ey, ev, jI, if_pos z00, e136, jV, g45_6 Hk, ob_some, L.1, c1 (d + 1) _ L.2.2.1 k, jI, d5]
      exact ew
    · rw [eD]
      constructor
      · rintro ⟨S, q1, q2⟩
        exact Or.inr ⟨S, q1, q2⟩
      · intro q
        rcases q with q | q
        · exact absurd q ne
        · exact q
/-- marks of being in time so far -/
def mkT (h : QH) (E y : Nat) : Prop := hI h 51 E = -1 ∧ ∀ T, T < 256 → T ≠ E → ∃ x, x < 1073741824 ∧ hI h 51 T = nZ x ∧ ∀ d, d < y → x.testBit d = false
theorem or_30 {x y : Nat} (hx : x < 1073741824) (hy : y < 30) : x ||| 2 ^ y < 1073741824 := by
  have h1 : 2 ^ y ≤ 2 ^ 29 := Nat.pow_le_pow_right (by decide) (by omega)
  exact Nat.or_lt_two_pow (n := 30) hx (by omega)
def fMt (b j : Nat) : Bool := (match b with
  | 45 => (match j with | 6 => true | 7 => true | _ => false)
  | 49 => true | 51 => true
  | _ => false)
theorem fMt_n (b j : Nat) (h1 : 11 ≤ b) (h2 : b < 26) : fMt b j = false := by
  unfold fMt
  split <;> first | omega | rfl
theorem fL_Mt (b j : Nat) (h : fL b j = true) : fMt b j = true := by
  unfold fL at h
  split at h
  · split at h
    · rfl
    · rfl
    · cases h
  · rfl
  · cases h
/-- day y done for all above s -/
def dnI (h : QH) (W : Nat → Nat) (a E K0 D y s : Nat) : Prop := (hI h 51 E = -1 ∧ ∀ T, T < 256 → T ≠ E → ∃ x, x < 1073741824 ∧ hI h 51 T = nZ x ∧ (∀ d, d < y → x.testBit d = false) ∧ (T < s → x.testBit y = false)) ∧ (∀ d, y < d → d ≤ D → inT h W a E K0 D d) ∧ ∀ T, s ≤ T → T < 256 → sbs K0 T → sbs T E → (btd (hI h 51 T) y ↔ wi W a E (D - y) y T)
theorem c138_37 {W : Nat → Nat} (d a E K0 D y : Nat) (ha : a < W 409) (hE : E < 256) (hEn : ∀ T, T ≤ E → sbs T E) (hK0 : K0 < 256) (hy : 0 < y) (hyD : y < D) (hD : D ≤ 30) : ∀ m h x, K0 + m ≤ E → (0 < m → x = nZ (K0 + m - 1)) → (m = 0 → x < nZ K0) → CK h W → spC h W a E → dnI h W a E K0 D y (K0 + m) → ∃ k, qbig (d + 4) 138 37 [sR (some 45), sR (some 12), sI (nZ K0), sI (nZ y), sI x] [] h = qbig (d + 4) 138 25 [sR (some 45), sR (some 12), sI (nZ K0), sI (nZ (y - 1)), none] [] k ∧ Fr fMt h k ∧ mkT k E y ∧ ∀ d, y ≤ d → d ≤ D → inT k W a E K0 D d
  | 0, h, x, _, _, ex, X, C, I => by
    have ey : nZ y + (-1) = nZ (y - 1) := by rw [nZ_neg1, nZ_m1 (by omega)]
    refine ⟨h, ?_, Fr.refl, ⟨I.1.1, fun T hT ne => ?_⟩, fun d' h1 h2 => ?_⟩
    · rw [E138_37, if_pos (ex rfl), ey]
    · obtain ⟨x, x1, x2, x3, _⟩ := I.1.2 T hT ne
      exact ⟨x, x1, x2, x3⟩
    · by_cases c : d' = y
      · rw [c]
        intro T hT q1 q2
        exact I.2.2 T (by have := sbs_le hK0 q1; omega) hT q1 q2
      · exact I.2.1 d' (by omega) h2
  | m + 1, h, x, hm, ex, _, X, C, I => by
    have H := X.1
    have hx := ex (by omega)
    rw [show K0 + (m + 1) - 1 = K0 + m by omega] at hx
    subst hx
    have s8 : K0 + m < 256 := by omega
    have ne : K0 + m ≠ E := by omega
    have nl : ¬(nZ (K0 + m) < nZ K0) := by
      rw [nZ_lt (by omega) (by omega)]
      omega
    have nx1 : 0 < m → nZ (K0 + m) + (-1) = nZ (K0 + m - 1) := fun _ => by
      rw [nZ_neg1, nZ_m1 (by omega)]
    have nx0 : m = 0 → nZ (K0 + m) + (-1) < nZ K0 := fun e0 => by
      rw [e0, nZ_neg1, Nat.add_zero]
      by_cases c : K0 = 0
      · rw [c]
        decide
      · rw [nZ_m1 (by omega), nZ_lt (by omega) (by omega)]
        omega
    have z00 : nZ 0 = (0 : Int32) := rfl
    have z10 : ¬(nZ 1 = (0 : Int32)) := by decide
    obtain ⟨⟨I1, I2⟩, I3, I4⟩ := I
    by_cases c : (K0 + m) &&& K0 = K0
    · have ce : nZ (K0 + m) &&& nZ K0 = nZ K0 := by rw [nZ_and, c]
      have s0 : sbs K0 (K0 + m) := by
        apply (and_sbs hK0).1
        rw [Nat.and_comm]
        exact c
      have sE := hEn (K0 + m) (by omega)
      obtain ⟨k, w, ek, Fk, tw'⟩ := c130 X d a E K0 D y (K0 + m) ha hE (by omega) hyD s8 s0 sE ne C (I3 (y + 1) (by omega) (by omega))
      have Xk := X.fr Fk fL_n
      have Hk := Xk.1
      have Ck := C.fr Fk rfl rfl (fun _ => rfl) (fun _ => rfl)
      have k51 : ∀ j, hI k 51 j = hI h 51 j := fun j => Fk.2 51 j rfl
      obtain ⟨xx, x1, x2, x3, x4⟩ := I2 _ s8 ne
      have x4' := x4 (by omega)
      rcases tw' with ⟨w1, w2⟩ | ⟨w1, w2⟩
      · rw [w1] at ek
        have y30 : y < 30 := by omega
        have ob := or_30 x1 y30
        have F2 : Fr fMt h (hsI k 51 (K0 + m) (nZ (xx ||| 2 ^ y))) := Fr.si rfl (Fk.mono fL_Mt)
        have tb' : ∀ d', d' < 32 → (btd (nZ (xx ||| 2 ^ y)) d' ↔ (xx.testBit d' = true ∨ d' = y)) := fun d' hd => by
          rw [btd_n (by omega) hd, Nat.testBit_or, Nat.testBit_two_pow, Bool.or_eq_true]
          constructor
          · rintro (q | q)
            · exact Or.inl q
            · exact Or.inr (of_decide_eq_true q).symm
          · rintro (q | q)
            · exact Or.inl q
            · exact Or.inr (decide_eq_true q.symm)
        obtain ⟨k2, ek2, Fk2, r⟩ := c138_37 d a E K0 D y ha hE hEn hK0 hy hyD hD m (hsI k 51 (K0 + m) (nZ (xx ||| 2 ^ y))) _ (by omega) nx1 nx0 (X.fr F2 fMt_n) (C.fr F2 rfl rfl (fun _ => rfl) (fun _ => rfl)) (by
          refine ⟨⟨?_, fun T hT nT => ?_⟩, fun d' h1 h2 T hT q1 q2 => ?_, fun T h1 hT q1 q2 => ?_⟩
          · rw [hI_ne (Or.inr (fun z => ne z.symm)), k51]
            exact I1
          · by_cases cT : T = K0 + m
            · rw [cT, hI_at rfl]
              refine ⟨xx ||| 2 ^ y, ob, rfl, fun d' hd => ?_, fun z => by omega⟩
              rw [Nat.testBit_or, x3 d' hd, Nat.testBit_two_pow, decide_eq_false (by omega)]
              rfl
            · rw [hI_ne (Or.inr cT), k51]
              obtain ⟨u, u1, u2, u3, u4⟩ := I2 T hT nT
              exact ⟨u, u1, u2, u3, fun z => u4 (by omega)⟩
          · by_cases cT : T = K0 + m
            · rw [cT, hI_at rfl, tb' d' (by omega), ← I3 d' h1 h2 _ s8 s0 sE, x2, btd_n (by omega) (by omega)]
              constructor
              · rintro (q | q)
                · exact q
                · omega
              · exact Or.inl
            · rw [hI_ne (Or.inr cT), k51]
              exact I3 d' h1 h2 T hT q1 q2
          · by_cases cT : T = K0 + m
            · rw [cT, hI_at rfl, tb' y (by omega)]
              exact ⟨fun _ => w2, fun _ => Or.inr rfl⟩
            · rw [hI_ne (Or.inr cT), k51]
              exact I4 T (by omega) hT q1 q2)
        refine ⟨k2, ?_, F2.trans Fk2, r⟩
        rw [E138_37, if_neg nl, if_pos ce, ek, jI, if_neg z10, g45_12 Hk, ob_some, ob_some, A51 Hk s8, ob_some, k51, x2, ob_some, bit_set (by omega), S51 Hk s8, ob_some]
        exact ek2
      · rw [w1] at ek
        obtain ⟨k2, ek2, Fk2, r⟩ := c138_37 d a E K0 D y ha hE hEn hK0 hy hyD hD m k _ (by omega) nx1 nx0 Xk Ck (by
          refine ⟨⟨?_, fun T hT nT => ?_⟩, fun d' h1 h2 => (I3 d' h1 h2).of k51, fun T h1 hT q1 q2 => ?_⟩
          · rw [k51]
            exact I1
          · rw [k51]
            obtain ⟨u, u1, u2, u3, u4⟩ := I2 T hT nT
            exact ⟨u, u1, u2, u3, fun z => u4 (by omega)⟩
          · rw [k51]
            by_cases cT : T = K0 + m
            · rw [cT, x2, btd_n (by omega) (by omega), x4']
              exact ⟨fun z => (by cases z), fun z => absurd z w2⟩
            · exact I4 T (by omega) hT q1 q2)
        refine ⟨k2, ?_, (Fk.mono fL_Mt).trans Fk2, r⟩
        rw [E138_37, if_neg nl, if_pos ce, ek, jI, if_pos z00]
        exact ek2
    · have ce : ¬(nZ (K0 + m) &&& nZ K0 = nZ K0) := by
        have l : (K0 + m) &&& K0 < 256 := Nat.lt_of_le_of_lt Nat.and_le_right hK0
        rw [nZ_and, nZ_eq (by omega) (by omega)]
        exact c
      obtain ⟨k2, ek2, Fk2, r⟩ := c138_37 d a E K0 D y ha hE hEn hK0 hy hyD hD m h _ (by omega) nx1 nx0 X C (by
        refine ⟨⟨I1, fun T hT nT => ?_⟩, I3, fun T h1 hT q1 q2 => ?_⟩
        · obtain ⟨u, u1, u2, u3, u4⟩ := I2 T hT nT
          exact ⟨u, u1, u2, u3, fun z => u4 (by omega)⟩
        · by_cases cT : T = K0 + m
          · rw [cT] at q1
            exact absurd (by rw [Nat.and_comm]; exact (and_sbs hK0).2 q1) c
          · exact I4 T (by omega) hT q1 q2)
      refine ⟨k2, ?_, Fk2, r⟩
      rw [E138_37, if_neg nl, if_neg ce]
      exact ek2

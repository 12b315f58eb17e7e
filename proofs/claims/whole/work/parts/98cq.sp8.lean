/-! the class's spread: days -/
def fG (b j : Nat) : Bool := (match b with
  | 45 => (match j with | 6 => true | 7 => true | _ => false)
  | 49 => true | 50 => true
  | _ => false)
theorem fG_n (b j : Nat) (h1 : 11 ≤ b) (h2 : b < 26) : fG b j = false := by
  unfold fG
  split <;> first | omega | rfl
theorem fL_G (b j : Nat) (h : fL b j = true) : fG b j = true := by
  unfold fL at h
  split at h
  · split at h
    · rfl
    · rfl
    · cases h
  · rfl
  · cases h
theorem fG_Sp (b j : Nat) (h : fG b j = true) : fSp b j = true := by
  unfold fG at h
  split at h
  · split at h
    · rfl
    · rfl
    · cases h
  · rfl
  · rfl
  · cases h
theorem lkD.m {h : QH} {W : Nat → Nat} {a E y K R v : Nat} (L : lkD h W a E y K R v) {S : Nat} (hS : S < 256) : isM W a E y K S ↔ fit W a E y K S ∧ pc S = v := by
  obtain ⟨S0, s1, s2⟩ := L.2.2.2.2.2
  have c0 := pc_card S0 s1.1
  have c := pc_card S hS
  constructor
  · intro h
    refine ⟨h.2.1, ?_⟩
    have g1 := h.2.2 S0 s1.1 s1.2.1
    have g2 := s1.2.2 S hS h.2.1
    unfold card8 at g1 g2
    have g1' : pc S0 ≤ pc S := by
      rw [c0, c]
      exact g1
    have g2' : pc S ≤ pc S0 := by
      rw [c0, c]
      exact g2
    omega
  · rintro ⟨f, e⟩
    refine ⟨hS, f, fun S' h1 h2 => ?_⟩
    have g := s1.2.2 S' h1 h2
    have c' := pc_card S' h1
    show cN (fun i => S'.testBit i) 8 ≤ cN (fun i => S.testBit i) 8
    have g' : cN (fun i => S'.testBit i) 8 ≤ cN (fun i => S0.testBit i) 8 := g
    omega
theorem lkD.k {h k : QH} {W : Nat → Nat} {a E y K R v : Nat} (L : lkD h W a E y K R v) (e : ∀ b j, b ≠ 50 → hI k b j = hI h b j) : lkD k W a E y K R v := by
  obtain ⟨l1', l2', l3', l4', l5', l6'⟩ := L
  refine ⟨?_, ?_, l3', fun S hS z => ?_, l5', l6'⟩
  · rw [e _ _ (by decide)]
    exact l1'
  · rw [e _ _ (by decide)]
    exact l2'
  · rw [e _ _ (by decide)]
    exact l4' S hS z
theorem c134_21 {h0 : QH} {W : Nat → Nat} (d a E y K R v : Nat) (hK : K < 256) : ∀ m k h x, k + m = 2 ^ pc R → (0 < m → x = nZ (dp R k)) → Sh h → lkD h W a E y K R v → (∀ j, j < k → isM W a E y K (dp R j) → hI h 50 (K ||| dp R j) = nZ (y + 1)) → (∀ T, T < 256 → (∀ j, j < k → isM W a E y K (dp R j) → T ≠ K ||| dp R j) → hI h 50 T = hI h0 50 T) → ∃ k', qbig (d + 2) 134 21 [sR (some 45), none, sI (nZ K), sI (nZ y), sI x, sI (nZ m)] [] h = some (none, k') ∧ Fr (fO 50) h k' ∧ (∀ j, j < 2 ^ pc R → isM W a E y K (dp R j) → hI k' 50 (K ||| dp R j) = nZ (y + 1)) ∧ (∀ T, T < 256 → (∀ j, j < 2 ^ pc R → isM W a E y K (dp R j) → T ≠ K ||| dp R j) → hI k' 50 T = hI h0 50 T)
  | 0, k, h, x, e, _, H, L, i1, i2 => by
    have e' : k = 2 ^ pc R := by omega
    rw [e'] at i1 i2
    refine ⟨h, ?_, Fr.refl, i1, i2⟩
    rw [E134_21, if_neg (by decide)]
  | m + 1, k, h, x, e, ex, H, L, i1, i2 => by
    have hR := L.2.2.1
    obtain ⟨d1, d2, d3, d4, d5, d6⟩ := dp_2 R hR
    obtain ⟨s1', s2'⟩ := d6 k (by omega)
    have hx := ex (by omega)
    subst hx
    have up : (0 : Int32) < nZ (m + 1) := by
      rw [L0, nZ_lt (by decide) (by omega)]
      omega
    have dn : nZ (m + 1) + (-1) = nZ m := by
      rw [nZ_neg1, nZ_m1 (by omega)]
      rfl
    have z00 : nZ 0 = (0 : Int32) := rfl
    have z10 : ¬(nZ 1 = (0 : Int32)) := by decide
    have nx' : 0 < m → (nZ (dp R k) - nZ R) &&& nZ R = nZ (dp R (k + 1)) := fun hm => (dp_1 R hR k (by omega) (by omega)).1
    have l6 := L.1
    have l7 := L.2.1
    have Mi := L.m s1'
    have v8 : v ≤ 8 := by
      obtain ⟨S0, q1, q2⟩ := L.2.2.2.2.2
      have := (pc_le S0 q1.1).1
      omega
    have p8 := (pc_le _ s1').1
    have skip : ¬isM W a E y K (dp R k) → ∃ k', qbig (d + 2) 134 21 [sR (some 45), none, sI (nZ K), sI (nZ y), sI ((nZ (dp R k) - nZ R) &&& nZ R), sI (nZ m)] [] h = some (none, k') ∧ Fr (fO 50) h k' ∧ (∀ j, j < 2 ^ pc R → isM W a E y K (dp R j) → hI k' 50 (K ||| dp R j) = nZ (y + 1)) ∧ (∀ T, T < 256 → (∀ j, j < 2 ^ pc R → isM W a E y K (dp R j) → T ≠ K ||| dp R j) → hI k' 50 T = hI h0 50 T) := fun nm => c134_21 (h0 := h0) d a E y K R v hK m (k + 1) h _ (by omega) nx' H L (fun j hj q => by
      by_cases c : j = k
      · rw [c] at q
        exact absurd q nm
      · exact i1 j (by omega) q) (fun T hT q => i2 T hT (fun j hj q2 => q j (by omega) q2))
    rcases L.2.2.2.1 _ s1' s2' with ⟨q1, q2⟩ | ⟨q1, q2⟩
    · by_cases cv : pc (dp R k) = v
      · have ev : nZ (pc (dp R k)) = nZ v := by rw [cv]
        have im := Mi.2 ⟨q2, cv⟩
        have ko := or_256 hK s1'
        have eo : nZ K ||| nZ (dp R k) = nZ (K ||| dp R k) := nZ_or _ _
        have ey : nZ y + 1 = nZ (y + 1) := by rw [L1, nZ_add]
        have H1 : Sh (hsI h 50 (K ||| dp R k) (nZ (y + 1))) := H
        have F1 : Fr (fO 50) h (hsI h 50 (K ||| dp R k) (nZ (y + 1))) := Fr.si rfl Fr.refl
        have g6 : hI (hsI h 50 (K ||| dp R k) (nZ (y + 1))) 45 6 = nZ R := by
          rw [hI_ne (by omega)]
          exact l6
        obtain ⟨k', ek, Fk, j1, j2⟩ := c134_21 (h0 := h0) d a E y K R v hK m (k + 1) (hsI h 50 (K ||| dp R k) (nZ (y + 1))) _ (by omega) nx' H1 (L.k (fun b j hb => hI_ne (Or.inl hb))) (fun j hj q => by
          by_cases c : K ||| dp R j = K ||| dp R k
          · rw [c, hI_at rfl]
          · rw [hI_ne (Or.inr c)]
            by_cases cj : j = k
            · rw [cj] at c
              exact absurd rfl c
            · exact i1 j (by omega) q) (fun T hT q => by
          have c := q k (by omega) im
          rw [hI_ne (Or.inr c)]
          exact i2 T hT (fun j hj q2 => q j (by omega) q2))
        refine ⟨k', ?_, F1.trans Fk, j1, j2⟩
        rw [E134_21, if_pos up, g45_10 H, ob_some, ob_some, A49 H s1', ob_some, q1, if_neg z10, c1 d _ s1' h, jI, g45_7 H, ob_some, l7, if_pos ev, g45_11 H, ob_some, ob_some, eo, ey, S50 H ko, ob_some, g45_6 H1, ob_some, ob_some, g6, dn]
        exact ek
      · have ev : ¬(nZ (pc (dp R k)) = nZ v) := by
          rw [nZ_eq (by omega) (by omega)]
          exact cv
        obtain ⟨k', ek, r⟩ := skip (fun q => cv (Mi.1 q).2)
        refine ⟨k', ?_, r⟩
        rw [E134_21, if_pos up, g45_10 H, ob_some, ob_some, A49 H s1', ob_some, q1, if_neg z10, c1 d _ s1' h, jI, g45_7 H, ob_some, l7, if_neg ev, g45_6 H, ob_some, ob_some, l6, dn]
        exact ek
    · obtain ⟨k', ek, r⟩ := skip (fun q => q2 (Mi.1 q).1)
      refine ⟨k', ?_, r⟩
      rw [E134_21, if_pos up, g45_10 H, ob_some, ob_some, A49 H s1', ob_some, q1, if_pos z00, g45_6 H, ob_some, ob_some, l6, dn]
      exact ek
theorem c134 {h : QH} {W : Nat → Nat} (X : CK h W) (d a E y K : Nat) (ha : a < W 409) (hy : y < 30) (hK : K < 256) (sK : sbs K E) (C : spC h W a E) : ∃ k, qcl (d + 3) 134 [qR (some 45), qR (some 12), qI (nZ K), qI (nZ y)] h = some (none, k) ∧ Fr fG h k ∧ (∀ S, isM W a E y K S → hI k 50 (K ||| S) = nZ (y + 1)) ∧ (∀ T, T < 256 → (∀ S, isM W a E y K S → T ≠ K ||| S) → hI k 50 T = hI h 50 T) := by
  have H := X.1
  obtain ⟨k, R, v, e136, Fk, L⟩ := c136 X d a E y K ha hy hK sK C
  have Xk := X.fr Fk fL_n
  have Hk := Xk.1
  have hR := L.2.2.1
  obtain ⟨d1, d2, d3, d4, d5, d6⟩ := dp_2 R hR
  obtain ⟨k', ek, Fk', j1, j2⟩ := c134_21 (h0 := h) (d + 1) a E y K R v hK (2 ^ pc R) 0 k (nZ 0) (by omega) (fun _ => by rw [d1]) Hk L (fun j hj => by omega) (fun T _ _ => Fk.2 50 T rfl)
  refine ⟨k', ?_, (Fk.mono fL_G).trans (Fk'.mono (fun b j z => by rw [fO_eq z]; rfl)), fun S q => ?_, fun T hT q => j2 T hT (fun j _ q2 => q _ q2)⟩
  · rw [E134, ck45 H, ob_some, e136, jV, g45_6 Hk, ob_some, L.1, c1 (d + 1) _ hR k, jI, d5]
    exact ek
  · obtain ⟨q1, q2⟩ := dp_3 hR (L.2.2.2.2.1 S q.1 q.2.1)
    have := j1 _ q1 (by rw [q2]; exact q)
    rw [q2] at this
    exact this
/-- an array filled anew -/
theorem c8g (d p n : Nat) (v : Int32) (hn : n ≤ 1000) (S : ∀ h i, Sh h → i < n → qsi 0 p (nZ i) v h = some (hsI h p i v)) : ∀ m i h, i + m = n → Sh h → (∀ j, j < i → hI h p j = v) → ∃ k, qbig (d + 1) 8 5 [sR (some p), sI v, sI (nZ i), sI (nZ n)] [] h = some (none, k) ∧ Fr (fO p) h k ∧ ∀ j, j < n → hI k p j = v
  | 0, i, h, e, H, z => by
    have e' : i = n := by omega
    subst e'
    have lt1 : ¬(nZ i < nZ i) := by
      rw [nZ_lt (by omega) (by omega)]
      omega
    refine ⟨h, ?_, Fr.refl, z⟩
    rw [E8_5, if_neg lt1]
  | m + 1, i, h, e, H, z => by
    have lt1 : nZ i < nZ n := by
      rw [nZ_lt (by omega) (by omega)]
      omega
    have ip : nZ i + 1 = nZ (i + 1) := by rw [L1, nZ_add]
    have F1 : Fr (fO p) h (hsI h p i v) := Fr.si (Nat.beq_refl p) Fr.refl
    obtain ⟨k, ek, Fk, zk⟩ := c8g d p n v hn S m (i + 1) (hsI h p i v) (by omega) H (fun j hj => by
      by_cases c : j = i
      · rw [c, hI_at rfl]
      · rw [hI_ne (Or.inr c)]
        exact z j (by omega))
    refine ⟨k, ?_, F1.trans Fk, zk⟩
    rw [E8_5, if_pos lt1, ob_some, S h i H (by omega), ob_some, ip]
    exact ek

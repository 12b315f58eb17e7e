/-! ===== calls that are refused; put ===== -/
theorem K0.sh {h : QH} {W : Nat → Nat} {c : Nat} {T : Nat → Nat} (K : K0 h W c T) : Sh h := K.1
theorem K0.ro {h : QH} {W : Nat → Nat} {c : Nat} {T : Nat → Nat} (K : K0 h W c T) : Ro h := K.2.1
theorem K0.wi {h : QH} {W : Nat → Nat} {c : Nat} {T : Nat → Nat} (K : K0 h W c T) : WI W := K.2.2.1
theorem K0.mk {h : QH} {W : Nat → Nat} {c : Nat} {T : Nat → Nat} (K : K0 h W c T) : MK h W := K.2.2.2.1
theorem K0.cp {h : QH} {W : Nat → Nat} {c : Nat} {T : Nat → Nat} (K : K0 h W c T) : CP h 11 W := K.2.2.2.2.1.1
theorem K0.ca {h : QH} {W : Nat → Nat} {c : Nat} {T : Nat → Nat} (K : K0 h W c T) : CA h 11 W := K.2.2.2.2.1.2.1
theorem K0.cs {h : QH} {W : Nat → Nat} {c : Nat} {T : Nat → Nat} (K : K0 h W c T) : CS h 11 W := K.2.2.2.2.1.2.2.1
theorem K0.cf {h : QH} {W : Nat → Nat} {c : Nat} {T : Nat → Nat} (K : K0 h W c T) : CF h 11 W := K.2.2.2.2.1.2.2.2
theorem K0.ch {h : QH} {W : Nat → Nat} {c : Nat} {T : Nat → Nat} (K : K0 h W c T) : hI h 10 10 = nZ c := K.2.2.2.2.2.1.1
theorem K0.vs {h : QH} {W : Nat → Nat} {c : Nat} {T : Nat → Nat} (K : K0 h W c T) : hI h 56 1 = nZ c := K.2.2.2.2.2.1.2
theorem K0.km {h : QH} {W : Nat → Nat} {c : Nat} {T : Nat → Nat} (K : K0 h W c T) : KM h := K.2.2.2.2.2.2.1
theorem K0.kt {h : QH} {W : Nat → Nat} {c : Nat} {T : Nat → Nat} (K : K0 h W c T) : KT h T := K.2.2.2.2.2.2.2
theorem K0.n8 {h : QH} {W : Nat → Nat} {c : Nat} {T : Nat → Nat} (K : K0 h W c T) : W 408 ≤ 8 := K.wi.1 408 (by decide) (by decide)
theorem K0.n5 {h : QH} {W : Nat → Nat} {c : Nat} {T : Nat → Nat} (K : K0 h W c T) : W 409 ≤ 5 := K.wi.1 409 (by decide) (by decide)
theorem K0.n60 {h : QH} {W : Nat → Nat} {c : Nat} {T : Nat → Nat} (K : K0 h W c T) : W 410 ≤ 60 := K.wi.1 410 (by decide) (by decide)
theorem K0.n6 {h : QH} {W : Nat → Nat} {c : Nat} {T : Nat → Nat} (K : K0 h W c T) : W 411 ≤ 6 := K.wi.1 411 (by decide) (by decide)
theorem K0.c12 {h : QH} {W : Nat → Nat} {c : Nat} {T : Nat → Nat} (K : K0 h W c T) : hI h 12 0 = nZ (W 408) := K.cp.1
theorem K0.c17 {h : QH} {W : Nat → Nat} {c : Nat} {T : Nat → Nat} (K : K0 h W c T) : hI h 17 0 = nZ (W 409) := K.ca.1
theorem K0.c19 {h : QH} {W : Nat → Nat} {c : Nat} {T : Nat → Nat} (K : K0 h W c T) : hI h 19 0 = nZ (W 410) := K.cs.1
theorem K0.m408 {h : QH} {W : Nat → Nat} {c : Nat} {T : Nat → Nat} (K : K0 h W c T) : hI h 58 408 = nZ (W 408) := K.mk.at (by decide) (by decide)
theorem K0.m409 {h : QH} {W : Nat → Nat} {c : Nat} {T : Nat → Nat} (K : K0 h W c T) : hI h 58 409 = nZ (W 409) := K.mk.at (by decide) (by decide)
theorem K0.m410 {h : QH} {W : Nat → Nat} {c : Nat} {T : Nat → Nat} (K : K0 h W c T) : hI h 58 410 = nZ (W 410) := K.mk.at (by decide) (by decide)
theorem K0.tr {h : QH} {W : Nat → Nat} {c : Nat} {T : Nat → Nat} (K : K0 h W c T) {p f : Nat} (hp : p < 8) (hf : f < 4) : hI h 13 (f * 8 + p) = nZ (W (4 * p + f)) := K.cp.2.2.1 p f hp hf
theorem K0.me {h : QH} {W : Nat → Nat} {c : Nat} {T : Nat → Nat} (K : K0 h W c T) {p : Nat} (hp : p < 8) : hI h 14 p = nZ (W (32 + p)) := K.cp.2.2.2.1 p hp
theorem K0.he {h : QH} {W : Nat → Nat} {c : Nat} {T : Nat → Nat} (K : K0 h W c T) {p : Nat} (hp : p < 8) : hI h 15 p = nZ (W (400 + p)) := K.cp.2.2.2.2.1 p hp
theorem K0.kn {h : QH} {W : Nat → Nat} {c : Nat} {T : Nat → Nat} (K : K0 h W c T) {j : Nat} (hj : j < 40) : hI h 16 j = nZ (W (60 + j)) := K.cp.2.2.2.2.2 j hj
theorem K0.ru {h : QH} {W : Nat → Nat} {c : Nat} {T : Nat → Nat} (K : K0 h W c T) {a f : Nat} (ha : a < 5) (hf : f < 4) : hI h 18 (f * 5 + a) = nZ (W (40 + 4 * a + f)) := K.ca.2 a f ha hf
theorem Sim_ref {h : QH} {W : Nat → Nat} {c : Nat} {T : Nat → Nat} (K : K0 h W c T) (v : Int32) {k m : Nat} (e : (k = 0 ∧ m = 1) ∨ (k = 1 ∧ m = 2) ∨ (k = 2 ∧ m = 3) ∨ (k = 3 ∧ m = 5) ∨ (k = 4 ∧ m = 6)) : Sim h (rfM (rfC h v k) v m) W c T := by
  have F : Fr sC h (rfM (rfC h v k) v m) := Fr.si rfl (Fr.si rfl (Fr.si rfl (Fr.si rfl Fr.refl)))
  have M := K.km
  obtain ⟨⟨M1, M2, M3⟩, M4, M5, M6, M7, M8⟩ := M
  refine ⟨W, c, T, ⟨F.Sh K.sh, F.Ro sC_lo K.ro, K.wi, K.mk.of (fun j => rfl), ⟨K.cp.of ?_, K.ca.of ?_, K.cs.of ?_, K.cf.of (fun j => rfl)⟩, ⟨K.ch, K.vs⟩, ?_, K.kt.of (fun j => rfl) (fun j => rfl) (fun j => rfl) rfl⟩, F, fun j _ => rfl, rfl, Or.inl ⟨rfl, rfl⟩⟩
  · intro i j h1 h2
    simp (disch := omega) only [rfC, rfM, hI_ne]
  · intro i j h1 h2
    simp (disch := omega) only [rfC, rfM, hI_ne]
  · intro i j h1 h2
    simp (disch := omega) only [rfC, rfM, hI_ne]
  · unfold KM
    rcases e with ⟨e1, e2⟩ | ⟨e1, e2⟩ | ⟨e1, e2⟩ | ⟨e1, e2⟩ | ⟨e1, e2⟩ <;> subst e1 <;> subst e2 <;> simp (disch := omega) only [rfC, rfM, hI_ne, hI_at, M1, M2, M3, M4, M5, M6, M7, M8, and_self]
/-- the rest of a call that went well -/
theorem KM_ok {h k : QH} (M : KM h) (e : ∀ b j, (b = 10 ∧ 12 ≤ j) ∨ b = 54 ∨ b = 57 ∨ (b = 56 ∧ (j = 6 ∨ j = 11)) → hI k b j = hI h b j) (e1 : hI k 10 11 = nZ 0) (e2 : hI k 56 0 = nZ 0) : KM k := by
  unfold KM
  rw [e1, e2, e 10 12 (by decide), e 10 13 (by decide), e 56 6 (by decide), e 56 11 (by decide), e 54 0 (by decide), e 54 1 (by decide), e 54 2 (by decide), e 54 3 (by decide), e 54 4 (by decide), e 57 1 (by decide), e 57 2 (by decide), e 57 3 (by decide), e 57 5 (by decide), e 57 6 (by decide)]
  exact ⟨⟨rfl, M.1.2⟩, M.2⟩
theorem WI_put {W : Nat → Nat} (I : WI W) {p f v : Nat} (hp : p < 8) (hf : f < 4) (hv : v ≤ bnd (4 * p + f)) : WI (up W (4 * p + f) v) := by
  obtain ⟨I1, I2, I3, I4, I5, I6⟩ := I
  refine ⟨WB_up I1 hv, ?_, ?_, ?_, ?_, ?_⟩
  · intro p q hp hq
    rw [up_ne (by omega), up_ne (by omega)]
    exact I2 p q hp hq
  · intro a ha
    rw [up_ne (by omega)] at ha ⊢
    exact I3 a ha
  · intro q a hq ha hn
    rw [up_ne (by omega), up_ne (by omega)] at hn
    rw [up_ne (by omega)]
    exact I4 q a hq ha hn
  · intro s hs
    rw [up_ne (by omega)] at hs
    have h60 := I1 410 (by decide) (by decide)
    rw [up_ne (by omega), up_ne (by omega), up_ne (by omega), up_ne (by omega)]
    exact I5 s hs
  · refine ⟨?_, ?_⟩
    · repeat rw [up_ne (by omega)]
      exact I6.1
    · intro p hp hn
      repeat rw [up_ne (by omega)] at hn
      repeat rw [up_ne (by omega)]
      exact I6.2 p hp hn
theorem Sim_put {h : QH} {W : Nat → Nat} {c : Nat} {T : Nat → Nat} (K : K0 h W c T) {p f v : Nat} (hp : p < 8) (hf : f < 4) (hv : v ≤ bnd (4 * p + f)) : Sim h (okM' (hsI (okC' (hsI h 13 (f * 8 + p) (nZ v))) 58 (4 * p + f) (nZ v))) W c T := by
  have F : Fr sC h (okM' (hsI (okC' (hsI h 13 (f * 8 + p) (nZ v))) 58 (4 * p + f) (nZ v))) := Fr.si rfl (Fr.si rfl (Fr.si rfl (Fr.si rfl (Fr.si rfl (Fr.si rfl Fr.refl)))))
  refine ⟨up W (4 * p + f) v, c + 1, T, ⟨F.Sh K.sh, F.Ro sC_lo K.ro, WI_put K.wi hp hf hv, ?_, ⟨?_, (K.ca.w (fun j hj => up_ne (by omega))).of ?_, (K.cs.w (fun j hj => up_ne (by omega))).of ?_, (K.cf.w (up_ne (by omega)) (up_ne (by omega))).of ?_⟩, ⟨?_, ?_⟩, KM_ok K.km ?_ ?_ ?_, K.kt.of ?_ ?_ ?_ ?_⟩, F, fun j _ => up_ne (by omega), up_ne (by omega), Or.inr rfl⟩
  · intro j hj
    rw [kv_up (by omega)]
    by_cases e : j = 4 * p + f
    · rw [if_pos e]
      simp (disch := omega) only [okM', okC', hI_ne, hI_at]
    · rw [if_neg e]
      simp (disch := omega) only [okM', okC', hI_ne, hI_at]
      exact K.mk j hj
  · have C := K.cp
    refine ⟨?_, ?_, ?_, ?_, ?_, ?_⟩
    · rw [up_ne (by omega)]
      simp (disch := omega) only [okM', okC', hI_ne, hI_at]
      exact C.1
    · rw [up_ne (by omega)]
      simp (disch := omega) only [okM', okC', hI_ne, hI_at]
      exact C.2.1
    · intro q g hq hg
      by_cases e : q = p ∧ g = f
      · rw [e.1, e.2, up_at rfl]
        simp (disch := omega) only [okM', okC', hI_ne, hI_at]
      · rw [up_ne (by omega)]
        simp (disch := omega) only [okM', okC', hI_ne, hI_at]
        exact C.2.2.1 q g hq hg
    · intro q hq
      rw [up_ne (by omega)]
      simp (disch := omega) only [okM', okC', hI_ne, hI_at]
      exact C.2.2.2.1 q hq
    · intro q hq
      rw [up_ne (by omega)]
      simp (disch := omega) only [okM', okC', hI_ne, hI_at]
      exact C.2.2.2.2.1 q hq
    · intro q hq
      rw [up_ne (by omega)]
      simp (disch := omega) only [okM', okC', hI_ne, hI_at]
      exact C.2.2.2.2.2 q hq
  · intro i j h1 h2
    simp (disch := omega) only [okM', okC', hI_ne]
  · intro i j h1 h2
    simp (disch := omega) only [okM', okC', hI_ne]
  · intro j
    simp (disch := omega) only [okM', okC', hI_ne]
  · simp (disch := omega) only [okM', okC', hI_ne, hI_at, K.ch, nZ_add]
  · simp (disch := omega) only [okM', okC', hI_ne, hI_at, K.vs, nZ_add]
  · intro b j hb
    simp (disch := omega) only [okM', okC', hI_ne]
  · simp (disch := omega) only [okM', okC', hI_ne, hI_at]
  · simp (disch := omega) only [okM', okC', hI_ne, hI_at]
  · intro j
    simp (disch := omega) only [okM', okC', hI_ne]
  · intro j
    simp (disch := omega) only [okM', okC', hI_ne]
  · intro j
    simp (disch := omega) only [okM', okC', hI_ne]
  · simp (disch := omega) only [okM', okC', hI_ne]

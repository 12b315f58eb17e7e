/-! the class's spread: how many days -/
theorem fw_in {W : Nat → Nat} {a E K0 : Nat} (hK : K0 < 256) (sK : sbs K0 E) : ∀ d K, fw W a E K0 d K → K < 256 ∧ sbs K0 K ∧ sbs K E
  | 0, K, h => by
    have h' : K = K0 := h
    rw [h']
    exact ⟨hK, fun _ _ z => z, sK⟩
  | d + 1, K, h => by
    obtain ⟨K1, S, h1, h2, h3⟩ := h
    obtain ⟨i1, i2, i3⟩ := fw_in hK sK d K1 h1
    rw [h3]
    refine ⟨or_256 i1 h2.1, fun i hi z => ?_, sbs_or h2.2.1 i3⟩
    rw [Nat.testBit_or, i2 i hi z]
    rfl
theorem sbs_le {A B : Nat} (hA : A < 256) (h : sbs A B) : A ≤ B := by
  have e := (and_sbs hA).2 h
  rw [← e]
  exact Nat.and_le_right
/-- marks at the beginning of day y -/
def mkD (h : QH) (W : Nat → Nat) (a E K0 y : Nat) : Prop := (∀ T, T < 256 → (hI h 50 T = nZ y ↔ fw W a E K0 y T)) ∧ ∀ T, T < 256 → hI h 50 T = -1 ∨ ∃ j, j ≤ y ∧ hI h 50 T = nZ j
/-- marked out of those above s -/
def abv (W : Nat → Nat) (a E K0 y s T : Nat) : Prop := ∃ K S, s < K ∧ fw W a E K0 y K ∧ isM W a E y K S ∧ T = K ||| S
theorem c131_44 {h0 : QH} {W : Nat → Nat} (d a E K0 y : Nat) (ha : a < W 409) (hy : y < 30) (hE : E < 256) (hK0 : K0 < 256) (sK : sbs K0 E) (D : mkD h0 W a E K0 y) : ∀ m h x, K0 + m ≤ E + 1 → (0 < m → x = nZ (K0 + m - 1)) → (m = 0 → x < nZ K0) → CK h W → spC h W a E → (∀ T, T < 256 → abv W a E K0 y (K0 + m - 1) T ∨ (m = 0 ∧ ∃ S, fw W a E K0 y K0 ∧ isM W a E y K0 S ∧ T = K0 ||| S) → hI h 50 T = nZ (y + 1)) → (∀ T, T < 256 → ¬(abv W a E K0 y (K0 + m - 1) T ∨ (m = 0 ∧ ∃ S, fw W a E K0 y K0 ∧ isM W a E y K0 S ∧ T = K0 ||| S)) → hI h 50 T = hI h0 50 T) → ∃ k, qbig (d + 4) 131 44 [sR (some 45), sR (some 12), sI (nZ K0), sI (nZ y), sI x] [] h = qbig (d + 4) 131 17 [sR (some 45), sR (some 12), sI (nZ K0), sI (nZ (y + 1)), none] [] k ∧ Fr fG h k ∧ mkD k W a E K0 (y + 1)
  | 0, h, x, _, _, ex, X, C, i1, i2 => by
    have ey : nZ y + 1 = nZ (y + 1) := by rw [L1, nZ_add]
    have key : ∀ T, (abv W a E K0 y (K0 + 0 - 1) T ∨ ((0 : Nat) = 0 ∧ ∃ S, fw W a E K0 y K0 ∧ isM W a E y K0 S ∧ T = K0 ||| S)) ↔ fw W a E K0 (y + 1) T := fun T => by
      constructor
      · rintro (⟨K, S, q1, q2, q3, q4⟩ | ⟨_, S, q2, q3, q4⟩)
        · exact ⟨K, S, q2, q3, q4⟩
        · exact ⟨K0, S, q2, q3, q4⟩
      · rintro ⟨K, S, q2, q3, q4⟩
        by_cases c : K = K0
        · rw [c] at q2 q3 q4
          exact Or.inr ⟨rfl, S, q2, q3, q4⟩
        · have b := sbs_le hK0 (fw_in hK0 sK y K q2).2.1
          exact Or.inl ⟨K, S, by omega, q2, q3, q4⟩
    refine ⟨h, ?_, Fr.refl, fun T hT => ?_, fun T hT => ?_⟩
    · rw [E131_44, if_pos (ex rfl), ey]
    · by_cases c : fw W a E K0 (y + 1) T
      · exact ⟨fun _ => c, fun _ => i1 T hT ((key T).2 c)⟩
      · refine ⟨fun z => ?_, fun z => absurd z c⟩
        rw [i2 T hT (fun w => c ((key T).1 w))] at z
        rcases D.2 T hT with q | ⟨j, j1, j2⟩
        · rw [z] at q
          exact absurd (q.trans nZ_neg1) (fun w => cast (nZ_nneg (a := y + 1) (by omega)) w)
        · rw [z, nZ_eq (by omega) (by omega)] at j2
          omega
    · by_cases c : fw W a E K0 (y + 1) T
      · exact Or.inr ⟨y + 1, Nat.le_refl _, i1 T hT ((key T).2 c)⟩
      · rw [i2 T hT (fun w => c ((key T).1 w))]
        rcases D.2 T hT with q | ⟨j, j1, j2⟩
        · exact Or.inl q
        · exact Or.inr ⟨j, by omega, j2⟩
  | m + 1, h, x, hm, ex, _, X, C, i1, i2 => by
    have H := X.1
    have hx := ex (by omega)
    rw [show K0 + (m + 1) - 1 = K0 + m by omega] at hx i1 i2
    subst hx
    have s8 : K0 + m < 256 := by omega
    have nl : ¬(nZ (K0 + m) < nZ K0) := by
      rw [nZ_lt (by omega) (by omega)]
      omega
    have nx1 : 0 < m → nZ (K0 + m) + (-1) = nZ (K0 + m - 1) := fun _ => by
      rw [nZ_neg1, nZ_m1 (by omega)]
    have nx0 : m = 0 → nZ (K0 + m) + (-1) < nZ K0 := fun e0 => by
      rw [e0, nZ_neg1, Nat.add_zero]
      by_cases c : K0 = 0
      · rw [c]
        decide
      · rw [nZ_m1 (by omega), nZ_lt (by omega) (by omega)]
        omega
    have na : ¬abv W a E K0 y (K0 + m) (K0 + m) := fun ⟨K, S, q1, _, _, q4⟩ => by
      have : K ≤ K ||| S := Nat.left_le_or
      omega
    have here : hI h 50 (K0 + m) = hI h0 50 (K0 + m) := i2 _ s8 (fun z => by
      rcases z with z | z
      · exact na z
      · exact absurd z.1 (by omega))
    by_cases c : hI h0 50 (K0 + m) = nZ y
    · have f := (D.1 _ s8).1 c
      have fi := fw_in hK0 sK y _ f
      obtain ⟨k, ek, Fk, j1, j2⟩ := c134 X d a E y (K0 + m) ha hy s8 fi.2.2 C
      have split : ∀ T, (abv W a E K0 y (K0 + m - 1) T ∨ (m = 0 ∧ ∃ S, fw W a E K0 y K0 ∧ isM W a E y K0 S ∧ T = K0 ||| S)) ↔ (abv W a E K0 y (K0 + m) T ∨ ∃ S, isM W a E y (K0 + m) S ∧ T = (K0 + m) ||| S) := fun T => by
        constructor
        · rintro (⟨K, S, q1, q2, q3, q4⟩ | ⟨e0, S, q2, q3, q4⟩)
          · by_cases e : K = K0 + m
            · rw [e] at q3 q4
              exact Or.inr ⟨S, q3, q4⟩
            · exact Or.inl ⟨K, S, by omega, q2, q3, q4⟩
          · rw [e0, Nat.add_zero]
            exact Or.inr ⟨S, q3, q4⟩
        · rintro (⟨K, S, q1, q2, q3, q4⟩ | ⟨S, q3, q4⟩)
          · exact Or.inl ⟨K, S, by omega, q2, q3, q4⟩
          · by_cases e0 : m = 0
            · subst e0
              rw [Nat.add_zero] at q3 q4 f
              exact Or.inr ⟨rfl, S, f, q3, q4⟩
            · exact Or.inl ⟨K0 + m, S, by omega, f, q3, q4⟩
      obtain ⟨k2, ek2, Fk2, Dk⟩ := c131_44 (h0 := h0) d a E K0 y ha hy hE hK0 sK D m k _ (by omega) nx1 nx0 (X.fr Fk fG_n) (C.fr Fk rfl rfl (fun _ => rfl) (fun _ => rfl)) (fun T hT z => by
        by_cases q : ∃ S, isM W a E y (K0 + m) S ∧ T = (K0 + m) ||| S
        · obtain ⟨S, q1, q2⟩ := q
          rw [q2]
          exact j1 S q1
        · rw [j2 T hT (fun S s1 s2 => q ⟨S, s1, s2⟩)]
          rcases (split T).1 z with w | w
          · exact i1 T hT (Or.inl w)
          · exact absurd w q) (fun T hT z => by
        rw [j2 T hT (fun S s1 s2 => z ((split T).2 (Or.inr ⟨S, s1, s2⟩)))]
        exact i2 T hT (fun w => by
          rcases w with w | w
          · exact z ((split T).2 (Or.inl w))
          · exact absurd w.1 (by omega)))
      refine ⟨k2, ?_, Fk.trans Fk2, Dk⟩
      rw [E131_44, if_neg nl, g45_11 H, ob_some, ob_some, A50 H s8, ob_some, here, if_pos c, ek, jV]
      exact ek2
    · have nf : ¬fw W a E K0 y (K0 + m) := fun w => c ((D.1 _ s8).2 w)
      have split : ∀ T, (abv W a E K0 y (K0 + m - 1) T ∨ (m = 0 ∧ ∃ S, fw W a E K0 y K0 ∧ isM W a E y K0 S ∧ T = K0 ||| S)) → abv W a E K0 y (K0 + m) T := fun T => by
        rintro (⟨K, S, q1, q2, q3, q4⟩ | ⟨e0, S, q2, q3, q4⟩)
        · by_cases e : K = K0 + m
          · rw [e] at q2
            exact absurd q2 nf
          · exact ⟨K, S, by omega, q2, q3, q4⟩
        · rw [e0, Nat.add_zero] at nf
          exact absurd q2 nf
      obtain ⟨k2, ek2, Fk2, Dk⟩ := c131_44 (h0 := h0) d a E K0 y ha hy hE hK0 sK D m h _ (by omega) nx1 nx0 X C (fun T hT z => i1 T hT (Or.inl (split T z))) (fun T hT z => i2 T hT (fun w => by
        rcases w with ⟨K, S, q1, q2⟩ | w
        · exact z (Or.inl ⟨K, S, by omega, q2⟩)
        · exact absurd w.1 (by omega)))
      refine ⟨k2, ?_, Fk2, Dk⟩
      rw [E131_44, if_neg nl, g45_11 H, ob_some, ob_some, A50 H s8, ob_some, here, if_neg c]
      exact ek2
theorem c131_17 {W : Nat → Nat} (d a E K0 : Nat) (ha : a < W 409) (hE : E < 256) (hK0 : K0 < 256) (sK : sbs K0 E) : ∀ m y h, y + m = 30 → CK h W → spC h W a E → mkD h W a E K0 y → (∀ j, j < y → ¬fw W a E K0 j E) → ∃ k v, qbig (d + 4) 131 17 [sR (some 45), sR (some 12), sI (nZ K0), sI (nZ y), none] [] h = some (some (qI v), k) ∧ Fr fG h k ∧ dys W a E K0 v
  | 0, y, h, e, X, C, D, z => by
    have e' : y = 30 := by omega
    subst e'
    have H := X.1
    have i := D.1 E hE
    by_cases c : hI h 50 E = nZ 30
    · refine ⟨h, 30, ?_, Fr.refl, Or.inr ⟨30, Nat.le_refl _, rfl, (fw_iff hE).1 (i.1 c), fun j hj w => z j hj ((fw_iff hE).2 w)⟩⟩
      have c' : hI h 50 E = (30 : Int32) := c
      rw [E131_17, if_neg (by decide), g45_11 H, ob_some, g45_4 H, ob_some, C.1, ob_some, A50 H hE, ob_some, if_pos c']
    · refine ⟨h, -1, ?_, Fr.refl, Or.inl ⟨rfl, fun j hj w => ?_⟩⟩
      · have c' : ¬(hI h 50 E = (30 : Int32)) := c
        rw [E131_17, if_neg (by decide), g45_11 H, ob_some, g45_4 H, ob_some, C.1, ob_some, A50 H hE, ob_some, if_neg c']
      · have w' := (fw_iff hE).2 w
        by_cases ej : j = 30
        · rw [ej] at w'
          exact c (i.2 w')
        · exact z j (by omega) w'
  | m + 1, y, h, e, X, C, D, z => by
    have H := X.1
    have i := D.1 E hE
    have lt1 : nZ y < 30 := by
      rw [L30, nZ_lt (by omega) (by decide)]
      omega
    by_cases c : hI h 50 E = nZ y
    · refine ⟨h, nZ y, ?_, Fr.refl, Or.inr ⟨y, by omega, rfl, (fw_iff hE).1 (i.1 c), fun j hj w => z j hj ((fw_iff hE).2 w)⟩⟩
      rw [E131_17, if_pos lt1, g45_11 H, ob_some, g45_4 H, ob_some, C.1, ob_some, A50 H hE, ob_some, if_pos c]
    · have le := sbs_le hK0 sK
      have na : ∀ T, ¬(abv W a E K0 y (K0 + (E + 1 - K0) - 1) T ∨ (E + 1 - K0 = 0 ∧ ∃ S, fw W a E K0 y K0 ∧ isM W a E y K0 S ∧ T = K0 ||| S)) := fun T w => by
        rcases w with ⟨K, S, q1, q2, _⟩ | w
        · have f := fw_in hK0 sK y K q2
          have := sbs_le f.1 f.2.2
          omega
        · omega
      obtain ⟨k, ek, Fk, Dk⟩ := c131_44 (h0 := h) d a E K0 y ha (by omega) hE hK0 sK D (E + 1 - K0) h (nZ E) (by omega) (fun _ => by rw [show K0 + (E + 1 - K0) - 1 = E by omega]) (fun w => by omega) X C (fun T _ w => absurd w (na T)) (fun T _ _ => rfl)
      obtain ⟨k2, v, ek2, Fk2, dv⟩ := c131_17 d a E K0 ha hE hK0 sK m (y + 1) k (by omega) (X.fr Fk fG_n) (C.fr Fk rfl rfl (fun _ => rfl) (fun _ => rfl)) Dk (fun j hj w => by
        by_cases ej : j = y
        · rw [ej] at w
          exact c (i.2 w)
        · exact z j (by omega) w)
      refine ⟨k2, v, ?_, Fk.trans Fk2, dv⟩
      rw [E131_17, if_pos lt1, g45_11 H, ob_some, g45_4 H, ob_some, C.1, ob_some, A50 H hE, ob_some, if_neg c, ob_some]
      exact ek.trans ek2
theorem c131 {h : QH} {W : Nat → Nat} (X : CK h W) (d a E K0 : Nat) (ha : a < W 409) (hE : E < 256) (hK0 : K0 < 256) (sK : sbs K0 E) (C : spC h W a E) : ∃ k v, qcl (d + 4) 131 [qR (some 45), qR (some 12), qI (nZ K0)] h = some (some (qI v), k) ∧ Fr fG h k ∧ dys W a E K0 v := by
  have H := X.1
  obtain ⟨h1, e8, F1, z1⟩ := c8g (d + 2) 50 256 (-1) (by decide) (fun h i H hi => S50 H hi _) 256 0 h (by decide) H (fun j hj => by omega)
  have H1 := F1.Sh H
  have e8' : qcl (d + 3) 8 [qR (some 50), qI (-1)] h = some (none, h1) := by
    rw [E8, ob_some, l50 H, ob_some]
    exact e8
  have F2 : Fr (fO 50) h (hsI h1 50 K0 (nZ 0)) := Fr.si rfl F1
  have X2 := X.fr F2 (fO_n (by decide))
  have C2 := C.fr F2 rfl rfl (fun _ => rfl) (fun _ => rfl)
  have D2 : mkD (hsI h1 50 K0 (nZ 0)) W a E K0 0 := by
    refine ⟨fun T hT => ?_, fun T hT => ?_⟩
    · by_cases c : T = K0
      · rw [c, hI_at rfl]
        exact ⟨fun _ => rfl, fun _ => rfl⟩
      · rw [hI_ne (Or.inr c), z1 T hT]
        exact ⟨fun z => absurd z (by decide), fun z => absurd z c⟩
    · by_cases c : T = K0
      · rw [c, hI_at rfl]
        exact Or.inr ⟨0, Nat.le_refl _, rfl⟩
      · rw [hI_ne (Or.inr c), z1 T hT]
        exact Or.inl rfl
  obtain ⟨k, v, ek, Fk, dv⟩ := c131_17 d a E K0 ha hE hK0 sK 30 0 (hsI h1 50 K0 (nZ 0)) (by decide) X2 C2 D2 (fun j hj => by omega)
  refine ⟨k, v, ?_, (F2.mono (fun b j z => by rw [fO_eq z]; rfl)).trans Fk, dv⟩
  have s50 : qsi 0 50 (nZ K0) 0 h1 = some (hsI h1 50 K0 (nZ 0)) := S50 H1 hK0 _
  rw [E131, ck45 H, ob_some, g45_11 H, ob_some, e8', jV, g45_11 H1, ob_some, ob_some, s50, ob_some]
  exact ek

/-! images: what stays -/
theorem Sh.tr {h k : QH} (H : Sh h) (e1 : hN h ≤ hN k) (e2 : ∀ b, b < 79 → k.2.2.1 b = h.2.2.1 b) (e3 : ∀ b j, b < 79 → b ≠ 25 → b ≠ 26 → hR k b j = hR h b j) : Sh k := by
  obtain ⟨h1, h2, h3⟩ := H
  refine ⟨by omega, fun b hb h9 => ?_, fun q hq => ?_⟩
  · rw [e2 b hb]
    exact h2 b hb h9
  · have n1 : q.1 < 79 := shR_lt q hq
    have n2 : q.1 ≠ 25 := shR_25 q hq
    have n3 : ∀ q ∈ shR, q.1 ≠ 26 := by decide
    rw [e3 q.1 q.2.1 n1 n2 (n3 q hq)]
    exact h3 q hq
theorem K0.gen {h k : QH} {W W' : Nat → Nat} {c : Nat} {T : Nat → Nat} (K : K0 h W c T) (Hk : Sh k) (wi : WI W') (mk : MK k W') (cw : CW k 11 W') (e : ∀ b j, b < 79 → (b < 11 ∨ 26 ≤ b) → b ≠ 58 → b ≠ 59 → b ≠ 60 → hI k b j = hI h b j) : K0 k W' c T := by
  obtain ⟨k1', k2', k3', k4', _, ⟨c1, c2⟩, ⟨⟨s1', s2', s3'⟩, ⟨r0, r1, r2, r3, r4⟩⟩, kt⟩ := K
  have g : ∀ b j, b < 79 → (b < 11 ∨ 26 ≤ b) → b ≠ 58 → b ≠ 59 → b ≠ 60 → hI k b j = hI h b j := e
  refine ⟨Hk, fun b hb j => ?_, wi, mk, cw, ⟨?_, ?_⟩, ⟨⟨?_, ?_, ?_⟩, ⟨?_, ?_, ?_, ?_, ?_⟩⟩, ?_⟩
  · rw [g b j (by omega) (by omega) (by omega) (by omega) (by omega)]
    exact k2' b hb j
  · rw [g 10 _ (by decide) (by decide) (by decide) (by decide) (by decide), c1]
  · rw [g 56 _ (by decide) (by decide) (by decide) (by decide) (by decide), c2]
  · rw [g 10 _ (by decide) (by decide) (by decide) (by decide) (by decide), g 56 _ (by decide) (by decide) (by decide) (by decide) (by decide), s1']
  · rw [g 10 _ (by decide) (by decide) (by decide) (by decide) (by decide), g 56 _ (by decide) (by decide) (by decide) (by decide) (by decide), s2']
  · rw [g 10 _ (by decide) (by decide) (by decide) (by decide) (by decide), g 56 _ (by decide) (by decide) (by decide) (by decide) (by decide), s3']
  · rw [g 54 _ (by decide) (by decide) (by decide) (by decide) (by decide), g 57 _ (by decide) (by decide) (by decide) (by decide) (by decide), r0]
  · rw [g 54 _ (by decide) (by decide) (by decide) (by decide) (by decide), g 57 _ (by decide) (by decide) (by decide) (by decide) (by decide), r1]
  · rw [g 54 _ (by decide) (by decide) (by decide) (by decide) (by decide), g 57 _ (by decide) (by decide) (by decide) (by decide) (by decide), r2]
  · rw [g 54 _ (by decide) (by decide) (by decide) (by decide) (by decide), g 57 _ (by decide) (by decide) (by decide) (by decide) (by decide), r3]
  · rw [g 54 _ (by decide) (by decide) (by decide) (by decide) (by decide), g 57 _ (by decide) (by decide) (by decide) (by decide) (by decide), r4]
  · exact kt.of (fun j => g 27 j (by decide) (by decide) (by decide) (by decide) (by decide)) (fun j => g 28 j (by decide) (by decide) (by decide) (by decide) (by decide)) (fun j => g 62 j (by decide) (by decide) (by decide) (by decide) (by decide)) (g 56 10 (by decide) (by decide) (by decide) (by decide) (by decide))
/-- all beyond the first cells stays, but for a world at A -/
def TRN (h k : QH) (A : Nat) : Prop := hN h ≤ hN k ∧ (∀ b, b < hN h → k.2.2.1 b = h.2.2.1 b) ∧ ∀ b j, 79 ≤ b → b < hN h → (b < A ∨ A + 15 ≤ b) → hI k b j = hI h b j ∧ hR k b j = hR h b j
theorem LG.tr {h k : QH} {a A : Nat} (g : LG h a) (t : TRN h k A) (sp : a + 3 < A ∨ A + 15 ≤ a) : LG k a := g.of t.1 t.2.1 (fun j => (t.2.2 a j g.1.1 (by have := g.1; omega) (by omega)).2)
theorem LO.tr {h k : QH} {a A : Nat} {L : List CL} (O : LO h a L) (g : LG h a) (t : TRN h k A) (sp : a + 3 < A ∨ A + 15 ≤ a) : LO k a L := O.loc g t.1 t.2.1 (fun j => (t.2.2 a j g.1.1 (by have := g.1; omega) (by omega)).2) (fun b j h1 h2 => (t.2.2 b j (by have := g.1; omega) (by have := g.1; omega) (by omega)).1)
def IMG (h : QH) (A : Nat) (V : Nat → Nat) : Prop := 79 ≤ A ∧ WS h A ∧ CW h A V ∧ WI V ∧ LW1 h A ∧ LWx h A V
theorem CW.o {h k : QH} {A : Nat} {W : Nat → Nat} (C : CW h A W) (e : ∀ b j, A ≤ b → b < A + 15 → hI k b j = hI h b j) : CW k A W := ⟨C.1.of (fun i j h1 h2 => e _ _ (by omega) (by omega)), C.2.1.of (fun i j h1 h2 => e _ _ (by omega) (by omega)), C.2.2.1.of (fun i j h1 h2 => e _ _ (by omega) (by omega)), C.2.2.2.of (fun j => e _ _ (by omega) (by omega))⟩
theorem IMG.tr {h k : QH} {A B : Nat} {V : Nat → Nat} (I : IMG h B V) (t : TRN h k A) (ds : B + 15 ≤ A ∨ A + 15 ≤ B) (sp : ∀ a, LG h a → a + 3 < A ∨ A + 15 ≤ a) : IMG k B V := by
  obtain ⟨i1, i2, i3, i4, i5, i6⟩ := I
  have nb := i2.1.2
  have r : ∀ b j, B ≤ b → b < B + 15 → hI k b j = hI h b j ∧ hR k b j = hR h b j := fun b j h1 h2 => t.2.2 b j (by omega) (by omega) (by omega)
  refine ⟨i1, i2.of t.1 (fun b h1 h2 => t.2.1 b (by omega)) (fun b j hb => (r b j (by omega) (by omega)).2), i3.o (fun b j h1 h2 => (r b j h1 h2).1), i4, fun x a hx e => ?_, fun x hx => ?_⟩
  · rw [(r (B + 14) x (by omega) (by omega)).2] at e
    have g := i5 x a hx e
    exact g.tr t (sp a g)
  · obtain ⟨L, l1', a, l2', l3'⟩ := i6 x hx
    have x6 : x < 6 := by
      have : V 411 ≤ 6 := i4.1 411 (by decide) (by decide)
      omega
    have g := i5 x a x6 l2'
    refine ⟨L, l1', a, ?_, l3'.tr g t (sp a g)⟩
    rw [(r (B + 14) x (by omega) (by omega)).2]
    exact l2'
/-- the images, on both sides -/
def IM1 (h : QH) (i : Nat) : Prop := (hR h 26 i = none ∧ hI h 60 i = nZ 0) ∨ ∃ A V, hR h 26 i = some A ∧ IMG h A V ∧ hI h 60 i = nZ 1 ∧ ∀ j, j < 5220 → hI h 59 (5220 * i + j) = kv V j
def IMs (h : QH) : Prop := IM1 h 0 ∧ IM1 h 1 ∧ ∀ A B, hR h 26 0 = some A → hR h 26 1 = some B → A + 15 ≤ B ∨ B + 15 ≤ A
/-- the reference makes an image -/
theorem m198_17 (d i : Nat) (hi : i < 2) : ∀ m j h, j + m = 5220 → Sh h → ∃ k, qbig (d + 2) 198 17 [sR (some 56), sI (nZ i), sI (nZ j)] [] h = some (some (qI 0), okM' (hsI k 60 i (nZ 1))) ∧ Fr (fO 59) h k ∧ (∀ x, j ≤ x → x < 5220 → hI k 59 (5220 * i + x) = hI h 58 x) ∧ ∀ y, (y < 5220 * i + j ∨ 5220 * i + 5220 ≤ y) → hI k 59 y = hI h 59 y
  | 0, j, h, e, H => by
    have e' : j = 5220 := by omega
    subst e'
    have v11 : (1 : Int32) &&& 1 = nZ 1 := by decide
    have H1 : Sh (hsI h 60 i (nZ 1)) := H
    refine ⟨h, ?_, Fr.refl, fun x h1 h2 => by omega, fun y _ => rfl⟩
    rw [E198_17, if_neg (by decide), g56_5 H, ob_some, ob_some, v11, S60 H hi, ob_some, m190 H1 d, jI]
  | m + 1, j, h, e, H => by
    have lt1 : nZ j < 5220 := by
      rw [show (5220 : Int32) = nZ 5220 from rfl, nZ_lt (by omega) (by decide)]
      omega
    have ip : nZ j + 1 = nZ (j + 1) := by rw [L1, nZ_add]
    have ix : (5220 : Int32) * nZ i + nZ j = nZ (5220 * i + j) := by rw [show (5220 : Int32) = nZ 5220 from rfl, nZ_mul, nZ_add]
    have F1 : Fr (fO 59) h (hsI h 59 (5220 * i + j) (hI h 58 j)) := Fr.si rfl Fr.refl
    obtain ⟨k, ek, Fk, g1, g2⟩ := m198_17 d i hi m (j + 1) (hsI h 59 (5220 * i + j) (hI h 58 j)) (by omega) H
    refine ⟨k, ?_, F1.trans Fk, fun x h1 h2 => ?_, fun y hy => ?_⟩
    · rw [E198_17, if_pos lt1, g56_4 H, ob_some, g56_3 H, ob_some, ob_some, A58 H (by omega), ob_some, ob_some, ix, S59 H (by omega), ob_some, ip]
      exact ek
    · by_cases c : x = j
      · rw [c, g2 _ (by omega), hI_at rfl]
      · rw [g1 x (by omega) h2, hI_ne (by omega)]
    · rw [g2 y (by omega), hI_ne (by omega)]
theorem m171_33 (d i : Nat) (hi : i < 2) : ∀ m j h, j + m = 5220 → Sh h → ∃ k, qbig (d + 2) 171 33 [sR (some 56), sI (nZ i), sI (nZ j)] [] h = some (some (qI 0), okM' k) ∧ Fr (fO 58) h k ∧ (∀ x, j ≤ x → x < 5220 → hI k 58 x = hI h 59 (5220 * i + x)) ∧ ∀ y, y < j → hI k 58 y = hI h 58 y
  | 0, j, h, e, H => by
    have e' : j = 5220 := by omega
    subst e'
    refine ⟨h, ?_, Fr.refl, fun x h1 h2 => by omega, fun y _ => rfl⟩
    rw [E171_33, if_neg (by decide), m190 H d, jI]
  | m + 1, j, h, e, H => by
    have lt1 : nZ j < 5220 := by
      rw [show (5220 : Int32) = nZ 5220 from rfl, nZ_lt (by omega) (by decide)]
      omega
    have ip : nZ j + 1 = nZ (j + 1) := by rw [L1, nZ_add]
    have ix : (5220 : Int32) * nZ i + nZ j = nZ (5220 * i + j) := by rw [show (5220 : Int32) = nZ 5220 from rfl, nZ_mul, nZ_add]
    have F1 : Fr (fO 58) h (hsI h 58 j (hI h 59 (5220 * i + j))) := Fr.si rfl Fr.refl
    obtain ⟨k, ek, Fk, g1, g2⟩ := m171_33 d i hi m (j + 1) (hsI h 58 j (hI h 59 (5220 * i + j))) (by omega) H
    refine ⟨k, ?_, F1.trans Fk, fun x h1 h2 => ?_, fun y hy => ?_⟩
    · rw [E171_33, if_pos lt1, g56_3 H, ob_some, g56_4 H, ob_some, ob_some, ix, A59 H (by omega), ob_some, ob_some, S58 H (by omega), ob_some, ip]
      exact ek
    · by_cases c : x = j
      · rw [c, g2 _ (by omega), hI_at rfl]
      · rw [g1 x (by omega) h2, hI_ne (by omega)]
    · rw [g2 y (by omega), hI_ne (by omega)]

/-! ===== frames: only ints at some places have changed ===== -/
def Fr (cs : Nat → Nat → Bool) (h k : QH) : Prop := (k.1 = h.1 ∧ k.2.1 = h.2.1 ∧ k.2.2.1 = h.2.2.1 ∧ k.2.2.2.2 = h.2.2.2.2) ∧ ∀ b j, cs b j = false → hI k b j = hI h b j
theorem Fr.refl {cs : Nat → Nat → Bool} {h : QH} : Fr cs h h := ⟨⟨rfl, rfl, rfl, rfl⟩, fun _ _ _ => rfl⟩
theorem Fr.si {cs : Nat → Nat → Bool} {h k : QH} {a i : Nat} {v : Int32} (ha : cs a i = true) (F : Fr cs h k) : Fr cs h (hsI k a i v) := ⟨F.1, fun b j hb => by
  rw [hI_si]
  by_cases e : b = a ∧ j = i
  · rw [e.1, e.2, ha] at hb
    exact absurd hb (by decide)
  · rw [if_neg e]
    exact F.2 b j hb⟩
theorem Fr.sA {cs : Nat → Nat → Bool} {h k : QH} {a : Nat} {f : Nat → Int32} (ha : ∀ i, cs a i = true) (F : Fr cs h k) : Fr cs h (hsA k a f) := ⟨F.1, fun b j hb => by
  rw [hI_sA]
  by_cases e : b = a
  · rw [e, ha] at hb
    exact absurd hb (by decide)
  · rw [if_neg e]
    exact F.2 b j hb⟩
theorem Fr.trans {cs : Nat → Nat → Bool} {h k l : QH} (F : Fr cs h k) (G : Fr cs k l) : Fr cs h l := ⟨⟨G.1.1.trans F.1.1, G.1.2.1.trans F.1.2.1, G.1.2.2.1.trans F.1.2.2.1, G.1.2.2.2.trans F.1.2.2.2⟩, fun b j hb => (G.2 b j hb).trans (F.2 b j hb)⟩
theorem Fr.mono {cs ds : Nat → Nat → Bool} {h k : QH} (F : Fr cs h k) (e : ∀ b j, cs b j = true → ds b j = true) : Fr ds h k := ⟨F.1, fun b j hb => F.2 b j (by
  cases hc : cs b j
  · rfl
  · rw [e b j hc] at hb
    exact absurd hb (by decide))⟩
theorem Fr.Sh {cs : Nat → Nat → Bool} {h k : QH} (F : Fr cs h k) (H : Sh h) : Sh k := by
  obtain ⟨⟨e1, e2, e3, e4⟩, _⟩ := F
  refine ⟨?_, ?_, ?_⟩
  · show 79 ≤ k.1
    rw [e1]
    exact H.1
  · intro j hj h9
    rw [e3]
    exact H.2.1 j hj h9
  · intro q hq
    show k.2.2.2.2 _ _ = _
    rw [e4]
    exact H.2.2 q hq
theorem Fr.Ro {cs : Nat → Nat → Bool} {h k : QH} (F : Fr cs h k) (hc : ∀ b j, b < 10 → cs b j = false) (O : Ro h) : Ro k := fun j hj i => by
  rw [F.2 j i (hc j i (by omega))]
  exact O j hj i
theorem Fr.r {cs : Nat → Nat → Bool} {h k : QH} (F : Fr cs h k) (a i : Nat) : hR k a i = hR h a i := congrFun (congrFun F.1.2.2.2 a) i
theorem Fr.n {cs : Nat → Nat → Bool} {h k : QH} (F : Fr cs h k) : hN k = hN h := F.1.1
theorem Fr.s {cs : Nat → Nat → Bool} {h k : QH} (F : Fr cs h k) : hS k = hS h := F.1.2.1
/-- the places that simple calls change -/
def sC (b j : Nat) : Bool := (match b with
  | 10 => true | 11 => true | 12 => true | 13 => true | 14 => true | 15 => true | 16 => true | 17 => true | 18 => true | 19 => true
  | 20 => true | 21 => true | 22 => true | 23 => true | 24 => true | 37 => true | 38 => true | 39 => (match j with | 0 => true | 1 => true | _ => false) | 55 => true | 67 => true | 77 => true | 27 => true | 28 => true | 54 => true | 57 => true | 58 => true | 62 => true | 63 => true
  | 56 => (match j with
    | 0 => true | 1 => true | 6 => true | 10 => true | 11 => true | 19 => true | 20 => true | 21 => true | _ => false)
  | _ => false)
theorem sC_lo (b j : Nat) (h : b < 10) : sC b j = false := by
  have : b = 0 ∨ b = 1 ∨ b = 2 ∨ b = 3 ∨ b = 4 ∨ b = 5 ∨ b = 6 ∨ b = 7 ∨ b = 8 ∨ b = 9 := by omega
  rcases this with e | e | e | e | e | e | e | e | e | e <;> subst e <;> rfl
/-! ===== the picture W of all that is kept ===== -/
def up (W : Nat → Nat) (i v : Nat) : Nat → Nat := fun j => if j = i then v else W j
theorem up_at {W : Nat → Nat} {i v j : Nat} (e : j = i) : up W i v j = v := if_pos e
theorem up_ne {W : Nat → Nat} {i v j : Nat} (e : j ≠ i) : up W i v j = W j := if_neg e
def kv (W : Nat → Nat) (j : Nat) : Int32 := if j = 413 then nZ (W 413) - nZ 1 else nZ (W j)
theorem kv_ne {W : Nat → Nat} {j : Nat} (e : j ≠ 413) : kv W j = nZ (W j) := if_neg e
theorem kv_up {W : Nat → Nat} {i v j : Nat} (hi : i ≠ 413) : kv (up W i v) j = if j = i then nZ v else kv W j := by
  unfold kv up
  by_cases e : j = 413
  · rw [if_pos e, if_neg (by omega), if_neg (by omega), if_pos e]
  · rw [if_neg e, if_neg e]
    by_cases e2 : j = i
    · rw [if_pos e2, if_pos e2]
    · rw [if_neg e2, if_neg e2]
/-- how great what stands at a place may be -/
def bnd (j : Nat) : Nat :=
  if j < 32 then (if j % 4 = 3 then 1073741823 else if j % 4 = 2 then 12 else 9)
  else if j < 40 then 255
  else if j < 60 then (if j % 4 = 0 then 6 else if j % 4 = 1 then 3 else if j % 4 = 2 then 9 else 31)
  else if j < 100 then 9
  else if j < 400 then (if j % 5 = 0 then 29 else if j % 5 = 1 then 7 else if j % 5 = 2 then 4 else if j % 5 = 3 then 255 else 1)
  else if j < 408 then 255
  else if j = 408 then 8 else if j = 409 then 5 else if j = 410 then 60 else 6
def WB (W : Nat → Nat) : Prop := ∀ j, j < 414 → j ≠ 412 → W j ≤ bnd j
theorem WB_up {W : Nat → Nat} (B : WB W) {i v : Nat} (h : v ≤ bnd i) : WB (up W i v) := fun j hj h4 => by
  unfold up
  by_cases e : j = i
  · rw [if_pos e, e]
    exact h
  · rw [if_neg e]
    exact B j hj h4
theorem WB_any {W : Nat → Nat} (B : WB W) {i v : Nat} (h : i = 412 ∨ 414 ≤ i) : WB (up W i v) := fun j hj h4 => by
  rw [up_ne (by omega)]
  exact B j hj h4
/-- what else holds of a picture -/
def WI (W : Nat → Nat) : Prop := WB W ∧ (∀ p q, p < 8 → q < 8 → (W (32 + p)).testBit q = (W (32 + q)).testBit p) ∧ (∀ a, a < W 409 → 1 ≤ W (40 + 4 * a)) ∧ (∀ p a, p < 8 → a < 5 → W 408 ≤ p ∨ W 409 ≤ a → W (60 + (5 * p + a)) = 0) ∧ (∀ s, s < W 410 → W (101 + 5 * s) < W 408 ∧ W (102 + 5 * s) < W 409) ∧ W 413 ≤ W 411 ∧ (∀ p, p < 8 → W 408 ≤ p → W (32 + p) = 0)
/-- the reference keeps it -/
def MK (h : QH) (W : Nat → Nat) : Prop := ∀ j, j < 5220 → hI h 58 j = kv W j
theorem MK.at {h : QH} {W : Nat → Nat} (M : MK h W) {j : Nat} (hj : j < 5220) (h4 : j ≠ 413) : hI h 58 j = nZ (W j) := by
  rw [M j hj, kv_ne h4]
theorem MK.of {h k : QH} {W : Nat → Nat} (M : MK h W) (e : ∀ j, hI k 58 j = hI h 58 j) : MK k W := fun j hj => by
  rw [e]
  exact M j hj
theorem MK.up {k : QH} {W : Nat → Nat} (M : MK k W) {i v : Nat} (hi : i ≠ 413) : MK (hsI k 58 i (nZ v)) (up W i v) := fun j hj => by
  rw [hI_si, kv_up hi]
  by_cases e : j = i
  · rw [if_pos ⟨rfl, e⟩, if_pos e]
  · rw [if_neg (fun z => e z.2), if_neg e]
    exact M j hj
theorem MK.si {k : QH} {W : Nat → Nat} {a i : Nat} {v : Int32} (ha : 58 ≠ a) (M : MK k W) : MK (hsI k a i v) W := fun j hj => by
  rw [hI_si, if_neg (fun z => ha z.1)]
  exact M j hj
theorem MK.okM {k : QH} {W : Nat → Nat} (M : MK k W) : MK (okM' k) W := MK.si (by decide) (MK.si (by decide) M)
theorem MK.okC {k : QH} {W : Nat → Nat} (M : MK k W) : MK (okC' k) W := MK.si (by decide) (MK.si (by decide) M)
theorem MK.sA {k : QH} {W : Nat → Nat} {a : Nat} {f : Nat → Int32} (ha : 58 ≠ a) (M : MK k W) : MK (hsA k a f) W := fun j hj => by
  rw [hI_sA, if_neg ha]
  exact M j hj
/-- people, arts, showings, the rest of a world at A -/
def CP (h : QH) (A : Nat) (W : Nat → Nat) : Prop := hI h (A + 1) 0 = nZ (W 408) ∧ hI h (A + 1) 1 = nZ (W 412) ∧ (∀ p f, p < 8 → f < 4 → hI h (A + 2) (f * 8 + p) = nZ (W (4 * p + f))) ∧ (∀ p, p < 8 → hI h (A + 3) p = nZ (W (32 + p))) ∧ (∀ p, p < 8 → hI h (A + 4) p = nZ (W (400 + p))) ∧ (∀ j, j < 40 → hI h (A + 5) j = nZ (W (60 + j)))
def CA (h : QH) (A : Nat) (W : Nat → Nat) : Prop := hI h (A + 6) 0 = nZ (W 409) ∧ (∀ a f, a < 5 → f < 4 → hI h (A + 7) (f * 5 + a) = nZ (W (40 + 4 * a + f)))
def CS (h : QH) (A : Nat) (W : Nat → Nat) : Prop := hI h (A + 8) 0 = nZ (W 410) ∧ (∀ s, s < 60 → hI h (A + 9) s = nZ (W (100 + 5 * s)) ∧ hI h (A + 10) s = nZ (W (101 + 5 * s)) ∧ hI h (A + 11) s = nZ (W (102 + 5 * s)) ∧ hI h (A + 12) s = nZ (W (103 + 5 * s)) ∧ hI h (A + 13) s = nZ (W (104 + 5 * s)))
def CF (h : QH) (A : Nat) (W : Nat → Nat) : Prop := hI h A 4 = nZ (W 411) ∧ hI h A 5 = nZ (W 413) - nZ 1
def CW (h : QH) (A : Nat) (W : Nat → Nat) : Prop := CP h A W ∧ CA h A W ∧ CS h A W ∧ CF h A W
theorem CP.of {h k : QH} {A : Nat} {W : Nat → Nat} (C : CP h A W) (e : ∀ i j, 1 ≤ i → i < 6 → hI k (A + i) j = hI h (A + i) j) : CP k A W := by
  unfold CP
  rw [e 1 0 (by decide) (by decide), e 1 1 (by decide) (by decide)]
  refine ⟨C.1, C.2.1, ?_, ?_, ?_, ?_⟩
  · intro p f hp hf
    rw [e 2 _ (by decide) (by decide)]
    exact C.2.2.1 p f hp hf
  · intro p hp
    rw [e 3 _ (by decide) (by decide)]
    exact C.2.2.2.1 p hp
  · intro p hp
    rw [e 4 _ (by decide) (by decide)]
    exact C.2.2.2.2.1 p hp
  · intro p hp
    rw [e 5 _ (by decide) (by decide)]
    exact C.2.2.2.2.2 p hp
theorem CA.of {h k : QH} {A : Nat} {W : Nat → Nat} (C : CA h A W) (e : ∀ i j, 6 ≤ i → i < 8 → hI k (A + i) j = hI h (A + i) j) : CA k A W := by
  unfold CA
  rw [e 6 0 (by decide) (by decide)]
  refine ⟨C.1, ?_⟩
  intro p f hp hf
  rw [e 7 _ (by decide) (by decide)]
  exact C.2 p f hp hf
theorem CS.of {h k : QH} {A : Nat} {W : Nat → Nat} (C : CS h A W) (e : ∀ i j, 8 ≤ i → i < 14 → hI k (A + i) j = hI h (A + i) j) : CS k A W := by
  unfold CS
  rw [e 8 0 (by decide) (by decide)]
  refine ⟨C.1, ?_⟩
  intro s hs
  rw [e 9 _ (by decide) (by decide), e 10 _ (by decide) (by decide), e 11 _ (by decide) (by decide), e 12 _ (by decide) (by decide), e 13 _ (by decide) (by decide)]
  exact C.2 s hs
theorem CF.of {h k : QH} {A : Nat} {W : Nat → Nat} (C : CF h A W) (e : ∀ j, hI k A j = hI h A j) : CF k A W := by
  unfold CF
  rw [e, e]
  exact C
/-- the same of another picture -/
theorem CP.w {h : QH} {A : Nat} {W V : Nat → Nat} (C : CP h A W) (e : ∀ j, j < 40 ∨ (60 ≤ j ∧ j < 100) ∨ (400 ≤ j ∧ j < 409) ∨ j = 412 → V j = W j) : CP h A V := by
  unfold CP
  rw [e 408 (by decide), e 412 (by decide)]
  refine ⟨C.1, C.2.1, ?_, ?_, ?_, ?_⟩
  · intro p f hp hf
    rw [e _ (by omega)]
    exact C.2.2.1 p f hp hf
  · intro p hp
    rw [e _ (by omega)]
    exact C.2.2.2.1 p hp
  · intro p hp
    rw [e _ (by omega)]
    exact C.2.2.2.2.1 p hp
  · intro p hp
    rw [e _ (by omega)]
    exact C.2.2.2.2.2 p hp
theorem CA.w {h : QH} {A : Nat} {W V : Nat → Nat} (C : CA h A W) (e : ∀ j, (40 ≤ j ∧ j < 60) ∨ j = 409 → V j = W j) : CA h A V := by
  unfold CA
  rw [e 409 (by decide)]
  refine ⟨C.1, ?_⟩
  intro p f hp hf
  rw [e _ (by omega)]
  exact C.2 p f hp hf
theorem CS.w {h : QH} {A : Nat} {W V : Nat → Nat} (C : CS h A W) (e : ∀ j, (100 ≤ j ∧ j < 400) ∨ j = 410 → V j = W j) : CS h A V := by
  unfold CS
  rw [e 410 (by decide)]
  refine ⟨C.1, ?_⟩
  intro s hs
  rw [e (100 + 5 * s) (by omega), e (101 + 5 * s) (by omega), e (102 + 5 * s) (by omega), e (103 + 5 * s) (by omega), e (104 + 5 * s) (by omega)]
  exact C.2 s hs
theorem CF.w {h : QH} {A : Nat} {W V : Nat → Nat} (C : CF h A W) (e : V 411 = W 411) (e2 : V 413 = W 413) : CF h A V := by
  unfold CF
  rw [e, e2]
  exact C
/-- a byte with its sign -/
def sB (t : Nat) : Int32 := if t < 128 then nZ t else nZ t - nZ 256
/-- status, slack, fault; who refused; the tape -/
def KM (h : QH) : Prop := (hI h 10 11 = hI h 56 0 ∧ hI h 10 12 = hI h 56 6 ∧ hI h 10 13 = hI h 56 11) ∧ (hI h 54 0 = hI h 57 1 ∧ hI h 54 1 = hI h 57 2 ∧ hI h 54 2 = hI h 57 3 ∧ hI h 54 3 = hI h 57 5 ∧ hI h 54 4 = hI h 57 6)
def KT (h : QH) (T : Nat → Nat) : Prop := T 400 ≤ 400 ∧ hI h 27 0 = nZ (T 400) ∧ hI h 56 10 = nZ (T 400) ∧ ∀ i, i < 400 → T i < 256 ∧ hI h 28 i = nZ (T i) ∧ hI h 62 i = sB (T i)
theorem KT.of {h k : QH} {T : Nat → Nat} (C : KT h T) (e27 : ∀ j, hI k 27 j = hI h 27 j) (e28 : ∀ j, hI k 28 j = hI h 28 j) (e62 : ∀ j, hI k 62 j = hI h 62 j) (e10 : hI k 56 10 = hI h 56 10) : KT k T := by
  unfold KT
  rw [e27, e10]
  refine ⟨C.1, C.2.1, C.2.2.1, ?_⟩
  intro i hi
  rw [e28, e62]
  exact C.2.2.2 i hi
def K0 (h : QH) (W : Nat → Nat) (c : Nat) (T : Nat → Nat) : Prop := Sh h ∧ Ro h ∧ WI W ∧ MK h W ∧ CW h 11 W ∧ (hI h 10 10 = nZ c ∧ hI h 56 1 = nZ c) ∧ KM h ∧ KT h T
/-- what a simple call leaves -/
def Sim (h k : QH) (W : Nat → Nat) (c : Nat) (T : Nat → Nat) : Prop := ∃ W' c' T', K0 k W' c' T' ∧ Fr sC h k ∧ (∀ j, 414 ≤ j → W' j = W j) ∧ W' 411 = W 411 ∧ ((c' = c ∧ W' = W) ∨ c' = c + 1)
/-- both do a call, with one answer -/
def Op (D k m : Nat) (as : List QV) (h : QH) (Q : QH → Prop) : Prop := ∃ v h1 h2, qcl D k (qR (some 10) :: as) h = some (some (qI v), h1) ∧ qcl D m (qR (some 56) :: as) h1 = some (some (qI v), h2) ∧ Q h2

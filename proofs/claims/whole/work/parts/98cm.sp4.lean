/-! days of showing -/
def sbs (A B : Nat) : Prop := ∀ i, i < 8 → A.testBit i = true → B.testBit i = true
theorem sbs_eq {A B : Nat} (hA : A < 256) (hB : B < 256) (h1 : sbs A B) (h2 : sbs B A) : A = B := tb_eq hA hB (fun i hi => by
  cases c : A.testBit i
  · cases c2 : B.testBit i
    · rfl
    · rw [h2 i hi c2] at c
      cases c
  · rw [h1 i hi c])
theorem or_256 {A B : Nat} (hA : A < 256) (hB : B < 256) : A ||| B < 256 := Nat.or_lt_two_pow (n := 8) hA hB
theorem rr_mono {W : Nat → Nat} {a E y K K' : Nat} {X : Set8} (s : sbs K K') (hX : ∀ i, i < 8 → X i = true → K'.testBit i = false) : ∀ n, n ≤ 8 → rr W a E y K n X ≤ rr W a E y K' n X
  | 0, _ => Nat.le_refl 0
  | n + 1, hn => by
    have ih := rr_mono (W := W) (a := a) (E := E) (y := y) s hX n (by omega)
    show (if tl W y K n = true then _ else _) ≤ (if tl W y K' n = true then _ else _)
    by_cases c : tl W y K n = true
    · have c' : tl W y K' n = true := by
        unfold tl at c ⊢
        have c1 : K.testBit n = true ∧ (W (4 * n + 3)).testBit y = false := by simpa using c
        rw [s n (by omega) c1.1, c1.2]
        rfl
      rw [if_pos c, if_pos c']
      unfold rPlus
      have h1 : cN (fun i => wm W a E y K n i && X i) 8 ≤ cN (fun i => wm W a E y K' n i && X i) 8 := cN_mono 8 (fun i hi z => by
        have z1 : wm W a E y K n i = true ∧ X i = true := by simpa using z
        show (wm W a E y K' n i && X i) = true
        have e : wm W a E y K' n i = true := by
          have z2 := z1.1
          unfold wm at z2 ⊢
          rw [hX i hi z1.2]
          simp only [Bool.and_eq_true] at z2
          simp only [Bool.and_eq_true]
          exact ⟨z2.1, rfl, z2.2.2⟩
        rw [e, z1.2]
        rfl)
      split <;> split <;> omega
    · rw [if_neg c]
      split
      · unfold rPlus
        omega
      · exact ih
theorem fit_mono {W : Nat → Nat} {a E y K K' S T : Nat} (h : fit W a E y K S) (s : sbs K K') (e : ∀ i, i < 8 → T.testBit i = (S.testBit i && !K'.testBit i)) : fit W a E y K' T := fun X hX => by
  have h1 := h X (fun i hi z => by
    have := hX i hi z
    rw [show tb T i = T.testBit i from rfl, e i hi] at this
    have z1 : S.testBit i = true ∧ K'.testBit i = false := by simpa using this
    exact z1.1)
  have h2 := rr_mono (W := W) (a := a) (E := E) (y := y) s (X := X) (fun i hi z => by
    have := hX i hi z
    rw [show tb T i = T.testBit i from rfl, e i hi] at this
    have z1 : S.testBit i = true ∧ K'.testBit i = false := by simpa using this
    exact z1.2) 8 (Nat.le_refl 8)
  omega
theorem fit_sbs {W : Nat → Nat} {a E y K S : Nat} (h : fit W a E y K S) : ∀ i, i < 8 → S.testBit i = true → E.testBit i = true ∧ K.testBit i = false := fun i hi z => by
  obtain ⟨p, _, _, p3, _⟩ := fit_in h hi z
  unfold wm at p3
  simp only [Bool.and_eq_true, Bool.not_eq_true'] at p3
  exact ⟨p3.1, p3.2.1⟩
/-- all of E within m days from day y on -/
def wi (W : Nat → Nat) (a E : Nat) : Nat → Nat → Nat → Prop
  | 0, _, K => K = E
  | m + 1, y, K => K = E ∨ ∃ S, isM W a E y K S ∧ wi W a E m (y + 1) (K ||| S)
theorem sbs_or {W : Nat → Nat} {a E y K S : Nat} (h : fit W a E y K S) (s : sbs K E) : sbs (K ||| S) E := fun i hi z => by
  rw [Nat.testBit_or] at z
  have z1 : K.testBit i = true ∨ S.testBit i = true := by simpa using z
  rcases z1 with c | c
  · exact s i hi c
  · exact (fit_sbs h i hi c).1
theorem wi_mono {W : Nat → Nat} {a E : Nat} (hE : E < 256) : ∀ m y K K', K < 256 → K' < 256 → sbs K K' → sbs K' E → wi W a E m y K → wi W a E m y K'
  | 0, y, K, K', hK, hK', s, s', h => by
    have h' : K = E := h
    show K' = E
    rw [h'] at s
    exact sbs_eq hK' hE s' s
  | m + 1, y, K, K', hK, hK', s, s', h => by
    rcases h with h | ⟨S, h1, h2⟩
    · left
      rw [h] at s
      exact sbs_eq hK' hE s' s
    · by_cases c : K' = E
      · exact Or.inl c
      · obtain ⟨T, t1, t2⟩ := mk8 (fun i => S.testBit i && !K'.testBit i)
        obtain ⟨S', q1, q2⟩ := isM_ext (fit_mono h1.2.1 s t2)
        refine Or.inr ⟨S', q1, wi_mono hE m (y + 1) (K ||| S) (K' ||| S') (or_256 hK h1.1) (or_256 hK' q1.1) (fun i hi z => ?_) (sbs_or q1.2.1 s') h2⟩
        rw [Nat.testBit_or] at z ⊢
        have z1 : K.testBit i = true ∨ S.testBit i = true := by simpa using z
        rcases z1 with w | w
        · rw [s i hi w, Bool.true_or]
        · cases d : K'.testBit i
          · rw [q2 i hi (by rw [t2 i hi, w, d]; rfl)]
            rfl
          · rfl
theorem wi_wait {W : Nat → Nat} {a E : Nat} (hE : E < 256) {m y K : Nat} (hK : K < 256) (s : sbs K E) (h : wi W a E m (y + 1) K) : wi W a E (m + 1) y K := by
  obtain ⟨S, hS⟩ := isM_ex (W := W) (a := a) (E := E) (y := y) (K := K)
  exact Or.inr ⟨S, hS, wi_mono hE m (y + 1) K (K ||| S) hK (or_256 hK hS.1) (fun i _ z => by
    rw [Nat.testBit_or, z]
    rfl) (sbs_or hS.2.1 s) h⟩
theorem wi_le {W : Nat → Nat} {a E : Nat} : ∀ m y K, wi W a E m y K → wi W a E (m + 1) y K
  | 0, _, _, h => Or.inl h
  | m + 1, y, K, h => by
    rcases h with h | ⟨S, h1, h2⟩
    · exact Or.inl h
    · exact Or.inr ⟨S, h1, wi_le m (y + 1) _ h2⟩
theorem wi_les {W : Nat → Nat} {a E m y K : Nat} (h : wi W a E m y K) : ∀ k, wi W a E (m + k) y K
  | 0 => h
  | k + 1 => wi_le _ _ _ (wi_les h k)
theorem wi_E {W : Nat → Nat} {a E : Nat} : ∀ m y, wi W a E m y E
  | 0, _ => rfl
  | _ + 1, _ => Or.inl rfl
/-- the days from day y on, or a thousand -/
def sfv (W : Nat → Nat) (a E y K v : Nat) : Prop := (v = 1000 ∧ ∀ m, y + m ≤ 30 → ¬wi W a E m y K) ∨ (y + v ≤ 30 ∧ wi W a E v y K ∧ ∀ m, m < v → ¬wi W a E m y K)
theorem sfv_u {W : Nat → Nat} {a E y K v w : Nat} (h : sfv W a E y K v) (g : sfv W a E y K w) : v = w := by
  rcases h with ⟨h1, h2⟩ | ⟨h1, h2, h3⟩
  · rcases g with ⟨g1, g2⟩ | ⟨g1, g2, g3⟩
    · rw [h1, g1]
    · exact absurd g2 (h2 w g1)
  · rcases g with ⟨g1, g2⟩ | ⟨g1, g2, g3⟩
    · exact absurd h2 (g2 v h1)
    · rcases Nat.lt_trichotomy v w with c | c | c
      · exact absurd h2 (g3 v c)
      · exact c
      · exact absurd g2 (h3 w c)
theorem sfv_ex {W : Nat → Nat} {a E y K : Nat} : ∃ v, sfv W a E y K v := by
  have key : ∀ n, (∀ m, m < n → ¬wi W a E m y K) ∨ ∃ v, v < n ∧ wi W a E v y K ∧ ∀ m, m < v → ¬wi W a E m y K := by
    intro n
    induction n with
    | zero => exact Or.inl (fun m hm => by omega)
    | succ n ih =>
      rcases ih with h | ⟨v, v1, v2⟩
      · by_cases c : wi W a E n y K
        · exact Or.inr ⟨n, by omega, c, h⟩
        · refine Or.inl (fun m hm => ?_)
          by_cases e : m = n
          · rw [e]
            exact c
          · exact h m (by omega)
      · exact Or.inr ⟨v, by omega, v2⟩
  rcases key (31 - y) with h | ⟨v, v1, v2⟩
  · exact ⟨1000, Or.inl ⟨rfl, fun m hm => h m (by omega)⟩⟩
  · exact ⟨v, Or.inr ⟨by omega, v2⟩⟩
theorem sfv_le {W : Nat → Nat} {a E y K v : Nat} (h : sfv W a E y K v) : v ≤ 1000 := by
  rcases h with ⟨h1, _⟩ | ⟨h1, _⟩ <;> omega
theorem sfv_wi {W : Nat → Nat} {a E y K v m : Nat} (h : sfv W a E y K v) (hm : y + m ≤ 30) : v ≤ m ↔ wi W a E m y K := by
  rcases h with ⟨h1, h2⟩ | ⟨h1, h2, h3⟩
  · exact ⟨fun z => by omega, fun z => absurd z (h2 m hm)⟩
  · refine ⟨fun z => ?_, fun z => ?_⟩
    · have := wi_les h2 (m - v)
      rw [show v + (m - v) = m by omega] at this
      exact this
    · apply Nat.le_of_not_lt
      intro c
      exact h3 m c z
/-- the best of the first s -/
def bst (W : Nat → Nat) (a E y K s b : Nat) : Prop := b ≤ 1000 ∧ (∀ S v, S < s → isM W a E y K S → sfv W a E (y + 1) (K ||| S) v → b ≤ 1 + v) ∧ (b = 1000 ∨ ∃ S v, S < s ∧ isM W a E y K S ∧ sfv W a E (y + 1) (K ||| S) v ∧ b = 1 + v)
theorem bst_0 {W : Nat → Nat} {a E y K : Nat} : bst W a E y K 0 1000 := ⟨Nat.le_refl _, fun S v h => by omega, Or.inl rfl⟩
theorem bst_n {W : Nat → Nat} {a E y K s b : Nat} (h : bst W a E y K s b) (n : ¬isM W a E y K s) : bst W a E y K (s + 1) b := by
  refine ⟨h.1, fun S v hS q z => ?_, ?_⟩
  · by_cases c : S = s
    · rw [c] at q
      exact absurd q n
    · exact h.2.1 S v (by omega) q z
  · rcases h.2.2 with e | ⟨S, v, e1, e2⟩
    · exact Or.inl e
    · exact Or.inr ⟨S, v, by omega, e2⟩
theorem bst_y {W : Nat → Nat} {a E y K s b v : Nat} (h : bst W a E y K s b) (q : isM W a E y K s) (z : sfv W a E (y + 1) (K ||| s) v) : bst W a E y K (s + 1) (min b (1 + v)) := by
  have hb := h.1
  refine ⟨by omega, fun S w hS q' z' => ?_, ?_⟩
  · by_cases c : S = s
    · rw [c] at z'
      have := sfv_u z z'
      omega
    · have := h.2.1 S w (by omega) q' z'
      omega
  · by_cases c : b ≤ 1 + v
    · rw [Nat.min_eq_left c]
      rcases h.2.2 with e | ⟨S, w, e1, e2⟩
      · exact Or.inl e
      · exact Or.inr ⟨S, w, by omega, e2⟩
    · rw [Nat.min_eq_right (by omega)]
      exact Or.inr ⟨s, v, by omega, q, z, rfl⟩
theorem bst_e {W : Nat → Nat} {a E y K b : Nat} (h : bst W a E y K 256 b) (hy : y < 30) (ne : K ≠ E) : sfv W a E y K b := by
  obtain ⟨h1, h2, h3⟩ := h
  have lo : ∀ m, y + m ≤ 30 → wi W a E m y K → b ≤ m := fun m hm z => by
    cases m with
    | zero => exact absurd z ne
    | succ m =>
      rcases z with z | ⟨S, q1, q2⟩
      · exact absurd z ne
      · obtain ⟨v, hv⟩ := sfv_ex (W := W) (a := a) (E := E) (y := y + 1) (K := K ||| S)
        have g1 := h2 S v q1.1 q1 hv
        have g2 := (sfv_wi hv (m := m) (by omega)).2 q2
        omega
  rcases h3 with e | ⟨S, v, _, e2, e3, e4⟩
  · exact Or.inl ⟨e, fun m hm z => by
      have := lo m hm z
      omega⟩
  · right
    rcases e3 with ⟨f1, _⟩ | ⟨f1, f2, _⟩
    · omega
    · refine ⟨by omega, ?_, fun m hm z => ?_⟩
      · rw [e4, Nat.add_comm]
        exact Or.inr ⟨S, e2, f2⟩
      · have := lo m (by omega) z
        omega
/-- reached behind d days -/
def fw (W : Nat → Nat) (a E K0 : Nat) : Nat → Nat → Prop
  | 0, K => K = K0
  | d + 1, K' => ∃ K S, fw W a E K0 d K ∧ isM W a E d K S ∧ K' = K ||| S
theorem fw_E {W : Nat → Nat} {a E K0 d : Nat} (hE : E < 256) (h : fw W a E K0 d E) : fw W a E K0 (d + 1) E := by
  obtain ⟨S, hS⟩ := isM_ex (W := W) (a := a) (E := E) (y := d) (K := E)
  have : S = 0 := tb_eq hS.1 (by decide) (fun i hi => by
    rw [Nat.zero_testBit]
    cases c : S.testBit i
    · rfl
    · have := fit_sbs hS.2.1 i hi c
      rw [this.1] at this
      cases this.2)
  refine ⟨E, S, h, hS, ?_⟩
  rw [this, Nat.or_zero]
theorem fw_wi {W : Nat → Nat} {a E K0 : Nat} (hE : E < 256) : ∀ m y K, fw W a E K0 y K → wi W a E m y K → fw W a E K0 (y + m) E
  | 0, y, K, h, w => by
    have w' : K = E := w
    rw [w'] at h
    exact h
  | m + 1, y, K, h, w => by
    rcases w with w | ⟨S, w1, w2⟩
    · rw [w] at h
      have := fw_wi hE m (y + 1) E (fw_E hE h) (wi_E m (y + 1))
      rw [show y + (m + 1) = y + 1 + m by omega]
      exact this
    · have := fw_wi hE m (y + 1) (K ||| S) ⟨K, S, h, w1, rfl⟩ w2
      rw [show y + (m + 1) = y + 1 + m by omega]
      exact this
theorem wi_fw {W : Nat → Nat} {a E K0 : Nat} : ∀ y m K, fw W a E K0 y K → wi W a E m y K → wi W a E (y + m) 0 K0
  | 0, m, K, h, w => by
    have h' : K = K0 := h
    rw [h'] at w
    rw [Nat.zero_add]
    exact w
  | y + 1, m, K, h, w => by
    obtain ⟨K1, S, h1, h2, h3⟩ := h
    rw [h3] at w
    have := wi_fw y (m + 1) K1 h1 (Or.inr ⟨S, h2, w⟩)
    rw [show y + 1 + m = y + (m + 1) by omega]
    exact this
theorem fw_iff {W : Nat → Nat} {a E K0 d : Nat} (hE : E < 256) : fw W a E K0 d E ↔ wi W a E d 0 K0 := by
  constructor
  · intro h
    exact wi_fw d 0 E h rfl
  · intro h
    have := fw_wi hE d 0 K0 rfl h
    rw [Nat.zero_add] at this
    exact this
/-- the days it takes, or none -/
def dys (W : Nat → Nat) (a E K : Nat) (v : Int32) : Prop := (v = -1 ∧ ∀ m, m ≤ 30 → ¬wi W a E m 0 K) ∨ ∃ m, m ≤ 30 ∧ v = nZ m ∧ wi W a E m 0 K ∧ ∀ j, j < m → ¬wi W a E j 0 K
theorem dys_u {W : Nat → Nat} {a E K : Nat} {v w : Int32} (h : dys W a E K v) (g : dys W a E K w) : v = w := by
  rcases h with ⟨h1, h2⟩ | ⟨m, m1, m2, m3, m4⟩
  · rcases g with ⟨g1, g2⟩ | ⟨k, k1, k2, k3, k4⟩
    · rw [h1, g1]
    · exact absurd k3 (h2 k k1)
  · rcases g with ⟨g1, g2⟩ | ⟨k, k1, k2, k3, k4⟩
    · exact absurd m3 (g2 m m1)
    · have : m = k := by
        rcases Nat.lt_trichotomy m k with c | c | c
        · exact absurd m3 (k4 m c)
        · exact c
        · exact absurd k3 (m4 k c)
      rw [m2, k2, this]

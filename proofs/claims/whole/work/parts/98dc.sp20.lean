/-! the fewest showings -/
def fm (W : Nat → Nat) (E K p : Nat) : Nat := sd (W (32 + p) &&& E) K
def opt (W : Nat → Nat) (a E K p Q : Nat) : Prop := K.testBit p = true ∧ Q ≠ 0 ∧ Q &&& fm W E K p = Q ∧ pc Q ≤ W (41 + 4 * a)
def opx (W : Nat → Nat) (a E K p Q : Nat) : Prop := K.testBit p = true ∧ Q ≠ 0 ∧ Q &&& fm W E K p = Q ∧ pc Q = min (W (41 + 4 * a)) (pc (fm W E K p))
theorem fm_lt {W : Nat → Nat} {E K p : Nat} (hE : E < 256) : fm W E K p < 256 := Nat.lt_of_le_of_lt (Nat.le_trans sd_le Nat.and_le_right) hE
theorem fm_tb {W : Nat → Nat} {E K p i : Nat} (hi : i < 8) : (fm W E K p).testBit i = ((W (32 + p)).testBit i && E.testBit i && !K.testBit i) := by
  unfold fm
  rw [sd_tb (by omega), Nat.testBit_and]
theorem q_lt {W : Nat → Nat} {E K p Q : Nat} (hE : E < 256) (h : Q &&& fm W E K p = Q) : Q < 256 := by
  rw [← h]
  exact Nat.lt_of_le_of_lt Nat.and_le_right (fm_lt hE)
/-- all within m showings -/
def st (W : Nat → Nat) (a E : Nat) : Nat → Nat → Prop
  | 0, K => K = E
  | m + 1, K => K = E ∨ ∃ p Q, p < 8 ∧ opt W a E K p Q ∧ st W a E m (K ||| Q)
theorem q_up {W : Nat → Nat} {E K p Q : Nat} (hE : E < 256) (hK : K < 256) (sK : sbs K E) (h : Q &&& fm W E K p = Q) : K ||| Q < 256 ∧ sbs (K ||| Q) E := by
  have q8 := q_lt hE h
  refine ⟨or_256 hK q8, fun i hi z => ?_⟩
  rw [Nat.testBit_or] at z
  have z1 : K.testBit i = true ∨ Q.testBit i = true := by simpa using z
  rcases z1 with c | c
  · exact sK i hi c
  · have := (and_sbs q8).1 h i hi c
    rw [fm_tb hi] at this
    simp only [Bool.and_eq_true] at this
    exact this.1.2
theorem q_more {W : Nat → Nat} {E K p Q : Nat} (hE : E < 256) (h0 : Q ≠ 0) (h : Q &&& fm W E K p = Q) : K < K ||| Q := by
  have q8 := q_lt hE h
  have le : K ≤ K ||| Q := Nat.left_le_or
  have ne : K ||| Q ≠ K := fun e => h0 (tb_eq q8 (by decide) (fun i hi => by
    rw [Nat.zero_testBit]
    cases c : Q.testBit i
    · rfl
    · have f := (and_sbs q8).1 h i hi c
      rw [fm_tb hi] at f
      simp only [Bool.and_eq_true] at f
      have b : (K ||| Q).testBit i = true := by
        rw [Nat.testBit_or, c, Bool.or_true]
      rw [e] at b
      have f2 := f.2
      rw [b] at f2
      cases f2))
  omega
theorem st_mono {W : Nat → Nat} {a E : Nat} (hE : E < 256) : ∀ m K K', K < 256 → K' < 256 → sbs K E → sbs K K' → sbs K' E → st W a E m K → st W a E m K'
  | 0, K, K', hK, hK', sE, s, s', h => by
    have h' : K = E := h
    rw [h'] at s
    exact sbs_eq hK' hE s' s
  | m + 1, K, K', hK, hK', sE, s, s', h => by
    rcases h with h | ⟨p, Q, hp, ⟨o1, o2, o3, o4⟩, h2⟩
    · left
      rw [h] at s
      exact sbs_eq hK' hE s' s
    · by_cases c : K' = E
      · exact Or.inl c
      · have q8 := q_lt hE o3
        obtain ⟨u1, u2⟩ := q_up hE hK sE o3
        have r8 : sd Q K' < 256 := Nat.lt_of_le_of_lt sd_le q8
        have s2 : sbs (K ||| Q) (K' ||| sd Q K') := fun i hi z => by
          rw [Nat.testBit_or] at z ⊢
          have z1 : K.testBit i = true ∨ Q.testBit i = true := by simpa using z
          rcases z1 with w | w
          · rw [s i hi w]
            rfl
          · rw [sd_tb (by omega), w]
            cases K'.testBit i <;> rfl
        by_cases c0 : sd Q K' = 0
        · have s3 : sbs (K ||| Q) K' := by
            rw [c0, Nat.or_zero] at s2
            exact s2
          have ih := st_mono hE m (K ||| Q) K' u1 hK' u2 s3 s' h2
          cases m with
          | zero => exact Or.inl ih
          | succ m =>
            rcases ih with q | ⟨p', Q', q1, q2, q3⟩
            · exact Or.inl q
            · exact Or.inr ⟨p', Q', q1, q2, by
                have key : ∀ m K, st W a E m K → st W a E (m + 1) K := by
                  intro m
                  induction m with
                  | zero => intro K h; exact Or.inl h
                  | succ m ih =>
                    intro K h
                    rcases h with h | ⟨p, Q, r1, r2, r3⟩
                    · exact Or.inl h
                    · exact Or.inr ⟨p, Q, r1, r2, ih _ r3⟩
                exact key _ _ q3⟩
        · have f3 : sd Q K' &&& fm W E K' p = sd Q K' := (and_sbs r8).2 (fun i hi z => by
            rw [sd_tb (by omega), Bool.and_eq_true] at z
            have f := (and_sbs q8).1 o3 i hi z.1
            rw [fm_tb hi] at f ⊢
            simp only [Bool.and_eq_true] at f ⊢
            exact ⟨f.1, z.2⟩)
          have o5 : pc (sd Q K') ≤ W (41 + 4 * a) := by
            have : pc (sd Q K') ≤ pc Q := by
              rw [pc_card _ r8, pc_card _ q8]
              exact cN_mono 8 (fun i hi z => by
                rw [sd_tb (by omega), Bool.and_eq_true] at z
                exact z.1)
            omega
          obtain ⟨w1, w2⟩ := q_up hE hK' s' f3
          exact Or.inr ⟨p, sd Q K', hp, ⟨s p hp o1, c0, f3, o5⟩, st_mono hE m (K ||| Q) (K' ||| sd Q K') u1 w1 u2 s2 w2 h2⟩
/-- the fewest, or a thousand -/
def shv (W : Nat → Nat) (a E K v : Nat) : Prop := (v = 1000 ∧ ∀ m, ¬st W a E m K) ∨ (v + K ≤ E ∧ st W a E v K ∧ ∀ m, m < v → ¬st W a E m K)
theorem shv_u {W : Nat → Nat} {a E K v w : Nat} (h : shv W a E K v) (g : shv W a E K w) : v = w := by
  rcases h with ⟨h1, h2⟩ | ⟨h1, h2, h3⟩
  · rcases g with ⟨g1, g2⟩ | ⟨g1, g2, g3⟩
    · rw [h1, g1]
    · exact absurd g2 (h2 w)
  · rcases g with ⟨g1, g2⟩ | ⟨g1, g2, g3⟩
    · exact absurd h2 (g2 v)
    · rcases Nat.lt_trichotomy v w with c | c | c
      · exact absurd h2 (g3 v c)
      · exact c
      · exact absurd g2 (h3 w c)
theorem st_bd {W : Nat → Nat} {a E : Nat} (hE : E < 256) : ∀ m K, st W a E m K → (∀ j, j < m → ¬st W a E j K) → m + K ≤ E
  | 0, K, h, _ => by
    have h' : K = E := h
    omega
  | m + 1, K, h, z => by
    rcases h with h | ⟨p, Q, h1, h2, h3⟩
    · exact absurd h (z 0 (by omega))
    · have ih := st_bd hE m (K ||| Q) h3 (fun j hj w => z (j + 1) (by omega) (Or.inr ⟨p, Q, h1, h2, w⟩))
      have := q_more hE h2.2.1 h2.2.2.1
      omega
theorem shv_ex {W : Nat → Nat} {a E K : Nat} (hE : E < 256) : ∃ v, shv W a E K v := by
  by_cases c : ∃ m, st W a E m K
  · obtain ⟨m, hm⟩ := c
    have key : ∀ n, (∃ m, m < n ∧ st W a E m K) → ∃ v, st W a E v K ∧ ∀ j, j < v → ¬st W a E j K := by
      intro n
      induction n with
      | zero =>
        rintro ⟨m, h, _⟩
        omega
      | succ n ih =>
        intro h
        by_cases c : ∃ m, m < n ∧ st W a E m K
        · exact ih c
        · obtain ⟨m, m1, m2⟩ := h
          have : m = n := by
            apply Classical.byContradiction
            intro w
            exact c ⟨m, by omega, m2⟩
          rw [this] at m2
          exact ⟨n, m2, fun j hj w => c ⟨j, hj, w⟩⟩
    obtain ⟨v, v1, v2⟩ := key (m + 1) ⟨m, by omega, hm⟩
    exact ⟨v, Or.inr ⟨st_bd hE v K v1 v2, v1, v2⟩⟩
  · exact ⟨1000, Or.inl ⟨rfl, fun m h => c ⟨m, h⟩⟩⟩
theorem shv_le {W : Nat → Nat} {a E K v : Nat} (hE : E < 256) (h : shv W a E K v) : v ≤ 1000 := by
  rcases h with ⟨h, _⟩ | ⟨h, _⟩ <;> omega
theorem shv_m {W : Nat → Nat} {a E K v m : Nat} (h : shv W a E K v) (s : st W a E m K) : v ≤ m := by
  rcases h with ⟨_, h2⟩ | ⟨_, _, h3⟩
  · exact absurd s (h2 m)
  · apply Nat.le_of_not_lt
    intro c
    exact h3 m c s
/-- the best of what may be chosen -/
def bsO (W : Nat → Nat) (a E K : Nat) (O : Nat → Prop) (b : Nat) : Prop := b ≤ 1000 ∧ (∀ Q v, O Q → shv W a E (K ||| Q) v → b ≤ 1 + v) ∧ (b = 1000 ∨ ∃ Q v, O Q ∧ shv W a E (K ||| Q) v ∧ b = 1 + v)
theorem bsO_0 {W : Nat → Nat} {a E K : Nat} : bsO W a E K (fun _ => False) 1000 := ⟨Nat.le_refl _, fun _ _ h => h.elim, Or.inl rfl⟩
theorem bsO_c {W : Nat → Nat} {a E K b : Nat} {O P : Nat → Prop} (h : bsO W a E K O b) (e : ∀ Q, O Q ↔ P Q) : bsO W a E K P b := by
  refine ⟨h.1, fun Q v q z => h.2.1 Q v ((e Q).2 q) z, ?_⟩
  rcases h.2.2 with q | ⟨Q, v, q1, q2⟩
  · exact Or.inl q
  · exact Or.inr ⟨Q, v, (e Q).1 q1, q2⟩
theorem bsO_s {W : Nat → Nat} {a E K b Q v : Nat} {O : Nat → Prop} (h : bsO W a E K O b) (z : shv W a E (K ||| Q) v) : bsO W a E K (fun X => O X ∨ X = Q) (min b (1 + v)) := by
  have hb := h.1
  refine ⟨by omega, fun X w q z' => ?_, ?_⟩
  · rcases q with q | q
    · have := h.2.1 X w q z'
      omega
    · rw [q] at z'
      have := shv_u z z'
      omega
  · by_cases c : b ≤ 1 + v
    · rw [Nat.min_eq_left c]
      rcases h.2.2 with e | ⟨X, w, e1, e2⟩
      · exact Or.inl e
      · exact Or.inr ⟨X, w, Or.inl e1, e2⟩
    · rw [Nat.min_eq_right (by omega)]
      exact Or.inr ⟨Q, v, Or.inr rfl, z, rfl⟩
/-- a part of the choices does, if every choice lies within one of them -/
theorem bsO_dom {W : Nat → Nat} {a E K b b' : Nat} {O P : Nat → Prop} (hE : E < 256) (h : bsO W a E K O b) (g : bsO W a E K P b') (sub : ∀ Q, P Q → O Q) (dom : ∀ Q, O Q → ∃ Q', P Q' ∧ ∀ m, st W a E m (K ||| Q) → st W a E m (K ||| Q')) : b = b' := by
  have h1 : b ≤ b' := by
    rcases g.2.2 with e | ⟨Q, v, e1, e2, e3⟩
    · have := h.1
      omega
    · have := h.2.1 Q v (sub Q e1) e2
      omega
  have h2 : b' ≤ b := by
    rcases h.2.2 with e | ⟨Q, v, e1, e2, e3⟩
    · have := g.1
      omega
    · rcases e2 with ⟨f1, _⟩ | ⟨f1, f2, _⟩
      · have := h.1
        omega
      · obtain ⟨Q', p1, p2⟩ := dom Q e1
        obtain ⟨v', hv'⟩ := shv_ex (W := W) (a := a) (K := K ||| Q') hE
        have g1 := g.2.1 Q' v' p1 hv'
        have g2 := shv_m hv' (p2 v f2)
        omega
  omega
theorem bs_shv {W : Nat → Nat} {a E K b : Nat} (hE : E < 256) (ne : K ≠ E) (h : bsO W a E K (fun Q => ∃ p, p < 8 ∧ opt W a E K p Q) b) : shv W a E K b := by
  obtain ⟨h1, h2, h3⟩ := h
  have lo : ∀ m, st W a E m K → b ≤ m := fun m s => by
    cases m with
    | zero => exact absurd s ne
    | succ m =>
      rcases s with s | ⟨p, Q, s1, s2, s3⟩
      · exact absurd s ne
      · obtain ⟨v, hv⟩ := shv_ex (W := W) (a := a) (K := K ||| Q) hE
        have g1 := h2 Q v ⟨p, s1, s2⟩ hv
        have g2 := shv_m hv s3
        omega
  rcases h3 with e | ⟨Q, v, ⟨p, p1, p2⟩, e2, e3⟩
  · left
    refine ⟨e, fun m s => ?_⟩
    have key : ∃ v, shv W a E K v := shv_ex hE
    obtain ⟨v, hv⟩ := key
    rcases hv with ⟨_, q⟩ | ⟨q1, q2, _⟩
    · exact q m s
    · have := lo v q2
      omega
  · rcases e2 with ⟨f1, _⟩ | ⟨f1, f2, _⟩
    · omega
    · right
      have mo := q_more hE p2.2.1 p2.2.2.1
      refine ⟨by omega, ?_, fun m hm s => ?_⟩
      · rw [e3, Nat.add_comm]
        exact Or.inr ⟨p, Q, p1, p2, f2⟩
      · have := lo m s
        omega
/-- a part may be made greater, up to the whole -/
theorem grow8 {F : Nat} (hF : F < 256) : ∀ n Q, Q < 256 → sbs Q F → pc Q + n ≤ pc F → ∃ Q', Q' < 256 ∧ sbs Q Q' ∧ sbs Q' F ∧ pc Q' = pc Q + n
  | 0, Q, h1, h2, _ => ⟨Q, h1, fun _ _ z => z, h2, rfl⟩
  | n + 1, Q, h1, h2, h3 => by
    have ex : ∃ i, i < 8 ∧ F.testBit i = true ∧ Q.testBit i = false := by
      apply Classical.byContradiction
      intro w
      have : pc F ≤ pc Q := by
        rw [pc_card F hF, pc_card Q h1]
        exact cN_mono 8 (fun i hi z => by
          cases c : Q.testBit i
          · exact absurd ⟨i, hi, z, c⟩ w
          · rfl)
      omega
    obtain ⟨i, hi, f1, f2⟩ := ex
    have p8 : 2 ^ i < 256 := by
      have : 2 ^ i ≤ 2 ^ 7 := Nat.pow_le_pow_right (by decide) (by omega)
      omega
    have q8 := or_256 h1 p8
    have e : pc (Q ||| 2 ^ i) = pc Q + 1 := by
      rw [pc_card _ q8, pc_card Q h1]
      exact cN_up (P := fun j => Q.testBit j) (Q := fun j => (Q ||| 2 ^ i).testBit j) (i := i) f2 (by
        show (Q ||| 2 ^ i).testBit i = true
        rw [Nat.testBit_or, Nat.testBit_two_pow, decide_eq_true rfl, Bool.or_true]) 8 hi (fun j _ ne => by
        show (Q ||| 2 ^ i).testBit j = Q.testBit j
        rw [Nat.testBit_or, Nat.testBit_two_pow, decide_eq_false (fun z => ne z.symm), Bool.or_false])
    obtain ⟨Q', r1, r2, r3, r4⟩ := grow8 hF n (Q ||| 2 ^ i) q8 (fun j hj z => by
      rw [Nat.testBit_or, Nat.testBit_two_pow] at z
      have z1 : Q.testBit j = true ∨ i = j := by simpa using z
      rcases z1 with c | c
      · exact h2 j hj c
      · rw [← c]
        exact f1) (by omega)
    refine ⟨Q', r1, fun j hj z => r2 j hj (by rw [Nat.testBit_or, z]; rfl), r3, by omega⟩
theorem opt_x {W : Nat → Nat} {a E K p Q : Nat} (hE : E < 256) (hK : K < 256) (sK : sbs K E) (h : opt W a E K p Q) : ∃ Q', opx W a E K p Q' ∧ ∀ m, st W a E m (K ||| Q) → st W a E m (K ||| Q') := by
  obtain ⟨h1, h2, h3, h4⟩ := h
  have q8 := q_lt hE h3
  have f8 := fm_lt (W := W) (K := K) (p := p) hE
  have sq := (and_sbs q8).1 h3
  have le : pc Q ≤ pc (fm W E K p) := by
    rw [pc_card Q q8, pc_card _ f8]
    exact cN_mono 8 sq
  obtain ⟨Q', r1, r2, r3, r4⟩ := grow8 f8 (min (W (41 + 4 * a)) (pc (fm W E K p)) - pc Q) Q q8 sq (by omega)
  have e3 := (and_sbs r1).2 r3
  have p1 := (pc_le Q q8).2.1 (by omega)
  refine ⟨Q', ⟨h1, fun z => ?_, e3, by omega⟩, fun m s => ?_⟩
  · have := (pc_le Q' r1).2.2 z
    omega
  · obtain ⟨u1, u2⟩ := q_up hE hK sK h3
    obtain ⟨w1, w2⟩ := q_up hE hK sK e3
    exact st_mono hE m _ _ u1 w1 u2 (fun i hi z => by
      rw [Nat.testBit_or] at z ⊢
      have z1 : K.testBit i = true ∨ Q.testBit i = true := by simpa using z
      rcases z1 with c | c
      · rw [c]
        rfl
      · rw [r2 i hi c, Bool.or_true]) w2 s
theorem opx_t {W : Nat → Nat} {a E K p Q : Nat} (h : opx W a E K p Q) : opt W a E K p Q := ⟨h.1, h.2.1, h.2.2.1, by
  have := h.2.2.2
  omega⟩

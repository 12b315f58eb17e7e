/-! the class's spread: rooms, smaller parts -/
def tf (v : Int32) (P : Prop) : Prop := (v = nZ 1 ∧ P) ∨ (v = nZ 0 ∧ ¬P)
theorem tf.c {v : Int32} {P Q : Prop} (h : tf v P) (e : P ↔ Q) : tf v Q := by
  rcases h with ⟨a, b⟩ | ⟨a, b⟩
  · exact Or.inl ⟨a, e.1 b⟩
  · exact Or.inr ⟨a, fun z => b (e.2 z)⟩
/-- without -/
def sd (x y : Nat) : Nat := x &&& (y ^^^ 4294967295)
theorem sd_i {x y : Nat} : nZ x &&& (nZ y ^^^ (-1)) = nZ (sd x y) := by
  rw [show (-1 : Int32) = nZ 4294967295 from by decide, nZ_xor, nZ_and]
  rfl
theorem sd_tb {x y i : Nat} (hi : i < 32) : (sd x y).testBit i = (x.testBit i && !y.testBit i) := by
  unfold sd
  rw [Nat.testBit_and, Nat.testBit_xor, show (4294967295 : Nat) = 2 ^ 32 - 1 by decide, Nat.testBit_two_pow_sub_one, decide_eq_true hi, Bool.xor_true]
theorem sd_le {x y : Nat} : sd x y ≤ x := Nat.and_le_left
def TM (W : Nat → Nat) (a E y K : Nat) : Nat := mb (prB W E y) 8 &&& K &&& mb (okB W a) 8
def OM (W : Nat → Nat) (a E y K : Nat) : Nat := sd (mb (prB W E y) 8 &&& mb (okB W a) 8) K
def rc (W : Nat → Nat) (a E y K : Nat) : Nat → Nat
  | 0 => 0
  | p + 1 => if (TM W a E y K).testBit p = true then rc W a E y K p ||| (W (32 + p) &&& OM W a E y K) else rc W a E y K p
def rm (W : Nat → Nat) (a E y K S : Nat) : Nat → Nat
  | 0 => 0
  | p + 1 => if (TM W a E y K).testBit p = true ∧ W (32 + p) &&& S ≠ 0 then rm W a E y K S p + cp W a p else rm W a E y K S p
theorem TM_tb {W : Nat → Nat} {a E y K p : Nat} (hp : p < 8) : (TM W a E y K).testBit p = (prB W E y p && K.testBit p && okB W a p) := by
  unfold TM
  rw [Nat.testBit_and, Nat.testBit_and, mb_tb, mb_tb, decide_eq_true hp, Bool.true_and, Bool.true_and]
theorem OM_tb {W : Nat → Nat} {a E y K p : Nat} (hp : p < 8) : (OM W a E y K).testBit p = (prB W E y p && okB W a p && !K.testBit p) := by
  unfold OM
  rw [sd_tb (by omega), Nat.testBit_and, mb_tb, mb_tb, decide_eq_true hp, Bool.true_and, Bool.true_and]
theorem TM_lt {W : Nat → Nat} {a E y K : Nat} : TM W a E y K < 256 := Nat.lt_of_le_of_lt (Nat.le_trans Nat.and_le_left Nat.and_le_left) mb_8
theorem OM_lt {W : Nat → Nat} {a E y K : Nat} : OM W a E y K < 256 := Nat.lt_of_le_of_lt (Nat.le_trans sd_le Nat.and_le_left) mb_8
theorem rc_lt {W : Nat → Nat} {a E y K : Nat} : ∀ n, rc W a E y K n < 256
  | 0 => by
    show 0 < 256
    decide
  | n + 1 => by
    unfold rc
    split
    · exact or_256 (rc_lt n) (Nat.lt_of_le_of_lt Nat.and_le_right OM_lt)
    · exact rc_lt n
theorem rc_tb {W : Nat → Nat} {a E y K i : Nat} : ∀ n, (rc W a E y K n).testBit i = true ↔ ∃ p, p < n ∧ (TM W a E y K).testBit p = true ∧ (W (32 + p)).testBit i = true ∧ (OM W a E y K).testBit i = true
  | 0 => by
    constructor
    · intro h
      rw [show rc W a E y K 0 = 0 from rfl, Nat.zero_testBit] at h
      cases h
    · rintro ⟨p, h, _⟩
      omega
  | n + 1 => by
    have ih := rc_tb (W := W) (a := a) (E := E) (y := y) (K := K) (i := i) n
    have es : rc W a E y K (n + 1) = if (TM W a E y K).testBit n = true then rc W a E y K n ||| (W (32 + n) &&& OM W a E y K) else rc W a E y K n := rfl
    rw [es]
    by_cases c : (TM W a E y K).testBit n = true
    · rw [if_pos c, Nat.testBit_or, Nat.testBit_and, Bool.or_eq_true, Bool.and_eq_true, ih]
      constructor
      · rintro (⟨p, p1, p2⟩ | ⟨q1, q2⟩)
        · exact ⟨p, by omega, p2⟩
        · exact ⟨n, by omega, c, q1, q2⟩
      · rintro ⟨p, p1, p2, p3, p4⟩
        by_cases e : p = n
        · rw [e] at p3
          exact Or.inr ⟨p3, p4⟩
        · exact Or.inl ⟨p, by omega, p2, p3, p4⟩
    · rw [if_neg c, ih]
      constructor
      · rintro ⟨p, p1, p2⟩
        exact ⟨p, by omega, p2⟩
      · rintro ⟨p, p1, p2⟩
        have : p ≠ n := fun e => by
          rw [e] at p2
          exact c p2.1
        exact ⟨p, by omega, p2⟩
/-- the room the class counts is the room -/
theorem rm_rr {W : Nat → Nat} {a E y K S : Nat} (hS : S < 256) (sK : sbs K E) (sO : sbs S (OM W a E y K)) : ∀ n, n ≤ 8 → rm W a E y K S n = rr W a E y K n (tb S)
  | 0, _ => rfl
  | n + 1, hn => by
    have ih := rm_rr hS sK sO n (by omega)
    have e1 : rm W a E y K S (n + 1) = if (TM W a E y K).testBit n = true ∧ W (32 + n) &&& S ≠ 0 then rm W a E y K S n + cp W a n else rm W a E y K S n := rfl
    have e2 : rr W a E y K (n + 1) (tb S) = if tl W y K n = true then rPlus (rr W a E y K n) (wm W a E y K n) (cp W a n) (tb S) else rr W a E y K n (tb S) := rfl
    rw [e1, e2, ih, TM_tb (by omega)]
    have hit : cN (fun i => wm W a E y K n i && tb S i) 8 ≠ 0 ↔ W (32 + n) &&& S ≠ 0 := by
      constructor
      · intro h z
        obtain ⟨i, hi, q⟩ := cN_pos 8 h
        have q1 : wm W a E y K n i = true ∧ S.testBit i = true := by simpa using q
        have b : (W (32 + n) &&& S).testBit i = true := by
          rw [Nat.testBit_and, q1.2]
          have := q1.1
          unfold wm at this
          simp only [Bool.and_eq_true] at this
          rw [this.2.2.1]
          rfl
        rw [z, Nat.zero_testBit] at b
        cases b
      · intro h z
        apply h
        apply Nat.eq_of_testBit_eq
        intro i
        rw [Nat.zero_testBit]
        cases b : (W (32 + n) &&& S).testBit i
        · rfl
        · rw [Nat.testBit_and, Bool.and_eq_true] at b
          by_cases hi : i < 8
          · have o1 := sO i hi b.2
            rw [OM_tb hi] at o1
            unfold prB okB at o1
            simp only [Bool.and_eq_true] at o1
            have w1 : wm W a E y K n i = true := by
              unfold wm
              simp only [Bool.and_eq_true]
              exact ⟨o1.1.1.1, o1.2, b.1, o1.1.1.2, o1.1.2⟩
            have := cN_one (P := fun i => wm W a E y K n i && tb S i) (i := i) (by
              show (wm W a E y K n i && S.testBit i) = true
              rw [w1, b.2]
              rfl) 8 hi
            omega
          · exfalso
            have b2 := b.2
            rw [tb_hi hS (by omega)] at b2
            cases b2
    by_cases ct : tl W y K n = true
    · have c1 : K.testBit n = true ∧ (W (4 * n + 3)).testBit y = false := by
        unfold tl at ct
        simpa using ct
      have pr : prB W E y n = true := by
        unfold prB
        rw [sK n (by omega) c1.1, c1.2]
        rfl
      rw [if_pos ct, pr, c1.1, Bool.true_and, Bool.true_and]
      unfold rPlus
      by_cases ck : okB W a n = true
      · by_cases ch : W (32 + n) &&& S ≠ 0
        · rw [if_pos ⟨ck, ch⟩, if_pos (hit.2 ch)]
        · rw [if_neg (fun z => ch z.2), if_neg (fun z => ch (hit.1 z))]
          rfl
      · have c0 : cp W a n = 0 := by
          unfold cp
          have : ¬(W (40 + 4 * a) ≤ W (4 * n + 2)) := fun z => ck (decide_eq_true z)
          rw [Nat.div_eq_of_lt (by omega), Nat.zero_mul]
        rw [if_neg (fun z => ck z.1), c0]
        split <;> rfl
    · have n1 : ¬((prB W E y n && K.testBit n && okB W a n) = true) := fun z => by
        apply ct
        simp only [Bool.and_eq_true] at z
        unfold tl
        have z1 := z.1.1
        unfold prB at z1
        simp only [Bool.and_eq_true] at z1
        rw [z.1.2, z1.2]
        rfl
      rw [if_neg ct, if_neg (fun z => n1 z.1)]
theorem and_sbs {S R : Nat} (hS : S < 256) : S &&& R = S ↔ sbs S R := by
  constructor
  · intro h i _ z
    have e : (S &&& R).testBit i = S.testBit i := by rw [h]
    rw [Nat.testBit_and, z, Bool.true_and] at e
    exact e
  · intro h
    apply Nat.eq_of_testBit_eq
    intro i
    rw [Nat.testBit_and]
    by_cases c : i < 8
    · cases z : S.testBit i
      · rfl
      · rw [h i c z]
        rfl
    · rw [tb_hi hS (by omega)]
      rfl
/-- parts smaller by one -/
theorem fit_step {W : Nat → Nat} {a E y K S : Nat} : fit W a E y K S ↔ (∀ i, i < 8 → S.testBit i = true → fit W a E y K (sd S (2 ^ i))) ∧ card8 (tb S) ≤ rr W a E y K 8 (tb S) := by
  constructor
  · intro h
    refine ⟨fun i hi z => ?_, h _ (fun _ _ z => z)⟩
    apply Hl.mono h
    intro j hj q
    have q1 : (sd S (2 ^ i)).testBit j = true := q
    rw [sd_tb (by omega), Bool.and_eq_true] at q1
    exact q1.1
  · rintro ⟨h1, h2⟩ X hX
    by_cases c : ∃ i, i < 8 ∧ S.testBit i = true ∧ X i = false
    · obtain ⟨i, hi, q1, q2⟩ := c
      apply h1 i hi q1
      intro j hj z
      show (sd S (2 ^ i)).testBit j = true
      rw [sd_tb (by omega), Nat.testBit_two_pow]
      have ne : i ≠ j := fun e => by
        rw [← e, q2] at z
        cases z
      rw [decide_eq_false ne]
      have := hX j hj z
      rw [show S.testBit j = true from this]
      rfl
    · have s2 : sub8 (tb S) X := fun i hi z => by
        cases q : X i
        · exact absurd ⟨i, hi, z, q⟩ c
        · rfl
      have e1 := (Rk_rr (W := W) (a := a) (E := E) (y := y) (K := K) 8).2.1 _ _ s2
      have e2 : card8 X ≤ card8 (tb S) := cN_mono 8 hX
      omega
theorem dp_le {R : Nat} (hR : R < 256) : ∀ n j, j + n < 2 ^ pc R → dp R j ≤ dp R (j + n)
  | 0, j, _ => Nat.le_refl _
  | n + 1, j, h => by
    have ih := dp_le hR n j (by omega)
    have h1 := (dp_1 R hR (j + n) (by omega) (by omega)).2.2
    exact Nat.le_of_lt (Nat.lt_of_le_of_lt ih h1)
theorem dp_lt {R j k : Nat} (hR : R < 256) (h : j < k) (hk : k < 2 ^ pc R) : dp R j < dp R k := by
  have h1 := (dp_1 R hR j (by omega) (by omega)).2.2
  have h2 := dp_le hR (k - (j + 1)) (j + 1) (by omega)
  rw [show j + 1 + (k - (j + 1)) = k by omega] at h2
  omega
theorem c143_2 {h : QH} (H : Sh h) (d S : Nat) (hS : S < 256) (P : Nat → Prop) (f : ∀ i, i < 8 → S.testBit i = true → tf (hI h 49 (sd S (2 ^ i))) (P (sd S (2 ^ i)))) : ∀ m i, i + m = 8 → (∀ j, j < i → S.testBit j = true → P (sd S (2 ^ j))) → ∃ v, qbig (d + 1) 143 2 [sR (some 45), sI (nZ S), sI (nZ i)] [] h = some (some (qI v), h) ∧ tf v (∀ j, j < 8 → S.testBit j = true → P (sd S (2 ^ j)))
  | 0, i, e, z => by
    have e' : i = 8 := by omega
    subst e'
    refine ⟨nZ 1, ?_, Or.inl ⟨rfl, z⟩⟩
    rw [E143_2, if_neg (by decide), if_pos (by decide)]
    rfl
  | m + 1, i, e, z => by
    have hi : i < 8 := by omega
    have lt1 : nZ i < 8 := by
      rw [L8, nZ_lt (by omega) (by decide)]
      exact hi
    have ip : nZ i + 1 = nZ (i + 1) := by rw [L1, nZ_add]
    have z00 : nZ 0 = (0 : Int32) := rfl
    have z10 : ¬(nZ 1 = (0 : Int32)) := by decide
    have eb := bit_get (x := S) (p := i) (by omega) (by omega)
    have e2 : nZ S &&& (((1 : Int32) <<< (nZ i &&& 31)) ^^^ (-1)) = nZ (sd S (2 ^ i)) := by
      rw [L31, nZ_and, and31 (by omega), L1, nZ_shl (by omega), Nat.one_shiftLeft]
      exact sd_i
    by_cases c : S.testBit i = true
    · rw [if_pos c] at eb
      have l : sd S (2 ^ i) < 256 := Nat.lt_of_le_of_lt sd_le hS
      rcases f i hi c with ⟨q1, q2⟩ | ⟨q1, q2⟩
      · obtain ⟨v, ev, tv⟩ := c143_2 H d S hS P f m (i + 1) (by omega) (fun j hj w => by
          by_cases cj : j = i
          · rw [cj]
            exact q2
          · exact z j (by omega) w)
        refine ⟨v, ?_, tv⟩
        rw [E143_2, if_pos lt1, eb, if_neg z10, g45_10 H, ob_some, ob_some, e2, A49 H l, ob_some, q1, if_neg z10, ip]
        exact ev
      · refine ⟨nZ 0, ?_, Or.inr ⟨rfl, fun w => q2 (w i hi c)⟩⟩
        rw [E143_2, if_pos lt1, eb, if_neg z10, g45_10 H, ob_some, ob_some, e2, A49 H l, ob_some, q1, if_pos z00, if_pos (by decide)]
        rfl
    · rw [if_neg c] at eb
      obtain ⟨v, ev, tv⟩ := c143_2 H d S hS P f m (i + 1) (by omega) (fun j hj w => by
        by_cases cj : j = i
        · rw [cj] at w
          exact absurd w c
        · exact z j (by omega) w)
      refine ⟨v, ?_, tv⟩
      rw [E143_2, if_pos lt1, eb, if_pos z00, ip]
      exact ev
theorem cp_le {W : Nat → Nat} (w : WI W) {a p : Nat} (ha : a < 5) (hp : p < 8) : cp W a p ≤ 36 := by
  have h1 := w.bh hp
  have h2 := (w.bt ha).2
  unfold cp
  have h3 : W (4 * p + 2) / W (40 + 4 * a) ≤ 12 := Nat.le_trans (Nat.div_le_self _ _) h1
  exact Nat.le_trans (Nat.mul_le_mul h3 h2) (by decide)
theorem c140_6 {h : QH} {W : Nat → Nat} (X : CK h W) (d a E y K S : Nat) (hS : S < 256) (C : spC h W a E) : ∀ m p, p + m = 8 → qbig (d + 1) 140 6 [sR (some 45), sR (some 12), sI (nZ (TM W a E y K)), sI (nZ S), sI (nZ (rm W a E y K S p)), sI (nZ p)] [] h = some (some (qI (nZ (rm W a E y K S 8))), h)
  | 0, p, e => by
    have e' : p = 8 := by omega
    subst e'
    rw [E140_6, if_neg (by decide)]
  | m + 1, p, e => by
    have H := X.1
    have hp : p < 8 := by omega
    have lt1 : nZ p < 8 := by
      rw [L8, nZ_lt (by omega) (by decide)]
      exact hp
    have ip : nZ p + 1 = nZ (p + 1) := by rw [L1, nZ_add]
    have z00 : nZ 0 = (0 : Int32) := rfl
    have z10 : ¬(nZ 1 = (0 : Int32)) := by decide
    have ih := c140_6 X d a E y K S hS C m (p + 1) (by omega)
    have t8 := TM_lt (W := W) (a := a) (E := E) (y := y) (K := K)
    have eb := bit_get (x := TM W a E y K) (p := p) (by omega) (by omega)
    have es : rm W a E y K S (p + 1) = if (TM W a E y K).testBit p = true ∧ W (32 + p) &&& S ≠ 0 then rm W a E y K S p + cp W a p else rm W a E y K S p := rfl
    by_cases c : (TM W a E y K).testBit p = true
    · rw [if_pos c] at eb
      have ll : W (32 + p) &&& S < 256 := Nat.lt_of_le_of_lt Nat.and_le_right hS
      by_cases c2 : W (32 + p) &&& S = 0
      · rw [if_neg (fun z => z.2 c2)] at es
        rw [es] at ih
        have g : nZ (W (32 + p)) &&& nZ S = 0 := by
          rw [nZ_and, c2]
          rfl
        rw [E140_6, if_pos lt1, eb, if_neg z10, ob_some, g12_3 H, ob_some, ob_some, A14 H hp, ob_some, X.me hp, if_pos g, ip]
        exact ih
      · rw [if_pos ⟨c, c2⟩] at es
        rw [es] at ih
        have g : ¬(nZ (W (32 + p)) &&& nZ S = 0) := by
          rw [nZ_and, L0, nZ_eq (by omega) (by decide)]
          exact c2
        rw [E140_6, if_pos lt1, eb, if_neg z10, ob_some, g12_3 H, ob_some, ob_some, A14 H hp, ob_some, X.me hp, if_neg g, g45_8 H, ob_some, ob_some, A47 H hp, ob_some, C.2.2.1 p hp, ip, nZ_add]
        exact ih
    · rw [if_neg c] at eb
      rw [if_neg (fun z => c z.1)] at es
      rw [es] at ih
      rw [E140_6, if_pos lt1, eb, if_pos z00, ip]
      exact ih
theorem rm_le {W : Nat → Nat} (w : WI W) {a E y K S : Nat} (ha : a < 5) : ∀ n, n ≤ 8 → rm W a E y K S n ≤ 36 * n
  | 0, _ => Nat.le_refl 0
  | n + 1, hn => by
    have ih := rm_le w (E := E) (y := y) (K := K) (S := S) ha n (by omega)
    have c := cp_le w ha (p := n) (by omega)
    unfold rm
    split <;> omega

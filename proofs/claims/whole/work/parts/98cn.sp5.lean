/-! the class's spread: made ready -/
def mb (f : Nat → Bool) : Nat → Nat
  | 0 => 0
  | n + 1 => if f n = true then mb f n ||| 2 ^ n else mb f n
theorem mb_lt {f : Nat → Bool} : ∀ n, mb f n < 2 ^ n
  | 0 => Nat.zero_lt_one
  | n + 1 => by
    have ih := mb_lt (f := f) n
    have h1 : 2 ^ n < 2 ^ (n + 1) := Nat.pow_lt_pow_right (by decide) (by omega)
    unfold mb
    split
    · exact Nat.or_lt_two_pow (by omega) h1
    · omega
theorem mb_tb {f : Nat → Bool} {i : Nat} : ∀ n, (mb f n).testBit i = (decide (i < n) && f i)
  | 0 => by
    show Nat.testBit 0 i = _
    rw [Nat.zero_testBit]
    rfl
  | n + 1 => by
    have ih := mb_tb (f := f) (i := i) n
    unfold mb
    by_cases c : f n = true
    · rw [if_pos c, Nat.testBit_or, ih, Nat.testBit_two_pow]
      by_cases e : n = i
      · subst e
        rw [c]
        simp
      · by_cases l : i < n
        · rw [decide_eq_true l, decide_eq_true (show i < n + 1 by omega), decide_eq_false e]
          simp
        · rw [decide_eq_false l, decide_eq_false (show ¬i < n + 1 by omega), decide_eq_false e]
          rfl
    · rw [if_neg c, ih]
      by_cases e : n = i
      · subst e
        have : f n = false := Bool.eq_false_iff.2 c
        rw [this]
        simp
      · by_cases l : i < n
        · rw [decide_eq_true l, decide_eq_true (show i < n + 1 by omega)]
        · rw [decide_eq_false l, decide_eq_false (show ¬i < n + 1 by omega)]
theorem mb_c {f g : Nat → Bool} : ∀ n, (∀ i, i < n → f i = g i) → mb f n = mb g n
  | 0, _ => rfl
  | n + 1, e => by
    unfold mb
    rw [mb_c n (fun i hi => e i (by omega)), e n (by omega)]
theorem mb_8 {f : Nat → Bool} : mb f 8 < 256 := mb_lt 8
theorem bit_set {x p : Nat} (hp : p < 32) : nZ x ||| ((1 : Int32) <<< (nZ p &&& 31)) = nZ (x ||| 2 ^ p) := by
  rw [L31, nZ_and, and31 hp, L1, nZ_shl hp, nZ_or, Nat.one_shiftLeft]
theorem bit_get {x p : Nat} (hx : x < 2147483648) (hp : p < 32) : ((nZ x >>> (nZ p &&& 31)) &&& 1) = nZ (if x.testBit p = true then 1 else 0) := by
  rw [L31, nZ_and, and31 hp, nZ_shr hx hp, L1, nZ_and, bit_eq]
/-- what the class's methods stand on -/
def CK (h : QH) (W : Nat → Nat) : Prop := Sh h ∧ CW h 11 W ∧ WI W
theorem CK.fr {h k : QH} {W : Nat → Nat} (C : CK h W) {cs : Nat → Nat → Bool} (F : Fr cs h k) (e : ∀ b j, 11 ≤ b → b < 26 → cs b j = false) : CK k W := by
  obtain ⟨c1, ⟨p1, p2, p3, p4⟩, c3⟩ := C
  refine ⟨F.Sh c1, ⟨?_, ?_, ?_, ?_⟩, c3⟩
  · exact p1.of fun i j h1 h2 => F.2 _ _ (e _ _ (by omega) (by omega))
  · exact p2.of fun i j h1 h2 => F.2 _ _ (e _ _ (by omega) (by omega))
  · exact p3.of fun i j h1 h2 => F.2 _ _ (e _ _ (by omega) (by omega))
  · exact p4.of fun j => F.2 _ _ (e _ _ (by omega) (by omega))
theorem CK.k71 {h : QH} {W : Nat → Nat} (X : CK h W) (d : Nat) {a f : Nat} (ha : a < 5) (hf : f < 4) : qcl (d + 1) 71 [qR (some 17), qI (nZ a), qI (nZ f)] h = some (some (qI (nZ (W (40 + 4 * a + f)))), h) := by
  have e : hI h 18 (f * 5 + a) = nZ (W (40 + 4 * a + f)) := X.2.1.2.1.2 a f ha hf
  rw [c71 X.1 d a f ha hf, e]
theorem CK.tr {h : QH} {W : Nat → Nat} (X : CK h W) {p f : Nat} (hp : p < 8) (hf : f < 4) : hI h 13 (f * 8 + p) = nZ (W (4 * p + f)) := X.2.1.1.2.2.1 p f hp hf
theorem CK.k88 {h : QH} {W : Nat → Nat} (X : CK h W) (d : Nat) {p f : Nat} (hp : p < 8) (hf : f < 4) : qcl (d + 1) 88 [qR (some 12), qI (nZ p), qI (nZ f)] h = some (some (qI (nZ (W (4 * p + f)))), h) := by
  rw [c88 X.1 d p f hp hf, X.tr hp hf]
theorem CK.k75 {h : QH} {W : Nat → Nat} (X : CK h W) (d : Nat) {p k : Nat} (hp : p < 8) (hk : k < 30) : qcl (d + 2) 75 [qR (some 12), qI (nZ p), qI (nZ k)] h = some (some (qI (bI ((W (4 * p + 3)).testBit k = true))), h) := c75 X.1 d p k _ hp hk (X.tr hp (f := 3) (by decide)) (Nat.lt_of_le_of_lt (X.2.2.1 (4 * p + 3) (by omega) (by omega)) (bnd_big _))
theorem CK.me {h : QH} {W : Nat → Nat} (X : CK h W) {p : Nat} (hp : p < 8) : hI h 14 p = nZ (W (32 + p)) := X.2.1.1.2.2.2.1 p hp
theorem WI.b32 {W : Nat → Nat} (w : WI W) {p : Nat} (hp : p < 8) : W (32 + p) < 256 := by
  have h := w.1 (32 + p) (by omega) (by omega)
  unfold bnd at h
  rw [if_neg (by omega), if_pos (by omega)] at h
  omega
theorem WI.bh {W : Nat → Nat} (w : WI W) {p : Nat} (hp : p < 8) : W (4 * p + 2) ≤ 12 := by
  have h := w.1 (4 * p + 2) (by omega) (by omega)
  unfold bnd at h
  rw [if_pos (by omega), if_neg (by omega), if_pos (by omega)] at h
  exact h
theorem WI.bt {W : Nat → Nat} (w : WI W) {a : Nat} (ha : a < 5) : W (40 + 4 * a) ≤ 6 ∧ W (41 + 4 * a) ≤ 3 := by
  have h := w.1 (40 + 4 * a) (by omega) (by omega)
  have g := w.1 (41 + 4 * a) (by omega) (by omega)
  unfold bnd at h g
  rw [if_neg (by omega), if_neg (by omega), if_pos (by omega), if_pos (by omega)] at h
  rw [if_neg (by omega), if_neg (by omega), if_pos (by omega), if_neg (by omega), if_pos (by omega)] at g
  exact ⟨h, g⟩
def okB (W : Nat → Nat) (a q : Nat) : Bool := decide (W (40 + 4 * a) ≤ W (4 * q + 2))
def prB (W : Nat → Nat) (E y q : Nat) : Bool := E.testBit q && !(W (4 * q + 3)).testBit y
def spC (h : QH) (W : Nat → Nat) (a E : Nat) : Prop := hI h 45 4 = nZ E ∧ hI h 45 5 = nZ (mb (okB W a) 8) ∧ (∀ p, p < 8 → hI h 47 p = nZ (cp W a p)) ∧ ∀ y, y < 30 → hI h 48 y = nZ (mb (prB W E y) 8)
def fSa (b j : Nat) : Bool := (match b with
  | 45 => (match j with | 5 => true | _ => false)
  | 47 => true
  | _ => false)
/-- all that spread may touch -/
def fSp (b j : Nat) : Bool := (match b with
  | 45 => (match j with | 4 => true | 5 => true | 6 => true | 7 => true | _ => false)
  | 47 => true | 48 => true | 49 => true | 50 => true
  | _ => false)
theorem fSa_Sp (b j : Nat) (h : fSa b j = true) : fSp b j = true := by
  unfold fSa at h
  split at h
  · split at h
    · rfl
    · cases h
  · rfl
  · cases h
theorem fSa_n (b j : Nat) (h1 : 11 ≤ b) (h2 : b < 26) : fSa b j = false := by
  unfold fSa
  split <;> first | omega | rfl
theorem fSp_n (b j : Nat) (h1 : 11 ≤ b) (h2 : b < 26) : fSp b j = false := by
  unfold fSp
  split <;> first | omega | rfl
theorem fO_n {c : Nat} (hc : 26 ≤ c) (b j : Nat) (_h1 : 11 ≤ b) (h2 : b < 26) : fO c b j = false := fO_ne (by omega)
theorem c139_28 {W : Nat → Nat} (d a E : Nat) (ha : a < 5) (t1 : 1 ≤ W (40 + 4 * a)) : ∀ m p h, p + m = 8 → CK h W → hI h 45 5 = nZ (mb (okB W a) p) → (∀ j, j < p → hI h 47 j = nZ (cp W a j)) → ∃ k, qbig (d + 3) 139 28 [sR (some 45), sR (some 11), sI (nZ a), sI (nZ E), sI (nZ (W (40 + 4 * a))), sI (nZ p), none] [] h = qbig (d + 3) 139 96 [sR (some 45), sR (some 11), none, sI (nZ E), none, sI (nZ 0), none] [] k ∧ Fr fSa h k ∧ hI k 45 5 = nZ (mb (okB W a) 8) ∧ ∀ j, j < 8 → hI k 47 j = nZ (cp W a j)
  | 0, p, h, e, X, z, v => by
    have e' : p = 8 := by omega
    subst e'
    refine ⟨h, ?_, Fr.refl, z, v⟩
    rw [E139_28, if_neg (by decide)]
    rfl
  | m + 1, p, h, e, X, z, v => by
    have H := X.1
    have w := X.2.2
    have hp : p < 8 := by omega
    have bh := w.bh hp
    have bt := w.bt ha
    have lt1 : nZ p < 8 := by
      rw [L8, nZ_lt (by omega) (by decide)]
      exact hp
    have ip : nZ p + 1 = nZ (p + 1) := by rw [L1, nZ_add]
    have e88 : qcl (d + 2) 88 [qR (some 12), qI (nZ p), qI 2] h = some (some (qI (nZ (W (4 * p + 2)))), h) := X.k88 (d + 1) (p := p) (f := 2) hp (by decide)
    have e71 : qcl (d + 2) 71 [qR (some 17), qI (nZ a), qI 1] h = some (some (qI (nZ (W (41 + 4 * a)))), h) := by
      rw [show 41 + 4 * a = 40 + 4 * a + 1 by omega]
      exact X.k71 (d + 1) (a := a) (f := 1) ha (by decide)
    have n0 : ¬(nZ (W (40 + 4 * a)) = (0 : Int32)) := by
      rw [L0, nZ_eq (by omega) (by decide)]
      omega
    have ed : nZ (W (4 * p + 2)) / nZ (W (40 + 4 * a)) = nZ (W (4 * p + 2) / W (40 + 4 * a)) := nZ_div (by omega) (by omega)
    have bd : W (4 * p + 2) / W (40 + 4 * a) ≤ W (4 * p + 2) := Nat.div_le_self _ _
    have em : nZ (W (4 * p + 2) / W (40 + 4 * a)) * nZ (W (41 + 4 * a)) = nZ (cp W a p) := by
      rw [nZ_mul]
      rfl
    have H1 : Sh (hsI h 47 p (nZ (cp W a p))) := H
    have F1 : Fr fSa h (hsI h 47 p (nZ (cp W a p))) := Fr.si rfl Fr.refl
    have v1 : ∀ j, j < p + 1 → hI (hsI h 47 p (nZ (cp W a p))) 47 j = nZ (cp W a j) := fun j hj => by
      by_cases c : j = p
      · rw [c, hI_at rfl]
      · rw [hI_ne (by omega)]
        exact v j (by omega)
    have z1 : hI (hsI h 47 p (nZ (cp W a p))) 45 5 = nZ (mb (okB W a) p) := by
      rw [hI_ne (by omega)]
      exact z
    by_cases c : W (40 + 4 * a) ≤ W (4 * p + 2)
    · have g : (0 : Int32) < nZ (W (4 * p + 2) / W (40 + 4 * a)) := by
        rw [L0, nZ_lt (by decide) (by omega)]
        exact Nat.div_pos c t1
      have em2 : mb (okB W a) (p + 1) = mb (okB W a) p ||| 2 ^ p := by
        show (if okB W a p = true then _ else _) = _
        rw [if_pos (show okB W a p = true from decide_eq_true c)]
      have F2 : Fr fSa h (hsI (hsI h 47 p (nZ (cp W a p))) 45 5 (nZ (mb (okB W a) (p + 1)))) := Fr.si rfl F1
      obtain ⟨k, ek, Fk, zk, vk⟩ := c139_28 d a E ha t1 m (p + 1) (hsI (hsI h 47 p (nZ (cp W a p))) 45 5 (nZ (mb (okB W a) (p + 1)))) (by omega) (X.fr F2 fSa_n) (hI_at rfl) (fun j hj => by
        rw [hI_ne (by omega)]
        exact v1 j hj)
      refine ⟨k, ?_, F2.trans Fk, zk, vk⟩
      rw [E139_28, if_pos lt1, ob_some, g11_0 H, ob_some, e88, jI, if_neg n0, g45_8 H, ob_some, ob_some, g11_1 H, ob_some, e71, jI, ob_some, ed, em, S47 H hp, ob_some, if_pos g, g45_5 H1, ob_some, z1, bit_set (by omega), ← em2, p45_5 H1, ob_some, ip]
      exact ek
    · have g : ¬((0 : Int32) < nZ (W (4 * p + 2) / W (40 + 4 * a))) := by
        rw [L0, nZ_lt (by decide) (by omega), Nat.div_eq_of_lt (by omega)]
        decide
      have em2 : mb (okB W a) (p + 1) = mb (okB W a) p := by
        show (if okB W a p = true then _ else _) = _
        rw [if_neg (by unfold okB; rw [decide_eq_false c]; decide)]
      obtain ⟨k, ek, Fk, zk, vk⟩ := c139_28 d a E ha t1 m (p + 1) (hsI h 47 p (nZ (cp W a p))) (by omega) (X.fr F1 fSa_n) (by rw [em2]; exact z1) v1
      refine ⟨k, ?_, F1.trans Fk, zk, vk⟩
      rw [E139_28, if_pos lt1, ob_some, g11_0 H, ob_some, e88, jI, if_neg n0, g45_8 H, ob_some, ob_some, g11_1 H, ob_some, e71, jI, ob_some, ed, em, S47 H hp, ob_some, if_neg g, ip]
      exact ek
theorem c139_114 {W : Nat → Nat} (d E y : Nat) (hE : E < 256) (hy : y < 30) : ∀ m q h, q + m = 8 → CK h W → hI h 48 y = nZ (mb (prB W E y) q) → ∃ k, qbig (d + 3) 139 114 [sR (some 45), sR (some 11), none, sI (nZ E), none, sI (nZ y), sI (nZ q)] [] h = qbig (d + 3) 139 96 [sR (some 45), sR (some 11), none, sI (nZ E), none, sI (nZ (y + 1)), none] [] k ∧ Fr (fO 48) h k ∧ (∀ j, j ≠ y → hI k 48 j = hI h 48 j) ∧ hI k 48 y = nZ (mb (prB W E y) 8)
  | 0, q, h, e, X, z => by
    have e' : q = 8 := by omega
    subst e'
    have ip : nZ y + 1 = nZ (y + 1) := by rw [L1, nZ_add]
    refine ⟨h, ?_, Fr.refl, fun _ _ => rfl, z⟩
    rw [E139_114, if_neg (by decide), ip]
  | m + 1, q, h, e, X, z => by
    have H := X.1
    have hq : q < 8 := by omega
    have lt1 : nZ q < 8 := by
      rw [L8, nZ_lt (by omega) (by decide)]
      exact hq
    have ip : nZ q + 1 = nZ (q + 1) := by rw [L1, nZ_add]
    have z00 : nZ 0 = (0 : Int32) := rfl
    have z10 : ¬(nZ 1 = (0 : Int32)) := by decide
    have eb := bit_get (x := E) (p := q) (by omega) (by omega)
    have es : mb (prB W E y) (q + 1) = if prB W E y q = true then mb (prB W E y) q ||| 2 ^ q else mb (prB W E y) q := rfl
    by_cases c1' : E.testBit q = true
    · rw [if_pos c1'] at eb
      have e75 := X.k75 d (p := q) (k := y) hq hy
      by_cases c2' : (W (4 * q + 3)).testBit y = true
      · rw [bI_t c2'] at e75
        have n : ¬(prB W E y q = true) := by
          unfold prB
          rw [c2', Bool.not_true, Bool.and_false]
          decide
        rw [if_neg n] at es
        obtain ⟨k, ek, Fk, ok, vk⟩ := c139_114 d E y hE hy m (q + 1) h (by omega) X (by rw [es]; exact z)
        refine ⟨k, ?_, Fk, ok, vk⟩
        rw [E139_114, if_pos lt1, eb, if_neg z10, ob_some, g11_0 H, ob_some, e75, jI, if_neg z10, ip]
        exact ek
      · rw [bI_f c2'] at e75
        have n : prB W E y q = true := by
          unfold prB
          rw [c1', Bool.eq_false_iff.2 c2']
          rfl
        rw [if_pos n] at es
        have F1 : Fr (fO 48) h (hsI h 48 y (nZ (mb (prB W E y) (q + 1)))) := Fr.si rfl Fr.refl
        obtain ⟨k, ek, Fk, ok, vk⟩ := c139_114 d E y hE hy m (q + 1) (hsI h 48 y (nZ (mb (prB W E y) (q + 1)))) (by omega) (X.fr F1 (fO_n (by decide))) (hI_at rfl)
        refine ⟨k, ?_, F1.trans Fk, fun j hj => ?_, vk⟩
        · rw [E139_114, if_pos lt1, eb, if_neg z10, ob_some, g11_0 H, ob_some, e75, jI, if_pos z00, g45_9 H, ob_some, ob_some, A48 H hy, ob_some, z, ob_some, bit_set (by omega), ← es, S48 H hy, ob_some, ip]
          exact ek
        · rw [ok j hj, hI_ne (Or.inr hj)]
    · rw [if_neg c1'] at eb
      have n : ¬(prB W E y q = true) := by
        unfold prB
        rw [Bool.eq_false_iff.2 c1', Bool.false_and]
        decide
      rw [if_neg n] at es
      obtain ⟨k, ek, Fk, ok, vk⟩ := c139_114 d E y hE hy m (q + 1) h (by omega) X (by rw [es]; exact z)
      refine ⟨k, ?_, Fk, ok, vk⟩
      rw [E139_114, if_pos lt1, eb, if_pos z00, ip]
      exact ek
theorem c139_96 {W : Nat → Nat} (d E : Nat) (hE : E < 256) : ∀ m y h, y + m = 30 → CK h W → (∀ j, j < y → hI h 48 j = nZ (mb (prB W E j) 8)) → ∃ k, qbig (d + 3) 139 96 [sR (some 45), sR (some 11), none, sI (nZ E), none, sI (nZ y), none] [] h = some (none, k) ∧ Fr (fO 48) h k ∧ ∀ j, j < 30 → hI k 48 j = nZ (mb (prB W E j) 8)
  | 0, y, h, e, X, z => by
    have e' : y = 30 := by omega
    subst e'
    refine ⟨h, ?_, Fr.refl, z⟩
    rw [E139_96, if_neg (by decide)]
  | m + 1, y, h, e, X, z => by
    have H := X.1
    have lt1 : nZ y < 30 := by
      rw [L30, nZ_lt (by omega) (by decide)]
      omega
    have F1 : Fr (fO 48) h (hsI h 48 y (nZ 0)) := Fr.si rfl Fr.refl
    obtain ⟨k, ek, Fk, ok, vk⟩ := c139_114 (W := W) d E y hE (by omega) 8 0 (hsI h 48 y (nZ 0)) (by decide) (X.fr F1 (fO_n (by decide))) (hI_at rfl)
    have F2 := F1.trans Fk
    obtain ⟨k2, ek2, Fk2, vk2⟩ := c139_96 d E hE m (y + 1) k (by omega) (X.fr F2 (fO_n (by decide))) (fun j hj => by
      by_cases c : j = y
      · rw [c]
        exact vk
      · rw [ok j c, hI_ne (Or.inr c)]
        exact z j (by omega))
    refine ⟨k2, ?_, F2.trans Fk2, vk2⟩
    rw [E139_96, if_pos lt1, g45_9 H, ob_some, ob_some, L0, S48 H (by omega), ob_some]
    exact ek.trans ek2
theorem c139 {h : QH} {W : Nat → Nat} (X : CK h W) (d a E : Nat) (ha : a < W 409) (hE : E < 256) : ∃ k, qcl (d + 3) 139 [qR (some 45), qR (some 11), qI (nZ a), qI (nZ E)] h = some (none, k) ∧ Fr fSp h k ∧ spC k W a E := by
  have H := X.1
  have w := X.2.2
  have n5 : W 409 ≤ 5 := w.1 409 (by decide) (by decide)
  have t1 := w.2.2.1 a ha
  have bt := w.bt (a := a) (by omega)
  have H1 : Sh (hsI h 45 4 (nZ E)) := H
  have F2 : Fr fSp h (hsI (hsI h 45 4 (nZ E)) 45 5 (nZ 0)) := Fr.si rfl (Fr.si rfl Fr.refl)
  have X2 := X.fr F2 fSp_n
  have H2 := X2.1
  have e71 : qcl (d + 2) 71 [qR (some 17), qI (nZ a), qI (nZ 0)] (hsI (hsI h 45 4 (nZ E)) 45 5 (nZ 0)) = some (some (qI (nZ (W (40 + 4 * a)))), (hsI (hsI h 45 4 (nZ E)) 45 5 (nZ 0))) := X2.k71 (d + 1) (a := a) (f := 0) (by omega) (by decide)
  have nl : ¬(nZ (W (40 + 4 * a)) < 1) := by
    rw [L1, nZ_lt (by omega) (by decide)]
    omega
  have q4 : hI (hsI (hsI h 45 4 (nZ E)) 45 5 (nZ 0)) 45 4 = nZ E := by
    rw [hI_ne (by omega), hI_at rfl]
  have q5 : hI (hsI (hsI h 45 4 (nZ E)) 45 5 (nZ 0)) 45 5 = nZ (mb (okB W a) 0) := hI_at rfl
  obtain ⟨k, ek, Fk, z5, z47⟩ := c139_28 d a E (by omega) t1 8 0 (hsI (hsI h 45 4 (nZ E)) 45 5 (nZ 0)) (by decide) X2 q5 (fun j hj => by omega)
  have X3 := X2.fr Fk fSa_n
  obtain ⟨k2, ek2, Fk2, z48⟩ := c139_96 d E hE 30 0 k (by decide) X3 (fun j hj => by omega)
  refine ⟨k2, ?_, (F2.trans (Fk.mono fSa_Sp)).trans (Fk2.mono (fun b j z => by rw [fO_eq z]; rfl)), ?_, ?_, ?_, z48⟩
  · rw [E139, ck45 H, ob_some, p45_4 H, ob_some, L0, p45_5 H1, ob_some, ob_some, g11_1 H2, ob_some, e71, jI, if_neg nl]
    exact ek.trans ek2
  · rw [Fk2.2 45 4 rfl, Fk.2 45 4 rfl]
    exact q4
  · rw [Fk2.2 45 5 rfl]
    exact z5
  · intro p hp
    rw [Fk2.2 47 p rfl]
    exact z47 p hp

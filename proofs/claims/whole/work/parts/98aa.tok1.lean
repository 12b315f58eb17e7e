/-! ===== tokens ===== -/
def rnF (T : Nat → Nat) (n : Nat) (p : Nat → Bool) : Nat → Nat → Nat
  | 0, i => i
  | f + 1, i => if i < n ∧ p (T i) = true then rnF T n p f (i + 1) else i
/-- the first place from i on where p does not hold -/
def rn (T : Nat → Nat) (n : Nat) (p : Nat → Bool) (i : Nat) : Nat := rnF T n p (n - i) i
theorem rn_eq {T : Nat → Nat} {n : Nat} {p : Nat → Bool} (i : Nat) : rn T n p i = if i < n ∧ p (T i) = true then rn T n p (i + 1) else i := by
  unfold rn
  by_cases h : i < n
  · obtain ⟨f, hf⟩ : ∃ f, n - i = f + 1 := ⟨n - i - 1, by omega⟩
    have h2 : n - (i + 1) = f := by omega
    rw [hf, h2]
    rfl
  · have h0 : n - i = 0 := by omega
    rw [h0, if_neg (fun z => h z.1)]
    rfl
theorem rn_t {T : Nat → Nat} {n : Nat} {p : Nat → Bool} {i : Nat} (h1 : i < n) (h2 : p (T i) = true) : rn T n p i = rn T n p (i + 1) := by
  rw [rn_eq i, if_pos ⟨h1, h2⟩]
theorem rn_f {T : Nat → Nat} {n : Nat} {p : Nat → Bool} {i : Nat} (h : i < n → p (T i) = false) : rn T n p i = i := by
  rw [rn_eq i, if_neg]
  intro hz
  have h3 := h hz.1
  rw [hz.2] at h3
  cases h3
theorem rn_b {T : Nat → Nat} {n : Nat} {p : Nat → Bool} : ∀ m i, n - i = m → i ≤ n → i ≤ rn T n p i ∧ rn T n p i ≤ n ∧ (rn T n p i < n → p (T (rn T n p i)) = false) := by
  intro m
  induction m with
  | zero =>
    intro i hm hi
    have hin : i = n := by omega
    rw [rn_f (fun hh => absurd hh (by omega))]
    exact ⟨Nat.le_refl _, hi, fun hh => absurd hh (by omega)⟩
  | succ m ih =>
    intro i hm hi
    cases hp : p (T i) with
    | false =>
      rw [rn_f (fun _ => hp)]
      exact ⟨Nat.le_refl _, hi, fun _ => hp⟩
    | true =>
      rw [rn_t (by omega) hp]
      obtain ⟨h1, h2, h3⟩ := ih (i + 1) (by omega) (by omega)
      exact ⟨by omega, h2, h3⟩
def isB (b : Nat) : Bool := decide (b = 32)
def isS (b : Nat) : Bool := decide (97 ≤ b ∧ b ≤ 122)
def isD (b : Nat) : Bool := decide (48 ≤ b ∧ b ≤ 57)
theorem isS_D {b : Nat} (h : isS b = true) : isD b = false := by
  unfold isS at h
  unfold isD
  simp at h ⊢
  omega
/-- the end of the token that begins at i -/
def te (T : Nat → Nat) (n i : Nat) : Nat := if isS (T i) = true then rn T n isS (i + 1) else if isD (T i) = true then rn T n isD (i + 1) else i + 1
/-- where the k-th token begins -/
def ts (T : Nat → Nat) (n : Nat) : Nat → Nat
  | 0 => rn T n isB 0
  | k + 1 => if ts T n k < n then rn T n isB (te T n (ts T n k)) else ts T n k
theorem te_b {T : Nat → Nat} {n i : Nat} (h : i < n) : i + 1 ≤ te T n i ∧ te T n i ≤ n := by
  unfold te
  split
  · obtain ⟨h1, h2, _⟩ := rn_b (T := T) (n := n) (p := isS) _ (i + 1) rfl (by omega)
    exact ⟨h1, h2⟩
  · split
    · obtain ⟨h1, h2, _⟩ := rn_b (T := T) (n := n) (p := isD) _ (i + 1) rfl (by omega)
      exact ⟨h1, h2⟩
    · exact ⟨Nat.le_refl _, h⟩
theorem ts_b {T : Nat → Nat} {n : Nat} : ∀ k, ts T n k ≤ n ∧ (ts T n k < n → k ≤ ts T n k ∧ isB (T (ts T n k)) = false)
  | 0 => by
    obtain ⟨h1, h2, h3⟩ := rn_b (T := T) (n := n) (p := isB) _ 0 rfl (by omega)
    exact ⟨h2, fun hh => ⟨Nat.zero_le _, h3 hh⟩⟩
  | k + 1 => by
    obtain ⟨g1, g2⟩ := ts_b (T := T) (n := n) k
    show (if ts T n k < n then rn T n isB (te T n (ts T n k)) else ts T n k) ≤ n ∧ ((if ts T n k < n then rn T n isB (te T n (ts T n k)) else ts T n k) < n → _ ≤ (if ts T n k < n then rn T n isB (te T n (ts T n k)) else ts T n k) ∧ isB (T (if ts T n k < n then rn T n isB (te T n (ts T n k)) else ts T n k)) = false)
    by_cases c1 : ts T n k < n
    · rw [if_pos c1]
      obtain ⟨b1, b2⟩ := te_b (T := T) c1
      obtain ⟨h1, h2, h3⟩ := rn_b (T := T) (n := n) (p := isB) _ (te T n (ts T n k)) rfl b2
      have := (g2 c1).1
      exact ⟨h2, fun hh => ⟨by omega, h3 hh⟩⟩
    · rw [if_neg c1]
      exact ⟨g1, fun hh => absurd hh c1⟩
/-! words -/
def Wb (j : Nat) : Nat := ([108, 101, 97, 114, 110, 116, 32, 116, 97, 107, 101, 115, 32, 119, 114, 111, 110, 103, 32, 114, 101, 102, 117, 115, 101, 115, 32, 105, 102, 32, 111, 114, 32, 97, 110, 100, 32, 110, 111, 116, 32, 107, 110, 111, 119, 115, 32, 104, 97, 115, 32, 116, 101, 108, 108, 32, 108, 101, 97, 114, 110, 32, 97, 114, 116, 32, 100, 97, 121, 32, 116, 101, 108, 108, 101, 114, 32, 108, 101, 97, 114, 110, 101, 114, 32, 111, 110, 99, 101, 32] : List Nat).getD j 0
def wS (k : Nat) : Nat := ([0, 7, 13, 19, 27, 30, 33, 37, 41, 47, 51, 56, 62, 66, 70, 77, 85, 90] : List Nat).getD k 90
def wL (k : Nat) : Nat := wS (k + 1) - 1 - wS k
theorem Wb_facts : ∀ k, k < 17 → (wS k + wL k + 1 = wS (k + 1) ∧ wS (k + 1) ≤ 90 ∧ 1 ≤ wL k ∧ wL k ≤ 7) ∧ Wb (wS k + wL k) = 32 ∧ ∀ j, j < 8 → j < wL k → Wb (wS k + j) ≠ 32 := by decide +kernel
theorem Wb_lt : ∀ j, j < 90 → Wb j < 128 := by decide +kernel
def mt (T : Nat → Nat) (i e k : Nat) : Prop := wL k = e - i ∧ ∀ j, j < wL k → Wb (wS k + j) = T (i + j)
def mtB (T : Nat → Nat) (i e k : Nat) : Bool := decide (wL k = e - i) && (List.range (wL k)).all fun j => Wb (wS k + j) == T (i + j)
theorem mtB_iff {T : Nat → Nat} {i e k : Nat} : mtB T i e k = true ↔ mt T i e k := by
  unfold mtB mt
  rw [Bool.and_eq_true, List.all_eq_true]
  constructor
  · intro hh
    refine ⟨of_decide_eq_true hh.1, fun j hj => ?_⟩
    have := hh.2 j (List.mem_range.2 hj)
    exact eq_of_beq this
  · intro hh
    refine ⟨decide_eq_true hh.1, fun j hj => ?_⟩
    exact beq_iff_eq.2 (hh.2 j (List.mem_range.1 hj))
def wdF (T : Nat → Nat) (i e : Nat) : Nat → Nat → Nat
  | 0, _ => 0
  | f + 1, k => if mtB T i e k = true then k + 1 else wdF T i e f (k + 1)
def word (T : Nat → Nat) (i e : Nat) : Nat := wdF T i e 17 0
theorem wdF_le {T : Nat → Nat} {i e : Nat} : ∀ f k, wdF T i e f k ≤ f + k
  | 0, k => Nat.zero_le _
  | f + 1, k => by
    show (if mtB T i e k = true then k + 1 else wdF T i e f (k + 1)) ≤ f + 1 + k
    split
    · omega
    · have := wdF_le (T := T) (i := i) (e := e) f (k + 1)
      omega
/-! numbers -/
def nvF (T : Nat → Nat) : Nat → Nat → Nat → Nat
  | 0, _, v => v
  | f + 1, i, v => nvF T f (i + 1) (if 1000000 < v then v else 10 * v + (T i - 48))
/-- code and value of the token that begins at i -/
def cdT (T : Nat → Nat) (n i : Nat) : Nat := if isS (T i) = true then word T i (te T n i) else if isD (T i) = true then 50 else 100 + T i
def vlT (T : Nat → Nat) (n i : Nat) : Nat := if isD (T i) = true then nvF T (te T n i - i) i 0 else 0
/-! bytes with signs -/
theorem sB_32 : ∀ t, t < 256 → decide (sB t = nZ 32) = decide (t = 32) := by decide +kernel
theorem sB_97 : ∀ t, t < 256 → decide (sB t < nZ 97) = decide (t < 97 ∨ 128 ≤ t) := by decide +kernel
theorem sB_122 : ∀ t, t < 256 → decide (nZ 122 < sB t) = decide (122 < t ∧ t < 128) := by decide +kernel
theorem sB_48 : ∀ t, t < 256 → decide (sB t < nZ 48) = decide (t < 48 ∨ 128 ≤ t) := by decide +kernel
theorem sB_57 : ∀ t, t < 256 → decide (nZ 57 < sB t) = decide (57 < t ∧ t < 128) := by decide +kernel
theorem sB_255 : ∀ t, t < 256 → sB t &&& nZ 255 = nZ t := by decide +kernel
theorem sB_low {t : Nat} (h : t < 128) : sB t = nZ t := if_pos h
theorem dec_iff {p q : Prop} [Decidable p] [Decidable q] (h : decide p = decide q) : p = q := by
  apply propext
  constructor
  · intro hp
    exact of_decide_eq_true (h ▸ decide_eq_true hp)
  · intro hq
    exact of_decide_eq_true (h.symm ▸ decide_eq_true hq)
theorem sB_eq {b t : Nat} (hb : b < 128) (ht : t < 256) : (nZ b = sB t) = (b = t) := by
  unfold sB
  by_cases c1 : t < 128
  · rw [if_pos c1, nZ_eq (by omega) (by omega)]
  · rw [if_neg c1]
    apply propext
    constructor
    · intro e
      exfalso
      have e2 := congrArg Int32.toInt e
      rw [nZ_int (by omega)] at e2
      have e3 : (nZ t - nZ 256).toInt = (t : Int) - 256 := by
        rw [← iZ_nat t, ← iZ_nat 256]
        show (Int32.ofInt t - Int32.ofInt 256).toInt = _
        rw [← Int32.ofInt_sub]
        exact Int32.toInt_ofInt_of_le (by omega) (by omega)
      rw [e3] at e2
      omega
    · intro e
      omega
theorem m208 (d t : Nat) (h : QH) (ht : t < 256) : qcl (d + 1) 208 [qI (sB t)] h = some (some (qI (bI (isS t = true))), h) := by
  have e1 := dec_iff (sB_97 t ht)
  have e2 := dec_iff (sB_122 t ht)
  rw [E208, L97, L122, L0, L1, rI0, rI1]
  simp only [e1, e2]
  unfold isS
  by_cases c1 : t < 97 ∨ 128 ≤ t
  · rw [if_pos c1, bI_f (by simp; omega)]
  · rw [if_neg c1]
    by_cases c2 : 122 < t ∧ t < 128
    · rw [if_pos c2, bI_f (by simp; omega)]
    · rw [if_neg c2, bI_t (by simp; omega)]
theorem m202 (d t : Nat) (h : QH) (ht : t < 256) : qcl (d + 1) 202 [qI (sB t)] h = some (some (qI (bI (isD t = true))), h) := by
  have e1 := dec_iff (sB_48 t ht)
  have e2 := dec_iff (sB_57 t ht)
  rw [E202, L48, L57, L0, L1, rI0, rI1]
  simp only [e1, e2]
  unfold isD
  by_cases c1 : t < 48 ∨ 128 ≤ t
  · rw [if_pos c1, bI_f (by simp; omega)]
  · rw [if_neg c1]
    by_cases c2 : 57 < t ∧ t < 128
    · rw [if_pos c2, bI_f (by simp; omega)]
    · rw [if_neg c2, bI_t (by simp; omega)]

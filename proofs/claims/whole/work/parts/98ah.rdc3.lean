/-! ===== the class's reader ===== -/
theorem kdC_lt : ∀ c, c < 400 → kdC c < 31 := by decide +kernel
theorem kdC_ws : ∀ c, c < 400 → decide (8 ≤ kdC c ∧ kdC c ≤ 16) = decide (9 ≤ c ∧ c ≤ 17) := by decide +kernel
theorem kdC_wv : ∀ c, c < 400 → 9 ≤ c ∧ c ≤ 17 → kdC c = c - 1 := by decide +kernel
theorem cdT_lt {T : Nat → Nat} {n i : Nat} (hi : T i < 256) : cdT T n i < 400 := by
  unfold cdT word
  split
  · have := wdF_le (T := T) (i := i) (e := te T n i) 17 0
    omega
  · split <;> omega
/-- so many tokens -/
def NN (T : Nat → Nat) (n N : Nat) : Prop := N ≤ n ∧ ts T n N = n ∧ ∀ k, k < N → ts T n k < n
abbrev CT (T : Nat → Nat) (n : Nat) : Nat → Nat := fun k => cdT T n (ts T n k)
abbrev VT (T : Nat → Nat) (n : Nat) : Nat → Nat := fun k => vlT T n (ts T n k)
theorem kdT_at {T : Nat → Nat} {n N k : Nat} (w : NN T n N) (hk : k ≤ N) : kdT T n k = if k < N then kdC (CT T n k) else 31 := by
  unfold kdT
  by_cases c : k < N
  · rw [if_pos (w.2.2 k c), if_pos c]
  · have : k = N := by omega
    rw [this, w.2.1, if_neg (by omega), if_neg (by omega)]
theorem kdT_lt {T : Nat → Nat} {n N k : Nat} (w : NN T n N) (hT : ∀ i, i < n → T i < 256) (hk : k ≤ N) : kdT T n k < 32 := by
  rw [kdT_at w hk]
  split
  · rename_i c
    have : kdC (CT T n k) < 31 := kdC_lt _ (cdT_lt (hT _ (w.2.2 k c)) (n := n))
    omega
  · decide
theorem kdT_iff {T : Nat → Nat} {n N k c kd : Nat} (w : NN T n N) (hT : ∀ i, i < n → T i < 256) (hk : k ≤ N) (hd : ∀ x, x < 400 → decide (kdC x = kd) = decide (x = c)) (h1 : kd < 31) (hc : c ≠ 0) : (kdT T n k = kd) = (cAt (CT T n) N k = c) := by
  rw [kdT_at w hk]
  unfold cAt
  by_cases c1 : k < N
  · rw [if_pos c1, if_pos c1]
    exact dec_iff (hd _ (cdT_lt (hT _ (w.2.2 k c1))))
  · rw [if_neg c1, if_neg c1]
    apply propext
    constructor <;> intro e <;> omega
theorem kdT_w {T : Nat → Nat} {n N k : Nat} (w : NN T n N) (hT : ∀ i, i < n → T i < 256) (hk : k ≤ N) : (8 ≤ kdT T n k ∧ kdT T n k ≤ 16) = (9 ≤ cAt (CT T n) N k ∧ cAt (CT T n) N k ≤ 17) := by
  rw [kdT_at w hk]
  unfold cAt
  by_cases c1 : k < N
  · rw [if_pos c1, if_pos c1]
    exact dec_iff (kdC_ws _ (cdT_lt (hT _ (w.2.2 k c1))))
  · rw [if_neg c1, if_neg c1]
    apply propext
    constructor <;> intro e <;> omega
theorem kq0 : ∀ x, x < 400 → decide (kdC x = 0) = decide (x = 1) := by decide +kernel
theorem kq1 : ∀ x, x < 400 → decide (kdC x = 1) = decide (x = 2) := by decide +kernel
theorem kq2 : ∀ x, x < 400 → decide (kdC x = 2) = decide (x = 3) := by decide +kernel
theorem kq3 : ∀ x, x < 400 → decide (kdC x = 3) = decide (x = 4) := by decide +kernel
theorem kq4 : ∀ x, x < 400 → decide (kdC x = 4) = decide (x = 5) := by decide +kernel
theorem kq5 : ∀ x, x < 400 → decide (kdC x = 5) = decide (x = 6) := by decide +kernel
theorem kq6 : ∀ x, x < 400 → decide (kdC x = 6) = decide (x = 7) := by decide +kernel
theorem kq7 : ∀ x, x < 400 → decide (kdC x = 7) = decide (x = 8) := by decide +kernel
theorem kq17 : ∀ x, x < 400 → decide (kdC x = 17) = decide (x = 50) := by decide +kernel
theorem kq18 : ∀ x, x < 400 → decide (kdC x = 18) = decide (x = 159) := by decide +kernel
theorem kq19 : ∀ x, x < 400 → decide (kdC x = 19) = decide (x = 140) := by decide +kernel
theorem kq20 : ∀ x, x < 400 → decide (kdC x = 20) = decide (x = 141) := by decide +kernel
theorem kq21 : ∀ x, x < 400 → decide (kdC x = 21) = decide (x = 191) := by decide +kernel
theorem kq22 : ∀ x, x < 400 → decide (kdC x = 22) = decide (x = 193) := by decide +kernel
theorem kq23 : ∀ x, x < 400 → decide (kdC x = 23) = decide (x = 160) := by decide +kernel
theorem kq24 : ∀ x, x < 400 → decide (kdC x = 24) = decide (x = 162) := by decide +kernel
theorem kq25 : ∀ x, x < 400 → decide (kdC x = 25) = decide (x = 161) := by decide +kernel
theorem kq26 : ∀ x, x < 400 → decide (kdC x = 26) = decide (x = 143) := by decide +kernel
theorem kq27 : ∀ x, x < 400 → decide (kdC x = 27) = decide (x = 145) := by decide +kernel
theorem kq28 : ∀ x, x < 400 → decide (kdC x = 28) = decide (x = 142) := by decide +kernel
theorem kq29 : ∀ x, x < 400 → decide (kdC x = 29) = decide (x = 147) := by decide +kernel
/-- steps written -/
def AtI (S : Nat → Int32) : Nat → List Nat → Prop
  | _, [] => True
  | z, c :: cs => S z = nZ c ∧ AtI S (z + 1) cs
theorem AtI_app {S : Nat → Int32} : ∀ (a b : List Nat) (z : Nat), AtI S z a → AtI S (z + a.length) b → AtI S z (a ++ b)
  | [], b, z, _, h => h
  | x :: a, b, z, h1, h2 => by
    refine ⟨h1.1, AtI_app a b (z + 1) h1.2 ?_⟩
    rw [List.length_cons] at h2
    rw [show z + 1 + a.length = z + (a.length + 1) by omega]
    exact h2
theorem AtI_congr {S R : Nat → Int32} : ∀ (a : List Nat) (z : Nat), (∀ j, z ≤ j → j < z + a.length → R j = S j) → AtI S z a → AtI R z a
  | [], z, _, _ => trivial
  | x :: a, z, hh, h => by
    rw [List.length_cons] at hh
    refine ⟨(hh z (Nat.le_refl _) (by omega)).trans h.1, AtI_congr a (z + 1) (fun j h1 h2 => hh j (by omega) (by omega)) h.2⟩
theorem or_shl (a b : Nat) (ha : a < 32) : a ||| b <<< 5 = a + 32 * b := by
  have := Nat.shiftLeft_add_eq_or_of_lt (i := 5) (show a < 2 ^ 5 by omega) b
  rw [Nat.or_comm, ← this, Nat.shiftLeft_eq]
  omega
theorem L412x : (412 : Int32) = nZ 412 := rfl
theorem c111 {h : QH} (H : Sh h) (d a b z : Nat) (F S : Nat → Int32) (ha : a < 32) (hb : b < 2000) (f9 : F 9 = nZ z) (hz : z < 412) : qcl (d + 1) 111 [qR (some 29), qI (nZ a), qI (nZ b)] (st2' h F S) = some (none, st2' h (upS F 9 (nZ (z + 1))) (upS S z (nZ (a + 32 * b)))) := by
  have e := or_shl a b ha
  have k5 : 5 &&& 31 = 5 := by decide
  simp (disch := first | assumption | omega | (simp only [Sh_si, Sh_sA, Sh_s2]; assumption)) only [E111, s2_29, f9, s2_s35, s2_s29, e, k5, A0, l0, A1, l1, A2, l2, A3, l3, A4, l4, A7, l7, A8, l8, g10_0, g10_1, g10_2, g10_3, g10_4, g10_5, g10_6, g10_7, g10_8, g10_9, p10_10, g10_10, p10_11, g10_11, p10_12, g10_12, p10_13, g10_13, ck10, g11_0, g11_1, g11_2, g11_3, p11_4, g11_4, p11_5, g11_5, ck11, p12_0, g12_0, p12_1, g12_1, g12_2, g12_3, g12_4, g12_5, ck12, A13, S13, l13, A14, S14, l14, A15, S15, l15, A16, S16, l16, p17_0, g17_0, g17_1, ck17, A18, S18, l18, p19_0, g19_0, g19_1, g19_2, g19_3, g19_4, g19_5, ck19, A20, S20, l20, A21, S21, l21, A22, S22, l22, A23, S23, l23, A24, S24, l24, R25, R26, p27_0, g27_0, g27_1, ck27, A28, S28, l28, p29_0, g29_0, g29_1, p29_2, g29_2, p29_3, g29_3, p29_4, g29_4, p29_5, g29_5, p29_6, g29_6, p29_7, g29_7, p29_8, g29_8, p29_9, g29_9, g29_10, g29_11, g29_12, g29_13, g29_14, ck29, A30, S30, l30, A31, S31, l31, A32, S32, l32, A33, S33, l33, A34, S34, l34, A35, S35, l35, g36_0, g36_1, g36_2, ck36, A37, S37, l37, A38, S38, l38, A39, S39, l39, g40_0, g40_1, g40_2, g40_3, p40_4, g40_4, ck40, A41, S41, l41, A42, S42, l42, A43, S43, l43, A44, S44, l44, p45_0, g45_0, g45_1, p45_2, g45_2, p45_3, g45_3, p45_4, g45_4, p45_5, g45_5, p45_6, g45_6, p45_7, g45_7, g45_8, g45_9, g45_10, g45_11, g45_12, ck45, A46, S46, l46, A47, S47, l47, A48, S48, l48, A49, S49, l49, A50, S50, l50, A51, S51, l51, B52_0, g52_0, p52_1, g52_1, p52_2, g52_2, g52_3, p52_4, g52_4, ck52, A53, S53, l53, A54, S54, l54, A55, S55, l55, L0, L1, L2, L3, L4, L5, L6, L7, L8, L9, L10, L11, L12, L13, L14, L15, L16, L17, L18, L19, L20, L21, L22, L23, L24, L25, L26, L27, L28, L29, L30, L31, L32, L33, L34, L35, L36, L37, L38, L39, L40, L41, L42, L43, L44, L45, L46, L47, L48, L49, L50, L52, L57, L60, L90, L91, L93, L97, L99, L100, L101, L122, L240, L255, L256, L400, L401, L408, L409, L410, L411, L412, L413, L414, L420, L1000, L1001, L1103, L1200, L1240, L2820, L5220, L7936, L10440, L12345, L1000000, L1000003, L1073741823, L59, L61, L62, L200, nd_lt_t, nd_lt_f, nd_le_t, nd_le_f, nd_eq_f, nZ_add, nZ_mul, nZ_sub, nZ_lt, nZ_le, nZ_eq, nZ_nat, nZ_div, nZ_rem, nZ_and, nZ_or, and31, nZ_shl, nZ_shr, nZ_m1, nZ_nneg, nZ_nneg', nZ_nlt, nZ_ltn, inR_lt, Nat.not_lt_zero, ob_some, jI, jL, jR, jV, rI0, rI1, rIv, if_true, if_false, ↓reduceIte, Nat.reduceAdd, Nat.reduceMul, Nat.reduceSub, Nat.reduceLT, Nat.reduceEqDiff, Nat.reduceLeDiff, Nat.zero_add, Nat.add_zero, Nat.zero_mul, Nat.mul_zero, Nat.one_mul, Nat.mul_one, and_true, true_and, false_and, and_false, or_true, true_or, or_false, false_or, not_true_eq_false, not_false_eq_true, eq_self, bI_0, bI_1, em_b, hI_ne, hI_at, hA_ne, hA_at, Sh_si, Sh_sA]
/-- behind a fault too -/
theorem c111f {h : QH} (H : Sh h) (d z : Nat) (a b : Int32) (F S : Nat → Int32) (f9 : F 9 = nZ z) (hz : z ≤ 412) : ∃ G R z', qcl (d + 1) 111 [qR (some 29), qI a, qI b] (st2' h F S) = some (none, st2' h G R) ∧ z' ≤ 412 ∧ G 9 = nZ z' ∧ ∀ j, j ≠ 9 → G j = F j := by
  by_cases c : z < 412
  · refine ⟨upS F 9 (nZ (z + 1)), upS S z (a ||| b <<< (5 &&& 31)), z + 1, ?_, by omega, upS_at, fun j hj => upS_ne hj⟩
    simp (disch := first | assumption | omega | (simp only [Sh_s2]; assumption)) only [E111, ck29, ob_some, g29_9, s2_29, f9, g29_14, l35, L412x, nZ_lt, nd_lt_t, if_true, S35, s2_s35, s2_s29, p29_9, L1, nZ_add]
  · refine ⟨F, S, z, ?_, hz, f9, fun j _ => rfl⟩
    have hzz : z = 412 := by omega
    subst hzz
    simp (disch := first | assumption | omega | (simp only [Sh_s2]; assumption)) only [E111, ck29, ob_some, g29_9, s2_29, f9, g29_14, l35, L412x, nZ_lt, nd_lt_f, if_false, Nat.lt_irrefl]
theorem c107 {h : QH} (H : Sh h) (d a z j : Nat) (F S : Nat → Int32) (ha : a < 32) (f9 : F 9 = nZ z) (hz : z ≤ 412) (hj : j < 412) (hs : S j = nZ a) : qcl (d + 1) 107 [qR (some 29), qI (nZ j)] (st2' h F S) = some (none, st2' h F (upS S j (nZ (a + 32 * z)))) := by
  have e := or_shl a z ha
  have k5 : 5 &&& 31 = 5 := by decide
  simp (disch := first | assumption | omega | (simp only [Sh_si, Sh_sA, Sh_s2]; assumption)) only [E107, s2_29, s2_35, f9, s2_s35, hs, e, k5, A0, l0, A1, l1, A2, l2, A3, l3, A4, l4, A7, l7, A8, l8, g10_0, g10_1, g10_2, g10_3, g10_4, g10_5, g10_6, g10_7, g10_8, g10_9, p10_10, g10_10, p10_11, g10_11, p10_12, g10_12, p10_13, g10_13, ck10, g11_0, g11_1, g11_2, g11_3, p11_4, g11_4, p11_5, g11_5, ck11, p12_0, g12_0, p12_1, g12_1, g12_2, g12_3, g12_4, g12_5, ck12, A13, S13, l13, A14, S14, l14, A15, S15, l15, A16, S16, l16, p17_0, g17_0, g17_1, ck17, A18, S18, l18, p19_0, g19_0, g19_1, g19_2, g19_3, g19_4, g19_5, ck19, A20, S20, l20, A21, S21, l21, A22, S22, l22, A23, S23, l23, A24, S24, l24, R25, R26, p27_0, g27_0, g27_1, ck27, A28, S28, l28, p29_0, g29_0, g29_1, p29_2, g29_2, p29_3, g29_3, p29_4, g29_4, p29_5, g29_5, p29_6, g29_6, p29_7, g29_7, p29_8, g29_8, p29_9, g29_9, g29_10, g29_11, g29_12, g29_13, g29_14, ck29, A30, S30, l30, A31, S31, l31, A32, S32, l32, A33, S33, l33, A34, S34, l34, A35, S35, l35, g36_0, g36_1, g36_2, ck36, A37, S37, l37, A38, S38, l38, A39, S39, l39, g40_0, g40_1, g40_2, g40_3, p40_4, g40_4, ck40, A41, S41, l41, A42, S42, l42, A43, S43, l43, A44, S44, l44, p45_0, g45_0, g45_1, p45_2, g45_2, p45_3, g45_3, p45_4, g45_4, p45_5, g45_5, p45_6, g45_6, p45_7, g45_7, g45_8, g45_9, g45_10, g45_11, g45_12, ck45, A46, S46, l46, A47, S47, l47, A48, S48, l48, A49, S49, l49, A50, S50, l50, A51, S51, l51, B52_0, g52_0, p52_1, g52_1, p52_2, g52_2, g52_3, p52_4, g52_4, ck52, A53, S53, l53, A54, S54, l54, A55, S55, l55, L0, L1, L2, L3, L4, L5, L6, L7, L8, L9, L10, L11, L12, L13, L14, L15, L16, L17, L18, L19, L20, L21, L22, L23, L24, L25, L26, L27, L28, L29, L30, L31, L32, L33, L34, L35, L36, L37, L38, L39, L40, L41, L42, L43, L44, L45, L46, L47, L48, L49, L50, L52, L57, L60, L90, L91, L93, L97, L99, L100, L101, L122, L240, L255, L256, L400, L401, L408, L409, L410, L411, L412, L413, L414, L420, L1000, L1001, L1103, L1200, L1240, L2820, L5220, L7936, L10440, L12345, L1000000, L1000003, L1073741823, L59, L61, L62, L200, nd_lt_t, nd_lt_f, nd_le_t, nd_le_f, nd_eq_f, nZ_add, nZ_mul, nZ_sub, nZ_lt, nZ_le, nZ_eq, nZ_nat, nZ_div, nZ_rem, nZ_and, nZ_or, and31, nZ_shl, nZ_shr, nZ_m1, nZ_nneg, nZ_nneg', nZ_nlt, nZ_ltn, inR_lt, Nat.not_lt_zero, ob_some, jI, jL, jR, jV, rI0, rI1, rIv, if_true, if_false, ↓reduceIte, Nat.reduceAdd, Nat.reduceMul, Nat.reduceSub, Nat.reduceLT, Nat.reduceEqDiff, Nat.reduceLeDiff, Nat.zero_add, Nat.add_zero, Nat.zero_mul, Nat.mul_zero, Nat.one_mul, Nat.mul_one, and_true, true_and, false_and, and_false, or_true, true_or, or_false, false_or, not_true_eq_false, not_false_eq_true, eq_self, bI_0, bI_1, em_b, hI_ne, hI_at, hA_ne, hA_at, Sh_si, Sh_sA]
theorem c107f {h : QH} (H : Sh h) (d j : Nat) (F S : Nat → Int32) (hj : j < 412) : ∃ R, qcl (d + 1) 107 [qR (some 29), qI (nZ j)] (st2' h F S) = some (none, st2' h F R) := by
  refine ⟨upS S j (S j ||| F 9 <<< (5 &&& 31)), ?_⟩
  simp (disch := first | assumption | omega | (simp only [Sh_s2]; assumption)) only [E107, ck29, ob_some, g29_9, s2_29, s2_35, g29_14, l35, L412x, nZ_lt, nd_lt_t, if_true, A35, S35, s2_s35]
/-! how they end -/
def OK2 (h : QH) (T : Nat → Nat) (n : Nat) (g : QO) (F S : Nat → Int32) (z dp : Nat) (r : Rd) : Prop := match r with
  | .inl e => ∃ G R z', g = some (some (qI (nZ 0)), st2' h G R) ∧ G 0 = nZ (ts T n e) ∧ G 8 = F 8 ∧ G 2 = F 2 ∧ G 9 = nZ z' ∧ z' ≤ 412
  | .inr v => ∃ G R, g = some (some (qI (nZ 1)), st2' h G R) ∧ Tok T n G v.1 ∧ G 6 = nZ v.2.1 ∧ G 7 = nZ dp ∧ G 9 = nZ (z + v.2.2.1.length) ∧ G 8 = F 8 ∧ (∀ j, j < z → R j = S j) ∧ AtI R z v.2.2.1
noncomputable def CMg (s D ng i : Nat) (k : QH) : QO := match s with
  | 0 => qcl D 117 [qR (some 29)] k
  | 1 => qcl D 120 [qR (some 29)] k
  | 2 => qbig D 120 7 [sR (some 29), sI (nZ 1), sI (nZ i), none] [] k
  | 3 => qcl D 119 [qR (some 29)] k
  | 4 => qbig D 119 7 [sR (some 29), sI (nZ 1), sI (nZ i), none] [] k
  | 5 => qbig D 118 4 [sR (some 29), sI (nZ ng), sI (nZ i)] [] k
  | 6 => qcl D 113 [qR (some 29)] k
  | 7 => qbig D 113 7 [sR (some 29), sI (nZ 1), sI (nZ i), none] [] k
  | 8 => qcl D 121 [qR (some 29)] k
  | _ => qbig D 121 7 [sR (some 29), sI (nZ 1), sI (nZ i), none] [] k
def CMd (s dp : Nat) : Nat := 4 * (9 - dp) + (match s with
  | 0 => 6 | 1 => 7 | 2 => 7 | 3 => 8 | 4 => 8 | 5 => 10 | 6 => 11 | 7 => 11 | 8 => 12 | _ => 12)
theorem CMd_10 (s : Nat) {dp : Nat} (h : dp ≤ 8) : 10 ≤ CMd s dp := by
  unfold CMd
  split <;> omega
/-- the state ahead -/
def PS (T : Nat → Nat) (n : Nat) (F : Nat → Int32) (pos lv dp z : Nat) : Prop := Tok T n F pos ∧ F 6 = nZ lv ∧ F 7 = nZ dp ∧ F 9 = nZ z
def GC (h : QH) (T : Nat → Nat) (n N s pos lv dp z ng : Nat) (r : Rd) : Prop := (∀ e, r = .inl e → e ≤ N) ∧ ∀ D i F S, CMd s dp ≤ D → i ≤ pos → PS T n F pos lv dp z → OK2 h T n (CMg s D ng i (st2' h F S)) F S z dp r
def CIH (h : QH) (T : Nat → Nat) (n N f : Nat) : Prop := ∀ s pos lv dp z ng acc, s < 10 → ng < 2 → (ng = 1 → s = 5) → pos ≤ N → lv ≤ 50 → dp ≤ 8 → z + (N - pos) + ng ≤ 412 → P (CT T n) (VT T n) N f s pos lv dp z ng acc ≠ .inl 100000 → GC h T n N s pos lv dp z ng (P (CT T n) (VT T n) N f s pos lv dp z ng acc)
theorem PS.adv {T : Nat → Nat} {n : Nat} {F G : Nat → Int32} {pos lv dp z : Nat} (p : PS T n F pos lv dp z) (t : Tok T n G (pos + 1)) (o : oth F G) : PS T n G (pos + 1) lv dp z := ⟨t, o.2.1.trans p.2.1, o.2.2.1.trans p.2.2.1, o.2.2.2.2.trans p.2.2.2⟩
/-- then its rest -/
theorem C_two {h : QH} {T : Nat → Nat} {n N f : Nat} (ih : CIH h T n N f) (s s1 s2 pos lv dp z : Nat) (acc : Den) (hs1 : s1 < 10) (hs2 : s2 < 10) (hpos : pos ≤ N) (hlv : lv ≤ 50) (hdp : dp ≤ 8) (hz : z + (N - pos) ≤ 412) (hseq : ∀ D, CMd s dp ≤ D → ∃ D1 D2, CMd s1 dp ≤ D1 ∧ CMd s2 dp ≤ D2 ∧ ∃ nx : Int32 → QH → QO, (∀ F S i, CMg s D 0 i (st2' h F S) = cI (CMg s1 D1 0 0 (st2' h F S)) nx) ∧ (∀ k, nx (nZ 1) k = CMg s2 D2 0 0 k) ∧ ∀ k, nx (nZ 0) k = some (some (qI (nZ 0)), k)) (hne : (rdB (P (CT T n) (VT T n) N f s1 pos lv dp z 0 acc) fun p l cs dn => rdB (P (CT T n) (VT T n) N f s2 p l dp (z + cs.length) 0 dn) fun p2 l2 cs2 dn2 => .inr (p2, l2, cs ++ cs2, dn2)) ≠ .inl 100000) : GC h T n N s pos lv dp z 0 (rdB (P (CT T n) (VT T n) N f s1 pos lv dp z 0 acc) fun p l cs dn => rdB (P (CT T n) (VT T n) N f s2 p l dp (z + cs.length) 0 dn) fun p2 l2 cs2 dn2 => .inr (p2, l2, cs ++ cs2, dn2)) := by
  have i1 := ih s1 pos lv dp z 0 acc hs1 (by decide) (by omega) hpos hlv hdp hz
  cases e1 : P (CT T n) (VT T n) N f s1 pos lv dp z 0 acc with
  | inl e =>
    rw [e1] at i1 hne
    obtain ⟨b1, o1⟩ := i1 hne
    refine ⟨fun e' he' => by cases he'; exact b1 e rfl, ?_⟩
    intro D i F S hD hi ps
    obtain ⟨D1, D2, d1, d2, nx, sq, nt, nf⟩ := hseq D hD
    obtain ⟨G, R, z', g1, g2⟩ := o1 D1 0 F S d1 (Nat.zero_le _) ps
    refine ⟨G, R, z', ?_, g2⟩
    rw [sq, g1]
    exact nf _
  | inr v =>
    obtain ⟨p, l, cs, dn⟩ := v
    rw [e1] at i1 hne
    obtain ⟨b1, o1⟩ := i1 (fun zz => by cases zz)
    obtain ⟨q1, q2, q3, q4⟩ := PB _ _ _ _ _ _ _ _ _ _ _ _ e1 hs1 (by decide) (by omega) hpos
    have ql := P_lv _ _ _ _ _ _ _ _ _ _ _ _ e1 hs1 hlv
    have i2 := ih s2 p l dp (z + cs.length) 0 dn hs2 (by decide) (by omega) q2 ql hdp (by omega)
    change (rdB (P (CT T n) (VT T n) N f s2 p l dp (z + cs.length) 0 dn) fun p2 l2 cs2 dn2 => .inr (p2, l2, cs ++ cs2, dn2)) ≠ .inl 100000 at hne
    change GC h T n N s pos lv dp z 0 (rdB (P (CT T n) (VT T n) N f s2 p l dp (z + cs.length) 0 dn) fun p2 l2 cs2 dn2 => .inr (p2, l2, cs ++ cs2, dn2))
    cases e2 : P (CT T n) (VT T n) N f s2 p l dp (z + cs.length) 0 dn with
    | inl e =>
      rw [e2] at i2 hne
      obtain ⟨b2, o2⟩ := i2 hne
      refine ⟨fun e' he' => by cases he'; exact b2 e rfl, ?_⟩
      intro D i F S hD hi ps
      obtain ⟨D1, D2, d1, d2, nx, sq, nt, nf⟩ := hseq D hD
      obtain ⟨G, R, g1, g2, g3, g4, g5, g6, g7, g8⟩ := o1 D1 0 F S d1 (Nat.zero_le _) ps
      obtain ⟨G2, R2, z', k1, k2, k3, k4, k5⟩ := o2 D2 0 G R d2 (Nat.zero_le _) ⟨g2, g3, g4, g5⟩
      refine ⟨G2, R2, z', ?_, k2, k3.trans g6, k4.trans (g2.2.1.trans ps.1.2.1.symm), k5⟩
      rw [sq, g1, jI, nt]
      exact k1
    | inr v2 =>
      obtain ⟨p2, lw, cs2, dn2⟩ := v2
      rw [e2] at i2
      obtain ⟨b2, o2⟩ := i2 (fun zz => by cases zz)
      refine ⟨fun e' he' => (by cases he'), ?_⟩
      intro D i F S hD hi ps
      obtain ⟨D1, D2, d1, d2, nx, sq, nt, nf⟩ := hseq D hD
      obtain ⟨G, R, g1, g2, g3, g4, g5, g6, g7, g8⟩ := o1 D1 0 F S d1 (Nat.zero_le _) ps
      obtain ⟨G2, R2, k1, k2, k3, k4, k5, k6, k7, k8⟩ := o2 D2 0 G R d2 (Nat.zero_le _) ⟨g2, g3, g4, g5⟩
      refine ⟨G2, R2, ?_, k2, k3, k4, ?_, k6.trans g6, ?_, ?_⟩
      · rw [sq, g1, jI, nt]
        exact k1
      · rw [k5]
        show nZ (z + cs.length + cs2.length) = nZ (z + (cs ++ cs2).length)
        rw [List.length_append, Nat.add_assoc]
      · intro j hj
        exact (k7 j (by omega)).trans (g7 j hj)
      · exact AtI_app cs cs2 z (AtI_congr cs z (fun j h1 h2 => k7 j h2) g8) k8

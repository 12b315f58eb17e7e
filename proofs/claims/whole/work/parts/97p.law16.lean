/-! ===== the class asks ===== -/
theorem CX.tr {h : QH} {W : Nat → Nat} {o : Option (List CL)} {r : Option Nat} (X : CX h W o r) {p f : Nat} (hp : p < 8) (hf : f < 4) : hI h 13 (f * 8 + p) = nZ (W (4 * p + f)) := X.2.2.1.1.2.2.1 p f hp hf
theorem CX.ru {h : QH} {W : Nat → Nat} {o : Option (List CL)} {r : Option Nat} (X : CX h W o r) {a f : Nat} (ha : a < 5) (hf : f < 4) : hI h 18 (f * 5 + a) = nZ (W (40 + 4 * a + f)) := X.2.2.1.2.1.2 a f ha hf
theorem CX.n8 {h : QH} {W : Nat → Nat} {o : Option (List CL)} {r : Option Nat} (X : CX h W o r) : W 408 ≤ 8 := X.2.2.2.1.1 408 (by decide) (by decide)
theorem CX.n5 {h : QH} {W : Nat → Nat} {o : Option (List CL)} {r : Option Nat} (X : CX h W o r) : W 409 ≤ 5 := X.2.2.2.1.1 409 (by decide) (by decide)
theorem WI.b9 {W : Nat → Nat} (w : WI W) {p f : Nat} (hp : p < 8) (hf : f < 2) : W (4 * p + f) ≤ 9 := by
  have := w.1 (4 * p + f) (by omega) (by omega)
  unfold bnd at this
  rw [if_pos (by omega), if_neg (by omega), if_neg (by omega)] at this
  exact this
theorem WI.b12 {W : Nat → Nat} (w : WI W) {p : Nat} (hp : p < 8) : W (4 * p + 2) ≤ 12 := by
  have := w.1 (4 * p + 2) (by omega) (by omega)
  unfold bnd at this
  rw [if_pos (by omega), if_neg (by omega), if_pos (by omega)] at this
  exact this
theorem WI.bT {W : Nat → Nat} (w : WI W) {a : Nat} (ha : a < 5) : W (40 + 4 * a) ≤ 6 := by
  have := w.1 (40 + 4 * a) (by omega) (by omega)
  unfold bnd at this
  rw [if_neg (by omega), if_neg (by omega), if_pos (by omega), if_pos (by omega)] at this
  exact this
theorem WI.bO {W : Nat → Nat} (w : WI W) {a : Nat} (ha : a < 5) : W (40 + 4 * a + 1) ≤ 3 := by
  have := w.1 (40 + 4 * a + 1) (by omega) (by omega)
  unfold bnd at this
  rw [if_neg (by omega), if_neg (by omega), if_pos (by omega), if_neg (by omega), if_pos (by omega)] at this
  exact this
theorem WI.bK {W : Nat → Nat} (w : WI W) {p a : Nat} (hp : p < 8) (ha : a < 5) : W (60 + 5 * p + a) ≤ 9 := by
  have := w.1 (60 + 5 * p + a) (by omega) (by omega)
  unfold bnd at this
  rw [if_neg (by omega), if_neg (by omega), if_neg (by omega), if_pos (by omega)] at this
  exact this
/-- about -/
def vA (h : QH) (W : Nat → Nat) (a day once : Nat) : Prop := hI h 39 1 = nZ (W (40 + 4 * a)) ∧ hI h 37 4 = nZ a ∧ hI h 37 5 = nZ day ∧ hI h 37 8 = nZ once
theorem c148 {h : QH} {W : Nat → Nat} {o : Option (List CL)} {r : Option Nat} (X : CX h W o r) (d a day once : Nat) (ha : a < 5) : ∃ h', qcl (d + 2) 148 [qR (some 36), qR (some 17), qI (nZ a), qI (nZ day), qI (nZ once)] h = some (none, h') ∧ Fr fV h h' ∧ vA h' W a day once := by
  have H := X.1
  have g : qcl (d + 1) 71 [qR (some 17), qI (nZ a), qI (nZ 0)] h = some (some (qI (nZ (W (40 + 4 * a)))), h) := by
    rw [c71 H d a 0 ha (by decide), X.ru ha (by decide)]
    rfl
  refine ⟨hsI (hsI (hsI (hsI h 39 1 (nZ (W (40 + 4 * a)))) 37 4 (nZ a)) 37 5 (nZ day)) 37 8 (nZ once), ?_, ?_⟩
  · simp (disch := first | assumption | decide | (simp only [Sh_si]; assumption)) only [E148, ck36, ob_some, g36_0, g36_2, L0, L1, L4, L5, L8, S37, S39, g, jI]
  · refine ⟨Fr.si rfl (Fr.si rfl (Fr.si rfl (Fr.si rfl Fr.refl))), ?_, ?_, ?_, ?_⟩ <;> simp (disch := decide) only [hI_ne, hI_at]
/-- between -/
def vQ (h : QH) (q : Nat → Nat) : Prop := (∀ j, j < 9 → hI h 37 j = nZ (q j) ∧ q j < 1000) ∧ hI h 39 0 = nZ (q 0 - 1)
theorem c149 {h : QH} {W : Nat → Nat} {o : Option (List CL)} {r : Option Nat} (X : CX h W o r) (d a day once p lvl l had : Nat) (hA : vA h W a day once) (hp : p < 8) (hl : l < 8) (ha : a < 5) (hlv : lvl < 1000) (hhad : had < 1000) (hday : day < 1000) (honce : once < 1000) : ∃ h', qcl (d + 2) 149 [qR (some 36), qR (some 12), qI (nZ p), qI (nZ lvl), qI (nZ l), qI (nZ had)] h = some (none, h') ∧ Fr fV h h' ∧ vA h' W a day once ∧ vQ h' (qf W a day once p lvl l had) := by
  have H := X.1
  have et : ∀ k, Sh k → hI k 13 (1 * 8 + p) = hI h 13 (1 * 8 + p) → qcl (d + 1) 88 [qR (some 12), qI (nZ p), qI (nZ 1)] k = some (some (qI (nZ (W (4 * p + 1)))), k) := fun k Hk ek => by rw [c88 Hk d p 1 hp (by decide), ek, X.tr hp (by decide)]
  have el : ∀ k, Sh k → hI k 13 (0 * 8 + l) = hI h 13 (0 * 8 + l) → qcl (d + 1) 88 [qR (some 12), qI (nZ l), qI (nZ 0)] k = some (some (qI (nZ (W (4 * l)))), k) := fun k Hk ek => by rw [c88 Hk d l 0 hl (by decide), ek, X.tr hl (by decide)]; rfl
  have em : (if (nZ lvl - 1) < 0 then 0 else (nZ lvl - 1)) = nZ (lvl - 1) := by
    by_cases c : 1 ≤ lvl
    · have e1 : nZ lvl - 1 = nZ (lvl - 1) := nZ_sub c
      rw [e1]
      exact if_neg (fun z => by
        have z2 : (nZ (lvl - 1) < nZ 0) = False := nZ_neg_lt (by omega)
        exact cast z2 z)
    · have : lvl = 0 := by omega
      subst this
      decide
  refine ⟨hsI (hsI (hsI (hsI (hsI (hsI (hsI h 39 0 (nZ (lvl - 1))) 37 0 (nZ lvl)) 37 1 (nZ had)) 37 2 (nZ (W (4 * p + 1)))) 37 3 (nZ (W (4 * l)))) 37 6 (nZ p)) 37 7 (nZ l), ?_, ?_⟩
  · rw [E149, em]
    simp (disch := first | assumption | decide | (simp only [Sh_si]; assumption) | (simp (disch := omega) only [hI_ne])) only [ck36, ob_some, g36_0, g36_2, L0, L1, L2, L3, L6, L7, S37, S39, et, el, jI]
  · obtain ⟨a1, a2, a3, a4⟩ := hA
    refine ⟨Fr.si rfl (Fr.si rfl (Fr.si rfl (Fr.si rfl (Fr.si rfl (Fr.si rfl (Fr.si rfl Fr.refl)))))), ⟨?_, ?_, ?_, ?_⟩, ?_, ?_⟩
    · simp (disch := decide) only [hI_ne, a1]
    · simp (disch := decide) only [hI_ne, a2]
    · simp (disch := decide) only [hI_ne, a3]
    · simp (disch := decide) only [hI_ne, a4]
    · have b1 := X.2.2.2.1.b9 hp (f := 1) (by decide)
      have b0 : W (4 * l) ≤ 9 := X.2.2.2.1.b9 hl (f := 0) (by decide)
      have b1' : W (4 * p + 1) < 1000 := by omega
      have b0' : W (4 * l) < 1000 := by omega
      have ha3 : a < 1000 := by omega
      have hp3 : p < 1000 := by omega
      have hl3 : l < 1000 := by omega
      intro j hj
      have : j = 0 ∨ j = 1 ∨ j = 2 ∨ j = 3 ∨ j = 4 ∨ j = 5 ∨ j = 6 ∨ j = 7 ∨ j = 8 := by omega
      rcases this with e | e | e | e | e | e | e | e | e <;> subst e <;> exact ⟨by simp (disch := decide) only [hI_ne, hI_at, a2, a3, a4]; rfl, by first | assumption | (show _ < 1000; omega) | (show _ < 1000; assumption)⟩
    · simp (disch := decide) only [hI_ne, hI_at]
      rfl
/-- the law in force -/
theorem c163 {h : QH} {W : Nat → Nat} {o : Option (List CL)} {r : Option Nat} (X : CX h W o r) (d : Nat) : qcl (d + 1) 163 [qR (some 11)] h = some (some (qR r), h) := by
  have H := X.1
  have f1 : hI h 11 4 = nZ (W 411) := X.2.2.1.2.2.2.1
  have f2 : hI h 11 5 = nZ (W 413) - nZ 1 := X.2.2.1.2.2.2.2
  rcases X.2.2.2.2.1 with ⟨y1, y2, y3⟩ | ⟨L, a, ⟨y1, y1', y1''⟩, y2, y3, y4, y5, y6⟩
  · rw [y1] at f2
    have z : (nZ 0 - nZ 1 < nZ 0) = True := by decide
    subst y3
    simp (disch := first | assumption | decide) only [E163, ck11, ob_some, g11_5, f2, z, L0, if_true]
  · rw [nZ_sub y1] at f2
    subst y3
    have t6 : W 413 - 1 < 6 := by omega
    simp (disch := first | assumption | omega | (simp only [Sh_si, Sh_sA]; assumption)) only [E163, f1, f2, y5, A0, l0, A1, l1, A2, l2, A3, l3, A4, l4, A7, l7, A8, l8, g10_0, g10_1, g10_2, g10_3, g10_4, g10_5, g10_6, g10_7, g10_8, g10_9, p10_10, g10_10, p10_11, g10_11, p10_12, g10_12, p10_13, g10_13, ck10, g11_0, g11_1, g11_2, g11_3, p11_4, g11_4, p11_5, g11_5, ck11, p12_0, g12_0, p12_1, g12_1, g12_2, g12_3, g12_4, g12_5, ck12, A13, S13, l13, A14, S14, l14, A15, S15, l15, A16, S16, l16, p17_0, g17_0, g17_1, ck17, A18, S18, l18, p19_0, g19_0, g19_1, g19_2, g19_3, g19_4, g19_5, ck19, A20, S20, l20, A21, S21, l21, A22, S22, l22, A23, S23, l23, A24, S24, l24, R25, R26, p27_0, g27_0, g27_1, ck27, A28, S28, l28, p29_0, g29_0, g29_1, p29_2, g29_2, p29_3, g29_3, p29_4, g29_4, p29_5, g29_5, p29_6, g29_6, p29_7, g29_7, p29_8, g29_8, p29_9, g29_9, g29_10, g29_11, g29_12, g29_13, g29_14, ck29, A30, S30, l30, A31, S31, l31, A32, S32, l32, A33, S33, l33, A34, S34, l34, A35, S35, l35, g36_0, g36_1, g36_2, ck36, A37, S37, l37, A38, S38, l38, A39, S39, l39, g40_0, g40_1, g40_2, g40_3, p40_4, g40_4, ck40, A41, S41, l41, A42, S42, l42, A43, S43, l43, A44, S44, l44, p45_0, g45_0, g45_1, p45_2, g45_2, p45_3, g45_3, p45_4, g45_4, p45_5, g45_5, p45_6, g45_6, p45_7, g45_7, g45_8, g45_9, g45_10, g45_11, g45_12, ck45, A46, S46, l46, A47, S47, l47, A48, S48, l48, A49, S49, l49, A50, S50, l50, A51, S51, l51, B52_0, g52_0, p52_1, g52_1, p52_2, g52_2, g52_3, p52_4, g52_4, ck52, A53, S53, l53, A54, S54, l54, A55, S55, l55, L0, L1, L2, L3, L4, L5, L6, L7, L8, L9, L10, L11, L12, L13, L14, L15, L16, L17, L18, L19, L20, L21, L22, L23, L24, L25, L26, L27, L28, L29, L30, L31, L32, L33, L34, L35, L36, L37, L38, L39, L40, L41, L42, L43, L44, L45, L46, L47, L48, L49, L50, L52, L57, L60, L90, L91, L93, L97, L99, L100, L101, L122, L240, L255, L256, L400, L401, L408, L409, L410, L411, L412, L413, L414, L420, L1000, L1001, L1103, L1200, L1240, L2820, L5220, L7936, L10440, L12345, L1000000, L1000003, L1073741823, L59, L61, L62, L200, nd_lt_t, nd_lt_f, nd_le_t, nd_le_f, nd_eq_f, nZ_add, nZ_mul, nZ_sub, nZ_lt, nZ_le, nZ_eq, nZ_nat, nZ_div, nZ_rem, nZ_and, nZ_or, and31, nZ_shl, nZ_shr, nZ_m1, nZ_nneg, nZ_nneg', nZ_nlt, nZ_ltn, inR_lt, Nat.not_lt_zero, ob_some, jI, jL, jR, jV, rI0, rI1, rIv, if_true, if_false, ↓reduceIte, Nat.reduceAdd, Nat.reduceMul, Nat.reduceSub, Nat.reduceLT, Nat.reduceEqDiff, Nat.reduceLeDiff, Nat.zero_add, Nat.add_zero, Nat.zero_mul, Nat.mul_zero, Nat.one_mul, Nat.mul_one, and_true, true_and, false_and, and_false, or_true, true_or, or_false, false_or, not_true_eq_false, not_false_eq_true, eq_self, bI_0, bI_1, em_b, hI_ne, hI_at, hA_ne, hA_at, Sh_si, Sh_sA]
/-- told, by heads -/
def wo (W q : Nat → Nat) (hd : Nat) : Nat := if hd = 1 then q 0 - 1 else if hd = 2 then W (40 + 4 * q 4) else 0
theorem c152t {h : QH} {W : Nat → Nat} {o : Option (List CL)} {r : Option Nat} (X : CX h W o r) {q : Nat → Nat} (d hd : Nat) (hh : 1 ≤ hd ∧ hd ≤ 4) (hQ : vQ h q) (hT : hI h 39 1 = nZ (W (40 + 4 * q 4))) : ∃ h', qcl (d + 3) 152 [qR (some 36), qR r, qI (nZ (hd - 1))] h = some (some (qI (nZ (tw o hd q (wo W q hd)))), h') ∧ Fr fV h h' ∧ ∀ b j, b ≠ 38 → hI h' b j = hI h b j := by
  have hw : hI h 39 (hd - 1) = nZ (wo W q hd) := by
    have : hd = 1 ∨ hd = 2 ∨ hd = 3 ∨ hd = 4 := by omega
    rcases this with e | e | e | e <;> subst e
    · exact hQ.2
    · exact hT
    · exact X.2.2.2.2.2.1
    · exact X.2.2.2.2.2.2
  rcases X.2.2.2.2.1 with ⟨y1, y2, y3⟩ | ⟨L, a, ⟨y1, y1', y1''⟩, y2, y3, y4, y5, y6⟩
  · subst y2
    subst y3
    exact ⟨h, c152_0 X.1 (d + 2) hd _ hh hw, Fr.refl, fun b j _ => rfl⟩
  · subst y2
    subst y3
    obtain ⟨S', e⟩ := c152 X.1 X.2.1 y6 y4 hQ.1 d hd _ hh hw
    exact ⟨_, e, Fr.sA (fun i => rfl) Fr.refl, fun b j hb => hA_ne hb⟩
theorem nM_fV (b j : Nat) (hb : b = 58 ∨ b = 67 ∨ b = 56) : fV b j = false := by
  rcases hb with e | e | e <;> subst e <;> rfl

/-! the reference's day -/
def fJ (b j : Nat) : Bool := (match b with
  | 56 => (match j with
    | 19 => true | 20 => true | 21 => true | 43 => true | 44 => true | _ => false)
  | 67 => true | 69 => true
  | _ => false)
theorem fQ_J (b j : Nat) (h : fQ b j = true) : fJ b j = true := by
  by_cases c1 : b = 56
  · subst c1
    unfold fQ at h
    split at h
    · split at h <;> first | rfl | cases h
    · omega
    · cases h
  · by_cases c2 : b = 67
    · subst c2
      rfl
    · exfalso
      unfold fQ at h
      split at h <;> first | omega | cases h
theorem fE_J (b j : Nat) (h : fE b j = true) : fJ b j = true := by
  by_cases c1 : b = 56
  · subst c1
    unfold fE at h
    split at h
    · split at h <;> first | rfl | cases h
    · cases h
  · exfalso
    unfold fE at h
    split at h <;> first | omega | cases h
def wM (h : QH) (n : Nat) (lv : Nat → Nat) (s : WkS) : Prop := hI h 56 42 = nZ n ∧ hI h 56 44 = nZ s.1 ∧ hI h 56 43 = nZ s.2.2.2 ∧ (∀ q, q < n → hI h 68 (5 * q) = nZ (lv q)) ∧ ∀ q, q < n → hI h 69 (5 * q) = nZ (s.2.1 q)
theorem m191n (d x : Nat) (hx : x ≤ 9) (h : QH) : qcl (d + 1) 191 [qI (nZ x), qI (nZ 0 - nZ 1)] h = some (some (qI (nZ x)), h) := by
  have z2 : (nZ 0 - nZ 1 < nZ x) = True := by
    have : x = 0 ∨ x = 1 ∨ x = 2 ∨ x = 3 ∨ x = 4 ∨ x = 5 ∨ x = 6 ∨ x = 7 ∨ x = 8 ∨ x = 9 := by omega
    rcases this with e | e | e | e | e | e | e | e | e | e <;> subst e <;> decide
  simp only [E191, z2, if_true]
theorem m272_279 {h : QH} (H : Sh h) (d a day w p q f lvl sp x : Nat) (hp : p < 8) (hq : q < 8) (hf : f = 0 ∨ f = 1) (hl : lvl ≤ 9) (hx : x ≤ 9) (hs : sp < 1000) (e43 : hI h 56 43 = nZ sp) (e69 : hI h 69 (5 * q) = nZ x) : qbig (d + 103) 272 279 [sR (some 56), sI (nZ a), none, sI (nZ day), sI (nZ w), sI (nZ p), sI (nZ q), sI (nZ f), sI (nZ lvl)] [] h = qbig (d + 103) 272 129 [sR (some 56), sI (nZ a), none, sI (nZ day), sI (nZ w), sI (nZ (p + 1)), none, none, none] [] (hsI (hsI h 56 43 (nZ (sp + f))) 69 (5 * q) (nZ (max x (if f = 0 then lvl else lvl - 1)))) := by
  rcases hf with e | e
  · subst e
    have g : hI (hsI h 56 43 (nZ (sp + 0))) 69 (5 * q) = nZ x := by
      rw [hI_ne (by omega)]
      exact e69
    rw [if_pos rfl, E272_279]
    simp (disch := first | assumption | omega | (simp only [Sh_si, Sh_sA]; assumption)) only [e43, e69, m191, p56_0, g56_0, p56_1, g56_1, g56_2, g56_3, g56_4, g56_5, p56_6, g56_6, g56_7, g56_8, g56_9, p56_10, g56_10, p56_11, g56_11, g56_12, g56_13, g56_14, p56_15, g56_15, p56_16, g56_16, p56_17, g56_17, p56_18, g56_18, p56_19, g56_19, p56_20, g56_20, B56_21, g56_21, g56_22, g56_23, g56_24, g56_25, g56_26, g56_27, p56_28, g56_28, p56_29, g56_29, p56_30, g56_30, p56_31, g56_31, g56_32, g56_33, g56_34, p56_35, g56_35, p56_36, g56_36, p56_37, g56_37, p56_38, g56_38, g56_39, g56_40, g56_41, p56_42, g56_42, p56_43, g56_43, p56_44, g56_44, ck56, A57, S57, l57, A58, S58, l58, A59, S59, l59, A60, S60, l60, A61, S61, l61, A62, S62, l62, A63, S63, l63, A64, S64, l64, A65, S65, l65, A66, S66, l66, A67, S67, l67, A68, S68, l68, A69, S69, l69, A70, S70, l70, A71, S71, l71, A72, S72, l72, A73, S73, l73, A74, S74, l74, A75, S75, l75, A76, S76, l76, A77, S77, l77, A78, S78, l78, L0, L1, L2, L3, L4, L5, L6, L7, L8, L9, L10, L11, L12, L13, L14, L15, L16, L17, L18, L19, L20, L21, L22, L23, L24, L25, L26, L27, L28, L29, L30, L31, L32, L33, L34, L35, L36, L37, L38, L39, L40, L41, L42, L43, L44, L45, L46, L47, L48, L49, L50, L52, L57, L60, L90, L91, L93, L97, L99, L100, L101, L122, L240, L255, L256, L400, L401, L408, L409, L410, L411, L412, L413, L414, L420, L1000, L1001, L1103, L1200, L1240, L2820, L5220, L7936, L10440, L12345, L1000000, L1000003, L1073741823, L59, L61, L62, L200, nd_lt_t, nd_lt_f, nd_le_t, nd_le_f, nd_eq_f, nZ_add, nZ_mul, nZ_sub, nZ_lt, nZ_le, nZ_eq, nZ_nat, nZ_div, nZ_rem, nZ_and, nZ_or, and31, nZ_shl, nZ_shr, nZ_m1, nZ_nneg, nZ_nneg', nZ_nlt, nZ_ltn, inR_lt, Nat.not_lt_zero, ob_some, jI, jL, jR, jV, rI0, rI1, rIv, if_true, if_false, ↓reduceIte, Nat.reduceAdd, Nat.reduceMul, Nat.reduceSub, Nat.reduceLT, Nat.reduceEqDiff, Nat.reduceLeDiff, Nat.zero_add, Nat.add_zero, Nat.zero_mul, Nat.mul_zero, Nat.one_mul, Nat.mul_one, and_true, true_and, false_and, and_false, or_true, true_or, or_false, false_or, not_true_eq_false, not_false_eq_true, eq_self, bI_0, bI_1, em_b, hI_ne, hI_at, hA_ne, hA_at, Sh_si, Sh_sA]
  · subst e
    have g : hI (hsI h 56 43 (nZ (sp + 1))) 69 (5 * q) = nZ x := by
      rw [hI_ne (by omega)]
      exact e69
    rw [if_neg (by decide), E272_279]
    by_cases c : 1 ≤ lvl
    · simp (disch := first | assumption | omega | (simp only [Sh_si, Sh_sA]; assumption)) only [e43, e69, m191, p56_0, g56_0, p56_1, g56_1, g56_2, g56_3, g56_4, g56_5, p56_6, g56_6, g56_7, g56_8, g56_9, p56_10, g56_10, p56_11, g56_11, g56_12, g56_13, g56_14, p56_15, g56_15, p56_16, g56_16, p56_17, g56_17, p56_18, g56_18, p56_19, g56_19, p56_20, g56_20, B56_21, g56_21, g56_22, g56_23, g56_24, g56_25, g56_26, g56_27, p56_28, g56_28, p56_29, g56_29, p56_30, g56_30, p56_31, g56_31, g56_32, g56_33, g56_34, p56_35, g56_35, p56_36, g56_36, p56_37, g56_37, p56_38, g56_38, g56_39, g56_40, g56_41, p56_42, g56_42, p56_43, g56_43, p56_44, g56_44, ck56, A57, S57, l57, A58, S58, l58, A59, S59, l59, A60, S60, l60, A61, S61, l61, A62, S62, l62, A63, S63, l63, A64, S64, l64, A65, S65, l65, A66, S66, l66, A67, S67, l67, A68, S68, l68, A69, S69, l69, A70, S70, l70, A71, S71, l71, A72, S72, l72, A73, S73, l73, A74, S74, l74, A75, S75, l75, A76, S76, l76, A77, S77, l77, A78, S78, l78, L0, L1, L2, L3, L4, L5, L6, L7, L8, L9, L10, L11, L12, L13, L14, L15, L16, L17, L18, L19, L20, L21, L22, L23, L24, L25, L26, L27, L28, L29, L30, L31, L32, L33, L34, L35, L36, L37, L38, L39, L40, L41, L42, L43, L44, L45, L46, L47, L48, L49, L50, L52, L57, L60, L90, L91, L93, L97, L99, L100, L101, L122, L240, L255, L256, L400, L401, L408, L409, L410, L411, L412, L413, L414, L420, L1000, L1001, L1103, L1200, L1240, L2820, L5220, L7936, L10440, L12345, L1000000, L1000003, L1073741823, L59, L61, L62, L200, nd_lt_t, nd_lt_f, nd_le_t, nd_le_f, nd_eq_f, nZ_add, nZ_mul, nZ_sub, nZ_lt, nZ_le, nZ_eq, nZ_nat, nZ_div, nZ_rem, nZ_and, nZ_or, and31, nZ_shl, nZ_shr, nZ_m1, nZ_nneg, nZ_nneg', nZ_nlt, nZ_ltn, inR_lt, Nat.not_lt_zero, ob_some, jI, jL, jR, jV, rI0, rI1, rIv, if_true, if_false, ↓reduceIte, Nat.reduceAdd, Nat.reduceMul, Nat.reduceSub, Nat.reduceLT, Nat.reduceEqDiff, Nat.reduceLeDiff, Nat.zero_add, Nat.add_zero, Nat.zero_mul, Nat.mul_zero, Nat.one_mul, Nat.mul_one, and_true, true_and, false_and, and_false, or_true, true_or, or_false, false_or, not_true_eq_false, not_false_eq_true, eq_self, bI_0, bI_1, em_b, hI_ne, hI_at, hA_ne, hA_at, Sh_si, Sh_sA]
    · have : lvl = 0 := by omega
      subst this
      have em : max x (0 - 1) = x := Nat.max_eq_left (by omega)
      rw [em]
      simp (disch := first | assumption | omega | (simp only [Sh_si, Sh_sA]; assumption)) only [e43, e69, m191n, p56_0, g56_0, p56_1, g56_1, g56_2, g56_3, g56_4, g56_5, p56_6, g56_6, g56_7, g56_8, g56_9, p56_10, g56_10, p56_11, g56_11, g56_12, g56_13, g56_14, p56_15, g56_15, p56_16, g56_16, p56_17, g56_17, p56_18, g56_18, p56_19, g56_19, p56_20, g56_20, B56_21, g56_21, g56_22, g56_23, g56_24, g56_25, g56_26, g56_27, p56_28, g56_28, p56_29, g56_29, p56_30, g56_30, p56_31, g56_31, g56_32, g56_33, g56_34, p56_35, g56_35, p56_36, g56_36, p56_37, g56_37, p56_38, g56_38, g56_39, g56_40, g56_41, p56_42, g56_42, p56_43, g56_43, p56_44, g56_44, ck56, A57, S57, l57, A58, S58, l58, A59, S59, l59, A60, S60, l60, A61, S61, l61, A62, S62, l62, A63, S63, l63, A64, S64, l64, A65, S65, l65, A66, S66, l66, A67, S67, l67, A68, S68, l68, A69, S69, l69, A70, S70, l70, A71, S71, l71, A72, S72, l72, A73, S73, l73, A74, S74, l74, A75, S75, l75, A76, S76, l76, A77, S77, l77, A78, S78, l78, L0, L1, L2, L3, L4, L5, L6, L7, L8, L9, L10, L11, L12, L13, L14, L15, L16, L17, L18, L19, L20, L21, L22, L23, L24, L25, L26, L27, L28, L29, L30, L31, L32, L33, L34, L35, L36, L37, L38, L39, L40, L41, L42, L43, L44, L45, L46, L47, L48, L49, L50, L52, L57, L60, L90, L91, L93, L97, L99, L100, L101, L122, L240, L255, L256, L400, L401, L408, L409, L410, L411, L412, L413, L414, L420, L1000, L1001, L1103, L1200, L1240, L2820, L5220, L7936, L10440, L12345, L1000000, L1000003, L1073741823, L59, L61, L62, L200, nd_lt_t, nd_lt_f, nd_le_t, nd_le_f, nd_eq_f, nZ_add, nZ_mul, nZ_sub, nZ_lt, nZ_le, nZ_eq, nZ_nat, nZ_div, nZ_rem, nZ_and, nZ_or, and31, nZ_shl, nZ_shr, nZ_m1, nZ_nneg, nZ_nneg', nZ_nlt, nZ_ltn, inR_lt, Nat.not_lt_zero, ob_some, jI, jL, jR, jV, rI0, rI1, rIv, if_true, if_false, ↓reduceIte, Nat.reduceAdd, Nat.reduceMul, Nat.reduceSub, Nat.reduceLT, Nat.reduceEqDiff, Nat.reduceLeDiff, Nat.zero_add, Nat.add_zero, Nat.zero_mul, Nat.mul_zero, Nat.one_mul, Nat.mul_one, and_true, true_and, false_and, and_false, or_true, true_or, or_false, false_or, not_true_eq_false, not_false_eq_true, eq_self, bI_0, bI_1, em_b, hI_ne, hI_at, hA_ne, hA_at, Sh_si, Sh_sA]
theorem m272s {h : QH} {W : Nat → Nat} {o : Option (List CL)} (X : MX h W o) (d a n day p : Nat) (lv : Nat → Nat) (s : WkS) (B : Nat) (hB : B < 900) (ha : a < 5) (hn : 1 ≤ n ∧ n ≤ 8) (hday : day < 7) (hp : p < n) (hlv : ∀ q, q < n → lv q ≤ 9) (i : WkI lv n B s) (hw : wM h n lv s) : ∃ k, qbig (d + 103) 272 129 [sR (some 56), sI (nZ a), none, sI (nZ day), sI (nZ s.2.2.1), sI (nZ p), none, none, none] [] h = qbig (d + 103) 272 129 [sR (some 56), sI (nZ a), none, sI (nZ day), sI (nZ (wk1 W o a n day lv p s).2.2.1), sI (nZ (p + 1)), none, none, none] [] k ∧ Fr fJ h k ∧ wM k n lv (wk1 W o a n day lv p s) := by
  have H := X.1
  obtain ⟨w1, w4, w2, w5, w6⟩ := id hw
  obtain ⟨i1, i2, i3, i4, i5⟩ := id i
  have x3 := w5 p hp
  have b0 := hlv p hp
  have lt1 : nZ p < nZ n := by
    rw [nZ_lt (by omega) (by omega)]
    exact hp
  have z00 : nZ 0 = (0 : Int32) := rfl
  have z10 : ¬(nZ 1 = (0 : Int32)) := by decide
  have ix : (5 : Int32) * nZ p = nZ (5 * p) := by rw [L5, nZ_mul]
  have ip : nZ p + 1 = nZ (p + 1) := by rw [L1, nZ_add]
  have q201 := n201 X.mm (d + 100) (p := p) (k := day) (by omega) (by omega)
  by_cases c0 : lv p = 0
  · have ew : wk1 W o a n day lv p s = s := by
      unfold wk1
      rw [if_pos (Or.inl c0)]
    rw [ew]
    refine ⟨h, ?_, Fr.refl, hw⟩
    rw [c0] at x3
    rw [E272_129, g56_42 H, ob_some, w1, if_pos lt1, g56_23 H, ob_some, ob_some, ix, A68 H (by omega), ob_some, x3, if_pos (show nZ 0 < 1 by decide), ip]
  have ge1 : ¬(nZ (lv p) < 1) := by
    rw [L1, nZ_lt (by omega) (by decide)]
    omega
  by_cases c1 : (W (4 * p + 3)).testBit day = true
  · have ew : wk1 W o a n day lv p s = s := by
      unfold wk1
      rw [if_pos (Or.inr c1)]
    rw [ew]
    refine ⟨h, ?_, Fr.refl, hw⟩
    rw [bI_t c1] at q201
    rw [E272_129, g56_42 H, ob_some, w1, if_pos lt1, g56_23 H, ob_some, ob_some, ix, A68 H (by omega), ob_some, x3, if_neg ge1, q201, jI, if_neg z10, ip]
  rw [bI_f c1] at q201
  have ed := m181 H (d + 101) s.1 n i1 (by omega) w4
  have hq := Nat.mod_lt (dr s.1) (show n > 0 by omega)
  have Fd : Fr fJ h (hsI h 56 44 (nZ (dr s.1))) := Fr.si rfl Fr.refl
  have X1 := X.fr Fd (fun j => rfl)
  have H1 := X1.1
  have r201 := fun e : dr s.1 % n < n => n201 X1.mm (d + 100) (p := dr s.1 % n) (k := day) (by omega) (by omega)
  have r223 := fun e : dr s.1 % n < n => n223 X1.mm (d + 100) (p := p) (k := dr s.1 % n) (by omega) (by omega)
  have r196 := fun e : dr s.1 % n < n => m196 (d + 101) s.2.2.1 (dr s.1 % n) (hsI h 56 44 (nZ (dr s.1))) (by omega) (by omega)
  replace r201 := r201 hq
  replace r223 := r223 hq
  replace r196 := r196 hq
  have hw1 : wM (hsI h 56 44 (nZ (dr s.1))) n lv (dr s.1, s.2.1, s.2.2.1, s.2.2.2) := by
    refine ⟨?_, ?_, ?_, ?_, ?_⟩
    · rw [hI_ne (by decide)]
      exact w1
    · rw [hI_at rfl]
    · rw [hI_ne (by decide)]
      exact w2
    · intro x hx
      rw [hI_ne (by omega)]
      exact w5 x hx
    · intro x hx
      rw [hI_ne (by omega)]
      exact w6 x hx
  have ew : wk1 W o a n day lv p s = (if dr s.1 % n = p ∨ (W (4 * (dr s.1 % n) + 3)).testBit day = true ∨ (W (32 + p)).testBit (dr s.1 % n) = false ∨ s.2.2.1.testBit (dr s.1 % n) = true then (dr s.1, s.2.1, s.2.2.1, s.2.2.2) else
      (dr (dr s.1), up s.2.1 (dr s.1 % n) (max (lv (dr s.1 % n)) (if dr (dr s.1) % 100 < tw o 3 (wq W a day lv p (dr s.1 % n)) 0 then tw o 1 (wq W a day lv p (dr s.1 % n)) (lv p - 1) - 1 else tw o 1 (wq W a day lv p (dr s.1 % n)) (lv p - 1))), s.2.2.1 ||| 1 <<< (dr s.1 % n), s.2.2.2 + (if dr (dr s.1) % 100 < tw o 3 (wq W a day lv p (dr s.1 % n)) 0 then 1 else 0))) := by
    unfold wk1
    rw [if_neg (fun z => z.elim c0 c1)]
  have i1' := dr_lt s.1
  generalize dr s.1 % n = q at *
  by_cases c2 : q = p
  · rw [if_pos (Or.inl c2)] at ew
    rw [ew]
    refine ⟨_, ?_, Fd, hw1⟩
    subst c2
    rw [E272_129, g56_42 H, ob_some, w1, if_pos lt1, g56_23 H, ob_some, ob_some, ix, A68 H (by omega), ob_some, x3, if_neg ge1, q201, jI, if_pos z00, g56_42 H, ob_some, w1, ed, jI, if_pos rfl, ip]
  have cf : ¬(nZ q = nZ p) := by
    rw [nZ_eq (by omega) (by omega)]
    exact c2
  by_cases c3 : (W (4 * q + 3)).testBit day = true
  · rw [if_pos (Or.inr (Or.inl c3))] at ew
    rw [ew]
    refine ⟨_, ?_, Fd, hw1⟩
    rw [bI_t c3] at r201
    rw [E272_129, g56_42 H, ob_some, w1, if_pos lt1, g56_23 H, ob_some, ob_some, ix, A68 H (by omega), ob_some, x3, if_neg ge1, q201, jI, if_pos z00, g56_42 H, ob_some, w1, ed, jI, if_neg cf, r201, jI, if_neg z10, ip]
  rw [bI_f c3] at r201
  by_cases c4 : (W (32 + p)).testBit q = true
  case neg =>
    rw [if_pos (Or.inr (Or.inr (Or.inl (by simpa using c4))))] at ew
    rw [ew]
    refine ⟨_, ?_, Fd, hw1⟩
    rw [bI_f c4] at r223
    rw [E272_129, g56_42 H, ob_some, w1, if_pos lt1, g56_23 H, ob_some, ob_some, ix, A68 H (by omega), ob_some, x3, if_neg ge1, q201, jI, if_pos z00, g56_42 H, ob_some, w1, ed, jI, if_neg cf, r201, jI, if_pos z00, r223, jI, if_pos z00, ip]
  rw [bI_t c4] at r223
  by_cases c5 : s.2.2.1.testBit q = true
  · rw [if_pos (Or.inr (Or.inr (Or.inr c5)))] at ew
    rw [ew]
    refine ⟨_, ?_, Fd, hw1⟩
    rw [bI_t c5] at r196
    rw [E272_129, g56_42 H, ob_some, w1, if_pos lt1, g56_23 H, ob_some, ob_some, ix, A68 H (by omega), ob_some, x3, if_neg ge1, q201, jI, if_pos z00, g56_42 H, ob_some, w1, ed, jI, if_neg cf, r201, jI, if_pos z00, r223, jI, if_neg z10, r196, jI, if_neg z10, ip]
  rw [bI_f c5] at r196
  rw [if_neg (fun z => by
    rcases z with z | z | z | z
    · exact c2 z
    · exact c3 z
    · rw [c4] at z; cases z
    · exact c5 z)] at ew
  rw [ew]
  have hlq := hlv q hq
  have hsq : s.2.1 q = lv q := i5 q hq (by simpa using c5)
  obtain ⟨v1, v4, v2, v5, v6⟩ := hw1
  have y3 := v5 p hp
  have y8 := v5 q hq
  obtain ⟨h2, e170, F2, q2⟩ := m170 X1 (d + 100) a day 1 p (lv p) q (lv q) (by omega) (by omega) ha (by omega) (by omega) (by omega) (by decide)
  have X2 := X1.fr F2 (fun j => rfl)
  have H2 := X2.1
  have u4 : hI h2 56 44 = nZ (dr s.1) := (F2.2 56 44 rfl).trans v4
  have ed2 := m181 H2 (d + 101) (dr s.1) 100 i1' (by decide) u4
  have F3 : Fr fJ h2 (hsI h2 56 44 (nZ (dr (dr s.1)))) := Fr.si rfl Fr.refl
  have X3 := X2.fr F3 (fun j => rfl)
  have H3 := X3.1
  have q3 : mQ (hsI h2 56 44 (nZ (dr (dr s.1)))) (wq W a day lv p q) := by
    intro j hj
    rw [hI_ne (by omega)]
    exact q2 j hj
  have g3 : ∀ b j, (b ≠ 56 ∨ j ≠ 44) → hI (hsI h2 56 44 (nZ (dr (dr s.1)))) b j = hI h2 b j := fun b j hb => hI_ne hb
  have g34 : hI (hsI h2 56 44 (nZ (dr (dr s.1)))) 56 44 = nZ (dr (dr s.1)) := hI_at rfl
  generalize hsI h2 56 44 (nZ (dr (dr s.1))) = h3 at *
  obtain ⟨h4, e278, F4⟩ := m278e X3 q3 d
  have X4 := X3.fr F4 (fun j => rfl)
  have H4 := X4.1
  have q4 : mQ h4 (wq W a day lv p q) := by
    intro j hj
    rw [F4.2 67 j rfl]
    exact q3 j hj
  obtain ⟨h5, e193, F5⟩ := m193e X4 q4 d
  have H5 := F5.Sh H4
  have q0 : wq W a day lv p q 0 - 1 = lv p - 1 := rfl
  rw [q0] at e193
  have bW : tw o 3 (wq W a day lv p q) 0 ≤ 100 := tw_le (by decide) (by decide)
  have bL : tw o 1 (wq W a day lv p q) (lv p - 1) ≤ 9 := tw_le (by decide) (by omega)
  have f35 : ∀ b j, fE b j = false → hI h5 b j = hI h3 b j := fun b j hb => (F5.2 b j hb).trans (F4.2 b j hb)
  have F15 : Fr fJ h h5 := ((Fd.trans (F2.mono fQ_J)).trans F3).trans ((F4.trans F5).mono fE_J)
  have z42 : hI h5 56 42 = nZ n := by
    rw [f35 56 42 rfl, g3 56 42 (by decide), F2.2 56 42 rfl]
    exact v1
  have z43 : hI h5 56 43 = nZ s.2.2.2 := by
    rw [f35 56 43 rfl, g3 56 43 (by decide), F2.2 56 43 rfl]
    exact v2
  have z44 : hI h5 56 44 = nZ (dr (dr s.1)) := by
    rw [f35 56 44 rfl]
    exact g34
  have z68 : ∀ x, x < n → hI h5 68 (5 * x) = nZ (lv x) := fun x hx => by
    rw [f35 68 _ rfl, g3 68 _ (by omega), F2.2 68 _ rfl]
    exact v5 x hx
  have z69 : ∀ x, x < n → hI h5 69 (5 * x) = nZ (s.2.1 x) := fun x hx => by
    rw [f35 69 _ rfl, g3 69 _ (by omega), F2.2 69 _ rfl]
    exact v6 x hx
  generalize tw o 3 (wq W a day lv p q) 0 = wv at *
  generalize tw o 1 (wq W a day lv p q) (lv p - 1) = lvl at *
  have b100 := Nat.mod_lt (dr (dr s.1)) (show 100 > 0 by decide)
  have e170' : qcl (d + 102) 170 [qR (some 56), qI (nZ p), qI (nZ (lv p)), qI (nZ q), qI (nZ (lv q)), qI (nZ a), qI (nZ day), qI 1] (hsI h 56 44 (nZ (dr s.1))) = some (none, h2) := e170
  have ed2' : qcl (d + 102) 181 [qR (some 56), qI 100] h2 = some (some (qI (nZ (dr (dr s.1) % 100))), h3) := ed2
  have es : nZ s.2.2.1 ||| ((1 : Int32) <<< (nZ q &&& 31)) = nZ (s.2.2.1 ||| 1 <<< q) := by
    rw [L31, nZ_and, and31 (by omega), L1, nZ_shl (by omega), nZ_or]
  have ix2 : (5 : Int32) * nZ q = nZ (5 * q) := by rw [L5, nZ_mul]
  have z69q := z69 q hq
  rw [hsq] at z69q
  have st : ∀ f, (f = 0 ∨ f = 1) → Fr fJ h (hsI (hsI h5 56 43 (nZ (s.2.2.2 + f))) 69 (5 * q) (nZ (max (lv q) (if f = 0 then lvl else lvl - 1)))) ∧ wM (hsI (hsI h5 56 43 (nZ (s.2.2.2 + f))) 69 (5 * q) (nZ (max (lv q) (if f = 0 then lvl else lvl - 1)))) n lv (dr (dr s.1), up s.2.1 q (max (lv q) (if f = 0 then lvl else lvl - 1)), s.2.2.1 ||| 1 <<< q, s.2.2.2 + f) := by
    intro f hf
    refine ⟨Fr.si rfl (Fr.si rfl F15), ?_, ?_, ?_, ?_, ?_⟩
    · rw [hI_ne (by omega), hI_ne (by decide)]
      exact z42
    · rw [hI_ne (by omega), hI_ne (by decide)]
      exact z44
    · rw [hI_ne (by omega), hI_at rfl]
    · intro x hx
      rw [hI_ne (by omega), hI_ne (by omega)]
      exact z68 x hx
    · intro x hx
      by_cases c : x = q
      · rw [c, hI_at rfl]
        show _ = nZ (up s.2.1 q _ q)
        rw [up_at rfl]
      · rw [hI_ne (by omega), hI_ne (by omega)]
        show _ = nZ (up s.2.1 q _ x)
        rw [up_ne c]
        exact z69 x hx
  by_cases cw : dr (dr s.1) % 100 < wv
  · rw [if_pos cw, if_pos cw]
    have cz : nZ (dr (dr s.1) % 100) < nZ wv := by
      rw [nZ_lt (by omega) (by omega)]
      exact cw
    have e279 := m272_279 H5 d a day (s.2.2.1 ||| 1 <<< q) p q 1 lvl s.2.2.2 (lv q) (by omega) (by omega) (Or.inr rfl) bL hlq (by omega) z43 z69q
    refine ⟨_, ?_, (st 1 (Or.inr rfl)).1, (st 1 (Or.inr rfl)).2⟩
    rw [← e279]
    rw [E272_129, g56_42 H, ob_some, w1, if_pos lt1, g56_23 H, ob_some, ob_some, ix, A68 H (by omega), ob_some, x3, if_neg ge1, q201, jI, if_pos z00, g56_42 H, ob_some, w1, ed, jI, if_neg cf, r201, jI, if_pos z00, r223, jI, if_neg z10, r196, jI, if_pos z00, g56_23 H1, ob_some, ob_some, A68 H1 (by omega), ob_some, y3, ob_some, ob_some, ix2, A68 H1 (by omega), ob_some, y8, e170', jV, ed2', jI, e278, jI, if_pos cz, e193, jI, es]
    rfl
  · rw [if_neg cw, if_neg cw]
    have cz : ¬(nZ (dr (dr s.1) % 100) < nZ wv) := by
      rw [nZ_lt (by omega) (by omega)]
      exact cw
    have e279 := m272_279 H5 d a day (s.2.2.1 ||| 1 <<< q) p q 0 lvl s.2.2.2 (lv q) (by omega) (by omega) (Or.inl rfl) bL hlq (by omega) z43 z69q
    refine ⟨_, ?_, (st 0 (Or.inl rfl)).1, (st 0 (Or.inl rfl)).2⟩
    rw [← e279]
    rw [E272_129, g56_42 H, ob_some, w1, if_pos lt1, g56_23 H, ob_some, ob_some, ix, A68 H (by omega), ob_some, x3, if_neg ge1, q201, jI, if_pos z00, g56_42 H, ob_some, w1, ed, jI, if_neg cf, r201, jI, if_pos z00, r223, jI, if_neg z10, r196, jI, if_pos z00, g56_23 H1, ob_some, ob_some, A68 H1 (by omega), ob_some, y3, ob_some, ob_some, ix2, A68 H1 (by omega), ob_some, y8, e170', jV, ed2', jI, e278, jI, if_neg cz, e193, jI, es]
    rfl

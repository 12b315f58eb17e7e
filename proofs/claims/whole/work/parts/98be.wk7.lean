/-! the reference's week -/
def fO (c b _j : Nat) : Bool := Nat.beq b c
theorem fO_ne {c b j : Nat} (h : b ≠ c) : fO c b j = false := by
  unfold fO
  cases e : Nat.beq b c
  · rfl
  · exact absurd (Nat.eq_of_beq_eq_true e) h
theorem fO_eq {c b j : Nat} (h : fO c b j = true) : b = c := Nat.eq_of_beq_eq_true h
def fN (b j : Nat) : Bool := (match b with
  | 56 => (match j with
    | 19 => true | 20 => true | 21 => true | 42 => true | 43 => true | 44 => true | _ => false)
  | 67 => true | 68 => true | 69 => true | 78 => true
  | _ => false)
theorem fJ_N (b j : Nat) (h : fJ b j = true) : fN b j = true := by
  by_cases c1 : b = 56
  · subst c1
    unfold fJ at h
    split at h
    · split at h <;> first | rfl | cases h
    · omega
    · omega
    · cases h
  · unfold fJ at h
    split at h
    · omega
    · rfl
    · rfl
    · cases h
theorem fO68_N (b j : Nat) (h : fO 68 b j = true) : fN b j = true := by
  rw [fO_eq h]
  rfl
theorem fO78_N (b j : Nat) (h : fO 78 b j = true) : fN b j = true := by
  rw [fO_eq h]
  rfl
theorem fO69_N (b j : Nat) (h : fO 69 b j = true) : fN b j = true := by
  rw [fO_eq h]
  rfl
theorem m272_51 {W : Nat → Nat} {o : Option (List CL)} (d a n : Nat) (ha : a < 5) (hn : n ≤ 8) : ∀ m p h, p + m = n → MX h W o → hI h 56 42 = nZ n → (∀ q, q < p → hI h 69 (5 * q) = nZ (W (60 + 5 * q + a))) → ∃ k, qbig (d + 103) 272 51 [sR (some 56), sI (nZ a), none, sI (nZ p), none, none, none, none, none] [] h = qbig (d + 103) 272 81 [sR (some 56), sI (nZ a), none, sI (nZ 0), none, none, none, none, none] [] k ∧ Fr (fO 69) h k ∧ ∀ q, q < n → hI k 69 (5 * q) = nZ (W (60 + 5 * q + a))
  | 0, p, h, e, X, w1, w => by
    have e' : p = n := by omega
    subst e'
    have H := X.1
    refine ⟨h, ?_, Fr.refl, w⟩
    rw [E272_51]
    simp (disch := first | assumption | omega | (simp only [Sh_si, Sh_sA]; assumption)) only [w1, p56_0, g56_0, p56_1, g56_1, g56_2, g56_3, g56_4, g56_5, p56_6, g56_6, g56_7, g56_8, g56_9, p56_10, g56_10, p56_11, g56_11, g56_12, g56_13, g56_14, p56_15, g56_15, p56_16, g56_16, p56_17, g56_17, p56_18, g56_18, p56_19, g56_19, p56_20, g56_20, B56_21, g56_21, g56_22, g56_23, g56_24, g56_25, g56_26, g56_27, p56_28, g56_28, p56_29, g56_29, p56_30, g56_30, p56_31, g56_31, g56_32, g56_33, g56_34, p56_35, g56_35, p56_36, g56_36, p56_37, g56_37, p56_38, g56_38, g56_39, g56_40, g56_41, p56_42, g56_42, p56_43, g56_43, p56_44, g56_44, ck56, A57, S57, l57, A58, S58, l58, A59, S59, l59, A60, S60, l60, A61, S61, l61, A62, S62, l62, A63, S63, l63, A64, S64, l64, A65, S65, l65, A66, S66, l66, A67, S67, l67, A68, S68, l68, A69, S69, l69, A70, S70, l70, A71, S71, l71, A72, S72, l72, A73, S73, l73, A74, S74, l74, A75, S75, l75, A76, S76, l76, A77, S77, l77, A78, S78, l78, L0, L1, L2, L3, L4, L5, L6, L7, L8, L9, L10, L11, L12, L13, L14, L15, L16, L17, L18, L19, L20, L21, L22, L23, L24, L25, L26, L27, L28, L29, L30, L31, L32, L33, L34, L35, L36, L37, L38, L39, L40, L41, L42, L43, L44, L45, L46, L47, L48, L49, L50, L52, L57, L60, L90, L91, L93, L97, L99, L100, L101, L122, L240, L255, L256, L400, L401, L408, L409, L410, L411, L412, L413, L414, L420, L1000, L1001, L1103, L1200, L1240, L2820, L5220, L7936, L10440, L12345, L1000000, L1000003, L1073741823, L59, L61, L62, L200, nd_lt_t, nd_lt_f, nd_le_t, nd_le_f, nd_eq_f, nZ_add, nZ_mul, nZ_sub, nZ_lt, nZ_le, nZ_eq, nZ_nat, nZ_div, nZ_rem, nZ_and, nZ_or, and31, nZ_shl, nZ_shr, nZ_m1, nZ_nneg, nZ_nneg', nZ_nlt, nZ_ltn, inR_lt, Nat.not_lt_zero, ob_some, jI, jL, jR, jV, rI0, rI1, rIv, if_true, if_false, ↓reduceIte, Nat.reduceAdd, Nat.reduceMul, Nat.reduceSub, Nat.reduceLT, Nat.reduceEqDiff, Nat.reduceLeDiff, Nat.zero_add, Nat.add_zero, Nat.zero_mul, Nat.mul_zero, Nat.one_mul, Nat.mul_one, and_true, true_and, false_and, and_false, or_true, true_or, or_false, false_or, not_true_eq_false, not_false_eq_true, eq_self, bI_0, bI_1, em_b, hI_ne, hI_at, hA_ne, hA_at, Sh_si, Sh_sA]
  | m + 1, p, h, e, X, w1, w => by
    have H := X.1
    have F1 : Fr (fO 69) h (hsI h 69 (5 * p) (nZ (W (60 + 5 * p + a)))) := Fr.si rfl Fr.refl
    obtain ⟨k, ek, Fk, Wk⟩ := m272_51 d a n ha hn m (p + 1) _ (by omega) (X.fr F1 (fun j => rfl)) (by rw [hI_ne (by omega)]; exact w1) (by
      intro q hq
      by_cases c : q = p
      · rw [c, hI_at rfl]
      · rw [hI_ne (by omega)]
        exact w q (by omega))
    refine ⟨k, ?_, F1.trans Fk, Wk⟩
    rw [← ek]
    have e212 := n212 X.mm (d + 101) (p := p) (a := a) (by omega) ha
    rw [E272_51]
    simp (disch := first | assumption | omega | (simp only [Sh_si, Sh_sA]; assumption)) only [w1, e212, p56_0, g56_0, p56_1, g56_1, g56_2, g56_3, g56_4, g56_5, p56_6, g56_6, g56_7, g56_8, g56_9, p56_10, g56_10, p56_11, g56_11, g56_12, g56_13, g56_14, p56_15, g56_15, p56_16, g56_16, p56_17, g56_17, p56_18, g56_18, p56_19, g56_19, p56_20, g56_20, B56_21, g56_21, g56_22, g56_23, g56_24, g56_25, g56_26, g56_27, p56_28, g56_28, p56_29, g56_29, p56_30, g56_30, p56_31, g56_31, g56_32, g56_33, g56_34, p56_35, g56_35, p56_36, g56_36, p56_37, g56_37, p56_38, g56_38, g56_39, g56_40, g56_41, p56_42, g56_42, p56_43, g56_43, p56_44, g56_44, ck56, A57, S57, l57, A58, S58, l58, A59, S59, l59, A60, S60, l60, A61, S61, l61, A62, S62, l62, A63, S63, l63, A64, S64, l64, A65, S65, l65, A66, S66, l66, A67, S67, l67, A68, S68, l68, A69, S69, l69, A70, S70, l70, A71, S71, l71, A72, S72, l72, A73, S73, l73, A74, S74, l74, A75, S75, l75, A76, S76, l76, A77, S77, l77, A78, S78, l78, L0, L1, L2, L3, L4, L5, L6, L7, L8, L9, L10, L11, L12, L13, L14, L15, L16, L17, L18, L19, L20, L21, L22, L23, L24, L25, L26, L27, L28, L29, L30, L31, L32, L33, L34, L35, L36, L37, L38, L39, L40, L41, L42, L43, L44, L45, L46, L47, L48, L49, L50, L52, L57, L60, L90, L91, L93, L97, L99, L100, L101, L122, L240, L255, L256, L400, L401, L408, L409, L410, L411, L412, L413, L414, L420, L1000, L1001, L1103, L1200, L1240, L2820, L5220, L7936, L10440, L12345, L1000000, L1000003, L1073741823, L59, L61, L62, L200, nd_lt_t, nd_lt_f, nd_le_t, nd_le_f, nd_eq_f, nZ_add, nZ_mul, nZ_sub, nZ_lt, nZ_le, nZ_eq, nZ_nat, nZ_div, nZ_rem, nZ_and, nZ_or, and31, nZ_shl, nZ_shr, nZ_m1, nZ_nneg, nZ_nneg', nZ_nlt, nZ_ltn, inR_lt, Nat.not_lt_zero, ob_some, jI, jL, jR, jV, rI0, rI1, rIv, if_true, if_false, ↓reduceIte, Nat.reduceAdd, Nat.reduceMul, Nat.reduceSub, Nat.reduceLT, Nat.reduceEqDiff, Nat.reduceLeDiff, Nat.zero_add, Nat.add_zero, Nat.zero_mul, Nat.mul_zero, Nat.one_mul, Nat.mul_one, and_true, true_and, false_and, and_false, or_true, true_or, or_false, false_or, not_true_eq_false, not_false_eq_true, eq_self, bI_0, bI_1, em_b, hI_ne, hI_at, hA_ne, hA_at, Sh_si, Sh_sA]
theorem m272_90 (d a n day : Nat) (lv : Nat → Nat) (hn : n ≤ 8) : ∀ m p h, p + m = n → Sh h → hI h 56 42 = nZ n → (∀ q, q < n → hI h 69 (5 * q) = nZ (lv q)) → (∀ q, q < p → hI h 68 (5 * q) = nZ (lv q)) → ∃ k, qbig (d + 103) 272 90 [sR (some 56), sI (nZ a), none, sI (nZ day), sI (nZ p), none, none, none, none] [] h = qbig (d + 103) 272 129 [sR (some 56), sI (nZ a), none, sI (nZ day), sI (nZ 0), sI (nZ 0), none, none, none] [] k ∧ Fr (fO 68) h k ∧ ∀ q, q < n → hI k 68 (5 * q) = nZ (lv q)
  | 0, p, h, e, H, w1, v, w => by
    have e' : p = n := by omega
    subst e'
    refine ⟨h, ?_, Fr.refl, w⟩
    rw [E272_90]
    simp (disch := first | assumption | omega | (simp only [Sh_si, Sh_sA]; assumption)) only [w1, p56_0, g56_0, p56_1, g56_1, g56_2, g56_3, g56_4, g56_5, p56_6, g56_6, g56_7, g56_8, g56_9, p56_10, g56_10, p56_11, g56_11, g56_12, g56_13, g56_14, p56_15, g56_15, p56_16, g56_16, p56_17, g56_17, p56_18, g56_18, p56_19, g56_19, p56_20, g56_20, B56_21, g56_21, g56_22, g56_23, g56_24, g56_25, g56_26, g56_27, p56_28, g56_28, p56_29, g56_29, p56_30, g56_30, p56_31, g56_31, g56_32, g56_33, g56_34, p56_35, g56_35, p56_36, g56_36, p56_37, g56_37, p56_38, g56_38, g56_39, g56_40, g56_41, p56_42, g56_42, p56_43, g56_43, p56_44, g56_44, ck56, A57, S57, l57, A58, S58, l58, A59, S59, l59, A60, S60, l60, A61, S61, l61, A62, S62, l62, A63, S63, l63, A64, S64, l64, A65, S65, l65, A66, S66, l66, A67, S67, l67, A68, S68, l68, A69, S69, l69, A70, S70, l70, A71, S71, l71, A72, S72, l72, A73, S73, l73, A74, S74, l74, A75, S75, l75, A76, S76, l76, A77, S77, l77, A78, S78, l78, L0, L1, L2, L3, L4, L5, L6, L7, L8, L9, L10, L11, L12, L13, L14, L15, L16, L17, L18, L19, L20, L21, L22, L23, L24, L25, L26, L27, L28, L29, L30, L31, L32, L33, L34, L35, L36, L37, L38, L39, L40, L41, L42, L43, L44, L45, L46, L47, L48, L49, L50, L52, L57, L60, L90, L91, L93, L97, L99, L100, L101, L122, L240, L255, L256, L400, L401, L408, L409, L410, L411, L412, L413, L414, L420, L1000, L1001, L1103, L1200, L1240, L2820, L5220, L7936, L10440, L12345, L1000000, L1000003, L1073741823, L59, L61, L62, L200, nd_lt_t, nd_lt_f, nd_le_t, nd_le_f, nd_eq_f, nZ_add, nZ_mul, nZ_sub, nZ_lt, nZ_le, nZ_eq, nZ_nat, nZ_div, nZ_rem, nZ_and, nZ_or, and31, nZ_shl, nZ_shr, nZ_m1, nZ_nneg, nZ_nneg', nZ_nlt, nZ_ltn, inR_lt, Nat.not_lt_zero, ob_some, jI, jL, jR, jV, rI0, rI1, rIv, if_true, if_false, ↓reduceIte, Nat.reduceAdd, Nat.reduceMul, Nat.reduceSub, Nat.reduceLT, Nat.reduceEqDiff, Nat.reduceLeDiff, Nat.zero_add, Nat.add_zero, Nat.zero_mul, Nat.mul_zero, Nat.one_mul, Nat.mul_one, and_true, true_and, false_and, and_false, or_true, true_or, or_false, false_or, not_true_eq_false, not_false_eq_true, eq_self, bI_0, bI_1, em_b, hI_ne, hI_at, hA_ne, hA_at, Sh_si, Sh_sA]
  | m + 1, p, h, e, H, w1, v, w => by
    have F1 : Fr (fO 68) h (hsI h 68 (5 * p) (nZ (lv p))) := Fr.si rfl Fr.refl
    obtain ⟨k, ek, Fk, Wk⟩ := m272_90 d a n day lv hn m (p + 1) _ (by omega) (F1.Sh H) (by rw [hI_ne (by omega)]; exact w1) (by
      intro q hq
      rw [hI_ne (by omega)]
      exact v q hq) (by
      intro q hq
      by_cases c : q = p
      · rw [c, hI_at rfl]
      · rw [hI_ne (by omega)]
        exact w q (by omega))
    refine ⟨k, ?_, F1.trans Fk, Wk⟩
    rw [← ek]
    have vp := v p (by omega)
    rw [E272_90]
    simp (disch := first | assumption | omega | (simp only [Sh_si, Sh_sA]; assumption)) only [w1, vp, p56_0, g56_0, p56_1, g56_1, g56_2, g56_3, g56_4, g56_5, p56_6, g56_6, g56_7, g56_8, g56_9, p56_10, g56_10, p56_11, g56_11, g56_12, g56_13, g56_14, p56_15, g56_15, p56_16, g56_16, p56_17, g56_17, p56_18, g56_18, p56_19, g56_19, p56_20, g56_20, B56_21, g56_21, g56_22, g56_23, g56_24, g56_25, g56_26, g56_27, p56_28, g56_28, p56_29, g56_29, p56_30, g56_30, p56_31, g56_31, g56_32, g56_33, g56_34, p56_35, g56_35, p56_36, g56_36, p56_37, g56_37, p56_38, g56_38, g56_39, g56_40, g56_41, p56_42, g56_42, p56_43, g56_43, p56_44, g56_44, ck56, A57, S57, l57, A58, S58, l58, A59, S59, l59, A60, S60, l60, A61, S61, l61, A62, S62, l62, A63, S63, l63, A64, S64, l64, A65, S65, l65, A66, S66, l66, A67, S67, l67, A68, S68, l68, A69, S69, l69, A70, S70, l70, A71, S71, l71, A72, S72, l72, A73, S73, l73, A74, S74, l74, A75, S75, l75, A76, S76, l76, A77, S77, l77, A78, S78, l78, L0, L1, L2, L3, L4, L5, L6, L7, L8, L9, L10, L11, L12, L13, L14, L15, L16, L17, L18, L19, L20, L21, L22, L23, L24, L25, L26, L27, L28, L29, L30, L31, L32, L33, L34, L35, L36, L37, L38, L39, L40, L41, L42, L43, L44, L45, L46, L47, L48, L49, L50, L52, L57, L60, L90, L91, L93, L97, L99, L100, L101, L122, L240, L255, L256, L400, L401, L408, L409, L410, L411, L412, L413, L414, L420, L1000, L1001, L1103, L1200, L1240, L2820, L5220, L7936, L10440, L12345, L1000000, L1000003, L1073741823, L59, L61, L62, L200, nd_lt_t, nd_lt_f, nd_le_t, nd_le_f, nd_eq_f, nZ_add, nZ_mul, nZ_sub, nZ_lt, nZ_le, nZ_eq, nZ_nat, nZ_div, nZ_rem, nZ_and, nZ_or, and31, nZ_shl, nZ_shr, nZ_m1, nZ_nneg, nZ_nneg', nZ_nlt, nZ_ltn, inR_lt, Nat.not_lt_zero, ob_some, jI, jL, jR, jV, rI0, rI1, rIv, if_true, if_false, ↓reduceIte, Nat.reduceAdd, Nat.reduceMul, Nat.reduceSub, Nat.reduceLT, Nat.reduceEqDiff, Nat.reduceLeDiff, Nat.zero_add, Nat.add_zero, Nat.zero_mul, Nat.mul_zero, Nat.one_mul, Nat.mul_one, and_true, true_and, false_and, and_false, or_true, true_or, or_false, false_or, not_true_eq_false, not_false_eq_true, eq_self, bI_0, bI_1, em_b, hI_ne, hI_at, hA_ne, hA_at, Sh_si, Sh_sA]
theorem m272_342 (d a n day : Nat) (lv : Nat → Nat) (hn : n ≤ 8) (hday : day < 7) : ∀ m p h, p + m = n → Sh h → hI h 56 42 = nZ n → (∀ q, q < n → hI h 69 (5 * q) = nZ (lv q)) → (∀ q, q < p → hI h 78 (8 * day + q) = nZ (lv q)) → ∃ k, qbig (d + 103) 272 342 [sR (some 56), sI (nZ a), none, sI (nZ day), none, sI (nZ p), none, none, none] [] h = qbig (d + 103) 272 81 [sR (some 56), sI (nZ a), none, sI (nZ (day + 1)), none, none, none, none, none] [] k ∧ Fr (fO 78) h k ∧ (∀ j, (j < 8 * day ∨ 8 * day + 8 ≤ j) → hI k 78 j = hI h 78 j) ∧ ∀ q, q < n → hI k 78 (8 * day + q) = nZ (lv q)
  | 0, p, h, e, H, w1, v, w => by
    have e' : p = n := by omega
    subst e'
    refine ⟨h, ?_, Fr.refl, fun j _ => rfl, w⟩
    rw [E272_342]
    simp (disch := first | assumption | omega | (simp only [Sh_si, Sh_sA]; assumption)) only [w1, p56_0, g56_0, p56_1, g56_1, g56_2, g56_3, g56_4, g56_5, p56_6, g56_6, g56_7, g56_8, g56_9, p56_10, g56_10, p56_11, g56_11, g56_12, g56_13, g56_14, p56_15, g56_15, p56_16, g56_16, p56_17, g56_17, p56_18, g56_18, p56_19, g56_19, p56_20, g56_20, B56_21, g56_21, g56_22, g56_23, g56_24, g56_25, g56_26, g56_27, p56_28, g56_28, p56_29, g56_29, p56_30, g56_30, p56_31, g56_31, g56_32, g56_33, g56_34, p56_35, g56_35, p56_36, g56_36, p56_37, g56_37, p56_38, g56_38, g56_39, g56_40, g56_41, p56_42, g56_42, p56_43, g56_43, p56_44, g56_44, ck56, A57, S57, l57, A58, S58, l58, A59, S59, l59, A60, S60, l60, A61, S61, l61, A62, S62, l62, A63, S63, l63, A64, S64, l64, A65, S65, l65, A66, S66, l66, A67, S67, l67, A68, S68, l68, A69, S69, l69, A70, S70, l70, A71, S71, l71, A72, S72, l72, A73, S73, l73, A74, S74, l74, A75, S75, l75, A76, S76, l76, A77, S77, l77, A78, S78, l78, L0, L1, L2, L3, L4, L5, L6, L7, L8, L9, L10, L11, L12, L13, L14, L15, L16, L17, L18, L19, L20, L21, L22, L23, L24, L25, L26, L27, L28, L29, L30, L31, L32, L33, L34, L35, L36, L37, L38, L39, L40, L41, L42, L43, L44, L45, L46, L47, L48, L49, L50, L52, L57, L60, L90, L91, L93, L97, L99, L100, L101, L122, L240, L255, L256, L400, L401, L408, L409, L410, L411, L412, L413, L414, L420, L1000, L1001, L1103, L1200, L1240, L2820, L5220, L7936, L10440, L12345, L1000000, L1000003, L1073741823, L59, L61, L62, L200, nd_lt_t, nd_lt_f, nd_le_t, nd_le_f, nd_eq_f, nZ_add, nZ_mul, nZ_sub, nZ_lt, nZ_le, nZ_eq, nZ_nat, nZ_div, nZ_rem, nZ_and, nZ_or, and31, nZ_shl, nZ_shr, nZ_m1, nZ_nneg, nZ_nneg', nZ_nlt, nZ_ltn, inR_lt, Nat.not_lt_zero, ob_some, jI, jL, jR, jV, rI0, rI1, rIv, if_true, if_false, ↓reduceIte, Nat.reduceAdd, Nat.reduceMul, Nat.reduceSub, Nat.reduceLT, Nat.reduceEqDiff, Nat.reduceLeDiff, Nat.zero_add, Nat.add_zero, Nat.zero_mul, Nat.mul_zero, Nat.one_mul, Nat.mul_one, and_true, true_and, false_and, and_false, or_true, true_or, or_false, false_or, not_true_eq_false, not_false_eq_true, eq_self, bI_0, bI_1, em_b, hI_ne, hI_at, hA_ne, hA_at, Sh_si, Sh_sA]
  | m + 1, p, h, e, H, w1, v, w => by
    have F1 : Fr (fO 78) h (hsI h 78 (8 * day + p) (nZ (lv p))) := Fr.si rfl Fr.refl
    obtain ⟨k, ek, Fk, Ok, Wk⟩ := m272_342 d a n day lv hn hday m (p + 1) _ (by omega) (F1.Sh H) (by rw [hI_ne (by omega)]; exact w1) (by
      intro q hq
      rw [hI_ne (by omega)]
      exact v q hq) (by
      intro q hq
      by_cases c : q = p
      · rw [c, hI_at rfl]
      · rw [hI_ne (by omega)]
        exact w q (by omega))
    refine ⟨k, ?_, F1.trans Fk, ?_, Wk⟩
    · rw [← ek]
      have vp := v p (by omega)
      rw [E272_342]
      simp (disch := first | assumption | omega | (simp only [Sh_si, Sh_sA]; assumption)) only [w1, vp, p56_0, g56_0, p56_1, g56_1, g56_2, g56_3, g56_4, g56_5, p56_6, g56_6, g56_7, g56_8, g56_9, p56_10, g56_10, p56_11, g56_11, g56_12, g56_13, g56_14, p56_15, g56_15, p56_16, g56_16, p56_17, g56_17, p56_18, g56_18, p56_19, g56_19, p56_20, g56_20, B56_21, g56_21, g56_22, g56_23, g56_24, g56_25, g56_26, g56_27, p56_28, g56_28, p56_29, g56_29, p56_30, g56_30, p56_31, g56_31, g56_32, g56_33, g56_34, p56_35, g56_35, p56_36, g56_36, p56_37, g56_37, p56_38, g56_38, g56_39, g56_40, g56_41, p56_42, g56_42, p56_43, g56_43, p56_44, g56_44, ck56, A57, S57, l57, A58, S58, l58, A59, S59, l59, A60, S60, l60, A61, S61, l61, A62, S62, l62, A63, S63, l63, A64, S64, l64, A65, S65, l65, A66, S66, l66, A67, S67, l67, A68, S68, l68, A69, S69, l69, A70, S70, l70, A71, S71, l71, A72, S72, l72, A73, S73, l73, A74, S74, l74, A75, S75, l75, A76, S76, l76, A77, S77, l77, A78, S78, l78, L0, L1, L2, L3, L4, L5, L6, L7, L8, L9, L10, L11, L12, L13, L14, L15, L16, L17, L18, L19, L20, L21, L22, L23, L24, L25, L26, L27, L28, L29, L30, L31, L32, L33, L34, L35, L36, L37, L38, L39, L40, L41, L42, L43, L44, L45, L46, L47, L48, L49, L50, L52, L57, L60, L90, L91, L93, L97, L99, L100, L101, L122, L240, L255, L256, L400, L401, L408, L409, L410, L411, L412, L413, L414, L420, L1000, L1001, L1103, L1200, L1240, L2820, L5220, L7936, L10440, L12345, L1000000, L1000003, L1073741823, L59, L61, L62, L200, nd_lt_t, nd_lt_f, nd_le_t, nd_le_f, nd_eq_f, nZ_add, nZ_mul, nZ_sub, nZ_lt, nZ_le, nZ_eq, nZ_nat, nZ_div, nZ_rem, nZ_and, nZ_or, and31, nZ_shl, nZ_shr, nZ_m1, nZ_nneg, nZ_nneg', nZ_nlt, nZ_ltn, inR_lt, Nat.not_lt_zero, ob_some, jI, jL, jR, jV, rI0, rI1, rIv, if_true, if_false, ↓reduceIte, Nat.reduceAdd, Nat.reduceMul, Nat.reduceSub, Nat.reduceLT, Nat.reduceEqDiff, Nat.reduceLeDiff, Nat.zero_add, Nat.add_zero, Nat.zero_mul, Nat.mul_zero, Nat.one_mul, Nat.mul_one, and_true, true_and, false_and, and_false, or_true, true_or, or_false, false_or, not_true_eq_false, not_false_eq_true, eq_self, bI_0, bI_1, em_b, hI_ne, hI_at, hA_ne, hA_at, Sh_si, Sh_sA]
    · intro j hj
      rw [Ok j hj, hI_ne (by omega)]
theorem m272_129 {W : Nat → Nat} {o : Option (List CL)} (d a n day : Nat) (lv : Nat → Nat) (s : WkS) (B : Nat) (hB : B < 800) (ha : a < 5) (hn : n ≤ 8) (hday : day < 7) (hlv : ∀ q, q < n → lv q ≤ 9) (i : WkI lv n B s) : ∀ m p h, p + m = n → MX h W o → wM h n lv (wkD W o a n day lv s p) → ∃ k, qbig (d + 103) 272 129 [sR (some 56), sI (nZ a), none, sI (nZ day), sI (nZ (wkD W o a n day lv s p).2.2.1), sI (nZ p), none, none, none] [] h = qbig (d + 103) 272 342 [sR (some 56), sI (nZ a), none, sI (nZ day), none, sI (nZ 0), none, none, none] [] k ∧ Fr fJ h k ∧ wM k n lv (wkD W o a n day lv s n)
  | 0, p, h, e, X, w => by
    have e' : p = n := by omega
    subst e'
    have H := X.1
    have w1 := w.1
    refine ⟨h, ?_, Fr.refl, w⟩
    have lt1 : ¬(nZ p < nZ p) := by
      rw [nZ_lt (by omega) (by omega)]
      omega
    rw [E272_129, g56_42 H, ob_some, w1, if_neg lt1]
    rfl
  | m + 1, p, h, e, X, w => by
    obtain ⟨k, ek, Fk, Wk⟩ := m272s X d a n day p lv (wkD W o a n day lv s p) (B + p) (by omega) ha ⟨by omega, hn⟩ hday (by omega) hlv (wkD_I hn hlv i p (by omega)) w
    obtain ⟨k2, ek2, Fk2, Wk2⟩ := m272_129 d a n day lv s B hB ha hn hday hlv i m (p + 1) k (by omega) (X.fr Fk (fun j => rfl)) Wk
    exact ⟨k2, ek.trans ek2, Fk.trans Fk2, Wk2⟩

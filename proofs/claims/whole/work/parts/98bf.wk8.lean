/-- behind k days, the reference -/
def wE (h : QH) (n k : Nat) (V : Nat → Nat × (Nat → Nat) × Nat) : Prop := hI h 56 42 = nZ n ∧ hI h 56 44 = nZ (V k).1 ∧ hI h 56 43 = nZ (V k).2.2 ∧ (∀ q, q < n → hI h 69 (5 * q) = nZ ((V k).2.1 q)) ∧ ∀ i, i < k → ∀ q, q < n → hI h 78 (8 * i + q) = nZ ((V (i + 1)).2.1 q)
theorem m272_81 {W : Nat → Nat} {o : Option (List CL)} (d a n seed : Nat) (ha : a < 5) (hn : n ≤ 8) (hs : seed < 1000003) (hk : ∀ q, q < n → W (60 + 5 * q + a) ≤ 9) : ∀ m day h, day + m = 7 → MX h W o → wE h n day (wkW W o a n seed) → ∃ k, qbig (d + 103) 272 81 [sR (some 56), sI (nZ a), none, sI (nZ day), none, none, none, none, none] [] h = qbig (d + 103) 272 389 [sR (some 56), none, none, sI (nZ 0), sI (nZ 0), none, none, none, none] [] k ∧ Fr fN h k ∧ wE k n 7 (wkW W o a n seed)
  | 0, day, h, e, X, w => by
    have e' : day = 7 := by omega
    subst e'
    have H := X.1
    refine ⟨h, ?_, Fr.refl, w⟩
    rw [E272_81]
    simp (disch := first | assumption | omega | (simp only [Sh_si, Sh_sA]; assumption)) only [p56_0, g56_0, p56_1, g56_1, g56_2, g56_3, g56_4, g56_5, p56_6, g56_6, g56_7, g56_8, g56_9, p56_10, g56_10, p56_11, g56_11, g56_12, g56_13, g56_14, p56_15, g56_15, p56_16, g56_16, p56_17, g56_17, p56_18, g56_18, p56_19, g56_19, p56_20, g56_20, B56_21, g56_21, g56_22, g56_23, g56_24, g56_25, g56_26, g56_27, p56_28, g56_28, p56_29, g56_29, p56_30, g56_30, p56_31, g56_31, g56_32, g56_33, g56_34, p56_35, g56_35, p56_36, g56_36, p56_37, g56_37, p56_38, g56_38, g56_39, g56_40, g56_41, p56_42, g56_42, p56_43, g56_43, p56_44, g56_44, ck56, A57, S57, l57, A58, S58, l58, A59, S59, l59, A60, S60, l60, A61, S61, l61, A62, S62, l62, A63, S63, l63, A64, S64, l64, A65, S65, l65, A66, S66, l66, A67, S67, l67, A68, S68, l68, A69, S69, l69, A70, S70, l70, A71, S71, l71, A72, S72, l72, A73, S73, l73, A74, S74, l74, A75, S75, l75, A76, S76, l76, A77, S77, l77, A78, S78, l78, L0, L1, L2, L3, L4, L5, L6, L7, L8, L9, L10, L11, L12, L13, L14, L15, L16, L17, L18, L19, L20, L21, L22, L23, L24, L25, L26, L27, L28, L29, L30, L31, L32, L33, L34, L35, L36, L37, L38, L39, L40, L41, L42, L43, L44, L45, L46, L47, L48, L49, L50, L52, L57, L60, L90, L91, L93, L97, L99, L100, L101, L122, L240, L255, L256, L400, L401, L408, L409, L410, L411, L412, L413, L414, L420, L1000, L1001, L1103, L1200, L1240, L2820, L5220, L7936, L10440, L12345, L1000000, L1000003, L1073741823, L59, L61, L62, L200, nd_lt_t, nd_lt_f, nd_le_t, nd_le_f, nd_eq_f, nZ_add, nZ_mul, nZ_sub, nZ_lt, nZ_le, nZ_eq, nZ_nat, nZ_div, nZ_rem, nZ_and, nZ_or, and31, nZ_shl, nZ_shr, nZ_m1, nZ_nneg, nZ_nneg', nZ_nlt, nZ_ltn, inR_lt, Nat.not_lt_zero, ob_some, jI, jL, jR, jV, rI0, rI1, rIv, if_true, if_false, ↓reduceIte, Nat.reduceAdd, Nat.reduceMul, Nat.reduceSub, Nat.reduceLT, Nat.reduceEqDiff, Nat.reduceLeDiff, Nat.zero_add, Nat.add_zero, Nat.zero_mul, Nat.mul_zero, Nat.one_mul, Nat.mul_one, and_true, true_and, false_and, and_false, or_true, true_or, or_false, false_or, not_true_eq_false, not_false_eq_true, eq_self, bI_0, bI_1, em_b, hI_ne, hI_at, hA_ne, hA_at, Sh_si, Sh_sA]
  | m + 1, day, h, e, X, w => by
    have H := X.1
    obtain ⟨i1, i2, i3⟩ := wkW_I (W := W) (o := o) (a := a) hn hs hk day (by omega)
    obtain ⟨w1, w4, w2, w5, w6⟩ := w
    obtain ⟨h1, e1, F1, V1⟩ := m272_90 d a n day (wkW W o a n seed day).2.1 hn n 0 h (by omega) H w1 w5 (fun q hq => by omega)
    have X1 := X.fr F1 (fun j => rfl)
    have iS : WkI (wkW W o a n seed day).2.1 n (8 * day) ((wkW W o a n seed day).1, (wkW W o a n seed day).2.1, 0, (wkW W o a n seed day).2.2) := ⟨i1, i2, (by decide : (0 : Nat) < 256), i3, fun _ _ _ => rfl⟩
    have wm : wM h1 n (wkW W o a n seed day).2.1 ((wkW W o a n seed day).1, (wkW W o a n seed day).2.1, 0, (wkW W o a n seed day).2.2) := by
      refine ⟨?_, ?_, ?_, V1, ?_⟩
      · rw [F1.2 56 42 rfl]
        exact w1
      · rw [F1.2 56 44 rfl]
        exact w4
      · rw [F1.2 56 43 rfl]
        exact w2
      · intro q hq
        rw [F1.2 69 _ rfl]
        exact w5 q hq
    obtain ⟨h2, e2, F2, V2⟩ := m272_129 d a n day (wkW W o a n seed day).2.1 _ (8 * day) (by omega) ha hn (by omega) i2 iS n 0 h1 (by omega) X1 wm
    have X2 := X1.fr F2 (fun j => rfl)
    obtain ⟨v1, v4, v2, v5, v6⟩ := V2
    obtain ⟨h3, e3, F3, O3, V3⟩ := m272_342 d a n day _ hn (by omega) n 0 h2 (by omega) X2.1 v1 v6 (fun q hq => by omega)
    have X3 := X2.fr F3 (fun j => rfl)
    have we : wE h3 n (day + 1) (wkW W o a n seed) := by
      refine ⟨?_, ?_, ?_, ?_, ?_⟩
      · rw [F3.2 56 42 rfl]
        exact v1
      · rw [F3.2 56 44 rfl]
        exact v4
      · rw [F3.2 56 43 rfl]
        exact v2
      · intro q hq
        rw [F3.2 69 _ rfl]
        exact v6 q hq
      · intro i hi q hq
        by_cases c : i = day
        · subst c
          exact V3 q hq
        · rw [O3 _ (by omega), F2.2 78 _ rfl, F1.2 78 _ rfl]
          exact w6 i (by omega) q hq
    obtain ⟨k, ek, Fk, Wk⟩ := m272_81 d a n seed ha hn hs hk m (day + 1) h3 (by omega) X3 we
    refine ⟨k, ?_, (((F1.mono fO68_N).trans (F2.mono fJ_N)).trans (F3.mono fO78_N)).trans Fk, Wk⟩
    have ee : qbig (d + 103) 272 90 [sR (some 56), sI (nZ a), none, sI (nZ day), sI (nZ 0), none, none, none, none] [] h = qbig (d + 103) 272 389 [sR (some 56), none, none, sI (nZ 0), sI (nZ 0), none, none, none, none] [] k := ((e1.trans e2).trans e3).trans ek
    rw [← ee]
    have lt1 : nZ day < 7 := by
      rw [L7, nZ_lt (by omega) (by decide)]
      omega
    rw [E272_81, if_pos lt1]
    rfl
theorem m272_389 {h : QH} (H : Sh h) (d n : Nat) (f : Nat → Nat) (hn : n ≤ 8) (w1 : hI h 56 42 = nZ n) (w : ∀ q, q < n → hI h 69 (5 * q) = nZ (f q)) (hf : ∀ q, q < n → f q ≤ 9) : ∀ m p, p + m = n → qbig (d + 103) 272 389 [sR (some 56), none, none, sI (nZ (wkN f p)), sI (nZ p), none, none, none, none] [] h = some (some (qI (nZ (wkN f n))), okM' h)
  | 0, p, e => by
    have e' : p = n := by omega
    subst e'
    rw [E272_389]
    simp (disch := first | assumption | omega | (simp only [Sh_si, Sh_sA]; assumption)) only [w1, m190, p56_0, g56_0, p56_1, g56_1, g56_2, g56_3, g56_4, g56_5, p56_6, g56_6, g56_7, g56_8, g56_9, p56_10, g56_10, p56_11, g56_11, g56_12, g56_13, g56_14, p56_15, g56_15, p56_16, g56_16, p56_17, g56_17, p56_18, g56_18, p56_19, g56_19, p56_20, g56_20, B56_21, g56_21, g56_22, g56_23, g56_24, g56_25, g56_26, g56_27, p56_28, g56_28, p56_29, g56_29, p56_30, g56_30, p56_31, g56_31, g56_32, g56_33, g56_34, p56_35, g56_35, p56_36, g56_36, p56_37, g56_37, p56_38, g56_38, g56_39, g56_40, g56_41, p56_42, g56_42, p56_43, g56_43, p56_44, g56_44, ck56, A57, S57, l57, A58, S58, l58, A59, S59, l59, A60, S60, l60, A61, S61, l61, A62, S62, l62, A63, S63, l63, A64, S64, l64, A65, S65, l65, A66, S66, l66, A67, S67, l67, A68, S68, l68, A69, S69, l69, A70, S70, l70, A71, S71, l71, A72, S72, l72, A73, S73, l73, A74, S74, l74, A75, S75, l75, A76, S76, l76, A77, S77, l77, A78, S78, l78, L0, L1, L2, L3, L4, L5, L6, L7, L8, L9, L10, L11, L12, L13, L14, L15, L16, L17, L18, L19, L20, L21, L22, L23, L24, L25, L26, L27, L28, L29, L30, L31, L32, L33, L34, L35, L36, L37, L38, L39, L40, L41, L42, L43, L44, L45, L46, L47, L48, L49, L50, L52, L57, L60, L90, L91, L93, L97, L99, L100, L101, L122, L240, L255, L256, L400, L401, L408, L409, L410, L411, L412, L413, L414, L420, L1000, L1001, L1103, L1200, L1240, L2820, L5220, L7936, L10440, L12345, L1000000, L1000003, L1073741823, L59, L61, L62, L200, nd_lt_t, nd_lt_f, nd_le_t, nd_le_f, nd_eq_f, nZ_add, nZ_mul, nZ_sub, nZ_lt, nZ_le, nZ_eq, nZ_nat, nZ_div, nZ_rem, nZ_and, nZ_or, and31, nZ_shl, nZ_shr, nZ_m1, nZ_nneg, nZ_nneg', nZ_nlt, nZ_ltn, inR_lt, Nat.not_lt_zero, ob_some, jI, jL, jR, jV, rI0, rI1, rIv, if_true, if_false, ↓reduceIte, Nat.reduceAdd, Nat.reduceMul, Nat.reduceSub, Nat.reduceLT, Nat.reduceEqDiff, Nat.reduceLeDiff, Nat.zero_add, Nat.add_zero, Nat.zero_mul, Nat.mul_zero, Nat.one_mul, Nat.mul_one, and_true, true_and, false_and, and_false, or_true, true_or, or_false, false_or, not_true_eq_false, not_false_eq_true, eq_self, bI_0, bI_1, em_b, hI_ne, hI_at, hA_ne, hA_at, Sh_si, Sh_sA]
  | m + 1, p, e => by
    have ih := m272_389 H d n f hn w1 w hf m (p + 1) (by omega)
    have x4 := w p (by omega)
    have b4 := hf p (by omega)
    have b5 := wkN_le f p
    by_cases c : 0 < f p
    · have ew : wkN f (p + 1) = wkN f p + 1 := by
        show wkN f p + (if 0 < f p then 1 else 0) = _
        rw [if_pos c]
      rw [ew] at ih
      rw [E272_389]
      simp (disch := first | assumption | omega | (simp only [Sh_si, Sh_sA]; assumption)) only [w1, x4, ih, p56_0, g56_0, p56_1, g56_1, g56_2, g56_3, g56_4, g56_5, p56_6, g56_6, g56_7, g56_8, g56_9, p56_10, g56_10, p56_11, g56_11, g56_12, g56_13, g56_14, p56_15, g56_15, p56_16, g56_16, p56_17, g56_17, p56_18, g56_18, p56_19, g56_19, p56_20, g56_20, B56_21, g56_21, g56_22, g56_23, g56_24, g56_25, g56_26, g56_27, p56_28, g56_28, p56_29, g56_29, p56_30, g56_30, p56_31, g56_31, g56_32, g56_33, g56_34, p56_35, g56_35, p56_36, g56_36, p56_37, g56_37, p56_38, g56_38, g56_39, g56_40, g56_41, p56_42, g56_42, p56_43, g56_43, p56_44, g56_44, ck56, A57, S57, l57, A58, S58, l58, A59, S59, l59, A60, S60, l60, A61, S61, l61, A62, S62, l62, A63, S63, l63, A64, S64, l64, A65, S65, l65, A66, S66, l66, A67, S67, l67, A68, S68, l68, A69, S69, l69, A70, S70, l70, A71, S71, l71, A72, S72, l72, A73, S73, l73, A74, S74, l74, A75, S75, l75, A76, S76, l76, A77, S77, l77, A78, S78, l78, L0, L1, L2, L3, L4, L5, L6, L7, L8, L9, L10, L11, L12, L13, L14, L15, L16, L17, L18, L19, L20, L21, L22, L23, L24, L25, L26, L27, L28, L29, L30, L31, L32, L33, L34, L35, L36, L37, L38, L39, L40, L41, L42, L43, L44, L45, L46, L47, L48, L49, L50, L52, L57, L60, L90, L91, L93, L97, L99, L100, L101, L122, L240, L255, L256, L400, L401, L408, L409, L410, L411, L412, L413, L414, L420, L1000, L1001, L1103, L1200, L1240, L2820, L5220, L7936, L10440, L12345, L1000000, L1000003, L1073741823, L59, L61, L62, L200, nd_lt_t, nd_lt_f, nd_le_t, nd_le_f, nd_eq_f, nZ_add, nZ_mul, nZ_sub, nZ_lt, nZ_le, nZ_eq, nZ_nat, nZ_div, nZ_rem, nZ_and, nZ_or, and31, nZ_shl, nZ_shr, nZ_m1, nZ_nneg, nZ_nneg', nZ_nlt, nZ_ltn, inR_lt, Nat.not_lt_zero, ob_some, jI, jL, jR, jV, rI0, rI1, rIv, if_true, if_false, ↓reduceIte, Nat.reduceAdd, Nat.reduceMul, Nat.reduceSub, Nat.reduceLT, Nat.reduceEqDiff, Nat.reduceLeDiff, Nat.zero_add, Nat.add_zero, Nat.zero_mul, Nat.mul_zero, Nat.one_mul, Nat.mul_one, and_true, true_and, false_and, and_false, or_true, true_or, or_false, false_or, not_true_eq_false, not_false_eq_true, eq_self, bI_0, bI_1, em_b, hI_ne, hI_at, hA_ne, hA_at, Sh_si, Sh_sA]
    · have ew : wkN f (p + 1) = wkN f p := by
        show wkN f p + (if 0 < f p then 1 else 0) = _
        rw [if_neg c]
        rfl
      rw [ew] at ih
      rw [E272_389]
      simp (disch := first | assumption | omega | (simp only [Sh_si, Sh_sA]; assumption)) only [w1, x4, ih, p56_0, g56_0, p56_1, g56_1, g56_2, g56_3, g56_4, g56_5, p56_6, g56_6, g56_7, g56_8, g56_9, p56_10, g56_10, p56_11, g56_11, g56_12, g56_13, g56_14, p56_15, g56_15, p56_16, g56_16, p56_17, g56_17, p56_18, g56_18, p56_19, g56_19, p56_20, g56_20, B56_21, g56_21, g56_22, g56_23, g56_24, g56_25, g56_26, g56_27, p56_28, g56_28, p56_29, g56_29, p56_30, g56_30, p56_31, g56_31, g56_32, g56_33, g56_34, p56_35, g56_35, p56_36, g56_36, p56_37, g56_37, p56_38, g56_38, g56_39, g56_40, g56_41, p56_42, g56_42, p56_43, g56_43, p56_44, g56_44, ck56, A57, S57, l57, A58, S58, l58, A59, S59, l59, A60, S60, l60, A61, S61, l61, A62, S62, l62, A63, S63, l63, A64, S64, l64, A65, S65, l65, A66, S66, l66, A67, S67, l67, A68, S68, l68, A69, S69, l69, A70, S70, l70, A71, S71, l71, A72, S72, l72, A73, S73, l73, A74, S74, l74, A75, S75, l75, A76, S76, l76, A77, S77, l77, A78, S78, l78, L0, L1, L2, L3, L4, L5, L6, L7, L8, L9, L10, L11, L12, L13, L14, L15, L16, L17, L18, L19, L20, L21, L22, L23, L24, L25, L26, L27, L28, L29, L30, L31, L32, L33, L34, L35, L36, L37, L38, L39, L40, L41, L42, L43, L44, L45, L46, L47, L48, L49, L50, L52, L57, L60, L90, L91, L93, L97, L99, L100, L101, L122, L240, L255, L256, L400, L401, L408, L409, L410, L411, L412, L413, L414, L420, L1000, L1001, L1103, L1200, L1240, L2820, L5220, L7936, L10440, L12345, L1000000, L1000003, L1073741823, L59, L61, L62, L200, nd_lt_t, nd_lt_f, nd_le_t, nd_le_f, nd_eq_f, nZ_add, nZ_mul, nZ_sub, nZ_lt, nZ_le, nZ_eq, nZ_nat, nZ_div, nZ_rem, nZ_and, nZ_or, and31, nZ_shl, nZ_shr, nZ_m1, nZ_nneg, nZ_nneg', nZ_nlt, nZ_ltn, inR_lt, Nat.not_lt_zero, ob_some, jI, jL, jR, jV, rI0, rI1, rIv, if_true, if_false, ↓reduceIte, Nat.reduceAdd, Nat.reduceMul, Nat.reduceSub, Nat.reduceLT, Nat.reduceEqDiff, Nat.reduceLeDiff, Nat.zero_add, Nat.add_zero, Nat.zero_mul, Nat.mul_zero, Nat.one_mul, Nat.mul_one, and_true, true_and, false_and, and_false, or_true, true_or, or_false, false_or, not_true_eq_false, not_false_eq_true, eq_self, bI_0, bI_1, em_b, hI_ne, hI_at, hA_ne, hA_at, Sh_si, Sh_sA]
theorem m272 {h : QH} {W : Nat → Nat} {o : Option (List CL)} (X : MX h W o) (d a seed : Nat) (ha : a < W 409) (hs : seed ≤ 1000000) (i9 : ltN (nZ a) (W 409)) (i0 : inR (nZ seed) 0 1000000) : ∃ k, qcl (d + 103) 272 [qR (some 56), qI (nZ a), qI (nZ seed)] h = some (some (qI (nZ (wkN (wkW W o a (W 408) seed 7).2.1 (W 408)))), okM' k) ∧ Fr fN h k ∧ wE k (W 408) 7 (wkW W o a (W 408) seed) := by
  have H := X.1
  have M1 := X.mm
  have n8 := M1.n8
  have n5 := M1.n5
  have hk : ∀ q, q < W 408 → W (60 + 5 * q + a) ≤ 9 := fun q hq => X.2.2.1.bK (by omega) (by omega)
  obtain ⟨i1, i2, i3⟩ := wkW_I (W := W) (o := o) (a := a) n8 (show seed < 1000003 by omega) hk 7 (by decide)
  have F0 : Fr fN h (hsI h 56 44 (nZ seed)) := Fr.si rfl Fr.refl
  have M0 := (X.fr F0 (fun j => rfl)).mm
  have e232 := n232 M0 (d + 101)
  generalize eh : hsI (hsI (hsI h 56 44 (nZ seed)) 56 42 (nZ (W 408))) 56 43 (nZ 0) = h1
  have F1 : Fr fN h h1 := by
    rw [← eh]
    exact (Fr.si rfl (Fr.si rfl (Fr.si rfl Fr.refl)))
  have v42 : hI h1 56 42 = nZ (W 408) := by
    rw [← eh]
    simp (disch := omega) only [okM', okC', rfC, rfM, hI_ne, hI_at, hA_ne, hA_at]
  have v43 : hI h1 56 43 = nZ 0 := by
    rw [← eh]
    simp (disch := omega) only [okM', okC', rfC, rfM, hI_ne, hI_at, hA_ne, hA_at]
  have v44 : hI h1 56 44 = nZ seed := by
    rw [← eh]
    simp (disch := omega) only [okM', okC', rfC, rfM, hI_ne, hI_at, hA_ne, hA_at]
  have X1 := X.fr F1 (fun j => rfl)
  obtain ⟨h2, e2, F2, W2⟩ := m272_51 d a (W 408) (by omega) n8 (W 408) 0 h1 (by omega) X1 v42 (fun q hq => by omega)
  have X2 := X1.fr F2 (fun j => rfl)
  have we : wE h2 (W 408) 0 (wkW W o a (W 408) seed) := by
    refine ⟨?_, ?_, ?_, W2, fun i hi => by omega⟩
    · rw [F2.2 56 42 rfl]
      exact v42
    · rw [F2.2 56 44 rfl]
      exact v44
    · rw [F2.2 56 43 rfl]
      exact v43
  obtain ⟨h3, e3, F3, W3⟩ := m272_81 d a (W 408) seed (by omega) n8 (by omega) hk 7 0 h2 (by omega) X2 we
  have H3 := F3.Sh X2.1
  have e4 := m272_389 H3 d (W 408) (wkW W o a (W 408) seed 7).2.1 n8 W3.1 W3.2.2.2.1 i2 (W 408) 0 (by omega)
  refine ⟨h3, ?_, (F1.trans (F2.mono fO69_N)).trans F3, W3⟩
  have e5 := (e2.trans e3).trans e4
  rw [← eh] at e5
  have e200 := n200 M1 (d + 100) (nZ a)
  have e218 := m218 (d + 101) (nZ seed) 0 1000000 (by decide) (by decide) h
  rw [bI_t i9] at e200
  rw [bI_t i0] at e218
  rw [E272]
  simp (disch := first | assumption | omega | (simp only [Sh_si, Sh_sA]; assumption)) only [L1000000, e218, e200, e232, e5, p56_0, g56_0, p56_1, g56_1, g56_2, g56_3, g56_4, g56_5, p56_6, g56_6, g56_7, g56_8, g56_9, p56_10, g56_10, p56_11, g56_11, g56_12, g56_13, g56_14, p56_15, g56_15, p56_16, g56_16, p56_17, g56_17, p56_18, g56_18, p56_19, g56_19, p56_20, g56_20, B56_21, g56_21, g56_22, g56_23, g56_24, g56_25, g56_26, g56_27, p56_28, g56_28, p56_29, g56_29, p56_30, g56_30, p56_31, g56_31, g56_32, g56_33, g56_34, p56_35, g56_35, p56_36, g56_36, p56_37, g56_37, p56_38, g56_38, g56_39, g56_40, g56_41, p56_42, g56_42, p56_43, g56_43, p56_44, g56_44, ck56, A57, S57, l57, A58, S58, l58, A59, S59, l59, A60, S60, l60, A61, S61, l61, A62, S62, l62, A63, S63, l63, A64, S64, l64, A65, S65, l65, A66, S66, l66, A67, S67, l67, A68, S68, l68, A69, S69, l69, A70, S70, l70, A71, S71, l71, A72, S72, l72, A73, S73, l73, A74, S74, l74, A75, S75, l75, A76, S76, l76, A77, S77, l77, A78, S78, l78, L0, L1, L2, L3, L4, L5, L6, L7, L8, L9, L10, L11, L12, L13, L14, L15, L16, L17, L18, L19, L20, L21, L22, L23, L24, L25, L26, L27, L28, L29, L30, L31, L32, L33, L34, L35, L36, L37, L38, L39, L40, L41, L42, L43, L44, L45, L46, L47, L48, L49, L50, L52, L57, L60, L90, L91, L93, L97, L99, L100, L101, L122, L240, L255, L256, L400, L401, L408, L409, L410, L411, L412, L413, L414, L420, L1000, L1001, L1103, L1200, L1240, L2820, L5220, L7936, L10440, L12345, L1000000, L1000003, L1073741823, L59, L61, L62, L200, nd_lt_t, nd_lt_f, nd_le_t, nd_le_f, nd_eq_f, nZ_add, nZ_mul, nZ_sub, nZ_lt, nZ_le, nZ_eq, nZ_nat, nZ_div, nZ_rem, nZ_and, nZ_or, and31, nZ_shl, nZ_shr, nZ_m1, nZ_nneg, nZ_nneg', nZ_nlt, nZ_ltn, inR_lt, Nat.not_lt_zero, ob_some, jI, jL, jR, jV, rI0, rI1, rIv, if_true, if_false, ↓reduceIte, Nat.reduceAdd, Nat.reduceMul, Nat.reduceSub, Nat.reduceLT, Nat.reduceEqDiff, Nat.reduceLeDiff, Nat.zero_add, Nat.add_zero, Nat.zero_mul, Nat.mul_zero, Nat.one_mul, Nat.mul_one, and_true, true_and, false_and, and_false, or_true, true_or, or_false, false_or, not_true_eq_false, not_false_eq_true, eq_self, bI_0, bI_1, em_b, hI_ne, hI_at, hA_ne, hA_at, Sh_si, Sh_sA]

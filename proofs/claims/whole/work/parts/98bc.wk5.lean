/-! the reference's told leaves what is asked -/
def fE (b j : Nat) : Bool := (match b with
  | 56 => (match j with
    | 19 => true | 20 => true | 21 => true | _ => false)
  | _ => false)
theorem Fr_evE {h k : QH} {o g b : Nat} (F : Fr fE h k) : Fr fE h (ev k o g b) := Fr.si rfl (Fr.si rfl F)
theorem m271e {h : QH} {W : Nat → Nat} {o : Option (List CL)} {q : Nat → Nat} (H : Sh h) (M : MK h W) (F : LFM W o) (hq : ∀ j, j < 9 → hI h 67 j = nZ (q j) ∧ q j < 1000) (d hd wv : Nat) (hh : 1 ≤ hd ∧ hd ≤ 4) (hwv : wv < 1000) : ∃ h', qcl (d + 101) 271 [qR (some 56), qI (nZ hd), qI (nZ (toLo hd)), qI (nZ (toHi hd)), qI (nZ wv)] h = some (some (qI (nZ (tw o hd q wv))), h') ∧ Fr fE h h' := by
  have e413 : hI h 58 413 = nZ (W 413) - nZ 1 := M 413 (by decide)
  have z01 : nZ 0 - nZ 1 = -nZ 1 := by decide
  rcases F with ⟨f1, f2⟩ | ⟨L, ⟨f1, f1'⟩, f2, f3, f4, f5⟩
  · subst f2
    rw [f1, z01] at e413
    refine ⟨h, ?_, Fr.refl⟩
    have m1 : (-1 : Int32) = -nZ 1 := rfl
    simp (disch := first | assumption | omega | (simp only [Sh_si, Sh_sA]; assumption)) only [E271, e413, m1, p56_0, g56_0, p56_1, g56_1, g56_2, g56_3, g56_4, g56_5, p56_6, g56_6, g56_7, g56_8, g56_9, p56_10, g56_10, p56_11, g56_11, g56_12, g56_13, g56_14, p56_15, g56_15, p56_16, g56_16, p56_17, g56_17, p56_18, g56_18, p56_19, g56_19, p56_20, g56_20, B56_21, g56_21, g56_22, g56_23, g56_24, g56_25, g56_26, g56_27, p56_28, g56_28, p56_29, g56_29, p56_30, g56_30, p56_31, g56_31, g56_32, g56_33, g56_34, p56_35, g56_35, p56_36, g56_36, p56_37, g56_37, p56_38, g56_38, g56_39, g56_40, g56_41, p56_42, g56_42, p56_43, g56_43, p56_44, g56_44, ck56, A57, S57, l57, A58, S58, l58, A59, S59, l59, A60, S60, l60, A61, S61, l61, A62, S62, l62, A63, S63, l63, A64, S64, l64, A65, S65, l65, A66, S66, l66, A67, S67, l67, A68, S68, l68, A69, S69, l69, A70, S70, l70, A71, S71, l71, A72, S72, l72, A73, S73, l73, A74, S74, l74, A75, S75, l75, A76, S76, l76, A77, S77, l77, A78, S78, l78, L0, L1, L2, L3, L4, L5, L6, L7, L8, L9, L10, L11, L12, L13, L14, L15, L16, L17, L18, L19, L20, L21, L22, L23, L24, L25, L26, L27, L28, L29, L30, L31, L32, L33, L34, L35, L36, L37, L38, L39, L40, L41, L42, L43, L44, L45, L46, L47, L48, L49, L50, L52, L57, L60, L90, L91, L93, L97, L99, L100, L101, L122, L240, L255, L256, L400, L401, L408, L409, L410, L411, L412, L413, L414, L420, L1000, L1001, L1103, L1200, L1240, L2820, L5220, L7936, L10440, L12345, L1000000, L1000003, L1073741823, L59, L61, L62, L200, nd_lt_t, nd_lt_f, nd_le_t, nd_le_f, nd_eq_f, nZ_add, nZ_mul, nZ_sub, nZ_lt, nZ_le, nZ_eq, nZ_nat, nZ_div, nZ_rem, nZ_and, nZ_or, and31, nZ_shl, nZ_shr, nZ_m1, nZ_nneg, nZ_nneg', nZ_nlt, nZ_ltn, inR_lt, Nat.not_lt_zero, ob_some, jI, jL, jR, jV, rI0, rI1, rIv, if_true, if_false, ↓reduceIte, Nat.reduceAdd, Nat.reduceMul, Nat.reduceSub, Nat.reduceLT, Nat.reduceEqDiff, Nat.reduceLeDiff, Nat.zero_add, Nat.add_zero, Nat.zero_mul, Nat.mul_zero, Nat.one_mul, Nat.mul_one, and_true, true_and, false_and, and_false, or_true, true_or, or_false, false_or, not_true_eq_false, not_false_eq_true, eq_self, bI_0, bI_1, em_b, hI_ne, hI_at, hA_ne, hA_at, Sh_si, Sh_sA]
    rfl
  · subst f2
    obtain ⟨n, hn⟩ := nZ_sur (hI h 56 21)
    have eF : nZ (W 413) - nZ 1 = nZ (W 413 - 1) := nZ_sub f1
    rw [eF] at e413
    generalize hF : W 413 - 1 = t at *
    have ht : t < 6 := by omega
    have esz : hI h 58 (414 + t) = nZ (W (414 + t)) := M.at (by omega) (by omega)
    have m1 : (-1 : Int32) = -nZ 1 := rfl
    have h2e : hsI (hsI h 56 19 (nZ (400 * t))) 56 20 (nZ (400 * t + W (414 + t))) = ev (hsI (hsI h 56 19 (nZ (400 * t))) 56 20 (nZ (400 * t + W (414 + t)))) (400 * t) 0 n := by
      refine qh_ext rfl rfl rfl ?_ rfl
      intro x y
      unfold ev
      simp only [hI_si]
      by_cases c1 : x = 56 ∧ y = 21
      · rw [if_pos c1, if_neg (by omega), if_neg (by omega), c1.1, c1.2, hn]
      · rw [if_neg c1]
        by_cases c2 : x = 56 ∧ y = 19
        · rw [if_pos c2, if_neg (by omega), if_pos c2]
          rfl
        · rw [if_neg c2, if_neg c2]
    have X : EV (hsI (hsI h 56 19 (nZ (400 * t))) 56 20 (nZ (400 * t + W (414 + t)))) (fun j => W (420 + 400 * t + j)) (fun j => W (2820 + 400 * t + j)) q (W (414 + t)) (400 * t) := by
      refine ⟨H, f3, by omega, hI_at rfl, ?_, ?_, ?_⟩
      · intro j hj
        rw [hI_ne (by omega), hI_ne (by omega), M.at (by omega) (by omega)]
        refine ⟨?_, (f5 j hj).1⟩
        show nZ (W (420 + (400 * t + j))) = nZ (W (420 + 400 * t + j))
        rw [Nat.add_assoc]
      · intro j hj
        rw [hI_ne (by omega), hI_ne (by omega), M.at (by omega) (by omega)]
        show nZ (W (2820 + (400 * t + j))) = nZ (W (2820 + 400 * t + j))
        rw [Nat.add_assoc]
      · intro j hj
        rw [hI_ne (by omega), hI_ne (by omega)]
        exact hq j hj
    obtain ⟨p', b', hr⟩ := m271_61 X (d + 1) hd (toLo hd) (toHi hd) (by omega) (by have := toLH (hd := hd); omega) (toLH (hd := hd)).2 (toLH (hd := hd)).1 12 0 0 0 L f4 (by omega) wv n hwv
    refine ⟨ev (hsI (hsI h 56 19 (nZ (400 * t))) 56 20 (nZ (400 * t + W (414 + t)))) (400 * t) p' b', ?_, Fr_evE (Fr.si rfl (Fr.si rfl Fr.refl))⟩
    rw [← h2e] at hr
    show _ = some (some (qI (nZ (tv L hd (toLo hd) (toHi hd) (fun i => q i) wv))), _)
    rw [← hr]
    simp (disch := first | assumption | omega | (simp only [Sh_si, Sh_sA]; assumption)) only [E271, e413, m1, esz, p56_0, g56_0, p56_1, g56_1, g56_2, g56_3, g56_4, g56_5, p56_6, g56_6, g56_7, g56_8, g56_9, p56_10, g56_10, p56_11, g56_11, g56_12, g56_13, g56_14, p56_15, g56_15, p56_16, g56_16, p56_17, g56_17, p56_18, g56_18, p56_19, g56_19, p56_20, g56_20, B56_21, g56_21, g56_22, g56_23, g56_24, g56_25, g56_26, g56_27, p56_28, g56_28, p56_29, g56_29, p56_30, g56_30, p56_31, g56_31, g56_32, g56_33, g56_34, p56_35, g56_35, p56_36, g56_36, p56_37, g56_37, p56_38, g56_38, g56_39, g56_40, g56_41, p56_42, g56_42, p56_43, g56_43, p56_44, g56_44, ck56, A57, S57, l57, A58, S58, l58, A59, S59, l59, A60, S60, l60, A61, S61, l61, A62, S62, l62, A63, S63, l63, A64, S64, l64, A65, S65, l65, A66, S66, l66, A67, S67, l67, A68, S68, l68, A69, S69, l69, A70, S70, l70, A71, S71, l71, A72, S72, l72, A73, S73, l73, A74, S74, l74, A75, S75, l75, A76, S76, l76, A77, S77, l77, A78, S78, l78, L0, L1, L2, L3, L4, L5, L6, L7, L8, L9, L10, L11, L12, L13, L14, L15, L16, L17, L18, L19, L20, L21, L22, L23, L24, L25, L26, L27, L28, L29, L30, L31, L32, L33, L34, L35, L36, L37, L38, L39, L40, L41, L42, L43, L44, L45, L46, L47, L48, L49, L50, L52, L57, L60, L90, L91, L93, L97, L99, L100, L101, L122, L240, L255, L256, L400, L401, L408, L409, L410, L411, L412, L413, L414, L420, L1000, L1001, L1103, L1200, L1240, L2820, L5220, L7936, L10440, L12345, L1000000, L1000003, L1073741823, L59, L61, L62, L200, nd_lt_t, nd_lt_f, nd_le_t, nd_le_f, nd_eq_f, nZ_add, nZ_mul, nZ_sub, nZ_lt, nZ_le, nZ_eq, nZ_nat, nZ_div, nZ_rem, nZ_and, nZ_or, and31, nZ_shl, nZ_shr, nZ_m1, nZ_nneg, nZ_nneg', nZ_nlt, nZ_ltn, inR_lt, Nat.not_lt_zero, ob_some, jI, jL, jR, jV, rI0, rI1, rIv, if_true, if_false, ↓reduceIte, Nat.reduceAdd, Nat.reduceMul, Nat.reduceSub, Nat.reduceLT, Nat.reduceEqDiff, Nat.reduceLeDiff, Nat.zero_add, Nat.add_zero, Nat.zero_mul, Nat.mul_zero, Nat.one_mul, Nat.mul_one, and_true, true_and, false_and, and_false, or_true, true_or, or_false, false_or, not_true_eq_false, not_false_eq_true, eq_self, bI_0, bI_1, em_b, hI_ne, hI_at, hA_ne, hA_at, Sh_si, Sh_sA]
theorem m193e {h : QH} {W : Nat → Nat} {o : Option (List CL)} (X : MX h W o) {q : Nat → Nat} (hq : mQ h q) (d : Nat) : ∃ h', qcl (d + 102) 193 [qR (some 56)] h = some (some (qI (nZ (tw o 1 q (q 0 - 1)))), h') ∧ Fr fE h h' := by
  have hq0 := hq 0 (by decide)
  have H := X.1
  obtain ⟨h', e1, e2⟩ := m271e X.1 X.2.1 X.2.2.2 hq d 1 (q 0 - 1) (by decide) (by omega)
  refine ⟨h', ?_, e2⟩
  have e1' : qcl (d + 101) 271 [qR (some 56), qI (nZ 1), qI (nZ 0), qI (nZ 9), qI (nZ (q 0 - 1))] h = some (some (qI (nZ (tw o 1 q (q 0 - 1)))), h') := e1
  have g : qcl (d + 101) 191 [qI (nZ 0), qI (nZ (q 0) - nZ 1)] h = some (some (qI (nZ (q 0 - 1))), h) := by
    by_cases c : 1 ≤ q 0
    · rw [nZ_sub c, m191 _ _ _ (by decide) (by omega), Nat.max_eq_right (by omega)]
    · have : q 0 = 0 := by omega
      rw [this]
      have zz : nZ 0 - nZ 1 = -nZ 1 := by decide
      have z2 : (-nZ 1 < nZ 0) = True := by decide
      rw [zz]
      simp only [E191, z2, if_true]
  have hq0' := hq0.1
  simp (disch := first | assumption | decide) only [E193, ck56, ob_some, g56_22, L0, L1, L9, A67, hq0', g, jI, e1']
theorem m278e {h : QH} {W : Nat → Nat} {o : Option (List CL)} (X : MX h W o) {q : Nat → Nat} (hq : mQ h q) (d : Nat) : ∃ h', qcl (d + 102) 278 [qR (some 56)] h = some (some (qI (nZ (tw o 3 q 0))), h') ∧ Fr fE h h' := by
  have H := X.1
  obtain ⟨h', e1, e2⟩ := m271e X.1 X.2.1 X.2.2.2 hq d 3 0 (by decide) (by decide)
  refine ⟨h', ?_, e2⟩
  have e1' : qcl (d + 101) 271 [qR (some 56), qI (nZ 3), qI (nZ 0), qI (nZ 100), qI (nZ 0)] h = some (some (qI (nZ (tw o 3 q 0))), h') := e1
  simp (disch := first | assumption | decide) only [E278, ck56, ob_some, L0, L100, L3, jI, e1']

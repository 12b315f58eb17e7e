def mC (b j : Nat) : Bool := (match b with
  | 56 => (match j with | 10 => true | 11 => true | 15 => true | 16 => true | 17 => true | 18 => true | _ => false)
  | 58 => true | 64 => true | 65 => true | 66 => true | _ => false)
theorem fS_mC (b j : Nat) (h : fS b j = true) : mC b j = true := by
  by_cases c1 : b = 64
  · subst c1; rfl
  · by_cases c2 : b = 65
    · subst c2; rfl
    · by_cases c3 : b = 66
      · subst c3; rfl
      · by_cases c4 : b = 56
        · subst c4
          by_cases j1 : j = 15
          · subst j1; rfl
          · exfalso
            unfold fS at h
            split at h <;> first | omega | (split at h <;> first | omega | cases h) | cases h
        · exfalso
          unfold fS at h
          split at h <;> first | omega | cases h
theorem f58_mC (b j : Nat) (h : f58 b j = true) : mC b j = true := by
  by_cases c1 : b = 58
  · subst c1; rfl
  · exfalso
    unfold f58 at h
    split at h <;> first | omega | cases h
theorem NN_u {T : Nat → Nat} {n N M : Nat} (a : NN T n N) (b : NN T n M) : N = M := by
  obtain ⟨a1, a2, a3⟩ := a
  obtain ⟨b1, b2, b3⟩ := b
  by_cases c1 : N < M
  · have := b3 N c1
    omega
  · by_cases c2 : M < N
    · have := a3 M c2
      omega
    · omega
/-- the picture behind a law -/
def nlW (W : Nat → Nat) (N : Nat) (C V : Nat → Nat) : Nat → Nat := up (lawW W (W 411) N C V N) 411 (W 411 + 1)
theorem m214 {g : QH} (H : Sh g) (wc : WC g) {W T : Nat → Nat} (mk : MK g W) (tp : TP g T) (d n N : Nat) (hn : n ≤ 400) (h10 : hI g 56 10 = nZ n) (n6 : W 411 ≤ 6) (w : NN T n N) : (W 411 = 6 → qcl (d + 65) 214 [qR (some 56)] g = some (some (qI (-nZ 5)), rfM (hsI g 56 10 (nZ 0)) (-nZ 5) 5)) ∧ (W 411 ≠ 6 → (match RL (CT T n) (VT T n) N 12 0 0 0 with
    | .inl e => e ≤ N ∧ ∃ k, qcl (d + 65) 214 [qR (some 56)] g = some (some (qI (-nZ 6)), rfM k (-nZ 6) 6) ∧ Fr mC g k ∧ MK k W ∧ hI k 56 11 = nZ (ts T n e) ∧ hI k 56 10 = nZ 0
    | .inr L => ∃ k, qcl (d + 65) 214 [qR (some 56)] g = some (some (qI (nZ (W 411))), okM' k) ∧ Fr mC g k ∧ MK k (nlW W N (CT T n) (VT T n)) ∧ hI k 56 11 = -nZ 1 ∧ hI k 56 10 = nZ 0)) := by
  have e411 : hI g 58 411 = nZ (W 411) := mk.at (by decide) (by decide)
  have z10 : (nZ 1 = nZ 0) = False := by decide
  refine ⟨?_, ?_⟩
  · intro c6
    have H1 : Sh (hsI g 56 10 (nZ 0)) := H
    have e244 := m244_5 H1 (d + 63)
    have m5 : (-5 : Int32) = -nZ 5 := rfl
    rw [c6] at e411
    simp (disch := first | assumption | omega | (simp only [Sh_si, Sh_sA]; assumption)) only [E214, e411, m5, e244, p56_0, g56_0, p56_1, g56_1, g56_2, g56_3, g56_4, g56_5, p56_6, g56_6, g56_7, g56_8, g56_9, p56_10, g56_10, p56_11, g56_11, g56_12, g56_13, g56_14, p56_15, g56_15, p56_16, g56_16, p56_17, g56_17, p56_18, g56_18, p56_19, g56_19, p56_20, g56_20, B56_21, g56_21, g56_22, g56_23, g56_24, g56_25, g56_26, g56_27, p56_28, g56_28, p56_29, g56_29, p56_30, g56_30, p56_31, g56_31, g56_32, g56_33, g56_34, p56_35, g56_35, p56_36, g56_36, p56_37, g56_37, p56_38, g56_38, g56_39, g56_40, g56_41, p56_42, g56_42, p56_43, g56_43, p56_44, g56_44, ck56, A57, S57, l57, A58, S58, l58, A59, S59, l59, A60, S60, l60, A61, S61, l61, A62, S62, l62, A63, S63, l63, A64, S64, l64, A65, S65, l65, A66, S66, l66, A67, S67, l67, A68, S68, l68, A69, S69, l69, A70, S70, l70, A71, S71, l71, A72, S72, l72, A73, S73, l73, A74, S74, l74, A75, S75, l75, A76, S76, l76, A77, S77, l77, A78, S78, l78, L0, L1, L2, L3, L4, L5, L6, L7, L8, L9, L10, L11, L12, L13, L14, L15, L16, L17, L18, L19, L20, L21, L22, L23, L24, L25, L26, L27, L28, L29, L30, L31, L32, L33, L34, L35, L36, L37, L38, L39, L40, L41, L42, L43, L44, L45, L46, L47, L48, L49, L50, L52, L57, L60, L90, L91, L93, L97, L99, L100, L101, L122, L240, L255, L256, L400, L401, L408, L409, L410, L411, L412, L413, L414, L420, L1000, L1001, L1103, L1200, L1240, L2820, L5220, L7936, L10440, L12345, L1000000, L1000003, L1073741823, L59, L61, L62, L200, nd_lt_t, nd_lt_f, nd_le_t, nd_le_f, nd_eq_f, nZ_add, nZ_mul, nZ_sub, nZ_lt, nZ_le, nZ_eq, nZ_nat, nZ_div, nZ_rem, nZ_and, nZ_or, and31, nZ_shl, nZ_shr, nZ_m1, nZ_nneg, nZ_nneg', nZ_nlt, nZ_ltn, inR_lt, Nat.not_lt_zero, ob_some, jI, jL, jR, jV, rI0, rI1, rIv, if_true, if_false, ↓reduceIte, Nat.reduceAdd, Nat.reduceMul, Nat.reduceSub, Nat.reduceLT, Nat.reduceEqDiff, Nat.reduceLeDiff, Nat.zero_add, Nat.add_zero, Nat.zero_mul, Nat.mul_zero, Nat.one_mul, Nat.mul_one, and_true, true_and, false_and, and_false, or_true, true_or, or_false, false_or, not_true_eq_false, not_false_eq_true, eq_self, bI_0, bI_1, em_b, hI_ne, hI_at, hA_ne, hA_at, Sh_si, Sh_sA]
  · intro c6
    obtain ⟨M, h2, w2, F2, sp, b1, o⟩ := m_reads H wc tp (d + 2) n hn h10
    have hM := NN_u w2 w
    subst hM
    have lt6 : W 411 < 6 := by omega
    have n6' : (W 411 = 6) = False := eq_false c6
    have F3 : Fr mC g h2 := F2.mono fS_mC
    cases er : RL (CT T n) (VT T n) M 12 0 0 0 with
    | inl e =>
      rw [er] at o
      obtain ⟨x, y, g1⟩ := o
      have Hk : Sh (hsI (rdX (hsI h2 56 10 (nZ 0)) x y (nZ (ts T n e))) 56 11 (nZ (ts T n e))) := F3.Sh H
      have e244 := m244_6 Hk (d + 63)
      have m6 : (-6 : Int32) = -nZ 6 := rfl
      refine ⟨b1 e er, hsI (rdX (hsI h2 56 10 (nZ 0)) x y (nZ (ts T n e))) 56 11 (nZ (ts T n e)), ?_, ?_, ?_, hI_at rfl, ?_⟩
      · simp (disch := first | assumption | omega | (simp only [Sh_si, Sh_sA]; assumption)) only [E214, e411, n6', g1, m6, e244, p56_0, g56_0, p56_1, g56_1, g56_2, g56_3, g56_4, g56_5, p56_6, g56_6, g56_7, g56_8, g56_9, p56_10, g56_10, p56_11, g56_11, g56_12, g56_13, g56_14, p56_15, g56_15, p56_16, g56_16, p56_17, g56_17, p56_18, g56_18, p56_19, g56_19, p56_20, g56_20, B56_21, g56_21, g56_22, g56_23, g56_24, g56_25, g56_26, g56_27, p56_28, g56_28, p56_29, g56_29, p56_30, g56_30, p56_31, g56_31, g56_32, g56_33, g56_34, p56_35, g56_35, p56_36, g56_36, p56_37, g56_37, p56_38, g56_38, g56_39, g56_40, g56_41, p56_42, g56_42, p56_43, g56_43, p56_44, g56_44, ck56, A57, S57, l57, A58, S58, l58, A59, S59, l59, A60, S60, l60, A61, S61, l61, A62, S62, l62, A63, S63, l63, A64, S64, l64, A65, S65, l65, A66, S66, l66, A67, S67, l67, A68, S68, l68, A69, S69, l69, A70, S70, l70, A71, S71, l71, A72, S72, l72, A73, S73, l73, A74, S74, l74, A75, S75, l75, A76, S76, l76, A77, S77, l77, A78, S78, l78, L0, L1, L2, L3, L4, L5, L6, L7, L8, L9, L10, L11, L12, L13, L14, L15, L16, L17, L18, L19, L20, L21, L22, L23, L24, L25, L26, L27, L28, L29, L30, L31, L32, L33, L34, L35, L36, L37, L38, L39, L40, L41, L42, L43, L44, L45, L46, L47, L48, L49, L50, L52, L57, L60, L90, L91, L93, L97, L99, L100, L101, L122, L240, L255, L256, L400, L401, L408, L409, L410, L411, L412, L413, L414, L420, L1000, L1001, L1103, L1200, L1240, L2820, L5220, L7936, L10440, L12345, L1000000, L1000003, L1073741823, L59, L61, L62, L200, nd_lt_t, nd_lt_f, nd_le_t, nd_le_f, nd_eq_f, nZ_add, nZ_mul, nZ_sub, nZ_lt, nZ_le, nZ_eq, nZ_nat, nZ_div, nZ_rem, nZ_and, nZ_or, and31, nZ_shl, nZ_shr, nZ_m1, nZ_nneg, nZ_nneg', nZ_nlt, nZ_ltn, inR_lt, Nat.not_lt_zero, ob_some, jI, jL, jR, jV, rI0, rI1, rIv, if_true, if_false, ↓reduceIte, Nat.reduceAdd, Nat.reduceMul, Nat.reduceSub, Nat.reduceLT, Nat.reduceEqDiff, Nat.reduceLeDiff, Nat.zero_add, Nat.add_zero, Nat.zero_mul, Nat.mul_zero, Nat.one_mul, Nat.mul_one, and_true, true_and, false_and, and_false, or_true, true_or, or_false, false_or, not_true_eq_false, not_false_eq_true, eq_self, bI_0, bI_1, em_b, hI_ne, hI_at, hA_ne, hA_at, Sh_si, Sh_sA]
      · exact Fr.si rfl (Fr.si rfl (Fr.si rfl (Fr.si rfl (Fr.si rfl F3))))
      · intro j hj
        unfold rdX
        rw [hI_ne (by omega), hI_ne (by omega), hI_ne (by omega), hI_ne (by omega), hI_ne (by omega), F2.2 58 j rfl]
        exact mk j hj
      · rw [hI_ne (by decide), rdX_ne (by decide), hI_at rfl]
    | inr L =>
      rw [er] at o
      obtain ⟨x, y, g1⟩ := o
      have g1' : qcl (d + 64) 243 [qR (some 56)] g = some (some (qI (nZ 1)), hsI (rdX (hsI h2 56 10 (nZ 0)) x y (-nZ 1)) 56 11 (-nZ 1)) := g1
      obtain ⟨kb, hkb⟩ : ∃ kb, kb = hsI (rdX (hsI h2 56 10 (nZ 0)) x y (-nZ 1)) 56 11 (-nZ 1) := ⟨_, rfl⟩
      have Hk : Sh kb := by
        rw [hkb]
        exact F3.Sh H
      have Fk : Fr mC g kb := by
        rw [hkb]
        exact Fr.si rfl (Fr.si rfl (Fr.si rfl (Fr.si rfl (Fr.si rfl F3))))
      have kbI : ∀ b j, b ≠ 56 → hI kb b j = hI h2 b j := by
        intro b j hb
        rw [hkb]
        unfold rdX
        rw [hI_ne (Or.inl hb), hI_ne (Or.inl hb), hI_ne (Or.inl hb), hI_ne (Or.inl hb), hI_ne (Or.inl hb)]
      have mkb : MK kb W := fun j hj => by
        rw [kbI 58 j (by decide), F2.2 58 j rfl]
        exact mk j hj
      have k15 : hI kb 56 15 = nZ M := by
        rw [hkb, hI_ne (by decide), rdX_ne (by decide), hI_ne (by decide)]
        exact sp.1
      have k11 : hI kb 56 11 = -nZ 1 := by
        rw [hkb]
        exact hI_at rfl
      have k10 : hI kb 56 10 = nZ 0 := by
        rw [hkb, hI_ne (by decide), rdX_ne (by decide), hI_at rfl]
      have k411 : hI kb 58 411 = nZ (W 411) := mkb.at (by decide) (by decide)
      rw [← hkb] at g1'
      have hM4 : M ≤ 400 := by
        have := w.1
        omega
      have mk0 : MK (hsI kb 58 (414 + W 411) (nZ M)) (lawW W (W 411) M (CT T n) (VT T n) 0) := by
        rw [← lawW_0]
        exact mkb.up (by omega)
      obtain ⟨h', q1, q2, q3⟩ := m214_64 (W := W) (t := W 411) (N := M) (C := CT T n) (V := VT T n) (d + 63) lt6 hM4 _ 0 (hsI kb 58 (414 + W 411) (nZ M)) rfl (Nat.zero_le _) Hk (by rw [hI_ne (by omega)]; exact k15) (fun j hj => by
        rw [hI_ne (by omega), hI_ne (by omega), kbI 64 j (by decide), kbI 65 j (by decide)]
        exact ⟨(sp.2 j hj).1, (sp.2 j hj).2.1⟩) mk0
      have H' : Sh h' := q2.Sh Hk
      have h15' : hI h' 56 15 = nZ M := by
        rw [q2.2 56 15 rfl, hI_ne (by omega)]
        exact k15
      have h411' : hI h' 58 411 = nZ (W 411) := by
        have := q3.at (j := 411) (by decide) (by decide)
        rw [this]
        unfold lawW
        rw [if_neg (by omega), if_neg (by omega), if_neg (by omega)]
      have e190 := m190 (h := hsI h' 58 411 (nZ (W 411 + 1))) H' (d + 63) (nZ (W 411))
      refine ⟨hsI h' 58 411 (nZ (W 411 + 1)), ?_, ?_, q3.up (by decide), ?_, ?_⟩
      · have s1 : qcl (d + 65) 214 [qR (some 56)] g = qbig (d + 65) 214 64 [sR (some 56), sI (nZ (W 411)), sI (nZ 0)] [] (hsI kb 58 (414 + W 411) (nZ M)) := by
          simp (disch := first | assumption | omega | (simp only [Sh_si, Sh_sA]; assumption)) only [E214, e411, n6', g1', z10, k411, k15, p56_0, g56_0, p56_1, g56_1, g56_2, g56_3, g56_4, g56_5, p56_6, g56_6, g56_7, g56_8, g56_9, p56_10, g56_10, p56_11, g56_11, g56_12, g56_13, g56_14, p56_15, g56_15, p56_16, g56_16, p56_17, g56_17, p56_18, g56_18, p56_19, g56_19, p56_20, g56_20, B56_21, g56_21, g56_22, g56_23, g56_24, g56_25, g56_26, g56_27, p56_28, g56_28, p56_29, g56_29, p56_30, g56_30, p56_31, g56_31, g56_32, g56_33, g56_34, p56_35, g56_35, p56_36, g56_36, p56_37, g56_37, p56_38, g56_38, g56_39, g56_40, g56_41, p56_42, g56_42, p56_43, g56_43, p56_44, g56_44, ck56, A57, S57, l57, A58, S58, l58, A59, S59, l59, A60, S60, l60, A61, S61, l61, A62, S62, l62, A63, S63, l63, A64, S64, l64, A65, S65, l65, A66, S66, l66, A67, S67, l67, A68, S68, l68, A69, S69, l69, A70, S70, l70, A71, S71, l71, A72, S72, l72, A73, S73, l73, A74, S74, l74, A75, S75, l75, A76, S76, l76, A77, S77, l77, A78, S78, l78, L0, L1, L2, L3, L4, L5, L6, L7, L8, L9, L10, L11, L12, L13, L14, L15, L16, L17, L18, L19, L20, L21, L22, L23, L24, L25, L26, L27, L28, L29, L30, L31, L32, L33, L34, L35, L36, L37, L38, L39, L40, L41, L42, L43, L44, L45, L46, L47, L48, L49, L50, L52, L57, L60, L90, L91, L93, L97, L99, L100, L101, L122, L240, L255, L256, L400, L401, L408, L409, L410, L411, L412, L413, L414, L420, L1000, L1001, L1103, L1200, L1240, L2820, L5220, L7936, L10440, L12345, L1000000, L1000003, L1073741823, L59, L61, L62, L200, nd_lt_t, nd_lt_f, nd_le_t, nd_le_f, nd_eq_f, nZ_add, nZ_mul, nZ_sub, nZ_lt, nZ_le, nZ_eq, nZ_nat, nZ_div, nZ_rem, nZ_and, nZ_or, and31, nZ_shl, nZ_shr, nZ_m1, nZ_nneg, nZ_nneg', nZ_nlt, nZ_ltn, inR_lt, Nat.not_lt_zero, ob_some, jI, jL, jR, jV, rI0, rI1, rIv, if_true, if_false, ↓reduceIte, Nat.reduceAdd, Nat.reduceMul, Nat.reduceSub, Nat.reduceLT, Nat.reduceEqDiff, Nat.reduceLeDiff, Nat.zero_add, Nat.add_zero, Nat.zero_mul, Nat.mul_zero, Nat.one_mul, Nat.mul_one, and_true, true_and, false_and, and_false, or_true, true_or, or_false, false_or, not_true_eq_false, not_false_eq_true, eq_self, bI_0, bI_1, em_b, hI_ne, hI_at, hA_ne, hA_at, Sh_si, Sh_sA]
        have s2 : qbig (d + 65) 214 64 [sR (some 56), sI (nZ (W 411)), sI (nZ M)] [] h' = some (some (qI (nZ (W 411))), okM' (hsI h' 58 411 (nZ (W 411 + 1)))) := by
          rw [E214_64]
          simp (disch := first | assumption | omega | (simp only [Sh_si, Sh_sA]; assumption)) only [h15', h411', e190, p56_0, g56_0, p56_1, g56_1, g56_2, g56_3, g56_4, g56_5, p56_6, g56_6, g56_7, g56_8, g56_9, p56_10, g56_10, p56_11, g56_11, g56_12, g56_13, g56_14, p56_15, g56_15, p56_16, g56_16, p56_17, g56_17, p56_18, g56_18, p56_19, g56_19, p56_20, g56_20, B56_21, g56_21, g56_22, g56_23, g56_24, g56_25, g56_26, g56_27, p56_28, g56_28, p56_29, g56_29, p56_30, g56_30, p56_31, g56_31, g56_32, g56_33, g56_34, p56_35, g56_35, p56_36, g56_36, p56_37, g56_37, p56_38, g56_38, g56_39, g56_40, g56_41, p56_42, g56_42, p56_43, g56_43, p56_44, g56_44, ck56, A57, S57, l57, A58, S58, l58, A59, S59, l59, A60, S60, l60, A61, S61, l61, A62, S62, l62, A63, S63, l63, A64, S64, l64, A65, S65, l65, A66, S66, l66, A67, S67, l67, A68, S68, l68, A69, S69, l69, A70, S70, l70, A71, S71, l71, A72, S72, l72, A73, S73, l73, A74, S74, l74, A75, S75, l75, A76, S76, l76, A77, S77, l77, A78, S78, l78, L0, L1, L2, L3, L4, L5, L6, L7, L8, L9, L10, L11, L12, L13, L14, L15, L16, L17, L18, L19, L20, L21, L22, L23, L24, L25, L26, L27, L28, L29, L30, L31, L32, L33, L34, L35, L36, L37, L38, L39, L40, L41, L42, L43, L44, L45, L46, L47, L48, L49, L50, L52, L57, L60, L90, L91, L93, L97, L99, L100, L101, L122, L240, L255, L256, L400, L401, L408, L409, L410, L411, L412, L413, L414, L420, L1000, L1001, L1103, L1200, L1240, L2820, L5220, L7936, L10440, L12345, L1000000, L1000003, L1073741823, L59, L61, L62, L200, nd_lt_t, nd_lt_f, nd_le_t, nd_le_f, nd_eq_f, nZ_add, nZ_mul, nZ_sub, nZ_lt, nZ_le, nZ_eq, nZ_nat, nZ_div, nZ_rem, nZ_and, nZ_or, and31, nZ_shl, nZ_shr, nZ_m1, nZ_nneg, nZ_nneg', nZ_nlt, nZ_ltn, inR_lt, Nat.not_lt_zero, ob_some, jI, jL, jR, jV, rI0, rI1, rIv, if_true, if_false, ↓reduceIte, Nat.reduceAdd, Nat.reduceMul, Nat.reduceSub, Nat.reduceLT, Nat.reduceEqDiff, Nat.reduceLeDiff, Nat.zero_add, Nat.add_zero, Nat.zero_mul, Nat.mul_zero, Nat.one_mul, Nat.mul_one, and_true, true_and, false_and, and_false, or_true, true_or, or_false, false_or, not_true_eq_false, not_false_eq_true, eq_self, bI_0, bI_1, em_b, hI_ne, hI_at, hA_ne, hA_at, Sh_si, Sh_sA]
        rw [s1]
        exact q1.trans s2
      · exact Fr.si rfl ((Fr.si rfl Fk).trans (q2.mono f58_mC))
      · rw [hI_ne (by decide), q2.2 56 11 rfl, hI_ne (by omega)]
        exact k11
      · rw [hI_ne (by decide), q2.2 56 10 rfl, hI_ne (by omega)]
        exact k10

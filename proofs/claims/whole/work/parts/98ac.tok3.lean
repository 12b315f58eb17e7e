theorem rn_all {T : Nat → Nat} {n : Nat} {p : Nat → Bool} : ∀ m i, n - i = m → ∀ x, i ≤ x → x < rn T n p i → p (T x) = true := by
  intro m
  induction m with
  | zero =>
    intro i hm x h1 h2
    rw [rn_f (fun hh => absurd hh (by omega))] at h2
    omega
  | succ m ih =>
    intro i hm x h1 h2
    cases hp : p (T i) with
    | false =>
      rw [rn_f (fun _ => hp)] at h2
      omega
    | true =>
      rw [rn_t (by omega) hp] at h2
      by_cases c : x = i
      · rw [c]
        exact hp
      · exact ih (i + 1) (by omega) x (by omega) h2
theorem m260_169d {T : Nat → Nat} (d n e t xb : Nat) (he : e ≤ 400) (ht : t < 400) (hx : xb < 256) (hxD : isD xb = true) : ∀ m j v h, e - j = m → j ≤ e → Sh h → TP h T → hI h 56 15 = nZ t → hI h 65 t = nZ v → v ≤ 10000009 → (∀ x, j ≤ x → x < e → isD (T x) = true) → qbig (d + 2) 260 169 [sR (some 56), sI (nZ n), none, sI (sB xb), sI (nZ e), sI (nZ j)] [] h = qbig (d + 2) 260 7 [sR (some 56), sI (nZ n), sI (nZ e), none, none, none] [] (hsI (hsI h 65 t (nZ (nvF T (e - j) j v))) 56 15 (nZ (t + 1))) := by
  intro m
  induction m with
  | zero =>
    intro j v h hm hj H tp h15 h65 hv hall
    have hjj : j = e := by omega
    subst hjj
    rw [Nat.sub_self, E260_169]
    have hid : hsI h 65 t (nZ (nvF T 0 j v)) = h := by
      refine qh_ext rfl rfl rfl ?_ rfl
      intro b x
      rw [hI_si]
      by_cases c : b = 65 ∧ x = t
      · rw [if_pos c, c.1, c.2, h65]
        rfl
      · rw [if_neg c]
    rw [hid]
    simp (disch := first | assumption | omega | (simp only [Sh_si, Sh_sA]; assumption)) only [h15, p56_0, g56_0, p56_1, g56_1, g56_2, g56_3, g56_4, g56_5, p56_6, g56_6, g56_7, g56_8, g56_9, p56_10, g56_10, p56_11, g56_11, g56_12, g56_13, g56_14, p56_15, g56_15, p56_16, g56_16, p56_17, g56_17, p56_18, g56_18, p56_19, g56_19, p56_20, g56_20, B56_21, g56_21, g56_22, g56_23, g56_24, g56_25, g56_26, g56_27, p56_28, g56_28, p56_29, g56_29, p56_30, g56_30, p56_31, g56_31, g56_32, g56_33, g56_34, p56_35, g56_35, p56_36, g56_36, p56_37, g56_37, p56_38, g56_38, g56_39, g56_40, g56_41, p56_42, g56_42, p56_43, g56_43, p56_44, g56_44, ck56, A57, S57, l57, A58, S58, l58, A59, S59, l59, A60, S60, l60, A61, S61, l61, A62, S62, l62, A63, S63, l63, A64, S64, l64, A65, S65, l65, A66, S66, l66, A67, S67, l67, A68, S68, l68, A69, S69, l69, A70, S70, l70, A71, S71, l71, A72, S72, l72, A73, S73, l73, A74, S74, l74, A75, S75, l75, A76, S76, l76, A77, S77, l77, A78, S78, l78, L0, L1, L2, L3, L4, L5, L6, L7, L8, L9, L10, L11, L12, L13, L14, L15, L16, L17, L18, L19, L20, L21, L22, L23, L24, L25, L26, L27, L28, L29, L30, L31, L32, L33, L34, L35, L36, L37, L38, L39, L40, L41, L42, L43, L44, L45, L46, L47, L48, L49, L50, L52, L57, L60, L90, L91, L93, L97, L99, L100, L101, L122, L240, L255, L256, L400, L401, L408, L409, L410, L411, L412, L413, L414, L420, L1000, L1001, L1103, L1200, L1240, L2820, L5220, L7936, L10440, L12345, L1000000, L1000003, L1073741823, L59, L61, L62, L200, nd_lt_t, nd_lt_f, nd_le_t, nd_le_f, nd_eq_f, nZ_add, nZ_mul, nZ_sub, nZ_lt, nZ_le, nZ_eq, nZ_nat, nZ_div, nZ_rem, nZ_and, nZ_or, and31, nZ_shl, nZ_shr, nZ_m1, nZ_nneg, nZ_nneg', nZ_nlt, nZ_ltn, inR_lt, Nat.not_lt_zero, ob_some, jI, jL, jR, jV, rI0, rI1, rIv, if_true, if_false, ↓reduceIte, Nat.reduceAdd, Nat.reduceMul, Nat.reduceSub, Nat.reduceLT, Nat.reduceEqDiff, Nat.reduceLeDiff, Nat.zero_add, Nat.add_zero, Nat.zero_mul, Nat.mul_zero, Nat.one_mul, Nat.mul_one, and_true, true_and, false_and, and_false, or_true, true_or, or_false, false_or, not_true_eq_false, not_false_eq_true, eq_self, bI_0, bI_1, em_b, hI_ne, hI_at, hA_ne, hA_at, Sh_si, Sh_sA]
  | succ m ih =>
    intro j v h hm hj H tp h15 h65 hv hall
    obtain ⟨t1, t2⟩ := tp j (by omega)
    have hd := hall j (Nat.le_refl _) (by omega)
    have hdd : 48 ≤ T j ∧ T j ≤ 57 := by
      unfold isD at hd
      exact of_decide_eq_true hd
    rw [sB_low (by omega)] at t2
    obtain ⟨f, hf⟩ : ∃ f, e - j = f + 1 := ⟨e - j - 1, by omega⟩
    have hf2 : e - (j + 1) = f := by omega
    rw [hf]
    show _ = qbig (d + 2) 260 7 [sR (some 56), sI (nZ n), sI (nZ e), none, none, none] [] (hsI (hsI h 65 t (nZ (nvF T f (j + 1) (if 1000000 < v then v else 10 * v + (T j - 48))))) 56 15 (nZ (t + 1)))
    have step : qbig (d + 2) 260 169 [sR (some 56), sI (nZ n), none, sI (sB xb), sI (nZ e), sI (nZ j)] [] h = qbig (d + 2) 260 169 [sR (some 56), sI (nZ n), none, sI (sB xb), sI (nZ e), sI (nZ (j + 1))] [] (hsI h 65 t (nZ (if 1000000 < v then v else 10 * v + (T j - 48)))) := by
      rw [E260_169]
      by_cases c : 1000000 < v
      · rw [if_pos c]
        simp (disch := first | assumption | omega | (simp only [Sh_si, Sh_sA]; assumption)) only [h15, h65, t2, m202 _ _ _ hx, hxD, p56_0, g56_0, p56_1, g56_1, g56_2, g56_3, g56_4, g56_5, p56_6, g56_6, g56_7, g56_8, g56_9, p56_10, g56_10, p56_11, g56_11, g56_12, g56_13, g56_14, p56_15, g56_15, p56_16, g56_16, p56_17, g56_17, p56_18, g56_18, p56_19, g56_19, p56_20, g56_20, B56_21, g56_21, g56_22, g56_23, g56_24, g56_25, g56_26, g56_27, p56_28, g56_28, p56_29, g56_29, p56_30, g56_30, p56_31, g56_31, g56_32, g56_33, g56_34, p56_35, g56_35, p56_36, g56_36, p56_37, g56_37, p56_38, g56_38, g56_39, g56_40, g56_41, p56_42, g56_42, p56_43, g56_43, p56_44, g56_44, ck56, A57, S57, l57, A58, S58, l58, A59, S59, l59, A60, S60, l60, A61, S61, l61, A62, S62, l62, A63, S63, l63, A64, S64, l64, A65, S65, l65, A66, S66, l66, A67, S67, l67, A68, S68, l68, A69, S69, l69, A70, S70, l70, A71, S71, l71, A72, S72, l72, A73, S73, l73, A74, S74, l74, A75, S75, l75, A76, S76, l76, A77, S77, l77, A78, S78, l78, L0, L1, L2, L3, L4, L5, L6, L7, L8, L9, L10, L11, L12, L13, L14, L15, L16, L17, L18, L19, L20, L21, L22, L23, L24, L25, L26, L27, L28, L29, L30, L31, L32, L33, L34, L35, L36, L37, L38, L39, L40, L41, L42, L43, L44, L45, L46, L47, L48, L49, L50, L52, L57, L60, L90, L91, L93, L97, L99, L100, L101, L122, L240, L255, L256, L400, L401, L408, L409, L410, L411, L412, L413, L414, L420, L1000, L1001, L1103, L1200, L1240, L2820, L5220, L7936, L10440, L12345, L1000000, L1000003, L1073741823, L59, L61, L62, L200, nd_lt_t, nd_lt_f, nd_le_t, nd_le_f, nd_eq_f, nZ_add, nZ_mul, nZ_sub, nZ_lt, nZ_le, nZ_eq, nZ_nat, nZ_div, nZ_rem, nZ_and, nZ_or, and31, nZ_shl, nZ_shr, nZ_m1, nZ_nneg, nZ_nneg', nZ_nlt, nZ_ltn, inR_lt, Nat.not_lt_zero, ob_some, jI, jL, jR, jV, rI0, rI1, rIv, if_true, if_false, ↓reduceIte, Nat.reduceAdd, Nat.reduceMul, Nat.reduceSub, Nat.reduceLT, Nat.reduceEqDiff, Nat.reduceLeDiff, Nat.zero_add, Nat.add_zero, Nat.zero_mul, Nat.mul_zero, Nat.one_mul, Nat.mul_one, and_true, true_and, false_and, and_false, or_true, true_or, or_false, false_or, not_true_eq_false, not_false_eq_true, eq_self, bI_0, bI_1, em_b, hI_ne, hI_at, hA_ne, hA_at, Sh_si, Sh_sA]
      · rw [if_neg c]
        have e1 : 10 * v + T j - 48 = 10 * v + (T j - 48) := by omega
        simp (disch := first | assumption | omega | (simp only [Sh_si, Sh_sA]; assumption)) only [h15, h65, t2, m202 _ _ _ hx, hxD, e1, p56_0, g56_0, p56_1, g56_1, g56_2, g56_3, g56_4, g56_5, p56_6, g56_6, g56_7, g56_8, g56_9, p56_10, g56_10, p56_11, g56_11, g56_12, g56_13, g56_14, p56_15, g56_15, p56_16, g56_16, p56_17, g56_17, p56_18, g56_18, p56_19, g56_19, p56_20, g56_20, B56_21, g56_21, g56_22, g56_23, g56_24, g56_25, g56_26, g56_27, p56_28, g56_28, p56_29, g56_29, p56_30, g56_30, p56_31, g56_31, g56_32, g56_33, g56_34, p56_35, g56_35, p56_36, g56_36, p56_37, g56_37, p56_38, g56_38, g56_39, g56_40, g56_41, p56_42, g56_42, p56_43, g56_43, p56_44, g56_44, ck56, A57, S57, l57, A58, S58, l58, A59, S59, l59, A60, S60, l60, A61, S61, l61, A62, S62, l62, A63, S63, l63, A64, S64, l64, A65, S65, l65, A66, S66, l66, A67, S67, l67, A68, S68, l68, A69, S69, l69, A70, S70, l70, A71, S71, l71, A72, S72, l72, A73, S73, l73, A74, S74, l74, A75, S75, l75, A76, S76, l76, A77, S77, l77, A78, S78, l78, L0, L1, L2, L3, L4, L5, L6, L7, L8, L9, L10, L11, L12, L13, L14, L15, L16, L17, L18, L19, L20, L21, L22, L23, L24, L25, L26, L27, L28, L29, L30, L31, L32, L33, L34, L35, L36, L37, L38, L39, L40, L41, L42, L43, L44, L45, L46, L47, L48, L49, L50, L52, L57, L60, L90, L91, L93, L97, L99, L100, L101, L122, L240, L255, L256, L400, L401, L408, L409, L410, L411, L412, L413, L414, L420, L1000, L1001, L1103, L1200, L1240, L2820, L5220, L7936, L10440, L12345, L1000000, L1000003, L1073741823, L59, L61, L62, L200, nd_lt_t, nd_lt_f, nd_le_t, nd_le_f, nd_eq_f, nZ_add, nZ_mul, nZ_sub, nZ_lt, nZ_le, nZ_eq, nZ_nat, nZ_div, nZ_rem, nZ_and, nZ_or, and31, nZ_shl, nZ_shr, nZ_m1, nZ_nneg, nZ_nneg', nZ_nlt, nZ_ltn, inR_lt, Nat.not_lt_zero, ob_some, jI, jL, jR, jV, rI0, rI1, rIv, if_true, if_false, ↓reduceIte, Nat.reduceAdd, Nat.reduceMul, Nat.reduceSub, Nat.reduceLT, Nat.reduceEqDiff, Nat.reduceLeDiff, Nat.zero_add, Nat.add_zero, Nat.zero_mul, Nat.mul_zero, Nat.one_mul, Nat.mul_one, and_true, true_and, false_and, and_false, or_true, true_or, or_false, false_or, not_true_eq_false, not_false_eq_true, eq_self, bI_0, bI_1, em_b, hI_ne, hI_at, hA_ne, hA_at, Sh_si, Sh_sA]
    have H' : Sh (hsI h 65 t (nZ (if 1000000 < v then v else 10 * v + (T j - 48)))) := H
    have tp' : TP (hsI h 65 t (nZ (if 1000000 < v then v else 10 * v + (T j - 48)))) T := fun x hx => ⟨(tp x hx).1, (hI_ne (by omega)).trans (tp x hx).2⟩
    rw [step, ih (j + 1) _ _ (by omega) (by omega) H' tp' ((hI_ne (by omega)).trans h15) (hI_at rfl) (by split <;> omega) (fun x hx1 hx2 => hall x (by omega) hx2), hsI_two, hf2]
theorem m260_169n {h : QH} (H : Sh h) (d n e t xb i : Nat) (he : e ≤ 400) (ht : t < 400) (hx : xb < 256) (hxD : isD xb = false) (hi : i < e) (h15 : hI h 56 15 = nZ t) : qbig (d + 2) 260 169 [sR (some 56), sI (nZ n), none, sI (sB xb), sI (nZ e), sI (nZ i)] [] h = qbig (d + 2) 260 7 [sR (some 56), sI (nZ n), sI (nZ e), none, none, none] [] (hsI h 56 15 (nZ (t + 1))) := by
  have hx' : (isD xb = true) = False := by
    rw [hxD]
    exact eq_false (by decide)
  rw [E260_169]
  simp (disch := first | assumption | omega | (simp only [Sh_si, Sh_sA]; assumption)) only [m202 _ _ _ hx, hx', h15, p56_0, g56_0, p56_1, g56_1, g56_2, g56_3, g56_4, g56_5, p56_6, g56_6, g56_7, g56_8, g56_9, p56_10, g56_10, p56_11, g56_11, g56_12, g56_13, g56_14, p56_15, g56_15, p56_16, g56_16, p56_17, g56_17, p56_18, g56_18, p56_19, g56_19, p56_20, g56_20, B56_21, g56_21, g56_22, g56_23, g56_24, g56_25, g56_26, g56_27, p56_28, g56_28, p56_29, g56_29, p56_30, g56_30, p56_31, g56_31, g56_32, g56_33, g56_34, p56_35, g56_35, p56_36, g56_36, p56_37, g56_37, p56_38, g56_38, g56_39, g56_40, g56_41, p56_42, g56_42, p56_43, g56_43, p56_44, g56_44, ck56, A57, S57, l57, A58, S58, l58, A59, S59, l59, A60, S60, l60, A61, S61, l61, A62, S62, l62, A63, S63, l63, A64, S64, l64, A65, S65, l65, A66, S66, l66, A67, S67, l67, A68, S68, l68, A69, S69, l69, A70, S70, l70, A71, S71, l71, A72, S72, l72, A73, S73, l73, A74, S74, l74, A75, S75, l75, A76, S76, l76, A77, S77, l77, A78, S78, l78, L0, L1, L2, L3, L4, L5, L6, L7, L8, L9, L10, L11, L12, L13, L14, L15, L16, L17, L18, L19, L20, L21, L22, L23, L24, L25, L26, L27, L28, L29, L30, L31, L32, L33, L34, L35, L36, L37, L38, L39, L40, L41, L42, L43, L44, L45, L46, L47, L48, L49, L50, L52, L57, L60, L90, L91, L93, L97, L99, L100, L101, L122, L240, L255, L256, L400, L401, L408, L409, L410, L411, L412, L413, L414, L420, L1000, L1001, L1103, L1200, L1240, L2820, L5220, L7936, L10440, L12345, L1000000, L1000003, L1073741823, L59, L61, L62, L200, nd_lt_t, nd_lt_f, nd_le_t, nd_le_f, nd_eq_f, nZ_add, nZ_mul, nZ_sub, nZ_lt, nZ_le, nZ_eq, nZ_nat, nZ_div, nZ_rem, nZ_and, nZ_or, and31, nZ_shl, nZ_shr, nZ_m1, nZ_nneg, nZ_nneg', nZ_nlt, nZ_ltn, inR_lt, Nat.not_lt_zero, ob_some, jI, jL, jR, jV, rI0, rI1, rIv, if_true, if_false, ↓reduceIte, Nat.reduceAdd, Nat.reduceMul, Nat.reduceSub, Nat.reduceLT, Nat.reduceEqDiff, Nat.reduceLeDiff, Nat.zero_add, Nat.add_zero, Nat.zero_mul, Nat.mul_zero, Nat.one_mul, Nat.mul_one, and_true, true_and, false_and, and_false, or_true, true_or, or_false, false_or, not_true_eq_false, not_false_eq_true, eq_self, bI_0, bI_1, em_b, hI_ne, hI_at, hA_ne, hA_at, Sh_si, Sh_sA]
theorem SP_ext {h k : QH} {T : Nat → Nat} {n t : Nat} (sp : SP h T n t) (e15 : hI k 56 15 = nZ (t + 1)) (e : ∀ j, j < t → hI k 64 j = hI h 64 j ∧ hI k 65 j = hI h 65 j ∧ hI k 66 j = hI h 66 j) (e1 : hI k 64 t = nZ (cdT T n (ts T n t))) (e2 : hI k 65 t = nZ (vlT T n (ts T n t))) (e3 : hI k 66 t = nZ (ts T n t)) : SP k T n (t + 1) := by
  refine ⟨e15, ?_⟩
  intro j hj
  by_cases c : j = t
  · rw [c]
    exact ⟨e1, e2, e3⟩
  · obtain ⟨g1, g2, g3⟩ := e j (by omega)
    rw [g1, g2, g3]
    exact sp.2 j (by omega)
theorem m260_tok {h : QH} (H : Sh h) (w : WC h) {T : Nat → Nat} (tp : TP h T) (d n t : Nat) (hn : n ≤ 400) (sp : SP h T n t) (hi : ts T n t < n) (ht : t < 400) : ∃ h', qbig (d + 2) 260 7 [sR (some 56), sI (nZ n), sI (nZ (ts T n t)), none, none, none] [] h = qbig (d + 2) 260 7 [sR (some 56), sI (nZ n), sI (nZ (te T n (ts T n t))), none, none, none] [] h' ∧ Fr fS h h' ∧ SP h' T n (t + 1) := by
  have hB := ((ts_b (T := T) (n := n) t).2 hi).2
  obtain ⟨b1, b2⟩ := te_b (T := T) hi
  generalize hi' : ts T n t = i at *
  obtain ⟨t1, t2⟩ := tp i (by omega)
  have h15 := sp.1
  have e32 : (sB (T i) = nZ 32) = False := by
    rw [dec_iff (sB_32 _ t1)]
    unfold isB at hB
    exact eq_false (of_decide_eq_false hB)
  have hk : ∀ x : Int32, Sh (hsI (hsI h 66 t (nZ i)) 65 t (nZ 0)) ∧ WC (hsI (hsI h 66 t (nZ i)) 65 t (nZ 0)) ∧ TP (hsI (hsI h 66 t (nZ i)) 65 t (nZ 0)) T := fun x => ⟨H, w.fr (cs := fS) (Fr.si rfl (Fr.si rfl Fr.refl)) (fun j => ⟨rfl, rfl, rfl⟩), tp.fr (cs := fS) (Fr.si rfl (Fr.si rfl Fr.refl)) (fun j => rfl)⟩
  obtain ⟨hkS, hkW, hkT⟩ := hk 0
  have h15' : hI (hsI (hsI h 66 t (nZ i)) 65 t (nZ 0)) 56 15 = nZ t := by
    rw [hI_ne (by omega), hI_ne (by omega)]
    exact h15
  cases hS : isS (T i) with
  | true =>
    have hD := isS_D hS
    have eT : te T n i = rn T n isS (i + 1) := by
      unfold te
      rw [if_pos hS]
    have s1 : qbig (d + 2) 260 7 [sR (some 56), sI (nZ n), sI (nZ i), none, none, none] [] h = qbig (d + 2) 260 100 [sR (some 56), sI (nZ n), sI (nZ i), sI (sB (T i)), sI (nZ (te T n i)), none] [] h := by
      rw [eT, ← m260_43 H tp d n i (T i) hn t1 hD _ (i + 1) rfl (by omega), E260_7]
      simp (disch := first | assumption | omega | (simp only [Sh_si, Sh_sA]; assumption)) only [t2, e32, m208 _ _ _ t1, hS, p56_0, g56_0, p56_1, g56_1, g56_2, g56_3, g56_4, g56_5, p56_6, g56_6, g56_7, g56_8, g56_9, p56_10, g56_10, p56_11, g56_11, g56_12, g56_13, g56_14, p56_15, g56_15, p56_16, g56_16, p56_17, g56_17, p56_18, g56_18, p56_19, g56_19, p56_20, g56_20, B56_21, g56_21, g56_22, g56_23, g56_24, g56_25, g56_26, g56_27, p56_28, g56_28, p56_29, g56_29, p56_30, g56_30, p56_31, g56_31, g56_32, g56_33, g56_34, p56_35, g56_35, p56_36, g56_36, p56_37, g56_37, p56_38, g56_38, g56_39, g56_40, g56_41, p56_42, g56_42, p56_43, g56_43, p56_44, g56_44, ck56, A57, S57, l57, A58, S58, l58, A59, S59, l59, A60, S60, l60, A61, S61, l61, A62, S62, l62, A63, S63, l63, A64, S64, l64, A65, S65, l65, A66, S66, l66, A67, S67, l67, A68, S68, l68, A69, S69, l69, A70, S70, l70, A71, S71, l71, A72, S72, l72, A73, S73, l73, A74, S74, l74, A75, S75, l75, A76, S76, l76, A77, S77, l77, A78, S78, l78, L0, L1, L2, L3, L4, L5, L6, L7, L8, L9, L10, L11, L12, L13, L14, L15, L16, L17, L18, L19, L20, L21, L22, L23, L24, L25, L26, L27, L28, L29, L30, L31, L32, L33, L34, L35, L36, L37, L38, L39, L40, L41, L42, L43, L44, L45, L46, L47, L48, L49, L50, L52, L57, L60, L90, L91, L93, L97, L99, L100, L101, L122, L240, L255, L256, L400, L401, L408, L409, L410, L411, L412, L413, L414, L420, L1000, L1001, L1103, L1200, L1240, L2820, L5220, L7936, L10440, L12345, L1000000, L1000003, L1073741823, L59, L61, L62, L200, nd_lt_t, nd_lt_f, nd_le_t, nd_le_f, nd_eq_f, nZ_add, nZ_mul, nZ_sub, nZ_lt, nZ_le, nZ_eq, nZ_nat, nZ_div, nZ_rem, nZ_and, nZ_or, and31, nZ_shl, nZ_shr, nZ_m1, nZ_nneg, nZ_nneg', nZ_nlt, nZ_ltn, inR_lt, Nat.not_lt_zero, ob_some, jI, jL, jR, jV, rI0, rI1, rIv, if_true, if_false, ↓reduceIte, Nat.reduceAdd, Nat.reduceMul, Nat.reduceSub, Nat.reduceLT, Nat.reduceEqDiff, Nat.reduceLeDiff, Nat.zero_add, Nat.add_zero, Nat.zero_mul, Nat.mul_zero, Nat.one_mul, Nat.mul_one, and_true, true_and, false_and, and_false, or_true, true_or, or_false, false_or, not_true_eq_false, not_false_eq_true, eq_self, bI_0, bI_1, em_b, hI_ne, hI_at, hA_ne, hA_at, Sh_si, Sh_sA]
    have s2 : qbig (d + 2) 260 100 [sR (some 56), sI (nZ n), sI (nZ i), sI (sB (T i)), sI (nZ (te T n i)), none] [] h = qbig (d + 2) 260 169 [sR (some 56), sI (nZ n), none, sI (sB (T i)), sI (nZ (te T n i)), sI (nZ i)] [] (hsI (hsI (hsI h 66 t (nZ i)) 65 t (nZ 0)) 64 t (nZ (cdT T n i))) := by
      have ecd : cdT T n i = word T i (te T n i) := by
        unfold cdT
        rw [if_pos hS]
      have e276 := m276 hkS hkW hkT d i (te T n i) (by omega) (by omega)
      rw [E260_100, ecd]
      simp (disch := first | assumption | omega | (simp only [Sh_si, Sh_sA]; assumption)) only [h15, h15', m208 _ _ _ t1, hS, e276, p56_0, g56_0, p56_1, g56_1, g56_2, g56_3, g56_4, g56_5, p56_6, g56_6, g56_7, g56_8, g56_9, p56_10, g56_10, p56_11, g56_11, g56_12, g56_13, g56_14, p56_15, g56_15, p56_16, g56_16, p56_17, g56_17, p56_18, g56_18, p56_19, g56_19, p56_20, g56_20, B56_21, g56_21, g56_22, g56_23, g56_24, g56_25, g56_26, g56_27, p56_28, g56_28, p56_29, g56_29, p56_30, g56_30, p56_31, g56_31, g56_32, g56_33, g56_34, p56_35, g56_35, p56_36, g56_36, p56_37, g56_37, p56_38, g56_38, g56_39, g56_40, g56_41, p56_42, g56_42, p56_43, g56_43, p56_44, g56_44, ck56, A57, S57, l57, A58, S58, l58, A59, S59, l59, A60, S60, l60, A61, S61, l61, A62, S62, l62, A63, S63, l63, A64, S64, l64, A65, S65, l65, A66, S66, l66, A67, S67, l67, A68, S68, l68, A69, S69, l69, A70, S70, l70, A71, S71, l71, A72, S72, l72, A73, S73, l73, A74, S74, l74, A75, S75, l75, A76, S76, l76, A77, S77, l77, A78, S78, l78, L0, L1, L2, L3, L4, L5, L6, L7, L8, L9, L10, L11, L12, L13, L14, L15, L16, L17, L18, L19, L20, L21, L22, L23, L24, L25, L26, L27, L28, L29, L30, L31, L32, L33, L34, L35, L36, L37, L38, L39, L40, L41, L42, L43, L44, L45, L46, L47, L48, L49, L50, L52, L57, L60, L90, L91, L93, L97, L99, L100, L101, L122, L240, L255, L256, L400, L401, L408, L409, L410, L411, L412, L413, L414, L420, L1000, L1001, L1103, L1200, L1240, L2820, L5220, L7936, L10440, L12345, L1000000, L1000003, L1073741823, L59, L61, L62, L200, nd_lt_t, nd_lt_f, nd_le_t, nd_le_f, nd_eq_f, nZ_add, nZ_mul, nZ_sub, nZ_lt, nZ_le, nZ_eq, nZ_nat, nZ_div, nZ_rem, nZ_and, nZ_or, and31, nZ_shl, nZ_shr, nZ_m1, nZ_nneg, nZ_nneg', nZ_nlt, nZ_ltn, inR_lt, Nat.not_lt_zero, ob_some, jI, jL, jR, jV, rI0, rI1, rIv, if_true, if_false, ↓reduceIte, Nat.reduceAdd, Nat.reduceMul, Nat.reduceSub, Nat.reduceLT, Nat.reduceEqDiff, Nat.reduceLeDiff, Nat.zero_add, Nat.add_zero, Nat.zero_mul, Nat.mul_zero, Nat.one_mul, Nat.mul_one, and_true, true_and, false_and, and_false, or_true, true_or, or_false, false_or, not_true_eq_false, not_false_eq_true, eq_self, bI_0, bI_1, em_b, hI_ne, hI_at, hA_ne, hA_at, Sh_si, Sh_sA]
    have h15'' : hI (hsI (hsI (hsI h 66 t (nZ i)) 65 t (nZ 0)) 64 t (nZ (cdT T n i))) 56 15 = nZ t := by
      rw [hI_ne (by omega)]
      exact h15'
    rw [s1, s2, m260_169n (h := hsI (hsI (hsI h 66 t (nZ i)) 65 t (nZ 0)) 64 t (nZ (cdT T n i))) H d n (te T n i) t (T i) i (by omega) ht t1 hD (by omega) h15'']
    refine ⟨_, rfl, Fr.si rfl (Fr.si rfl (Fr.si rfl (Fr.si rfl Fr.refl))), ?_⟩
    have ev : vlT T n i = 0 := by
      unfold vlT
      rw [hD]
      rfl
    refine SP_ext sp (hI_at rfl) ?_ ?_ ?_ ?_
    · intro j hj
      simp (disch := omega) only [hI_ne]
      exact ⟨trivial, trivial, trivial⟩
    · rw [hi', hI_ne (by omega), hI_at rfl]
    · rw [hi', hI_ne (by omega), hI_ne (by omega), hI_at rfl, ev]
    · rw [hi', hI_ne (by omega), hI_ne (by omega), hI_ne (by omega), hI_at rfl]
  | false =>
    have hS' : (isS (T i) = true) = False := by
      rw [hS]
      exact eq_false (by decide)
    cases hD : isD (T i) with
    | true =>
      have eT : te T n i = rn T n isD (i + 1) := by
        unfold te
        rw [if_neg (fun z => by rw [hS'] at z; exact z), if_pos hD]
      have s1 : qbig (d + 2) 260 7 [sR (some 56), sI (nZ n), sI (nZ i), none, none, none] [] h = qbig (d + 2) 260 100 [sR (some 56), sI (nZ n), sI (nZ i), sI (sB (T i)), sI (nZ (te T n i)), none] [] h := by
        rw [eT, ← m260_75 H tp d n i (sB (T i)) hn _ (i + 1) rfl (by omega), E260_7]
        simp (disch := first | assumption | omega | (simp only [Sh_si, Sh_sA]; assumption)) only [t2, e32, m208 _ _ _ t1, hS', m202 _ _ _ t1, hD, p56_0, g56_0, p56_1, g56_1, g56_2, g56_3, g56_4, g56_5, p56_6, g56_6, g56_7, g56_8, g56_9, p56_10, g56_10, p56_11, g56_11, g56_12, g56_13, g56_14, p56_15, g56_15, p56_16, g56_16, p56_17, g56_17, p56_18, g56_18, p56_19, g56_19, p56_20, g56_20, B56_21, g56_21, g56_22, g56_23, g56_24, g56_25, g56_26, g56_27, p56_28, g56_28, p56_29, g56_29, p56_30, g56_30, p56_31, g56_31, g56_32, g56_33, g56_34, p56_35, g56_35, p56_36, g56_36, p56_37, g56_37, p56_38, g56_38, g56_39, g56_40, g56_41, p56_42, g56_42, p56_43, g56_43, p56_44, g56_44, ck56, A57, S57, l57, A58, S58, l58, A59, S59, l59, A60, S60, l60, A61, S61, l61, A62, S62, l62, A63, S63, l63, A64, S64, l64, A65, S65, l65, A66, S66, l66, A67, S67, l67, A68, S68, l68, A69, S69, l69, A70, S70, l70, A71, S71, l71, A72, S72, l72, A73, S73, l73, A74, S74, l74, A75, S75, l75, A76, S76, l76, A77, S77, l77, A78, S78, l78, L0, L1, L2, L3, L4, L5, L6, L7, L8, L9, L10, L11, L12, L13, L14, L15, L16, L17, L18, L19, L20, L21, L22, L23, L24, L25, L26, L27, L28, L29, L30, L31, L32, L33, L34, L35, L36, L37, L38, L39, L40, L41, L42, L43, L44, L45, L46, L47, L48, L49, L50, L52, L57, L60, L90, L91, L93, L97, L99, L100, L101, L122, L240, L255, L256, L400, L401, L408, L409, L410, L411, L412, L413, L414, L420, L1000, L1001, L1103, L1200, L1240, L2820, L5220, L7936, L10440, L12345, L1000000, L1000003, L1073741823, L59, L61, L62, L200, nd_lt_t, nd_lt_f, nd_le_t, nd_le_f, nd_eq_f, nZ_add, nZ_mul, nZ_sub, nZ_lt, nZ_le, nZ_eq, nZ_nat, nZ_div, nZ_rem, nZ_and, nZ_or, and31, nZ_shl, nZ_shr, nZ_m1, nZ_nneg, nZ_nneg', nZ_nlt, nZ_ltn, inR_lt, Nat.not_lt_zero, ob_some, jI, jL, jR, jV, rI0, rI1, rIv, if_true, if_false, ↓reduceIte, Nat.reduceAdd, Nat.reduceMul, Nat.reduceSub, Nat.reduceLT, Nat.reduceEqDiff, Nat.reduceLeDiff, Nat.zero_add, Nat.add_zero, Nat.zero_mul, Nat.mul_zero, Nat.one_mul, Nat.mul_one, and_true, true_and, false_and, and_false, or_true, true_or, or_false, false_or, not_true_eq_false, not_false_eq_true, eq_self, bI_0, bI_1, em_b, hI_ne, hI_at, hA_ne, hA_at, Sh_si, Sh_sA]
      have ecd : cdT T n i = 50 := by
        unfold cdT
        rw [if_neg (fun z => by rw [hS'] at z; exact z), if_pos hD]
      have s2 : qbig (d + 2) 260 100 [sR (some 56), sI (nZ n), sI (nZ i), sI (sB (T i)), sI (nZ (te T n i)), none] [] h = qbig (d + 2) 260 169 [sR (some 56), sI (nZ n), none, sI (sB (T i)), sI (nZ (te T n i)), sI (nZ i)] [] (hsI (hsI (hsI h 66 t (nZ i)) 65 t (nZ 0)) 64 t (nZ (cdT T n i))) := by
        rw [E260_100, ecd]
        simp (disch := first | assumption | omega | (simp only [Sh_si, Sh_sA]; assumption)) only [h15, h15', m208 _ _ _ t1, hS', m202 _ _ _ t1, hD, p56_0, g56_0, p56_1, g56_1, g56_2, g56_3, g56_4, g56_5, p56_6, g56_6, g56_7, g56_8, g56_9, p56_10, g56_10, p56_11, g56_11, g56_12, g56_13, g56_14, p56_15, g56_15, p56_16, g56_16, p56_17, g56_17, p56_18, g56_18, p56_19, g56_19, p56_20, g56_20, B56_21, g56_21, g56_22, g56_23, g56_24, g56_25, g56_26, g56_27, p56_28, g56_28, p56_29, g56_29, p56_30, g56_30, p56_31, g56_31, g56_32, g56_33, g56_34, p56_35, g56_35, p56_36, g56_36, p56_37, g56_37, p56_38, g56_38, g56_39, g56_40, g56_41, p56_42, g56_42, p56_43, g56_43, p56_44, g56_44, ck56, A57, S57, l57, A58, S58, l58, A59, S59, l59, A60, S60, l60, A61, S61, l61, A62, S62, l62, A63, S63, l63, A64, S64, l64, A65, S65, l65, A66, S66, l66, A67, S67, l67, A68, S68, l68, A69, S69, l69, A70, S70, l70, A71, S71, l71, A72, S72, l72, A73, S73, l73, A74, S74, l74, A75, S75, l75, A76, S76, l76, A77, S77, l77, A78, S78, l78, L0, L1, L2, L3, L4, L5, L6, L7, L8, L9, L10, L11, L12, L13, L14, L15, L16, L17, L18, L19, L20, L21, L22, L23, L24, L25, L26, L27, L28, L29, L30, L31, L32, L33, L34, L35, L36, L37, L38, L39, L40, L41, L42, L43, L44, L45, L46, L47, L48, L49, L50, L52, L57, L60, L90, L91, L93, L97, L99, L100, L101, L122, L240, L255, L256, L400, L401, L408, L409, L410, L411, L412, L413, L414, L420, L1000, L1001, L1103, L1200, L1240, L2820, L5220, L7936, L10440, L12345, L1000000, L1000003, L1073741823, L59, L61, L62, L200, nd_lt_t, nd_lt_f, nd_le_t, nd_le_f, nd_eq_f, nZ_add, nZ_mul, nZ_sub, nZ_lt, nZ_le, nZ_eq, nZ_nat, nZ_div, nZ_rem, nZ_and, nZ_or, and31, nZ_shl, nZ_shr, nZ_m1, nZ_nneg, nZ_nneg', nZ_nlt, nZ_ltn, inR_lt, Nat.not_lt_zero, ob_some, jI, jL, jR, jV, rI0, rI1, rIv, if_true, if_false, ↓reduceIte, Nat.reduceAdd, Nat.reduceMul, Nat.reduceSub, Nat.reduceLT, Nat.reduceEqDiff, Nat.reduceLeDiff, Nat.zero_add, Nat.add_zero, Nat.zero_mul, Nat.mul_zero, Nat.one_mul, Nat.mul_one, and_true, true_and, false_and, and_false, or_true, true_or, or_false, false_or, not_true_eq_false, not_false_eq_true, eq_self, bI_0, bI_1, em_b, hI_ne, hI_at, hA_ne, hA_at, Sh_si, Sh_sA]
      have h15'' : hI (hsI (hsI (hsI h 66 t (nZ i)) 65 t (nZ 0)) 64 t (nZ (cdT T n i))) 56 15 = nZ t := by
        rw [hI_ne (by omega)]
        exact h15'
      have h65'' : hI (hsI (hsI (hsI h 66 t (nZ i)) 65 t (nZ 0)) 64 t (nZ (cdT T n i))) 65 t = nZ 0 := by
        rw [hI_ne (by omega), hI_at rfl]
      have hall : ∀ x, i ≤ x → x < te T n i → isD (T x) = true := by
        intro x hx1 hx2
        by_cases c : x = i
        · rw [c]
          exact hD
        · rw [eT] at hx2
          exact rn_all _ (i + 1) rfl x (by omega) hx2
      have tpk : TP (hsI (hsI (hsI h 66 t (nZ i)) 65 t (nZ 0)) 64 t (nZ (cdT T n i))) T := fun x hx => ⟨(tp x hx).1, (hI_ne (by omega)).trans (hkT x hx).2⟩
      rw [s1, s2, m260_169d (T := T) d n (te T n i) t (T i) (by omega) ht t1 hD _ i 0 (hsI (hsI (hsI h 66 t (nZ i)) 65 t (nZ 0)) 64 t (nZ (cdT T n i))) rfl (by omega) H tpk h15'' h65'' (by decide) hall]
      refine ⟨_, rfl, Fr.si rfl (Fr.si rfl (Fr.si rfl (Fr.si rfl (Fr.si rfl Fr.refl)))), ?_⟩
      have ev : vlT T n i = nvF T (te T n i - i) i 0 := by
        unfold vlT
        rw [if_pos hD]
      refine SP_ext sp (hI_at rfl) ?_ ?_ ?_ ?_
      · intro j hj
        simp (disch := omega) only [hI_ne]
        exact ⟨trivial, trivial, trivial⟩
      · rw [hi', hI_ne (by omega), hI_ne (by omega), hI_at rfl]
      · rw [hi', hI_ne (by omega), hI_at rfl, ev]
      · rw [hi', hI_ne (by omega), hI_ne (by omega), hI_ne (by omega), hI_ne (by omega), hI_at rfl]
    | false =>
      have hD' : (isD (T i) = true) = False := by
        rw [hD]
        exact eq_false (by decide)
      have eT : te T n i = i + 1 := by
        unfold te
        rw [if_neg (fun z => by rw [hS'] at z; exact z), if_neg (fun z => by rw [hD'] at z; exact z)]
      have ecd : cdT T n i = 100 + T i := by
        unfold cdT
        rw [if_neg (fun z => by rw [hS'] at z; exact z), if_neg (fun z => by rw [hD'] at z; exact z)]
      have s1 : qbig (d + 2) 260 7 [sR (some 56), sI (nZ n), sI (nZ i), none, none, none] [] h = qbig (d + 2) 260 100 [sR (some 56), sI (nZ n), sI (nZ i), sI (sB (T i)), sI (nZ (te T n i)), none] [] h := by
        rw [eT, E260_7]
        simp (disch := first | assumption | omega | (simp only [Sh_si, Sh_sA]; assumption)) only [t2, e32, m208 _ _ _ t1, hS', m202 _ _ _ t1, hD', p56_0, g56_0, p56_1, g56_1, g56_2, g56_3, g56_4, g56_5, p56_6, g56_6, g56_7, g56_8, g56_9, p56_10, g56_10, p56_11, g56_11, g56_12, g56_13, g56_14, p56_15, g56_15, p56_16, g56_16, p56_17, g56_17, p56_18, g56_18, p56_19, g56_19, p56_20, g56_20, B56_21, g56_21, g56_22, g56_23, g56_24, g56_25, g56_26, g56_27, p56_28, g56_28, p56_29, g56_29, p56_30, g56_30, p56_31, g56_31, g56_32, g56_33, g56_34, p56_35, g56_35, p56_36, g56_36, p56_37, g56_37, p56_38, g56_38, g56_39, g56_40, g56_41, p56_42, g56_42, p56_43, g56_43, p56_44, g56_44, ck56, A57, S57, l57, A58, S58, l58, A59, S59, l59, A60, S60, l60, A61, S61, l61, A62, S62, l62, A63, S63, l63, A64, S64, l64, A65, S65, l65, A66, S66, l66, A67, S67, l67, A68, S68, l68, A69, S69, l69, A70, S70, l70, A71, S71, l71, A72, S72, l72, A73, S73, l73, A74, S74, l74, A75, S75, l75, A76, S76, l76, A77, S77, l77, A78, S78, l78, L0, L1, L2, L3, L4, L5, L6, L7, L8, L9, L10, L11, L12, L13, L14, L15, L16, L17, L18, L19, L20, L21, L22, L23, L24, L25, L26, L27, L28, L29, L30, L31, L32, L33, L34, L35, L36, L37, L38, L39, L40, L41, L42, L43, L44, L45, L46, L47, L48, L49, L50, L52, L57, L60, L90, L91, L93, L97, L99, L100, L101, L122, L240, L255, L256, L400, L401, L408, L409, L410, L411, L412, L413, L414, L420, L1000, L1001, L1103, L1200, L1240, L2820, L5220, L7936, L10440, L12345, L1000000, L1000003, L1073741823, L59, L61, L62, L200, nd_lt_t, nd_lt_f, nd_le_t, nd_le_f, nd_eq_f, nZ_add, nZ_mul, nZ_sub, nZ_lt, nZ_le, nZ_eq, nZ_nat, nZ_div, nZ_rem, nZ_and, nZ_or, and31, nZ_shl, nZ_shr, nZ_m1, nZ_nneg, nZ_nneg', nZ_nlt, nZ_ltn, inR_lt, Nat.not_lt_zero, ob_some, jI, jL, jR, jV, rI0, rI1, rIv, if_true, if_false, ↓reduceIte, Nat.reduceAdd, Nat.reduceMul, Nat.reduceSub, Nat.reduceLT, Nat.reduceEqDiff, Nat.reduceLeDiff, Nat.zero_add, Nat.add_zero, Nat.zero_mul, Nat.mul_zero, Nat.one_mul, Nat.mul_one, and_true, true_and, false_and, and_false, or_true, true_or, or_false, false_or, not_true_eq_false, not_false_eq_true, eq_self, bI_0, bI_1, em_b, hI_ne, hI_at, hA_ne, hA_at, Sh_si, Sh_sA]
      have e255 := sB_255 _ t1
      have s2 : qbig (d + 2) 260 100 [sR (some 56), sI (nZ n), sI (nZ i), sI (sB (T i)), sI (nZ (te T n i)), none] [] h = qbig (d + 2) 260 169 [sR (some 56), sI (nZ n), none, sI (sB (T i)), sI (nZ (te T n i)), sI (nZ i)] [] (hsI (hsI (hsI h 66 t (nZ i)) 65 t (nZ 0)) 64 t (nZ (cdT T n i))) := by
        rw [E260_100, ecd]
        simp (disch := first | assumption | omega | (simp only [Sh_si, Sh_sA]; assumption)) only [h15, h15', m208 _ _ _ t1, hS', m202 _ _ _ t1, hD', e255, p56_0, g56_0, p56_1, g56_1, g56_2, g56_3, g56_4, g56_5, p56_6, g56_6, g56_7, g56_8, g56_9, p56_10, g56_10, p56_11, g56_11, g56_12, g56_13, g56_14, p56_15, g56_15, p56_16, g56_16, p56_17, g56_17, p56_18, g56_18, p56_19, g56_19, p56_20, g56_20, B56_21, g56_21, g56_22, g56_23, g56_24, g56_25, g56_26, g56_27, p56_28, g56_28, p56_29, g56_29, p56_30, g56_30, p56_31, g56_31, g56_32, g56_33, g56_34, p56_35, g56_35, p56_36, g56_36, p56_37, g56_37, p56_38, g56_38, g56_39, g56_40, g56_41, p56_42, g56_42, p56_43, g56_43, p56_44, g56_44, ck56, A57, S57, l57, A58, S58, l58, A59, S59, l59, A60, S60, l60, A61, S61, l61, A62, S62, l62, A63, S63, l63, A64, S64, l64, A65, S65, l65, A66, S66, l66, A67, S67, l67, A68, S68, l68, A69, S69, l69, A70, S70, l70, A71, S71, l71, A72, S72, l72, A73, S73, l73, A74, S74, l74, A75, S75, l75, A76, S76, l76, A77, S77, l77, A78, S78, l78, L0, L1, L2, L3, L4, L5, L6, L7, L8, L9, L10, L11, L12, L13, L14, L15, L16, L17, L18, L19, L20, L21, L22, L23, L24, L25, L26, L27, L28, L29, L30, L31, L32, L33, L34, L35, L36, L37, L38, L39, L40, L41, L42, L43, L44, L45, L46, L47, L48, L49, L50, L52, L57, L60, L90, L91, L93, L97, L99, L100, L101, L122, L240, L255, L256, L400, L401, L408, L409, L410, L411, L412, L413, L414, L420, L1000, L1001, L1103, L1200, L1240, L2820, L5220, L7936, L10440, L12345, L1000000, L1000003, L1073741823, L59, L61, L62, L200, nd_lt_t, nd_lt_f, nd_le_t, nd_le_f, nd_eq_f, nZ_add, nZ_mul, nZ_sub, nZ_lt, nZ_le, nZ_eq, nZ_nat, nZ_div, nZ_rem, nZ_and, nZ_or, and31, nZ_shl, nZ_shr, nZ_m1, nZ_nneg, nZ_nneg', nZ_nlt, nZ_ltn, inR_lt, Nat.not_lt_zero, ob_some, jI, jL, jR, jV, rI0, rI1, rIv, if_true, if_false, ↓reduceIte, Nat.reduceAdd, Nat.reduceMul, Nat.reduceSub, Nat.reduceLT, Nat.reduceEqDiff, Nat.reduceLeDiff, Nat.zero_add, Nat.add_zero, Nat.zero_mul, Nat.mul_zero, Nat.one_mul, Nat.mul_one, and_true, true_and, false_and, and_false, or_true, true_or, or_false, false_or, not_true_eq_false, not_false_eq_true, eq_self, bI_0, bI_1, em_b, hI_ne, hI_at, hA_ne, hA_at, Sh_si, Sh_sA]
      have h15'' : hI (hsI (hsI (hsI h 66 t (nZ i)) 65 t (nZ 0)) 64 t (nZ (cdT T n i))) 56 15 = nZ t := by
        rw [hI_ne (by omega)]
        exact h15'
      rw [s1, s2, m260_169n (h := hsI (hsI (hsI h 66 t (nZ i)) 65 t (nZ 0)) 64 t (nZ (cdT T n i))) H d n (te T n i) t (T i) i (by omega) ht t1 hD (by omega) h15'']
      refine ⟨_, rfl, Fr.si rfl (Fr.si rfl (Fr.si rfl (Fr.si rfl Fr.refl))), ?_⟩
      have ev : vlT T n i = 0 := by
        unfold vlT
        rw [hD]
        rfl
      refine SP_ext sp (hI_at rfl) ?_ ?_ ?_ ?_
      · intro j hj
        simp (disch := omega) only [hI_ne]
        exact ⟨trivial, trivial, trivial⟩
      · rw [hi', hI_ne (by omega), hI_at rfl]
      · rw [hi', hI_ne (by omega), hI_ne (by omega), hI_at rfl, ev]
      · rw [hi', hI_ne (by omega), hI_ne (by omega), hI_ne (by omega), hI_at rfl]
/-- all tokens -/
theorem m260_7 {T : Nat → Nat} (d n : Nat) (hn : n ≤ 400) : ∀ m i t h, n - i = m → i ≤ n → Sh h → WC h → TP h T → SP h T n t → rn T n isB i = ts T n t → (∀ k, k < t → ts T n k < n) → ∃ N h', qbig (d + 2) 260 7 [sR (some 56), sI (nZ n), sI (nZ i), none, none, none] [] h = some (none, h') ∧ Fr fS h h' ∧ (N ≤ n ∧ ts T n N = n ∧ ∀ k, k < N → ts T n k < n) ∧ SP h' T n N ∧ hI h' 64 N = nZ 0 ∧ hI h' 65 N = nZ 0 ∧ hI h' 66 N = nZ n := by
  intro m
  induction m using Nat.strongRecOn with
  | ind m ih =>
    intro i t h hm hi H w tp sp hrn hlt
    have ht : t ≤ n := by
      by_cases c : t = 0
      · omega
      · have h1 := hlt (t - 1) (by omega)
        have h2 := ((ts_b (T := T) (n := n) (t - 1)).2 h1).1
        omega
    by_cases c : i < n
    · obtain ⟨t1, t2⟩ := tp i (by omega)
      cases hB : isB (T i) with
      | true =>
        have e32 : (sB (T i) = nZ 32) = True := by
          rw [dec_iff (sB_32 _ t1)]
          unfold isB at hB
          exact eq_true (of_decide_eq_true hB)
        rw [rn_t c hB] at hrn
        obtain ⟨N, h', e1, e2⟩ := ih (n - (i + 1)) (by omega) (i + 1) t h rfl (by omega) H w tp sp hrn hlt
        refine ⟨N, h', ?_, e2⟩
        rw [← e1, E260_7]
        simp (disch := first | assumption | omega | (simp only [Sh_si, Sh_sA]; assumption)) only [t2, e32, p56_0, g56_0, p56_1, g56_1, g56_2, g56_3, g56_4, g56_5, p56_6, g56_6, g56_7, g56_8, g56_9, p56_10, g56_10, p56_11, g56_11, g56_12, g56_13, g56_14, p56_15, g56_15, p56_16, g56_16, p56_17, g56_17, p56_18, g56_18, p56_19, g56_19, p56_20, g56_20, B56_21, g56_21, g56_22, g56_23, g56_24, g56_25, g56_26, g56_27, p56_28, g56_28, p56_29, g56_29, p56_30, g56_30, p56_31, g56_31, g56_32, g56_33, g56_34, p56_35, g56_35, p56_36, g56_36, p56_37, g56_37, p56_38, g56_38, g56_39, g56_40, g56_41, p56_42, g56_42, p56_43, g56_43, p56_44, g56_44, ck56, A57, S57, l57, A58, S58, l58, A59, S59, l59, A60, S60, l60, A61, S61, l61, A62, S62, l62, A63, S63, l63, A64, S64, l64, A65, S65, l65, A66, S66, l66, A67, S67, l67, A68, S68, l68, A69, S69, l69, A70, S70, l70, A71, S71, l71, A72, S72, l72, A73, S73, l73, A74, S74, l74, A75, S75, l75, A76, S76, l76, A77, S77, l77, A78, S78, l78, L0, L1, L2, L3, L4, L5, L6, L7, L8, L9, L10, L11, L12, L13, L14, L15, L16, L17, L18, L19, L20, L21, L22, L23, L24, L25, L26, L27, L28, L29, L30, L31, L32, L33, L34, L35, L36, L37, L38, L39, L40, L41, L42, L43, L44, L45, L46, L47, L48, L49, L50, L52, L57, L60, L90, L91, L93, L97, L99, L100, L101, L122, L240, L255, L256, L400, L401, L408, L409, L410, L411, L412, L413, L414, L420, L1000, L1001, L1103, L1200, L1240, L2820, L5220, L7936, L10440, L12345, L1000000, L1000003, L1073741823, L59, L61, L62, L200, nd_lt_t, nd_lt_f, nd_le_t, nd_le_f, nd_eq_f, nZ_add, nZ_mul, nZ_sub, nZ_lt, nZ_le, nZ_eq, nZ_nat, nZ_div, nZ_rem, nZ_and, nZ_or, and31, nZ_shl, nZ_shr, nZ_m1, nZ_nneg, nZ_nneg', nZ_nlt, nZ_ltn, inR_lt, Nat.not_lt_zero, ob_some, jI, jL, jR, jV, rI0, rI1, rIv, if_true, if_false, ↓reduceIte, Nat.reduceAdd, Nat.reduceMul, Nat.reduceSub, Nat.reduceLT, Nat.reduceEqDiff, Nat.reduceLeDiff, Nat.zero_add, Nat.add_zero, Nat.zero_mul, Nat.mul_zero, Nat.one_mul, Nat.mul_one, and_true, true_and, false_and, and_false, or_true, true_or, or_false, false_or, not_true_eq_false, not_false_eq_true, eq_self, bI_0, bI_1, em_b, hI_ne, hI_at, hA_ne, hA_at, Sh_si, Sh_sA]
      | false =>
        rw [rn_f (fun _ => hB)] at hrn
        subst hrn
        have ht2 : t < n := by
          have h2 := ((ts_b (T := T) (n := n) t).2 c).1
          omega
        obtain ⟨h1, s1, F1, sp1⟩ := m260_tok H w tp d n t hn sp c (by omega)
        obtain ⟨b1, b2⟩ := te_b (T := T) c
        have hts : rn T n isB (te T n (ts T n t)) = ts T n (t + 1) := by
          show _ = if ts T n t < n then rn T n isB (te T n (ts T n t)) else ts T n t
          rw [if_pos c]
        obtain ⟨N, h', e1, e2, e3⟩ := ih (n - te T n (ts T n t)) (by omega) (te T n (ts T n t)) (t + 1) h1 rfl b2 (F1.Sh H) (w.fr F1 (fun j => ⟨rfl, rfl, rfl⟩)) (tp.fr F1 (fun j => rfl)) sp1 hts (fun k hk => by
          by_cases c2 : k = t
          · rw [c2]
            exact c
          · exact hlt k (by omega))
        exact ⟨N, h', s1.trans e1, F1.trans e2, e3⟩
    · have hin : i = n := by omega
      subst hin
      rw [rn_f (fun hh => absurd hh c)] at hrn
      have h15 := sp.1
      refine ⟨t, hsI (hsI (hsI h 66 t (nZ i)) 64 t (nZ 0)) 65 t (nZ 0), ?_, ?_, ⟨ht, hrn.symm, hlt⟩, ?_, ?_⟩
      · rw [E260_7]
        simp (disch := first | assumption | omega | (simp only [Sh_si, Sh_sA]; assumption)) only [h15, p56_0, g56_0, p56_1, g56_1, g56_2, g56_3, g56_4, g56_5, p56_6, g56_6, g56_7, g56_8, g56_9, p56_10, g56_10, p56_11, g56_11, g56_12, g56_13, g56_14, p56_15, g56_15, p56_16, g56_16, p56_17, g56_17, p56_18, g56_18, p56_19, g56_19, p56_20, g56_20, B56_21, g56_21, g56_22, g56_23, g56_24, g56_25, g56_26, g56_27, p56_28, g56_28, p56_29, g56_29, p56_30, g56_30, p56_31, g56_31, g56_32, g56_33, g56_34, p56_35, g56_35, p56_36, g56_36, p56_37, g56_37, p56_38, g56_38, g56_39, g56_40, g56_41, p56_42, g56_42, p56_43, g56_43, p56_44, g56_44, ck56, A57, S57, l57, A58, S58, l58, A59, S59, l59, A60, S60, l60, A61, S61, l61, A62, S62, l62, A63, S63, l63, A64, S64, l64, A65, S65, l65, A66, S66, l66, A67, S67, l67, A68, S68, l68, A69, S69, l69, A70, S70, l70, A71, S71, l71, A72, S72, l72, A73, S73, l73, A74, S74, l74, A75, S75, l75, A76, S76, l76, A77, S77, l77, A78, S78, l78, L0, L1, L2, L3, L4, L5, L6, L7, L8, L9, L10, L11, L12, L13, L14, L15, L16, L17, L18, L19, L20, L21, L22, L23, L24, L25, L26, L27, L28, L29, L30, L31, L32, L33, L34, L35, L36, L37, L38, L39, L40, L41, L42, L43, L44, L45, L46, L47, L48, L49, L50, L52, L57, L60, L90, L91, L93, L97, L99, L100, L101, L122, L240, L255, L256, L400, L401, L408, L409, L410, L411, L412, L413, L414, L420, L1000, L1001, L1103, L1200, L1240, L2820, L5220, L7936, L10440, L12345, L1000000, L1000003, L1073741823, L59, L61, L62, L200, nd_lt_t, nd_lt_f, nd_le_t, nd_le_f, nd_eq_f, nZ_add, nZ_mul, nZ_sub, nZ_lt, nZ_le, nZ_eq, nZ_nat, nZ_div, nZ_rem, nZ_and, nZ_or, and31, nZ_shl, nZ_shr, nZ_m1, nZ_nneg, nZ_nneg', nZ_nlt, nZ_ltn, inR_lt, Nat.not_lt_zero, ob_some, jI, jL, jR, jV, rI0, rI1, rIv, if_true, if_false, ↓reduceIte, Nat.reduceAdd, Nat.reduceMul, Nat.reduceSub, Nat.reduceLT, Nat.reduceEqDiff, Nat.reduceLeDiff, Nat.zero_add, Nat.add_zero, Nat.zero_mul, Nat.mul_zero, Nat.one_mul, Nat.mul_one, and_true, true_and, false_and, and_false, or_true, true_or, or_false, false_or, not_true_eq_false, not_false_eq_true, eq_self, bI_0, bI_1, em_b, hI_ne, hI_at, hA_ne, hA_at, Sh_si, Sh_sA]
      · exact Fr.si rfl (Fr.si rfl (Fr.si rfl Fr.refl))
      · refine ⟨?_, ?_⟩
        · simp (disch := omega) only [hI_ne]
          exact h15
        · intro k hk
          simp (disch := omega) only [hI_ne]
          exact sp.2 k hk
      · refine ⟨?_, ?_, ?_⟩
        · simp (disch := omega) only [hI_ne, hI_at]
        · simp (disch := omega) only [hI_ne, hI_at]
        · simp (disch := omega) only [hI_ne, hI_at]
theorem m260 {h : QH} (H : Sh h) (w : WC h) {T : Nat → Nat} (tp : TP h T) (d n : Nat) (hn : n ≤ 400) : ∃ N h', qcl (d + 2) 260 [qR (some 56), qI (nZ n)] h = some (none, h') ∧ Fr fS h h' ∧ (N ≤ n ∧ ts T n N = n ∧ ∀ k, k < N → ts T n k < n) ∧ SP h' T n N ∧ hI h' 64 N = nZ 0 ∧ hI h' 65 N = nZ 0 ∧ hI h' 66 N = nZ n := by
  have F1 : Fr fS h (hsI h 56 15 (nZ 0)) := Fr.si rfl Fr.refl
  obtain ⟨N, h', e1, e2, e3⟩ := m260_7 (T := T) d n hn n 0 0 (hsI h 56 15 (nZ 0)) (by omega) (by omega) (F1.Sh H) (w.fr F1 (fun j => ⟨rfl, rfl, rfl⟩)) (tp.fr F1 (fun j => rfl)) ⟨hI_at rfl, fun k hk => absurd hk (by omega)⟩ rfl (fun k hk => absurd hk (by omega))
  refine ⟨N, h', ?_, F1.trans e2, e3⟩
  rw [← e1, E260]
  simp (disch := first | assumption | omega | (simp only [Sh_si, Sh_sA]; assumption)) only [p56_0, g56_0, p56_1, g56_1, g56_2, g56_3, g56_4, g56_5, p56_6, g56_6, g56_7, g56_8, g56_9, p56_10, g56_10, p56_11, g56_11, g56_12, g56_13, g56_14, p56_15, g56_15, p56_16, g56_16, p56_17, g56_17, p56_18, g56_18, p56_19, g56_19, p56_20, g56_20, B56_21, g56_21, g56_22, g56_23, g56_24, g56_25, g56_26, g56_27, p56_28, g56_28, p56_29, g56_29, p56_30, g56_30, p56_31, g56_31, g56_32, g56_33, g56_34, p56_35, g56_35, p56_36, g56_36, p56_37, g56_37, p56_38, g56_38, g56_39, g56_40, g56_41, p56_42, g56_42, p56_43, g56_43, p56_44, g56_44, ck56, A57, S57, l57, A58, S58, l58, A59, S59, l59, A60, S60, l60, A61, S61, l61, A62, S62, l62, A63, S63, l63, A64, S64, l64, A65, S65, l65, A66, S66, l66, A67, S67, l67, A68, S68, l68, A69, S69, l69, A70, S70, l70, A71, S71, l71, A72, S72, l72, A73, S73, l73, A74, S74, l74, A75, S75, l75, A76, S76, l76, A77, S77, l77, A78, S78, l78, L0, L1, L2, L3, L4, L5, L6, L7, L8, L9, L10, L11, L12, L13, L14, L15, L16, L17, L18, L19, L20, L21, L22, L23, L24, L25, L26, L27, L28, L29, L30, L31, L32, L33, L34, L35, L36, L37, L38, L39, L40, L41, L42, L43, L44, L45, L46, L47, L48, L49, L50, L52, L57, L60, L90, L91, L93, L97, L99, L100, L101, L122, L240, L255, L256, L400, L401, L408, L409, L410, L411, L412, L413, L414, L420, L1000, L1001, L1103, L1200, L1240, L2820, L5220, L7936, L10440, L12345, L1000000, L1000003, L1073741823, L59, L61, L62, L200, nd_lt_t, nd_lt_f, nd_le_t, nd_le_f, nd_eq_f, nZ_add, nZ_mul, nZ_sub, nZ_lt, nZ_le, nZ_eq, nZ_nat, nZ_div, nZ_rem, nZ_and, nZ_or, and31, nZ_shl, nZ_shr, nZ_m1, nZ_nneg, nZ_nneg', nZ_nlt, nZ_ltn, inR_lt, Nat.not_lt_zero, ob_some, jI, jL, jR, jV, rI0, rI1, rIv, if_true, if_false, ↓reduceIte, Nat.reduceAdd, Nat.reduceMul, Nat.reduceSub, Nat.reduceLT, Nat.reduceEqDiff, Nat.reduceLeDiff, Nat.zero_add, Nat.add_zero, Nat.zero_mul, Nat.mul_zero, Nat.one_mul, Nat.mul_one, and_true, true_and, false_and, and_false, or_true, true_or, or_false, false_or, not_true_eq_false, not_false_eq_true, eq_self, bI_0, bI_1, em_b, hI_ne, hI_at, hA_ne, hA_at, Sh_si, Sh_sA]

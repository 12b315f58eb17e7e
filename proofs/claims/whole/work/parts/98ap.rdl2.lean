/-! ===== reads, law: the reference ===== -/
theorem nvF_le {T : Nat → Nat} (hT : ∀ i, T i - 48 ≤ 207) : ∀ f i v, v ≤ 10000209 → nvF T f i v ≤ 10000209
  | 0, i, v, h => h
  | f + 1, i, v, h => by
    show nvF T f (i + 1) (if 1000000 < v then v else 10 * v + (T i - 48)) ≤ 10000209
    refine nvF_le hT f (i + 1) _ ?_
    have := hT i
    split <;> omega
/-- a tape of bytes beyond which nothing is read -/
def cutT (T : Nat → Nat) : Nat → Nat := fun i => if T i < 256 then T i else 0
theorem nvF_cut {T R : Nat → Nat} : ∀ f i v, (∀ x, i ≤ x → x < i + f → T x = R x) → nvF T f i v = nvF R f i v
  | 0, i, v, _ => rfl
  | f + 1, i, v, h => by
    show nvF T f (i + 1) (if 1000000 < v then v else 10 * v + (T i - 48)) = nvF R f (i + 1) (if 1000000 < v then v else 10 * v + (R i - 48))
    rw [h i (Nat.le_refl _) (by omega)]
    exact nvF_cut f (i + 1) _ (fun x h1 h2 => h x (by omega) (by omega))
theorem vlT_lt {T : Nat → Nat} {n i : Nat} (hT : ∀ x, x < n → T x < 256) (hi : i < n) : vlT T n i < 2147483648 := by
  unfold vlT
  split
  · obtain ⟨b1, b2⟩ := te_b (T := T) hi
    have e : nvF T (te T n i - i) i 0 = nvF (fun x => if T x < 256 then T x else 0) (te T n i - i) i 0 := by
      refine nvF_cut _ _ _ ?_
      intro x h1 h2
      show T x = if T x < 256 then T x else 0
      rw [if_pos (hT x (by omega))]
    rw [e]
    have := nvF_le (T := fun x => if T x < 256 then T x else 0) (fun x => by
      show (if T x < 256 then T x else 0) - 48 ≤ 207
      split <;> omega) (te T n i - i) i 0 (by omega)
    omega
  · decide
theorem m_reads {h : QH} (H : Sh h) (w : WC h) {T : Nat → Nat} (tp : TP h T) (d n : Nat) (hn : n ≤ 400) (h10 : hI h 56 10 = nZ n) : ∃ N h2, NN T n N ∧ Fr fS h h2 ∧ SP h2 T n N ∧ (∀ e, RL (CT T n) (VT T n) N 12 0 0 0 = .inl e → e ≤ N) ∧ RO (hsI h2 56 10 (nZ 0)) (ts T n) (qcl (d + 62) 243 [qR (some 56)] h) (RL (CT T n) (VT T n) N 12 0 0 0) := by
  obtain ⟨N, h2, e1, F2, w3, sp, e64, e65, e66⟩ := m260 H w tp (d + 59) n hn
  have hT : ∀ i, i < n → T i < 256 := fun i hi => (tp i (by omega)).1
  have H2 := F2.Sh H
  have X : RX (hsI h2 56 10 (nZ 0)) (CT T n) (VT T n) (ts T n) N := by
    refine ⟨H2, by have := w3.1; omega, ?_, ?_, ?_⟩
    · intro k hk
      rw [hI_ne (by omega)]
      unfold cAt
      by_cases c : k < N
      · rw [if_pos c]
        refine ⟨(sp.2 k c).1, ?_⟩
        have h4 : cdT T n (ts T n k) < 400 := cdT_lt (hT _ (w3.2.2 k c))
        show cdT T n (ts T n k) < 1000
        omega
      · have hkN : k = N := by omega
        rw [if_neg c, hkN]
        exact ⟨e64, by decide⟩
    · intro k hk
      rw [hI_ne (by omega)]
      exact ⟨(sp.2 k hk).2.1, vlT_lt hT (w3.2.2 k hk)⟩
    · intro k hk
      rw [hI_ne (by omega)]
      have hb := (ts_b (T := T) (n := n) k).1
      by_cases c : k < N
      · exact ⟨(sp.2 k c).2.2, by omega⟩
      · have hkN : k = N := by omega
        rw [hkN, e66, w3.2.1]
        exact ⟨rfl, by omega⟩
  have h15 : hI (hsI h2 56 10 (nZ 0)) 56 15 = nZ N := by
    rw [hI_ne (by omega)]
    exact sp.1
  obtain ⟨b1, o1⟩ := m243 X h15 d 11 0 0 0 (by decide) (Nat.zero_le _) (Nat.zero_le _)
  refine ⟨N, h2, w3, F2, sp, b1, ?_⟩
  have e : qcl (d + 62) 243 [qR (some 56)] h = cV (qcl (d + 61) 237 [qR (some 56)] (rdX (hsI h2 56 10 (nZ 0)) (nZ 0) (nZ 0) (-nZ 1))) (fun h1 => qbig (d + 62) 243 34 [sR (some 56), sI (nZ (12 - 11))] [] h1) := by
    have m1 : (-1 : Int32) = -nZ 1 := rfl
    simp (disch := first | assumption | omega | (simp only [Sh_si, Sh_sA]; assumption)) only [E243, h10, e1, m1, p56_0, g56_0, p56_1, g56_1, g56_2, g56_3, g56_4, g56_5, p56_6, g56_6, g56_7, g56_8, g56_9, p56_10, g56_10, p56_11, g56_11, g56_12, g56_13, g56_14, p56_15, g56_15, p56_16, g56_16, p56_17, g56_17, p56_18, g56_18, p56_19, g56_19, p56_20, g56_20, B56_21, g56_21, g56_22, g56_23, g56_24, g56_25, g56_26, g56_27, p56_28, g56_28, p56_29, g56_29, p56_30, g56_30, p56_31, g56_31, g56_32, g56_33, g56_34, p56_35, g56_35, p56_36, g56_36, p56_37, g56_37, p56_38, g56_38, g56_39, g56_40, g56_41, p56_42, g56_42, p56_43, g56_43, p56_44, g56_44, ck56, A57, S57, l57, A58, S58, l58, A59, S59, l59, A60, S60, l60, A61, S61, l61, A62, S62, l62, A63, S63, l63, A64, S64, l64, A65, S65, l65, A66, S66, l66, A67, S67, l67, A68, S68, l68, A69, S69, l69, A70, S70, l70, A71, S71, l71, A72, S72, l72, A73, S73, l73, A74, S74, l74, A75, S75, l75, A76, S76, l76, A77, S77, l77, A78, S78, l78, L0, L1, L2, L3, L4, L5, L6, L7, L8, L9, L10, L11, L12, L13, L14, L15, L16, L17, L18, L19, L20, L21, L22, L23, L24, L25, L26, L27, L28, L29, L30, L31, L32, L33, L34, L35, L36, L37, L38, L39, L40, L41, L42, L43, L44, L45, L46, L47, L48, L49, L50, L52, L57, L60, L90, L91, L93, L97, L99, L100, L101, L122, L240, L255, L256, L400, L401, L408, L409, L410, L411, L412, L413, L414, L420, L1000, L1001, L1103, L1200, L1240, L2820, L5220, L7936, L10440, L12345, L1000000, L1000003, L1073741823, L59, L61, L62, L200, nd_lt_t, nd_lt_f, nd_le_t, nd_le_f, nd_eq_f, nZ_add, nZ_mul, nZ_sub, nZ_lt, nZ_le, nZ_eq, nZ_nat, nZ_div, nZ_rem, nZ_and, nZ_or, and31, nZ_shl, nZ_shr, nZ_m1, nZ_nneg, nZ_nneg', nZ_nlt, nZ_ltn, inR_lt, Nat.not_lt_zero, ob_some, jI, jL, jR, jV, rI0, rI1, rIv, if_true, if_false, ↓reduceIte, Nat.reduceAdd, Nat.reduceMul, Nat.reduceSub, Nat.reduceLT, Nat.reduceEqDiff, Nat.reduceLeDiff, Nat.zero_add, Nat.add_zero, Nat.zero_mul, Nat.mul_zero, Nat.one_mul, Nat.mul_one, and_true, true_and, false_and, and_false, or_true, true_or, or_false, false_or, not_true_eq_false, not_false_eq_true, eq_self, bI_0, bI_1, em_b, hI_ne, hI_at, hA_ne, hA_at, Sh_si, Sh_sA]
    rfl
  rw [e]
  exact o1
/-! copying the tokens -/
def lawW (W : Nat → Nat) (t N : Nat) (C V : Nat → Nat) (k : Nat) : Nat → Nat := fun j => if j = 414 + t then N else if 420 + 400 * t ≤ j ∧ j < 420 + 400 * t + k then C (j - (420 + 400 * t)) else if 2820 + 400 * t ≤ j ∧ j < 2820 + 400 * t + k then V (j - (2820 + 400 * t)) else W j
theorem lawW_0 {W : Nat → Nat} {t N : Nat} {C V : Nat → Nat} : up W (414 + t) N = lawW W t N C V 0 := by
  funext j
  unfold up lawW
  by_cases c : j = 414 + t
  · rw [if_pos c, if_pos c]
  · rw [if_neg c, if_neg c, if_neg (by omega), if_neg (by omega)]
theorem lawW_s {W : Nat → Nat} {t N k : Nat} {C V : Nat → Nat} (hk : k < 400) (ht : t < 6) : up (up (lawW W t N C V k) (420 + 400 * t + k) (C k)) (2820 + 400 * t + k) (V k) = lawW W t N C V (k + 1) := by
  funext j
  unfold up lawW
  by_cases c1 : j = 2820 + 400 * t + k
  · rw [if_pos c1, if_neg (by omega), if_neg (by omega), if_pos (by omega)]
    congr 1
    omega
  · rw [if_neg c1]
    by_cases c2 : j = 420 + 400 * t + k
    · rw [if_pos c2, if_neg (by omega), if_pos (by omega)]
      congr 1
      omega
    · rw [if_neg c2]
      by_cases c3 : j = 414 + t
      · rw [if_pos c3, if_pos c3]
      · rw [if_neg c3, if_neg c3]
        by_cases c4 : 420 + 400 * t ≤ j ∧ j < 420 + 400 * t + k
        · rw [if_pos c4, if_pos (by omega)]
        · rw [if_neg c4, if_neg (show ¬(420 + 400 * t ≤ j ∧ j < 420 + 400 * t + (k + 1)) by omega)]
          by_cases c5 : 2820 + 400 * t ≤ j ∧ j < 2820 + 400 * t + k
          · rw [if_pos c5, if_pos (by omega)]
          · rw [if_neg c5, if_neg (by omega)]
def f58 (b j : Nat) : Bool := (match b with
  | 58 => true | _ => false)
theorem m214_64 {W : Nat → Nat} {t N : Nat} {C V : Nat → Nat} (d : Nat) (ht : t < 6) (hN4 : N ≤ 400) : ∀ m k h, N - k = m → k ≤ N → Sh h → hI h 56 15 = nZ N → (∀ j, j < N → hI h 64 j = nZ (C j) ∧ hI h 65 j = nZ (V j)) → MK h (lawW W t N C V k) → ∃ h', qbig (d + 2) 214 64 [sR (some 56), sI (nZ t), sI (nZ k)] [] h = qbig (d + 2) 214 64 [sR (some 56), sI (nZ t), sI (nZ N)] [] h' ∧ Fr f58 h h' ∧ MK h' (lawW W t N C V N) := by
  intro m
  induction m with
  | zero =>
    intro k h hm hk H h15 hcv mk
    have hkN : k = N := by omega
    subst hkN
    exact ⟨h, rfl, Fr.refl, mk⟩
  | succ m ih =>
    intro k h hm hk H h15 hcv mk
    obtain ⟨c1, c2⟩ := hcv k (by omega)
    have mk1 := MK.up (i := 420 + 400 * t + k) (v := C k) mk (by omega)
    have mk2 := MK.up (i := 2820 + 400 * t + k) (v := V k) mk1 (by omega)
    rw [lawW_s (by omega) ht] at mk2
    obtain ⟨h', e1, F1, mk3⟩ := ih (k + 1) (hsI (hsI h 58 (420 + 400 * t + k) (nZ (C k))) 58 (2820 + 400 * t + k) (nZ (V k))) (by omega) (by omega) H (by rw [hI_ne (by omega), hI_ne (by omega)]; exact h15) (fun j hj => by
      rw [hI_ne (by omega), hI_ne (by omega), hI_ne (by omega), hI_ne (by omega)]
      exact hcv j hj) mk2
    refine ⟨h', ?_, (Fr.si rfl (Fr.si rfl Fr.refl)).trans F1, mk3⟩
    rw [← e1, E214_64]
    simp (disch := first | assumption | omega | (simp only [Sh_si, Sh_sA]; assumption)) only [h15, c1, c2, p56_0, g56_0, p56_1, g56_1, g56_2, g56_3, g56_4, g56_5, p56_6, g56_6, g56_7, g56_8, g56_9, p56_10, g56_10, p56_11, g56_11, g56_12, g56_13, g56_14, p56_15, g56_15, p56_16, g56_16, p56_17, g56_17, p56_18, g56_18, p56_19, g56_19, p56_20, g56_20, B56_21, g56_21, g56_22, g56_23, g56_24, g56_25, g56_26, g56_27, p56_28, g56_28, p56_29, g56_29, p56_30, g56_30, p56_31, g56_31, g56_32, g56_33, g56_34, p56_35, g56_35, p56_36, g56_36, p56_37, g56_37, p56_38, g56_38, g56_39, g56_40, g56_41, p56_42, g56_42, p56_43, g56_43, p56_44, g56_44, ck56, A57, S57, l57, A58, S58, l58, A59, S59, l59, A60, S60, l60, A61, S61, l61, A62, S62, l62, A63, S63, l63, A64, S64, l64, A65, S65, l65, A66, S66, l66, A67, S67, l67, A68, S68, l68, A69, S69, l69, A70, S70, l70, A71, S71, l71, A72, S72, l72, A73, S73, l73, A74, S74, l74, A75, S75, l75, A76, S76, l76, A77, S77, l77, A78, S78, l78, L0, L1, L2, L3, L4, L5, L6, L7, L8, L9, L10, L11, L12, L13, L14, L15, L16, L17, L18, L19, L20, L21, L22, L23, L24, L25, L26, L27, L28, L29, L30, L31, L32, L33, L34, L35, L36, L37, L38, L39, L40, L41, L42, L43, L44, L45, L46, L47, L48, L49, L50, L52, L57, L60, L90, L91, L93, L97, L99, L100, L101, L122, L240, L255, L256, L400, L401, L408, L409, L410, L411, L412, L413, L414, L420, L1000, L1001, L1103, L1200, L1240, L2820, L5220, L7936, L10440, L12345, L1000000, L1000003, L1073741823, L59, L61, L62, L200, nd_lt_t, nd_lt_f, nd_le_t, nd_le_f, nd_eq_f, nZ_add, nZ_mul, nZ_sub, nZ_lt, nZ_le, nZ_eq, nZ_nat, nZ_div, nZ_rem, nZ_and, nZ_or, and31, nZ_shl, nZ_shr, nZ_m1, nZ_nneg, nZ_nneg', nZ_nlt, nZ_ltn, inR_lt, Nat.not_lt_zero, ob_some, jI, jL, jR, jV, rI0, rI1, rIv, if_true, if_false, ↓reduceIte, Nat.reduceAdd, Nat.reduceMul, Nat.reduceSub, Nat.reduceLT, Nat.reduceEqDiff, Nat.reduceLeDiff, Nat.zero_add, Nat.add_zero, Nat.zero_mul, Nat.mul_zero, Nat.one_mul, Nat.mul_one, and_true, true_and, false_and, and_false, or_true, true_or, or_false, false_or, not_true_eq_false, not_false_eq_true, eq_self, bI_0, bI_1, em_b, hI_ne, hI_at, hA_ne, hA_at, Sh_si, Sh_sA]

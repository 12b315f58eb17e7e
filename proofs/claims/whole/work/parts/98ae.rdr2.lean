/-- how the reader's methods end -/
def OC (h : QH) (U : Nat → Nat) (g : QO) (r : Rd) : Prop := match r with
  | .inl e => ∃ x y, g = some (none, rdX h x y (nZ (U e)))
  | .inr v => g = some (none, rdX h (nZ v.1) (nZ v.2.1) (-nZ 1))
noncomputable def RMg (s D dp : Nat) (k : QH) : QO := match s with
  | 0 => qcl D 238 [qR (some 56), qI (nZ dp)] k
  | 1 => qcl D 241 [qR (some 56), qI (nZ dp)] k
  | 2 => qbig D 241 5 [sR (some 56), sI (nZ dp)] [] k
  | 3 => qcl D 240 [qR (some 56), qI (nZ dp)] k
  | 4 => qbig D 240 5 [sR (some 56), sI (nZ dp)] [] k
  | 5 => qbig D 239 2 [sR (some 56), sI (nZ dp), sI (nZ 1), none] [] k
  | 6 => qcl D 236 [qR (some 56), qI (nZ dp)] k
  | 7 => qbig D 236 5 [sR (some 56), sI (nZ dp)] [] k
  | 8 => qcl D 242 [qR (some 56), qI (nZ dp)] k
  | _ => qbig D 242 5 [sR (some 56), sI (nZ dp)] [] k
def RMd (s dp : Nat) : Nat := 3 * (9 - dp) + (match s with
  | 0 => 6 | 1 => 7 | 2 => 7 | 3 => 8 | 4 => 8 | 5 => 9 | 6 => 10 | 7 => 10 | 8 => 11 | _ => 11)
def GR (h : QH) (U : Nat → Nat) (N s pos lv dp : Nat) (r : Rd) : Prop := (∀ e, r = .inl e → e ≤ N) ∧ ∀ D, RMd s dp ≤ D → OC h U (RMg s D dp (rdX h (nZ pos) (nZ lv) (-nZ 1))) r
theorem GR_inl {h : QH} {U : Nat → Nat} {N s pos lv dp e : Nat} (he : e ≤ N) (g : ∀ D, RMd s dp ≤ D → ∃ x y, RMg s D dp (rdX h (nZ pos) (nZ lv) (-nZ 1)) = some (none, rdX h x y (nZ (U e)))) : GR h U N s pos lv dp (.inl e) := ⟨fun e' he' => by cases he'; exact he, g⟩
theorem GR_inr {h : QH} {U : Nat → Nat} {N s pos lv dp : Nat} {v : Nat × Nat × List Nat × Den} (g : ∀ D, RMd s dp ≤ D → RMg s D dp (rdX h (nZ pos) (nZ lv) (-nZ 1)) = some (none, rdX h (nZ v.1) (nZ v.2.1) (-nZ 1))) : GR h U N s pos lv dp (.inr v) := ⟨fun e' he' => (by cases he'), g⟩
theorem RMd_9 (s : Nat) {dp : Nat} (h : dp ≤ 8) : 9 ≤ RMd s dp := by
  unfold RMd
  split <;> omega
def RIH (h : QH) (C V U : Nat → Nat) (N f : Nat) : Prop := ∀ s pos lv dp z ng acc, s < 10 → ng < 2 → (ng = 1 → s = 5) → pos ≤ N → lv ≤ 50 → dp ≤ 8 → P C V N f s pos lv dp z ng acc ≠ .inl 100000 → GR h U N s pos lv dp (P C V N f s pos lv dp z ng acc)
/-- behind the first sum of a comparison -/
theorem m239_cmp {h : QH} {C V U : Nat → Nat} {N : Nat} (X : RX h C V U N) (d pos p lv l dp : Nat) (hpos : pos ≤ N) (hp : p ≤ N) (c2 : cAt C N pos ≠ 140) (g1 : qcl (d + 4) 240 [qR (some 56), qI (nZ dp)] (rdX h (nZ pos) (nZ lv) (-nZ 1)) = some (none, rdX h (nZ p) (nZ l) (-nZ 1))) : qbig (d + 5) 239 2 [sR (some 56), sI (nZ dp), sI (nZ 0), none] [] (rdX h (nZ pos) (nZ lv) (-nZ 1)) = if cAt C N p = 160 ∨ cAt C N p = 162 ∨ cAt C N p = 161 then cV (qcl (d + 4) 240 [qR (some 56), qI (nZ dp)] (rdX h (nZ (p + 1)) (nZ l) (-nZ 1))) (fun k2 => some (none, k2)) else some (none, rdX h (nZ p) (nZ l) (nZ (U p))) := by
  have H := X.1
  have H1 : Sh (rdX h (nZ pos) (nZ lv) (-nZ 1)) := H
  have hN4 := X.2.1
  have z10 : (nZ 1 = nZ 0) = False := by decide
  have hCp := (X.2.2.1 pos hpos).2
  have hU := (X.2.2.2.2 p hp).2
  have c2' := eq_false c2
  have e187 := m187t H (d + 3) (nZ pos) (nZ lv)
  have eC : hI (rdX h (nZ pos) (nZ lv) (-nZ 1)) 64 pos = nZ (cAt C N pos) := X.C hpos
  have t60 := m264t X (d + 2) p 160 (nZ l) hp (by decide)
  have t62 := m264t X (d + 2) p 162 (nZ l) hp (by decide)
  have f3 := m224t X (d + 1) p 161 (nZ l) hp (by decide)
  have f4 := nf240 H d (U p) (nZ p) (nZ l) (nZ dp) hU
  rw [E239_2]
  by_cases c4 : cAt C N p = 160
  · rw [if_pos (Or.inl c4)]
    rw [bI_t c4, if_pos c4] at t60
    clear t62 f3 f4
    simp (disch := first | assumption | omega | (simp only [Sh_si, Sh_sA]; assumption)) only [e187, z10, rdX_16, eC, c2', m254, g1, t60, p56_0, g56_0, p56_1, g56_1, g56_2, g56_3, g56_4, g56_5, p56_6, g56_6, g56_7, g56_8, g56_9, p56_10, g56_10, p56_11, g56_11, g56_12, g56_13, g56_14, p56_15, g56_15, p56_16, g56_16, p56_17, g56_17, p56_18, g56_18, p56_19, g56_19, p56_20, g56_20, B56_21, g56_21, g56_22, g56_23, g56_24, g56_25, g56_26, g56_27, p56_28, g56_28, p56_29, g56_29, p56_30, g56_30, p56_31, g56_31, g56_32, g56_33, g56_34, p56_35, g56_35, p56_36, g56_36, p56_37, g56_37, p56_38, g56_38, g56_39, g56_40, g56_41, p56_42, g56_42, p56_43, g56_43, p56_44, g56_44, ck56, A57, S57, l57, A58, S58, l58, A59, S59, l59, A60, S60, l60, A61, S61, l61, A62, S62, l62, A63, S63, l63, A64, S64, l64, A65, S65, l65, A66, S66, l66, A67, S67, l67, A68, S68, l68, A69, S69, l69, A70, S70, l70, A71, S71, l71, A72, S72, l72, A73, S73, l73, A74, S74, l74, A75, S75, l75, A76, S76, l76, A77, S77, l77, A78, S78, l78, L0, L1, L2, L3, L4, L5, L6, L7, L8, L9, L10, L11, L12, L13, L14, L15, L16, L17, L18, L19, L20, L21, L22, L23, L24, L25, L26, L27, L28, L29, L30, L31, L32, L33, L34, L35, L36, L37, L38, L39, L40, L41, L42, L43, L44, L45, L46, L47, L48, L49, L50, L52, L57, L60, L90, L91, L93, L97, L99, L100, L101, L122, L240, L255, L256, L400, L401, L408, L409, L410, L411, L412, L413, L414, L420, L1000, L1001, L1103, L1200, L1240, L2820, L5220, L7936, L10440, L12345, L1000000, L1000003, L1073741823, L59, L61, L62, L200, nd_lt_t, nd_lt_f, nd_le_t, nd_le_f, nd_eq_f, nZ_add, nZ_mul, nZ_sub, nZ_lt, nZ_le, nZ_eq, nZ_nat, nZ_div, nZ_rem, nZ_and, nZ_or, and31, nZ_shl, nZ_shr, nZ_m1, nZ_nneg, nZ_nneg', nZ_nlt, nZ_ltn, inR_lt, Nat.not_lt_zero, ob_some, jI, jL, jR, jV, rI0, rI1, rIv, if_true, if_false, ↓reduceIte, Nat.reduceAdd, Nat.reduceMul, Nat.reduceSub, Nat.reduceLT, Nat.reduceEqDiff, Nat.reduceLeDiff, Nat.zero_add, Nat.add_zero, Nat.zero_mul, Nat.mul_zero, Nat.one_mul, Nat.mul_one, and_true, true_and, false_and, and_false, or_true, true_or, or_false, false_or, not_true_eq_false, not_false_eq_true, eq_self, bI_0, bI_1, em_b, hI_ne, hI_at, hA_ne, hA_at, Sh_si, Sh_sA]
  · rw [bI_f c4, if_neg c4] at t60
    by_cases c5 : cAt C N p = 162
    · rw [if_pos (Or.inr (Or.inl c5))]
      rw [bI_t c5, if_pos c5] at t62
      clear f3 f4
      simp (disch := first | assumption | omega | (simp only [Sh_si, Sh_sA]; assumption)) only [e187, z10, rdX_16, eC, c2', m254, g1, t60, t62, p56_0, g56_0, p56_1, g56_1, g56_2, g56_3, g56_4, g56_5, p56_6, g56_6, g56_7, g56_8, g56_9, p56_10, g56_10, p56_11, g56_11, g56_12, g56_13, g56_14, p56_15, g56_15, p56_16, g56_16, p56_17, g56_17, p56_18, g56_18, p56_19, g56_19, p56_20, g56_20, B56_21, g56_21, g56_22, g56_23, g56_24, g56_25, g56_26, g56_27, p56_28, g56_28, p56_29, g56_29, p56_30, g56_30, p56_31, g56_31, g56_32, g56_33, g56_34, p56_35, g56_35, p56_36, g56_36, p56_37, g56_37, p56_38, g56_38, g56_39, g56_40, g56_41, p56_42, g56_42, p56_43, g56_43, p56_44, g56_44, ck56, A57, S57, l57, A58, S58, l58, A59, S59, l59, A60, S60, l60, A61, S61, l61, A62, S62, l62, A63, S63, l63, A64, S64, l64, A65, S65, l65, A66, S66, l66, A67, S67, l67, A68, S68, l68, A69, S69, l69, A70, S70, l70, A71, S71, l71, A72, S72, l72, A73, S73, l73, A74, S74, l74, A75, S75, l75, A76, S76, l76, A77, S77, l77, A78, S78, l78, L0, L1, L2, L3, L4, L5, L6, L7, L8, L9, L10, L11, L12, L13, L14, L15, L16, L17, L18, L19, L20, L21, L22, L23, L24, L25, L26, L27, L28, L29, L30, L31, L32, L33, L34, L35, L36, L37, L38, L39, L40, L41, L42, L43, L44, L45, L46, L47, L48, L49, L50, L52, L57, L60, L90, L91, L93, L97, L99, L100, L101, L122, L240, L255, L256, L400, L401, L408, L409, L410, L411, L412, L413, L414, L420, L1000, L1001, L1103, L1200, L1240, L2820, L5220, L7936, L10440, L12345, L1000000, L1000003, L1073741823, L59, L61, L62, L200, nd_lt_t, nd_lt_f, nd_le_t, nd_le_f, nd_eq_f, nZ_add, nZ_mul, nZ_sub, nZ_lt, nZ_le, nZ_eq, nZ_nat, nZ_div, nZ_rem, nZ_and, nZ_or, and31, nZ_shl, nZ_shr, nZ_m1, nZ_nneg, nZ_nneg', nZ_nlt, nZ_ltn, inR_lt, Nat.not_lt_zero, ob_some, jI, jL, jR, jV, rI0, rI1, rIv, if_true, if_false, ↓reduceIte, Nat.reduceAdd, Nat.reduceMul, Nat.reduceSub, Nat.reduceLT, Nat.reduceEqDiff, Nat.reduceLeDiff, Nat.zero_add, Nat.add_zero, Nat.zero_mul, Nat.mul_zero, Nat.one_mul, Nat.mul_one, and_true, true_and, false_and, and_false, or_true, true_or, or_false, false_or, not_true_eq_false, not_false_eq_true, eq_self, bI_0, bI_1, em_b, hI_ne, hI_at, hA_ne, hA_at, Sh_si, Sh_sA]
    · rw [bI_f c5, if_neg c5] at t62
      by_cases c6 : cAt C N p = 161
      · rw [if_pos (Or.inr (Or.inr c6))]
        rw [if_pos c6] at f3
        clear f4
        simp (disch := first | assumption | omega | (simp only [Sh_si, Sh_sA]; assumption)) only [e187, z10, rdX_16, eC, c2', m254, g1, t60, t62, f3, p56_0, g56_0, p56_1, g56_1, g56_2, g56_3, g56_4, g56_5, p56_6, g56_6, g56_7, g56_8, g56_9, p56_10, g56_10, p56_11, g56_11, g56_12, g56_13, g56_14, p56_15, g56_15, p56_16, g56_16, p56_17, g56_17, p56_18, g56_18, p56_19, g56_19, p56_20, g56_20, B56_21, g56_21, g56_22, g56_23, g56_24, g56_25, g56_26, g56_27, p56_28, g56_28, p56_29, g56_29, p56_30, g56_30, p56_31, g56_31, g56_32, g56_33, g56_34, p56_35, g56_35, p56_36, g56_36, p56_37, g56_37, p56_38, g56_38, g56_39, g56_40, g56_41, p56_42, g56_42, p56_43, g56_43, p56_44, g56_44, ck56, A57, S57, l57, A58, S58, l58, A59, S59, l59, A60, S60, l60, A61, S61, l61, A62, S62, l62, A63, S63, l63, A64, S64, l64, A65, S65, l65, A66, S66, l66, A67, S67, l67, A68, S68, l68, A69, S69, l69, A70, S70, l70, A71, S71, l71, A72, S72, l72, A73, S73, l73, A74, S74, l74, A75, S75, l75, A76, S76, l76, A77, S77, l77, A78, S78, l78, L0, L1, L2, L3, L4, L5, L6, L7, L8, L9, L10, L11, L12, L13, L14, L15, L16, L17, L18, L19, L20, L21, L22, L23, L24, L25, L26, L27, L28, L29, L30, L31, L32, L33, L34, L35, L36, L37, L38, L39, L40, L41, L42, L43, L44, L45, L46, L47, L48, L49, L50, L52, L57, L60, L90, L91, L93, L97, L99, L100, L101, L122, L240, L255, L256, L400, L401, L408, L409, L410, L411, L412, L413, L414, L420, L1000, L1001, L1103, L1200, L1240, L2820, L5220, L7936, L10440, L12345, L1000000, L1000003, L1073741823, L59, L61, L62, L200, nd_lt_t, nd_lt_f, nd_le_t, nd_le_f, nd_eq_f, nZ_add, nZ_mul, nZ_sub, nZ_lt, nZ_le, nZ_eq, nZ_nat, nZ_div, nZ_rem, nZ_and, nZ_or, and31, nZ_shl, nZ_shr, nZ_m1, nZ_nneg, nZ_nneg', nZ_nlt, nZ_ltn, inR_lt, Nat.not_lt_zero, ob_some, jI, jL, jR, jV, rI0, rI1, rIv, if_true, if_false, ↓reduceIte, Nat.reduceAdd, Nat.reduceMul, Nat.reduceSub, Nat.reduceLT, Nat.reduceEqDiff, Nat.reduceLeDiff, Nat.zero_add, Nat.add_zero, Nat.zero_mul, Nat.mul_zero, Nat.one_mul, Nat.mul_one, and_true, true_and, false_and, and_false, or_true, true_or, or_false, false_or, not_true_eq_false, not_false_eq_true, eq_self, bI_0, bI_1, em_b, hI_ne, hI_at, hA_ne, hA_at, Sh_si, Sh_sA]
      · rw [if_neg (show ¬(cAt C N p = 160 ∨ cAt C N p = 162 ∨ cAt C N p = 161) by omega)]
        rw [if_neg c6] at f3
        simp (disch := first | assumption | omega | (simp only [Sh_si, Sh_sA]; assumption)) only [e187, z10, rdX_16, eC, c2', m254, g1, t60, t62, f3, f4, p56_0, g56_0, p56_1, g56_1, g56_2, g56_3, g56_4, g56_5, p56_6, g56_6, g56_7, g56_8, g56_9, p56_10, g56_10, p56_11, g56_11, g56_12, g56_13, g56_14, p56_15, g56_15, p56_16, g56_16, p56_17, g56_17, p56_18, g56_18, p56_19, g56_19, p56_20, g56_20, B56_21, g56_21, g56_22, g56_23, g56_24, g56_25, g56_26, g56_27, p56_28, g56_28, p56_29, g56_29, p56_30, g56_30, p56_31, g56_31, g56_32, g56_33, g56_34, p56_35, g56_35, p56_36, g56_36, p56_37, g56_37, p56_38, g56_38, g56_39, g56_40, g56_41, p56_42, g56_42, p56_43, g56_43, p56_44, g56_44, ck56, A57, S57, l57, A58, S58, l58, A59, S59, l59, A60, S60, l60, A61, S61, l61, A62, S62, l62, A63, S63, l63, A64, S64, l64, A65, S65, l65, A66, S66, l66, A67, S67, l67, A68, S68, l68, A69, S69, l69, A70, S70, l70, A71, S71, l71, A72, S72, l72, A73, S73, l73, A74, S74, l74, A75, S75, l75, A76, S76, l76, A77, S77, l77, A78, S78, l78, L0, L1, L2, L3, L4, L5, L6, L7, L8, L9, L10, L11, L12, L13, L14, L15, L16, L17, L18, L19, L20, L21, L22, L23, L24, L25, L26, L27, L28, L29, L30, L31, L32, L33, L34, L35, L36, L37, L38, L39, L40, L41, L42, L43, L44, L45, L46, L47, L48, L49, L50, L52, L57, L60, L90, L91, L93, L97, L99, L100, L101, L122, L240, L255, L256, L400, L401, L408, L409, L410, L411, L412, L413, L414, L420, L1000, L1001, L1103, L1200, L1240, L2820, L5220, L7936, L10440, L12345, L1000000, L1000003, L1073741823, L59, L61, L62, L200, nd_lt_t, nd_lt_f, nd_le_t, nd_le_f, nd_eq_f, nZ_add, nZ_mul, nZ_sub, nZ_lt, nZ_le, nZ_eq, nZ_nat, nZ_div, nZ_rem, nZ_and, nZ_or, and31, nZ_shl, nZ_shr, nZ_m1, nZ_nneg, nZ_nneg', nZ_nlt, nZ_ltn, inR_lt, Nat.not_lt_zero, ob_some, jI, jL, jR, jV, rI0, rI1, rIv, if_true, if_false, ↓reduceIte, Nat.reduceAdd, Nat.reduceMul, Nat.reduceSub, Nat.reduceLT, Nat.reduceEqDiff, Nat.reduceLeDiff, Nat.zero_add, Nat.add_zero, Nat.zero_mul, Nat.mul_zero, Nat.one_mul, Nat.mul_one, and_true, true_and, false_and, and_false, or_true, true_or, or_false, false_or, not_true_eq_false, not_false_eq_true, eq_self, bI_0, bI_1, em_b, hI_ne, hI_at, hA_ne, hA_at, Sh_si, Sh_sA]
theorem RM_0 {h : QH} {C V U : Nat → Nat} {N f : Nat} (X : RX h C V U N) (ih : RIH h C V U N f) (pos lv dp z ng : Nat) (acc : Den) (hs : 0 < 10) (hng : ng < 2) (hn5 : ng = 1 → 0 = 5) (hpos : pos ≤ N) (hlv : lv ≤ 50) (hdp : dp ≤ 8) (hne : P C V N (f + 1) 0 pos lv dp z ng acc ≠ .inl 100000) : GR h U N 0 pos lv dp (P C V N (f + 1) 0 pos lv dp z ng acc) := by
  have H := X.1
  have hN4 := X.2.1
  have z10 : (nZ 1 = nZ 0) = False := by decide
  have hU : ∀ k, k ≤ N → U k < 1000 := fun k hk => (X.2.2.2.2 k hk).2
  have H1 : Sh (rdX h (nZ pos) (nZ lv) (-nZ 1)) := H
  have hCp := (X.2.2.1 pos hpos).2
  rw [P_0] at hne ⊢
  by_cases c1 : cAt C N pos = 191
  · rw [if_pos c1] at hne ⊢
    have hp1 := C_pos (C := C) (N := N) (k := pos) (by omega)
    by_cases c2 : dp = 8
    · rw [if_pos c2] at hne ⊢
      refine GR_inl hpos ?_
      intro D hD
      obtain ⟨d, rfl⟩ : ∃ d, D = d + 4 := ⟨D - 4, by have := RMd_9 0 hdp; omega⟩
      refine ⟨nZ pos, nZ lv, ?_⟩
      show qcl (d + 4) 238 [qR (some 56), qI (nZ dp)] (rdX h (nZ pos) (nZ lv) (-nZ 1)) = _
      have f1 := m184t X (d + 1) pos (nZ lv) hpos
      have f2 := m187f H (d + 2) (U pos) (nZ pos) (nZ lv) (hU pos hpos)
      simp (disch := first | assumption | omega | (simp only [Sh_si, Sh_sA]; assumption)) only [E238, m187t H, z10, rdX_16, X.C hpos, c1, m254, c2, f1, f2, p56_0, g56_0, p56_1, g56_1, g56_2, g56_3, g56_4, g56_5, p56_6, g56_6, g56_7, g56_8, g56_9, p56_10, g56_10, p56_11, g56_11, g56_12, g56_13, g56_14, p56_15, g56_15, p56_16, g56_16, p56_17, g56_17, p56_18, g56_18, p56_19, g56_19, p56_20, g56_20, B56_21, g56_21, g56_22, g56_23, g56_24, g56_25, g56_26, g56_27, p56_28, g56_28, p56_29, g56_29, p56_30, g56_30, p56_31, g56_31, g56_32, g56_33, g56_34, p56_35, g56_35, p56_36, g56_36, p56_37, g56_37, p56_38, g56_38, g56_39, g56_40, g56_41, p56_42, g56_42, p56_43, g56_43, p56_44, g56_44, ck56, A57, S57, l57, A58, S58, l58, A59, S59, l59, A60, S60, l60, A61, S61, l61, A62, S62, l62, A63, S63, l63, A64, S64, l64, A65, S65, l65, A66, S66, l66, A67, S67, l67, A68, S68, l68, A69, S69, l69, A70, S70, l70, A71, S71, l71, A72, S72, l72, A73, S73, l73, A74, S74, l74, A75, S75, l75, A76, S76, l76, A77, S77, l77, A78, S78, l78, L0, L1, L2, L3, L4, L5, L6, L7, L8, L9, L10, L11, L12, L13, L14, L15, L16, L17, L18, L19, L20, L21, L22, L23, L24, L25, L26, L27, L28, L29, L30, L31, L32, L33, L34, L35, L36, L37, L38, L39, L40, L41, L42, L43, L44, L45, L46, L47, L48, L49, L50, L52, L57, L60, L90, L91, L93, L97, L99, L100, L101, L122, L240, L255, L256, L400, L401, L408, L409, L410, L411, L412, L413, L414, L420, L1000, L1001, L1103, L1200, L1240, L2820, L5220, L7936, L10440, L12345, L1000000, L1000003, L1073741823, L59, L61, L62, L200, nd_lt_t, nd_lt_f, nd_le_t, nd_le_f, nd_eq_f, nZ_add, nZ_mul, nZ_sub, nZ_lt, nZ_le, nZ_eq, nZ_nat, nZ_div, nZ_rem, nZ_and, nZ_or, and31, nZ_shl, nZ_shr, nZ_m1, nZ_nneg, nZ_nneg', nZ_nlt, nZ_ltn, inR_lt, Nat.not_lt_zero, ob_some, jI, jL, jR, jV, rI0, rI1, rIv, if_true, if_false, ↓reduceIte, Nat.reduceAdd, Nat.reduceMul, Nat.reduceSub, Nat.reduceLT, Nat.reduceEqDiff, Nat.reduceLeDiff, Nat.zero_add, Nat.add_zero, Nat.zero_mul, Nat.mul_zero, Nat.one_mul, Nat.mul_one, and_true, true_and, false_and, and_false, or_true, true_or, or_false, false_or, not_true_eq_false, not_false_eq_true, eq_self, bI_0, bI_1, em_b, hI_ne, hI_at, hA_ne, hA_at, Sh_si, Sh_sA]
    · rw [if_neg c2] at hne ⊢
      have i1 := ih 3 (pos + 1) lv (dp + 1) z 0 acc (by decide) (by decide) (by omega) (by omega) hlv (by omega)
      have H2 : Sh (rdX h (nZ (pos + 1)) (nZ lv) (-nZ 1)) := H
      have st : ∀ d, qcl (d + 4) 238 [qR (some 56), qI (nZ dp)] (rdX h (nZ pos) (nZ lv) (-nZ 1)) = cV (qcl (d + 3) 240 [qR (some 56), qI (nZ (dp + 1))] (rdX h (nZ (pos + 1)) (nZ lv) (-nZ 1))) (fun k1 => cV (qcl (d + 3) 224 [qR (some 56), qI (nZ 193)] k1) (fun k2 => some (none, k2))) := by
        intro d
        have n2 : (dp = 8) = False := eq_false c2
        simp (disch := first | assumption | omega | (simp only [Sh_si, Sh_sA]; assumption)) only [E238, m187t H, z10, rdX_16, X.C hpos, c1, m254, n2, rdX_s16, p56_0, g56_0, p56_1, g56_1, g56_2, g56_3, g56_4, g56_5, p56_6, g56_6, g56_7, g56_8, g56_9, p56_10, g56_10, p56_11, g56_11, g56_12, g56_13, g56_14, p56_15, g56_15, p56_16, g56_16, p56_17, g56_17, p56_18, g56_18, p56_19, g56_19, p56_20, g56_20, B56_21, g56_21, g56_22, g56_23, g56_24, g56_25, g56_26, g56_27, p56_28, g56_28, p56_29, g56_29, p56_30, g56_30, p56_31, g56_31, g56_32, g56_33, g56_34, p56_35, g56_35, p56_36, g56_36, p56_37, g56_37, p56_38, g56_38, g56_39, g56_40, g56_41, p56_42, g56_42, p56_43, g56_43, p56_44, g56_44, ck56, A57, S57, l57, A58, S58, l58, A59, S59, l59, A60, S60, l60, A61, S61, l61, A62, S62, l62, A63, S63, l63, A64, S64, l64, A65, S65, l65, A66, S66, l66, A67, S67, l67, A68, S68, l68, A69, S69, l69, A70, S70, l70, A71, S71, l71, A72, S72, l72, A73, S73, l73, A74, S74, l74, A75, S75, l75, A76, S76, l76, A77, S77, l77, A78, S78, l78, L0, L1, L2, L3, L4, L5, L6, L7, L8, L9, L10, L11, L12, L13, L14, L15, L16, L17, L18, L19, L20, L21, L22, L23, L24, L25, L26, L27, L28, L29, L30, L31, L32, L33, L34, L35, L36, L37, L38, L39, L40, L41, L42, L43, L44, L45, L46, L47, L48, L49, L50, L52, L57, L60, L90, L91, L93, L97, L99, L100, L101, L122, L240, L255, L256, L400, L401, L408, L409, L410, L411, L412, L413, L414, L420, L1000, L1001, L1103, L1200, L1240, L2820, L5220, L7936, L10440, L12345, L1000000, L1000003, L1073741823, L59, L61, L62, L200, nd_lt_t, nd_lt_f, nd_le_t, nd_le_f, nd_eq_f, nZ_add, nZ_mul, nZ_sub, nZ_lt, nZ_le, nZ_eq, nZ_nat, nZ_div, nZ_rem, nZ_and, nZ_or, and31, nZ_shl, nZ_shr, nZ_m1, nZ_nneg, nZ_nneg', nZ_nlt, nZ_ltn, inR_lt, Nat.not_lt_zero, ob_some, jI, jL, jR, jV, rI0, rI1, rIv, if_true, if_false, ↓reduceIte, Nat.reduceAdd, Nat.reduceMul, Nat.reduceSub, Nat.reduceLT, Nat.reduceEqDiff, Nat.reduceLeDiff, Nat.zero_add, Nat.add_zero, Nat.zero_mul, Nat.mul_zero, Nat.one_mul, Nat.mul_one, and_true, true_and, false_and, and_false, or_true, true_or, or_false, false_or, not_true_eq_false, not_false_eq_true, eq_self, bI_0, bI_1, em_b, hI_ne, hI_at, hA_ne, hA_at, Sh_si, Sh_sA]
      cases e1 : P C V N f 3 (pos + 1) lv (dp + 1) z 0 acc with
      | inl e =>
        rw [e1] at i1 hne
        obtain ⟨b1, o1⟩ := i1 hne
        have he := b1 e rfl
        refine GR_inl he ?_
        intro D hD
        obtain ⟨d, rfl⟩ : ∃ d, D = d + 4 := ⟨D - 4, by have := RMd_9 0 hdp; omega⟩
        have hD2 : 3 * (9 - dp) + 6 ≤ d + 4 := hD
        obtain ⟨x, y, g1⟩ := o1 (d + 3) (by show 3 * (9 - (dp + 1)) + 8 ≤ d + 3; omega)
        have g1' : qcl (d + 3) 240 [qR (some 56), qI (nZ (dp + 1))] (rdX h (nZ (pos + 1)) (nZ lv) (-nZ 1)) = some (none, rdX h x y (nZ (U e))) := g1
        refine ⟨x, y, ?_⟩
        show qcl (d + 4) 238 [qR (some 56), qI (nZ dp)] (rdX h (nZ pos) (nZ lv) (-nZ 1)) = _
        rw [st, g1', jV, m224f H d (U e) x y _ (hU e he), jV]
      | inr v =>
        obtain ⟨p, l, cs, dn⟩ := v
        rw [e1] at i1 hne
        obtain ⟨b1, o1⟩ := i1 (fun zz => by cases zz)
        obtain ⟨q1, q2, q3, q4⟩ := PB _ _ _ _ _ _ _ _ _ _ _ _ e1 (by decide) (by decide) (by omega) (by omega)
        change (if cAt C N p = 193 then Sum.inr (p + 1, l, cs, dn) else Sum.inl p) ≠ _ at hne
        change GR h U N 0 pos lv dp (if cAt C N p = 193 then Sum.inr (p + 1, l, cs, dn) else Sum.inl p)
        have m1 : ∀ d, RMd 0 dp ≤ d + 4 → qcl (d + 4) 238 [qR (some 56), qI (nZ dp)] (rdX h (nZ pos) (nZ lv) (-nZ 1)) = some (none, if cAt C N p = 193 then rdX h (nZ (p + 1)) (nZ l) (-nZ 1) else rdX h (nZ p) (nZ l) (nZ (U p))) := by
          intro d hD
          have hD2 : 3 * (9 - dp) + 6 ≤ d + 4 := hD
          have g1 : qcl (d + 3) 240 [qR (some 56), qI (nZ (dp + 1))] (rdX h (nZ (pos + 1)) (nZ lv) (-nZ 1)) = some (none, rdX h (nZ p) (nZ l) (-nZ 1)) := o1 (d + 3) (by show 3 * (9 - (dp + 1)) + 8 ≤ d + 3; omega)
          rw [st, g1, jV, m224t X d p 193 (nZ l) q2 (by decide), jV]
        by_cases c3 : cAt C N p = 193
        · rw [if_pos c3]
          refine GR_inr (v := (p + 1, l, cs, dn)) ?_
          intro D hD
          obtain ⟨d, rfl⟩ : ∃ d, D = d + 4 := ⟨D - 4, by have := RMd_9 0 hdp; omega⟩
          have := m1 d hD
          rw [if_pos c3] at this
          exact this
        · rw [if_neg c3]
          refine GR_inl q2 ?_
          intro D hD
          obtain ⟨d, rfl⟩ : ∃ d, D = d + 4 := ⟨D - 4, by have := RMd_9 0 hdp; omega⟩
          have := m1 d hD
          rw [if_neg c3] at this
          exact ⟨_, _, this⟩
  · rw [if_neg c1] at hne ⊢
    have c1' := eq_false c1
    -- a leaf or a fault
    have leaf : (cAt C N pos = 50 ∧ V pos ≤ 1000) ∨ (9 ≤ cAt C N pos ∧ cAt C N pos ≤ 17) → ∀ d, qcl (d + 4) 238 [qR (some 56), qI (nZ dp)] (rdX h (nZ pos) (nZ lv) (-nZ 1)) = some (none, if lv = 50 then rdX h (nZ pos) (nZ (lv + 1)) (nZ (U pos)) else rdX h (nZ (pos + 1)) (nZ (lv + 1)) (-nZ 1)) := by
      intro hl d
      have hp1 := C_pos (C := C) (N := N) (k := pos) (by omega)
      have e215 := m215 X d pos lv hpos hlv
      have hV := X.2.2.2.1 pos hp1
      rcases hl with ⟨hl1, hl2⟩ | hl
      · have n3 : (1000 < V pos) = False := eq_false (by omega)
        have hVb := hV.2
        simp (disch := first | assumption | omega | (simp only [Sh_si, Sh_sA]; assumption)) only [E238, m187t H, z10, rdX_16, X.C hpos, hl1, m254, X.V hp1, n3, e215, p56_0, g56_0, p56_1, g56_1, g56_2, g56_3, g56_4, g56_5, p56_6, g56_6, g56_7, g56_8, g56_9, p56_10, g56_10, p56_11, g56_11, g56_12, g56_13, g56_14, p56_15, g56_15, p56_16, g56_16, p56_17, g56_17, p56_18, g56_18, p56_19, g56_19, p56_20, g56_20, B56_21, g56_21, g56_22, g56_23, g56_24, g56_25, g56_26, g56_27, p56_28, g56_28, p56_29, g56_29, p56_30, g56_30, p56_31, g56_31, g56_32, g56_33, g56_34, p56_35, g56_35, p56_36, g56_36, p56_37, g56_37, p56_38, g56_38, g56_39, g56_40, g56_41, p56_42, g56_42, p56_43, g56_43, p56_44, g56_44, ck56, A57, S57, l57, A58, S58, l58, A59, S59, l59, A60, S60, l60, A61, S61, l61, A62, S62, l62, A63, S63, l63, A64, S64, l64, A65, S65, l65, A66, S66, l66, A67, S67, l67, A68, S68, l68, A69, S69, l69, A70, S70, l70, A71, S71, l71, A72, S72, l72, A73, S73, l73, A74, S74, l74, A75, S75, l75, A76, S76, l76, A77, S77, l77, A78, S78, l78, L0, L1, L2, L3, L4, L5, L6, L7, L8, L9, L10, L11, L12, L13, L14, L15, L16, L17, L18, L19, L20, L21, L22, L23, L24, L25, L26, L27, L28, L29, L30, L31, L32, L33, L34, L35, L36, L37, L38, L39, L40, L41, L42, L43, L44, L45, L46, L47, L48, L49, L50, L52, L57, L60, L90, L91, L93, L97, L99, L100, L101, L122, L240, L255, L256, L400, L401, L408, L409, L410, L411, L412, L413, L414, L420, L1000, L1001, L1103, L1200, L1240, L2820, L5220, L7936, L10440, L12345, L1000000, L1000003, L1073741823, L59, L61, L62, L200, nd_lt_t, nd_lt_f, nd_le_t, nd_le_f, nd_eq_f, nZ_add, nZ_mul, nZ_sub, nZ_lt, nZ_le, nZ_eq, nZ_nat, nZ_div, nZ_rem, nZ_and, nZ_or, and31, nZ_shl, nZ_shr, nZ_m1, nZ_nneg, nZ_nneg', nZ_nlt, nZ_ltn, inR_lt, Nat.not_lt_zero, ob_some, jI, jL, jR, jV, rI0, rI1, rIv, if_true, if_false, ↓reduceIte, Nat.reduceAdd, Nat.reduceMul, Nat.reduceSub, Nat.reduceLT, Nat.reduceEqDiff, Nat.reduceLeDiff, Nat.zero_add, Nat.add_zero, Nat.zero_mul, Nat.mul_zero, Nat.one_mul, Nat.mul_one, and_true, true_and, false_and, and_false, or_true, true_or, or_false, false_or, not_true_eq_false, not_false_eq_true, eq_self, bI_0, bI_1, em_b, hI_ne, hI_at, hA_ne, hA_at, Sh_si, Sh_sA]
      · have n5 : (cAt C N pos = 50) = False := eq_false (by omega)
        simp (disch := first | assumption | omega | (simp only [Sh_si, Sh_sA]; assumption)) only [E238, m187t H, z10, rdX_16, X.C hpos, c1', m254, n5, e215, p56_0, g56_0, p56_1, g56_1, g56_2, g56_3, g56_4, g56_5, p56_6, g56_6, g56_7, g56_8, g56_9, p56_10, g56_10, p56_11, g56_11, g56_12, g56_13, g56_14, p56_15, g56_15, p56_16, g56_16, p56_17, g56_17, p56_18, g56_18, p56_19, g56_19, p56_20, g56_20, B56_21, g56_21, g56_22, g56_23, g56_24, g56_25, g56_26, g56_27, p56_28, g56_28, p56_29, g56_29, p56_30, g56_30, p56_31, g56_31, g56_32, g56_33, g56_34, p56_35, g56_35, p56_36, g56_36, p56_37, g56_37, p56_38, g56_38, g56_39, g56_40, g56_41, p56_42, g56_42, p56_43, g56_43, p56_44, g56_44, ck56, A57, S57, l57, A58, S58, l58, A59, S59, l59, A60, S60, l60, A61, S61, l61, A62, S62, l62, A63, S63, l63, A64, S64, l64, A65, S65, l65, A66, S66, l66, A67, S67, l67, A68, S68, l68, A69, S69, l69, A70, S70, l70, A71, S71, l71, A72, S72, l72, A73, S73, l73, A74, S74, l74, A75, S75, l75, A76, S76, l76, A77, S77, l77, A78, S78, l78, L0, L1, L2, L3, L4, L5, L6, L7, L8, L9, L10, L11, L12, L13, L14, L15, L16, L17, L18, L19, L20, L21, L22, L23, L24, L25, L26, L27, L28, L29, L30, L31, L32, L33, L34, L35, L36, L37, L38, L39, L40, L41, L42, L43, L44, L45, L46, L47, L48, L49, L50, L52, L57, L60, L90, L91, L93, L97, L99, L100, L101, L122, L240, L255, L256, L400, L401, L408, L409, L410, L411, L412, L413, L414, L420, L1000, L1001, L1103, L1200, L1240, L2820, L5220, L7936, L10440, L12345, L1000000, L1000003, L1073741823, L59, L61, L62, L200, nd_lt_t, nd_lt_f, nd_le_t, nd_le_f, nd_eq_f, nZ_add, nZ_mul, nZ_sub, nZ_lt, nZ_le, nZ_eq, nZ_nat, nZ_div, nZ_rem, nZ_and, nZ_or, and31, nZ_shl, nZ_shr, nZ_m1, nZ_nneg, nZ_nneg', nZ_nlt, nZ_ltn, inR_lt, Nat.not_lt_zero, ob_some, jI, jL, jR, jV, rI0, rI1, rIv, if_true, if_false, ↓reduceIte, Nat.reduceAdd, Nat.reduceMul, Nat.reduceSub, Nat.reduceLT, Nat.reduceEqDiff, Nat.reduceLeDiff, Nat.zero_add, Nat.add_zero, Nat.zero_mul, Nat.mul_zero, Nat.one_mul, Nat.mul_one, and_true, true_and, false_and, and_false, or_true, true_or, or_false, false_or, not_true_eq_false, not_false_eq_true, eq_self, bI_0, bI_1, em_b, hI_ne, hI_at, hA_ne, hA_at, Sh_si, Sh_sA]
    have flt : ¬(cAt C N pos = 50 ∧ V pos ≤ 1000) → ¬(9 ≤ cAt C N pos ∧ cAt C N pos ≤ 17) → ∀ d, qcl (d + 4) 238 [qR (some 56), qI (nZ dp)] (rdX h (nZ pos) (nZ lv) (-nZ 1)) = some (none, rdX h (nZ pos) (nZ lv) (nZ (U pos))) := by
      intro h1 h2 d
      have e184 := m184t X (d + 1) pos (nZ lv) hpos
      by_cases c5 : cAt C N pos = 50
      · have hp1 := C_pos (C := C) (N := N) (k := pos) (by omega)
        have hV := X.2.2.2.1 pos hp1
        have n3 : (1000 < V pos) = True := eq_true (by omega)
        have hVb := hV.2
        simp (disch := first | assumption | omega | (simp only [Sh_si, Sh_sA]; assumption)) only [E238, m187t H, z10, rdX_16, X.C hpos, c5, m254, X.V hp1, n3, e184, p56_0, g56_0, p56_1, g56_1, g56_2, g56_3, g56_4, g56_5, p56_6, g56_6, g56_7, g56_8, g56_9, p56_10, g56_10, p56_11, g56_11, g56_12, g56_13, g56_14, p56_15, g56_15, p56_16, g56_16, p56_17, g56_17, p56_18, g56_18, p56_19, g56_19, p56_20, g56_20, B56_21, g56_21, g56_22, g56_23, g56_24, g56_25, g56_26, g56_27, p56_28, g56_28, p56_29, g56_29, p56_30, g56_30, p56_31, g56_31, g56_32, g56_33, g56_34, p56_35, g56_35, p56_36, g56_36, p56_37, g56_37, p56_38, g56_38, g56_39, g56_40, g56_41, p56_42, g56_42, p56_43, g56_43, p56_44, g56_44, ck56, A57, S57, l57, A58, S58, l58, A59, S59, l59, A60, S60, l60, A61, S61, l61, A62, S62, l62, A63, S63, l63, A64, S64, l64, A65, S65, l65, A66, S66, l66, A67, S67, l67, A68, S68, l68, A69, S69, l69, A70, S70, l70, A71, S71, l71, A72, S72, l72, A73, S73, l73, A74, S74, l74, A75, S75, l75, A76, S76, l76, A77, S77, l77, A78, S78, l78, L0, L1, L2, L3, L4, L5, L6, L7, L8, L9, L10, L11, L12, L13, L14, L15, L16, L17, L18, L19, L20, L21, L22, L23, L24, L25, L26, L27, L28, L29, L30, L31, L32, L33, L34, L35, L36, L37, L38, L39, L40, L41, L42, L43, L44, L45, L46, L47, L48, L49, L50, L52, L57, L60, L90, L91, L93, L97, L99, L100, L101, L122, L240, L255, L256, L400, L401, L408, L409, L410, L411, L412, L413, L414, L420, L1000, L1001, L1103, L1200, L1240, L2820, L5220, L7936, L10440, L12345, L1000000, L1000003, L1073741823, L59, L61, L62, L200, nd_lt_t, nd_lt_f, nd_le_t, nd_le_f, nd_eq_f, nZ_add, nZ_mul, nZ_sub, nZ_lt, nZ_le, nZ_eq, nZ_nat, nZ_div, nZ_rem, nZ_and, nZ_or, and31, nZ_shl, nZ_shr, nZ_m1, nZ_nneg, nZ_nneg', nZ_nlt, nZ_ltn, inR_lt, Nat.not_lt_zero, ob_some, jI, jL, jR, jV, rI0, rI1, rIv, if_true, if_false, ↓reduceIte, Nat.reduceAdd, Nat.reduceMul, Nat.reduceSub, Nat.reduceLT, Nat.reduceEqDiff, Nat.reduceLeDiff, Nat.zero_add, Nat.add_zero, Nat.zero_mul, Nat.mul_zero, Nat.one_mul, Nat.mul_one, and_true, true_and, false_and, and_false, or_true, true_or, or_false, false_or, not_true_eq_false, not_false_eq_true, eq_self, bI_0, bI_1, em_b, hI_ne, hI_at, hA_ne, hA_at, Sh_si, Sh_sA]
      · have n5 := eq_false c5
        by_cases c6 : cAt C N pos < 9
        · simp (disch := first | assumption | omega | (simp only [Sh_si, Sh_sA]; assumption)) only [E238, m187t H, z10, rdX_16, X.C hpos, c1', m254, n5, e184, p56_0, g56_0, p56_1, g56_1, g56_2, g56_3, g56_4, g56_5, p56_6, g56_6, g56_7, g56_8, g56_9, p56_10, g56_10, p56_11, g56_11, g56_12, g56_13, g56_14, p56_15, g56_15, p56_16, g56_16, p56_17, g56_17, p56_18, g56_18, p56_19, g56_19, p56_20, g56_20, B56_21, g56_21, g56_22, g56_23, g56_24, g56_25, g56_26, g56_27, p56_28, g56_28, p56_29, g56_29, p56_30, g56_30, p56_31, g56_31, g56_32, g56_33, g56_34, p56_35, g56_35, p56_36, g56_36, p56_37, g56_37, p56_38, g56_38, g56_39, g56_40, g56_41, p56_42, g56_42, p56_43, g56_43, p56_44, g56_44, ck56, A57, S57, l57, A58, S58, l58, A59, S59, l59, A60, S60, l60, A61, S61, l61, A62, S62, l62, A63, S63, l63, A64, S64, l64, A65, S65, l65, A66, S66, l66, A67, S67, l67, A68, S68, l68, A69, S69, l69, A70, S70, l70, A71, S71, l71, A72, S72, l72, A73, S73, l73, A74, S74, l74, A75, S75, l75, A76, S76, l76, A77, S77, l77, A78, S78, l78, L0, L1, L2, L3, L4, L5, L6, L7, L8, L9, L10, L11, L12, L13, L14, L15, L16, L17, L18, L19, L20, L21, L22, L23, L24, L25, L26, L27, L28, L29, L30, L31, L32, L33, L34, L35, L36, L37, L38, L39, L40, L41, L42, L43, L44, L45, L46, L47, L48, L49, L50, L52, L57, L60, L90, L91, L93, L97, L99, L100, L101, L122, L240, L255, L256, L400, L401, L408, L409, L410, L411, L412, L413, L414, L420, L1000, L1001, L1103, L1200, L1240, L2820, L5220, L7936, L10440, L12345, L1000000, L1000003, L1073741823, L59, L61, L62, L200, nd_lt_t, nd_lt_f, nd_le_t, nd_le_f, nd_eq_f, nZ_add, nZ_mul, nZ_sub, nZ_lt, nZ_le, nZ_eq, nZ_nat, nZ_div, nZ_rem, nZ_and, nZ_or, and31, nZ_shl, nZ_shr, nZ_m1, nZ_nneg, nZ_nneg', nZ_nlt, nZ_ltn, inR_lt, Nat.not_lt_zero, ob_some, jI, jL, jR, jV, rI0, rI1, rIv, if_true, if_false, ↓reduceIte, Nat.reduceAdd, Nat.reduceMul, Nat.reduceSub, Nat.reduceLT, Nat.reduceEqDiff, Nat.reduceLeDiff, Nat.zero_add, Nat.add_zero, Nat.zero_mul, Nat.mul_zero, Nat.one_mul, Nat.mul_one, and_true, true_and, false_and, and_false, or_true, true_or, or_false, false_or, not_true_eq_false, not_false_eq_true, eq_self, bI_0, bI_1, em_b, hI_ne, hI_at, hA_ne, hA_at, Sh_si, Sh_sA]
        · simp (disch := first | assumption | omega | (simp only [Sh_si, Sh_sA]; assumption)) only [E238, m187t H, z10, rdX_16, X.C hpos, c1', m254, n5, e184, p56_0, g56_0, p56_1, g56_1, g56_2, g56_3, g56_4, g56_5, p56_6, g56_6, g56_7, g56_8, g56_9, p56_10, g56_10, p56_11, g56_11, g56_12, g56_13, g56_14, p56_15, g56_15, p56_16, g56_16, p56_17, g56_17, p56_18, g56_18, p56_19, g56_19, p56_20, g56_20, B56_21, g56_21, g56_22, g56_23, g56_24, g56_25, g56_26, g56_27, p56_28, g56_28, p56_29, g56_29, p56_30, g56_30, p56_31, g56_31, g56_32, g56_33, g56_34, p56_35, g56_35, p56_36, g56_36, p56_37, g56_37, p56_38, g56_38, g56_39, g56_40, g56_41, p56_42, g56_42, p56_43, g56_43, p56_44, g56_44, ck56, A57, S57, l57, A58, S58, l58, A59, S59, l59, A60, S60, l60, A61, S61, l61, A62, S62, l62, A63, S63, l63, A64, S64, l64, A65, S65, l65, A66, S66, l66, A67, S67, l67, A68, S68, l68, A69, S69, l69, A70, S70, l70, A71, S71, l71, A72, S72, l72, A73, S73, l73, A74, S74, l74, A75, S75, l75, A76, S76, l76, A77, S77, l77, A78, S78, l78, L0, L1, L2, L3, L4, L5, L6, L7, L8, L9, L10, L11, L12, L13, L14, L15, L16, L17, L18, L19, L20, L21, L22, L23, L24, L25, L26, L27, L28, L29, L30, L31, L32, L33, L34, L35, L36, L37, L38, L39, L40, L41, L42, L43, L44, L45, L46, L47, L48, L49, L50, L52, L57, L60, L90, L91, L93, L97, L99, L100, L101, L122, L240, L255, L256, L400, L401, L408, L409, L410, L411, L412, L413, L414, L420, L1000, L1001, L1103, L1200, L1240, L2820, L5220, L7936, L10440, L12345, L1000000, L1000003, L1073741823, L59, L61, L62, L200, nd_lt_t, nd_lt_f, nd_le_t, nd_le_f, nd_eq_f, nZ_add, nZ_mul, nZ_sub, nZ_lt, nZ_le, nZ_eq, nZ_nat, nZ_div, nZ_rem, nZ_and, nZ_or, and31, nZ_shl, nZ_shr, nZ_m1, nZ_nneg, nZ_nneg', nZ_nlt, nZ_ltn, inR_lt, Nat.not_lt_zero, ob_some, jI, jL, jR, jV, rI0, rI1, rIv, if_true, if_false, ↓reduceIte, Nat.reduceAdd, Nat.reduceMul, Nat.reduceSub, Nat.reduceLT, Nat.reduceEqDiff, Nat.reduceLeDiff, Nat.zero_add, Nat.add_zero, Nat.zero_mul, Nat.mul_zero, Nat.one_mul, Nat.mul_one, and_true, true_and, false_and, and_false, or_true, true_or, or_false, false_or, not_true_eq_false, not_false_eq_true, eq_self, bI_0, bI_1, em_b, hI_ne, hI_at, hA_ne, hA_at, Sh_si, Sh_sA]
    by_cases c2 : cAt C N pos = 50 ∧ V pos ≤ 1000
    · rw [if_pos c2] at hne ⊢
      by_cases c3 : lv = 50
      · rw [if_pos c3] at hne ⊢
        refine GR_inl hpos ?_
        intro D hD
        obtain ⟨d, rfl⟩ : ∃ d, D = d + 4 := ⟨D - 4, by have := RMd_9 0 hdp; omega⟩
        have := leaf (Or.inl c2) d
        rw [if_pos c3] at this
        exact ⟨_, _, this⟩
      · rw [if_neg c3] at hne ⊢
        refine GR_inr (v := (pos + 1, lv + 1, _, _)) ?_
        intro D hD
        obtain ⟨d, rfl⟩ : ∃ d, D = d + 4 := ⟨D - 4, by have := RMd_9 0 hdp; omega⟩
        have := leaf (Or.inl c2) d
        rw [if_neg c3] at this
        exact this
    · rw [if_neg c2] at hne ⊢
      by_cases c4 : 9 ≤ cAt C N pos ∧ cAt C N pos ≤ 17
      · rw [if_pos c4] at hne ⊢
        by_cases c3 : lv = 50
        · rw [if_pos c3] at hne ⊢
          refine GR_inl hpos ?_
          intro D hD
          obtain ⟨d, rfl⟩ : ∃ d, D = d + 4 := ⟨D - 4, by have := RMd_9 0 hdp; omega⟩
          have := leaf (Or.inr c4) d
          rw [if_pos c3] at this
          exact ⟨_, _, this⟩
        · rw [if_neg c3] at hne ⊢
          refine GR_inr (v := (pos + 1, lv + 1, _, _)) ?_
          intro D hD
          obtain ⟨d, rfl⟩ : ∃ d, D = d + 4 := ⟨D - 4, by have := RMd_9 0 hdp; omega⟩
          have := leaf (Or.inr c4) d
          rw [if_neg c3] at this
          exact this
      · rw [if_neg c4] at hne ⊢
        refine GR_inl hpos ?_
        intro D hD
        obtain ⟨d, rfl⟩ : ∃ d, D = d + 4 := ⟨D - 4, by have := RMd_9 0 hdp; omega⟩
        exact ⟨_, _, flt c2 c4 d⟩
theorem RM_5 {h : QH} {C V U : Nat → Nat} {N f : Nat} (X : RX h C V U N) (ih : RIH h C V U N f) (pos lv dp z ng : Nat) (acc : Den) (hs : 5 < 10) (hng : ng < 2) (hn5 : ng = 1 → 5 = 5) (hpos : pos ≤ N) (hlv : lv ≤ 50) (hdp : dp ≤ 8) (hne : P C V N (f + 1) 5 pos lv dp z ng acc ≠ .inl 100000) : GR h U N 5 pos lv dp (P C V N (f + 1) 5 pos lv dp z ng acc) := by
  have H := X.1
  have hN4 := X.2.1
  have z10 : (nZ 1 = nZ 0) = False := by decide
  have hU : ∀ k, k ≤ N → U k < 1000 := fun k hk => (X.2.2.2.2 k hk).2
  have H1 : Sh (rdX h (nZ pos) (nZ lv) (-nZ 1)) := H
  have hCp := (X.2.2.1 pos hpos).2
  rw [P_5] at hne ⊢
  by_cases c1 : cAt C N pos = 8
  · rw [if_pos c1] at hne ⊢
    have hp1 := C_pos (C := C) (N := N) (k := pos) (by omega)
    obtain ⟨b1, o1⟩ := ih 5 (pos + 1) lv dp z (1 - ng) acc (by decide) (by omega) (fun _ => rfl) (by omega) hlv hdp hne
    refine ⟨b1, ?_⟩
    intro D hD
    have o2 := o1 D hD
    obtain ⟨d, rfl⟩ : ∃ d, D = d + 4 := ⟨D - 4, by have := RMd_9 5 hdp; omega⟩
    have e : RMg 5 (d + 4) dp (rdX h (nZ pos) (nZ lv) (-nZ 1)) = RMg 5 (d + 4) dp (rdX h (nZ (pos + 1)) (nZ lv) (-nZ 1)) := by
      show qbig (d + 4) 239 2 [sR (some 56), sI (nZ dp), sI (nZ 1), none] [] (rdX h (nZ pos) (nZ lv) (-nZ 1)) = qbig (d + 4) 239 2 [sR (some 56), sI (nZ dp), sI (nZ 1), none] [] (rdX h (nZ (pos + 1)) (nZ lv) (-nZ 1))
      rw [E239_2]
      simp (disch := first | assumption | omega | (simp only [Sh_si, Sh_sA]; assumption)) only [z10, m264t X, c1, p56_0, g56_0, p56_1, g56_1, g56_2, g56_3, g56_4, g56_5, p56_6, g56_6, g56_7, g56_8, g56_9, p56_10, g56_10, p56_11, g56_11, g56_12, g56_13, g56_14, p56_15, g56_15, p56_16, g56_16, p56_17, g56_17, p56_18, g56_18, p56_19, g56_19, p56_20, g56_20, B56_21, g56_21, g56_22, g56_23, g56_24, g56_25, g56_26, g56_27, p56_28, g56_28, p56_29, g56_29, p56_30, g56_30, p56_31, g56_31, g56_32, g56_33, g56_34, p56_35, g56_35, p56_36, g56_36, p56_37, g56_37, p56_38, g56_38, g56_39, g56_40, g56_41, p56_42, g56_42, p56_43, g56_43, p56_44, g56_44, ck56, A57, S57, l57, A58, S58, l58, A59, S59, l59, A60, S60, l60, A61, S61, l61, A62, S62, l62, A63, S63, l63, A64, S64, l64, A65, S65, l65, A66, S66, l66, A67, S67, l67, A68, S68, l68, A69, S69, l69, A70, S70, l70, A71, S71, l71, A72, S72, l72, A73, S73, l73, A74, S74, l74, A75, S75, l75, A76, S76, l76, A77, S77, l77, A78, S78, l78, L0, L1, L2, L3, L4, L5, L6, L7, L8, L9, L10, L11, L12, L13, L14, L15, L16, L17, L18, L19, L20, L21, L22, L23, L24, L25, L26, L27, L28, L29, L30, L31, L32, L33, L34, L35, L36, L37, L38, L39, L40, L41, L42, L43, L44, L45, L46, L47, L48, L49, L50, L52, L57, L60, L90, L91, L93, L97, L99, L100, L101, L122, L240, L255, L256, L400, L401, L408, L409, L410, L411, L412, L413, L414, L420, L1000, L1001, L1103, L1200, L1240, L2820, L5220, L7936, L10440, L12345, L1000000, L1000003, L1073741823, L59, L61, L62, L200, nd_lt_t, nd_lt_f, nd_le_t, nd_le_f, nd_eq_f, nZ_add, nZ_mul, nZ_sub, nZ_lt, nZ_le, nZ_eq, nZ_nat, nZ_div, nZ_rem, nZ_and, nZ_or, and31, nZ_shl, nZ_shr, nZ_m1, nZ_nneg, nZ_nneg', nZ_nlt, nZ_ltn, inR_lt, Nat.not_lt_zero, ob_some, jI, jL, jR, jV, rI0, rI1, rIv, if_true, if_false, ↓reduceIte, Nat.reduceAdd, Nat.reduceMul, Nat.reduceSub, Nat.reduceLT, Nat.reduceEqDiff, Nat.reduceLeDiff, Nat.zero_add, Nat.add_zero, Nat.zero_mul, Nat.mul_zero, Nat.one_mul, Nat.mul_one, and_true, true_and, false_and, and_false, or_true, true_or, or_false, false_or, not_true_eq_false, not_false_eq_true, eq_self, bI_0, bI_1, em_b, hI_ne, hI_at, hA_ne, hA_at, Sh_si, Sh_sA]
      rfl
    rw [e]
    exact o2
  · rw [if_neg c1] at hne ⊢
    have c1' := eq_false c1
    have st0 : ∀ d, qbig (d + 4) 239 2 [sR (some 56), sI (nZ dp), sI (nZ 1), none] [] (rdX h (nZ pos) (nZ lv) (-nZ 1)) = qbig (d + 4) 239 2 [sR (some 56), sI (nZ dp), sI (nZ 0), none] [] (rdX h (nZ pos) (nZ lv) (-nZ 1)) := by
      intro d
      rw [E239_2]
      simp (disch := first | assumption | omega | (simp only [Sh_si, Sh_sA]; assumption)) only [z10, m264t X, c1', p56_0, g56_0, p56_1, g56_1, g56_2, g56_3, g56_4, g56_5, p56_6, g56_6, g56_7, g56_8, g56_9, p56_10, g56_10, p56_11, g56_11, g56_12, g56_13, g56_14, p56_15, g56_15, p56_16, g56_16, p56_17, g56_17, p56_18, g56_18, p56_19, g56_19, p56_20, g56_20, B56_21, g56_21, g56_22, g56_23, g56_24, g56_25, g56_26, g56_27, p56_28, g56_28, p56_29, g56_29, p56_30, g56_30, p56_31, g56_31, g56_32, g56_33, g56_34, p56_35, g56_35, p56_36, g56_36, p56_37, g56_37, p56_38, g56_38, g56_39, g56_40, g56_41, p56_42, g56_42, p56_43, g56_43, p56_44, g56_44, ck56, A57, S57, l57, A58, S58, l58, A59, S59, l59, A60, S60, l60, A61, S61, l61, A62, S62, l62, A63, S63, l63, A64, S64, l64, A65, S65, l65, A66, S66, l66, A67, S67, l67, A68, S68, l68, A69, S69, l69, A70, S70, l70, A71, S71, l71, A72, S72, l72, A73, S73, l73, A74, S74, l74, A75, S75, l75, A76, S76, l76, A77, S77, l77, A78, S78, l78, L0, L1, L2, L3, L4, L5, L6, L7, L8, L9, L10, L11, L12, L13, L14, L15, L16, L17, L18, L19, L20, L21, L22, L23, L24, L25, L26, L27, L28, L29, L30, L31, L32, L33, L34, L35, L36, L37, L38, L39, L40, L41, L42, L43, L44, L45, L46, L47, L48, L49, L50, L52, L57, L60, L90, L91, L93, L97, L99, L100, L101, L122, L240, L255, L256, L400, L401, L408, L409, L410, L411, L412, L413, L414, L420, L1000, L1001, L1103, L1200, L1240, L2820, L5220, L7936, L10440, L12345, L1000000, L1000003, L1073741823, L59, L61, L62, L200, nd_lt_t, nd_lt_f, nd_le_t, nd_le_f, nd_eq_f, nZ_add, nZ_mul, nZ_sub, nZ_lt, nZ_le, nZ_eq, nZ_nat, nZ_div, nZ_rem, nZ_and, nZ_or, and31, nZ_shl, nZ_shr, nZ_m1, nZ_nneg, nZ_nneg', nZ_nlt, nZ_ltn, inR_lt, Nat.not_lt_zero, ob_some, jI, jL, jR, jV, rI0, rI1, rIv, if_true, if_false, ↓reduceIte, Nat.reduceAdd, Nat.reduceMul, Nat.reduceSub, Nat.reduceLT, Nat.reduceEqDiff, Nat.reduceLeDiff, Nat.zero_add, Nat.add_zero, Nat.zero_mul, Nat.mul_zero, Nat.one_mul, Nat.mul_one, and_true, true_and, false_and, and_false, or_true, true_or, or_false, false_or, not_true_eq_false, not_false_eq_true, eq_self, bI_0, bI_1, em_b, hI_ne, hI_at, hA_ne, hA_at, Sh_si, Sh_sA]
      rfl
    by_cases c2 : cAt C N pos = 140
    · rw [if_pos c2] at hne ⊢
      have hp1 := C_pos (C := C) (N := N) (k := pos) (by omega)
      by_cases c3 : dp = 8
      · rw [if_pos c3] at hne ⊢
        refine GR_inl hpos ?_
        intro D hD
        obtain ⟨d, rfl⟩ : ∃ d, D = d + 4 := ⟨D - 4, by have := RMd_9 5 hdp; omega⟩
        refine ⟨nZ pos, nZ lv, ?_⟩
        show qbig (d + 4) 239 2 [sR (some 56), sI (nZ dp), sI (nZ 1), none] [] (rdX h (nZ pos) (nZ lv) (-nZ 1)) = _
        have f1 := m184t X (d + 1) pos (nZ lv) hpos
        have f2 := m187f H (d + 2) (U pos) (nZ pos) (nZ lv) (hU pos hpos)
        rw [st0, E239_2]
        simp (disch := first | assumption | omega | (simp only [Sh_si, Sh_sA]; assumption)) only [m187t H, z10, rdX_16, X.C hpos, c2, m254, c3, f1, f2, p56_0, g56_0, p56_1, g56_1, g56_2, g56_3, g56_4, g56_5, p56_6, g56_6, g56_7, g56_8, g56_9, p56_10, g56_10, p56_11, g56_11, g56_12, g56_13, g56_14, p56_15, g56_15, p56_16, g56_16, p56_17, g56_17, p56_18, g56_18, p56_19, g56_19, p56_20, g56_20, B56_21, g56_21, g56_22, g56_23, g56_24, g56_25, g56_26, g56_27, p56_28, g56_28, p56_29, g56_29, p56_30, g56_30, p56_31, g56_31, g56_32, g56_33, g56_34, p56_35, g56_35, p56_36, g56_36, p56_37, g56_37, p56_38, g56_38, g56_39, g56_40, g56_41, p56_42, g56_42, p56_43, g56_43, p56_44, g56_44, ck56, A57, S57, l57, A58, S58, l58, A59, S59, l59, A60, S60, l60, A61, S61, l61, A62, S62, l62, A63, S63, l63, A64, S64, l64, A65, S65, l65, A66, S66, l66, A67, S67, l67, A68, S68, l68, A69, S69, l69, A70, S70, l70, A71, S71, l71, A72, S72, l72, A73, S73, l73, A74, S74, l74, A75, S75, l75, A76, S76, l76, A77, S77, l77, A78, S78, l78, L0, L1, L2, L3, L4, L5, L6, L7, L8, L9, L10, L11, L12, L13, L14, L15, L16, L17, L18, L19, L20, L21, L22, L23, L24, L25, L26, L27, L28, L29, L30, L31, L32, L33, L34, L35, L36, L37, L38, L39, L40, L41, L42, L43, L44, L45, L46, L47, L48, L49, L50, L52, L57, L60, L90, L91, L93, L97, L99, L100, L101, L122, L240, L255, L256, L400, L401, L408, L409, L410, L411, L412, L413, L414, L420, L1000, L1001, L1103, L1200, L1240, L2820, L5220, L7936, L10440, L12345, L1000000, L1000003, L1073741823, L59, L61, L62, L200, nd_lt_t, nd_lt_f, nd_le_t, nd_le_f, nd_eq_f, nZ_add, nZ_mul, nZ_sub, nZ_lt, nZ_le, nZ_eq, nZ_nat, nZ_div, nZ_rem, nZ_and, nZ_or, and31, nZ_shl, nZ_shr, nZ_m1, nZ_nneg, nZ_nneg', nZ_nlt, nZ_ltn, inR_lt, Nat.not_lt_zero, ob_some, jI, jL, jR, jV, rI0, rI1, rIv, if_true, if_false, ↓reduceIte, Nat.reduceAdd, Nat.reduceMul, Nat.reduceSub, Nat.reduceLT, Nat.reduceEqDiff, Nat.reduceLeDiff, Nat.zero_add, Nat.add_zero, Nat.zero_mul, Nat.mul_zero, Nat.one_mul, Nat.mul_one, and_true, true_and, false_and, and_false, or_true, true_or, or_false, false_or, not_true_eq_false, not_false_eq_true, eq_self, bI_0, bI_1, em_b, hI_ne, hI_at, hA_ne, hA_at, Sh_si, Sh_sA]
      · rw [if_neg c3] at hne ⊢
        have i1 := ih 8 (pos + 1) lv (dp + 1) z 0 acc (by decide) (by decide) (by omega) (by omega) hlv (by omega)
        have H2 : Sh (rdX h (nZ (pos + 1)) (nZ lv) (-nZ 1)) := H
        have st : ∀ d, qbig (d + 4) 239 2 [sR (some 56), sI (nZ dp), sI (nZ 1), none] [] (rdX h (nZ pos) (nZ lv) (-nZ 1)) = cV (qcl (d + 3) 242 [qR (some 56), qI (nZ (dp + 1))] (rdX h (nZ (pos + 1)) (nZ lv) (-nZ 1))) (fun k1 => cV (qcl (d + 3) 224 [qR (some 56), qI (nZ 141)] k1) (fun k2 => some (none, k2))) := by
          intro d
          have n2 : (dp = 8) = False := eq_false c3
          rw [st0, E239_2]
          simp (disch := first | assumption | omega | (simp only [Sh_si, Sh_sA]; assumption)) only [m187t H, z10, rdX_16, X.C hpos, c2, m254, n2, rdX_s16, p56_0, g56_0, p56_1, g56_1, g56_2, g56_3, g56_4, g56_5, p56_6, g56_6, g56_7, g56_8, g56_9, p56_10, g56_10, p56_11, g56_11, g56_12, g56_13, g56_14, p56_15, g56_15, p56_16, g56_16, p56_17, g56_17, p56_18, g56_18, p56_19, g56_19, p56_20, g56_20, B56_21, g56_21, g56_22, g56_23, g56_24, g56_25, g56_26, g56_27, p56_28, g56_28, p56_29, g56_29, p56_30, g56_30, p56_31, g56_31, g56_32, g56_33, g56_34, p56_35, g56_35, p56_36, g56_36, p56_37, g56_37, p56_38, g56_38, g56_39, g56_40, g56_41, p56_42, g56_42, p56_43, g56_43, p56_44, g56_44, ck56, A57, S57, l57, A58, S58, l58, A59, S59, l59, A60, S60, l60, A61, S61, l61, A62, S62, l62, A63, S63, l63, A64, S64, l64, A65, S65, l65, A66, S66, l66, A67, S67, l67, A68, S68, l68, A69, S69, l69, A70, S70, l70, A71, S71, l71, A72, S72, l72, A73, S73, l73, A74, S74, l74, A75, S75, l75, A76, S76, l76, A77, S77, l77, A78, S78, l78, L0, L1, L2, L3, L4, L5, L6, L7, L8, L9, L10, L11, L12, L13, L14, L15, L16, L17, L18, L19, L20, L21, L22, L23, L24, L25, L26, L27, L28, L29, L30, L31, L32, L33, L34, L35, L36, L37, L38, L39, L40, L41, L42, L43, L44, L45, L46, L47, L48, L49, L50, L52, L57, L60, L90, L91, L93, L97, L99, L100, L101, L122, L240, L255, L256, L400, L401, L408, L409, L410, L411, L412, L413, L414, L420, L1000, L1001, L1103, L1200, L1240, L2820, L5220, L7936, L10440, L12345, L1000000, L1000003, L1073741823, L59, L61, L62, L200, nd_lt_t, nd_lt_f, nd_le_t, nd_le_f, nd_eq_f, nZ_add, nZ_mul, nZ_sub, nZ_lt, nZ_le, nZ_eq, nZ_nat, nZ_div, nZ_rem, nZ_and, nZ_or, and31, nZ_shl, nZ_shr, nZ_m1, nZ_nneg, nZ_nneg', nZ_nlt, nZ_ltn, inR_lt, Nat.not_lt_zero, ob_some, jI, jL, jR, jV, rI0, rI1, rIv, if_true, if_false, ↓reduceIte, Nat.reduceAdd, Nat.reduceMul, Nat.reduceSub, Nat.reduceLT, Nat.reduceEqDiff, Nat.reduceLeDiff, Nat.zero_add, Nat.add_zero, Nat.zero_mul, Nat.mul_zero, Nat.one_mul, Nat.mul_one, and_true, true_and, false_and, and_false, or_true, true_or, or_false, false_or, not_true_eq_false, not_false_eq_true, eq_self, bI_0, bI_1, em_b, hI_ne, hI_at, hA_ne, hA_at, Sh_si, Sh_sA]
        cases e1 : P C V N f 8 (pos + 1) lv (dp + 1) z 0 acc with
        | inl e =>
          rw [e1] at i1 hne
          obtain ⟨b1, o1⟩ := i1 hne
          have he := b1 e rfl
          refine GR_inl he ?_
          intro D hD
          obtain ⟨d, rfl⟩ : ∃ d, D = d + 4 := ⟨D - 4, by have := RMd_9 5 hdp; omega⟩
          have hD2 : 3 * (9 - dp) + 9 ≤ d + 4 := hD
          obtain ⟨x, y, g1⟩ := o1 (d + 3) (by show 3 * (9 - (dp + 1)) + 11 ≤ d + 3; omega)
          have g1' : qcl (d + 3) 242 [qR (some 56), qI (nZ (dp + 1))] (rdX h (nZ (pos + 1)) (nZ lv) (-nZ 1)) = some (none, rdX h x y (nZ (U e))) := g1
          refine ⟨x, y, ?_⟩
          show qbig (d + 4) 239 2 [sR (some 56), sI (nZ dp), sI (nZ 1), none] [] (rdX h (nZ pos) (nZ lv) (-nZ 1)) = _
          rw [st, g1', jV, m224f H d (U e) x y _ (hU e he), jV]
        | inr v =>
          obtain ⟨p, l, cs, dn⟩ := v
          rw [e1] at i1 hne
          obtain ⟨b1, o1⟩ := i1 (fun zz => by cases zz)
          obtain ⟨q1, q2, q3, q4⟩ := PB _ _ _ _ _ _ _ _ _ _ _ _ e1 (by decide) (by decide) (by omega) (by omega)
          change GR h U N 5 pos lv dp (if cAt C N p = 141 then Sum.inr (p + 1, l, cs ++ (if ng = 1 then [7] else []), if ng = 1 then dNot dn else dn) else Sum.inl p)
          have m1 : ∀ d, RMd 5 dp ≤ d + 4 → qbig (d + 4) 239 2 [sR (some 56), sI (nZ dp), sI (nZ 1), none] [] (rdX h (nZ pos) (nZ lv) (-nZ 1)) = some (none, if cAt C N p = 141 then rdX h (nZ (p + 1)) (nZ l) (-nZ 1) else rdX h (nZ p) (nZ l) (nZ (U p))) := by
            intro d hD
            have hD2 : 3 * (9 - dp) + 9 ≤ d + 4 := hD
            have g1 : qcl (d + 3) 242 [qR (some 56), qI (nZ (dp + 1))] (rdX h (nZ (pos + 1)) (nZ lv) (-nZ 1)) = some (none, rdX h (nZ p) (nZ l) (-nZ 1)) := o1 (d + 3) (by show 3 * (9 - (dp + 1)) + 11 ≤ d + 3; omega)
            rw [st, g1, jV, m224t X d p 141 (nZ l) q2 (by decide), jV]
          by_cases c4 : cAt C N p = 141
          · rw [if_pos c4]
            refine GR_inr (v := (p + 1, l, _, _)) ?_
            intro D hD
            obtain ⟨d, rfl⟩ : ∃ d, D = d + 4 := ⟨D - 4, by have := RMd_9 5 hdp; omega⟩
            have := m1 d hD
            rw [if_pos c4] at this
            exact this
          · rw [if_neg c4]
            refine GR_inl q2 ?_
            intro D hD
            obtain ⟨d, rfl⟩ : ∃ d, D = d + 4 := ⟨D - 4, by have := RMd_9 5 hdp; omega⟩
            have := m1 d hD
            rw [if_neg c4] at this
            exact ⟨_, _, this⟩
    · rw [if_neg c2] at hne ⊢
      have c2' := eq_false c2
      have i1 := ih 3 pos lv dp z 0 acc (by decide) (by decide) (by omega) hpos hlv hdp
      -- behind the first sum
      cases e1 : P C V N f 3 pos lv dp z 0 acc with
      | inl e =>
        rw [e1] at i1 hne
        obtain ⟨b1, o1⟩ := i1 hne
        have he := b1 e rfl
        refine GR_inl he ?_
        intro D hD
        obtain ⟨d, rfl⟩ : ∃ d, D = d + 5 := ⟨D - 5, by have := RMd_9 5 hdp; omega⟩
        have hD2 : 3 * (9 - dp) + 9 ≤ d + 5 := hD
        obtain ⟨x, y, g1⟩ := o1 (d + 4) (by show 3 * (9 - dp) + 8 ≤ d + 4; omega)
        have g1' : qcl (d + 4) 240 [qR (some 56), qI (nZ dp)] (rdX h (nZ pos) (nZ lv) (-nZ 1)) = some (none, rdX h x y (nZ (U e))) := g1
        refine ⟨x, y, ?_⟩
        show qbig (d + 5) 239 2 [sR (some 56), sI (nZ dp), sI (nZ 1), none] [] (rdX h (nZ pos) (nZ lv) (-nZ 1)) = _
        have f1 := nf240 H d (U e) x y (nZ dp) (hU e he)
        have f2 := fun c => m264f H (d + 2) (U e) x y c (hU e he)
        have f3 := fun c => m224f H (d + 1) (U e) x y c (hU e he)
        rw [st0 (d + 1), E239_2]
        simp (disch := first | assumption | omega | (simp only [Sh_si, Sh_sA]; assumption)) only [m187t H, z10, rdX_16, X.C hpos, c2', m254, g1', f1, f2, f3, p56_0, g56_0, p56_1, g56_1, g56_2, g56_3, g56_4, g56_5, p56_6, g56_6, g56_7, g56_8, g56_9, p56_10, g56_10, p56_11, g56_11, g56_12, g56_13, g56_14, p56_15, g56_15, p56_16, g56_16, p56_17, g56_17, p56_18, g56_18, p56_19, g56_19, p56_20, g56_20, B56_21, g56_21, g56_22, g56_23, g56_24, g56_25, g56_26, g56_27, p56_28, g56_28, p56_29, g56_29, p56_30, g56_30, p56_31, g56_31, g56_32, g56_33, g56_34, p56_35, g56_35, p56_36, g56_36, p56_37, g56_37, p56_38, g56_38, g56_39, g56_40, g56_41, p56_42, g56_42, p56_43, g56_43, p56_44, g56_44, ck56, A57, S57, l57, A58, S58, l58, A59, S59, l59, A60, S60, l60, A61, S61, l61, A62, S62, l62, A63, S63, l63, A64, S64, l64, A65, S65, l65, A66, S66, l66, A67, S67, l67, A68, S68, l68, A69, S69, l69, A70, S70, l70, A71, S71, l71, A72, S72, l72, A73, S73, l73, A74, S74, l74, A75, S75, l75, A76, S76, l76, A77, S77, l77, A78, S78, l78, L0, L1, L2, L3, L4, L5, L6, L7, L8, L9, L10, L11, L12, L13, L14, L15, L16, L17, L18, L19, L20, L21, L22, L23, L24, L25, L26, L27, L28, L29, L30, L31, L32, L33, L34, L35, L36, L37, L38, L39, L40, L41, L42, L43, L44, L45, L46, L47, L48, L49, L50, L52, L57, L60, L90, L91, L93, L97, L99, L100, L101, L122, L240, L255, L256, L400, L401, L408, L409, L410, L411, L412, L413, L414, L420, L1000, L1001, L1103, L1200, L1240, L2820, L5220, L7936, L10440, L12345, L1000000, L1000003, L1073741823, L59, L61, L62, L200, nd_lt_t, nd_lt_f, nd_le_t, nd_le_f, nd_eq_f, nZ_add, nZ_mul, nZ_sub, nZ_lt, nZ_le, nZ_eq, nZ_nat, nZ_div, nZ_rem, nZ_and, nZ_or, and31, nZ_shl, nZ_shr, nZ_m1, nZ_nneg, nZ_nneg', nZ_nlt, nZ_ltn, inR_lt, Nat.not_lt_zero, ob_some, jI, jL, jR, jV, rI0, rI1, rIv, if_true, if_false, ↓reduceIte, Nat.reduceAdd, Nat.reduceMul, Nat.reduceSub, Nat.reduceLT, Nat.reduceEqDiff, Nat.reduceLeDiff, Nat.zero_add, Nat.add_zero, Nat.zero_mul, Nat.mul_zero, Nat.one_mul, Nat.mul_one, and_true, true_and, false_and, and_false, or_true, true_or, or_false, false_or, not_true_eq_false, not_false_eq_true, eq_self, bI_0, bI_1, em_b, hI_ne, hI_at, hA_ne, hA_at, Sh_si, Sh_sA]
      | inr v =>
        obtain ⟨p, l, cs, dn⟩ := v
        rw [e1] at i1 hne
        obtain ⟨b1, o1⟩ := i1 (fun zz => by cases zz)
        obtain ⟨q1, q2, q3, q4⟩ := PB _ _ _ _ _ _ _ _ _ _ _ _ e1 (by decide) (by decide) (by omega) hpos
        have ql := P_lv _ _ _ _ _ _ _ _ _ _ _ _ e1 (by decide) hlv
        have hCq := (X.2.2.1 p q2).2
        have g0 : ∀ d, RMd 5 dp ≤ d + 5 → qcl (d + 4) 240 [qR (some 56), qI (nZ dp)] (rdX h (nZ pos) (nZ lv) (-nZ 1)) = some (none, rdX h (nZ p) (nZ l) (-nZ 1)) := by
          intro d hD
          have hD2 : 3 * (9 - dp) + 9 ≤ d + 5 := hD
          exact o1 (d + 4) (by show 3 * (9 - dp) + 8 ≤ d + 4; omega)
        by_cases c3 : cAt C N p = 160 ∨ cAt C N p = 162 ∨ cAt C N p = 161
        · have hp2 := C_pos (C := C) (N := N) (k := p) (by omega)
          have i2 := ih 3 (p + 1) l dp (z + cs.length) 0 acc (by decide) (by decide) (by omega) (by omega) ql hdp
          have st : ∀ d, RMd 5 dp ≤ d + 5 → qbig (d + 5) 239 2 [sR (some 56), sI (nZ dp), sI (nZ 1), none] [] (rdX h (nZ pos) (nZ lv) (-nZ 1)) = cV (qcl (d + 4) 240 [qR (some 56), qI (nZ dp)] (rdX h (nZ (p + 1)) (nZ l) (-nZ 1))) (fun k2 => some (none, k2)) := by
            intro d hD
            have g1 := g0 d hD
            rw [st0 (d + 1), m239_cmp X d pos p lv l dp hpos q2 c2 g1, if_pos c3]
          change (if cAt C N p = 160 ∨ cAt C N p = 162 ∨ cAt C N p = 161 then rdB (P C V N f 3 (p + 1) l dp (z + cs.length) 0 acc) (fun p2 l2 cs2 dn2 => .inr (p2, l2, cs ++ cs2 ++ (if cAt C N p = 160 then 23 else if cAt C N p = 162 then 24 else 25) :: (if ng = 1 then [7] else []), if ng = 1 then dNot (dCmp (cAt C N p) dn dn2) else dCmp (cAt C N p) dn dn2)) else .inl p) ≠ _ at hne
          change GR h U N 5 pos lv dp (if cAt C N p = 160 ∨ cAt C N p = 162 ∨ cAt C N p = 161 then rdB (P C V N f 3 (p + 1) l dp (z + cs.length) 0 acc) (fun p2 l2 cs2 dn2 => .inr (p2, l2, cs ++ cs2 ++ (if cAt C N p = 160 then 23 else if cAt C N p = 162 then 24 else 25) :: (if ng = 1 then [7] else []), if ng = 1 then dNot (dCmp (cAt C N p) dn dn2) else dCmp (cAt C N p) dn dn2)) else .inl p)
          rw [if_pos c3] at hne ⊢
          cases e2 : P C V N f 3 (p + 1) l dp (z + cs.length) 0 acc with
          | inl e =>
            rw [e2] at i2 hne
            obtain ⟨b2, o2⟩ := i2 hne
            have he := b2 e rfl
            refine GR_inl he ?_
            intro D hD
            obtain ⟨d, rfl⟩ : ∃ d, D = d + 5 := ⟨D - 5, by have := RMd_9 5 hdp; omega⟩
            have hD2 : 3 * (9 - dp) + 9 ≤ d + 5 := hD
            obtain ⟨x, y, g2⟩ := o2 (d + 4) (by show 3 * (9 - dp) + 8 ≤ d + 4; omega)
            have g2' : qcl (d + 4) 240 [qR (some 56), qI (nZ dp)] (rdX h (nZ (p + 1)) (nZ l) (-nZ 1)) = some (none, rdX h x y (nZ (U e))) := g2
            refine ⟨x, y, ?_⟩
            show qbig (d + 5) 239 2 [sR (some 56), sI (nZ dp), sI (nZ 1), none] [] (rdX h (nZ pos) (nZ lv) (-nZ 1)) = _
            rw [st d hD, g2', jV]
          | inr v2 =>
            obtain ⟨p2, lw, cs2, dn2⟩ := v2
            rw [e2] at i2
            obtain ⟨b2, o2⟩ := i2 (fun zz => by cases zz)
            refine GR_inr (v := (p2, lw, _, _)) ?_
            intro D hD
            obtain ⟨d, rfl⟩ : ∃ d, D = d + 5 := ⟨D - 5, by have := RMd_9 5 hdp; omega⟩
            have hD2 : 3 * (9 - dp) + 9 ≤ d + 5 := hD
            have g2 : qcl (d + 4) 240 [qR (some 56), qI (nZ dp)] (rdX h (nZ (p + 1)) (nZ l) (-nZ 1)) = some (none, rdX h (nZ p2) (nZ lw) (-nZ 1)) := o2 (d + 4) (by show 3 * (9 - dp) + 8 ≤ d + 4; omega)
            show qbig (d + 5) 239 2 [sR (some 56), sI (nZ dp), sI (nZ 1), none] [] (rdX h (nZ pos) (nZ lv) (-nZ 1)) = _
            rw [st d hD, g2, jV]
        · change GR h U N 5 pos lv dp (if cAt C N p = 160 ∨ cAt C N p = 162 ∨ cAt C N p = 161 then rdB (P C V N f 3 (p + 1) l dp (z + cs.length) 0 acc) (fun p2 l2 cs2 dn2 => .inr (p2, l2, cs ++ cs2 ++ (if cAt C N p = 160 then 23 else if cAt C N p = 162 then 24 else 25) :: (if ng = 1 then [7] else []), if ng = 1 then dNot (dCmp (cAt C N p) dn dn2) else dCmp (cAt C N p) dn dn2)) else .inl p)
          rw [if_neg c3]
          refine GR_inl q2 ?_
          intro D hD
          obtain ⟨d, rfl⟩ : ∃ d, D = d + 5 := ⟨D - 5, by have := RMd_9 5 hdp; omega⟩
          have g1 := g0 d hD
          refine ⟨nZ p, nZ l, ?_⟩
          show qbig (d + 5) 239 2 [sR (some 56), sI (nZ dp), sI (nZ 1), none] [] (rdX h (nZ pos) (nZ lv) (-nZ 1)) = _
          rw [st0 (d + 1), m239_cmp X d pos p lv l dp hpos q2 c2 g1, if_neg c3]
theorem RM {h : QH} {C V U : Nat → Nat} {N : Nat} (X : RX h C V U N) : ∀ f s pos lv dp z ng acc, s < 10 → ng < 2 → (ng = 1 → s = 5) → pos ≤ N → lv ≤ 50 → dp ≤ 8 → P C V N f s pos lv dp z ng acc ≠ .inl 100000 → GR h U N s pos lv dp (P C V N f s pos lv dp z ng acc) := by
  have H := X.1
  have hN4 := X.2.1
  have z10 : (nZ 1 = nZ 0) = False := by decide
  have hU : ∀ k, k ≤ N → U k < 1000 := fun k hk => (X.2.2.2.2 k hk).2
  intro f
  induction f with
  | zero =>
    intro s pos lv dp z ng acc hs hng hn5 hpos hlv hdp hne
    exact absurd rfl hne
  | succ f ih =>
    have two : ∀ (s s1 s2 pos lv dp z : Nat) (acc : Den), s1 < 10 → s2 < 10 → pos ≤ N → lv ≤ 50 → dp ≤ 8 → (∀ D, RMd s dp ≤ D → ∃ D1 D2, RMd s1 dp ≤ D1 ∧ RMd s2 dp ≤ D2 ∧ (∀ k, Sh k → RMg s D dp k = cV (RMg s1 D1 dp k) (fun k1 => RMg s2 D2 dp k1)) ∧ ∀ x y e, e < 1000 → RMg s2 D2 dp (rdX h x y (nZ e)) = some (none, rdX h x y (nZ e))) → (rdB (P C V N f s1 pos lv dp z 0 acc) fun p l cs dn => rdB (P C V N f s2 p l dp (z + cs.length) 0 dn) fun p2 l2 cs2 dn2 => .inr (p2, l2, cs ++ cs2, dn2)) ≠ .inl 100000 → GR h U N s pos lv dp (rdB (P C V N f s1 pos lv dp z 0 acc) fun p l cs dn => rdB (P C V N f s2 p l dp (z + cs.length) 0 dn) fun p2 l2 cs2 dn2 => .inr (p2, l2, cs ++ cs2, dn2)) := by
      intro s s1 s2 pos lv dp z acc hs1 hs2 hpos hlv hdp hseq hne
      have i1 := ih s1 pos lv dp z 0 acc hs1 (by decide) (by omega) hpos hlv hdp
      cases e1 : P C V N f s1 pos lv dp z 0 acc with
      | inl e =>
        rw [e1] at i1 hne
        obtain ⟨b1, o1⟩ := i1 hne
        have he := b1 e rfl
        refine GR_inl he ?_
        intro D hD
        obtain ⟨D1, D2, d1, d2, sq, nf⟩ := hseq D hD
        obtain ⟨x, y, g1⟩ := o1 D1 d1
        refine ⟨x, y, ?_⟩
        rw [sq (rdX h (nZ pos) (nZ lv) (-nZ 1)) H, g1]
        exact nf x y _ (hU e he)
      | inr v =>
        obtain ⟨p, l, cs, dn⟩ := v
        rw [e1] at i1 hne
        obtain ⟨b1, o1⟩ := i1 (fun zz => by cases zz)
        obtain ⟨q1, q2, q3, q4⟩ := PB _ _ _ _ _ _ _ _ _ _ _ _ e1 hs1 (by decide) (by omega) hpos
        have ql := P_lv _ _ _ _ _ _ _ _ _ _ _ _ e1 hs1 hlv
        have i2 := ih s2 p l dp (z + cs.length) 0 dn hs2 (by decide) (by omega) q2 ql hdp
        change (rdB (P C V N f s2 p l dp (z + cs.length) 0 dn) fun p2 l2 cs2 dn2 => .inr (p2, l2, cs ++ cs2, dn2)) ≠ .inl 100000 at hne
        change GR h U N s pos lv dp (rdB (P C V N f s2 p l dp (z + cs.length) 0 dn) fun p2 l2 cs2 dn2 => .inr (p2, l2, cs ++ cs2, dn2))
        cases e2 : P C V N f s2 p l dp (z + cs.length) 0 dn with
        | inl e =>
          rw [e2] at i2 hne
          obtain ⟨b2, o2⟩ := i2 hne
          have he := b2 e rfl
          refine GR_inl he ?_
          intro D hD
          obtain ⟨D1, D2, d1, d2, sq, nf⟩ := hseq D hD
          have g1 : RMg s1 D1 dp (rdX h (nZ pos) (nZ lv) (-nZ 1)) = some (none, rdX h (nZ p) (nZ l) (-nZ 1)) := o1 D1 d1
          obtain ⟨x, y, g2⟩ := o2 D2 d2
          refine ⟨x, y, ?_⟩
          rw [sq (rdX h (nZ pos) (nZ lv) (-nZ 1)) H, g1]
          exact g2
        | inr v2 =>
          obtain ⟨p2, lw, cs2, dn2⟩ := v2
          rw [e2] at i2
          obtain ⟨b2, o2⟩ := i2 (fun zz => by cases zz)
          refine GR_inr (v := (p2, lw, cs ++ cs2, dn2)) ?_
          intro D hD
          obtain ⟨D1, D2, d1, d2, sq, nf⟩ := hseq D hD
          have g1 : RMg s1 D1 dp (rdX h (nZ pos) (nZ lv) (-nZ 1)) = some (none, rdX h (nZ p) (nZ l) (-nZ 1)) := o1 D1 d1
          have g2 : RMg s2 D2 dp (rdX h (nZ p) (nZ l) (-nZ 1)) = some (none, rdX h (nZ p2) (nZ lw) (-nZ 1)) := o2 D2 d2
          rw [sq (rdX h (nZ pos) (nZ lv) (-nZ 1)) H, g1]
          exact g2
    -- a sign, then one, then the rest
    have loop : ∀ (s s1 pos lv dp z z1 : Nat) (acc : Den) (dv1 : Den → Den) (cf : Nat → List Nat → List Nat → List Nat) (zf : List Nat → Nat), s1 < 10 → s < 10 → pos < N → lv ≤ 50 → dp ≤ 8 → (∀ D, RMd s dp ≤ D → ∃ D1, RMd s1 dp ≤ D1 ∧ RMg s D dp (rdX h (nZ pos) (nZ lv) (-nZ 1)) = cV (RMg s1 D1 dp (rdX h (nZ (pos + 1)) (nZ lv) (-nZ 1))) (fun k1 => RMg s D dp k1) ∧ ∀ x y e, e < 1000 → RMg s D dp (rdX h x y (nZ e)) = some (none, rdX h x y (nZ e))) → (rdB (P C V N f s1 (pos + 1) lv dp z1 0 acc) fun p l cs dn => rdB (P C V N f s p l dp (zf cs) 0 (dv1 dn)) fun p2 l2 cs2 dn2 => .inr (p2, l2, cf 0 cs cs2, dn2)) ≠ .inl 100000 → GR h U N s pos lv dp (rdB (P C V N f s1 (pos + 1) lv dp z1 0 acc) fun p l cs dn => rdB (P C V N f s p l dp (zf cs) 0 (dv1 dn)) fun p2 l2 cs2 dn2 => .inr (p2, l2, cf 0 cs cs2, dn2)) := by
      intro s s1 pos lv dp z z1 acc dv1 cf zf hs1 hs hpos hlv hdp hseq hne
      have i1 := ih s1 (pos + 1) lv dp z1 0 acc hs1 (by decide) (by omega) (by omega) hlv hdp
      cases e1 : P C V N f s1 (pos + 1) lv dp z1 0 acc with
      | inl e =>
        rw [e1] at i1 hne
        obtain ⟨b1, o1⟩ := i1 hne
        have he := b1 e rfl
        refine GR_inl he ?_
        intro D hD
        obtain ⟨D1, d1, sq, nf⟩ := hseq D hD
        obtain ⟨x, y, g1⟩ := o1 D1 d1
        refine ⟨x, y, ?_⟩
        rw [sq, g1]
        exact nf x y _ (hU e he)
      | inr v =>
        obtain ⟨p, l, cs, dn⟩ := v
        rw [e1] at i1 hne
        obtain ⟨b1, o1⟩ := i1 (fun zz => by cases zz)
        obtain ⟨q1, q2, q3, q4⟩ := PB _ _ _ _ _ _ _ _ _ _ _ _ e1 hs1 (by decide) (by omega) (by omega)
        have ql := P_lv _ _ _ _ _ _ _ _ _ _ _ _ e1 hs1 hlv
        have i2 := ih s p l dp (zf cs) 0 (dv1 dn) hs (by decide) (by omega) q2 ql hdp
        change (rdB (P C V N f s p l dp (zf cs) 0 (dv1 dn)) fun p2 l2 cs2 dn2 => .inr (p2, l2, cf 0 cs cs2, dn2)) ≠ .inl 100000 at hne
        change GR h U N s pos lv dp (rdB (P C V N f s p l dp (zf cs) 0 (dv1 dn)) fun p2 l2 cs2 dn2 => .inr (p2, l2, cf 0 cs cs2, dn2))
        cases e2 : P C V N f s p l dp (zf cs) 0 (dv1 dn) with
        | inl e =>
          rw [e2] at i2 hne
          obtain ⟨b2, o2⟩ := i2 hne
          have he := b2 e rfl
          refine GR_inl he ?_
          intro D hD
          obtain ⟨D1, d1, sq, nf⟩ := hseq D hD
          have g1 : RMg s1 D1 dp (rdX h (nZ (pos + 1)) (nZ lv) (-nZ 1)) = some (none, rdX h (nZ p) (nZ l) (-nZ 1)) := o1 D1 d1
          obtain ⟨x, y, g2⟩ := o2 D hD
          refine ⟨x, y, ?_⟩
          rw [sq, g1]
          exact g2
        | inr v2 =>
          obtain ⟨p2, lw, cs2, dn2⟩ := v2
          rw [e2] at i2
          obtain ⟨b2, o2⟩ := i2 (fun zz => by cases zz)
          refine GR_inr (v := (p2, lw, cf 0 cs cs2, dn2)) ?_
          intro D hD
          obtain ⟨D1, d1, sq, nf⟩ := hseq D hD
          have g1 : RMg s1 D1 dp (rdX h (nZ (pos + 1)) (nZ lv) (-nZ 1)) = some (none, rdX h (nZ p) (nZ l) (-nZ 1)) := o1 D1 d1
          have g2 : RMg s D dp (rdX h (nZ p) (nZ l) (-nZ 1)) = some (none, rdX h (nZ p2) (nZ lw) (-nZ 1)) := o2 D hD
          rw [sq, g1]
          exact g2
    intro s pos lv dp z ng acc hs hng hn5 hpos hlv hdp hne
    have H1 : Sh (rdX h (nZ pos) (nZ lv) (-nZ 1)) := H
    have hCp := (X.2.2.1 pos hpos).2
    have s10 : s = 0 ∨ s = 1 ∨ s = 2 ∨ s = 3 ∨ s = 4 ∨ s = 5 ∨ s = 6 ∨ s = 7 ∨ s = 8 ∨ s = 9 := by omega
    rcases s10 with r | r | r | r | r | r | r | r | r | r <;> subst r
    · exact RM_0 X ih pos lv dp z ng acc hs hng hn5 hpos hlv hdp hne
    · rw [P_1] at hne ⊢
      refine two 1 0 2 pos lv dp z acc (by decide) (by decide) hpos hlv hdp ?_ hne
      intro D hD
      obtain ⟨d, rfl⟩ : ∃ d, D = d + 4 := ⟨D - 4, by have := RMd_9 1 hdp; omega⟩
      refine ⟨d + 3, d + 4, by have hD2 : 3 * (9 - dp) + 7 ≤ d + 4 := hD; show 3 * (9 - dp) + 6 ≤ d + 3; omega, hD, fun k Hk => ?_, fun x y e he => nf241_5 H (d + 1) e x y _ he⟩
      show qcl (d + 4) 241 [qR (some 56), qI (nZ dp)] k = _
      rw [E241, ck56 Hk]
      rfl
    · rw [P_2] at hne ⊢
      by_cases c1 : cAt C N pos = 142 ∨ cAt C N pos = 147
      · rw [if_pos c1] at hne ⊢
        have hp1 := C_pos (C := C) (N := N) (k := pos) (by omega)
        refine loop 2 0 pos lv dp z z acc _ (fun _ cs cs2 => cs ++ (if cAt C N pos = 142 then 28 else 29) :: cs2) _ (by decide) (by decide) hp1 hlv hdp ?_ hne
        intro D hD
        obtain ⟨d, rfl⟩ : ∃ d, D = d + 4 := ⟨D - 4, by have := RMd_9 2 hdp; omega⟩
        refine ⟨d + 3, by have hD2 : 3 * (9 - dp) + 7 ≤ d + 4 := hD; show 3 * (9 - dp) + 6 ≤ d + 3; omega, ?_, fun x y e he => nf241_5 H (d + 1) e x y _ he⟩
        show qbig (d + 4) 241 5 [sR (some 56), sI (nZ dp)] [] (rdX h (nZ pos) (nZ lv) (-nZ 1)) = _
        rw [E241_5]
        by_cases c2 : cAt C N pos = 142
        · simp (disch := first | assumption | omega | (simp only [Sh_si, Sh_sA]; assumption)) only [m254, m264t X, c2, z10, p56_0, g56_0, p56_1, g56_1, g56_2, g56_3, g56_4, g56_5, p56_6, g56_6, g56_7, g56_8, g56_9, p56_10, g56_10, p56_11, g56_11, g56_12, g56_13, g56_14, p56_15, g56_15, p56_16, g56_16, p56_17, g56_17, p56_18, g56_18, p56_19, g56_19, p56_20, g56_20, B56_21, g56_21, g56_22, g56_23, g56_24, g56_25, g56_26, g56_27, p56_28, g56_28, p56_29, g56_29, p56_30, g56_30, p56_31, g56_31, g56_32, g56_33, g56_34, p56_35, g56_35, p56_36, g56_36, p56_37, g56_37, p56_38, g56_38, g56_39, g56_40, g56_41, p56_42, g56_42, p56_43, g56_43, p56_44, g56_44, ck56, A57, S57, l57, A58, S58, l58, A59, S59, l59, A60, S60, l60, A61, S61, l61, A62, S62, l62, A63, S63, l63, A64, S64, l64, A65, S65, l65, A66, S66, l66, A67, S67, l67, A68, S68, l68, A69, S69, l69, A70, S70, l70, A71, S71, l71, A72, S72, l72, A73, S73, l73, A74, S74, l74, A75, S75, l75, A76, S76, l76, A77, S77, l77, A78, S78, l78, L0, L1, L2, L3, L4, L5, L6, L7, L8, L9, L10, L11, L12, L13, L14, L15, L16, L17, L18, L19, L20, L21, L22, L23, L24, L25, L26, L27, L28, L29, L30, L31, L32, L33, L34, L35, L36, L37, L38, L39, L40, L41, L42, L43, L44, L45, L46, L47, L48, L49, L50, L52, L57, L60, L90, L91, L93, L97, L99, L100, L101, L122, L240, L255, L256, L400, L401, L408, L409, L410, L411, L412, L413, L414, L420, L1000, L1001, L1103, L1200, L1240, L2820, L5220, L7936, L10440, L12345, L1000000, L1000003, L1073741823, L59, L61, L62, L200, nd_lt_t, nd_lt_f, nd_le_t, nd_le_f, nd_eq_f, nZ_add, nZ_mul, nZ_sub, nZ_lt, nZ_le, nZ_eq, nZ_nat, nZ_div, nZ_rem, nZ_and, nZ_or, and31, nZ_shl, nZ_shr, nZ_m1, nZ_nneg, nZ_nneg', nZ_nlt, nZ_ltn, inR_lt, Nat.not_lt_zero, ob_some, jI, jL, jR, jV, rI0, rI1, rIv, if_true, if_false, ↓reduceIte, Nat.reduceAdd, Nat.reduceMul, Nat.reduceSub, Nat.reduceLT, Nat.reduceEqDiff, Nat.reduceLeDiff, Nat.zero_add, Nat.add_zero, Nat.zero_mul, Nat.mul_zero, Nat.one_mul, Nat.mul_one, and_true, true_and, false_and, and_false, or_true, true_or, or_false, false_or, not_true_eq_false, not_false_eq_true, eq_self, bI_0, bI_1, em_b, hI_ne, hI_at, hA_ne, hA_at, Sh_si, Sh_sA]
          rfl
        · have c3 : cAt C N pos = 147 := by omega
          simp (disch := first | assumption | omega | (simp only [Sh_si, Sh_sA]; assumption)) only [m254, m264t X, c3, z10, p56_0, g56_0, p56_1, g56_1, g56_2, g56_3, g56_4, g56_5, p56_6, g56_6, g56_7, g56_8, g56_9, p56_10, g56_10, p56_11, g56_11, g56_12, g56_13, g56_14, p56_15, g56_15, p56_16, g56_16, p56_17, g56_17, p56_18, g56_18, p56_19, g56_19, p56_20, g56_20, B56_21, g56_21, g56_22, g56_23, g56_24, g56_25, g56_26, g56_27, p56_28, g56_28, p56_29, g56_29, p56_30, g56_30, p56_31, g56_31, g56_32, g56_33, g56_34, p56_35, g56_35, p56_36, g56_36, p56_37, g56_37, p56_38, g56_38, g56_39, g56_40, g56_41, p56_42, g56_42, p56_43, g56_43, p56_44, g56_44, ck56, A57, S57, l57, A58, S58, l58, A59, S59, l59, A60, S60, l60, A61, S61, l61, A62, S62, l62, A63, S63, l63, A64, S64, l64, A65, S65, l65, A66, S66, l66, A67, S67, l67, A68, S68, l68, A69, S69, l69, A70, S70, l70, A71, S71, l71, A72, S72, l72, A73, S73, l73, A74, S74, l74, A75, S75, l75, A76, S76, l76, A77, S77, l77, A78, S78, l78, L0, L1, L2, L3, L4, L5, L6, L7, L8, L9, L10, L11, L12, L13, L14, L15, L16, L17, L18, L19, L20, L21, L22, L23, L24, L25, L26, L27, L28, L29, L30, L31, L32, L33, L34, L35, L36, L37, L38, L39, L40, L41, L42, L43, L44, L45, L46, L47, L48, L49, L50, L52, L57, L60, L90, L91, L93, L97, L99, L100, L101, L122, L240, L255, L256, L400, L401, L408, L409, L410, L411, L412, L413, L414, L420, L1000, L1001, L1103, L1200, L1240, L2820, L5220, L7936, L10440, L12345, L1000000, L1000003, L1073741823, L59, L61, L62, L200, nd_lt_t, nd_lt_f, nd_le_t, nd_le_f, nd_eq_f, nZ_add, nZ_mul, nZ_sub, nZ_lt, nZ_le, nZ_eq, nZ_nat, nZ_div, nZ_rem, nZ_and, nZ_or, and31, nZ_shl, nZ_shr, nZ_m1, nZ_nneg, nZ_nneg', nZ_nlt, nZ_ltn, inR_lt, Nat.not_lt_zero, ob_some, jI, jL, jR, jV, rI0, rI1, rIv, if_true, if_false, ↓reduceIte, Nat.reduceAdd, Nat.reduceMul, Nat.reduceSub, Nat.reduceLT, Nat.reduceEqDiff, Nat.reduceLeDiff, Nat.zero_add, Nat.add_zero, Nat.zero_mul, Nat.mul_zero, Nat.one_mul, Nat.mul_one, and_true, true_and, false_and, and_false, or_true, true_or, or_false, false_or, not_true_eq_false, not_false_eq_true, eq_self, bI_0, bI_1, em_b, hI_ne, hI_at, hA_ne, hA_at, Sh_si, Sh_sA]
          rfl
      · rw [if_neg c1] at hne ⊢
        refine GR_inr (v := (pos, lv, [], acc)) ?_
        intro D hD
        obtain ⟨d, rfl⟩ : ∃ d, D = d + 4 := ⟨D - 4, by have := RMd_9 2 hdp; omega⟩
        show qbig (d + 4) 241 5 [sR (some 56), sI (nZ dp)] [] (rdX h (nZ pos) (nZ lv) (-nZ 1)) = _
        have n1 : (cAt C N pos = 142) = False := eq_false (by omega)
        have n2 : (cAt C N pos = 147) = False := eq_false (by omega)
        rw [E241_5]
        simp (disch := first | assumption | omega | (simp only [Sh_si, Sh_sA]; assumption)) only [m254, m264t X, n1, n2, z10, p56_0, g56_0, p56_1, g56_1, g56_2, g56_3, g56_4, g56_5, p56_6, g56_6, g56_7, g56_8, g56_9, p56_10, g56_10, p56_11, g56_11, g56_12, g56_13, g56_14, p56_15, g56_15, p56_16, g56_16, p56_17, g56_17, p56_18, g56_18, p56_19, g56_19, p56_20, g56_20, B56_21, g56_21, g56_22, g56_23, g56_24, g56_25, g56_26, g56_27, p56_28, g56_28, p56_29, g56_29, p56_30, g56_30, p56_31, g56_31, g56_32, g56_33, g56_34, p56_35, g56_35, p56_36, g56_36, p56_37, g56_37, p56_38, g56_38, g56_39, g56_40, g56_41, p56_42, g56_42, p56_43, g56_43, p56_44, g56_44, ck56, A57, S57, l57, A58, S58, l58, A59, S59, l59, A60, S60, l60, A61, S61, l61, A62, S62, l62, A63, S63, l63, A64, S64, l64, A65, S65, l65, A66, S66, l66, A67, S67, l67, A68, S68, l68, A69, S69, l69, A70, S70, l70, A71, S71, l71, A72, S72, l72, A73, S73, l73, A74, S74, l74, A75, S75, l75, A76, S76, l76, A77, S77, l77, A78, S78, l78, L0, L1, L2, L3, L4, L5, L6, L7, L8, L9, L10, L11, L12, L13, L14, L15, L16, L17, L18, L19, L20, L21, L22, L23, L24, L25, L26, L27, L28, L29, L30, L31, L32, L33, L34, L35, L36, L37, L38, L39, L40, L41, L42, L43, L44, L45, L46, L47, L48, L49, L50, L52, L57, L60, L90, L91, L93, L97, L99, L100, L101, L122, L240, L255, L256, L400, L401, L408, L409, L410, L411, L412, L413, L414, L420, L1000, L1001, L1103, L1200, L1240, L2820, L5220, L7936, L10440, L12345, L1000000, L1000003, L1073741823, L59, L61, L62, L200, nd_lt_t, nd_lt_f, nd_le_t, nd_le_f, nd_eq_f, nZ_add, nZ_mul, nZ_sub, nZ_lt, nZ_le, nZ_eq, nZ_nat, nZ_div, nZ_rem, nZ_and, nZ_or, and31, nZ_shl, nZ_shr, nZ_m1, nZ_nneg, nZ_nneg', nZ_nlt, nZ_ltn, inR_lt, Nat.not_lt_zero, ob_some, jI, jL, jR, jV, rI0, rI1, rIv, if_true, if_false, ↓reduceIte, Nat.reduceAdd, Nat.reduceMul, Nat.reduceSub, Nat.reduceLT, Nat.reduceEqDiff, Nat.reduceLeDiff, Nat.zero_add, Nat.add_zero, Nat.zero_mul, Nat.mul_zero, Nat.one_mul, Nat.mul_one, and_true, true_and, false_and, and_false, or_true, true_or, or_false, false_or, not_true_eq_false, not_false_eq_true, eq_self, bI_0, bI_1, em_b, hI_ne, hI_at, hA_ne, hA_at, Sh_si, Sh_sA]
    · rw [P_3] at hne ⊢
      refine two 3 1 4 pos lv dp z acc (by decide) (by decide) hpos hlv hdp ?_ hne
      intro D hD
      obtain ⟨d, rfl⟩ : ∃ d, D = d + 4 := ⟨D - 4, by have := RMd_9 3 hdp; omega⟩
      refine ⟨d + 3, d + 4, by have hD2 : 3 * (9 - dp) + 8 ≤ d + 4 := hD; show 3 * (9 - dp) + 7 ≤ d + 3; omega, hD, fun k Hk => ?_, fun x y e he => nf240_5 H (d + 1) e x y _ he⟩
      show qcl (d + 4) 240 [qR (some 56), qI (nZ dp)] k = _
      rw [E240, ck56 Hk]
      rfl
    · rw [P_4] at hne ⊢
      by_cases c1 : cAt C N pos = 143 ∨ cAt C N pos = 145
      · rw [if_pos c1] at hne ⊢
        have hp1 := C_pos (C := C) (N := N) (k := pos) (by omega)
        refine loop 4 1 pos lv dp z z acc _ (fun _ cs cs2 => cs ++ (if cAt C N pos = 143 then 26 else 27) :: cs2) _ (by decide) (by decide) hp1 hlv hdp ?_ hne
        intro D hD
        obtain ⟨d, rfl⟩ : ∃ d, D = d + 4 := ⟨D - 4, by have := RMd_9 4 hdp; omega⟩
        refine ⟨d + 3, by have hD2 : 3 * (9 - dp) + 8 ≤ d + 4 := hD; show 3 * (9 - dp) + 7 ≤ d + 3; omega, ?_, fun x y e he => nf240_5 H (d + 1) e x y _ he⟩
        show qbig (d + 4) 240 5 [sR (some 56), sI (nZ dp)] [] (rdX h (nZ pos) (nZ lv) (-nZ 1)) = _
        rw [E240_5]
        by_cases c2 : cAt C N pos = 143
        · simp (disch := first | assumption | omega | (simp only [Sh_si, Sh_sA]; assumption)) only [m254, m264t X, c2, z10, p56_0, g56_0, p56_1, g56_1, g56_2, g56_3, g56_4, g56_5, p56_6, g56_6, g56_7, g56_8, g56_9, p56_10, g56_10, p56_11, g56_11, g56_12, g56_13, g56_14, p56_15, g56_15, p56_16, g56_16, p56_17, g56_17, p56_18, g56_18, p56_19, g56_19, p56_20, g56_20, B56_21, g56_21, g56_22, g56_23, g56_24, g56_25, g56_26, g56_27, p56_28, g56_28, p56_29, g56_29, p56_30, g56_30, p56_31, g56_31, g56_32, g56_33, g56_34, p56_35, g56_35, p56_36, g56_36, p56_37, g56_37, p56_38, g56_38, g56_39, g56_40, g56_41, p56_42, g56_42, p56_43, g56_43, p56_44, g56_44, ck56, A57, S57, l57, A58, S58, l58, A59, S59, l59, A60, S60, l60, A61, S61, l61, A62, S62, l62, A63, S63, l63, A64, S64, l64, A65, S65, l65, A66, S66, l66, A67, S67, l67, A68, S68, l68, A69, S69, l69, A70, S70, l70, A71, S71, l71, A72, S72, l72, A73, S73, l73, A74, S74, l74, A75, S75, l75, A76, S76, l76, A77, S77, l77, A78, S78, l78, L0, L1, L2, L3, L4, L5, L6, L7, L8, L9, L10, L11, L12, L13, L14, L15, L16, L17, L18, L19, L20, L21, L22, L23, L24, L25, L26, L27, L28, L29, L30, L31, L32, L33, L34, L35, L36, L37, L38, L39, L40, L41, L42, L43, L44, L45, L46, L47, L48, L49, L50, L52, L57, L60, L90, L91, L93, L97, L99, L100, L101, L122, L240, L255, L256, L400, L401, L408, L409, L410, L411, L412, L413, L414, L420, L1000, L1001, L1103, L1200, L1240, L2820, L5220, L7936, L10440, L12345, L1000000, L1000003, L1073741823, L59, L61, L62, L200, nd_lt_t, nd_lt_f, nd_le_t, nd_le_f, nd_eq_f, nZ_add, nZ_mul, nZ_sub, nZ_lt, nZ_le, nZ_eq, nZ_nat, nZ_div, nZ_rem, nZ_and, nZ_or, and31, nZ_shl, nZ_shr, nZ_m1, nZ_nneg, nZ_nneg', nZ_nlt, nZ_ltn, inR_lt, Nat.not_lt_zero, ob_some, jI, jL, jR, jV, rI0, rI1, rIv, if_true, if_false, ↓reduceIte, Nat.reduceAdd, Nat.reduceMul, Nat.reduceSub, Nat.reduceLT, Nat.reduceEqDiff, Nat.reduceLeDiff, Nat.zero_add, Nat.add_zero, Nat.zero_mul, Nat.mul_zero, Nat.one_mul, Nat.mul_one, and_true, true_and, false_and, and_false, or_true, true_or, or_false, false_or, not_true_eq_false, not_false_eq_true, eq_self, bI_0, bI_1, em_b, hI_ne, hI_at, hA_ne, hA_at, Sh_si, Sh_sA]
          rfl
        · have c3 : cAt C N pos = 145 := by omega
          simp (disch := first | assumption | omega | (simp only [Sh_si, Sh_sA]; assumption)) only [m254, m264t X, c3, z10, p56_0, g56_0, p56_1, g56_1, g56_2, g56_3, g56_4, g56_5, p56_6, g56_6, g56_7, g56_8, g56_9, p56_10, g56_10, p56_11, g56_11, g56_12, g56_13, g56_14, p56_15, g56_15, p56_16, g56_16, p56_17, g56_17, p56_18, g56_18, p56_19, g56_19, p56_20, g56_20, B56_21, g56_21, g56_22, g56_23, g56_24, g56_25, g56_26, g56_27, p56_28, g56_28, p56_29, g56_29, p56_30, g56_30, p56_31, g56_31, g56_32, g56_33, g56_34, p56_35, g56_35, p56_36, g56_36, p56_37, g56_37, p56_38, g56_38, g56_39, g56_40, g56_41, p56_42, g56_42, p56_43, g56_43, p56_44, g56_44, ck56, A57, S57, l57, A58, S58, l58, A59, S59, l59, A60, S60, l60, A61, S61, l61, A62, S62, l62, A63, S63, l63, A64, S64, l64, A65, S65, l65, A66, S66, l66, A67, S67, l67, A68, S68, l68, A69, S69, l69, A70, S70, l70, A71, S71, l71, A72, S72, l72, A73, S73, l73, A74, S74, l74, A75, S75, l75, A76, S76, l76, A77, S77, l77, A78, S78, l78, L0, L1, L2, L3, L4, L5, L6, L7, L8, L9, L10, L11, L12, L13, L14, L15, L16, L17, L18, L19, L20, L21, L22, L23, L24, L25, L26, L27, L28, L29, L30, L31, L32, L33, L34, L35, L36, L37, L38, L39, L40, L41, L42, L43, L44, L45, L46, L47, L48, L49, L50, L52, L57, L60, L90, L91, L93, L97, L99, L100, L101, L122, L240, L255, L256, L400, L401, L408, L409, L410, L411, L412, L413, L414, L420, L1000, L1001, L1103, L1200, L1240, L2820, L5220, L7936, L10440, L12345, L1000000, L1000003, L1073741823, L59, L61, L62, L200, nd_lt_t, nd_lt_f, nd_le_t, nd_le_f, nd_eq_f, nZ_add, nZ_mul, nZ_sub, nZ_lt, nZ_le, nZ_eq, nZ_nat, nZ_div, nZ_rem, nZ_and, nZ_or, and31, nZ_shl, nZ_shr, nZ_m1, nZ_nneg, nZ_nneg', nZ_nlt, nZ_ltn, inR_lt, Nat.not_lt_zero, ob_some, jI, jL, jR, jV, rI0, rI1, rIv, if_true, if_false, ↓reduceIte, Nat.reduceAdd, Nat.reduceMul, Nat.reduceSub, Nat.reduceLT, Nat.reduceEqDiff, Nat.reduceLeDiff, Nat.zero_add, Nat.add_zero, Nat.zero_mul, Nat.mul_zero, Nat.one_mul, Nat.mul_one, and_true, true_and, false_and, and_false, or_true, true_or, or_false, false_or, not_true_eq_false, not_false_eq_true, eq_self, bI_0, bI_1, em_b, hI_ne, hI_at, hA_ne, hA_at, Sh_si, Sh_sA]
          rfl
      · rw [if_neg c1] at hne ⊢
        refine GR_inr (v := (pos, lv, [], acc)) ?_
        intro D hD
        obtain ⟨d, rfl⟩ : ∃ d, D = d + 4 := ⟨D - 4, by have := RMd_9 4 hdp; omega⟩
        show qbig (d + 4) 240 5 [sR (some 56), sI (nZ dp)] [] (rdX h (nZ pos) (nZ lv) (-nZ 1)) = _
        have n1 : (cAt C N pos = 143) = False := eq_false (by omega)
        have n2 : (cAt C N pos = 145) = False := eq_false (by omega)
        rw [E240_5]
        simp (disch := first | assumption | omega | (simp only [Sh_si, Sh_sA]; assumption)) only [m254, m264t X, n1, n2, z10, p56_0, g56_0, p56_1, g56_1, g56_2, g56_3, g56_4, g56_5, p56_6, g56_6, g56_7, g56_8, g56_9, p56_10, g56_10, p56_11, g56_11, g56_12, g56_13, g56_14, p56_15, g56_15, p56_16, g56_16, p56_17, g56_17, p56_18, g56_18, p56_19, g56_19, p56_20, g56_20, B56_21, g56_21, g56_22, g56_23, g56_24, g56_25, g56_26, g56_27, p56_28, g56_28, p56_29, g56_29, p56_30, g56_30, p56_31, g56_31, g56_32, g56_33, g56_34, p56_35, g56_35, p56_36, g56_36, p56_37, g56_37, p56_38, g56_38, g56_39, g56_40, g56_41, p56_42, g56_42, p56_43, g56_43, p56_44, g56_44, ck56, A57, S57, l57, A58, S58, l58, A59, S59, l59, A60, S60, l60, A61, S61, l61, A62, S62, l62, A63, S63, l63, A64, S64, l64, A65, S65, l65, A66, S66, l66, A67, S67, l67, A68, S68, l68, A69, S69, l69, A70, S70, l70, A71, S71, l71, A72, S72, l72, A73, S73, l73, A74, S74, l74, A75, S75, l75, A76, S76, l76, A77, S77, l77, A78, S78, l78, L0, L1, L2, L3, L4, L5, L6, L7, L8, L9, L10, L11, L12, L13, L14, L15, L16, L17, L18, L19, L20, L21, L22, L23, L24, L25, L26, L27, L28, L29, L30, L31, L32, L33, L34, L35, L36, L37, L38, L39, L40, L41, L42, L43, L44, L45, L46, L47, L48, L49, L50, L52, L57, L60, L90, L91, L93, L97, L99, L100, L101, L122, L240, L255, L256, L400, L401, L408, L409, L410, L411, L412, L413, L414, L420, L1000, L1001, L1103, L1200, L1240, L2820, L5220, L7936, L10440, L12345, L1000000, L1000003, L1073741823, L59, L61, L62, L200, nd_lt_t, nd_lt_f, nd_le_t, nd_le_f, nd_eq_f, nZ_add, nZ_mul, nZ_sub, nZ_lt, nZ_le, nZ_eq, nZ_nat, nZ_div, nZ_rem, nZ_and, nZ_or, and31, nZ_shl, nZ_shr, nZ_m1, nZ_nneg, nZ_nneg', nZ_nlt, nZ_ltn, inR_lt, Nat.not_lt_zero, ob_some, jI, jL, jR, jV, rI0, rI1, rIv, if_true, if_false, ↓reduceIte, Nat.reduceAdd, Nat.reduceMul, Nat.reduceSub, Nat.reduceLT, Nat.reduceEqDiff, Nat.reduceLeDiff, Nat.zero_add, Nat.add_zero, Nat.zero_mul, Nat.mul_zero, Nat.one_mul, Nat.mul_one, and_true, true_and, false_and, and_false, or_true, true_or, or_false, false_or, not_true_eq_false, not_false_eq_true, eq_self, bI_0, bI_1, em_b, hI_ne, hI_at, hA_ne, hA_at, Sh_si, Sh_sA]
    · exact RM_5 X ih pos lv dp z ng acc hs hng hn5 hpos hlv hdp hne
    · rw [P_6] at hne ⊢
      refine two 6 5 7 pos lv dp z acc (by decide) (by decide) hpos hlv hdp ?_ hne
      intro D hD
      obtain ⟨d, rfl⟩ : ∃ d, D = d + 4 := ⟨D - 4, by have := RMd_9 6 hdp; omega⟩
      refine ⟨d + 3, d + 4, by have hD2 : 3 * (9 - dp) + 10 ≤ d + 4 := hD; show 3 * (9 - dp) + 9 ≤ d + 3; omega, hD, fun k Hk => ?_, fun x y e he => nf236_5 H (d + 1) e x y _ he⟩
      show qcl (d + 4) 236 [qR (some 56), qI (nZ dp)] k = _
      rw [E236, ck56 Hk, ob_some, E239, ck56 Hk]
      rfl
    · rw [P_7] at hne ⊢
      by_cases c1 : cAt C N pos = 7
      · rw [if_pos c1] at hne ⊢
        have hp1 := C_pos (C := C) (N := N) (k := pos) (by omega)
        refine loop 7 5 pos lv dp z (z + 1) acc _ (fun _ cs cs2 => (6 + 32 * (z + 1 + cs.length)) :: cs ++ cs2) _ (by decide) (by decide) hp1 hlv hdp ?_ hne
        intro D hD
        obtain ⟨d, rfl⟩ : ∃ d, D = d + 4 := ⟨D - 4, by have := RMd_9 7 hdp; omega⟩
        refine ⟨d + 3, by have hD2 : 3 * (9 - dp) + 10 ≤ d + 4 := hD; show 3 * (9 - dp) + 9 ≤ d + 3; omega, ?_, fun x y e he => nf236_5 H (d + 1) e x y _ he⟩
        show qbig (d + 4) 236 5 [sR (some 56), sI (nZ dp)] [] (rdX h (nZ pos) (nZ lv) (-nZ 1)) = _
        have H2 : Sh (rdX h (nZ (pos + 1)) (nZ lv) (-nZ 1)) := H
        rw [E236_5]
        simp (disch := first | assumption | omega | (simp only [Sh_si, Sh_sA]; assumption)) only [m264t X, c1, z10, E239, p56_0, g56_0, p56_1, g56_1, g56_2, g56_3, g56_4, g56_5, p56_6, g56_6, g56_7, g56_8, g56_9, p56_10, g56_10, p56_11, g56_11, g56_12, g56_13, g56_14, p56_15, g56_15, p56_16, g56_16, p56_17, g56_17, p56_18, g56_18, p56_19, g56_19, p56_20, g56_20, B56_21, g56_21, g56_22, g56_23, g56_24, g56_25, g56_26, g56_27, p56_28, g56_28, p56_29, g56_29, p56_30, g56_30, p56_31, g56_31, g56_32, g56_33, g56_34, p56_35, g56_35, p56_36, g56_36, p56_37, g56_37, p56_38, g56_38, g56_39, g56_40, g56_41, p56_42, g56_42, p56_43, g56_43, p56_44, g56_44, ck56, A57, S57, l57, A58, S58, l58, A59, S59, l59, A60, S60, l60, A61, S61, l61, A62, S62, l62, A63, S63, l63, A64, S64, l64, A65, S65, l65, A66, S66, l66, A67, S67, l67, A68, S68, l68, A69, S69, l69, A70, S70, l70, A71, S71, l71, A72, S72, l72, A73, S73, l73, A74, S74, l74, A75, S75, l75, A76, S76, l76, A77, S77, l77, A78, S78, l78, L0, L1, L2, L3, L4, L5, L6, L7, L8, L9, L10, L11, L12, L13, L14, L15, L16, L17, L18, L19, L20, L21, L22, L23, L24, L25, L26, L27, L28, L29, L30, L31, L32, L33, L34, L35, L36, L37, L38, L39, L40, L41, L42, L43, L44, L45, L46, L47, L48, L49, L50, L52, L57, L60, L90, L91, L93, L97, L99, L100, L101, L122, L240, L255, L256, L400, L401, L408, L409, L410, L411, L412, L413, L414, L420, L1000, L1001, L1103, L1200, L1240, L2820, L5220, L7936, L10440, L12345, L1000000, L1000003, L1073741823, L59, L61, L62, L200, nd_lt_t, nd_lt_f, nd_le_t, nd_le_f, nd_eq_f, nZ_add, nZ_mul, nZ_sub, nZ_lt, nZ_le, nZ_eq, nZ_nat, nZ_div, nZ_rem, nZ_and, nZ_or, and31, nZ_shl, nZ_shr, nZ_m1, nZ_nneg, nZ_nneg', nZ_nlt, nZ_ltn, inR_lt, Nat.not_lt_zero, ob_some, jI, jL, jR, jV, rI0, rI1, rIv, if_true, if_false, ↓reduceIte, Nat.reduceAdd, Nat.reduceMul, Nat.reduceSub, Nat.reduceLT, Nat.reduceEqDiff, Nat.reduceLeDiff, Nat.zero_add, Nat.add_zero, Nat.zero_mul, Nat.mul_zero, Nat.one_mul, Nat.mul_one, and_true, true_and, false_and, and_false, or_true, true_or, or_false, false_or, not_true_eq_false, not_false_eq_true, eq_self, bI_0, bI_1, em_b, hI_ne, hI_at, hA_ne, hA_at, Sh_si, Sh_sA]
        rfl
      · rw [if_neg c1] at hne ⊢
        refine GR_inr (v := (pos, lv, [], acc)) ?_
        intro D hD
        obtain ⟨d, rfl⟩ : ∃ d, D = d + 4 := ⟨D - 4, by have := RMd_9 7 hdp; omega⟩
        show qbig (d + 4) 236 5 [sR (some 56), sI (nZ dp)] [] (rdX h (nZ pos) (nZ lv) (-nZ 1)) = _
        rw [E236_5]
        simp (disch := first | assumption | omega | (simp only [Sh_si, Sh_sA]; assumption)) only [m264t X, eq_false c1, z10, p56_0, g56_0, p56_1, g56_1, g56_2, g56_3, g56_4, g56_5, p56_6, g56_6, g56_7, g56_8, g56_9, p56_10, g56_10, p56_11, g56_11, g56_12, g56_13, g56_14, p56_15, g56_15, p56_16, g56_16, p56_17, g56_17, p56_18, g56_18, p56_19, g56_19, p56_20, g56_20, B56_21, g56_21, g56_22, g56_23, g56_24, g56_25, g56_26, g56_27, p56_28, g56_28, p56_29, g56_29, p56_30, g56_30, p56_31, g56_31, g56_32, g56_33, g56_34, p56_35, g56_35, p56_36, g56_36, p56_37, g56_37, p56_38, g56_38, g56_39, g56_40, g56_41, p56_42, g56_42, p56_43, g56_43, p56_44, g56_44, ck56, A57, S57, l57, A58, S58, l58, A59, S59, l59, A60, S60, l60, A61, S61, l61, A62, S62, l62, A63, S63, l63, A64, S64, l64, A65, S65, l65, A66, S66, l66, A67, S67, l67, A68, S68, l68, A69, S69, l69, A70, S70, l70, A71, S71, l71, A72, S72, l72, A73, S73, l73, A74, S74, l74, A75, S75, l75, A76, S76, l76, A77, S77, l77, A78, S78, l78, L0, L1, L2, L3, L4, L5, L6, L7, L8, L9, L10, L11, L12, L13, L14, L15, L16, L17, L18, L19, L20, L21, L22, L23, L24, L25, L26, L27, L28, L29, L30, L31, L32, L33, L34, L35, L36, L37, L38, L39, L40, L41, L42, L43, L44, L45, L46, L47, L48, L49, L50, L52, L57, L60, L90, L91, L93, L97, L99, L100, L101, L122, L240, L255, L256, L400, L401, L408, L409, L410, L411, L412, L413, L414, L420, L1000, L1001, L1103, L1200, L1240, L2820, L5220, L7936, L10440, L12345, L1000000, L1000003, L1073741823, L59, L61, L62, L200, nd_lt_t, nd_lt_f, nd_le_t, nd_le_f, nd_eq_f, nZ_add, nZ_mul, nZ_sub, nZ_lt, nZ_le, nZ_eq, nZ_nat, nZ_div, nZ_rem, nZ_and, nZ_or, and31, nZ_shl, nZ_shr, nZ_m1, nZ_nneg, nZ_nneg', nZ_nlt, nZ_ltn, inR_lt, Nat.not_lt_zero, ob_some, jI, jL, jR, jV, rI0, rI1, rIv, if_true, if_false, ↓reduceIte, Nat.reduceAdd, Nat.reduceMul, Nat.reduceSub, Nat.reduceLT, Nat.reduceEqDiff, Nat.reduceLeDiff, Nat.zero_add, Nat.add_zero, Nat.zero_mul, Nat.mul_zero, Nat.one_mul, Nat.mul_one, and_true, true_and, false_and, and_false, or_true, true_or, or_false, false_or, not_true_eq_false, not_false_eq_true, eq_self, bI_0, bI_1, em_b, hI_ne, hI_at, hA_ne, hA_at, Sh_si, Sh_sA]
    · rw [P_8] at hne ⊢
      refine two 8 6 9 pos lv dp z acc (by decide) (by decide) hpos hlv hdp ?_ hne
      intro D hD
      obtain ⟨d, rfl⟩ : ∃ d, D = d + 4 := ⟨D - 4, by have := RMd_9 8 hdp; omega⟩
      refine ⟨d + 3, d + 4, by have hD2 : 3 * (9 - dp) + 11 ≤ d + 4 := hD; show 3 * (9 - dp) + 10 ≤ d + 3; omega, hD, fun k Hk => ?_, fun x y e he => nf242_5 H (d + 1) e x y _ he⟩
      show qcl (d + 4) 242 [qR (some 56), qI (nZ dp)] k = _
      rw [E242, ck56 Hk]
      rfl
    · rw [P_9] at hne ⊢
      by_cases c1 : cAt C N pos = 6
      · rw [if_pos c1] at hne ⊢
        have hp1 := C_pos (C := C) (N := N) (k := pos) (by omega)
        refine loop 9 6 pos lv dp z (z + 1) acc _ (fun _ cs cs2 => (5 + 32 * (z + 1 + cs.length)) :: cs ++ cs2) _ (by decide) (by decide) hp1 hlv hdp ?_ hne
        intro D hD
        obtain ⟨d, rfl⟩ : ∃ d, D = d + 4 := ⟨D - 4, by have := RMd_9 9 hdp; omega⟩
        refine ⟨d + 3, by have hD2 : 3 * (9 - dp) + 11 ≤ d + 4 := hD; show 3 * (9 - dp) + 10 ≤ d + 3; omega, ?_, fun x y e he => nf242_5 H (d + 1) e x y _ he⟩
        show qbig (d + 4) 242 5 [sR (some 56), sI (nZ dp)] [] (rdX h (nZ pos) (nZ lv) (-nZ 1)) = _
        rw [E242_5]
        simp (disch := first | assumption | omega | (simp only [Sh_si, Sh_sA]; assumption)) only [m264t X, c1, z10, p56_0, g56_0, p56_1, g56_1, g56_2, g56_3, g56_4, g56_5, p56_6, g56_6, g56_7, g56_8, g56_9, p56_10, g56_10, p56_11, g56_11, g56_12, g56_13, g56_14, p56_15, g56_15, p56_16, g56_16, p56_17, g56_17, p56_18, g56_18, p56_19, g56_19, p56_20, g56_20, B56_21, g56_21, g56_22, g56_23, g56_24, g56_25, g56_26, g56_27, p56_28, g56_28, p56_29, g56_29, p56_30, g56_30, p56_31, g56_31, g56_32, g56_33, g56_34, p56_35, g56_35, p56_36, g56_36, p56_37, g56_37, p56_38, g56_38, g56_39, g56_40, g56_41, p56_42, g56_42, p56_43, g56_43, p56_44, g56_44, ck56, A57, S57, l57, A58, S58, l58, A59, S59, l59, A60, S60, l60, A61, S61, l61, A62, S62, l62, A63, S63, l63, A64, S64, l64, A65, S65, l65, A66, S66, l66, A67, S67, l67, A68, S68, l68, A69, S69, l69, A70, S70, l70, A71, S71, l71, A72, S72, l72, A73, S73, l73, A74, S74, l74, A75, S75, l75, A76, S76, l76, A77, S77, l77, A78, S78, l78, L0, L1, L2, L3, L4, L5, L6, L7, L8, L9, L10, L11, L12, L13, L14, L15, L16, L17, L18, L19, L20, L21, L22, L23, L24, L25, L26, L27, L28, L29, L30, L31, L32, L33, L34, L35, L36, L37, L38, L39, L40, L41, L42, L43, L44, L45, L46, L47, L48, L49, L50, L52, L57, L60, L90, L91, L93, L97, L99, L100, L101, L122, L240, L255, L256, L400, L401, L408, L409, L410, L411, L412, L413, L414, L420, L1000, L1001, L1103, L1200, L1240, L2820, L5220, L7936, L10440, L12345, L1000000, L1000003, L1073741823, L59, L61, L62, L200, nd_lt_t, nd_lt_f, nd_le_t, nd_le_f, nd_eq_f, nZ_add, nZ_mul, nZ_sub, nZ_lt, nZ_le, nZ_eq, nZ_nat, nZ_div, nZ_rem, nZ_and, nZ_or, and31, nZ_shl, nZ_shr, nZ_m1, nZ_nneg, nZ_nneg', nZ_nlt, nZ_ltn, inR_lt, Nat.not_lt_zero, ob_some, jI, jL, jR, jV, rI0, rI1, rIv, if_true, if_false, ↓reduceIte, Nat.reduceAdd, Nat.reduceMul, Nat.reduceSub, Nat.reduceLT, Nat.reduceEqDiff, Nat.reduceLeDiff, Nat.zero_add, Nat.add_zero, Nat.zero_mul, Nat.mul_zero, Nat.one_mul, Nat.mul_one, and_true, true_and, false_and, and_false, or_true, true_or, or_false, false_or, not_true_eq_false, not_false_eq_true, eq_self, bI_0, bI_1, em_b, hI_ne, hI_at, hA_ne, hA_at, Sh_si, Sh_sA]
        rfl
      · rw [if_neg c1] at hne ⊢
        refine GR_inr (v := (pos, lv, [], acc)) ?_
        intro D hD
        obtain ⟨d, rfl⟩ : ∃ d, D = d + 4 := ⟨D - 4, by have := RMd_9 9 hdp; omega⟩
        show qbig (d + 4) 242 5 [sR (some 56), sI (nZ dp)] [] (rdX h (nZ pos) (nZ lv) (-nZ 1)) = _
        rw [E242_5]
        simp (disch := first | assumption | omega | (simp only [Sh_si, Sh_sA]; assumption)) only [m264t X, eq_false c1, z10, p56_0, g56_0, p56_1, g56_1, g56_2, g56_3, g56_4, g56_5, p56_6, g56_6, g56_7, g56_8, g56_9, p56_10, g56_10, p56_11, g56_11, g56_12, g56_13, g56_14, p56_15, g56_15, p56_16, g56_16, p56_17, g56_17, p56_18, g56_18, p56_19, g56_19, p56_20, g56_20, B56_21, g56_21, g56_22, g56_23, g56_24, g56_25, g56_26, g56_27, p56_28, g56_28, p56_29, g56_29, p56_30, g56_30, p56_31, g56_31, g56_32, g56_33, g56_34, p56_35, g56_35, p56_36, g56_36, p56_37, g56_37, p56_38, g56_38, g56_39, g56_40, g56_41, p56_42, g56_42, p56_43, g56_43, p56_44, g56_44, ck56, A57, S57, l57, A58, S58, l58, A59, S59, l59, A60, S60, l60, A61, S61, l61, A62, S62, l62, A63, S63, l63, A64, S64, l64, A65, S65, l65, A66, S66, l66, A67, S67, l67, A68, S68, l68, A69, S69, l69, A70, S70, l70, A71, S71, l71, A72, S72, l72, A73, S73, l73, A74, S74, l74, A75, S75, l75, A76, S76, l76, A77, S77, l77, A78, S78, l78, L0, L1, L2, L3, L4, L5, L6, L7, L8, L9, L10, L11, L12, L13, L14, L15, L16, L17, L18, L19, L20, L21, L22, L23, L24, L25, L26, L27, L28, L29, L30, L31, L32, L33, L34, L35, L36, L37, L38, L39, L40, L41, L42, L43, L44, L45, L46, L47, L48, L49, L50, L52, L57, L60, L90, L91, L93, L97, L99, L100, L101, L122, L240, L255, L256, L400, L401, L408, L409, L410, L411, L412, L413, L414, L420, L1000, L1001, L1103, L1200, L1240, L2820, L5220, L7936, L10440, L12345, L1000000, L1000003, L1073741823, L59, L61, L62, L200, nd_lt_t, nd_lt_f, nd_le_t, nd_le_f, nd_eq_f, nZ_add, nZ_mul, nZ_sub, nZ_lt, nZ_le, nZ_eq, nZ_nat, nZ_div, nZ_rem, nZ_and, nZ_or, and31, nZ_shl, nZ_shr, nZ_m1, nZ_nneg, nZ_nneg', nZ_nlt, nZ_ltn, inR_lt, Nat.not_lt_zero, ob_some, jI, jL, jR, jV, rI0, rI1, rIv, if_true, if_false, ↓reduceIte, Nat.reduceAdd, Nat.reduceMul, Nat.reduceSub, Nat.reduceLT, Nat.reduceEqDiff, Nat.reduceLeDiff, Nat.zero_add, Nat.add_zero, Nat.zero_mul, Nat.mul_zero, Nat.one_mul, Nat.mul_one, and_true, true_and, false_and, and_false, or_true, true_or, or_false, false_or, not_true_eq_false, not_false_eq_true, eq_self, bI_0, bI_1, em_b, hI_ne, hI_at, hA_ne, hA_at, Sh_si, Sh_sA]

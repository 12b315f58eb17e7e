/-! ===== feed ===== -/
def byt (x : Int32) (k : Nat) : Nat := (x.toBitVec.toNat >>> (24 - 8 * k)) % 256
theorem byt_lt (x : Int32) (k : Nat) : byt x k < 256 := Nat.mod_lt _ (by decide)
theorem byC_aux (x : Int32) (s : Nat) (v : BitVec 32) (e : v.toNat = x.toBitVec.toNat >>> s) : v &&& 255#32 = BitVec.ofNat 32 ((x.toBitVec.toNat >>> s) % 256) := by
  apply BitVec.eq_of_toNat_eq
  rw [BitVec.toNat_and, e]
  simp only [BitVec.toNat_ofNat]
  have h1 : (255 : Nat) % 2 ^ 32 = 2 ^ 8 - 1 := by decide
  rw [h1, Nat.and_two_pow_sub_one_eq_mod]
  have h2 := Nat.mod_lt (x.toBitVec.toNat >>> s) (show 0 < 256 by decide)
  rw [Nat.mod_eq_of_lt (a := _ % 256) (by omega)]
theorem byC_0 (x : Int32) : (Int32.toUInt32 x >>> (Int32.toUInt32 (nZ 24) &&& Int32.toUInt32 (nZ 31))).toInt32 &&& nZ 255 = nZ (byt x 0) := by
  apply Int32.toBitVec.inj
  show (x.toBitVec >>> (24#32)) &&& 255#32 = BitVec.ofNat 32 ((x.toBitVec.toNat >>> 24) % 256)
  exact byC_aux x 24 _ (by simp [BitVec.toNat_ushiftRight])
theorem byC_1 (x : Int32) : (Int32.toUInt32 x >>> (Int32.toUInt32 (nZ 16) &&& Int32.toUInt32 (nZ 31))).toInt32 &&& nZ 255 = nZ (byt x 1) := by
  apply Int32.toBitVec.inj
  show (x.toBitVec >>> (16#32)) &&& 255#32 = BitVec.ofNat 32 ((x.toBitVec.toNat >>> 16) % 256)
  exact byC_aux x 16 _ (by simp [BitVec.toNat_ushiftRight])
theorem byC_2 (x : Int32) : (Int32.toUInt32 x >>> (Int32.toUInt32 (nZ 8) &&& Int32.toUInt32 (nZ 31))).toInt32 &&& nZ 255 = nZ (byt x 2) := by
  apply Int32.toBitVec.inj
  show (x.toBitVec >>> (8#32)) &&& 255#32 = BitVec.ofNat 32 ((x.toBitVec.toNat >>> 8) % 256)
  exact byC_aux x 8 _ (by simp [BitVec.toNat_ushiftRight])
theorem byC_3 (x : Int32) : (Int32.toUInt32 x >>> (Int32.toUInt32 (nZ 0) &&& Int32.toUInt32 (nZ 31))).toInt32 &&& nZ 255 = nZ (byt x 3) := by
  apply Int32.toBitVec.inj
  show (x.toBitVec >>> (0#32)) &&& 255#32 = BitVec.ofNat 32 ((x.toBitVec.toNat >>> 0) % 256)
  exact byC_aux x 0 _ (by simp [BitVec.toNat_ushiftRight])
theorem sB_8 : ∀ t, t < 256 → Int8.toInt32 (Int32.toInt8 (Int8.toInt32 (Int8.ofNat t))) = sB t := by decide +kernel
theorem byM {x : Int32} {s : Nat} (hs : s ≤ 24) : Int8.toInt32 (Int32.toInt8 (Int8.toInt32 (Int32.toInt8 (x >>> nZ s)))) = sB ((x.toBitVec.toNat >>> s) % 256) := by
  rw [← sB_8 _ (Nat.mod_lt _ (by decide))]
  congr 3
  apply Int8.toBitVec.inj
  have e : (BitVec.ofNat 32 s).smod 32 = BitVec.ofNat 32 s := by
    have : ∀ k, k ≤ 24 → (BitVec.ofNat 32 k).smod 32 = BitVec.ofNat 32 k := by decide +kernel
    exact this s hs
  show BitVec.signExtend 8 (BitVec.sshiftRight' x.toBitVec ((BitVec.ofNat 32 s).smod 32)) = BitVec.ofNat 8 ((x.toBitVec.toNat >>> s) % 256)
  rw [e]
  apply BitVec.eq_of_getLsbD_eq
  intro i hi
  show (BitVec.signExtend 8 (BitVec.sshiftRight x.toBitVec (BitVec.ofNat 32 s).toNat)).getLsbD i = _
  rw [BitVec.getLsbD_signExtend, BitVec.getLsbD_sshiftRight, BitVec.getLsbD_ofNat]
  simp only [BitVec.toNat_ofNat]
  rw [Nat.mod_eq_of_lt (show s < 2 ^ 32 by omega)]
  rw [show (256 : Nat) = 2 ^ 8 from rfl, Nat.testBit_mod_two_pow, Nat.testBit_shiftRight]
  simp only [hi, decide_true, Bool.true_and, if_pos (show i < 32 by omega), decide_eq_false (show ¬32 ≤ i by omega), Bool.not_false, if_pos (show s + i < 32 by omega)]
  rfl
theorem hsI_comm {h : QH} {a i b j : Nat} {v w : Int32} (e : a ≠ b) : hsI (hsI h a i v) b j w = hsI (hsI h b j w) a i v := by
  refine qh_ext rfl rfl rfl ?_ rfl
  intro x y
  simp only [hI_si]
  by_cases h1 : x = b ∧ y = j
  · rw [if_pos h1, if_neg (fun z => e (z.1.symm.trans h1.1)), if_pos h1]
  · rw [if_neg h1, if_neg h1]
theorem hsI_two {h : QH} {a i : Nat} {v w : Int32} : hsI (hsI h a i v) a i w = hsI h a i w := by
  refine qh_ext rfl rfl rfl ?_ rfl
  intro x y
  simp only [hI_si]
  by_cases h1 : x = a ∧ y = i
  · rw [if_pos h1, if_pos h1]
  · rw [if_neg h1, if_neg h1, if_neg h1]
def tk (h : QH) (L : Nat) (x : Int32) : QH := hsI (hsI (hsI (hsI (hsI h 28 L (nZ (byt x 0))) 28 (L + 1) (nZ (byt x 1))) 28 (L + 2) (nZ (byt x 2))) 28 (L + 3) (nZ (byt x 3))) 27 0 (nZ (L + 4))
theorem c146_s {h : QH} (H : Sh h) (d L k s : Nat) (x : Int32) (hL : L < 400) (e : hI h 27 0 = nZ L) (hs : s < 32) (hb : (Int32.toUInt32 x >>> (Int32.toUInt32 (nZ s) &&& Int32.toUInt32 (nZ 31))).toInt32 &&& nZ 255 = nZ (byt x k)) : qbig (d + 1) 146 3 [sR (some 27), sI x, sI (nZ s)] [] h = qbig (d + 1) 146 3 [sR (some 27), sI x, sI (nZ s + -nZ 8)] [] (hsI (hsI h 28 L (nZ (byt x k))) 27 0 (nZ (L + 1))) := by
  rw [E146_3]
  simp (disch := first | assumption | omega | (simp only [Sh_si, Sh_sA]; assumption)) only [e, hb, A0, l0, A1, l1, A2, l2, A3, l3, A4, l4, A7, l7, A8, l8, g10_0, g10_1, g10_2, g10_3, g10_4, g10_5, g10_6, g10_7, g10_8, g10_9, p10_10, g10_10, p10_11, g10_11, p10_12, g10_12, p10_13, g10_13, ck10, g11_0, g11_1, g11_2, g11_3, p11_4, g11_4, p11_5, g11_5, ck11, p12_0, g12_0, p12_1, g12_1, g12_2, g12_3, g12_4, g12_5, ck12, A13, S13, l13, A14, S14, l14, A15, S15, l15, A16, S16, l16, p17_0, g17_0, g17_1, ck17, A18, S18, l18, p19_0, g19_0, g19_1, g19_2, g19_3, g19_4, g19_5, ck19, A20, S20, l20, A21, S21, l21, A22, S22, l22, A23, S23, l23, A24, S24, l24, R25, R26, p27_0, g27_0, g27_1, ck27, A28, S28, l28, p29_0, g29_0, g29_1, p29_2, g29_2, p29_3, g29_3, p29_4, g29_4, p29_5, g29_5, p29_6, g29_6, p29_7, g29_7, p29_8, g29_8, p29_9, g29_9, g29_10, g29_11, g29_12, g29_13, g29_14, ck29, A30, S30, l30, A31, S31, l31, A32, S32, l32, A33, S33, l33, A34, S34, l34, A35, S35, l35, g36_0, g36_1, g36_2, ck36, A37, S37, l37, A38, S38, l38, A39, S39, l39, g40_0, g40_1, g40_2, g40_3, p40_4, g40_4, ck40, A41, S41, l41, A42, S42, l42, A43, S43, l43, A44, S44, l44, p45_0, g45_0, g45_1, p45_2, g45_2, p45_3, g45_3, p45_4, g45_4, p45_5, g45_5, p45_6, g45_6, p45_7, g45_7, g45_8, g45_9, g45_10, g45_11, g45_12, ck45, A46, S46, l46, A47, S47, l47, A48, S48, l48, A49, S49, l49, A50, S50, l50, A51, S51, l51, B52_0, g52_0, p52_1, g52_1, p52_2, g52_2, g52_3, p52_4, g52_4, ck52, A53, S53, l53, A54, S54, l54, A55, S55, l55, L0, L1, L2, L3, L4, L5, L6, L7, L8, L9, L10, L11, L12, L13, L14, L15, L16, L17, L18, L19, L20, L21, L22, L23, L24, L25, L26, L27, L28, L29, L30, L31, L32, L33, L34, L35, L36, L37, L38, L39, L40, L41, L42, L43, L44, L45, L46, L47, L48, L49, L50, L52, L57, L60, L90, L91, L93, L97, L99, L100, L101, L122, L240, L255, L256, L400, L401, L408, L409, L410, L411, L412, L413, L414, L420, L1000, L1001, L1103, L1200, L1240, L2820, L5220, L7936, L10440, L12345, L1000000, L1000003, L1073741823, nd_lt_t, nd_lt_f, nd_le_t, nd_le_f, nd_eq_f, nZ_add, nZ_mul, nZ_sub, nZ_lt, nZ_le, nZ_eq, nZ_nat, nZ_div, nZ_rem, nZ_and, nZ_or, and31, nZ_shl, nZ_shr, nZ_m1, nZ_nneg, nZ_nneg', nZ_nlt, nZ_ltn, inR_lt, Nat.not_lt_zero, ob_some, jI, jL, jR, jV, rI0, rI1, rIv, if_true, if_false, ↓reduceIte, Nat.reduceAdd, Nat.reduceMul, Nat.reduceSub, Nat.reduceLT, Nat.reduceEqDiff, Nat.reduceLeDiff, Nat.zero_add, Nat.add_zero, Nat.zero_mul, Nat.mul_zero, Nat.one_mul, Nat.mul_one, and_true, true_and, false_and, and_false, or_true, true_or, or_false, false_or, not_true_eq_false, not_false_eq_true, eq_self, bI_0, bI_1, em_b, hI_ne, hI_at, hA_ne, hA_at, Sh_si, Sh_sA]
theorem c146 {h : QH} (H : Sh h) (d L : Nat) (x : Int32) (hL : L + 4 ≤ 400) (e : hI h 27 0 = nZ L) : qcl (d + 1) 146 [qR (some 27), qI x] h = some (none, tk h L x) := by
  have a1 : nZ 24 + -nZ 8 = nZ 16 := by decide
  have a2 : nZ 16 + -nZ 8 = nZ 8 := by decide
  have a3 : nZ 8 + -nZ 8 = nZ 0 := by decide
  have a4 : (nZ 0 + -nZ 8 < nZ 0) = True := by decide
  have s : qcl (d + 1) 146 [qR (some 27), qI x] h = qbig (d + 1) 146 3 [sR (some 27), sI x, sI (nZ 24)] [] h := by
    simp (disch := first | assumption | omega | (simp only [Sh_si, Sh_sA]; assumption)) only [E146, A0, l0, A1, l1, A2, l2, A3, l3, A4, l4, A7, l7, A8, l8, g10_0, g10_1, g10_2, g10_3, g10_4, g10_5, g10_6, g10_7, g10_8, g10_9, p10_10, g10_10, p10_11, g10_11, p10_12, g10_12, p10_13, g10_13, ck10, g11_0, g11_1, g11_2, g11_3, p11_4, g11_4, p11_5, g11_5, ck11, p12_0, g12_0, p12_1, g12_1, g12_2, g12_3, g12_4, g12_5, ck12, A13, S13, l13, A14, S14, l14, A15, S15, l15, A16, S16, l16, p17_0, g17_0, g17_1, ck17, A18, S18, l18, p19_0, g19_0, g19_1, g19_2, g19_3, g19_4, g19_5, ck19, A20, S20, l20, A21, S21, l21, A22, S22, l22, A23, S23, l23, A24, S24, l24, R25, R26, p27_0, g27_0, g27_1, ck27, A28, S28, l28, p29_0, g29_0, g29_1, p29_2, g29_2, p29_3, g29_3, p29_4, g29_4, p29_5, g29_5, p29_6, g29_6, p29_7, g29_7, p29_8, g29_8, p29_9, g29_9, g29_10, g29_11, g29_12, g29_13, g29_14, ck29, A30, S30, l30, A31, S31, l31, A32, S32, l32, A33, S33, l33, A34, S34, l34, A35, S35, l35, g36_0, g36_1, g36_2, ck36, A37, S37, l37, A38, S38, l38, A39, S39, l39, g40_0, g40_1, g40_2, g40_3, p40_4, g40_4, ck40, A41, S41, l41, A42, S42, l42, A43, S43, l43, A44, S44, l44, p45_0, g45_0, g45_1, p45_2, g45_2, p45_3, g45_3, p45_4, g45_4, p45_5, g45_5, p45_6, g45_6, p45_7, g45_7, g45_8, g45_9, g45_10, g45_11, g45_12, ck45, A46, S46, l46, A47, S47, l47, A48, S48, l48, A49, S49, l49, A50, S50, l50, A51, S51, l51, B52_0, g52_0, p52_1, g52_1, p52_2, g52_2, g52_3, p52_4, g52_4, ck52, A53, S53, l53, A54, S54, l54, A55, S55, l55, L0, L1, L2, L3, L4, L5, L6, L7, L8, L9, L10, L11, L12, L13, L14, L15, L16, L17, L18, L19, L20, L21, L22, L23, L24, L25, L26, L27, L28, L29, L30, L31, L32, L33, L34, L35, L36, L37, L38, L39, L40, L41, L42, L43, L44, L45, L46, L47, L48, L49, L50, L52, L57, L60, L90, L91, L93, L97, L99, L100, L101, L122, L240, L255, L256, L400, L401, L408, L409, L410, L411, L412, L413, L414, L420, L1000, L1001, L1103, L1200, L1240, L2820, L5220, L7936, L10440, L12345, L1000000, L1000003, L1073741823, nd_lt_t, nd_lt_f, nd_le_t, nd_le_f, nd_eq_f, nZ_add, nZ_mul, nZ_sub, nZ_lt, nZ_le, nZ_eq, nZ_nat, nZ_div, nZ_rem, nZ_and, nZ_or, and31, nZ_shl, nZ_shr, nZ_m1, nZ_nneg, nZ_nneg', nZ_nlt, nZ_ltn, inR_lt, Nat.not_lt_zero, ob_some, jI, jL, jR, jV, rI0, rI1, rIv, if_true, if_false, ↓reduceIte, Nat.reduceAdd, Nat.reduceMul, Nat.reduceSub, Nat.reduceLT, Nat.reduceEqDiff, Nat.reduceLeDiff, Nat.zero_add, Nat.add_zero, Nat.zero_mul, Nat.mul_zero, Nat.one_mul, Nat.mul_one, and_true, true_and, false_and, and_false, or_true, true_or, or_false, false_or, not_true_eq_false, not_false_eq_true, eq_self, bI_0, bI_1, em_b, hI_ne, hI_at, hA_ne, hA_at, Sh_si, Sh_sA]
  rw [s, c146_s H d L 0 24 x (by omega) e (by decide) (byC_0 x), a1, c146_s (h := hsI (hsI h 28 L (nZ (byt x 0))) 27 0 (nZ (L + 1))) H d (L + 1) 1 16 x (by omega) (hI_at rfl) (by decide) (byC_1 x), a2, c146_s (h := hsI (hsI (hsI (hsI h 28 L (nZ (byt x 0))) 27 0 (nZ (L + 1))) 28 (L + 1) (nZ (byt x 1))) 27 0 (nZ (L + 1 + 1))) H d (L + 1 + 1) 2 8 x (by omega) (hI_at rfl) (by decide) (byC_2 x), a3, c146_s (h := hsI (hsI (hsI (hsI (hsI (hsI h 28 L (nZ (byt x 0))) 27 0 (nZ (L + 1))) 28 (L + 1) (nZ (byt x 1))) 27 0 (nZ (L + 1 + 1))) 28 (L + 1 + 1) (nZ (byt x 2))) 27 0 (nZ (L + 1 + 1 + 1))) H d (L + 1 + 1 + 1) 3 0 x (by omega) (hI_at rfl) (by decide) (byC_3 x), E146_3]
  simp only [L0, a4, if_true]
  refine congrArg some (congrArg (Prod.mk none) ?_)
  unfold tk
  have cm : ∀ (h : QH) (v w : Int32) (j : Nat), hsI (hsI h 27 0 v) 28 j w = hsI (hsI h 28 j w) 27 0 v := fun h v w j => hsI_comm (by decide)
  simp only [cm, hsI_two]
theorem tk_Sh {h : QH} {L : Nat} {x : Int32} (H : Sh h) : Sh (tk h L x) := H
theorem tk_len {h : QH} {L : Nat} {x : Int32} : hI (tk h L x) 27 0 = nZ (L + 4) := hI_at rfl
theorem tk_Fr {h k : QH} {L : Nat} {x : Int32} (F : Fr sC h k) : Fr sC h (tk k L x) := Fr.si rfl (Fr.si rfl (Fr.si rfl (Fr.si rfl (Fr.si rfl F))))
def fv (a b c d e : Int32) (k : Nat) : Int32 := if k = 0 then a else if k = 1 then b else if k = 2 then c else if k = 3 then d else e
def fdT (T : Nat → Nat) (f : Nat → Int32) (j : Nat) : Nat := if j = 400 then T 400 + 20 else if T 400 ≤ j ∧ j < T 400 + 20 then byt (f ((j - T 400) / 4)) ((j - T 400) % 4) else T j
theorem m185_loop {g : QH} (H : Sh g) (d L : Nat) (f : Nat → Int32) (hL : L + 20 ≤ 400) (e : hI g 56 10 = nZ L) (e5 : ∀ k, k < 5 → hI g 63 k = f k) : qbig (d + 1) 185 55 [sR (some 56), none, none, none, none, none, sI (nZ 0)] [] g = some (some (qI (nZ (L + 20))), hsI (hsA g 62 (fun k => if L + 0 ≤ k ∧ k < L + 20 then sB (byt (f ((k - L) / 4)) ((k - L) % 4)) else hI g 62 k)) 56 10 (nZ (L + 20))) := by
  refine loopA (F := fun j h => qbig (d + 1) 185 55 [sR (some 56), none, none, none, none, none, sI (nZ j)] [] h) (G := fun h => some (some (qI (nZ (L + 20))), hsI h 56 10 (nZ (L + 20)))) (a := 62) (n := 20) (c := L) (u := fun k _ => sB (byt (f (k / 4)) (k % 4))) (P := fun h => Sh h ∧ hI h 56 10 = nZ L ∧ ∀ k, k < 5 → hI h 63 k = f k) ?_ ?_ ?_ 0 g (by omega) ⟨H, e, e5⟩
  · intro h i v hp
    exact hp
  · intro i h hi hp
    obtain ⟨H, e, e5⟩ := hp
    show qbig (d + 1) 185 55 [sR (some 56), none, none, none, none, none, sI (nZ i)] [] h = qbig (d + 1) 185 55 [sR (some 56), none, none, none, none, none, sI (nZ (i + 1))] [] (hsI h 62 (L + i) (sB (byt (f (i / 4)) (i % 4))))
    rw [E185_55]
    have z4 : ((4 : Int32) = 0) = False := by decide
    have hm : i - i / 4 * 4 = i % 4 := by omega
    have hb := byM (x := f (i / 4)) (s := 24 - 8 * (i % 4)) (by omega)
    have z40 : (nZ 4 = nZ 0) = False := by decide
    simp (disch := first | assumption | omega | (simp only [Sh_si, Sh_sA]; assumption)) only [e, e5, hm, hb, p56_0, g56_0, p56_1, g56_1, g56_2, g56_3, g56_4, g56_5, p56_6, g56_6, g56_7, g56_8, g56_9, p56_10, g56_10, p56_11, g56_11, g56_12, g56_13, g56_14, p56_15, g56_15, p56_16, g56_16, p56_17, g56_17, p56_18, g56_18, p56_19, g56_19, p56_20, g56_20, B56_21, g56_21, g56_22, g56_23, g56_24, g56_25, g56_26, g56_27, p56_28, g56_28, p56_29, g56_29, p56_30, g56_30, p56_31, g56_31, g56_32, g56_33, g56_34, p56_35, g56_35, p56_36, g56_36, p56_37, g56_37, p56_38, g56_38, g56_39, g56_40, g56_41, p56_42, g56_42, p56_43, g56_43, p56_44, g56_44, ck56, A57, S57, l57, A58, S58, l58, A59, S59, l59, A60, S60, l60, A61, S61, l61, A62, S62, l62, A63, S63, l63, A64, S64, l64, A65, S65, l65, A66, S66, l66, A67, S67, l67, A68, S68, l68, A69, S69, l69, A70, S70, l70, A71, S71, l71, A72, S72, l72, A73, S73, l73, A74, S74, l74, A75, S75, l75, A76, S76, l76, A77, S77, l77, A78, S78, l78, L0, L1, L2, L3, L4, L5, L6, L7, L8, L9, L10, L11, L12, L13, L14, L15, L16, L17, L18, L19, L20, L21, L22, L23, L24, L25, L26, L27, L28, L29, L30, L31, L32, L33, L34, L35, L36, L37, L38, L39, L40, L41, L42, L43, L44, L45, L46, L47, L48, L49, L50, L52, L57, L60, L90, L91, L93, L97, L99, L100, L101, L122, L240, L255, L256, L400, L401, L408, L409, L410, L411, L412, L413, L414, L420, L1000, L1001, L1103, L1200, L1240, L2820, L5220, L7936, L10440, L12345, L1000000, L1000003, L1073741823, nd_lt_t, nd_lt_f, nd_le_t, nd_le_f, nd_eq_f, nZ_add, nZ_mul, nZ_sub, nZ_lt, nZ_le, nZ_eq, nZ_nat, nZ_div, nZ_rem, nZ_and, nZ_or, and31, nZ_shl, nZ_shr, nZ_m1, nZ_nneg, nZ_nneg', nZ_nlt, nZ_ltn, inR_lt, Nat.not_lt_zero, ob_some, jI, jL, jR, jV, rI0, rI1, rIv, if_true, if_false, ↓reduceIte, Nat.reduceAdd, Nat.reduceMul, Nat.reduceSub, Nat.reduceLT, Nat.reduceEqDiff, Nat.reduceLeDiff, Nat.zero_add, Nat.add_zero, Nat.zero_mul, Nat.mul_zero, Nat.one_mul, Nat.mul_one, and_true, true_and, false_and, and_false, or_true, true_or, or_false, false_or, not_true_eq_false, not_false_eq_true, eq_self, bI_0, bI_1, em_b, hI_ne, hI_at, hA_ne, hA_at, Sh_si, Sh_sA]
    rfl
  · intro h hp
    obtain ⟨H, e, e5⟩ := hp
    show qbig (d + 1) 185 55 [sR (some 56), none, none, none, none, none, sI (nZ 20)] [] h = _
    rw [E185_55]
    simp (disch := first | assumption | omega | (simp only [Sh_si, Sh_sA]; assumption)) only [e, p56_0, g56_0, p56_1, g56_1, g56_2, g56_3, g56_4, g56_5, p56_6, g56_6, g56_7, g56_8, g56_9, p56_10, g56_10, p56_11, g56_11, g56_12, g56_13, g56_14, p56_15, g56_15, p56_16, g56_16, p56_17, g56_17, p56_18, g56_18, p56_19, g56_19, p56_20, g56_20, B56_21, g56_21, g56_22, g56_23, g56_24, g56_25, g56_26, g56_27, p56_28, g56_28, p56_29, g56_29, p56_30, g56_30, p56_31, g56_31, g56_32, g56_33, g56_34, p56_35, g56_35, p56_36, g56_36, p56_37, g56_37, p56_38, g56_38, g56_39, g56_40, g56_41, p56_42, g56_42, p56_43, g56_43, p56_44, g56_44, ck56, A57, S57, l57, A58, S58, l58, A59, S59, l59, A60, S60, l60, A61, S61, l61, A62, S62, l62, A63, S63, l63, A64, S64, l64, A65, S65, l65, A66, S66, l66, A67, S67, l67, A68, S68, l68, A69, S69, l69, A70, S70, l70, A71, S71, l71, A72, S72, l72, A73, S73, l73, A74, S74, l74, A75, S75, l75, A76, S76, l76, A77, S77, l77, A78, S78, l78, L0, L1, L2, L3, L4, L5, L6, L7, L8, L9, L10, L11, L12, L13, L14, L15, L16, L17, L18, L19, L20, L21, L22, L23, L24, L25, L26, L27, L28, L29, L30, L31, L32, L33, L34, L35, L36, L37, L38, L39, L40, L41, L42, L43, L44, L45, L46, L47, L48, L49, L50, L52, L57, L60, L90, L91, L93, L97, L99, L100, L101, L122, L240, L255, L256, L400, L401, L408, L409, L410, L411, L412, L413, L414, L420, L1000, L1001, L1103, L1200, L1240, L2820, L5220, L7936, L10440, L12345, L1000000, L1000003, L1073741823, nd_lt_t, nd_lt_f, nd_le_t, nd_le_f, nd_eq_f, nZ_add, nZ_mul, nZ_sub, nZ_lt, nZ_le, nZ_eq, nZ_nat, nZ_div, nZ_rem, nZ_and, nZ_or, and31, nZ_shl, nZ_shr, nZ_m1, nZ_nneg, nZ_nneg', nZ_nlt, nZ_ltn, inR_lt, Nat.not_lt_zero, ob_some, jI, jL, jR, jV, rI0, rI1, rIv, if_true, if_false, ↓reduceIte, Nat.reduceAdd, Nat.reduceMul, Nat.reduceSub, Nat.reduceLT, Nat.reduceEqDiff, Nat.reduceLeDiff, Nat.zero_add, Nat.add_zero, Nat.zero_mul, Nat.mul_zero, Nat.one_mul, Nat.mul_one, and_true, true_and, false_and, and_false, or_true, true_or, or_false, false_or, not_true_eq_false, not_false_eq_true, eq_self, bI_0, bI_1, em_b, hI_ne, hI_at, hA_ne, hA_at, Sh_si, Sh_sA]
theorem tk_28 {h : QH} {L : Nat} {x : Int32} {j : Nat} : hI (tk h L x) 28 j = if L ≤ j ∧ j < L + 4 then nZ (byt x (j - L)) else hI h 28 j := by
  unfold tk
  by_cases hj : L ≤ j ∧ j < L + 4
  · rw [if_pos hj, hI_ne (by omega)]
    have : j = L ∨ j = L + 1 ∨ j = L + 2 ∨ j = L + 3 := by omega
    rcases this with e | e | e | e
    · rw [hI_ne (by omega), hI_ne (by omega), hI_ne (by omega), hI_at e, show j - L = 0 by omega]
    · rw [hI_ne (by omega), hI_ne (by omega), hI_at e, show j - L = 1 by omega]
    · rw [hI_ne (by omega), hI_at e, show j - L = 2 by omega]
    · rw [hI_at e, show j - L = 3 by omega]
  · rw [if_neg hj, hI_ne (by omega), hI_ne (by omega), hI_ne (by omega), hI_ne (by omega), hI_ne (by omega)]
theorem tk_ne {h : QH} {L : Nat} {x : Int32} {b j : Nat} (h1 : b ≠ 27) (h2 : b ≠ 28) : hI (tk h L x) b j = hI h b j := by
  unfold tk
  rw [hI_ne (Or.inl h1), hI_ne (Or.inl h2), hI_ne (Or.inl h2), hI_ne (Or.inl h2), hI_ne (Or.inl h2)]
/-- one take -/
theorem c146_e {h : QH} (H : Sh h) (d L : Nat) (x : Int32) (hL : L + 4 ≤ 400) (e : hI h 27 0 = nZ L) : ∃ g, qcl (d + 1) 146 [qR (some 27), qI x] h = some (none, g) ∧ Fr sC h g ∧ hI g 27 0 = nZ (L + 4) ∧ (∀ j, hI g 28 j = if L ≤ j ∧ j < L + 4 then nZ (byt x (j - L)) else hI h 28 j) ∧ ∀ b j, b ≠ 27 → b ≠ 28 → hI g b j = hI h b j := ⟨tk h L x, c146 H d L x hL e, tk_Fr Fr.refl, tk_len, fun _ => tk_28, fun _ _ => tk_ne⟩
theorem c25_e {h : QH} (H : Sh h) (d L : Nat) (a1 a2 a3 a4 a5 : Int32) (hL : L + 20 ≤ 400) (e : hI h 27 0 = nZ L) : ∃ g, qcl (d + 20) 25 [qR (some 10), qI a1, qI a2, qI a3, qI a4, qI a5] h = some (some (qI (nZ (L + 20))), g) ∧ Fr sC h g ∧ hI g 27 0 = nZ (L + 20) ∧ (∀ j, hI g 28 j = if L ≤ j ∧ j < L + 20 then nZ (byt (fv a1 a2 a3 a4 a5 ((j - L) / 4)) ((j - L) % 4)) else hI h 28 j) ∧ ∀ b j, b ≠ 27 → b ≠ 28 → hI g b j = hI h b j := by
  obtain ⟨g1, q1, F1, e1, r1, n1⟩ := c146_e H (d + 18) L a1 (by omega) e
  have H1 := F1.Sh H
  obtain ⟨g2, q2, F2, e2, r2, n2⟩ := c146_e H1 (d + 18) (L + 4) a2 (by omega) e1
  have H2 := F2.Sh H1
  obtain ⟨g3, q3, F3, e3, r3, n3⟩ := c146_e H2 (d + 18) (L + 4 + 4) a3 (by omega) e2
  have H3 := F3.Sh H2
  obtain ⟨g4, q4, F4, e4, r4, n4⟩ := c146_e H3 (d + 18) (L + 4 + 4 + 4) a4 (by omega) e3
  have H4 := F4.Sh H3
  obtain ⟨g5, q5, F5, e5, r5, n5⟩ := c146_e H4 (d + 18) (L + 4 + 4 + 4 + 4) a5 (by omega) e4
  have H5 := F5.Sh H4
  have e6 : hI g5 27 0 = nZ (L + 20) := e5
  refine ⟨g5, ?_, F1.trans (F2.trans (F3.trans (F4.trans F5))), e6, ?_, ?_⟩
  · simp (disch := first | assumption | omega | (simp only [Sh_si, Sh_sA]; assumption)) only [E25, e, q1, q2, q3, q4, q5, e6, A0, l0, A1, l1, A2, l2, A3, l3, A4, l4, A7, l7, A8, l8, g10_0, g10_1, g10_2, g10_3, g10_4, g10_5, g10_6, g10_7, g10_8, g10_9, p10_10, g10_10, p10_11, g10_11, p10_12, g10_12, p10_13, g10_13, ck10, g11_0, g11_1, g11_2, g11_3, p11_4, g11_4, p11_5, g11_5, ck11, p12_0, g12_0, p12_1, g12_1, g12_2, g12_3, g12_4, g12_5, ck12, A13, S13, l13, A14, S14, l14, A15, S15, l15, A16, S16, l16, p17_0, g17_0, g17_1, ck17, A18, S18, l18, p19_0, g19_0, g19_1, g19_2, g19_3, g19_4, g19_5, ck19, A20, S20, l20, A21, S21, l21, A22, S22, l22, A23, S23, l23, A24, S24, l24, R25, R26, p27_0, g27_0, g27_1, ck27, A28, S28, l28, p29_0, g29_0, g29_1, p29_2, g29_2, p29_3, g29_3, p29_4, g29_4, p29_5, g29_5, p29_6, g29_6, p29_7, g29_7, p29_8, g29_8, p29_9, g29_9, g29_10, g29_11, g29_12, g29_13, g29_14, ck29, A30, S30, l30, A31, S31, l31, A32, S32, l32, A33, S33, l33, A34, S34, l34, A35, S35, l35, g36_0, g36_1, g36_2, ck36, A37, S37, l37, A38, S38, l38, A39, S39, l39, g40_0, g40_1, g40_2, g40_3, p40_4, g40_4, ck40, A41, S41, l41, A42, S42, l42, A43, S43, l43, A44, S44, l44, p45_0, g45_0, g45_1, p45_2, g45_2, p45_3, g45_3, p45_4, g45_4, p45_5, g45_5, p45_6, g45_6, p45_7, g45_7, g45_8, g45_9, g45_10, g45_11, g45_12, ck45, A46, S46, l46, A47, S47, l47, A48, S48, l48, A49, S49, l49, A50, S50, l50, A51, S51, l51, B52_0, g52_0, p52_1, g52_1, p52_2, g52_2, g52_3, p52_4, g52_4, ck52, A53, S53, l53, A54, S54, l54, A55, S55, l55, L0, L1, L2, L3, L4, L5, L6, L7, L8, L9, L10, L11, L12, L13, L14, L15, L16, L17, L18, L19, L20, L21, L22, L23, L24, L25, L26, L27, L28, L29, L30, L31, L32, L33, L34, L35, L36, L37, L38, L39, L40, L41, L42, L43, L44, L45, L46, L47, L48, L49, L50, L52, L57, L60, L90, L91, L93, L97, L99, L100, L101, L122, L240, L255, L256, L400, L401, L408, L409, L410, L411, L412, L413, L414, L420, L1000, L1001, L1103, L1200, L1240, L2820, L5220, L7936, L10440, L12345, L1000000, L1000003, L1073741823, nd_lt_t, nd_lt_f, nd_le_t, nd_le_f, nd_eq_f, nZ_add, nZ_mul, nZ_sub, nZ_lt, nZ_le, nZ_eq, nZ_nat, nZ_div, nZ_rem, nZ_and, nZ_or, and31, nZ_shl, nZ_shr, nZ_m1, nZ_nneg, nZ_nneg', nZ_nlt, nZ_ltn, inR_lt, Nat.not_lt_zero, ob_some, jI, jL, jR, jV, rI0, rI1, rIv, if_true, if_false, ↓reduceIte, Nat.reduceAdd, Nat.reduceMul, Nat.reduceSub, Nat.reduceLT, Nat.reduceEqDiff, Nat.reduceLeDiff, Nat.zero_add, Nat.add_zero, Nat.zero_mul, Nat.mul_zero, Nat.one_mul, Nat.mul_one, and_true, true_and, false_and, and_false, or_true, true_or, or_false, false_or, not_true_eq_false, not_false_eq_true, eq_self, bI_0, bI_1, em_b, hI_ne, hI_at, hA_ne, hA_at, Sh_si, Sh_sA]
  · intro j
    rw [r5, r4, r3, r2, r1]
    by_cases hj : L ≤ j ∧ j < L + 20
    · rw [if_pos hj]
      obtain ⟨i, rfl⟩ : ∃ i, j = L + i := ⟨j - L, by omega⟩
      rw [show L + i - L = i by omega]
      by_cases h5 : 16 ≤ i
      · rw [if_pos (by omega)]
        unfold fv
        rw [if_neg (by omega), if_neg (by omega), if_neg (by omega), if_neg (by omega), show L + i - (L + 4 + 4 + 4 + 4) = i % 4 by omega]
      · rw [if_neg (by omega)]
        by_cases h4 : 12 ≤ i
        · rw [if_pos (by omega)]
          unfold fv
          rw [if_neg (by omega), if_neg (by omega), if_neg (by omega), if_pos (by omega), show L + i - (L + 4 + 4 + 4) = i % 4 by omega]
        · rw [if_neg (by omega)]
          by_cases h3 : 8 ≤ i
          · rw [if_pos (by omega)]
            unfold fv
            rw [if_neg (by omega), if_neg (by omega), if_pos (by omega), show L + i - (L + 4 + 4) = i % 4 by omega]
          · rw [if_neg (by omega)]
            by_cases h2 : 4 ≤ i
            · rw [if_pos (by omega)]
              unfold fv
              rw [if_neg (by omega), if_pos (by omega), show L + i - (L + 4) = i % 4 by omega]
            · rw [if_neg (by omega), if_pos (by omega)]
              unfold fv
              rw [if_pos (by omega), show i % 4 = i by omega]
    · rw [if_neg (by omega), if_neg (by omega), if_neg (by omega), if_neg (by omega), if_neg (by omega), if_neg hj]
  · intro b j h1 h2
    rw [n5 b j h1 h2, n4 b j h1 h2, n3 b j h1 h2, n2 b j h1 h2, n1 b j h1 h2]
theorem m185_e {g : QH} (H : Sh g) (d L : Nat) (a1 a2 a3 a4 a5 : Int32) (hL : L + 20 ≤ 400) (e10 : hI g 56 10 = nZ L) : ∃ k, qcl (d + 20) 185 [qR (some 56), qI a1, qI a2, qI a3, qI a4, qI a5] g = some (some (qI (nZ (L + 20))), k) ∧ Fr sC g k ∧ hI k 56 10 = nZ (L + 20) ∧ (∀ j, hI k 62 j = if L ≤ j ∧ j < L + 20 then sB (byt (fv a1 a2 a3 a4 a5 ((j - L) / 4)) ((j - L) % 4)) else hI g 62 j) ∧ ∀ b j, b ≠ 62 → b ≠ 63 → b ≠ 56 ∨ j ≠ 10 → hI k b j = hI g b j := by
  obtain ⟨g1, hg1⟩ : ∃ g1, g1 = hsI (hsI (hsI (hsI (hsI g 63 0 a1) 63 1 a2) 63 2 a3) 63 3 a4) 63 4 a5 := ⟨_, rfl⟩
  have F1 : Fr sC g g1 := by
    rw [hg1]
    exact (Fr.si rfl (Fr.si rfl (Fr.si rfl (Fr.si rfl (Fr.si rfl Fr.refl)))))
  have nb : ∀ b j, b ≠ 63 → hI g1 b j = hI g b j := by
    intro b j hb
    rw [hg1, hI_ne (Or.inl hb), hI_ne (Or.inl hb), hI_ne (Or.inl hb), hI_ne (Or.inl hb), hI_ne (Or.inl hb)]
  have e5 : ∀ k, k < 5 → hI g1 63 k = fv a1 a2 a3 a4 a5 k := by
    intro k hk
    have : k = 0 ∨ k = 1 ∨ k = 2 ∨ k = 3 ∨ k = 4 := by omega
    rw [hg1]
    rcases this with e | e | e | e | e <;> subst e <;> simp (disch := omega) only [hI_ne, hI_at] <;> rfl
  have hq : qcl (d + 20) 185 [qR (some 56), qI a1, qI a2, qI a3, qI a4, qI a5] g = qbig (d + 20) 185 55 [sR (some 56), none, none, none, none, none, sI (nZ 0)] [] g1 := by
    rw [hg1]
    simp (disch := first | assumption | omega | (simp only [Sh_si, Sh_sA]; assumption)) only [E185, e10, p56_0, g56_0, p56_1, g56_1, g56_2, g56_3, g56_4, g56_5, p56_6, g56_6, g56_7, g56_8, g56_9, p56_10, g56_10, p56_11, g56_11, g56_12, g56_13, g56_14, p56_15, g56_15, p56_16, g56_16, p56_17, g56_17, p56_18, g56_18, p56_19, g56_19, p56_20, g56_20, B56_21, g56_21, g56_22, g56_23, g56_24, g56_25, g56_26, g56_27, p56_28, g56_28, p56_29, g56_29, p56_30, g56_30, p56_31, g56_31, g56_32, g56_33, g56_34, p56_35, g56_35, p56_36, g56_36, p56_37, g56_37, p56_38, g56_38, g56_39, g56_40, g56_41, p56_42, g56_42, p56_43, g56_43, p56_44, g56_44, ck56, A57, S57, l57, A58, S58, l58, A59, S59, l59, A60, S60, l60, A61, S61, l61, A62, S62, l62, A63, S63, l63, A64, S64, l64, A65, S65, l65, A66, S66, l66, A67, S67, l67, A68, S68, l68, A69, S69, l69, A70, S70, l70, A71, S71, l71, A72, S72, l72, A73, S73, l73, A74, S74, l74, A75, S75, l75, A76, S76, l76, A77, S77, l77, A78, S78, l78, L0, L1, L2, L3, L4, L5, L6, L7, L8, L9, L10, L11, L12, L13, L14, L15, L16, L17, L18, L19, L20, L21, L22, L23, L24, L25, L26, L27, L28, L29, L30, L31, L32, L33, L34, L35, L36, L37, L38, L39, L40, L41, L42, L43, L44, L45, L46, L47, L48, L49, L50, L52, L57, L60, L90, L91, L93, L97, L99, L100, L101, L122, L240, L255, L256, L400, L401, L408, L409, L410, L411, L412, L413, L414, L420, L1000, L1001, L1103, L1200, L1240, L2820, L5220, L7936, L10440, L12345, L1000000, L1000003, L1073741823, nd_lt_t, nd_lt_f, nd_le_t, nd_le_f, nd_eq_f, nZ_add, nZ_mul, nZ_sub, nZ_lt, nZ_le, nZ_eq, nZ_nat, nZ_div, nZ_rem, nZ_and, nZ_or, and31, nZ_shl, nZ_shr, nZ_m1, nZ_nneg, nZ_nneg', nZ_nlt, nZ_ltn, inR_lt, Nat.not_lt_zero, ob_some, jI, jL, jR, jV, rI0, rI1, rIv, if_true, if_false, ↓reduceIte, Nat.reduceAdd, Nat.reduceMul, Nat.reduceSub, Nat.reduceLT, Nat.reduceEqDiff, Nat.reduceLeDiff, Nat.zero_add, Nat.add_zero, Nat.zero_mul, Nat.mul_zero, Nat.one_mul, Nat.mul_one, and_true, true_and, false_and, and_false, or_true, true_or, or_false, false_or, not_true_eq_false, not_false_eq_true, eq_self, bI_0, bI_1, em_b, hI_ne, hI_at, hA_ne, hA_at, Sh_si, Sh_sA]
  have H1 := F1.Sh H
  have lp := m185_loop H1 (d + 19) L (fv a1 a2 a3 a4 a5) hL ((nb 56 10 (by decide)).trans e10) e5
  refine ⟨_, hq.trans lp, Fr.si rfl (Fr.sA (fun _ => rfl) F1), hI_at rfl, ?_, ?_⟩
  · intro j
    rw [hI_ne (by omega), hA_at]
    by_cases hj : L ≤ j ∧ j < L + 20
    · rw [if_pos (by omega), if_pos hj]
    · rw [if_neg (by omega), if_neg hj]
      exact nb 62 j (by decide)
  · intro b j h1 h2 h3
    rw [hI_ne h3, hA_ne h1]
    exact nb b j h2
theorem op_feed {h : QH} {W : Nat → Nat} {c : Nat} {T : Nat → Nat} (K : K0 h W c T) (d : Nat) (a1 a2 a3 a4 a5 : Int32) : Op (d + 20) 25 185 [qI a1, qI a2, qI a3, qI a4, qI a5] h (fun k => Sim h k W c T) := by
  have H := K.sh
  obtain ⟨t1, t2, t3, t4⟩ := K.kt
  by_cases hx : T 400 + 20 ≤ 400
  · generalize hL : T 400 = L at *
    obtain ⟨g, hc, F1, e27, hr, nb⟩ := c25_e H d L a1 a2 a3 a4 a5 hx t2
    have Hg := F1.Sh H
    have e10 : hI g 56 10 = nZ L := by
      rw [nb 56 10 (by decide) (by decide), t3]
    obtain ⟨k, hm, F2, n10, hr2, nd⟩ := m185_e Hg d L a1 a2 a3 a4 a5 hx e10
    have F := F1.trans F2
    have nc : ∀ b j, b ≠ 27 → b ≠ 28 → b ≠ 62 → b ≠ 63 → b ≠ 56 ∨ j ≠ 10 → hI k b j = hI h b j := by
      intro b j h1 h2 h3 h4 h5
      rw [nd b j h3 h4 h5, nb b j h1 h2]
    have n27 : hI k 27 0 = nZ (L + 20) := by
      rw [nd 27 0 (by decide) (by decide) (by decide), e27]
    have n28 : ∀ j, hI k 28 j = if L ≤ j ∧ j < L + 20 then nZ (byt (fv a1 a2 a3 a4 a5 ((j - L) / 4)) ((j - L) % 4)) else hI h 28 j := by
      intro j
      rw [nd 28 j (by decide) (by decide) (by omega), hr]
    have n62 : ∀ j, hI k 62 j = if L ≤ j ∧ j < L + 20 then sB (byt (fv a1 a2 a3 a4 a5 ((j - L) / 4)) ((j - L) % 4)) else hI h 62 j := by
      intro j
      rw [hr2, nb 62 j (by decide) (by decide)]
    refine ⟨nZ (L + 20), g, k, hc, hm, W, c, fdT T (fv a1 a2 a3 a4 a5), ⟨F.Sh K.sh, F.Ro sC_lo K.ro, K.wi, K.mk.of (fun j => nc 58 j (by decide) (by decide) (by decide) (by decide) (by omega)), ⟨K.cp.of (fun i j h1 h2 => nc _ j (by omega) (by omega) (by omega) (by omega) (by omega)), K.ca.of (fun i j h1 h2 => nc _ j (by omega) (by omega) (by omega) (by omega) (by omega)), K.cs.of (fun i j h1 h2 => nc _ j (by omega) (by omega) (by omega) (by omega) (by omega)), K.cf.of (fun j => nc _ j (by decide) (by decide) (by decide) (by decide) (by omega))⟩, ⟨(nc _ _ (by decide) (by decide) (by decide) (by decide) (by omega)).trans K.ch, (nc _ _ (by decide) (by decide) (by decide) (by decide) (by omega)).trans K.vs⟩, ?_, ?_⟩, F, fun j _ => rfl, rfl, Or.inl ⟨rfl, rfl⟩⟩
    · have M := K.km
      unfold KM
      rw [nc 10 11 (by decide) (by decide) (by decide) (by decide) (by omega), nc 10 12 (by decide) (by decide) (by decide) (by decide) (by omega), nc 10 13 (by decide) (by decide) (by decide) (by decide) (by omega), nc 56 0 (by decide) (by decide) (by decide) (by decide) (by omega), nc 56 6 (by decide) (by decide) (by decide) (by decide) (by omega), nc 56 11 (by decide) (by decide) (by decide) (by decide) (by omega)]
      simp only [nc 54 _ (by decide) (by decide) (by decide) (by decide) (Or.inl (by decide)), nc 57 _ (by decide) (by decide) (by decide) (by decide) (Or.inl (by decide))]
      exact M
    · unfold KT
      have e400 : fdT T (fv a1 a2 a3 a4 a5) 400 = L + 20 := by
        unfold fdT
        rw [if_pos rfl, hL]
      rw [e400]
      refine ⟨hx, n27, n10, ?_⟩
      intro i hi
      rw [n28, n62]
      unfold fdT
      rw [if_neg (by omega), hL]
      by_cases hj : L ≤ i ∧ i < L + 20
      · rw [if_pos hj, if_pos hj, if_pos hj]
        exact ⟨byt_lt _ _, rfl, rfl⟩
      · rw [if_neg hj, if_neg hj, if_neg hj]
        exact t4 i hi
  · refine ⟨-nZ 1, h, h, ?_, ?_, Sim_id K⟩
    · simp (disch := first | assumption | omega | (simp only [Sh_si, Sh_sA]; assumption)) only [E25, t2, A0, l0, A1, l1, A2, l2, A3, l3, A4, l4, A7, l7, A8, l8, g10_0, g10_1, g10_2, g10_3, g10_4, g10_5, g10_6, g10_7, g10_8, g10_9, p10_10, g10_10, p10_11, g10_11, p10_12, g10_12, p10_13, g10_13, ck10, g11_0, g11_1, g11_2, g11_3, p11_4, g11_4, p11_5, g11_5, ck11, p12_0, g12_0, p12_1, g12_1, g12_2, g12_3, g12_4, g12_5, ck12, A13, S13, l13, A14, S14, l14, A15, S15, l15, A16, S16, l16, p17_0, g17_0, g17_1, ck17, A18, S18, l18, p19_0, g19_0, g19_1, g19_2, g19_3, g19_4, g19_5, ck19, A20, S20, l20, A21, S21, l21, A22, S22, l22, A23, S23, l23, A24, S24, l24, R25, R26, p27_0, g27_0, g27_1, ck27, A28, S28, l28, p29_0, g29_0, g29_1, p29_2, g29_2, p29_3, g29_3, p29_4, g29_4, p29_5, g29_5, p29_6, g29_6, p29_7, g29_7, p29_8, g29_8, p29_9, g29_9, g29_10, g29_11, g29_12, g29_13, g29_14, ck29, A30, S30, l30, A31, S31, l31, A32, S32, l32, A33, S33, l33, A34, S34, l34, A35, S35, l35, g36_0, g36_1, g36_2, ck36, A37, S37, l37, A38, S38, l38, A39, S39, l39, g40_0, g40_1, g40_2, g40_3, p40_4, g40_4, ck40, A41, S41, l41, A42, S42, l42, A43, S43, l43, A44, S44, l44, p45_0, g45_0, g45_1, p45_2, g45_2, p45_3, g45_3, p45_4, g45_4, p45_5, g45_5, p45_6, g45_6, p45_7, g45_7, g45_8, g45_9, g45_10, g45_11, g45_12, ck45, A46, S46, l46, A47, S47, l47, A48, S48, l48, A49, S49, l49, A50, S50, l50, A51, S51, l51, B52_0, g52_0, p52_1, g52_1, p52_2, g52_2, g52_3, p52_4, g52_4, ck52, A53, S53, l53, A54, S54, l54, A55, S55, l55, k79 K, k80 K, k72 K, k128 K, k161 K, k88 K, k71 K, k82 K, k76 K, k67 K, k85 K, c10, c18, c21, c43_1, c43_2, c43_3, c43_5, c43_6, L0, L1, L2, L3, L4, L5, L6, L7, L8, L9, L10, L11, L12, L13, L14, L15, L16, L17, L18, L19, L20, L21, L22, L23, L24, L25, L26, L27, L28, L29, L30, L31, L32, L33, L34, L35, L36, L37, L38, L39, L40, L41, L42, L43, L44, L45, L46, L47, L48, L49, L50, L52, L57, L60, L90, L91, L93, L97, L99, L100, L101, L122, L240, L255, L256, L400, L401, L408, L409, L410, L411, L412, L413, L414, L420, L1000, L1001, L1103, L1200, L1240, L2820, L5220, L7936, L10440, L12345, L1000000, L1000003, L1073741823, nd_lt_t, nd_lt_f, nd_le_t, nd_le_f, nd_eq_f, nZ_add, nZ_mul, nZ_sub, nZ_lt, nZ_le, nZ_eq, nZ_nat, nZ_div, nZ_rem, nZ_and, nZ_or, and31, nZ_shl, nZ_shr, nZ_m1, nZ_nneg, nZ_nneg', nZ_nlt, nZ_ltn, inR_lt, Nat.not_lt_zero, ob_some, jI, jL, jR, jV, rI0, rI1, rIv, if_true, if_false, ↓reduceIte, Nat.reduceAdd, Nat.reduceMul, Nat.reduceSub, Nat.reduceLT, Nat.reduceEqDiff, Nat.reduceLeDiff, Nat.zero_add, Nat.add_zero, Nat.zero_mul, Nat.mul_zero, Nat.one_mul, Nat.mul_one, and_true, true_and, false_and, and_false, or_true, true_or, or_false, false_or, not_true_eq_false, not_false_eq_true, eq_self, bI_0, bI_1, em_b, hI_ne, hI_at, hA_ne, hA_at, Sh_si, Sh_sA]
    · have M1 : MM h W := ⟨K.sh, K.mk, K.wi⟩
      have H1 : Sh h := K.sh
      simp (disch := first | assumption | omega | (simp only [Sh_si, Sh_sA]; assumption)) only [E185, t3, p56_0, g56_0, p56_1, g56_1, g56_2, g56_3, g56_4, g56_5, p56_6, g56_6, g56_7, g56_8, g56_9, p56_10, g56_10, p56_11, g56_11, g56_12, g56_13, g56_14, p56_15, g56_15, p56_16, g56_16, p56_17, g56_17, p56_18, g56_18, p56_19, g56_19, p56_20, g56_20, B56_21, g56_21, g56_22, g56_23, g56_24, g56_25, g56_26, g56_27, p56_28, g56_28, p56_29, g56_29, p56_30, g56_30, p56_31, g56_31, g56_32, g56_33, g56_34, p56_35, g56_35, p56_36, g56_36, p56_37, g56_37, p56_38, g56_38, g56_39, g56_40, g56_41, p56_42, g56_42, p56_43, g56_43, p56_44, g56_44, ck56, A57, S57, l57, A58, S58, l58, A59, S59, l59, A60, S60, l60, A61, S61, l61, A62, S62, l62, A63, S63, l63, A64, S64, l64, A65, S65, l65, A66, S66, l66, A67, S67, l67, A68, S68, l68, A69, S69, l69, A70, S70, l70, A71, S71, l71, A72, S72, l72, A73, S73, l73, A74, S74, l74, A75, S75, l75, A76, S76, l76, A77, S77, l77, A78, S78, l78, n232 M1, n169 M1, n203 M1, n200 M1, n227 M1, n168 M1, n212 M1, n250 M1, n223 M1, n201 M1, n245 M1, m190, m218, m218', m196, m244_1, m244_2, m244_3, m244_5, m244_6, m217, m191, L0, L1, L2, L3, L4, L5, L6, L7, L8, L9, L10, L11, L12, L13, L14, L15, L16, L17, L18, L19, L20, L21, L22, L23, L24, L25, L26, L27, L28, L29, L30, L31, L32, L33, L34, L35, L36, L37, L38, L39, L40, L41, L42, L43, L44, L45, L46, L47, L48, L49, L50, L52, L57, L60, L90, L91, L93, L97, L99, L100, L101, L122, L240, L255, L256, L400, L401, L408, L409, L410, L411, L412, L413, L414, L420, L1000, L1001, L1103, L1200, L1240, L2820, L5220, L7936, L10440, L12345, L1000000, L1000003, L1073741823, nd_lt_t, nd_lt_f, nd_le_t, nd_le_f, nd_eq_f, nZ_add, nZ_mul, nZ_sub, nZ_lt, nZ_le, nZ_eq, nZ_nat, nZ_div, nZ_rem, nZ_and, nZ_or, and31, nZ_shl, nZ_shr, nZ_m1, nZ_nneg, nZ_nneg', nZ_nlt, nZ_ltn, inR_lt, Nat.not_lt_zero, ob_some, jI, jL, jR, jV, rI0, rI1, rIv, if_true, if_false, ↓reduceIte, Nat.reduceAdd, Nat.reduceMul, Nat.reduceSub, Nat.reduceLT, Nat.reduceEqDiff, Nat.reduceLeDiff, Nat.zero_add, Nat.add_zero, Nat.zero_mul, Nat.mul_zero, Nat.one_mul, Nat.mul_one, and_true, true_and, false_and, and_false, or_true, true_or, or_false, false_or, not_true_eq_false, not_false_eq_true, eq_self, bI_0, bI_1, em_b, hI_ne, hI_at, hA_ne, hA_at, Sh_si, Sh_sA]

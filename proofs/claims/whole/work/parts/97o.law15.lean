/-! ===== the law in force, asked by both ===== -/
/-- the law t of the picture was read as L -/
def LRW (W : Nat → Nat) (t : Nat) (L : List CL) : Prop := W (414 + t) ≤ 400 ∧ RL (fun j => W (420 + 400 * t + j)) (fun j => W (2820 + 400 * t + j)) (W (414 + t)) 12 0 0 0 = .inr L ∧ ∀ j, j < W (414 + t) → W (420 + 400 * t + j) < 1000 ∧ W (2820 + 400 * t + j) < 2147483648
theorem LRW.lr {W : Nat → Nat} {t : Nat} {L : List CL} (h : LRW W t L) : LR L := ⟨_, _, _, h.1, h.2.1⟩
theorem LRW.w {W V : Nat → Nat} {t : Nat} {L : List CL} (h : LRW W t L) (e : ∀ j, 414 ≤ j → V j = W j) : LRW V t L := by
  unfold LRW
  rw [e (414 + t) (by omega)]
  have e1 : (fun j => V (420 + 400 * t + j)) = (fun j => W (420 + 400 * t + j)) := funext fun j => e _ (by omega)
  have e2 : (fun j => V (2820 + 400 * t + j)) = (fun j => W (2820 + 400 * t + j)) := funext fun j => e _ (by omega)
  rw [e1, e2]
  refine ⟨h.1, h.2.1, ?_⟩
  intro j hj
  rw [e _ (by omega), e _ (by omega)]
  exact h.2.2 j hj
/-- the law in force: by the picture; in the class (r: its object) -/
def LFM (W : Nat → Nat) (o : Option (List CL)) : Prop := (W 413 = 0 ∧ o = none) ∨ ∃ L, (1 ≤ W 413 ∧ W 413 ≤ 6) ∧ o = some L ∧ LRW W (W 413 - 1) L
def LFC (h : QH) (W : Nat → Nat) (o : Option (List CL)) (r : Option Nat) : Prop := (W 413 = 0 ∧ o = none ∧ r = none) ∨ ∃ L a, (1 ≤ W 413 ∧ W 413 ≤ W 411 ∧ W 411 ≤ 6) ∧ o = some L ∧ r = some a ∧ LR L ∧ hR h 25 (W 413 - 1) = some a ∧ LO h a L
/-- told by a head -/
def tw (o : Option (List CL)) (hd : Nat) (q : Nat → Nat) (w : Nat) : Nat := match o with
  | none => w
  | some L => tv L hd (toLo hd) (toHi hd) (fun i => q i) w
theorem tv_le {L : List CL} {hd lo hi w M : Nat} {q : Nat → Int} (h1 : lo ≤ hi) (h2 : hi ≤ M) (h3 : w ≤ M) : tv L hd lo hi q w ≤ M := by
  unfold tv
  induction L generalizing w with
  | nil => exact h3
  | cons c L ih =>
    rw [List.foldl_cons]
    refine ih ?_
    unfold tv1
    split
    · cases hol c q with
      | none => exact h3
      | some x =>
        have := (clampN_le (x := x) h1).2
        show clampN lo hi x ≤ M
        omega
    · exact h3
theorem tw_le {o : Option (List CL)} {hd w M : Nat} {q : Nat → Nat} (h2 : toHi hd ≤ M) (h3 : w ≤ M) : tw o hd q w ≤ M := by
  cases o with
  | none => exact h3
  | some L => exact tv_le toLH.1 h2 h3
theorem tv_ge {L : List CL} {hd lo hi w m : Nat} {q : Nat → Int} (h1 : lo ≤ hi) (h2 : m ≤ lo) (h3 : m ≤ w) : m ≤ tv L hd lo hi q w := by
  unfold tv
  induction L generalizing w with
  | nil => exact h3
  | cons c L ih =>
    rw [List.foldl_cons]
    refine ih ?_
    unfold tv1
    split
    · cases hol c q with
      | none => exact h3
      | some x =>
        have := (clampN_le (x := x) h1).1
        show m ≤ clampN lo hi x
        omega
    · exact h3
theorem tw_ge {o : Option (List CL)} {hd w m : Nat} {q : Nat → Nat} (h2 : m ≤ toLo hd) (h3 : m ≤ w) : m ≤ tw o hd q w := by
  cases o with
  | none => exact h3
  | some L => exact tv_ge toLH.1 h2 h3
/-- places that the reference's asking changes -/
def fQ (b j : Nat) : Bool := (match b with
  | 56 => (match j with
    | 19 => true | 20 => true | 21 => true | _ => false)
  | 67 => true
  | _ => false)
theorem nZ_sur (x : Int32) : ∃ n, x = nZ n := ⟨x.toBitVec.toNat, by
  apply Int32.toBitVec.inj
  show x.toBitVec = BitVec.ofNat 32 x.toBitVec.toNat
  simp⟩
theorem Fr_ev {h k : QH} {o g b : Nat} (F : Fr fQ h k) : Fr fQ h (ev k o g b) := Fr.si rfl (Fr.si rfl F)
theorem m271 {h : QH} {W : Nat → Nat} {o : Option (List CL)} {q : Nat → Nat} (H : Sh h) (M : MK h W) (F : LFM W o) (hq : ∀ j, j < 9 → hI h 67 j = nZ (q j) ∧ q j < 1000) (d hd wv : Nat) (hh : 1 ≤ hd ∧ hd ≤ 4) (hwv : wv < 1000) : ∃ h', qcl (d + 101) 271 [qR (some 56), qI (nZ hd), qI (nZ (toLo hd)), qI (nZ (toHi hd)), qI (nZ wv)] h = some (some (qI (nZ (tw o hd q wv))), h') ∧ Fr fQ h h' := by
  have e413 : hI h 58 413 = nZ (W 413) - nZ 1 := M 413 (by decide)
  have z01 : nZ 0 - nZ 1 = -nZ 1 := by decide
  rcases F with ⟨f1, f2⟩ | ⟨L, ⟨f1, f1'⟩, f2, f3, f4, f5⟩
  · subst f2
    rw [f1, z01] at e413
    refine ⟨h, ?_, Fr.refl⟩
    have m1 : (-1 : Int32) = -nZ 1 := rfl
    simp (disch := first | assumption | omega | (simp only [Sh_si, Sh_sA]; assumption)) only [E271, e413, m1, p56_0, g56_0, p56_1, g56_1, g56_2, g56_3, g56_4, g56_5, p56_6, g56_6, g56_7, g56_8, g56_9, p56_10, g56_10, p56_11, g56_11, g56_12, g56_13, g56_14, p56_15, g56_15, p56_16, g56_16, p56_17, g56_17, p56_18, g56_18, p56_19, g56_19, p56_20, g56_20, B56_21, g56_21, g56_22, g56_23, g56_24, g56_25, g56_26, g56_27, p56_28, g56_28, p56_29, g56_29, p56_30, g56_30, p56_31, g56_31, g56_32, g56_33, g56_34, p56_35, g56_35, p56_36, g56_36, p56_37, g56_37, p56_38, g56_38, g56_39, g56_40, g56_41, p56_42, g56_42, p56_43, g56_43, p56_44, g56_44, ck56, A57, S57, l57, A58, S58, l58, A59, S59, l59, A60, S60, l60, A61, S61, l61, A62, S62, l62, A63, S63, l63, A64, S64, l64, A65, S65, l65, A66, S66, l66, A67, S67, l67, A68, S68, l68, A69, S69, l69, A70, S70, l70, A71, S71, l71, A72, S72, l72, A73, S73, l73, A74, S74, l74, A75, S75, l75, A76, S76, l76, A77, S77, l77, A78, S78, l78, L0, L1, L2, L3, L4, L5, L6, L7, L8, L9, L10, L11, L12, L13, L14, L15, L16, L17, L18, L19, L20, L21, L22, L23, L24, L25, L26, L27, L28, L29, L30, L31, L32, L33, L34, L35, L36, L37, L38, L39, L40, L41, L42, L43, L44, L45, L46, L47, L48, L49, L50, L52, L57, L60, L90, L91, L93, L97, L99, L100, L101, L122, L240, L255, L256, L400, L401, L408, L409, L410, L411, L412, L413, L414, L420, L1000, L1001, L1103, L1200, L1240, L2820, L5220, L7936, L10440, L12345, L1000000, L1000003, L1073741823, L59, L61, L62, L200, nd_lt_t, nd_lt_f, nd_le_t, nd_le_f, nd_eq_f, nZ_add, nZ_mul, nZ_sub, nZ_lt, nZ_le, nZ_eq, nZ_nat, nZ_div, nZ_rem, nZ_and, nZ_or, and31, nZ_shl, nZ_shr, nZ_m1, nZ_nneg, nZ_nneg', nZ_nlt, nZ_ltn, inR_lt, Nat.not_lt_zero, ob_some, jI, jL, jR, jV, rI0, rI1, rIv, if_true, if_false, ↓reduceIte, Nat.reduceAdd, Nat.reduceMul, Nat.reduceSub, Nat.reduceLT, Nat.reduceEqDiff, Nat.reduceLeDiff, Nat.zero_add, Nat.add_zero, Nat.zero_mul, Nat.mul_zero, Nat.one_mul, Nat.mul_one, and_true, true_and, false_and, and_false, or_true, true_or, or_false, false_or, not_true_eq_false, not_false_eq_true, eq_self, bI_0, bI_1, em_b, hI_ne, hI_at, hA_ne, hA_at, Sh_si, Sh_sA]
    rfl
  · subst f2
    obtain ⟨n, hn⟩ := nZ_sur (hI h 56 21)
    have eF : nZ (W 413) - nZ 1 = nZ (W 413 - 1) := nZ_sub f1
    rw [eF] at e413
    generalize hF : W 413 - 1 = t at *
    have ht : t < 6 := by omega
    have esz : hI h 58 (414 + t) = nZ (W (414 + t)) := M.at (by omega) (by omega)
    have m1 : (-1 : Int32) = -nZ 1 := rfl
    have h2e : hsI (hsI h 56 19 (nZ (400 * t))) 56 20 (nZ (400 * t + W (414 + t))) = ev (hsI (hsI h 56 19 (nZ (400 * t))) 56 20 (nZ (400 * t + W (414 + t)))) (400 * t) 0 n := by
      refine qh_ext rfl rfl rfl ?_ rfl
      intro x y
      unfold ev
      simp only [hI_si]
      by_cases c1 : x = 56 ∧ y = 21
      · rw [if_pos c1, if_neg (by omega), if_neg (by omega), c1.1, c1.2, hn]
      · rw [if_neg c1]
        by_cases c2 : x = 56 ∧ y = 19
        · rw [if_pos c2, if_neg (by omega), if_pos c2]
          rfl
        · rw [if_neg c2, if_neg c2]
    have X : EV (hsI (hsI h 56 19 (nZ (400 * t))) 56 20 (nZ (400 * t + W (414 + t)))) (fun j => W (420 + 400 * t + j)) (fun j => W (2820 + 400 * t + j)) q (W (414 + t)) (400 * t) := by
      refine ⟨H, f3, by omega, hI_at rfl, ?_, ?_, ?_⟩
      · intro j hj
        rw [hI_ne (by omega), hI_ne (by omega), M.at (by omega) (by omega)]
        refine ⟨?_, (f5 j hj).1⟩
        show nZ (W (420 + (400 * t + j))) = nZ (W (420 + 400 * t + j))
        rw [Nat.add_assoc]
      · intro j hj
        rw [hI_ne (by omega), hI_ne (by omega), M.at (by omega) (by omega)]
        show nZ (W (2820 + (400 * t + j))) = nZ (W (2820 + 400 * t + j))
        rw [Nat.add_assoc]
      · intro j hj
        rw [hI_ne (by omega), hI_ne (by omega)]
        exact hq j hj
    obtain ⟨p', b', hr⟩ := m271_61 X (d + 1) hd (toLo hd) (toHi hd) (by omega) (by have := toLH (hd := hd); omega) (toLH (hd := hd)).2 (toLH (hd := hd)).1 12 0 0 0 L f4 (by omega) wv n hwv
    refine ⟨ev (hsI (hsI h 56 19 (nZ (400 * t))) 56 20 (nZ (400 * t + W (414 + t)))) (400 * t) p' b', ?_, Fr_ev (Fr.si rfl (Fr.si rfl Fr.refl))⟩
    rw [← h2e] at hr
    show _ = some (some (qI (nZ (tv L hd (toLo hd) (toHi hd) (fun i => q i) wv))), _)
    rw [← hr]
    simp (disch := first | assumption | omega | (simp only [Sh_si, Sh_sA]; assumption)) only [E271, e413, m1, esz, p56_0, g56_0, p56_1, g56_1, g56_2, g56_3, g56_4, g56_5, p56_6, g56_6, g56_7, g56_8, g56_9, p56_10, g56_10, p56_11, g56_11, g56_12, g56_13, g56_14, p56_15, g56_15, p56_16, g56_16, p56_17, g56_17, p56_18, g56_18, p56_19, g56_19, p56_20, g56_20, B56_21, g56_21, g56_22, g56_23, g56_24, g56_25, g56_26, g56_27, p56_28, g56_28, p56_29, g56_29, p56_30, g56_30, p56_31, g56_31, g56_32, g56_33, g56_34, p56_35, g56_35, p56_36, g56_36, p56_37, g56_37, p56_38, g56_38, g56_39, g56_40, g56_41, p56_42, g56_42, p56_43, g56_43, p56_44, g56_44, ck56, A57, S57, l57, A58, S58, l58, A59, S59, l59, A60, S60, l60, A61, S61, l61, A62, S62, l62, A63, S63, l63, A64, S64, l64, A65, S65, l65, A66, S66, l66, A67, S67, l67, A68, S68, l68, A69, S69, l69, A70, S70, l70, A71, S71, l71, A72, S72, l72, A73, S73, l73, A74, S74, l74, A75, S75, l75, A76, S76, l76, A77, S77, l77, A78, S78, l78, L0, L1, L2, L3, L4, L5, L6, L7, L8, L9, L10, L11, L12, L13, L14, L15, L16, L17, L18, L19, L20, L21, L22, L23, L24, L25, L26, L27, L28, L29, L30, L31, L32, L33, L34, L35, L36, L37, L38, L39, L40, L41, L42, L43, L44, L45, L46, L47, L48, L49, L50, L52, L57, L60, L90, L91, L93, L97, L99, L100, L101, L122, L240, L255, L256, L400, L401, L408, L409, L410, L411, L412, L413, L414, L420, L1000, L1001, L1103, L1200, L1240, L2820, L5220, L7936, L10440, L12345, L1000000, L1000003, L1073741823, L59, L61, L62, L200, nd_lt_t, nd_lt_f, nd_le_t, nd_le_f, nd_eq_f, nZ_add, nZ_mul, nZ_sub, nZ_lt, nZ_le, nZ_eq, nZ_nat, nZ_div, nZ_rem, nZ_and, nZ_or, and31, nZ_shl, nZ_shr, nZ_m1, nZ_nneg, nZ_nneg', nZ_nlt, nZ_ltn, inR_lt, Nat.not_lt_zero, ob_some, jI, jL, jR, jV, rI0, rI1, rIv, if_true, if_false, ↓reduceIte, Nat.reduceAdd, Nat.reduceMul, Nat.reduceSub, Nat.reduceLT, Nat.reduceEqDiff, Nat.reduceLeDiff, Nat.zero_add, Nat.add_zero, Nat.zero_mul, Nat.mul_zero, Nat.one_mul, Nat.mul_one, and_true, true_and, false_and, and_false, or_true, true_or, or_false, false_or, not_true_eq_false, not_false_eq_true, eq_self, bI_0, bI_1, em_b, hI_ne, hI_at, hA_ne, hA_at, Sh_si, Sh_sA]
/-- what the reference stands on -/
def MX (h : QH) (W : Nat → Nat) (o : Option (List CL)) : Prop := Sh h ∧ MK h W ∧ WI W ∧ LFM W o
theorem MX.fr {h k : QH} {W : Nat → Nat} {o : Option (List CL)} (X : MX h W o) {cs : Nat → Nat → Bool} (F : Fr cs h k) (e : ∀ j, cs 58 j = false) : MX k W o := ⟨F.Sh X.1, X.2.1.of (fun j => F.2 58 j (e j)), X.2.2.1, X.2.2.2⟩
theorem MX.mm {h : QH} {W : Nat → Nat} {o : Option (List CL)} (X : MX h W o) : MM h W := ⟨X.1, X.2.1, X.2.2.1⟩
/-- what is asked -/
def qf (W : Nat → Nat) (a day once p lvl l had : Nat) : Nat → Nat := fun j => match j with
  | 0 => lvl | 1 => had | 2 => W (4 * p + 1) | 3 => W (4 * l) | 4 => a | 5 => day | 6 => p | 7 => l | _ => once
def aM (h : QH) (q : Nat → Nat) : QH := (hsI (hsI (hsI (hsI (hsI (hsI (hsI (hsI (hsI h 67 0 (nZ (q 0))) 67 1 (nZ (q 1))) 67 2 (nZ (q 2))) 67 3 (nZ (q 3))) 67 4 (nZ (q 4))) 67 5 (nZ (q 5))) 67 6 (nZ (q 6))) 67 7 (nZ (q 7))) 67 8 (nZ (q 8)))
theorem m170 {h : QH} {W : Nat → Nat} {o : Option (List CL)} (X : MX h W o) (d a day once p lvl l had : Nat) (hp : p < 8) (hl : l < 8) (ha : a < 5) (hlv : lvl < 1000) (hhad : had < 1000) (hday : day < 1000) (honce : once < 1000) : ∃ h', qcl (d + 2) 170 [qR (some 56), qI (nZ p), qI (nZ lvl), qI (nZ l), qI (nZ had), qI (nZ a), qI (nZ day), qI (nZ once)] h = some (none, h') ∧ Fr fQ h h' ∧ ∀ j, j < 9 → hI h' 67 j = nZ (qf W a day once p lvl l had j) ∧ qf W a day once p lvl l had j < 1000 := by
  have M1 := X.mm
  have H := X.1
  have e1 : hI h 58 (4 * p + 1) = nZ (W (4 * p + 1)) := M1.at (by omega) (by omega)
  have e0 : hI h 58 (4 * l + 0) = nZ (W (4 * l)) := M1.at (by omega) (by omega)
  have g1 : ∀ (k : QH), Sh k → hI k 58 (4 * p + 1) = nZ (W (4 * p + 1)) → qcl (d + 1) 227 [qR (some 56), qI (nZ p), qI (nZ 1)] k = some (some (qI (nZ (W (4 * p + 1)))), k) := fun k Hk ek => by rw [m227 Hk d p 1 hp (by decide), ek]
  have g0 : ∀ (k : QH), Sh k → hI k 58 (4 * l + 0) = nZ (W (4 * l)) → qcl (d + 1) 227 [qR (some 56), qI (nZ l), qI (nZ 0)] k = some (some (qI (nZ (W (4 * l)))), k) := fun k Hk ek => by rw [m227 Hk d l 0 hl (by decide), ek]
  refine ⟨aM h (qf W a day once p lvl l had), ?_, ?_⟩
  · rw [E170]
    simp (disch := first | assumption | decide | (simp only [Sh_si]; assumption) | (simp (disch := omega) only [hI_ne]; assumption)) only [ck56, ob_some, g56_22, L0, L1, L2, L3, L4, L5, L6, L7, L8, S67, g1, g0, jI]
    rfl
  · refine ⟨Fr.si rfl (Fr.si rfl (Fr.si rfl (Fr.si rfl (Fr.si rfl (Fr.si rfl (Fr.si rfl (Fr.si rfl (Fr.si rfl Fr.refl)))))))), ?_⟩
    have b1 : W (4 * p + 1) < 1000 := Nat.lt_of_le_of_lt (X.2.2.1.1 (4 * p + 1) (by omega) (by omega)) (by unfold bnd; rw [if_pos (by omega), if_neg (by omega), if_neg (by omega)]; decide)
    have b0 : W (4 * l) < 1000 := Nat.lt_of_le_of_lt (X.2.2.1.1 (4 * l) (by omega) (by omega)) (by unfold bnd; rw [if_pos (by omega), if_neg (by omega), if_neg (by omega)]; decide)
    have ha3 : a < 1000 := by omega
    have hp3 : p < 1000 := by omega
    have hl3 : l < 1000 := by omega
    intro j hj
    have : j = 0 ∨ j = 1 ∨ j = 2 ∨ j = 3 ∨ j = 4 ∨ j = 5 ∨ j = 6 ∨ j = 7 ∨ j = 8 := by omega
    rcases this with r | r | r | r | r | r | r | r | r <;> subst r <;> exact ⟨by unfold aM; simp (disch := decide) only [hI_ne, hI_at], by first | assumption | (show _ < 1000; omega) | (show _ < 1000; assumption)⟩
/-- the reference asks: handed, takes, refuses, wrong -/
def mQ (h : QH) (q : Nat → Nat) : Prop := ∀ j, j < 9 → hI h 67 j = nZ (q j) ∧ q j < 1000
theorem m193 {h : QH} {W : Nat → Nat} {o : Option (List CL)} (X : MX h W o) {q : Nat → Nat} (hq : mQ h q) (d : Nat) : ∃ h', qcl (d + 102) 193 [qR (some 56)] h = some (some (qI (nZ (tw o 1 q (q 0 - 1)))), h') ∧ Fr fQ h h' := by
  have hq0 := hq 0 (by decide)
  have H := X.1
  obtain ⟨h', e1, e2⟩ := m271 X.1 X.2.1 X.2.2.2 hq d 1 (q 0 - 1) (by decide) (by omega)
  refine ⟨h', ?_, e2⟩
  have e1' : qcl (d + 101) 271 [qR (some 56), qI (nZ 1), qI (nZ 0), qI (nZ 9), qI (nZ (q 0 - 1))] h = some (some (qI (nZ (tw o 1 q (q 0 - 1)))), h') := e1
  have g : qcl (d + 101) 191 [qI (nZ 0), qI (nZ (q 0) - nZ 1)] h = some (some (qI (nZ (q 0 - 1))), h) := by
    by_cases c : 1 ≤ q 0
    · rw [nZ_sub c, m191 _ _ _ (by decide) (by omega), Nat.max_eq_right (by omega)]
    · have : q 0 = 0 := by omega
      rw [this]
      have zz : nZ 0 - nZ 1 = -nZ 1 := by decide
      have z2 : (-nZ 1 < nZ 0) = True := by decide
      rw [zz]
      simp only [E191, z2, if_true]
  have hq0' := hq0.1
  simp (disch := first | assumption | decide) only [E193, ck56, ob_some, g56_22, L0, L1, L9, A67, hq0', g, jI, e1']
theorem m265 {h : QH} {W : Nat → Nat} {o : Option (List CL)} (X : MX h W o) {q : Nat → Nat} (hq : mQ h q) (d : Nat) (ha : q 4 < 5) : ∃ h', qcl (d + 102) 265 [qR (some 56)] h = some (some (qI (nZ (tw o 2 q (W (40 + 4 * q 4))))), h') ∧ Fr fQ h h' := by
  have hq4 := (hq 4 (by decide)).1
  have H := X.1
  have M1 := X.mm
  have hb : W (40 + 4 * q 4) < 1000 := Nat.lt_of_le_of_lt (X.2.2.1.1 (40 + 4 * q 4) (by omega) (by omega)) (by unfold bnd; rw [if_neg (by omega), if_neg (by omega), if_pos (by omega), if_pos (by omega)]; decide)
  obtain ⟨h', e1, e2⟩ := m271 X.1 X.2.1 X.2.2.2 hq d 2 (W (40 + 4 * q 4)) (by decide) hb
  refine ⟨h', ?_, e2⟩
  have e1' : qcl (d + 101) 271 [qR (some 56), qI (nZ 2), qI (nZ 1), qI (nZ 12), qI (nZ (W (40 + 4 * q 4)))] h = some (some (qI (nZ (tw o 2 q (W (40 + 4 * q 4))))), h') := e1
  have g : qcl (d + 101) 168 [qR (some 56), qI (nZ (q 4)), qI (nZ 0)] h = some (some (qI (nZ (W (40 + 4 * q 4)))), h) := n168 M1 (d + 100) ha (by decide)
  simp (disch := first | assumption | decide) only [E265, ck56, ob_some, g56_22, L0, L1, L2, L12, L4, A67, hq4, g, jI, e1']
theorem m206 {h : QH} {W : Nat → Nat} {o : Option (List CL)} (X : MX h W o) {q : Nat → Nat} (hq : mQ h q) (d : Nat) : ∃ h', qcl (d + 102) 206 [qR (some 56)] h = some (some (qI (nZ (tw o 4 q 0))), h') ∧ Fr fQ h h' := by
  have H := X.1
  obtain ⟨h', e1, e2⟩ := m271 X.1 X.2.1 X.2.2.2 hq d 4 0 (by decide) (by decide)
  refine ⟨h', ?_, e2⟩
  have e1' : qcl (d + 101) 271 [qR (some 56), qI (nZ 4), qI (nZ 0), qI (nZ 1), qI (nZ 0)] h = some (some (qI (nZ (tw o 4 q 0))), h') := e1
  have hle : tw o 4 q 0 ≤ 1 := tw_le (by decide) (by decide)
  have h01 : tw o 4 q 0 = 0 ∨ tw o 4 q 0 = 1 := by omega
  have z01 : (nZ 0 = nZ 1) = False := by decide
  have H' : Sh h' := e2.Sh H
  rcases h01 with r | r
  · rw [r] at e1' ⊢
    simp (disch := first | assumption | decide) only [E206, ck56, ob_some, L0, L1, L4, jI, e1', z01, if_false, rI0, or_false, or_true, true_or, if_true]
  · rw [r] at e1' ⊢
    simp (disch := first | assumption | decide) only [E206, ck56, ob_some, L0, L1, L4, jI, e1', if_true, rI1, or_true]
theorem m278 {h : QH} {W : Nat → Nat} {o : Option (List CL)} (X : MX h W o) {q : Nat → Nat} (hq : mQ h q) (d : Nat) : ∃ h', qcl (d + 102) 278 [qR (some 56)] h = some (some (qI (nZ (tw o 3 q 0))), h') ∧ Fr fQ h h' := by
  have H := X.1
  obtain ⟨h', e1, e2⟩ := m271 X.1 X.2.1 X.2.2.2 hq d 3 0 (by decide) (by decide)
  refine ⟨h', ?_, e2⟩
  have e1' : qcl (d + 101) 271 [qR (some 56), qI (nZ 3), qI (nZ 0), qI (nZ 100), qI (nZ 0)] h = some (some (qI (nZ (tw o 3 q 0))), h') := e1
  simp (disch := first | assumption | decide) only [E278, ck56, ob_some, L0, L100, L3, jI, e1']
/-! the class -/
def fV (b j : Nat) : Bool := (match b with
  | 37 => true | 38 => true | 39 => (match j with | 0 => true | 1 => true | _ => false) | _ => false)
/-- what the class stands on -/
def CX (h : QH) (W : Nat → Nat) (o : Option (List CL)) (r : Option Nat) : Prop := Sh h ∧ Ro h ∧ CW h 11 W ∧ WI W ∧ LFC h W o r ∧ hI h 39 2 = nZ 0 ∧ hI h 39 3 = nZ 0
/-- places where the world stands -/
def nW (cs : Nat → Nat → Bool) : Prop := (∀ b j, b < 10 → cs b j = false) ∧ (∀ b j, 11 ≤ b → b < 26 → cs b j = false) ∧ (∀ b j, 79 ≤ b → cs b j = false) ∧ cs 39 2 = false ∧ cs 39 3 = false
theorem LO.ofFr {h k : QH} {a : Nat} {L : List CL} (O : LO h a L) {cs : Nat → Nat → Bool} (F : Fr cs h k) (e : ∀ b j, 79 ≤ b → cs b j = false) : LO k a L := O.fr (Nat.le_of_eq F.n.symm) (fun b _ _ => by rw [F.1.2.2.1]) (fun b j hb _ => F.2 b j (e b j hb)) (fun b j _ _ => F.r b j)
theorem CX.fr {h k : QH} {W : Nat → Nat} {o : Option (List CL)} {r : Option Nat} (X : CX h W o r) {cs : Nat → Nat → Bool} (F : Fr cs h k) (e : nW cs) : CX k W o r := by
  obtain ⟨x1, x2, ⟨x3, x4, x5, x6⟩, x7, x8, x9, x10⟩ := X
  obtain ⟨e1, e2, e3, e4, e5⟩ := e
  refine ⟨F.Sh x1, F.Ro e1 x2, ⟨?_, ?_, ?_, ?_⟩, x7, ?_, (F.2 39 2 e4).trans x9, (F.2 39 3 e5).trans x10⟩
  · exact x3.of fun i j h1 h2 => F.2 _ _ (e2 _ _ (by omega) (by omega))
  · exact x4.of fun i j h1 h2 => F.2 _ _ (e2 _ _ (by omega) (by omega))
  · exact x5.of fun i j h1 h2 => F.2 _ _ (e2 _ _ (by omega) (by omega))
  · exact x6.of fun j => F.2 _ _ (e2 _ _ (by omega) (by omega))
  · rcases x8 with y | ⟨L, a, y1, y2, y3, y4, y5, y6⟩
    · exact Or.inl y
    · exact Or.inr ⟨L, a, y1, y2, y3, y4, (F.r 25 _).trans y5, y6.ofFr F e3⟩
theorem nW_fV : nW fV := by
  refine ⟨?_, ?_, ?_, rfl, rfl⟩
  · intro b j hb
    have : b = 0 ∨ b = 1 ∨ b = 2 ∨ b = 3 ∨ b = 4 ∨ b = 5 ∨ b = 6 ∨ b = 7 ∨ b = 8 ∨ b = 9 := by omega
    rcases this with e | e | e | e | e | e | e | e | e | e <;> subst e <;> rfl
  · intro b j h1 h2
    have : b = 11 ∨ b = 12 ∨ b = 13 ∨ b = 14 ∨ b = 15 ∨ b = 16 ∨ b = 17 ∨ b = 18 ∨ b = 19 ∨ b = 20 ∨ b = 21 ∨ b = 22 ∨ b = 23 ∨ b = 24 ∨ b = 25 := by omega
    rcases this with e | e | e | e | e | e | e | e | e | e | e | e | e | e | e <;> subst e <;> rfl
  · intro b j hb
    unfold fV
    split <;> first | omega | rfl

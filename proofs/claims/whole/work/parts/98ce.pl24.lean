/-! the plan of the reference: a day's showings -/
def dP (W : Nat → Nat) (o : Option (List CL)) (y i j : Nat) : Bool := decide (pW W o j ≠ 0 ∧ (W (100 + 5 * j) < y ∨ (W (100 + 5 * j) = y ∧ j < i)))
def fD (b j : Nat) : Bool := (match b with
  | 56 => (match j with
    | 19 => true | 20 => true | 21 => true | 28 => true | 29 => true | 30 => true | _ => false)
  | 67 => true | 69 => true | 71 => true | 72 => true | 73 => true
  | _ => false)
theorem fR_D (b j : Nat) (h : fR b j = true) : fD b j = true := by
  unfold fR at h
  split at h
  · split at h <;> first | rfl | cases h
  · rfl
  · rfl
  · rfl
  · rfl
  · cases h
/-- day y behind its first i showings -/
def mD (h : QH) (W : Nat → Nat) (o : Option (List CL)) (y i B : Nat) : Prop := mS h W B (pK W o y i) ∧ hI h 56 28 = nZ (cN (dP W o y i) (W 410)) ∧ fs1 (dP W o y i) (W 410) (hI h 56 29) ∧ ∀ j, j < W 410 → (W (100 + 5 * j) < y ∨ (W (100 + 5 * j) = y ∧ j < i)) → hI h 73 j = nZ (pW W o j)
theorem mS.n {h k : QH} {W : Nat → Nat} {B : Nat} {s : PlS} (S : mS h W B s) (e : ∀ b j, b ≠ 73 → (b ≠ 56 ∨ j = 30) → hI k b j = hI h b j) : mS k W B s := by
  refine ⟨fun p a hp ha => ?_, fun p a hp ha => ?_, fun l hl => ?_, ?_⟩
  · rw [e 69 _ (by decide) (Or.inl (by decide))]
    exact S.1 p a hp ha
  · rw [e 71 _ (by decide) (Or.inl (by decide))]
    exact S.2.1 p a hp ha
  · rw [e 72 _ (by decide) (Or.inl (by decide))]
    exact S.2.2.1 l hl
  · rw [e 56 30 (by decide) (Or.inr rfl)]
    exact S.2.2.2
theorem m219_131s {h : QH} {W : Nat → Nat} {o : Option (List CL)} (X : MX h W o) (d y i B : Nat) (a1 : Int32) (hy : y < 30) (hi' : i < W 410) (P : mL h (pY W o y).1) (Z : mZ h (pY W o y).2) (D : mD h W o y i B) : ∃ k, qbig (d + 105) 219 131 [sR (some 56), sI a1, sI (nZ y), sI (nZ i)] [] h = qbig (d + 105) 219 131 [sR (some 56), sI a1, sI (nZ y), sI (nZ (i + 1))] [] k ∧ Fr fD h k ∧ mD k W o y (i + 1) B := by
  have H := X.1
  have M := X.mm
  have n60 := M.n60
  have hi : i < 60 := by omega
  obtain ⟨b0, b1, b2, b3, b4⟩ := X.2.2.1.sh hi
  have s0 : qcl (d + 104) 250 [qR (some 56), qI (nZ i), qI 0] h = some (some (qI (nZ (W (100 + 5 * i)))), h) := M.s (d + 103) hi (f := 0) (by decide)
  have x3 : qai 0 58 410 h = some (nZ (W 410)) := by
    have e : qai 0 58 (nZ 410) h = some (hI h 58 410) := A58 H (by decide)
    rw [M.at (by decide) (by decide)] at e
    exact e
  have lt1 : nZ i < nZ (W 410) := by
    rw [nZ_lt (by omega) (by omega)]
    exact hi'
  have ip : nZ i + 1 = nZ (i + 1) := by rw [L1, nZ_add]
  obtain ⟨S, N, Fs, R⟩ := D
  have U9 : ∀ l, l < 8 → (pK W o y i).2.2 l ≤ W (4 * l + 2) := pD_u (fun l hl => Nat.zero_le _) i
  have es : pK W o y (i + 1) = if W (100 + 5 * i) = y then pS1 W o (pY W o y).1 (pY W o y).2 i (pK W o y i) else pK W o y i := rfl
  by_cases c : W (100 + 5 * i) = y
  case neg =>
    have ne : ¬(nZ (W (100 + 5 * i)) = nZ y) := by
      rw [nZ_eq (by omega) (by omega)]
      exact c
    have ed : ∀ j, j < W 410 → dP W o y i j = dP W o y (i + 1) j := fun j hj => by
      unfold dP
      apply decide_eq_decide.2
      by_cases cj : j = i
      · subst cj
        exact ⟨fun z => ⟨z.1, by omega⟩, fun z => ⟨z.1, by omega⟩⟩
      · exact ⟨fun z => ⟨z.1, by omega⟩, fun z => ⟨z.1, by omega⟩⟩
    rw [if_neg c] at es
    refine ⟨h, ?_, Fr.refl, ?_, ?_, fs1_c ed Fs, fun j hj z => ?_⟩
    · rw [E219_131, g56_3 H, ob_some, ob_some, x3, ob_some, if_pos lt1, s0, jI, if_neg ne, ip]
    · rw [es]
      exact S
    · rw [← cN_congr _ ed]
      exact N
    · rcases z with z | z
      · exact R j hj (Or.inl z)
      · have : j ≠ i := fun e => by
          rw [e] at z
          omega
        exact R j hj (by omega)
  rw [if_pos c] at es
  have ey : nZ (W (100 + 5 * i)) = nZ y := by rw [c]
  have ew : pW W o i = pR W o (pY W o y).1 (pK W o y i).2.2 i := by
    unfold pW
    rw [c]
  have QU : mU h W (pK W o y i).2.2 := fun l hl => ⟨S.2.2.1 l hl, U9 l (by have := M.n8; omega)⟩
  obtain ⟨k, e213, Fk⟩ := m213 X d i (pY W o y).1 (pK W o y i).2.2 hi' P QU
  rw [← ew] at e213
  have Xk := X.fr Fk (fun j => rfl)
  have Hk := Xk.1
  have Sk := S.fr Fk
  have H2 : Sh (hsI k 73 i (nZ (pW W o i))) := Hk
  have F2 : Fr fD h (hsI k 73 i (nZ (pW W o i))) := Fr.si rfl (Fk.mono (fun b j z => fR_D b j (fQ_R b j z)))
  have X2 := X.fr F2 (fun j => rfl)
  have S2 : mS (hsI k 73 i (nZ (pW W o i))) W B (pK W o y i) := Sk.n (fun b j hb _ => hI_ne (Or.inl hb))
  have R2 : ∀ j, j < W 410 → (W (100 + 5 * j) < y ∨ (W (100 + 5 * j) = y ∧ j < i + 1)) → hI (hsI k 73 i (nZ (pW W o i))) 73 j = nZ (pW W o j) := fun j hj z => by
    by_cases cj : j = i
    · rw [cj, hI_at rfl]
    · rw [hI_ne (Or.inr cj), Fk.2 73 j rfl]
      exact R j hj (by omega)
  have N2 : hI (hsI k 73 i (nZ (pW W o i))) 56 28 = nZ (cN (dP W o y i) (W 410)) := by
    rw [hI_ne (by omega), Fk.2 56 28 rfl]
    exact N
  have Fs2 : fs1 (dP W o y i) (W 410) (hI (hsI k 73 i (nZ (pW W o i))) 56 29) := by
    rw [hI_ne (by omega), Fk.2 56 29 rfl]
    exact Fs
  have P2 := P.fr F2 (fun j => rfl)
  have Z2 := Z.fr F2 (fun j => rfl)
  have at2 : hI (hsI k 73 i (nZ (pW W o i))) 73 i = nZ (pW W o i) := hI_at rfl
  have w9 : pW W o i ≤ 9 := by
    rw [ew]
    unfold pR
    split
    · exact rLs_le _
    · exact rT_le
  have dne : ∀ j, j < W 410 → j ≠ i → dP W o y (i + 1) j = dP W o y i j := fun j hj hne => by
    unfold dP
    apply decide_eq_decide.2
    exact ⟨fun z => ⟨z.1, by omega⟩, fun z => ⟨z.1, by omega⟩⟩
  by_cases cw : pW W o i = 0
  · have w0 : nZ (pW W o i) = (0 : Int32) := by
      rw [cw]
      rfl
    have ed : ∀ j, j < W 410 → dP W o y i j = dP W o y (i + 1) j := fun j hj => by
      by_cases cj : j = i
      · subst cj
        unfold dP
        apply decide_eq_decide.2
        exact ⟨fun z => absurd cw z.1, fun z => absurd cw z.1⟩
      · exact (dne j hj cj).symm
    have c0 := cw
    rw [ew] at c0
    obtain ⟨k3, e194, F3, S3⟩ := m194 X2 d i B (pY W o y).1 (pY W o y).2 (pK W o y i) hi' P2 Z2 S2 U9 c0
    rw [← es] at S3
    refine ⟨k3, ?_, F2.trans (F3.mono fR_D), S3, ?_, ?_, fun j hj z => ?_⟩
    · rw [E219_131, g56_3 H, ob_some, ob_some, x3, ob_some, if_pos lt1, s0, jI, if_pos ey, g56_32 H, ob_some, e213, jI, ob_some, S73 Hk hi, ob_some, g56_32 H2, ob_some, ob_some, A73 H2 hi, ob_some, at2, if_pos w0, e194, jV, ip]
    · rw [F3.2 56 28 rfl, ← cN_congr _ ed]
      exact N2
    · rw [F3.2 56 29 rfl]
      exact fs1_c ed Fs2
    · rw [F3.2 73 j rfl]
      exact R2 j hj z
  have w0 : ¬(nZ (pW W o i) = (0 : Int32)) := by
    rw [L0, nZ_eq (by omega) (by decide)]
    exact cw
  have es' : pK W o y (i + 1) = pK W o y i := by
    rw [es]
    unfold pS1
    rw [if_neg (by rw [← ew]; exact cw)]
  have p0 : dP W o y i i = false := by
    unfold dP
    apply decide_eq_false
    intro z
    omega
  have q1 : dP W o y (i + 1) i = true := by
    unfold dP
    apply decide_eq_true
    exact ⟨cw, Or.inr ⟨c, by omega⟩⟩
  obtain ⟨g1, g2, g3⟩ := fs1_s Fs2 hi' (by omega) p0 q1 dne
  have cu : cN (dP W o y (i + 1)) (W 410) = cN (dP W o y i) (W 410) + 1 := cN_up p0 q1 _ hi' dne
  have n1 : nZ (cN (dP W o y i) (W 410)) + 1 = nZ (cN (dP W o y (i + 1)) (W 410)) := by rw [cu, L1, nZ_add]
  have pre : ∃ k2, k2 = hsI k 73 i (nZ (pW W o i)) := ⟨_, rfl⟩
  obtain ⟨k2, ek2⟩ := pre
  rw [← ek2] at H2 F2 X2 S2 R2 N2 Fs2 at2 g1 g2 g3
  have H3 : Sh (hsI k2 56 28 (nZ (cN (dP W o y (i + 1)) (W 410)))) := H2
  have r29 : hI (hsI k2 56 28 (nZ (cN (dP W o y (i + 1)) (W 410)))) 56 29 = hI k2 56 29 := hI_ne (by omega)
  have F3 : Fr fD h (hsI k2 56 28 (nZ (cN (dP W o y (i + 1)) (W 410)))) := Fr.si rfl F2
  have S3 : mS (hsI k2 56 28 (nZ (cN (dP W o y (i + 1)) (W 410)))) W B (pK W o y i) := S2.n (fun b j hb hj => hI_ne (by omega))
  have R3 : ∀ j, j < W 410 → (W (100 + 5 * j) < y ∨ (W (100 + 5 * j) = y ∧ j < i + 1)) → hI (hsI k2 56 28 (nZ (cN (dP W o y (i + 1)) (W 410)))) 73 j = nZ (pW W o j) := fun j hj z => by
    rw [hI_ne (by omega)]
    exact R2 j hj z
  have fin : fs1 (dP W o y (i + 1)) (W 410) (nZ i) → mD (hsI (hsI k2 56 28 (nZ (cN (dP W o y (i + 1)) (W 410)))) 56 29 (nZ i)) W o y (i + 1) B := fun f => by
    refine ⟨?_, ?_, ?_, fun j hj z => ?_⟩
    · rw [es']
      exact S3.n (fun b j hb hj => hI_ne (by omega))
    · rw [hI_ne (by omega), hI_at rfl]
    · rw [hI_at rfl]
      exact f
    · rw [hI_ne (by omega)]
      exact R3 j hj z
  by_cases cm : hI k2 56 29 = -1
  · refine ⟨_, ?_, Fr.si rfl F3, fin (g2 (Or.inl cm))⟩
    rw [E219_131, g56_3 H, ob_some, ob_some, x3, ob_some, if_pos lt1, s0, jI, if_pos ey, g56_32 H, ob_some, e213, jI, ob_some, S73 Hk hi, ob_some, ← ek2, g56_32 H2, ob_some, ob_some, A73 H2 hi, ob_some, at2, if_neg w0, g56_28 H2, ob_some, N2, n1, p56_28 H2, ob_some, g56_29 H3, ob_some, r29, if_pos cm, p56_29 H3, ob_some, ip]
  by_cases cl : nZ i < hI k2 56 29
  · refine ⟨_, ?_, Fr.si rfl F3, fin (g2 (Or.inr cl))⟩
    rw [E219_131, g56_3 H, ob_some, ob_some, x3, ob_some, if_pos lt1, s0, jI, if_pos ey, g56_32 H, ob_some, e213, jI, ob_some, S73 Hk hi, ob_some, ← ek2, g56_32 H2, ob_some, ob_some, A73 H2 hi, ob_some, at2, if_neg w0, g56_28 H2, ob_some, N2, n1, p56_28 H2, ob_some, g56_29 H3, ob_some, r29, if_neg cm, ob_some, if_pos cl, p56_29 H3, ob_some, ip]
  · refine ⟨_, ?_, F3, ?_, ?_, ?_, R3⟩
    · rw [E219_131, g56_3 H, ob_some, ob_some, x3, ob_some, if_pos lt1, s0, jI, if_pos ey, g56_32 H, ob_some, e213, jI, ob_some, S73 Hk hi, ob_some, ← ek2, g56_32 H2, ob_some, ob_some, A73 H2 hi, ob_some, at2, if_neg w0, g56_28 H2, ob_some, N2, n1, p56_28 H2, ob_some, g56_29 H3, ob_some, r29, if_neg cm, ob_some, if_neg cl, ip]
    · rw [es']
      exact S3
    · exact hI_at rfl
    · rw [r29]
      exact g3 cm cl
theorem m219_131 {W : Nat → Nat} {o : Option (List CL)} (d y B : Nat) (a1 : Int32) (hy : y < 30) : ∀ m i h, i + m = W 410 → MX h W o → mL h (pY W o y).1 → mZ h (pY W o y).2 → mD h W o y i B → ∃ k, qbig (d + 105) 219 131 [sR (some 56), sI a1, sI (nZ y), sI (nZ i)] [] h = qbig (d + 105) 219 223 [sR (some 56), sI a1, sI (nZ y), sI (nZ 0)] [] k ∧ Fr fD h k ∧ mD k W o y (W 410) B
  | 0, i, h, e, X, P, Z, D => by
    have e' : i = W 410 := by omega
    have H := X.1
    have M := X.mm
    have n60 := M.n60
    have x3 : qai 0 58 410 h = some (nZ (W 410)) := by
      have e : qai 0 58 (nZ 410) h = some (hI h 58 410) := A58 H (by decide)
      rw [M.at (by decide) (by decide)] at e
      exact e
    have lt1 : ¬(nZ i < nZ (W 410)) := by
      rw [nZ_lt (by omega) (by omega)]
      omega
    rw [e'] at D
    refine ⟨h, ?_, Fr.refl, D⟩
    rw [E219_131, g56_3 H, ob_some, ob_some, x3, ob_some, if_neg lt1]
    rfl
  | m + 1, i, h, e, X, P, Z, D => by
    obtain ⟨k, ek, Fk, Dk⟩ := m219_131s X d y i B a1 hy (by omega) P Z D
    obtain ⟨k2, ek2, Fk2, Dk2⟩ := m219_131 d y B a1 hy m (i + 1) k (by omega) (X.fr Fk (fun j => rfl)) (P.fr Fk (fun j => rfl)) (Z.fr Fk (fun j => rfl)) Dk
    exact ⟨k2, ek.trans ek2, Fk.trans Fk2, Dk2⟩

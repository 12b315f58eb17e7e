/-! the plan of the reference: handing over -/
def sU (U : Nat → Nat) : Nat := U 0 + U 1 + U 2 + U 3 + U 4 + U 5 + U 6 + U 7
theorem sU_up {U : Nat → Nat} {l t : Nat} (hl : l < 8) : sU (up U l (U l + t)) = sU U + t := by
  have : l = 0 ∨ l = 1 ∨ l = 2 ∨ l = 3 ∨ l = 4 ∨ l = 5 ∨ l = 6 ∨ l = 7 := by omega
  rcases this with e | e | e | e | e | e | e | e <;> subst e <;> simp [sU, up] <;> omega
def fR (b j : Nat) : Bool := (match b with
  | 56 => (match j with
    | 19 => true | 20 => true | 21 => true | 30 => true | _ => false)
  | 67 => true | 69 => true | 71 => true | 72 => true
  | _ => false)
theorem fQ_R (b j : Nat) (h : fQ b j = true) : fR b j = true := by
  unfold fQ at h
  split at h
  · split at h <;> first | rfl | cases h
  · rfl
  · cases h
def mZ (h : QH) (Z0 : Nat → Nat) : Prop := ∀ p a, p < 8 → a < 5 → hI h 70 (5 * p + a) = nZ (Z0 (5 * p + a)) ∧ Z0 (5 * p + a) ≤ 1
theorem mZ.fr {h k : QH} {L : Nat → Nat} (P : mZ h L) {cs : Nat → Nat → Bool} (F : Fr cs h k) (e : ∀ j, cs 70 j = false) : mZ k L := fun p a hp ha => by
  rw [F.2 70 _ (e _)]
  exact P p a hp ha
/-- a day's state in the reference -/
def mS (h : QH) (W : Nat → Nat) (B : Nat) (s : PlS) : Prop := (∀ p a, p < 8 → a < 5 → hI h 69 (5 * p + a) = nZ (s.1 (5 * p + a)) ∧ s.1 (5 * p + a) ≤ 9) ∧ (∀ p a, p < 8 → a < 5 → hI h 71 (5 * p + a) = nZ (s.2.1 (5 * p + a)) ∧ s.2.1 (5 * p + a) ≤ 1) ∧ (∀ l, l < W 408 → hI h 72 l = nZ (W (4 * l + 2) - s.2.2 l)) ∧ hI h 56 30 = nZ (B + sU s.2.2)
theorem mS.fr {h k : QH} {W : Nat → Nat} {B : Nat} {s : PlS} (S : mS h W B s) (F : Fr fQ h k) : mS k W B s := by
  refine ⟨fun p a hp ha => ?_, fun p a hp ha => ?_, fun l hl => ?_, ?_⟩
  · rw [F.2 69 _ rfl]
    exact S.1 p a hp ha
  · rw [F.2 71 _ rfl]
    exact S.2.1 p a hp ha
  · rw [F.2 72 _ rfl]
    exact S.2.2.1 l hl
  · rw [F.2 56 30 rfl]
    exact S.2.2.2
theorem mS.lev {h : QH} {W : Nat → Nat} {B : Nat} {s : PlS} (S : mS h W B s) (l a t w : Nat) (ht : t ≤ 9) (hw : w ≤ 1) : mS (hsI (hsI h 69 (5 * l + a) (nZ t)) 71 (5 * l + a) (nZ w)) W B (up s.1 (5 * l + a) t, up s.2.1 (5 * l + a) w, s.2.2) := by
  refine ⟨fun p b hp hb => ?_, fun p b hp hb => ?_, fun x hx => ?_, ?_⟩
  · rw [hI_ne (by omega)]
    by_cases c : 5 * p + b = 5 * l + a
    · rw [c, hI_at rfl]
      show nZ t = nZ (up s.1 (5 * l + a) t (5 * l + a)) ∧ up s.1 (5 * l + a) t (5 * l + a) ≤ 9
      rw [up_at rfl]
      exact ⟨rfl, ht⟩
    · rw [hI_ne (Or.inr c)]
      show hI h 69 (5 * p + b) = nZ (up s.1 (5 * l + a) t (5 * p + b)) ∧ up s.1 (5 * l + a) t (5 * p + b) ≤ 9
      rw [up_ne c]
      exact S.1 p b hp hb
  · by_cases c : 5 * p + b = 5 * l + a
    · rw [c, hI_at rfl]
      show nZ w = nZ (up s.2.1 (5 * l + a) w (5 * l + a)) ∧ up s.2.1 (5 * l + a) w (5 * l + a) ≤ 1
      rw [up_at rfl]
      exact ⟨rfl, hw⟩
    · rw [hI_ne (Or.inr c), hI_ne (by omega)]
      show hI h 71 (5 * p + b) = nZ (up s.2.1 (5 * l + a) w (5 * p + b)) ∧ up s.2.1 (5 * l + a) w (5 * p + b) ≤ 1
      rw [up_ne c]
      exact S.2.1 p b hp hb
  · rw [hI_ne (by omega), hI_ne (by omega)]
    exact S.2.2.1 x hx
  · rw [hI_ne (by omega), hI_ne (by omega)]
    exact S.2.2.2
theorem mS.hrs {h : QH} {W : Nat → Nat} {B : Nat} {s : PlS} (S : mS h W B s) (l t : Nat) (hl : l < 8) : mS (hsI (hsI h 72 l (nZ (W (4 * l + 2) - (s.2.2 l + t)))) 56 30 (nZ (B + sU s.2.2 + t))) W B (s.1, s.2.1, up s.2.2 l (s.2.2 l + t)) := by
  refine ⟨fun p b hp hb => ?_, fun p b hp hb => ?_, fun x hx => ?_, ?_⟩
  · rw [hI_ne (by omega), hI_ne (by omega)]
    exact S.1 p b hp hb
  · rw [hI_ne (by omega), hI_ne (by omega)]
    exact S.2.1 p b hp hb
  · rw [hI_ne (by omega)]
    show _ = nZ (W (4 * x + 2) - up s.2.2 l (s.2.2 l + t) x)
    by_cases c : x = l
    · rw [c, hI_at rfl, up_at rfl]
    · rw [hI_ne (Or.inr c), up_ne c]
      exact S.2.2.1 x hx
  · rw [hI_at rfl]
    show _ = nZ (B + sU (up s.2.2 l (s.2.2 l + t)))
    rw [sU_up hl, Nat.add_assoc]
/-- hours taken of one -/
theorem m194h {h : QH} {W : Nat → Nat} {B : Nat} {s : PlS} (S : mS h W B s) (l t : Nat) (hl : l < W 408) (u : s.2.2 l + t ≤ W (4 * l + 2)) : hI h 72 l - nZ t = nZ (W (4 * l + 2) - (s.2.2 l + t)) ∧ hI h 56 30 + nZ t = nZ (B + sU s.2.2 + t) := by
  rw [S.2.2.1 l hl, S.2.2.2, nZ_add, nZ_sub (by omega), Nat.sub_sub]
  exact ⟨rfl, rfl⟩
theorem m194s {h : QH} {W : Nat → Nat} {o : Option (List CL)} (X : MX h W o) (d i tk l B : Nat) (L Z0 : Nat → Nat) (s : PlS) (hi : i < 60) (hl : l < W 408) (P : mL h L) (Z : mZ h Z0) (S : mS h W B s) (u : (W (103 + 5 * i)).testBit l = true → s.2.2 l + tk ≤ W (4 * l + 2)) : ∃ k, qbig (d + 103) 194 46 [sR (some 56), sI (nZ i), sI (nZ (W (101 + 5 * i))), sI (nZ (W (102 + 5 * i))), sI (nZ tk), sI (nZ l), none] [] h = qbig (d + 103) 194 46 [sR (some 56), sI (nZ i), sI (nZ (W (101 + 5 * i))), sI (nZ (W (102 + 5 * i))), sI (nZ tk), sI (nZ (l + 1)), none] [] k ∧ Fr fR h k ∧ mS k W B (pH W o L Z0 i tk l s) := by
  have H := X.1
  have M := X.mm
  have n8 := M.n8
  obtain ⟨b0, b1, b2, b3, b4⟩ := X.2.2.1.sh hi
  have bp := pc_le _ b3
  have e232 := n232 M (d + 101)
  have lt1 : nZ l < nZ (W 408) := by
    rw [nZ_lt (by omega) (by omega)]
    exact hl
  have z00 : nZ 0 = (0 : Int32) := rfl
  have z10 : ¬(nZ 1 = (0 : Int32)) := by decide
  have ip : nZ l + 1 = nZ (l + 1) := by rw [L1, nZ_add]
  have e196 := m196 (d + 101) (W (103 + 5 * i)) l h (by omega) (by omega)
  have s3' : qcl (d + 102) 250 [qR (some 56), qI (nZ i), qI 3] h = some (some (qI (nZ (W (103 + 5 * i)))), h) := M.s (d + 101) hi (f := 3) (by decide)
  unfold pH
  by_cases cb : (W (103 + 5 * i)).testBit l = true
  case neg =>
    rw [if_neg cb]
    rw [bI_f cb] at e196
    refine ⟨h, ?_, Fr.refl, S⟩
    rw [E194_46, e232, jI, if_pos lt1, s3', jI, e196, jI, if_pos z00, ip]
  rw [if_pos cb]
  rw [bI_t cb] at e196
  obtain ⟨v1, v2⟩ := m194h S l tk hl (u cb)
  have S1' := S.hrs l tk (by omega)
  have H0 : Sh (hsI h 72 l (nZ (W (4 * l + 2) - (s.2.2 l + tk)))) := H
  have q30 : hI (hsI h 72 l (nZ (W (4 * l + 2) - (s.2.2 l + tk)))) 56 30 = hI h 56 30 := hI_ne (by omega)
  have F1 : Fr fR h (hsI (hsI h 72 l (nZ (W (4 * l + 2) - (s.2.2 l + tk)))) 56 30 (nZ (B + sU s.2.2 + tk))) := Fr.si rfl (Fr.si rfl Fr.refl)
  have pre : (∃ hh, hh = hsI (hsI h 72 l (nZ (W (4 * l + 2) - (s.2.2 l + tk)))) 56 30 (nZ (B + sU s.2.2 + tk))) := ⟨_, rfl⟩
  obtain ⟨hh, ehh⟩ := pre
  rw [← ehh] at S1' F1
  have X1 := X.fr F1 (fun j => rfl)
  have H1 := X1.1
  have M1 := X1.mm
  have P1 := P.fr F1 (fun j => rfl)
  have Z1 := Z.fr F1 (fun j => rfl)
  obtain ⟨x16, y16⟩ := P1 _ _ b1 b2
  obtain ⟨x19, y19⟩ := P1 l _ (by omega) b2
  have ix : (5 : Int32) * nZ (W (101 + 5 * i)) + nZ (W (102 + 5 * i)) = nZ (5 * W (101 + 5 * i) + W (102 + 5 * i)) := by rw [L5, nZ_mul, nZ_add]
  have ix2 : (5 : Int32) * nZ l + nZ (W (102 + 5 * i)) = nZ (5 * l + W (102 + 5 * i)) := by rw [L5, nZ_mul, nZ_add]
  have t0 : qcl (d + 102) 250 [qR (some 56), qI (nZ i), qI 0] hh = some (some (qI (nZ (W (100 + 5 * i)))), hh) := M1.s (d + 101) hi (f := 0) (by decide)
  have t3 : qcl (d + 102) 250 [qR (some 56), qI (nZ i), qI 3] hh = some (some (qI (nZ (W (103 + 5 * i)))), hh) := M1.s (d + 101) hi (f := 3) (by decide)
  have e228 := m228 (d + 101) _ b3 hh
  obtain ⟨h2, e170, F2, q2⟩ := m170 X1 (d + 100) (W (102 + 5 * i)) (W (100 + 5 * i)) (pc (W (103 + 5 * i))) (W (101 + 5 * i)) (L (5 * W (101 + 5 * i) + W (102 + 5 * i))) l (L (5 * l + W (102 + 5 * i))) b1 (by omega) b2 (by omega) (by omega) (by omega) (by omega)
  have X2 := X1.fr F2 (fun j => rfl)
  obtain ⟨h3, e193, F3⟩ := m193 X2 (q := pq W L i l) q2 d
  have X3 := X2.fr F3 (fun j => rfl)
  have H3 := X3.1
  have S3 := (S1'.fr F2).fr F3
  have Z3 := (Z1.fr F2 (fun j => rfl)).fr F3 (fun j => rfl)
  have bt : tw o 1 (pq W L i l) (L (5 * W (101 + 5 * i) + W (102 + 5 * i)) - 1) ≤ 9 := tw_le (by decide) (by omega)
  have e193' : qcl (d + 102) 193 [qR (some 56)] h2 = some (some (qI (nZ (tw o 1 (pq W L i l) (L (5 * W (101 + 5 * i) + W (102 + 5 * i)) - 1)))), h3) := e193
  have F13 : Fr fR h h3 := F1.trans ((F2.trans F3).mono fQ_R)
  obtain ⟨x31, y31⟩ := S3.1 l _ (by omega) b2
  have x31' : hI h3 69 (5 * l + W (102 + 5 * i)) = nZ (s.1 (5 * l + W (102 + 5 * i))) := x31
  have y31' : s.1 (5 * l + W (102 + 5 * i)) ≤ 9 := y31
  generalize tw o 1 (pq W L i l) (L (5 * W (101 + 5 * i) + W (102 + 5 * i)) - 1) = t at *
  by_cases ct : s.1 (5 * l + W (102 + 5 * i)) < t
  case neg =>
    rw [if_neg ct]
    have f1 : ¬(nZ (s.1 (5 * l + W (102 + 5 * i))) < nZ t) := by
      rw [nZ_lt (by omega) (by omega)]
      exact ct
    refine ⟨h3, ?_, F13, S3⟩
    rw [E194_46, e232, jI, if_pos lt1, s3', jI, e196, jI, if_neg z10, g56_27 H, ob_some, ob_some, A72 H (by omega), ob_some, ob_some, v1, S72 H (by omega), ob_some, g56_30 H0, ob_some, q30, v2, p56_30 H0, ob_some, ← ehh, g56_23 H1, ob_some, ob_some, ix, A68 H1 (by omega), ob_some, x16, ob_some, ob_some, ix2, A68 H1 (by omega), ob_some, x19, t0, jI, t3, jI, e228, jI, e170, jV, e193', jI, g56_24 H3, ob_some, ob_some, A69 H3 (by omega), ob_some, x31', if_neg f1, ip]
  rw [if_pos ct]
  have f1 : nZ (s.1 (5 * l + W (102 + 5 * i))) < nZ t := by
    rw [nZ_lt (by omega) (by omega)]
    exact ct
  have H4 : Sh (hsI h3 69 (5 * l + W (102 + 5 * i)) (nZ t)) := H3
  have M4 : MM (hsI h3 69 (5 * l + W (102 + 5 * i)) (nZ t)) W := (X3.fr (show Fr fR h3 (hsI h3 69 (5 * l + W (102 + 5 * i)) (nZ t)) from Fr.si rfl Fr.refl) (fun j => rfl)).mm
  have s4' : qcl (d + 102) 250 [qR (some 56), qI (nZ i), qI 4] (hsI h3 69 (5 * l + W (102 + 5 * i)) (nZ t)) = some (some (qI (nZ (W (104 + 5 * i)))), (hsI h3 69 (5 * l + W (102 + 5 * i)) (nZ t))) := M4.s (d + 101) hi (f := 4) (by decide)
  obtain ⟨x42, y42⟩ := Z3 _ _ b1 b2
  have x42' : hI (hsI h3 69 (5 * l + W (102 + 5 * i)) (nZ t)) 70 (5 * W (101 + 5 * i) + W (102 + 5 * i)) = nZ (Z0 (5 * W (101 + 5 * i) + W (102 + 5 * i))) := by
    rw [hI_ne (by omega)]
    exact x42
  have v11 : (1 : Int32) &&& 1 = nZ 1 := by decide
  have v00 : (0 : Int32) &&& 1 = nZ 0 := by decide
  have fin : ∀ w, w ≤ 1 → Fr fR h (hsI (hsI h3 69 (5 * l + W (102 + 5 * i)) (nZ t)) 71 (5 * l + W (102 + 5 * i)) (nZ w)) ∧ mS (hsI (hsI h3 69 (5 * l + W (102 + 5 * i)) (nZ t)) 71 (5 * l + W (102 + 5 * i)) (nZ w)) W B (up s.1 (5 * l + W (102 + 5 * i)) t, up s.2.1 (5 * l + W (102 + 5 * i)) w, up s.2.2 l (s.2.2 l + tk)) := fun w hw => ⟨Fr.si rfl (Fr.si rfl F13), S3.lev l (W (102 + 5 * i)) t w bt hw⟩
  generalize Z0 (5 * W (101 + 5 * i) + W (102 + 5 * i)) = z at *
  by_cases cw : W (104 + 5 * i) = 1
  · have ew : nZ (W (104 + 5 * i)) = (1 : Int32) := by
      rw [cw]
      rfl
    have eo : W (104 + 5 * i) ||| z = 1 := by
      rw [cw]
      have : z = 0 ∨ z = 1 := by omega
      rcases this with e | e <;> rw [e] <;> rfl
    rw [eo]
    refine ⟨_, ?_, (fin 1 (by decide)).1, (fin 1 (by decide)).2⟩
    rw [E194_46, e232, jI, if_pos lt1, s3', jI, e196, jI, if_neg z10, g56_27 H, ob_some, ob_some, A72 H (by omega), ob_some, ob_some, v1, S72 H (by omega), ob_some, g56_30 H0, ob_some, q30, v2, p56_30 H0, ob_some, ← ehh, g56_23 H1, ob_some, ob_some, ix, A68 H1 (by omega), ob_some, x16, ob_some, ob_some, ix2, A68 H1 (by omega), ob_some, x19, t0, jI, t3, jI, e228, jI, e170, jV, e193', jI, g56_24 H3, ob_some, ob_some, A69 H3 (by omega), ob_some, x31', if_pos f1, ob_some, ob_some, S69 H3 (by omega), ob_some, g56_26 H4, ob_some, s4', jI, if_pos ew, ob_some, v11, S71 H4 (by omega), ob_some, ip]
  have ew : ¬(nZ (W (104 + 5 * i)) = (1 : Int32)) := by
    rw [L1, nZ_eq (by omega) (by decide)]
    exact cw
  have cw0 : W (104 + 5 * i) = 0 := by omega
  have eo : W (104 + 5 * i) ||| z = z := by
    rw [cw0, Nat.zero_or]
  rw [eo]
  by_cases cz : z = 0
  · have ez : nZ z = (0 : Int32) := by
      rw [cz]
      rfl
    rw [cz]
    refine ⟨_, ?_, (fin 0 (by decide)).1, (fin 0 (by decide)).2⟩
    rw [E194_46, e232, jI, if_pos lt1, s3', jI, e196, jI, if_neg z10, g56_27 H, ob_some, ob_some, A72 H (by omega), ob_some, ob_some, v1, S72 H (by omega), ob_some, g56_30 H0, ob_some, q30, v2, p56_30 H0, ob_some, ← ehh, g56_23 H1, ob_some, ob_some, ix, A68 H1 (by omega), ob_some, x16, ob_some, ob_some, ix2, A68 H1 (by omega), ob_some, x19, t0, jI, t3, jI, e228, jI, e170, jV, e193', jI, g56_24 H3, ob_some, ob_some, A69 H3 (by omega), ob_some, x31', if_pos f1, ob_some, ob_some, S69 H3 (by omega), ob_some, g56_26 H4, ob_some, s4', jI, if_neg ew, g56_25 H4, ob_some, ob_some, A70 H4 (by omega), ob_some, x42', if_pos ez, ob_some, v00, S71 H4 (by omega), ob_some, ip]
  · have ez : ¬(nZ z = (0 : Int32)) := by
      rw [L0, nZ_eq (by omega) (by decide)]
      exact cz
    have z1 : z = 1 := by omega
    rw [z1]
    refine ⟨_, ?_, (fin 1 (by decide)).1, (fin 1 (by decide)).2⟩
    rw [E194_46, e232, jI, if_pos lt1, s3', jI, e196, jI, if_neg z10, g56_27 H, ob_some, ob_some, A72 H (by omega), ob_some, ob_some, v1, S72 H (by omega), ob_some, g56_30 H0, ob_some, q30, v2, p56_30 H0, ob_some, ← ehh, g56_23 H1, ob_some, ob_some, ix, A68 H1 (by omega), ob_some, x16, ob_some, ob_some, ix2, A68 H1 (by omega), ob_some, x19, t0, jI, t3, jI, e228, jI, e170, jV, e193', jI, g56_24 H3, ob_some, ob_some, A69 H3 (by omega), ob_some, x31', if_pos f1, ob_some, ob_some, S69 H3 (by omega), ob_some, g56_26 H4, ob_some, s4', jI, if_neg ew, g56_25 H4, ob_some, ob_some, A70 H4 (by omega), ob_some, x42', if_neg ez, ob_some, v11, S71 H4 (by omega), ob_some, ip]

/-! calls upon the plan -/
theorem nW_fLv : nW fLv := by
  refine ⟨?_, ?_, ?_, rfl, rfl⟩
  · intro b j hb
    have : b = 0 ∨ b = 1 ∨ b = 2 ∨ b = 3 ∨ b = 4 ∨ b = 5 ∨ b = 6 ∨ b = 7 ∨ b = 8 ∨ b = 9 := by omega
    rcases this with e | e | e | e | e | e | e | e | e | e <;> subst e <;> rfl
  · intro b j h1 h2
    have : b = 11 ∨ b = 12 ∨ b = 13 ∨ b = 14 ∨ b = 15 ∨ b = 16 ∨ b = 17 ∨ b = 18 ∨ b = 19 ∨ b = 20 ∨ b = 21 ∨ b = 22 ∨ b = 23 ∨ b = 24 ∨ b = 25 := by omega
    rcases this with e | e | e | e | e | e | e | e | e | e | e | e | e | e | e <;> subst e <;> rfl
  · intro b j hb
    unfold fLv
    split <;> first | omega | rfl
theorem nW_fPl : nW fPl := by
  obtain ⟨n1, n2, n3, n4, n5⟩ := nW_fP
  refine ⟨fun b j hb => ?_, fun b j h1 h2 => ?_, fun b j hb => ?_, rfl, rfl⟩
  · unfold fPl
    rw [n1 b j hb]
    split <;> first | omega | rfl
  · unfold fPl
    rw [n2 b j h1 h2]
    split <;> first | omega | rfl
  · unfold fPl
    rw [n3 b j hb]
    split <;> first | omega | rfl
theorem nK_fPl : nK fPl := ⟨nW_fPl, fun j => ⟨rfl, rfl, rfl, rfl, rfl, rfl, rfl⟩, ⟨rfl, rfl, rfl, rfl, rfl⟩⟩
theorem nK_fLv : nK fLv := ⟨nW_fLv, fun j => ⟨rfl, rfl, rfl, rfl, rfl, rfl, rfl⟩, ⟨rfl, rfl, rfl, rfl, rfl⟩⟩
def fPN (b j : Nat) : Bool := fPl b j || fLv b j
theorem fPl_N (b j : Nat) (h : fPl b j = true) : fPN b j = true := by
  unfold fPN
  rw [h]
  rfl
theorem fLv_N (b j : Nat) (h : fLv b j = true) : fPN b j = true := by
  unfold fPN
  rw [h, Bool.or_true]
/-- none, or a count so far -/
def sb1 (x : Int32) (c : Nat) : Prop := x = -1 ∨ ∃ m, m ≤ c ∧ x = nZ m
/-- what is kept of the plan -/
def PlR (h : QH) (W : Nat → Nat) (c : Nat) : Prop := (∀ j, j < 40 → hI h 42 j = nZ 0) ∧ (hI h 40 4 = nZ c → ∀ o, LFM W o → pA W o 30 h) ∧ sb1 (hI h 40 4) c
def PlanP (h k : QH) (W : Nat → Nat) (c : Nat) (T : Nat → Nat) : Prop := K0 k W c T ∧ Fr fPN h k ∧ PlR k W c
theorem LFM_u {W : Nat → Nat} {o o' : Option (List CL)} (a : LFM W o) (b : LFM W o') : o = o' := by
  rcases a with ⟨a1, a2⟩ | ⟨L, a1, a2, a3⟩
  · rcases b with ⟨b1, b2⟩ | ⟨L', b1, b2, b3⟩
    · rw [a2, b2]
    · omega
  · rcases b with ⟨b1, b2⟩ | ⟨L', b1, b2, b3⟩
    · omega
    · have e := a3.2.1.symm.trans b3.2.1
      rw [a2, b2, Sum.inr.inj e]
theorem pA.of {h k : QH} {W : Nat → Nat} {o : Option (List CL)} {y : Nat} (A : pA W o y h) (e : ∀ b j, 41 ≤ b → b ≤ 44 → hI k b j = hI h b j) : pA W o y k := by
  obtain ⟨a1, a2, a3, a4⟩ := A
  refine ⟨fun x hx p a hp ha => ?_, fun x hx p a hp ha => ?_, fun x hx l hl => ?_, fun j hj z => ?_⟩
  · rw [e 41 _ (by decide) (by decide)]
    exact a1 x hx p a hp ha
  · rw [e 42 _ (by decide) (by decide)]
    exact a2 x hx p a hp ha
  · rw [e 43 _ (by decide) (by decide)]
    exact a3 x hx l hl
  · rw [e 44 _ (by decide) (by decide)]
    exact a4 j hj z
theorem pl_run {h : QH} {W : Nat → Nat} {c : Nat} {T : Nat → Nat} (KK : K1 h W c T) (R : PlR h W c) (d : Nat) : ∃ o k, LFM W o ∧ qcl (d + 7) 96 [qR (some 40), qR (some 11), qR (some 36), qI (nZ c)] h = some (none, k) ∧ Fr fPl h k ∧ pA W o 30 k ∧ K0 k W c T ∧ PlR k W c := by
  obtain ⟨o, r, X, F⟩ := KK.ox
  obtain ⟨k, e96, Fk, Ak, ck, zk⟩ := c96 X d c R.1 (fun z => R.2.1 z o F)
  exact ⟨o, k, F, e96, Fk, Ak, KK.1.fr Fk nK_fPl, zk, (fun _ o' F' => by
    rw [LFM_u F' F]
    exact Ak), Or.inr ⟨c, Nat.le_refl c, ck⟩⟩
theorem PlR.of {h k : QH} {W : Nat → Nat} {c : Nat} (R : PlR h W c) (e : ∀ b j, 40 ≤ b → b ≤ 44 → hI k b j = hI h b j) : PlR k W c := by
  refine ⟨fun j hj => ?_, fun z o F => ?_, by rw [e 40 _ (by decide) (by decide)]; exact R.2.2⟩
  · rw [e 42 _ (by decide) (by decide)]
    exact R.1 j hj
  · rw [e 40 _ (by decide) (by decide)] at z
    exact (R.2.1 z o F).of (fun b j h1 h2 => e b j (by omega) h2)
theorem fLv_40 (b j : Nat) (h1 : 40 ≤ b) (h2 : b ≤ 44) : fLv b j = false := by
  have : b = 40 ∨ b = 41 ∨ b = 42 ∨ b = 43 ∨ b = 44 := by omega
  rcases this with e | e | e | e | e <;> subst e <;> rfl
/-- both go through the plan -/
theorem both_run {h : QH} {W : Nat → Nat} {c : Nat} {T : Nat → Nat} (KK : K1 h W c T) (R : PlR h W c) (d u : Nat) (hu : u < 30) : ∃ o k m, LFM W o ∧ qcl (d + 119) 96 [qR (some 40), qR (some 11), qR (some 36), qI (nZ c)] h = some (none, k) ∧ pA W o 30 k ∧ K0 k W c T ∧ qcl (d + 119) 219 [qR (some 56), qI (nZ u)] k = some (none, m) ∧ mI m W o (u + 1) ∧ PlanP h m W c T := by
  obtain ⟨o, k, F, e96, Fk, Ak, Kk, Rk⟩ := pl_run KK R (d + 112)
  obtain ⟨m, e219, Fm, Im⟩ := m219 (K1.mx Kk F) (d + 14) u hu
  exact ⟨o, k, m, F, e96, Ak, Kk, e219, Im, Kk.fr Fm nK_fLv, (Fk.mono fPl_N).trans (Fm.mono fLv_N), Rk.of (fun b j h1 h2 => Fm.2 b j (fLv_40 b j h1 h2))⟩
theorem PlanP.same {h : QH} {W : Nat → Nat} {c : Nat} {T : Nat → Nat} (K : K0 h W c T) (R : PlR h W c) : PlanP h h W c T := ⟨K, Fr.refl, R⟩
theorem e218_30 (d : Nat) (x : Int32) (h : QH) : qcl (d + 1) 218 [qI x, qI 0, qI 29] h = some (some (qI (bI (ltN x 30))), h) := by
  have e : qcl (d + 1) 218 [qI x, qI 0, qI 29] h = some (some (qI (bI (inR x 0 29))), h) := m218 d x 0 29 (by decide) (by decide) h
  rw [e]
  by_cases c : ltN x 30
  · rw [bI_t c, bI_t (show inR x 0 29 from by
      have q := inR_lt (x := x) (n := 30) (by decide)
      exact cast q.symm c)]
  · rw [bI_f c, bI_f (fun z => c (by
      have q := inR_lt (x := x) (n := 30) (by decide)
      exact cast q z))]
theorem op_behind {h : QH} {W : Nat → Nat} {c : Nat} {T : Nat → Nat} (KK : K1 h W c T) (R : PlR h W c) (d : Nat) (a1 a2 a3 : Int32) : Op (d + 120) 16 173 [qI a1, qI a2, qI a3] h (fun k => PlanP h k W c T) := by
  have K := KK.1
  have H := K.sh
  have n8 := K.n8
  have n5 := K.n5
  have M : MM h W := ⟨H, K.mk, K.wi⟩
  have e21 := c21 (d + 118) a1 h
  have e161 := k161 K (d + 117) a2 a3
  have e218 := e218_30 (d + 118) a1 h
  have e203 := n203 M (d + 117) a2
  have e200 := n200 M (d + 117) a3
  have z00 : nZ 0 = (0 : Int32) := rfl
  have z10 : ¬(nZ 1 = (0 : Int32)) := by decide
  by_cases h1 : ltN a1 30
  case neg =>
    rw [bI_f h1] at e21 e218
    refine ⟨-1, h, h, ?_, ?_, PlanP.same K R⟩
    · rw [E16, ck10 H, ob_some, e21, jI, if_pos z00]
    · rw [E173, ck56 H, ob_some, e218, jI, if_pos z00]
  rw [bI_t h1] at e21 e218
  by_cases h2 : ltN a2 (W 408)
  case neg =>
    rw [bI_f (fun z => h2 z.1)] at e161
    rw [bI_f h2] at e203
    refine ⟨-1, h, h, ?_, ?_, PlanP.same K R⟩
    · rw [E16, ck10 H, ob_some, e21, jI, if_neg z10, g10_0 H, ob_some, e161, jI, if_pos z00]
    · rw [E173, ck56 H, ob_some, e218, jI, if_neg z10, e203, jI, if_pos z00]
  rw [bI_t h2] at e203
  by_cases h3 : ltN a3 (W 409)
  case neg =>
    rw [bI_f (fun z => h3 z.2)] at e161
    rw [bI_f h3] at e200
    refine ⟨-1, h, h, ?_, ?_, PlanP.same K R⟩
    · rw [E16, ck10 H, ob_some, e21, jI, if_neg z10, g10_0 H, ob_some, e161, jI, if_pos z00]
    · rw [E173, ck56 H, ob_some, e218, jI, if_neg z10, e203, jI, if_neg z10, e200, jI, if_pos z00]
  rw [bI_t ⟨h2, h3⟩] at e161
  rw [bI_t h3] at e200
  obtain ⟨y, hy, rfl⟩ := ltN_ex h1
  obtain ⟨p, hp, rfl⟩ := ltN_ex h2
  obtain ⟨a, ha, rfl⟩ := ltN_ex h3
  obtain ⟨o, k, m, F, e96, Ak, Kk, e219, Im, PP⟩ := both_run KK R d y hy
  have Hk := Kk.sh
  have Hm := PP.1.sh
  have kc : hI h 10 10 = nZ c := K.2.2.2.2.2.1.1
  have Mk : MM k W := ⟨Hk, Kk.mk, Kk.wi⟩
  have e218' := e218_30 (d + 118) (nZ y) k
  rw [bI_t h1] at e218'
  have e203' := n203 Mk (d + 117) (nZ p)
  rw [bI_t h2] at e203'
  have e200' := n200 Mk (d + 117) (nZ a)
  rw [bI_t h3] at e200'
  have ix : (nZ y + 1) * 40 + nZ (p * 5 + a) = nZ ((y + 1) * 40 + (p * 5 + a)) := by rw [L1, L40, nZ_add, nZ_mul, nZ_add]
  have ix2 : (5 : Int32) * nZ p + nZ a = nZ (5 * p + a) := by rw [L5, nZ_mul, nZ_add]
  have v1 := (Ak.1 (y + 1) (by omega) p a (by omega) (by omega)).1
  have v2 := (Im.1 p a (by omega) (by omega)).1
  refine ⟨nZ ((pY W o (y + 1)).1 (5 * p + a)), k, m, ?_, ?_, PP⟩
  · rw [E16, ck10 H, ob_some, e21, jI, if_neg z10, g10_0 H, ob_some, e161, jI, if_neg z10, g10_5 H, ob_some, g10_0 H, ob_some, g10_4 H, ob_some, g10_10 H, ob_some, kc, e96, jV, g10_5 Hk, ob_some, ob_some, g40_0 Hk, ob_some, c18, jI, ob_some, ix, A41 Hk (by omega), ob_some, v1]
  · rw [E173, ck56 Hk, ob_some, e218', jI, if_neg z10, e203', jI, if_neg z10, e200', jI, if_neg z10, e219, jV, g56_23 Hm, ob_some, ob_some, ix2, A68 Hm (by omega), ob_some, v2]
theorem op_has {h : QH} {W : Nat → Nat} {c : Nat} {T : Nat → Nat} (KK : K1 h W c T) (R : PlR h W c) (d : Nat) (a1 a2 a3 : Int32) : Op (d + 120) 30 195 [qI a1, qI a2, qI a3] h (fun k => PlanP h k W c T) := by
  have K := KK.1
  have H := K.sh
  have n8 := K.n8
  have n5 := K.n5
  have M : MM h W := ⟨H, K.mk, K.wi⟩
  have e21 := c21 (d + 118) a1 h
  have e161 := k161 K (d + 117) a2 a3
  have e218 := e218_30 (d + 118) a1 h
  have e203 := n203 M (d + 117) a2
  have e200 := n200 M (d + 117) a3
  have z00 : nZ 0 = (0 : Int32) := rfl
  have z10 : ¬(nZ 1 = (0 : Int32)) := by decide
  by_cases h1 : ltN a1 30
  case neg =>
    rw [bI_f h1] at e21 e218
    refine ⟨-1, h, h, ?_, ?_, PlanP.same K R⟩
    · rw [E30, ck10 H, ob_some, e21, jI, if_pos z00]
    · rw [E195, ck56 H, ob_some, e218, jI, if_pos z00]
  rw [bI_t h1] at e21 e218
  by_cases h2 : ltN a2 (W 408)
  case neg =>
    rw [bI_f (fun z => h2 z.1)] at e161
    rw [bI_f h2] at e203
    refine ⟨-1, h, h, ?_, ?_, PlanP.same K R⟩
    · rw [E30, ck10 H, ob_some, e21, jI, if_neg z10, g10_0 H, ob_some, e161, jI, if_pos z00]
    · rw [E195, ck56 H, ob_some, e218, jI, if_neg z10, e203, jI, if_pos z00]
  rw [bI_t h2] at e203
  by_cases h3 : ltN a3 (W 409)
  case neg =>
    rw [bI_f (fun z => h3 z.2)] at e161
    rw [bI_f h3] at e200
    refine ⟨-1, h, h, ?_, ?_, PlanP.same K R⟩
    · rw [E30, ck10 H, ob_some, e21, jI, if_neg z10, g10_0 H, ob_some, e161, jI, if_pos z00]
    · rw [E195, ck56 H, ob_some, e218, jI, if_neg z10, e203, jI, if_neg z10, e200, jI, if_pos z00]
  rw [bI_t ⟨h2, h3⟩] at e161
  rw [bI_t h3] at e200
  obtain ⟨y, hy, rfl⟩ := ltN_ex h1
  obtain ⟨p, hp, rfl⟩ := ltN_ex h2
  obtain ⟨a, ha, rfl⟩ := ltN_ex h3
  obtain ⟨o, k, m, F, e96, Ak, Kk, e219, Im, PP⟩ := both_run KK R d y hy
  have Hk := Kk.sh
  have Hm := PP.1.sh
  have kc : hI h 10 10 = nZ c := K.2.2.2.2.2.1.1
  have Mk : MM k W := ⟨Hk, Kk.mk, Kk.wi⟩
  have e218' := e218_30 (d + 118) (nZ y) k
  rw [bI_t h1] at e218'
  have e203' := n203 Mk (d + 117) (nZ p)
  rw [bI_t h2] at e203'
  have e200' := n200 Mk (d + 117) (nZ a)
  rw [bI_t h3] at e200'
  have ix : (nZ y + 1) * 40 + nZ (p * 5 + a) = nZ ((y + 1) * 40 + (p * 5 + a)) := by rw [L1, L40, nZ_add, nZ_mul, nZ_add]
  have ix2 : (5 : Int32) * nZ p + nZ a = nZ (5 * p + a) := by rw [L5, nZ_mul, nZ_add]
  have v1 := Ak.2.1 (y + 1) (by omega) p a (by omega) (by omega)
  obtain ⟨v2, w2⟩ := Im.2.1 p a (by omega) (by omega)
  refine ⟨nZ ((pY W o (y + 1)).2 (5 * p + a)), k, m, ?_, ?_, PP⟩
  · rw [E30, ck10 H, ob_some, e21, jI, if_neg z10, g10_0 H, ob_some, e161, jI, if_neg z10, g10_5 H, ob_some, g10_0 H, ob_some, g10_4 H, ob_some, g10_10 H, ob_some, kc, e96, jV, g10_5 Hk, ob_some, ob_some, g40_1 Hk, ob_some, c18, jI, ob_some, ix, A42 Hk (by omega), ob_some, v1]
  · rw [E195, ck56 Hk, ob_some, e218', jI, if_neg z10, e203', jI, if_neg z10, e200', jI, if_neg z10, e219, jV, g56_25 Hm, ob_some, ob_some, ix2, A70 Hm (by omega), ob_some, v2]
    have : (pY W o (y + 1)).2 (5 * p + a) = 0 ∨ (pY W o (y + 1)).2 (5 * p + a) = 1 := by omega
    rcases this with e | e
    · rw [e, if_pos z00]
      rfl
    · rw [e, if_neg z10]
      rfl
theorem op_spent {h : QH} {W : Nat → Nat} {c : Nat} {T : Nat → Nat} (KK : K1 h W c T) (R : PlR h W c) (d : Nat) (a1 a2 : Int32) : Op (d + 120) 53 259 [qI a1, qI a2] h (fun k => PlanP h k W c T) := by
  have K := KK.1
  have H := K.sh
  have n8 := K.n8
  have M : MM h W := ⟨H, K.mk, K.wi⟩
  have e21 := c21 (d + 118) a1 h
  have e80 := k80 K (d + 118) a2
  have e218 := e218_30 (d + 118) a1 h
  have e203 := n203 M (d + 117) a2
  have z00 : nZ 0 = (0 : Int32) := rfl
  have z10 : ¬(nZ 1 = (0 : Int32)) := by decide
  by_cases h1 : ltN a1 30
  case neg =>
    rw [bI_f h1] at e21 e218
    refine ⟨-1, h, h, ?_, ?_, PlanP.same K R⟩
    · rw [E53, ck10 H, ob_some, e21, jI, if_pos z00]
    · rw [E259, ck56 H, ob_some, e218, jI, if_pos z00]
  rw [bI_t h1] at e21 e218
  by_cases h2 : ltN a2 (W 408)
  case neg =>
    rw [bI_f h2] at e80 e203
    refine ⟨-1, h, h, ?_, ?_, PlanP.same K R⟩
    · rw [E53, ck10 H, ob_some, e21, jI, if_neg z10, g10_0 H, ob_some, ob_some, g11_0 H, ob_some, e80, jI, if_pos z00]
    · rw [E259, ck56 H, ob_some, e218, jI, if_neg z10, e203, jI, if_pos z00]
  rw [bI_t h2] at e80 e203
  obtain ⟨y, hy, rfl⟩ := ltN_ex h1
  obtain ⟨p, hp, rfl⟩ := ltN_ex h2
  obtain ⟨o, k, m, F, e96, Ak, Kk, e219, Im, PP⟩ := both_run KK R d y hy
  have Hk := Kk.sh
  have Hm := PP.1.sh
  have kc : hI h 10 10 = nZ c := K.2.2.2.2.2.1.1
  have Mk : MM k W := ⟨Hk, Kk.mk, Kk.wi⟩
  have Mm : MM m W := ⟨Hm, PP.1.mk, PP.1.wi⟩
  have e218' := e218_30 (d + 118) (nZ y) k
  rw [bI_t h1] at e218'
  have e203' := n203 Mk (d + 117) (nZ p)
  rw [bI_t h2] at e203'
  have e227 : qcl (d + 119) 227 [qR (some 56), qI (nZ p), qI 2] m = some (some (qI (nZ (W (4 * p + 2)))), m) := by
    have e := m227 Hm (d + 118) p 2 (by omega) (by decide)
    rw [Mm.at (by omega) (by omega)] at e
    exact e
  have ix : nZ y * 8 + nZ p = nZ (y * 8 + p) := by rw [L8, nZ_mul, nZ_add]
  have v1 := Ak.2.2.1 y hy p (by omega)
  rw [if_pos (by omega)] at v1
  have v2 := Im.2.2.2.2.2.2.2 (by omega) p hp
  rw [show y + 1 - 1 = y by omega] at v2
  have U9 : (pK W o y (W 410)).2.2 p ≤ W (4 * p + 2) := pD_u (fun l hl => Nat.zero_le _) (W 410) p (by omega)
  refine ⟨nZ ((pK W o y (W 410)).2.2 p), k, m, ?_, ?_, PP⟩
  · rw [E53, ck10 H, ob_some, e21, jI, if_neg z10, g10_0 H, ob_some, ob_some, g11_0 H, ob_some, e80, jI, if_neg z10, g10_5 H, ob_some, g10_0 H, ob_some, g10_4 H, ob_some, g10_10 H, ob_some, kc, e96, jV, g10_5 Hk, ob_some, ob_some, g40_2 Hk, ob_some, ob_some, ix, A43 Hk (by omega), ob_some, v1]
  · rw [E259, ck56 Hk, ob_some, e218', jI, if_neg z10, e203', jI, if_neg z10, e219, jV, e227, jI, g56_27 Hm, ob_some, ob_some, A72 Hm (by omega), ob_some, v2, nZ_sub (by omega), show W (4 * p + 2) - (W (4 * p + 2) - (pK W o y (W 410)).2.2 p) = (pK W o y (W 410)).2.2 p by omega]
theorem op_why {h : QH} {W : Nat → Nat} {c : Nat} {T : Nat → Nat} (KK : K1 h W c T) (R : PlR h W c) (d : Nat) (a1 : Int32) : Op (d + 120) 62 274 [qI a1] h (fun k => PlanP h k W c T) := by
  have K := KK.1
  have H := K.sh
  have M : MM h W := ⟨H, K.mk, K.wi⟩
  have n60 := M.n60
  have e128 := k128 K (d + 118) a1
  have x3 : ∀ k, MM k W → qai 0 58 410 k = some (nZ (W 410)) := fun k Mk => by
    have e : qai 0 58 (nZ 410) k = some (hI k 58 410) := A58 Mk.1 (by decide)
    rw [Mk.at (by decide) (by decide)] at e
    exact e
  have e218 : ∀ k, qcl (d + 119) 218 [qI a1, qI 0, qI (nZ (W 410) - 1)] k = some (some (qI (bI (ltN a1 (W 410)))), k) := fun k => m218' (d + 118) a1 (W 410) (by omega) k
  have z00 : nZ 0 = (0 : Int32) := rfl
  have z10 : ¬(nZ 1 = (0 : Int32)) := by decide
  by_cases h1 : ltN a1 (W 410)
  case neg =>
    rw [bI_f h1] at e128
    have e218' := e218 h
    rw [bI_f h1] at e218'
    refine ⟨-1, h, h, ?_, ?_, PlanP.same K R⟩
    · rw [E62, ck10 H, ob_some, g10_0 H, ob_some, ob_some, g11_2 H, ob_some, e128, jI, if_pos z00]
    · rw [E274, ck56 H, ob_some, g56_3 H, ob_some, ob_some, x3 h M, ob_some, e218', jI, if_pos z00]
  rw [bI_t h1] at e128
  obtain ⟨i, hi, rfl⟩ := ltN_ex h1
  obtain ⟨b0, b1, b2, b3, b4⟩ := K.wi.sh (i := i) (by omega)
  obtain ⟨o, k, m, F, e96, Ak, Kk, e219, Im, PP⟩ := both_run KK R d (W (100 + 5 * i)) b0
  have Hk := Kk.sh
  have Hm := PP.1.sh
  have kc : hI h 10 10 = nZ c := K.2.2.2.2.2.1.1
  have Mk : MM k W := ⟨Hk, Kk.mk, Kk.wi⟩
  have e218' := e218 k
  rw [bI_t h1] at e218'
  have s0 : qcl (d + 119) 250 [qR (some 56), qI (nZ i), qI 0] k = some (some (qI (nZ (W (100 + 5 * i)))), k) := Mk.s (d + 118) (by omega) (f := 0) (by decide)
  have v1 := Ak.2.2.2 i hi b0
  have v2 := Im.2.2.2.2.2.2.1 i hi (by omega)
  refine ⟨nZ (pW W o i), k, m, ?_, ?_, PP⟩
  · rw [E62, ck10 H, ob_some, g10_0 H, ob_some, ob_some, g11_2 H, ob_some, e128, jI, if_neg z10, g10_5 H, ob_some, g10_0 H, ob_some, g10_4 H, ob_some, g10_10 H, ob_some, kc, e96, jV, g10_5 Hk, ob_some, ob_some, g40_3 Hk, ob_some, ob_some, A44 Hk (by omega), ob_some, v1]
  · rw [E274, ck56 Hk, ob_some, g56_3 Hk, ob_some, ob_some, x3 k Mk, ob_some, e218', jI, if_neg z10, s0, jI, e219, jV, g56_32 Hm, ob_some, ob_some, A73 Hm (by omega), ob_some, v2]

/-! first: the call -/
theorem m258 {h : QH} {W : Nat → Nat} {c : Nat} (M : MM h W) (d a : Nat) (v1 : hI h 56 1 = nZ c) (R : SoR h W c) (ha : a < W 409) : ∃ k v, qcl (d + 36) 258 [qR (some 56), qI (nZ a)] h = some (some (qI v), k) ∧ Fr fSo h k ∧ SoR k W c ∧ bgn k a (2 ^ W 408 - 1) ∧ dC k W a (2 ^ W 408 - 1) ∧ hI k 56 36 = -1 ∧ dys W a (2 ^ W 408 - 1) (kw W a) v := by
  have H := M.1
  have n8 := M.n8
  have n5 := M.n5
  have z10 : ¬(nZ 1 = (0 : Int32)) := by decide
  have h1 : ltN (nZ a) (W 409) := by
    rw [ltN_n (by omega)]
    exact ha
  have e200 := n200 M (d + 33) (nZ a)
  rw [bI_t h1] at e200
  have e211 := m211 M (d + 33) a (by omega)
  obtain ⟨hE, hEn⟩ := EB_lt (W := W) n8 (b := -1) (E := 2 ^ W 408 - 1) (Or.inl ⟨rfl, rfl⟩)
  obtain ⟨g1, e1, F1, B1, b36, b37, D1⟩ := m172 M (d + 32) a (-1) (2 ^ W 408 - 1) v1 R ha (Or.inl ⟨rfl, rfl⟩)
  have M1 := M.fr F1 (fun j => rfl)
  have H1 := M1.1
  obtain ⟨k, v, ek, Fk, Dk, sv⟩ := m256 d a (2 ^ W 408 - 1) ha hE hEn 30 0 (kw W a) g1 (by decide) (kw_lt n8) kw_sbs M1 B1 D1
  have ek' : qcl (d + 34) 256 [qR (some 56), qI 0, qI (nZ (kw W a))] g1 = some (some (qI (nZ v)), k) := ek
  have Bk : bgn k a (2 ^ W 408 - 1) := B1.fr Fk (fSf_n (by decide) (by decide)) (fSf_n (by decide) (by decide))
  have k36 : hI k 56 36 = -1 := by
    rw [Fk.2 56 36 (fSf_n (by decide) (by decide))]
    exact b36
  have Rk : SoR k W c := ⟨Or.inr ⟨c, Nat.le_refl c, by
    rw [Fk.2 56 37 (fSf_n (by decide) (by decide))]
    exact b37⟩, fun _ => ⟨a, 2 ^ W 408 - 1, ha, Bk, by
    rw [k36]
    exact Or.inl ⟨rfl, rfl⟩, Dk⟩⟩
  have vl := sfv_le sv
  have e257 : ∀ x, (if nZ v < 1000 then some (some (qI (nZ v)), k) else some (some (qI (-1)), k)) = some (some (qI x), k) → qcl (d + 35) 257 [qR (some 56), qI (nZ a), qI (-1), qI (nZ (kw W a))] h = some (some (qI x), k) := fun x hx => by
    rw [E257, ck56 H, ob_some, e1, jV, g56_38 H1, ob_some, B1.2, nZ_and, kw_and n8, ek', jI]
    exact hx
  rcases sv with ⟨s1', s2'⟩ | ⟨s1', s2', s3'⟩
  · have nl : ¬(nZ v < 1000) := by
      rw [s1']
      decide
    have e := e257 (-1) (by rw [if_neg nl])
    refine ⟨k, -1, ?_, (F1.mono fBg_So).trans (Fk.mono fSf_So), Rk, Bk, Dk, k36, Or.inl ⟨rfl, fun m hm => s2' m (by omega)⟩⟩
    rw [E258, ck56 H, ob_some, e200, jI, if_neg z10, e211, jI, e, jI]
  · have nl : nZ v < 1000 := by
      rw [L1000, nZ_lt (by omega) (by decide)]
      omega
    have e := e257 (nZ v) (by rw [if_pos nl])
    refine ⟨k, nZ v, ?_, (F1.mono fBg_So).trans (Fk.mono fSf_So), Rk, Bk, Dk, k36, Or.inr ⟨v, by omega, rfl, s2', s3'⟩⟩
    rw [E258, ck56 H, ob_some, e200, jI, if_neg z10, e211, jI, e, jI]
def fFS (b j : Nat) : Bool := fFp b j || fSo b j
theorem fFp_FS (b j : Nat) (h : fFp b j = true) : fFS b j = true := by
  unfold fFS
  rw [h]
  rfl
theorem fSo_FS (b j : Nat) (h : fSo b j = true) : fFS b j = true := by
  unfold fFS
  rw [h, Bool.or_true]
theorem nW_fFp : nW fFp := by
  refine ⟨?_, ?_, ?_, rfl, rfl⟩
  · intro b j hb
    unfold fFp
    split <;> first | omega | rfl
  · intro b j h1 h2
    exact fFp_n b j h1 h2
  · intro b j hb
    unfold fFp
    split <;> first | omega | rfl
theorem nK_fFp : nK fFp := ⟨nW_fFp, fun j => ⟨rfl, rfl, rfl, rfl, rfl, rfl, rfl⟩, ⟨rfl, rfl, rfl, rfl, rfl⟩⟩
def FiP (h k : QH) (W : Nat → Nat) (c : Nat) (T : Nat → Nat) : Prop := K0 k W c T ∧ Fr fFS h k ∧ SoR k W c ∧ FpR k W c
theorem FpR.of {h k : QH} {W : Nat → Nat} {c : Nat} (R : FpR h W c) (e : ∀ j, j < 4 → hI k 45 j = hI h 45 j) (e6 : ∀ j, hI k 46 j = hI h 46 j) : FpR k W c := by
  refine ⟨by rw [e 2 (by decide)]; exact R.1, fun z => ?_⟩
  rw [e 2 (by decide)] at z
  obtain ⟨a, r1, r2, r3⟩ := R.2 z
  refine ⟨a, r1, ?_, ?_⟩
  · rw [e 3 (by decide)]
    exact r2
  · rcases r3 with ⟨q1, q2⟩ | ⟨D, q1, q2, q3, q4, q5⟩
    · exact Or.inl ⟨by rw [e 0 (by decide)]; exact q1, q2⟩
    · refine Or.inr ⟨D, q1, by rw [e 0 (by decide)]; exact q2, q3, q4, fun y hy => ?_⟩
      rw [e6]
      exact q5 y hy
theorem e218_m (d : Nat) (x : Int32) (h : QH) : qcl (d + 1) 218 [qI x, qI (-1), qI 29] h = some (some (qI (nZ (if x = -1 ∨ ltN x 30 then 1 else 0))), h) := by
  by_cases c : x = -1 ∨ ltN x 30
  · rw [if_pos c]
    have g1 : ¬(x < (-1 : Int32)) ∧ ¬((29 : Int32) < x) := by
      rcases c with c | c
      · rw [c]
        decide
      · obtain ⟨m, m1, m2⟩ := ltN_ex c
        rw [m2]
        refine ⟨fun z => ?_, ?_⟩
        · rw [nZ_neg1] at z
          exact cast (nZ_nlt (by omega)) z
        · rw [L29, nZ_lt (by decide) (by omega)]
          omega
    rw [E218, if_neg g1.1, if_neg g1.2, if_pos (by decide)]
    rfl
  · rw [if_neg c]
    by_cases g : x < (-1 : Int32)
    · rw [E218, if_pos g, if_pos (by decide)]
      rfl
    · have g2 : (29 : Int32) < x := by
        rcases nZ_or_neg x with q | ⟨n, n1, n2⟩
        · exfalso
          have h1 : x.toInt < (0 : Int32).toInt := Int32.lt_iff_toInt_lt.1 q
          have h2 : ¬(x.toInt < (-1 : Int32).toInt) := fun z => g (Int32.lt_iff_toInt_lt.2 z)
          have h3 : (0 : Int32).toInt = 0 := by decide
          have h4 : (-1 : Int32).toInt = -1 := by decide
          rw [h3] at h1
          rw [h4] at h2
          have h5 : x.toInt = -1 := by omega
          exact c (Or.inl (Int32.toInt.inj (h5.trans h4.symm)))
        · rw [n2, L29, nZ_lt (by decide) n1]
          apply Nat.lt_of_not_le
          intro q
          exact c (Or.inr (by rw [n2, ltN_n n1]; omega))
      rw [E218, if_neg g, if_pos g2, if_pos (by decide)]
      rfl
theorem op_first {h : QH} {W : Nat → Nat} {c : Nat} {T : Nat → Nat} (K : K0 h W c T) (R : SoR h W c) (P : FpR h W c) (d : Nat) (a1 a2 : Int32) : Op (d + 120) 27 188 [qI a1, qI a2] h (fun k => FiP h k W c T) := by
  have H := K.sh
  have n8 := K.n8
  have n5 := K.n5
  have e72 := k72 K (d + 118) a1
  have e200 := n200 K.mm (d + 117) a1
  have e21 := c21 (d + 118) a2 h
  have e218 := e218_m (d + 118) a2
  have z00 : nZ 0 = (0 : Int32) := rfl
  have z10 : ¬(nZ 1 = (0 : Int32)) := by decide
  have same : FiP h h W c T := ⟨K, Fr.refl, R, P⟩
  have kc : hI h 10 10 = nZ c := K.2.2.2.2.2.1.1
  by_cases h1 : ltN a1 (W 409)
  case neg =>
    rw [bI_f h1] at e72 e200
    refine ⟨-1, h, h, ?_, ?_, same⟩
    · rw [E27, ck10 H, ob_some, g10_0 H, ob_some, ob_some, g11_1 H, ob_some, e72, jI, if_pos z00]
    · rw [E188, ck56 H, ob_some, e200, jI, if_pos z00]
  rw [bI_t h1] at e72 e200
  by_cases h2 : a2 = -1 ∨ ltN a2 30
  case neg =>
    have e218' := e218 h
    rw [if_neg h2] at e218'
    rw [bI_f (fun z => h2 (Or.inr z))] at e21
    refine ⟨-1, h, h, ?_, ?_, same⟩
    · rw [E27, ck10 H, ob_some, g10_0 H, ob_some, ob_some, g11_1 H, ob_some, e72, jI, if_neg z10, if_neg (fun z => h2 (Or.inl z)), e21, jI, if_pos z00]
    · rw [E188, ck56 H, ob_some, e200, jI, if_neg z10, e218', jI, if_pos z00]
  obtain ⟨a, ha, rfl⟩ := ltN_ex h1
  obtain ⟨k, e132, Fk, Dk, Pk⟩ := c132 K.ck (d + 114) a ha P
  have Kk := K.fr Fk nK_fFp
  have Hk := Kk.sh
  have Rk : SoR k W c := R.of (fun j _ _ => Fk.2 56 j rfl) (fun j => Fk.2 74 j rfl)
  have e200' := n200 Kk.mm (d + 117) (nZ a)
  rw [bI_t h1] at e200'
  have e218' := e218 k
  rw [if_pos h2] at e218'
  have e211 := m211 Kk.mm (d + 117) a (by omega)
  obtain ⟨m, v, e258, Fm, Rm, Bm, Dm, m36, dv⟩ := m258 Kk.mm (d + 83) a Kk.v1 Rk ha
  have Km := Kk.fr Fm nK_fSo
  have Pm : FpR m W c := Pk.of (fun j _ => Fm.2 45 j rfl) (fun j => Fm.2 46 j rfl)
  have F1 : Fr fFS h m := (Fk.mono fFp_FS).trans (Fm.mono fSo_FS)
  obtain ⟨hE, hEn⟩ := EB_lt (W := W) n8 (b := -1) (E := 2 ^ W 408 - 1) (Or.inl ⟨rfl, rfl⟩)
  rcases Dk with ⟨q1, q2⟩ | ⟨D, q1, q2, q3, q4, q5⟩
  · have ev : v = -1 := dys_u dv (Or.inl ⟨rfl, q2⟩)
    rw [ev] at e258
    refine ⟨-1, k, m, ?_, ?_, Km, F1, Rm, Pm⟩
    · by_cases c2 : a2 = -1
      · rw [E27, ck10 H, ob_some, g10_0 H, ob_some, ob_some, g11_1 H, ob_some, e72, jI, if_neg z10, if_pos c2, g10_6 H, ob_some, g10_0 H, ob_some, g10_10 H, ob_some, kc, e132, jV, g10_6 Hk, ob_some, ob_some, g45_0 Hk, ob_some, if_pos q1]
      · have l2 : ltN a2 30 := by
          rcases h2 with q | q
          · exact absurd q c2
          · exact q
        rw [bI_t l2] at e21
        rw [E27, ck10 H, ob_some, g10_0 H, ob_some, ob_some, g11_1 H, ob_some, e72, jI, if_neg z10, if_neg c2, e21, jI, if_neg z10, g10_6 H, ob_some, g10_0 H, ob_some, g10_10 H, ob_some, kc, e132, jV, g10_6 Hk, ob_some, ob_some, g45_0 Hk, ob_some, if_pos q1]
    · rw [E188, ck56 Hk, ob_some, e200', jI, if_neg z10, e218', jI, if_neg z10, e211, jI, e258, jI, if_pos rfl]
  have ev : v = nZ D := dys_u dv (Or.inr ⟨D, q1, rfl, q3, q4⟩)
  rw [ev] at e258
  have nD : ¬(nZ D = (-1 : Int32)) := fun z => cast (nZ_nneg (a := D) (by omega)) (z.trans nZ_neg1)
  have nD' : ¬(hI k 45 0 = -1) := by
    rw [q2]
    exact nD
  by_cases c2 : a2 = -1
  · obtain ⟨K', k1', k2'⟩ := q5 0 (Nat.zero_le _)
    have ek : K' = kw W a := k2'
    rw [ek] at k1'
    have i0 : (if nZ D < a2 + 1 then nZ D else a2 + 1) = nZ 0 := by
      have e0 : a2 + 1 = nZ 0 := by
        rw [c2]
        decide
      rw [e0, if_neg]
      rw [nZ_lt (by omega) (by decide)]
      omega
    refine ⟨nZ (kw W a), k, m, ?_, ?_, Km, F1, Rm, Pm⟩
    · rw [E27, ck10 H, ob_some, g10_0 H, ob_some, ob_some, g11_1 H, ob_some, e72, jI, if_neg z10, if_pos c2, g10_6 H, ob_some, g10_0 H, ob_some, g10_10 H, ob_some, kc, e132, jV, g10_6 Hk, ob_some, ob_some, g45_0 Hk, ob_some, if_neg nD', ob_some, ob_some, g45_1 Hk, ob_some, ob_some, ob_some, g45_0 Hk, ob_some, q2, ob_some, i0, A46 Hk (by decide), ob_some, k1']
    · have g : a2 < (0 : Int32) := by
        rw [c2]
        decide
      rw [E188, ck56 Hk, ob_some, e200', jI, if_neg z10, e218', jI, if_neg z10, e211, jI, e258, jI, if_neg nD, E188_44, if_pos g]
  · have l2 : ltN a2 30 := by
      rcases h2 with q | q
      · exact absurd q c2
      · exact q
    rw [bI_t l2] at e21
    obtain ⟨dd, hdd, rfl⟩ := ltN_ex l2
    obtain ⟨K', k1', k2'⟩ := q5 (min (dd + 1) D) (by omega)
    obtain ⟨m2, K2, e44, F2, B2, D2, p2⟩ := m188_44 (W := W) (d + 84) a (2 ^ W 408 - 1) (kw W a) D dd ha hE hEn q1 hdd D 0 (kw W a) m (by omega) Km.mm Bm Dm (by omega) (kw_lt n8) kw_sbs q3 rfl
    have eK := pP_u _ _ _ p2 k2'
    rw [eK] at e44
    have Km2 := Km.fr (F2.mono fSf_So) nK_fSo
    have Rm2 : SoR m2 W c := ⟨by rw [F2.2 56 37 rfl]; exact Rm.1, fun _ => ⟨a, 2 ^ W 408 - 1, ha, B2, by
      rw [F2.2 56 36 rfl, m36]
      exact Or.inl ⟨rfl, rfl⟩, D2⟩⟩
    have Pm2 : FpR m2 W c := Pm.of (fun j _ => F2.2 45 j rfl) (fun j => F2.2 46 j rfl)
    have i0 : (if nZ D < nZ dd + 1 then nZ D else nZ dd + 1) = nZ (min (dd + 1) D) := by
      have e0 : nZ dd + 1 = nZ (dd + 1) := by rw [L1, nZ_add]
      rw [e0]
      by_cases q : D < dd + 1
      · rw [if_pos (by rw [nZ_lt (by omega) (by omega)]; exact q), Nat.min_eq_right (by omega)]
      · rw [if_neg (by rw [nZ_lt (by omega) (by omega)]; exact q), Nat.min_eq_left (by omega)]
    refine ⟨nZ K', k, m2, ?_, ?_, Km2, F1.trans ((F2.mono fSf_So).mono fSo_FS), Rm2, Pm2⟩
    · rw [E27, ck10 H, ob_some, g10_0 H, ob_some, ob_some, g11_1 H, ob_some, e72, jI, if_neg z10, if_neg c2, e21, jI, if_neg z10, g10_6 H, ob_some, g10_0 H, ob_some, g10_10 H, ob_some, kc, e132, jV, g10_6 Hk, ob_some, ob_some, g45_0 Hk, ob_some, if_neg nD', ob_some, ob_some, g45_1 Hk, ob_some, ob_some, ob_some, g45_0 Hk, ob_some, q2, ob_some, i0, A46 Hk (by omega), ob_some, k1']
    · rw [E188, ck56 Hk, ob_some, e200', jI, if_neg z10, e218', jI, if_neg z10, e211, jI, e258, jI, if_neg nD]
      exact e44

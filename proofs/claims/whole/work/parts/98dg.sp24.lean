/-! fewest: the call -/
def fFw (b j : Nat) : Bool := fSp b j || fO 76 b j
theorem fSp_Fw (b j : Nat) (h : fSp b j = true) : fFw b j = true := by
  unfold fFw
  rw [h]
  rfl
theorem fO_Fw (b j : Nat) (h : fO 76 b j = true) : fFw b j = true := by
  unfold fFw
  rw [h, Bool.or_true]
theorem nK_f76 : nK (fO 76) := ⟨⟨fun b j hb => fO_ne (by omega), fun b j h1 h2 => fO_ne (by omega), fun b j hb => fO_ne (by omega), rfl, rfl⟩, fun j => ⟨rfl, rfl, rfl, rfl, rfl, rfl, rfl⟩, ⟨rfl, rfl, rfl, rfl, rfl⟩⟩
def FwP (h k : QH) (W : Nat → Nat) (c : Nat) (T : Nat → Nat) : Prop := K0 k W c T ∧ Fr fFw h k
theorem fs1_more {P : Nat → Bool} {n m : Nat} {v : Int32} (h : fs1 P n v) (hm : n ≤ m) (z : ∀ j, n ≤ j → j < m → P j = false) : fs1 P m v := by
  rcases h with ⟨h1, h2⟩ | ⟨k, k1, k2, k3, k4⟩
  · exact Or.inl ⟨h1, fun j hj => by
      by_cases c : j < n
      · exact h2 j c
      · exact z j (by omega) hj⟩
  · exact Or.inr ⟨k, by omega, k2, k3, k4⟩
theorem op_fewest {h : QH} {W : Nat → Nat} {c : Nat} {T : Nat → Nat} (K : K0 h W c T) (d : Nat) (a1 a2 : Int32) : Op (d + 120) 26 186 [qI a1, qI a2] h (fun k => FwP h k W c T) := by
  have H := K.sh
  have n8 := K.n8
  have n5 := K.n5
  have e72 := k72 K (d + 118) a1
  have e200 := n200 K.mm (d + 117) a1
  have z00 : nZ 0 = (0 : Int32) := rfl
  have z10 : ¬(nZ 1 = (0 : Int32)) := by decide
  have same : FwP h h W c T := ⟨K, Fr.refl⟩
  have e218 : ∀ k, qcl (d + 119) 218 [qI a2, qI 0, qI 1] k = some (some (qI (bI (inR a2 0 1))), k) := fun k => m218 (d + 118) a2 0 1 (by decide) (by decide) k
  by_cases h1 : ltN a1 (W 409)
  case neg =>
    rw [bI_f h1] at e72 e200
    refine ⟨-1, h, h, ?_, ?_, same⟩
    · rw [E26, ck10 H, ob_some, g10_0 H, ob_some, ob_some, g11_1 H, ob_some, e72, jI, if_pos z00]
    · rw [E186, ck56 H, ob_some, e200, jI, if_pos z00]
  rw [bI_t h1] at e72 e200
  by_cases h2 : inR a2 0 1
  case neg =>
    have e218' := e218 h
    rw [bI_f h2] at e218'
    have n0 : ¬(a2 = 0) := fun z => cast (out_ne h2 0 (by decide) (by decide) (by decide)) z
    have n1 : ¬(a2 = 1) := fun z => cast (out_ne h2 1 (by decide) (by decide) (by decide)) z
    refine ⟨-1, h, h, ?_, ?_, same⟩
    · rw [E26, ck10 H, ob_some, g10_0 H, ob_some, ob_some, g11_1 H, ob_some, e72, jI, if_neg z10, if_neg n0, if_neg n1]
    · rw [E186, ck56 H, ob_some, e200, jI, if_neg z10, e218', jI, if_pos z00]
  obtain ⟨a, ha, rfl⟩ := ltN_ex h1
  have l8 := two_8 n8
  have kl := kw_lt (W := W) (a := a) n8
  have e81 := c81 K.ck (d + 116) a (by omega)
  obtain ⟨k, v, e142, Fk, q4, Sk, zk, sv⟩ := c142 K.ck (d + 116) a (kw W a) ha kl kw_sbs
  have Kk := K.fr Fk nK_fSp
  have Hk := Kk.sh
  have e200' := n200 Kk.mm (d + 117) (nZ a)
  rw [bI_t h1] at e200'
  have e218' := e218 k
  rw [bI_t h2] at e218'
  obtain ⟨m, e251, Fm, Sm⟩ := m251 Kk.mm (d + 116) a (by omega)
  have Km := Kk.fr Fm nK_f76
  have Hm := Km.sh
  have e211 := m211 Km.mm (d + 117) a (by omega)
  have kE := sbs_le kl (kw_sbs (W := W) (a := a))
  obtain ⟨v', y1, y2⟩ := Sm (kw W a) (Nat.zero_le _) kE
  have evv := shv_u y2 sv
  rw [evv] at y1
  have PP : FwP h m W c T := ⟨Km, (Fk.mono fSp_Fw).trans (Fm.mono fO_Fw)⟩
  obtain ⟨w, -, hw, rfl⟩ := inR_ex h2
  have hc : w = 0 ∨ w = 1 := by omega
  rcases hc with e | e <;> subst e
  · have t0 : nZ 0 = (0 : Int32) := rfl
    by_cases cv : v < 1000
    · have g : nZ v < 1000 := by
        rw [L1000, nZ_lt (by omega) (by decide)]
        exact cv
      rw [cVv_1 cv] at e142
      refine ⟨nZ v, k, m, ?_, ?_, PP⟩
      · rw [E26, ck10 H, ob_some, g10_0 H, ob_some, ob_some, g11_1 H, ob_some, e72, jI, if_neg z10, if_pos t0, g10_0 H, ob_some, ob_some, g11_0 H, ob_some, e81, jI, g10_6 H, ob_some, g10_0 H, ob_some, e142, jI, if_pos t0, if_pos t0]
      · rw [E186, ck56 Hk, ob_some, e200', jI, if_neg z10, e218', jI, if_neg z10, e251, jV, e211, jI, g56_39 Hm, ob_some, ob_some, A76 Hm kl, ob_some, y1, if_pos g, if_pos t0, ob_some, ob_some, A76 Hm kl, ob_some, y1]
    · have g : ¬(nZ v < 1000) := by
        have := shv_le l8 sv
        rw [L1000, nZ_lt (by omega) (by decide)]
        exact cv
      rw [cVv_2 cv] at e142
      refine ⟨-1, k, m, ?_, ?_, PP⟩
      · rw [E26, ck10 H, ob_some, g10_0 H, ob_some, ob_some, g11_1 H, ob_some, e72, jI, if_neg z10, if_pos t0, g10_0 H, ob_some, ob_some, g11_0 H, ob_some, e81, jI, g10_6 H, ob_some, g10_0 H, ob_some, e142, jI, if_pos t0, if_pos t0]
      · rw [E186, ck56 Hk, ob_some, e200', jI, if_neg z10, e218', jI, if_neg z10, e251, jV, e211, jI, g56_39 Hm, ob_some, ob_some, A76 Hm kl, ob_some, y1, if_neg g]
  · have t1 : nZ 1 = (1 : Int32) := rfl
    by_cases cv : v < 1000
    · have g : nZ v < 1000 := by
        rw [L1000, nZ_lt (by omega) (by decide)]
        exact cv
      rw [cVv_1 cv] at e142
      have cho : ∃ bF : Nat → Nat, ∀ p, bsO W a (2 ^ W 408 - 1) (kw W a) (fun Q => opx W a (2 ^ W 408 - 1) (kw W a) p Q) (bF p) := ⟨fun p => Classical.choose (bsO_ex (W := W) (a := a) (E := 2 ^ W 408 - 1) (K := kw W a) (fun Q => opx W a (2 ^ W 408 - 1) (kw W a) p Q)), fun p => Classical.choose_spec (bsO_ex (W := W) (a := a) (E := 2 ^ W 408 - 1) (K := kw W a) (fun Q => opx W a (2 ^ W 408 - 1) (kw W a) p Q))⟩
      obtain ⟨bF, hF⟩ := cho
      obtain ⟨r', er', rr'⟩ := m186_58 Km.mm (d + 117) a (kw W a) v (by omega) kE Sm y1 cv bF (fun p _ => hF p) (W 408) 0 (by omega) (fun q hq => by omega)
      by_cases c0 : v = 0
      · have g0 : ¬((0 : Int32) < nZ v) := by
          rw [c0]
          decide
        have er : r' = -1 := by
          rcases rr' with ⟨_, q⟩ | ⟨q, _⟩
          · exact q
          · omega
        rw [er] at er'
        refine ⟨-1, k, m, ?_, ?_, PP⟩
        · rw [E26, ck10 H, ob_some, g10_0 H, ob_some, ob_some, g11_1 H, ob_some, e72, jI, if_neg z10, if_neg z10, if_pos t1, g10_0 H, ob_some, ob_some, g11_0 H, ob_some, e81, jI, g10_6 H, ob_some, g10_0 H, ob_some, e142, jI, if_neg z10, if_neg g0, if_neg z10]
        · rw [E186, ck56 Hk, ob_some, e200', jI, if_neg z10, e218', jI, if_neg z10, e251, jV, e211, jI, g56_39 Hm, ob_some, ob_some, A76 Hm kl, ob_some, y1, if_pos g, if_neg z10]
          exact er'
      · have g0 : (0 : Int32) < nZ v := by
          rw [L0, nZ_lt (by decide) (by omega)]
          omega
        obtain ⟨r, er, rr⟩ := c133_14 Kk.ck (d + 116) a (2 ^ W 408 - 1) (kw W a) v (by omega) l8 kl kw_sbs q4 Sk zk cv bF (fun p _ => hF p) 8 0 (by decide) (fun q hq => by omega)
        have e71 : qcl (d + 118) 71 [qR (some 17), qI (nZ a), qI 1] k = some (some (qI (nZ (W (41 + 4 * a)))), k) := by
          rw [show 41 + 4 * a = 40 + 4 * a + 1 by omega]
          exact Kk.ck.k71 (d + 117) (a := a) (f := 1) (by omega) (by decide)
        have e133 : qcl (d + 119) 133 [qR (some 45), qR (some 11), qI (nZ a), qI (nZ (kw W a))] k = some (some (qI r), k) := by
          rw [E133, ck45 Hk, ob_some, ob_some, g11_1 Hk, ob_some, e71, jI]
          exact er
        have eq : r' = r := by
          rcases rr' with ⟨q, _⟩ | ⟨_, q⟩
          · exact absurd q c0
          · refine fs1_u (fs1_more q n8 (fun j h1 h2 => decide_eq_false (fun z => ?_))) rr
            have nb : ¬((kw W a).testBit j = true) := fun t => by
              have := in_all n8 kE h2 t
              omega
            rcases (hF j).2.2 with e | ⟨Q, u, o1, _⟩
            · omega
            · exact nb o1.1
        rw [eq] at er'
        refine ⟨r, k, m, ?_, ?_, PP⟩
        · rw [E26, ck10 H, ob_some, g10_0 H, ob_some, ob_some, g11_1 H, ob_some, e72, jI, if_neg z10, if_neg z10, if_pos t1, g10_0 H, ob_some, ob_some, g11_0 H, ob_some, e81, jI, g10_6 H, ob_some, g10_0 H, ob_some, e142, jI, if_neg z10, if_pos g0, g10_6 Hk, ob_some, g10_0 Hk, ob_some, e133, jI]
        · rw [E186, ck56 Hk, ob_some, e200', jI, if_neg z10, e218', jI, if_neg z10, e251, jV, e211, jI, g56_39 Hm, ob_some, ob_some, A76 Hm kl, ob_some, y1, if_pos g, if_neg z10]
          exact er'
    · have g : ¬(nZ v < 1000) := by
        have := shv_le l8 sv
        rw [L1000, nZ_lt (by omega) (by decide)]
        exact cv
      rw [cVv_2 cv] at e142
      have g0 : ¬((0 : Int32) < -1) := by decide
      refine ⟨-1, k, m, ?_, ?_, PP⟩
      · rw [E26, ck10 H, ob_some, g10_0 H, ob_some, ob_some, g11_1 H, ob_some, e72, jI, if_neg z10, if_neg z10, if_pos t1, g10_0 H, ob_some, ob_some, g11_0 H, ob_some, e81, jI, g10_6 H, ob_some, g10_0 H, ob_some, e142, jI, if_neg z10, if_neg g0, if_neg z10]
      · rw [E186, ck56 Hk, ob_some, e200', jI, if_neg z10, e218', jI, if_neg z10, e251, jV, e211, jI, g56_39 Hm, ob_some, ob_some, A76 Hm kl, ob_some, y1, if_neg g]

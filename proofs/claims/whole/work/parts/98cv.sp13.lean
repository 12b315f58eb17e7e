/-! the reference's spread: begun; in so many days -/
def EB (W : Nat → Nat) (b : Int32) (E : Nat) : Prop := (b = -1 ∧ E = 2 ^ W 408 - 1) ∨ ∃ p, p < W 408 ∧ b = nZ p ∧ E = sd (2 ^ W 408 - 1) (2 ^ p)
theorem EB_u {W : Nat → Nat} (n8 : W 408 ≤ 8) {b : Int32} {E E' : Nat} (h : EB W b E) (g : EB W b E') : E = E' := by
  rcases h with ⟨h1, h2⟩ | ⟨p, p1, p2, p3⟩
  · rcases g with ⟨g1, g2⟩ | ⟨q, q1, q2, q3⟩
    · rw [h2, g2]
    · rw [h1] at q2
      exact absurd (q2.symm.trans nZ_neg1) (fun w => cast (nZ_nneg (a := q) (by omega)) w)
  · rcases g with ⟨g1, g2⟩ | ⟨q, q1, q2, q3⟩
    · rw [g1] at p2
      exact absurd (p2.symm.trans nZ_neg1) (fun w => cast (nZ_nneg (a := p) (by omega)) w)
    · have : p = q := by
        have e := p2.symm.trans q2
        rw [nZ_eq (by omega) (by omega)] at e
        exact e
      rw [p3, q3, this]
theorem two_8 {n : Nat} (h : n ≤ 8) : 2 ^ n - 1 < 256 := by
  have : 2 ^ n ≤ 2 ^ 8 := Nat.pow_le_pow_right (by decide) h
  omega
theorem EB_lt {W : Nat → Nat} (n8 : W 408 ≤ 8) {b : Int32} {E : Nat} (h : EB W b E) : E < 256 ∧ ∀ i, W 408 ≤ i → E.testBit i = false := by
  have l := two_8 n8
  have t : ∀ i, W 408 ≤ i → (2 ^ W 408 - 1).testBit i = false := fun i hi => by
    rw [Nat.testBit_two_pow_sub_one, decide_eq_false (by omega)]
  rcases h with ⟨h1, h2⟩ | ⟨p, p1, p2, p3⟩
  · rw [h2]
    exact ⟨l, t⟩
  · rw [p3]
    have l2 : sd (2 ^ W 408 - 1) (2 ^ p) < 256 := Nat.lt_of_le_of_lt sd_le l
    refine ⟨l2, fun i hi => ?_⟩
    by_cases c : i < 8
    · rw [sd_tb (by omega), t i hi, Bool.false_and]
    · exact tb_hi l2 (by omega)
theorem sd_0 {x : Nat} (h : x < 256) : sd x 0 = x := by
  apply Nat.eq_of_testBit_eq
  intro i
  by_cases c : i < 8
  · rw [sd_tb (by omega), Nat.zero_testBit, Bool.not_false, Bool.and_true]
  · rw [tb_hi h (by omega), tb_hi (Nat.lt_of_le_of_lt sd_le h) (by omega)]
/-- what is kept of the days -/
def SoR (h : QH) (W : Nat → Nat) (c : Nat) : Prop := sb1 (hI h 56 37) c ∧ (hI h 56 37 = nZ c → ∃ a E, a < W 409 ∧ bgn h a E ∧ EB W (hI h 56 36) E ∧ dC h W a E)
def fBg (b j : Nat) : Bool := (match b with
  | 56 => (match j with | 35 => true | 36 => true | 37 => true | 38 => true | _ => false)
  | 74 => true
  | _ => false)
theorem m172_75 (d : Nat) : ∀ m i h, i + m = 7936 → Sh h → (∀ j, j < i → hI h 74 j = -1) → ∃ k, qbig (d + 1) 172 75 [sR (some 56), none, none, sI (nZ i)] [] h = some (none, k) ∧ Fr (fO 74) h k ∧ ∀ j, j < 7936 → hI k 74 j = -1
  | 0, i, h, e, H, z => by
    have e' : i = 7936 := by omega
    subst e'
    refine ⟨h, ?_, Fr.refl, z⟩
    rw [E172_75, if_neg (by decide)]
  | m + 1, i, h, e, H, z => by
    have lt1 : nZ i < 7936 := by
      rw [show (7936 : Int32) = nZ 7936 from rfl, nZ_lt (by omega) (by decide)]
      omega
    have ip : nZ i + 1 = nZ (i + 1) := by rw [L1, nZ_add]
    have F1 : Fr (fO 74) h (hsI h 74 i (-1)) := Fr.si rfl Fr.refl
    obtain ⟨k, ek, Fk, zk⟩ := m172_75 d m (i + 1) (hsI h 74 i (-1)) (by omega) H (fun j hj => by
      by_cases c : j = i
      · rw [c, hI_at rfl]
      · rw [hI_ne (by omega)]
        exact z j (by omega))
    refine ⟨k, ?_, F1.trans Fk, zk⟩
    rw [E172_75, if_pos lt1, g56_33 H, ob_some, ob_some, S74 H (by omega), ob_some, ip]
    exact ek
theorem m172 {h : QH} {W : Nat → Nat} {c : Nat} (M : MM h W) (d a : Nat) (b : Int32) (E : Nat) (v1 : hI h 56 1 = nZ c) (R : SoR h W c) (ha : a < W 409) (hb : EB W b E) : ∃ k, qcl (d + 2) 172 [qR (some 56), qI (nZ a), qI b] h = some (none, k) ∧ Fr fBg h k ∧ bgn k a E ∧ hI k 56 36 = b ∧ hI k 56 37 = nZ c ∧ dC k W a E := by
  have H := M.1
  have n8 := M.n8
  have n5 := M.n5
  by_cases c37 : hI h 56 37 = nZ c ∧ hI h 56 35 = nZ a ∧ hI h 56 36 = b
  · obtain ⟨q1, q2, q3⟩ := c37
    obtain ⟨a', E', r1, r2, r3, r4⟩ := R.2 q1
    have ea : a' = a := by
      have e := r2.1.symm.trans q2
      rw [nZ_eq (by omega) (by omega)] at e
      exact e
    rw [q3] at r3
    have eE := EB_u n8 r3 hb
    rw [ea, eE] at r2 r4
    refine ⟨h, ?_, Fr.refl, r2, q3, q1, r4⟩
    rw [E172, ck56 H, ob_some, g56_37 H, ob_some, g56_1 H, ob_some, v1, if_pos q1, g56_35 H, ob_some, if_pos q2, g56_36 H, ob_some, if_pos q3]
  have pre : ∃ h3, h3 = hsI (hsI (hsI h 56 37 (nZ c)) 56 35 (nZ a)) 56 36 b := ⟨_, rfl⟩
  obtain ⟨h3, eh3⟩ := pre
  have H1 : Sh (hsI h 56 37 (nZ c)) := H
  have H2 : Sh (hsI (hsI h 56 37 (nZ c)) 56 35 (nZ a)) := H
  have F3 : Fr fBg h h3 := by
    rw [eh3]
    exact Fr.si rfl (Fr.si rfl (Fr.si rfl Fr.refl))
  have M3 := M.fr F3 (fun j => rfl)
  have H3 := M3.1
  have r35 : hI h3 56 35 = nZ a := by
    rw [eh3, hI_ne (by omega), hI_at rfl]
  have r36 : hI h3 56 36 = b := by
    rw [eh3, hI_at rfl]
  have r37 : hI h3 56 37 = nZ c := by
    rw [eh3, hI_ne (by omega), hI_ne (by omega), hI_at rfl]
  have e232 := n232 M3 d
  have F4 : Fr fBg h (hsI h3 56 38 (nZ E)) := Fr.si rfl F3
  obtain ⟨k, ek, Fk, zk⟩ := m172_75 (d + 1) 7936 0 (hsI h3 56 38 (nZ E)) (by decide) (F4.Sh H) (fun j hj => by omega)
  refine ⟨k, ?_, F4.trans (Fk.mono (fun b j z => by rw [fO_eq z]; rfl)), ⟨?_, ?_⟩, ?_, ?_, fun y K h1 h2 => Or.inl (zk _ (by omega))⟩
  · have pw : ((1 : Int32) <<< (nZ (W 408) &&& 31)) - 1 = nZ (2 ^ W 408 - 1) := by
      rw [L31, nZ_and, and31 (by omega), L1, nZ_shl (by omega), Nat.one_shiftLeft, nZ_sub Nat.one_le_two_pow]
    rcases hb with ⟨b1, b2⟩ | ⟨p, p1, p2, p3⟩
    · have vE : (((1 : Int32) <<< (nZ (W 408) &&& 31)) - 1) &&& (0 ^^^ (-1)) = nZ E := by
        rw [pw, b2]
        have e : nZ (2 ^ W 408 - 1) &&& (nZ 0 ^^^ (-1)) = nZ (sd (2 ^ W 408 - 1) 0) := sd_i
        rw [sd_0 (two_8 n8)] at e
        exact e
      by_cases d1 : hI h 56 37 = nZ c
      · by_cases d2 : hI h 56 35 = nZ a
        · have d3 : ¬(hI h 56 36 = b) := fun z => c37 ⟨d1, d2, z⟩
          rw [E172, ck56 H, ob_some, g56_37 H, ob_some, g56_1 H, ob_some, v1, if_pos d1, g56_35 H, ob_some, if_pos d2, g56_36 H, ob_some, if_neg d3, ob_some, p56_37 H, ob_some, p56_35 H1, ob_some, p56_36 H2, ob_some, ← eh3, e232, jI, if_pos b1, vE, p56_38 H3, ob_some]
          exact ek
        · rw [E172, ck56 H, ob_some, g56_37 H, ob_some, g56_1 H, ob_some, v1, if_pos d1, g56_35 H, ob_some, if_neg d2, ob_some, p56_37 H, ob_some, p56_35 H1, ob_some, p56_36 H2, ob_some, ← eh3, e232, jI, if_pos b1, vE, p56_38 H3, ob_some]
          exact ek
      · rw [E172, ck56 H, ob_some, g56_37 H, ob_some, g56_1 H, ob_some, v1, if_neg d1, ob_some, p56_37 H, ob_some, p56_35 H1, ob_some, p56_36 H2, ob_some, ← eh3, e232, jI, if_pos b1, vE, p56_38 H3, ob_some]
        exact ek
    · have nb : ¬(b = -1) := fun z => by
        rw [z] at p2
        exact absurd (p2.symm.trans nZ_neg1) (fun w => cast (nZ_nneg (a := p) (by omega)) w)
      have vE : (((1 : Int32) <<< (nZ (W 408) &&& 31)) - 1) &&& (((1 : Int32) <<< (b &&& 31)) ^^^ (-1)) = nZ E := by
        rw [pw, p2, L31, nZ_and, and31 (by omega), L1, nZ_shl (by omega), Nat.one_shiftLeft, p3]
        exact sd_i
      by_cases d1 : hI h 56 37 = nZ c
      · by_cases d2 : hI h 56 35 = nZ a
        · have d3 : ¬(hI h 56 36 = b) := fun z => c37 ⟨d1, d2, z⟩
          rw [E172, ck56 H, ob_some, g56_37 H, ob_some, g56_1 H, ob_some, v1, if_pos d1, g56_35 H, ob_some, if_pos d2, g56_36 H, ob_some, if_neg d3, ob_some, p56_37 H, ob_some, p56_35 H1, ob_some, p56_36 H2, ob_some, ← eh3, e232, jI, if_neg nb, vE, p56_38 H3, ob_some]
          exact ek
        · rw [E172, ck56 H, ob_some, g56_37 H, ob_some, g56_1 H, ob_some, v1, if_pos d1, g56_35 H, ob_some, if_neg d2, ob_some, p56_37 H, ob_some, p56_35 H1, ob_some, p56_36 H2, ob_some, ← eh3, e232, jI, if_neg nb, vE, p56_38 H3, ob_some]
          exact ek
      · rw [E172, ck56 H, ob_some, g56_37 H, ob_some, g56_1 H, ob_some, v1, if_neg d1, ob_some, p56_37 H, ob_some, p56_35 H1, ob_some, p56_36 H2, ob_some, ← eh3, e232, jI, if_neg nb, vE, p56_38 H3, ob_some]
        exact ek
  · rw [Fk.2 56 35 rfl, hI_ne (by omega)]
    exact r35
  · rw [Fk.2 56 38 rfl, hI_at rfl]
  · rw [Fk.2 56 36 rfl, hI_ne (by omega)]
    exact r36
  · rw [Fk.2 56 37 rfl, hI_ne (by omega)]
    exact r37
def fSo (b j : Nat) : Bool := (match b with
  | 56 => (match j with | 35 => true | 36 => true | 37 => true | 38 => true | _ => false)
  | 74 => true | 75 => true
  | _ => false)
theorem fBg_So (b j : Nat) (h : fBg b j = true) : fSo b j = true := by
  unfold fBg at h
  split at h
  · split at h <;> first | rfl | cases h
  · rfl
  · cases h
theorem fSf_So {y : Nat} (b j : Nat) (h : fSf y b j = true) : fSo b j = true := by
  unfold fSf at h
  rw [Bool.or_eq_true, Bool.and_eq_true] at h
  rcases h with e | e
  · rw [Nat.eq_of_beq_eq_true e]
    rfl
  · rw [Nat.eq_of_beq_eq_true e.1]
    rfl
/-- in how many days -/
theorem m257 {h : QH} {W : Nat → Nat} {c : Nat} (M : MM h W) (d a : Nat) (b : Int32) (E K : Nat) (v1 : hI h 56 1 = nZ c) (R : SoR h W c) (ha : a < W 409) (hb : EB W b E) (hK : K < 256) : ∃ k v, qcl (d + 35) 257 [qR (some 56), qI (nZ a), qI b, qI (nZ K)] h = some (some (qI v), k) ∧ Fr fSo h k ∧ SoR k W c ∧ bgn k a E ∧ dC k W a E ∧ dys W a E (K &&& E) v := by
  have H := M.1
  have n8 := M.n8
  obtain ⟨hE, hEn⟩ := EB_lt n8 hb
  obtain ⟨h1, e1, F1, B1, b36, b37, D1⟩ := m172 M (d + 32) a b E v1 R ha hb
  have M1 := M.fr F1 (fun j => rfl)
  have H1 := M1.1
  have kl : K &&& E < 256 := Nat.lt_of_le_of_lt Nat.and_le_left hK
  have sK : sbs (K &&& E) E := fun i hi z => by
    rw [Nat.testBit_and, Bool.and_eq_true] at z
    exact z.2
  obtain ⟨k, v, ek, Fk, Dk, sv⟩ := m256 d a E ha hE hEn 30 0 (K &&& E) h1 (by decide) kl sK M1 B1 D1
  have ek' : qcl (d + 34) 256 [qR (some 56), qI 0, qI (nZ (K &&& E))] h1 = some (some (qI (nZ v)), k) := ek
  have Bk : bgn k a E := B1.fr Fk (fSf_n (by decide) (by decide)) (fSf_n (by decide) (by decide))
  have Rk : SoR k W c := ⟨Or.inr ⟨c, Nat.le_refl c, by
    rw [Fk.2 56 37 (fSf_n (by decide) (by decide))]
    exact b37⟩, fun _ => ⟨a, E, ha, Bk, by
    rw [Fk.2 56 36 (fSf_n (by decide) (by decide)), b36]
    exact hb, Dk⟩⟩
  have vl := sfv_le sv
  rcases sv with ⟨s1', s2'⟩ | ⟨s1', s2', s3'⟩
  · refine ⟨k, -1, ?_, (F1.mono fBg_So).trans (Fk.mono fSf_So), Rk, Bk, Dk, Or.inl ⟨rfl, fun m hm => s2' m (by omega)⟩⟩
    have nl : ¬(nZ v < 1000) := by
      rw [s1']
      decide
    rw [E257, ck56 H, ob_some, e1, jV, g56_38 H1, ob_some, B1.2, nZ_and, ek', jI, if_neg nl]
  · refine ⟨k, nZ v, ?_, (F1.mono fBg_So).trans (Fk.mono fSf_So), Rk, Bk, Dk, Or.inr ⟨v, by omega, rfl, s2', s3'⟩⟩
    have nl : nZ v < 1000 := by
      rw [show (1000 : Int32) = nZ 1000 from rfl, nZ_lt (by omega) (by decide)]
      omega
    rw [E257, ck56 H, ob_some, e1, jV, g56_38 H1, ob_some, B1.2, nZ_and, ek', jI, if_pos nl]

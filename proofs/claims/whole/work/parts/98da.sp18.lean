/-! the reference's spread: the lowest; first -/
theorem or_add : ∀ f A B, A < 2 ^ f → A &&& B = 0 → A ||| B = A + B
  | 0, A, B, hA, _ => by
    have : A = 0 := by simpa using hA
    rw [this, Nat.zero_or, Nat.zero_add]
  | f + 1, A, B, hA, h => by
    have h1 : A / 2 &&& B / 2 = 0 := by rw [← Nat.and_div_two, h]
    have ih := or_add f (A / 2) (B / 2) (by omega) h1
    have e1 : (A ||| B) / 2 = A / 2 + B / 2 := by rw [Nat.or_div_two, ih]
    have b0 : ¬(A % 2 = 1 ∧ B % 2 = 1) := fun z => by
      have e : (A &&& B).testBit 0 = false := by rw [h, Nat.zero_testBit]
      rw [Nat.testBit_and, Nat.testBit_zero, Nat.testBit_zero, z.1, z.2] at e
      cases e
    have m0 : (A ||| B) % 2 = A % 2 + B % 2 := by
      have e : (A ||| B).testBit 0 = (A.testBit 0 || B.testBit 0) := Nat.testBit_or A B 0
      rw [Nat.testBit_zero, Nat.testBit_zero, Nat.testBit_zero] at e
      have hA2 : A % 2 = 0 ∨ A % 2 = 1 := by omega
      have hB2 : B % 2 = 0 ∨ B % 2 = 1 := by omega
      have hC2 : (A ||| B) % 2 = 0 ∨ (A ||| B) % 2 = 1 := by omega
      rcases hA2 with p | p <;> rcases hB2 with q | q <;> rcases hC2 with r | r <;> rw [p, q, r] at e <;> first | omega | (exfalso; simp at e)
    omega
theorem sd_0_iff {s E : Nat} (hs : s < 256) : sd s E = 0 ↔ sbs s E := by
  constructor
  · intro h i hi z
    have e : (sd s E).testBit i = false := by rw [h, Nat.zero_testBit]
    rw [sd_tb (by omega), z, Bool.true_and] at e
    cases c : E.testBit i
    · rw [c] at e
      cases e
    · rfl
  · intro h
    exact tb_eq (Nat.lt_of_le_of_lt sd_le hs) (by decide) (fun i hi => by
      rw [sd_tb (by omega), Nat.zero_testBit]
      cases z : s.testBit i
      · rfl
      · rw [h i hi z]
        rfl)
theorem or_sd {s K : Nat} (hs : s < 256) (hK : K < 256) (h : sbs K s) : K ||| sd s K = s := tb_eq (or_256 hK (Nat.lt_of_le_of_lt sd_le hs)) hs (fun i hi => by
  rw [Nat.testBit_or, sd_tb (by omega)]
  cases z : K.testBit i
  · cases s.testBit i <;> rfl
  · rw [h i hi z]
    rfl)
theorem fSf_z {y : Nat} (b j : Nat) (h : fSf y b j = true) : fSf 0 b j = true := by
  unfold fSf at h ⊢
  cases e : Nat.beq b 74
  · rw [e] at h
    rw [Bool.false_or, Bool.and_eq_true] at h
    rw [h.1, decide_eq_true (show 256 * 0 ≤ j by omega)]
    rfl
  · rfl
theorem m220_3 {W : Nat → Nat} (d a E D y K : Nat) (ha : a < W 409) (hE : E < 256) (hEn : ∀ i, W 408 ≤ i → E.testBit i = false) (hy : y < 30) (hyD : y < D) (hD : D ≤ 30) (hK : K < 256) (sK : sbs K E) (w : wi W a E (D - y) y K) : ∀ m s h, s + m = 256 → MM h W → bgn h a E → dC h W a E → (∀ s', s' < s → sbs K s' → sbs s' E → fit W a E y K (sd s' K) → ¬wi W a E (D - (y + 1)) (y + 1) s') → ∃ k S, qbig (d + 35) 220 3 [sR (some 56), sI (nZ y), sI (nZ K), sI (nZ (D - (y + 1))), sI (nZ s)] [] h = some (some (qI (nZ (K ||| S))), k) ∧ Fr (fSf 0) h k ∧ bgn k a E ∧ dC k W a E ∧ lowS W a E D y K S
  | 0, s, h, e, M, B, Dc, z => by
    exfalso
    obtain ⟨S, q1, q2, q3⟩ := low_ex hyD w
    have dis := fit_sbs q2
    have es : sd (K ||| S) K = S := tb_eq (Nat.lt_of_le_of_lt sd_le (or_256 hK q1)) q1 (fun i hi => by
      rw [sd_tb (by omega), Nat.testBit_or]
      cases c : S.testBit i
      · cases K.testBit i <;> rfl
      · rw [(dis i hi c).2]
        rfl)
    exact z (K ||| S) (by have := or_256 hK q1; omega) (fun i _ c => by
      rw [Nat.testBit_or, c]
      rfl) (sbs_or q2 sK) (by rw [es]; exact q2) q3
  | m + 1, s, h, e, M, B, Dc, z => by
    have H := M.1
    have s8 : s < 256 := by omega
    have lt1 : nZ s < 256 := by
      rw [L256, nZ_lt (by omega) (by decide)]
      omega
    have ip : nZ s + 1 = nZ (s + 1) := by rw [L1, nZ_add]
    have z00 : nZ 0 = (0 : Int32) := rfl
    have z10 : ¬(nZ 1 = (0 : Int32)) := by decide
    have skip : ∀ h', Fr (fSf 0) h h' → MM h' W → bgn h' a E → dC h' W a E → (sbs K s → sbs s E → fit W a E y K (sd s K) → ¬wi W a E (D - (y + 1)) (y + 1) s) → ∃ k S, qbig (d + 35) 220 3 [sR (some 56), sI (nZ y), sI (nZ K), sI (nZ (D - (y + 1))), sI (nZ (s + 1))] [] h' = some (some (qI (nZ (K ||| S))), k) ∧ Fr (fSf 0) h k ∧ bgn k a E ∧ dC k W a E ∧ lowS W a E D y K S := fun h' F' M' B' D' nf => by
      obtain ⟨k, S, ek, Fk, r⟩ := m220_3 d a E D y K ha hE hEn hy hyD hD hK sK w m (s + 1) h' (by omega) M' B' D' (fun s' hs => by
        by_cases c : s' = s
        · rw [c]
          exact nf
        · exact z s' (by omega))
      exact ⟨k, S, ek, F'.trans Fk, r⟩
    by_cases c1' : s &&& K = K
    case neg =>
      have g : ¬(nZ s &&& nZ K = nZ K) := by
        have l : s &&& K < 256 := Nat.lt_of_le_of_lt Nat.and_le_right hK
        rw [nZ_and, nZ_eq (by omega) (by omega)]
        exact c1'
      obtain ⟨k, S, ek, r⟩ := skip h Fr.refl M B Dc (fun q => absurd (by rw [Nat.and_comm]; exact (and_sbs hK).2 q) c1')
      refine ⟨k, S, ?_, r⟩
      rw [E220_3, if_pos lt1, if_neg g, ip]
      exact ek
    have g : nZ s &&& nZ K = nZ K := by rw [nZ_and, c1']
    have sKs : sbs K s := by
      apply (and_sbs hK).1
      rw [Nat.and_comm]
      exact c1'
    have sl : sd s E < 256 := Nat.lt_of_le_of_lt sd_le s8
    by_cases c2' : sd s E = 0
    case neg =>
      have g2 : ¬(nZ s &&& (nZ E ^^^ (-1)) = 0) := by
        rw [sd_i, L0, nZ_eq (by omega) (by decide)]
        exact c2'
      obtain ⟨k, S, ek, r⟩ := skip h Fr.refl M B Dc (fun _ q => absurd ((sd_0_iff s8).2 q) c2')
      refine ⟨k, S, ?_, r⟩
      rw [E220_3, if_pos lt1, if_pos g, g56_38 H, ob_some, B.2, if_neg g2, ip]
      exact ek
    have g2 : nZ s &&& (nZ E ^^^ (-1)) = 0 := by
      rw [sd_i, c2']
      rfl
    have sE := (sd_0_iff s8).1 c2'
    obtain ⟨h1, v, e221, F1, R1, _⟩ := m221 M (d + 31) a E y K ha hE hEn hy hK sK B
    have M1 := M.fr F1 (fun j => fRw_n (by decide))
    have H1 := M1.1
    have B1 := B.fr F1 (fRw_n (by decide)) (fRw_n (by decide))
    have D1 : dC h1 W a E := fun y' K' q1 q2 => by
      rw [F1.2 74 _ (fRw_n (by decide))]
      exact Dc y' K' q1 q2
    have F1' : Fr (fSf 0) h h1 := F1.mono (fun b j z => fSf_z (y := y) b j (fRw_Sf b j z))
    have ix : (256 : Int32) * nZ y + (nZ s &&& (nZ K ^^^ (-1))) = nZ (256 * y + sd s K) := by rw [sd_i, L256, nZ_mul, nZ_add]
    have dl : sd s K < 256 := Nat.lt_of_le_of_lt sd_le s8
    have ey : nZ y + 1 = nZ (y + 1) := by rw [L1, nZ_add]
    rcases R1 _ dl with ⟨q1, q2⟩ | ⟨q1, q2⟩
    · obtain ⟨h2, v2, e256, F2, D2, sv⟩ := m256 (d + 1 + y) a E ha hE hEn (29 - y) (y + 1) s h1 (by omega) s8 sE M1 B1 D1
      rw [show d + 1 + y + 4 + (29 - y) = d + 34 by omega] at e256
      have M2 := M1.fr F2 (fun j => fSf_n (by decide) (by decide))
      have B2 := B1.fr F2 (fSf_n (by decide) (by decide)) (fSf_n (by decide) (by decide))
      have F2' : Fr (fSf 0) h h2 := F1'.trans (F2.mono fSf_z)
      have vl := sfv_le sv
      have iff' := sfv_wi sv (m := D - (y + 1)) (by omega)
      by_cases cw : D - (y + 1) < v2
      · have g3 : nZ (D - (y + 1)) < nZ v2 := by
          rw [nZ_lt (by omega) (by omega)]
          exact cw
        obtain ⟨k, S, ek, r⟩ := skip h2 F2' M2 B2 D2 (fun _ _ _ q => by
          have := iff'.2 q
          omega)
        refine ⟨k, S, ?_, r⟩
        rw [E220_3, if_pos lt1, if_pos g, g56_38 H, ob_some, B.2, if_pos g2, e221, jI, g56_34 H1, ob_some, ob_some, ix, A75 H1 (by omega), ob_some, q1, if_neg z10, ey, e256, jI, if_pos g3, ip]
        exact ek
      · have g3 : ¬(nZ (D - (y + 1)) < nZ v2) := by
          rw [nZ_lt (by omega) (by omega)]
          exact cw
        have ws := iff'.1 (by omega)
        have os := or_sd s8 hK sKs
        refine ⟨h2, sd s K, ?_, F2', B2, D2, dl, q2, by rw [os]; exact ws, fun S' hS f => ?_⟩
        · rw [os, E220_3, if_pos lt1, if_pos g, g56_38 H, ob_some, B.2, if_pos g2, e221, jI, g56_34 H1, ob_some, ob_some, ix, A75 H1 (by omega), ob_some, q1, if_neg z10, ey, e256, jI, if_neg g3]
        · have dis := fit_sbs f
          have S8 : S' < 256 := by omega
          have n0 : ∀ X, (∀ i, i < 8 → X.testBit i = true → K.testBit i = false) → X < 256 → K &&& X = 0 := fun X hX x8 => tb_eq (Nat.lt_of_le_of_lt Nat.and_le_left hK) (by decide) (fun i hi => by
            rw [Nat.testBit_and, Nat.zero_testBit]
            cases c : X.testBit i
            · rw [Bool.and_false]
            · rw [hX i hi c]
              rfl)
          have a1' := or_add 8 K S' hK (n0 S' (fun i hi c => (dis i hi c).2) S8)
          have a2' := or_add 8 K (sd s K) hK (n0 (sd s K) (fun i hi c => by
            rw [sd_tb (by omega), Bool.and_eq_true] at c
            cases q : K.testBit i
            · rfl
            · rw [q] at c
              cases c.2) dl)
          have es : sd (K ||| S') K = S' := tb_eq (Nat.lt_of_le_of_lt sd_le (or_256 hK S8)) S8 (fun i hi => by
            rw [sd_tb (by omega), Nat.testBit_or]
            cases c : S'.testBit i
            · cases K.testBit i <;> rfl
            · rw [(dis i hi c).2]
              rfl)
          exact z (K ||| S') (by omega) (fun i _ c => by
            rw [Nat.testBit_or, c]
            rfl) (sbs_or f sK) (by rw [es]; exact f)
    · obtain ⟨k, S, ek, r⟩ := skip h1 F1' M1 B1 D1 (fun _ _ q => absurd q q2)
      refine ⟨k, S, ?_, r⟩
      rw [E220_3, if_pos lt1, if_pos g, g56_38 H, ob_some, B.2, if_pos g2, e221, jI, g56_34 H1, ob_some, ob_some, ix, A75 H1 (by omega), ob_some, q1, if_pos z00, ip]
      exact ek
theorem m220 {h : QH} {W : Nat → Nat} (M : MM h W) (d a E D y K : Nat) (ha : a < W 409) (hE : E < 256) (hEn : ∀ i, W 408 ≤ i → E.testBit i = false) (hyD : y < D) (hD : D ≤ 30) (hK : K < 256) (sK : sbs K E) (w : wi W a E (D - y) y K) (B : bgn h a E) (Dc : dC h W a E) : ∃ k S, qcl (d + 35) 220 [qR (some 56), qI (nZ y), qI (nZ K), qI (nZ (D - (y + 1)))] h = some (some (qI (nZ (K ||| S))), k) ∧ Fr (fSf 0) h k ∧ bgn k a E ∧ dC k W a E ∧ lowS W a E D y K S := by
  obtain ⟨k, S, ek, r⟩ := m220_3 d a E D y K ha hE hEn (by omega) hyD hD hK sK w 256 0 h (by decide) M B Dc (fun s' hs => by omega)
  refine ⟨k, S, ?_, r⟩
  rw [E220, ck56 M.1, ob_some]
  exact ek
theorem m188_44 {W : Nat → Nat} (d a E K0 D dd : Nat) (ha : a < W 409) (hE : E < 256) (hEn : ∀ i, W 408 ≤ i → E.testBit i = false) (hD : D ≤ 30) (hdd : dd < 30) : ∀ m y K h, y + m = D → MM h W → bgn h a E → dC h W a E → y ≤ dd + 1 → K < 256 → sbs K E → wi W a E (D - y) y K → pP W a E K0 D y K → ∃ k K', qbig (d + 36) 188 44 [sR (some 56), none, sI (nZ dd), sI (nZ K), sI (nZ m), sI (nZ y)] [] h = some (some (qI (nZ K')), k) ∧ Fr (fSf 0) h k ∧ bgn k a E ∧ dC k W a E ∧ pP W a E K0 D (min (dd + 1) D) K'
  | 0, y, K, h, e, M, B, Dc, hy, hK, sK, w, p => by
    have e' : y = D := by omega
    rw [e'] at p
    have mn : min (dd + 1) D = D := by omega
    refine ⟨h, K, ?_, Fr.refl, B, Dc, by rw [mn]; exact p⟩
    by_cases c : dd < y
    · have g : nZ dd < nZ y := by
        rw [nZ_lt (by omega) (by omega)]
        exact c
      rw [E188_44, if_pos g]
    · have g : ¬(nZ dd < nZ y) := by
        rw [nZ_lt (by omega) (by omega)]
        exact c
      rw [E188_44, if_neg g, if_neg (by decide)]
  | m + 1, y, K, h, e, M, B, Dc, hy, hK, sK, w, p => by
    by_cases c : dd < y
    · have g : nZ dd < nZ y := by
        rw [nZ_lt (by omega) (by omega)]
        exact c
      have ey : min (dd + 1) D = y := by omega
      refine ⟨h, K, ?_, Fr.refl, B, Dc, by rw [ey]; exact p⟩
      rw [E188_44, if_pos g]
    · have g : ¬(nZ dd < nZ y) := by
        rw [nZ_lt (by omega) (by omega)]
        exact c
      have up : (0 : Int32) < nZ (m + 1) := by
        rw [L0, nZ_lt (by decide) (by omega)]
        omega
      have dn : nZ (m + 1) + (-1) = nZ (D - (y + 1)) := by
        rw [nZ_neg1, nZ_m1 (by omega), show m + 1 - 1 = D - (y + 1) by omega]
      have ip : nZ y + 1 = nZ (y + 1) := by rw [L1, nZ_add]
      obtain ⟨h1, S, e220, F1, B1, D1, lS⟩ := m220 M d a E D y K ha hE hEn (by omega) hD hK sK w B Dc
      obtain ⟨k, K', ek, Fk, r⟩ := m188_44 d a E K0 D dd ha hE hEn hD hdd m (y + 1) (K ||| S) h1 (by omega) (M.fr F1 (fun j => rfl)) B1 D1 (by omega) (or_256 hK lS.1) (sbs_or lS.2.1 sK) lS.2.2.1 ⟨K, S, p, lS, rfl⟩
      refine ⟨k, K', ?_, F1.trans Fk, r⟩
      rw [E188_44, if_neg g, if_pos up, dn, e220, jI, ip, show D - (y + 1) = m by omega]
      exact ek

/-! the reference's spread: days from a day on -/
theorem isM_pc {W : Nat → Nat} {a E y K v : Nat} (h : ∃ S, isM W a E y K S ∧ pc S = v) {S : Nat} (hS : S < 256) : isM W a E y K S ↔ fit W a E y K S ∧ pc S = v := by
  obtain ⟨S0, s1, s2⟩ := h
  have c0 := pc_card S0 s1.1
  have c := pc_card S hS
  constructor
  · intro h
    refine ⟨h.2.1, ?_⟩
    have g1 := h.2.2 S0 s1.1 s1.2.1
    have g2 := s1.2.2 S hS h.2.1
    unfold card8 at g1 g2
    have g1' : pc S0 ≤ pc S := by
      rw [c0, c]
      exact g1
    have g2' : pc S ≤ pc S0 := by
      rw [c0, c]
      exact g2
    omega
  · rintro ⟨f, e⟩
    refine ⟨hS, f, fun S' h1 h2 => ?_⟩
    have g := s1.2.2 S' h1 h2
    have c' := pc_card S' h1
    show cN (fun i => S'.testBit i) 8 ≤ cN (fun i => S.testBit i) 8
    have g' : cN (fun i => S'.testBit i) 8 ≤ cN (fun i => S0.testBit i) 8 := g
    omega
/-- days kept -/
def dC (h : QH) (W : Nat → Nat) (a E : Nat) : Prop := ∀ y K, y < 31 → K < 256 → hI h 74 (256 * y + K) = -1 ∨ ∃ v, hI h 74 (256 * y + K) = nZ v ∧ sfv W a E y K v
def fSf (y b j : Nat) : Bool := Nat.beq b 74 || (Nat.beq b 75 && decide (256 * y ≤ j))
theorem fSf_4 {y j : Nat} : fSf y 74 j = true := rfl
theorem fSf_n {y b j : Nat} (h1 : b ≠ 74) (h2 : b ≠ 75) : fSf y b j = false := by
  unfold fSf
  cases e : Nat.beq b 74
  · cases e2 : Nat.beq b 75
    · rfl
    · exact absurd (Nat.eq_of_beq_eq_true e2) h2
  · exact absurd (Nat.eq_of_beq_eq_true e) h1
theorem fSf_o {y j : Nat} (h : j < 256 * y) : fSf y 75 j = false := by
  unfold fSf
  rw [decide_eq_false (by omega), Bool.and_false]
  rfl
theorem fRw_Sf {y : Nat} (b j : Nat) (h : fRw y b j = true) : fSf y b j = true := by
  unfold fRw at h
  rw [Bool.and_eq_true] at h
  have e := Nat.eq_of_beq_eq_true h.1
  have d := of_decide_eq_true h.2
  subst e
  unfold fSf
  rw [decide_eq_true d.1]
  rfl
theorem fSf_up {y : Nat} (b j : Nat) (h : fSf (y + 1) b j = true) : fSf y b j = true := by
  unfold fSf at h ⊢
  cases e : Nat.beq b 74
  · rw [e] at h
    rw [Bool.false_or, Bool.and_eq_true] at h
    have d := of_decide_eq_true h.2
    rw [h.1, decide_eq_true (show 256 * y ≤ j by omega)]
    rfl
  · rfl
theorem m256_61 {W : Nat → Nat} (d a E y K v n : Nat) (ha : a < W 409) (hE : E < 256) (hy : y < 30) (hK : K < 256) (sK : sbs K E) (ne : K ≠ E) (top : ∃ S, isM W a E y K S ∧ pc S = v) (rec : ∀ K' h, K' < 256 → sbs K' E → MM h W → bgn h a E → dC h W a E → ∃ k v', qcl (d + 4 + n) 256 [qR (some 56), qI (nZ (y + 1)), qI (nZ K')] h = some (some (qI (nZ v')), k) ∧ Fr (fSf (y + 1)) h k ∧ dC k W a E ∧ sfv W a E (y + 1) K' v') : ∀ m s h b, s + m = 256 → MM h W → bgn h a E → dC h W a E → (∀ S, S < 256 → tf (hI h 75 (256 * y + S)) (fit W a E y K S)) → bst W a E y K s b → ∃ k v', qbig (d + 4 + n + 1) 256 61 [sR (some 56), sI (nZ y), sI (nZ K), sI (nZ (256 * y + K)), sI (nZ v), sI (nZ b), sI (nZ s)] [] h = some (some (qI (nZ v')), k) ∧ Fr (fSf y) h k ∧ dC k W a E ∧ sfv W a E y K v'
  | 0, s, h, b, e, M, B, D, R, b0 => by
    have e' : s = 256 := by omega
    subst e'
    have H := M.1
    have sv := bst_e b0 hy ne
    have e217 := m217 (d + 3 + n) b 1000 (by have := b0.1; omega) (by decide) h
    rw [Nat.min_eq_left b0.1] at e217
    have e217' : qcl (d + 4 + n) 217 [qI (nZ b), qI 1000] h = some (some (qI (nZ b)), h) := by
      rw [show d + 4 + n = d + 3 + n + 1 by omega]
      exact e217
    have H1 : Sh (hsI h 74 (256 * y + K) (nZ b)) := H
    have a1' : hI (hsI h 74 (256 * y + K) (nZ b)) 74 (256 * y + K) = nZ b := hI_at rfl
    refine ⟨hsI h 74 (256 * y + K) (nZ b), b, ?_, Fr.si fSf_4 Fr.refl, fun y' K' h1 h2 => ?_, sv⟩
    · rw [E256_61, if_neg (by decide), g56_33 H, ob_some, e217', jI, ob_some, S74 H (by omega), ob_some, g56_33 H1, ob_some, ob_some, A74 H1 (by omega), ob_some, a1']
    · by_cases c : 256 * y' + K' = 256 * y + K
      · have e1 : y' = y := by omega
        have e2 : K' = K := by omega
        rw [e1, e2]
        exact Or.inr ⟨b, a1', sv⟩
      · rw [hI_ne (Or.inr c)]
        exact D y' K' h1 h2
  | m + 1, s, h, b, e, M, B, D, R, b0 => by
    have H := M.1
    have s8 : s < 256 := by omega
    have lt1 : nZ s < 256 := by
      rw [show (256 : Int32) = nZ 256 from rfl, nZ_lt (by omega) (by decide)]
      omega
    have ip : nZ s + 1 = nZ (s + 1) := by rw [L1, nZ_add]
    have z00 : nZ 0 = (0 : Int32) := rfl
    have z10 : ¬(nZ 1 = (0 : Int32)) := by decide
    have ix : (256 : Int32) * nZ y + nZ s = nZ (256 * y + s) := by rw [show (256 : Int32) = nZ 256 from rfl, nZ_mul, nZ_add]
    have Mi := isM_pc top s8
    have p8 := (pc_le s s8).1
    have v8 : v ≤ 8 := by
      obtain ⟨S0, q1, q2⟩ := top
      have := (pc_le S0 q1.1).1
      omega
    have skip : ¬isM W a E y K s → ∃ k v', qbig (d + 4 + n + 1) 256 61 [sR (some 56), sI (nZ y), sI (nZ K), sI (nZ (256 * y + K)), sI (nZ v), sI (nZ b), sI (nZ (s + 1))] [] h = some (some (qI (nZ v')), k) ∧ Fr (fSf y) h k ∧ dC k W a E ∧ sfv W a E y K v' := fun nm => m256_61 d a E y K v n ha hE hy hK sK ne top rec m (s + 1) h b (by omega) M B D R (bst_n b0 nm)
    have e228 : qcl (d + 4 + n) 228 [qI (nZ s)] h = some (some (qI (nZ (pc s))), h) := by
      rw [show d + 4 + n = d + 3 + n + 1 by omega]
      exact m228 _ s s8 h
    rcases R s s8 with ⟨q1, q2⟩ | ⟨q1, q2⟩
    · by_cases cv : pc s = v
      · have ev : nZ (pc s) = nZ v := by rw [cv]
        have im := Mi.2 ⟨q2, cv⟩
        obtain ⟨k, v', ek, Fk, Dk, sk⟩ := rec (K ||| s) h (or_256 hK s8) (sbs_or q2 sK) M B D
        have eo : nZ K ||| nZ s = nZ (K ||| s) := nZ_or _ _
        have ey : nZ y + 1 = nZ (y + 1) := by rw [L1, nZ_add]
        have v3 := sfv_le sk
        have b3 := b0.1
        have e1v : (1 : Int32) + nZ v' = nZ (1 + v') := by rw [L1, nZ_add]
        have e217 : qcl (d + 4 + n) 217 [qI (nZ b), qI (nZ (1 + v'))] k = some (some (qI (nZ (min b (1 + v')))), k) := by
          rw [show d + 4 + n = d + 3 + n + 1 by omega]
          exact m217 _ b (1 + v') (by omega) (by omega) k
        obtain ⟨k2, v2, ek2, Fk2, r⟩ := m256_61 d a E y K v n ha hE hy hK sK ne top rec m (s + 1) k (min b (1 + v')) (by omega) (M.fr Fk (fun j => fSf_n (by decide) (by decide))) (B.fr Fk (fSf_n (by decide) (by decide)) (fSf_n (by decide) (by decide))) Dk (fun S hS => by
          rw [Fk.2 75 _ (fSf_o (by omega))]
          exact R S hS) (bst_y b0 im sk)
        refine ⟨k2, v2, ?_, (Fk.mono fSf_up).trans Fk2, r⟩
        rw [E256_61, if_pos lt1, g56_34 H, ob_some, ob_some, ix, A75 H (by omega), ob_some, q1, if_neg z10, e228, jI, if_pos ev, ey, eo, ek, jI, e1v, e217, jI, ip]
        exact ek2
      · have ev : ¬(nZ (pc s) = nZ v) := by
          rw [nZ_eq (by omega) (by omega)]
          exact cv
        obtain ⟨k, v', ek, r⟩ := skip (fun q => cv (Mi.1 q).2)
        refine ⟨k, v', ?_, r⟩
        rw [E256_61, if_pos lt1, g56_34 H, ob_some, ob_some, ix, A75 H (by omega), ob_some, q1, if_neg z10, e228, jI, if_neg ev, ip]
        exact ek
    · obtain ⟨k, v', ek, r⟩ := skip (fun q => q2 (Mi.1 q).1)
      refine ⟨k, v', ?_, r⟩
      rw [E256_61, if_pos lt1, g56_34 H, ob_some, ob_some, ix, A75 H (by omega), ob_some, q1, if_pos z00, ip]
      exact ek
theorem m256 {W : Nat → Nat} (d a E : Nat) (ha : a < W 409) (hE : E < 256) (hEn : ∀ i, W 408 ≤ i → E.testBit i = false) : ∀ n y K h, y + n = 30 → K < 256 → sbs K E → MM h W → bgn h a E → dC h W a E → ∃ k v, qcl (d + 4 + n) 256 [qR (some 56), qI (nZ y), qI (nZ K)] h = some (some (qI (nZ v)), k) ∧ Fr (fSf y) h k ∧ dC k W a E ∧ sfv W a E y K v
  | 0, y, K, h, e, hK, sK, M, B, D => by
    have e' : y = 30 := by omega
    subst e'
    have H := M.1
    by_cases c : K = E
    · have ce : nZ K = nZ E := by rw [c]
      refine ⟨h, 0, ?_, Fr.refl, D, Or.inr ⟨by omega, c, fun m hm => by omega⟩⟩
      rw [E256, ck56 H, ob_some, g56_38 H, ob_some, B.2, if_pos ce]
      rfl
    · have ce : ¬(nZ K = nZ E) := by
        rw [nZ_eq (by omega) (by omega)]
        exact c
      refine ⟨h, 1000, ?_, Fr.refl, D, Or.inl ⟨rfl, fun m hm => ?_⟩⟩
      · rw [E256, ck56 H, ob_some, g56_38 H, ob_some, B.2, if_neg ce, if_pos (by decide)]
        rfl
      · rw [show m = 0 by omega]
        exact c
  | n + 1, y, K, h, e, hK, sK, M, B, D => by
    have H := M.1
    have hy : y < 30 := by omega
    by_cases c : K = E
    · have ce : nZ K = nZ E := by rw [c]
      refine ⟨h, 0, ?_, Fr.refl, D, Or.inr ⟨by omega, c, fun m hm => by omega⟩⟩
      rw [show d + 4 + (n + 1) = d + 4 + n + 1 by omega, E256, ck56 H, ob_some, g56_38 H, ob_some, B.2, if_pos ce]
      rfl
    have ce : ¬(nZ K = nZ E) := by
      rw [nZ_eq (by omega) (by omega)]
      exact c
    have ny : ¬(nZ y = (30 : Int32)) := by
      rw [L30, nZ_eq (by omega) (by decide)]
      omega
    have ix : (256 : Int32) * nZ y + nZ K = nZ (256 * y + K) := by rw [show (256 : Int32) = nZ 256 from rfl, nZ_mul, nZ_add]
    by_cases cx : hI h 74 (256 * y + K) = -1
    · obtain ⟨k, v, e221, Fk, Rk, top⟩ := m221 M (d + n + 1) a E y K ha hE hEn hy hK sK B
      have e221' : qcl (d + 4 + n) 221 [qR (some 56), qI (nZ y), qI (nZ K)] h = some (some (qI (nZ v)), k) := by
        rw [show d + 4 + n = d + n + 1 + 3 by omega]
        exact e221
      have Dk : dC k W a E := fun y' K' h1 h2 => by
        rw [Fk.2 74 _ (fRw_n (by decide))]
        exact D y' K' h1 h2
      obtain ⟨k2, v2, ek2, Fk2, r⟩ := m256_61 d a E y K v n ha hE hy hK sK c top (fun K' h' q1 q2 q3 q4 q5 => m256 d a E ha hE hEn n (y + 1) K' h' (by omega) q1 q2 q3 q4 q5) 256 0 k 1000 (by decide) (M.fr Fk (fun j => fRw_n (by decide))) (B.fr Fk (fRw_n (by decide)) (fRw_n (by decide))) Dk Rk bst_0
      refine ⟨k2, v2, ?_, (Fk.mono fRw_Sf).trans Fk2, r⟩
      rw [show d + 4 + (n + 1) = d + 4 + n + 1 by omega, E256, ck56 H, ob_some, g56_38 H, ob_some, B.2, if_neg ce, if_neg ny, g56_33 H, ob_some, ob_some, ix, A74 H (by omega), ob_some, if_pos cx, e221', jI]
      exact ek2
    · rcases D y K (by omega) hK with q | ⟨v, q1, q2⟩
      · exact absurd q cx
      · refine ⟨h, v, ?_, Fr.refl, D, q2⟩
        rw [show d + 4 + (n + 1) = d + 4 + n + 1 by omega, E256, ck56 H, ob_some, g56_38 H, ob_some, B.2, if_neg ce, if_neg ny, g56_33 H, ob_some, ob_some, ix, A74 H (by omega), ob_some, if_neg cx, ob_some, ob_some, A74 H (by omega), ob_some, q1]

/-! the class's spread: a look at a day -/
def fL (b j : Nat) : Bool := (match b with
  | 45 => (match j with | 6 => true | 7 => true | _ => false)
  | 49 => true
  | _ => false)
theorem fL_n (b j : Nat) (h1 : 11 ≤ b) (h2 : b < 26) : fL b j = false := by
  unfold fL
  split <;> first | omega | rfl
theorem fL_Sp (b j : Nat) (h : fL b j = true) : fSp b j = true := by
  unfold fL at h
  split at h
  · split at h
    · rfl
    · rfl
    · cases h
  · rfl
  · cases h
theorem spC.fr {h k : QH} {W : Nat → Nat} {a E : Nat} (C : spC h W a E) {cs : Nat → Nat → Bool} (F : Fr cs h k) (e4 : cs 45 4 = false) (e5 : cs 45 5 = false) (e7 : ∀ j, cs 47 j = false) (e8 : ∀ j, cs 48 j = false) : spC k W a E := by
  refine ⟨?_, ?_, fun p hp => ?_, fun y hy => ?_⟩
  · rw [F.2 45 4 e4]
    exact C.1
  · rw [F.2 45 5 e5]
    exact C.2.1
  · rw [F.2 47 p (e7 p)]
    exact C.2.2.1 p hp
  · rw [F.2 48 y (e8 y)]
    exact C.2.2.2 y hy
/-- the first k parts have been looked at -/
def lkI (h : QH) (W : Nat → Nat) (a E y K R k v : Nat) : Prop := hI h 45 6 = nZ R ∧ hI h 45 7 = nZ v ∧ ((∃ j, j ≤ k ∧ fit W a E y K (dp R j) ∧ pc (dp R j) = v) ∧ ∀ j, j ≤ k → fit W a E y K (dp R j) → pc (dp R j) ≤ v) ∧ ∀ j, j ≤ k → tf (hI h 49 (dp R j)) (fit W a E y K (dp R j))
theorem c136_110s {h : QH} {W : Nat → Nat} (X : CK h W) (d a E y K R k v m : Nat) (ha : a < 5) (hR : R < 256) (sRO : sbs R (OM W a E y K)) (sK : sbs K E) (C : spC h W a E) (hk : k + 1 + m + 1 = 2 ^ pc R) (I : lkI h W a E y K R k v) : ∃ h' v', qbig (d + 2) 136 110 [sR (some 45), sR (some 12), none, none, sI (nZ (TM W a E y K)), none, sI (nZ (dp R k)), sI (nZ (m + 1)), none] [] h = qbig (d + 2) 136 110 [sR (some 45), sR (some 12), none, none, sI (nZ (TM W a E y K)), none, sI (nZ (dp R (k + 1))), sI (nZ m), none] [] h' ∧ Fr fL h h' ∧ lkI h' W a E y K R (k + 1) v' := by
  have H := X.1
  have w := X.2.2
  obtain ⟨d1, d2, d3, d4, d5, d6⟩ := dp_2 R hR
  obtain ⟨n1, n2, n3⟩ := dp_1 R hR k (by omega) (by omega)
  obtain ⟨s1', s2'⟩ := d6 (k + 1) (by omega)
  obtain ⟨I1, I2, ⟨I3, I4⟩, I5⟩ := I
  have up : (0 : Int32) < nZ (m + 1) := by
    rw [L0, nZ_lt (by decide) (by omega)]
    omega
  have dn : nZ (m + 1) + (-1) = nZ m := by
    rw [nZ_neg1, nZ_m1 (by omega)]
    rfl
  have z00 : nZ 0 = (0 : Int32) := rfl
  have z10 : ¬(nZ 1 = (0 : Int32)) := by decide
  have v11 : (1 : Int32) &&& 1 = nZ 1 := by decide
  have v00 : (0 : Int32) &&& 1 = nZ 0 := by decide
  have bp := pc_le _ s1'
  have v8 : v ≤ 8 := by
    obtain ⟨j, j1, _, j3⟩ := I3
    have := (pc_le _ (d6 j (by omega)).1).1
    omega
  have ec1 := c1 d _ s1' h
  have lt : ∀ j, j ≤ k → dp R j ≠ dp R (k + 1) := fun j hj e => by
    have := dp_lt hR (show j < k + 1 by omega) (by omega)
    omega
  have sSO : sbs (dp R (k + 1)) (OM W a E y K) := fun i hi z => sRO i hi ((and_sbs s1').1 s2' i hi z)
  have hrm := rm_rr s1' sK sSO 8 (Nat.le_refl 8)
  have rl := rm_le w (E := E) (y := y) (K := K) (S := dp R (k + 1)) ha 8 (Nat.le_refl 8)
  have small : ∀ i, i < 8 → (dp R (k + 1)).testBit i = true → tf (hI h 49 (sd (dp R (k + 1)) (2 ^ i))) (fit W a E y K (sd (dp R (k + 1)) (2 ^ i))) := fun i hi z => by
    have l1' : sd (dp R (k + 1)) (2 ^ i) < 256 := Nat.lt_of_le_of_lt sd_le s1'
    have sub : sd (dp R (k + 1)) (2 ^ i) &&& R = sd (dp R (k + 1)) (2 ^ i) := (and_sbs l1').2 (fun j hj q => by
      rw [sd_tb (by omega), Bool.and_eq_true] at q
      exact (and_sbs s1').1 s2' j hj q.1)
    have ne : sd (dp R (k + 1)) (2 ^ i) ≠ dp R (k + 1) := fun e => by
      have q : (sd (dp R (k + 1)) (2 ^ i)).testBit i = true := by
        rw [e]
        exact z
      rw [sd_tb (by omega), Nat.testBit_two_pow, decide_eq_true rfl, Bool.not_true, Bool.and_false] at q
      cases q
    obtain ⟨q1, q2⟩ := dp_3 hR sub
    have jk : ext 8 R (sd (dp R (k + 1)) (2 ^ i)) ≤ k := by
      apply Nat.le_of_not_lt
      intro c
      have g := dp_le hR (ext 8 R (sd (dp R (k + 1)) (2 ^ i)) - (k + 1)) (k + 1) (by omega)
      rw [show k + 1 + (ext 8 R (sd (dp R (k + 1)) (2 ^ i)) - (k + 1)) = ext 8 R (sd (dp R (k + 1)) (2 ^ i)) by omega, q2] at g
      have := sd_le (x := dp R (k + 1)) (y := 2 ^ i)
      omega
    have := I5 _ jk
    rw [q2] at this
    exact this
  obtain ⟨x7, e143, t143⟩ := c143_2 H d (dp R (k + 1)) s1' (fit W a E y K) small 8 0 (by decide) (fun j hj => by omega)
  have e143' : qcl (d + 1) 143 [qR (some 45), qI (nZ (dp R (k + 1)))] h = some (some (qI x7), h) := by
    rw [E143, ck45 H, ob_some]
    exact e143
  have e140 : qcl (d + 1) 140 [qR (some 45), qR (some 12), qI (nZ (TM W a E y K)), qI (nZ (dp R (k + 1)))] h = some (some (qI (nZ (rm W a E y K (dp R (k + 1)) 8))), h) := by
    rw [E140, ck45 H, ob_some]
    exact c140_6 X d a E y K _ s1' C 8 0 (by decide)
  have fs := fit_step (W := W) (a := a) (E := E) (y := y) (K := K) (S := dp R (k + 1))
  have pcc := pc_card _ s1'
  have no : ¬fit W a E y K (dp R (k + 1)) → lkI (hsI h 49 (dp R (k + 1)) (nZ 0)) W a E y K R (k + 1) v := fun nf => by
    refine ⟨?_, ?_, ⟨?_, fun j hj f => ?_⟩, fun j hj => ?_⟩
    · rw [hI_ne (by omega)]
      exact I1
    · rw [hI_ne (by omega)]
      exact I2
    · obtain ⟨j, j1, j2⟩ := I3
      exact ⟨j, by omega, j2⟩
    · by_cases c : j = k + 1
      · rw [c] at f
        exact absurd f nf
      · exact I4 j (by omega) f
    · by_cases c : j = k + 1
      · rw [c, hI_at rfl]
        exact Or.inr ⟨rfl, nf⟩
      · rw [hI_ne (Or.inr (lt j (by omega)))]
        exact I5 j (by omega)
  have H1 : ∀ x, Sh (hsI h 49 (dp R (k + 1)) x) := fun x => H
  have a49 : ∀ x, hI (hsI h 49 (dp R (k + 1)) x) 49 (dp R (k + 1)) = x := fun x => hI_at rfl
  rcases t143 with ⟨q1, q2⟩ | ⟨q1, q2⟩
  case inr =>
    rw [q1] at e143'
    refine ⟨_, v, ?_, Fr.si rfl Fr.refl, no (fun f => q2 (fs.1 f).1)⟩
    rw [E136_110, if_pos up, g45_6 H, ob_some, ob_some, I1, n1, ec1, jI, g45_10 H, ob_some, e143', jI, if_pos z00, ob_some, v00, S49 H s1', ob_some, g45_10 (H1 _), ob_some, ob_some, A49 (H1 _) s1', ob_some, a49, if_pos z00, dn]
  rw [q1] at e143'
  by_cases cr : rm W a E y K (dp R (k + 1)) 8 < pc (dp R (k + 1))
  · have g : nZ (rm W a E y K (dp R (k + 1)) 8) < nZ (pc (dp R (k + 1))) := by
      rw [nZ_lt (by omega) (by omega)]
      exact cr
    refine ⟨_, v, ?_, Fr.si rfl Fr.refl, no (fun f => by
      have := (fs.1 f).2
      rw [← hrm] at this
      unfold card8 at this
      rw [← pcc] at this
      omega)⟩
    rw [E136_110, if_pos up, g45_6 H, ob_some, ob_some, I1, n1, ec1, jI, g45_10 H, ob_some, e143', jI, if_neg z10, e140, jI, if_pos g, ob_some, v00, S49 H s1', ob_some, g45_10 (H1 _), ob_some, ob_some, A49 (H1 _) s1', ob_some, a49, if_pos z00, dn]
  have g : ¬(nZ (rm W a E y K (dp R (k + 1)) 8) < nZ (pc (dp R (k + 1)))) := by
    rw [nZ_lt (by omega) (by omega)]
    exact cr
  have yes : fit W a E y K (dp R (k + 1)) := fs.2 ⟨q2, by
    rw [← hrm]
    unfold card8
    rw [← pcc]
    omega⟩
  have x13 : hI (hsI h 49 (dp R (k + 1)) (nZ 1)) 45 7 = nZ v := by
    rw [hI_ne (by omega)]
    exact I2
  have em : (if nZ v < nZ (pc (dp R (k + 1))) then nZ (pc (dp R (k + 1))) else nZ v) = nZ (max v (pc (dp R (k + 1)))) := by
    by_cases c : v < pc (dp R (k + 1))
    · rw [if_pos (by rw [nZ_lt (by omega) (by omega)]; exact c), Nat.max_eq_right (by omega)]
    · rw [if_neg (by rw [nZ_lt (by omega) (by omega)]; exact c), Nat.max_eq_left (by omega)]
  refine ⟨hsI (hsI h 49 (dp R (k + 1)) (nZ 1)) 45 7 (nZ (max v (pc (dp R (k + 1))))), max v (pc (dp R (k + 1))), ?_, Fr.si rfl (Fr.si rfl Fr.refl), ?_, hI_at rfl, ⟨?_, fun j hj f => ?_⟩, fun j hj => ?_⟩
  · rw [E136_110, if_pos up, g45_6 H, ob_some, ob_some, I1, n1, ec1, jI, g45_10 H, ob_some, e143', jI, if_neg z10, e140, jI, if_neg g, ob_some, v11, S49 H s1', ob_some, g45_10 (H1 _), ob_some, ob_some, A49 (H1 _) s1', ob_some, a49, if_neg z10, g45_7 (H1 _), ob_some, x13, em, p45_7 (H1 _), ob_some, dn]
  · rw [hI_ne (by omega), hI_ne (by omega)]
    exact I1
  · by_cases c : v < pc (dp R (k + 1))
    · exact ⟨k + 1, Nat.le_refl _, yes, (Nat.max_eq_right (by omega)).symm⟩
    · obtain ⟨j, j1, j2, j3⟩ := I3
      exact ⟨j, by omega, j2, by rw [Nat.max_eq_left (by omega)]; exact j3⟩
  · by_cases c : j = k + 1
    · rw [c]
      exact Nat.le_max_right _ _
    · exact Nat.le_trans (I4 j (by omega) f) (Nat.le_max_left _ _)
  · rw [hI_ne (by omega)]
    by_cases c : j = k + 1
    · rw [c, hI_at rfl]
      exact Or.inl ⟨rfl, yes⟩
    · rw [hI_ne (Or.inr (lt j (by omega)))]
      exact I5 j (by omega)
theorem c136_110 {W : Nat → Nat} (d a E y K R : Nat) (ha : a < 5) (hR : R < 256) (sR' : sbs R (OM W a E y K)) (sK : sbs K E) : ∀ m k h v, CK h W → spC h W a E → k + m + 1 = 2 ^ pc R → lkI h W a E y K R k v → ∃ h' v', qbig (d + 2) 136 110 [sR (some 45), sR (some 12), none, none, sI (nZ (TM W a E y K)), none, sI (nZ (dp R k)), sI (nZ m), none] [] h = some (none, h') ∧ Fr fL h h' ∧ lkI h' W a E y K R (2 ^ pc R - 1) v'
  | 0, k, h, v, X, C, e, I => by
    have e' : k = 2 ^ pc R - 1 := by omega
    rw [e'] at I
    refine ⟨h, v, ?_, Fr.refl, I⟩
    rw [E136_110, if_neg (by decide)]
  | m + 1, k, h, v, X, C, e, I => by
    obtain ⟨h1, v1, e1, F1, I1⟩ := c136_110s X d a E y K R k v m ha hR sR' sK C (by omega) I
    obtain ⟨h2, v2, e2, F2, I2⟩ := c136_110 d a E y K R ha hR sR' sK m (k + 1) h1 v1 (X.fr F1 fL_n) (C.fr F1 rfl rfl (fun _ => rfl) (fun _ => rfl)) (by omega) I1
    exact ⟨h2, v2, e1.trans e2, F1.trans F2, I2⟩
theorem c136_40 {W : Nat → Nat} (d a E y K : Nat) : ∀ m p h, p + m = 8 → CK h W → hI h 45 6 = nZ (rc W a E y K p) → ∃ k, qbig (d + 2) 136 40 [sR (some 45), sR (some 12), none, none, sI (nZ (TM W a E y K)), sI (nZ (OM W a E y K)), sI (nZ p), none, none] [] h = qbig (d + 2) 136 110 [sR (some 45), sR (some 12), none, none, sI (nZ (TM W a E y K)), none, sI (nZ 0), sI (nZ (2 ^ pc (rc W a E y K 8) - 1)), none] [] k ∧ Fr fL h k ∧ hI k 45 6 = nZ (rc W a E y K 8) ∧ hI k 45 7 = nZ 0 ∧ hI k 49 0 = nZ 1
  | 0, p, h, e, X, z => by
    have e' : p = 8 := by omega
    subst e'
    have H := X.1
    have r8 := rc_lt (W := W) (a := a) (E := E) (y := y) (K := K) 8
    have H1 : Sh (hsI h 45 7 (nZ 0)) := H
    have H2 : Sh (hsI (hsI h 45 7 (nZ 0)) 49 0 (nZ 1)) := H
    have v11 : (1 : Int32) &&& 1 = nZ 1 := by decide
    have z2 : hI (hsI (hsI h 45 7 (nZ 0)) 49 0 (nZ 1)) 45 6 = nZ (rc W a E y K 8) := by
      rw [hI_ne (by omega), hI_ne (by omega)]
      exact z
    have ec1 := c1 d _ r8 (hsI (hsI h 45 7 (nZ 0)) 49 0 (nZ 1))
    obtain ⟨d1, d2, d3, d4, d5, d6⟩ := dp_2 _ r8
    have e5 : ((1 : Int32) <<< (nZ (pc (rc W a E y K 8)) &&& 31)) - 1 = nZ (2 ^ pc (rc W a E y K 8) - 1) := by
      rw [d5, L1, nZ_sub d3]
    refine ⟨hsI (hsI h 45 7 (nZ 0)) 49 0 (nZ 1), ?_, Fr.si rfl (Fr.si rfl Fr.refl), z2, ?_, hI_at rfl⟩
    · have p7 : qpi 6 7 45 0 h = some (hsI h 45 7 (nZ 0)) := p45_7 H _
      have s49 : qsi 2 49 0 (nZ 1) (hsI h 45 7 (nZ 0)) = some (hsI (hsI h 45 7 (nZ 0)) 49 0 (nZ 1)) := S49 H1 (i := 0) (by decide) _
      rw [E136_40, if_neg (by decide), p7, ob_some, g45_10 H1, ob_some, ob_some, v11, s49, ob_some, g45_6 H2, ob_some, z2, ec1, jI, e5]
      rfl
    · rw [hI_ne (by omega), hI_at rfl]
  | m + 1, p, h, e, X, z => by
    have H := X.1
    have hp : p < 8 := by omega
    have lt1 : nZ p < 8 := by
      rw [L8, nZ_lt (by omega) (by decide)]
      exact hp
    have ip : nZ p + 1 = nZ (p + 1) := by rw [L1, nZ_add]
    have z00 : nZ 0 = (0 : Int32) := rfl
    have z10 : ¬(nZ 1 = (0 : Int32)) := by decide
    have t8 := TM_lt (W := W) (a := a) (E := E) (y := y) (K := K)
    have eb := bit_get (x := TM W a E y K) (p := p) (by omega) (by omega)
    have es : rc W a E y K (p + 1) = if (TM W a E y K).testBit p = true then rc W a E y K p ||| (W (32 + p) &&& OM W a E y K) else rc W a E y K p := rfl
    by_cases c : (TM W a E y K).testBit p = true
    · rw [if_pos c] at eb es
      have F1 : Fr fL h (hsI h 45 6 (nZ (rc W a E y K (p + 1)))) := Fr.si rfl Fr.refl
      obtain ⟨k, ek, Fk, zk⟩ := c136_40 d a E y K m (p + 1) (hsI h 45 6 (nZ (rc W a E y K (p + 1)))) (by omega) (X.fr F1 fL_n) (hI_at rfl)
      refine ⟨k, ?_, F1.trans Fk, zk⟩
      rw [E136_40, if_pos lt1, eb, if_neg z10, g45_6 H, ob_some, z, ob_some, g12_3 H, ob_some, ob_some, A14 H hp, ob_some, X.me hp, nZ_and, nZ_or, ← es, p45_6 H, ob_some, ip]
      exact ek
    · rw [if_neg c] at eb es
      obtain ⟨k, ek, Fk, zk⟩ := c136_40 d a E y K m (p + 1) h (by omega) X (by rw [es]; exact z)
      refine ⟨k, ?_, Fk, zk⟩
      rw [E136_40, if_pos lt1, eb, if_pos z00, ip]
      exact ek
/-- a day looked at -/
def lkD (h : QH) (W : Nat → Nat) (a E y K R v : Nat) : Prop := hI h 45 6 = nZ R ∧ hI h 45 7 = nZ v ∧ R < 256 ∧ (∀ S, S < 256 → S &&& R = S → tf (hI h 49 S) (fit W a E y K S)) ∧ (∀ S, S < 256 → fit W a E y K S → S &&& R = S) ∧ (∃ S, isM W a E y K S ∧ pc S = v)
theorem fit_rc {W : Nat → Nat} {a E y K S : Nat} (t1 : 1 ≤ W (40 + 4 * a)) (sK : sbs K E) (f : fit W a E y K S) : sbs S (rc W a E y K 8) := fun i hi z => by
  obtain ⟨p, p1, p2, p3, p4⟩ := fit_in f hi z
  apply (rc_tb 8).2
  unfold tl at p2
  unfold wm at p3
  simp only [Bool.and_eq_true] at p2 p3
  refine ⟨p, p1, ?_, p3.2.2.1, ?_⟩
  · rw [TM_tb p1]
    unfold prB okB
    simp only [Bool.and_eq_true]
    refine ⟨⟨⟨sK p p1 p2.1, p2.2⟩, p2.1⟩, decide_eq_true ?_⟩
    apply Nat.le_of_not_lt
    intro c
    unfold cp at p4
    rw [Nat.div_eq_of_lt c, Nat.zero_mul] at p4
    omega
  · rw [OM_tb hi]
    unfold prB okB
    simp only [Bool.and_eq_true]
    exact ⟨⟨⟨p3.1, p3.2.2.2.1⟩, p3.2.2.2.2⟩, p3.2.1⟩
theorem c136 {h : QH} {W : Nat → Nat} (X : CK h W) (d a E y K : Nat) (ha : a < W 409) (hy : y < 30) (hK : K < 256) (sK : sbs K E) (C : spC h W a E) : ∃ k R v, qcl (d + 2) 136 [qR (some 45), qR (some 12), qI (nZ K), qI (nZ y)] h = some (none, k) ∧ Fr fL h k ∧ lkD k W a E y K R v := by
  have H := X.1
  have w := X.2.2
  have n5 : W 409 ≤ 5 := w.1 409 (by decide) (by decide)
  have t1 := w.2.2.1 a ha
  have eT : (nZ (mb (prB W E y) 8) &&& nZ K) &&& nZ (mb (okB W a) 8) = nZ (TM W a E y K) := by
    rw [nZ_and, nZ_and]
    rfl
  have eO : (nZ (mb (prB W E y) 8) &&& nZ (mb (okB W a) 8)) &&& (nZ K ^^^ (-1)) = nZ (OM W a E y K) := by
    rw [nZ_and, sd_i]
    rfl
  have F1 : Fr fL h (hsI h 45 6 (nZ 0)) := Fr.si rfl Fr.refl
  have X1 := X.fr F1 fL_n
  obtain ⟨k, ek, Fk, z6, z7, z49⟩ := c136_40 d a E y K 8 0 (hsI h 45 6 (nZ 0)) (by decide) X1 (hI_at rfl)
  have Xk := X1.fr Fk fL_n
  have Ck := (C.fr F1 rfl rfl (fun _ => rfl) (fun _ => rfl)).fr Fk rfl rfl (fun _ => rfl) (fun _ => rfl)
  have r8 := rc_lt (W := W) (a := a) (E := E) (y := y) (K := K) 8
  obtain ⟨d1, d2, d3, d4, d5, d6⟩ := dp_2 _ r8
  have sO : sbs (rc W a E y K 8) (OM W a E y K) := fun i hi z => by
    obtain ⟨p, _, _, _, p4⟩ := (rc_tb 8).1 z
    exact p4
  have I0 : lkI k W a E y K (rc W a E y K 8) 0 0 := by
    refine ⟨z6, z7, ⟨⟨0, Nat.le_refl 0, ?_, ?_⟩, fun j hj f => ?_⟩, fun j hj => ?_⟩
    · rw [d1]
      exact fit_0
    · rw [d1]
      rfl
    · rw [show j = 0 by omega, d1]
      decide
    · rw [show j = 0 by omega, d1]
      exact Or.inl ⟨z49, fit_0⟩
  obtain ⟨k2, v, ek2, Fk2, I2⟩ := c136_110 d a E y K (rc W a E y K 8) (by omega) r8 sO sK (2 ^ pc (rc W a E y K 8) - 1) 0 k 0 Xk Ck (by omega) I0
  rw [d1] at ek2
  have fin : ∀ S, S < 256 → fit W a E y K S → S &&& rc W a E y K 8 = S := fun S hS f => (and_sbs hS).2 (fit_rc t1 sK f)
  obtain ⟨J1, J2, ⟨⟨j0, j1, j2, j3⟩, J4⟩, J5⟩ := I2
  refine ⟨k2, rc W a E y K 8, v, ?_, (F1.trans Fk).trans Fk2, J1, J2, r8, fun S hS sub => ?_, fin, dp (rc W a E y K 8) j0, ⟨(d6 j0 (by omega)).1, j2, fun S' h1 h2 => ?_⟩, j3⟩
  · have p6 : qpi 6 6 45 0 h = some (hsI h 45 6 (nZ 0)) := p45_6 H _
    rw [E136, ck45 H, ob_some, g45_9 H, ob_some, ob_some, A48 H hy, ob_some, C.2.2.2 y hy, g45_5 H, ob_some, C.2.1, ob_some, ob_some, A48 H hy, ob_some, C.2.2.2 y hy, ob_some, p6, ob_some, eT, eO]
    exact ek.trans ek2
  · obtain ⟨q1, q2⟩ := dp_3 r8 sub
    have := J5 _ (show ext 8 (rc W a E y K 8) S ≤ 2 ^ pc (rc W a E y K 8) - 1 by omega)
    rw [q2] at this
    exact this
  · obtain ⟨q1, q2⟩ := dp_3 r8 (fin S' h1 h2)
    have g := J4 (ext 8 (rc W a E y K 8) S') (by omega) (by rw [q2]; exact h2)
    rw [q2] at g
    have c1' := pc_card S' h1
    have c2' := pc_card _ (d6 j0 (by omega)).1
    show cN (fun i => S'.testBit i) 8 ≤ cN (fun i => (dp (rc W a E y K 8) j0).testBit i) 8
    omega

/-! the reference's spread: a day -/
theorem cQ_c {W : Nat → Nat} {a E y K n : Nat} {X Y : Set8} (h : cQ W a E y K n X) (e : ∀ i, i < 8 → Y i = X i) : cQ W a E y K n Y := (cQ_Hl n Y).2 (((cQ_Hl n X).1 h).c e)
theorem PN_cQ {W : Nat → Nat} {a E y K p S M : Nat} (hS : S < 256) (t : tl W y K p = true) (eM : ∀ i, i < 8 → M.testBit i = wm W a E y K p i) : PN (fun S => cQ W a E y K p (tb S)) M (cp W a p) S ↔ cQ W a E y K (p + 1) (tb S) := by
  constructor
  · rintro (h | ⟨Q, q1, q2, q3, q4⟩)
    · exact Or.inl h
    · have q8 : Q < 256 := by
        rw [← q2]
        exact Nat.lt_of_le_of_lt Nat.and_le_right (Nat.lt_of_le_of_lt Nat.and_le_left hS)
      have sub := (and_sbs q8).1 q2
      refine Or.inr ⟨t, tb Q, ?_, fun i hi z => ?_, ?_, cQ_c q4 (fun i hi => ?_)⟩
      · have : pc Q ≠ 0 := by
          have := (pc_le Q q8).2.1 (by omega)
          omega
        rw [pc_card Q q8] at this
        exact cN_pos 8 this
      · have := sub i hi z
        rw [Nat.testBit_and, Bool.and_eq_true] at this
        exact ⟨this.1, by rw [← eM i hi]; exact this.2⟩
      · unfold card8
        rw [← pc_card Q q8]
        exact q3
      · show (S.testBit i && !Q.testBit i) = (sd S Q).testBit i
        rw [sd_tb (by omega)]
  · rintro (h | ⟨_, P, p1, p2, p3, p4⟩)
    · exact Or.inl h
    · obtain ⟨Q, q8, qe⟩ := mk8 P
      refine Or.inr ⟨Q, fun e => ?_, (and_sbs q8).2 (fun i hi z => ?_), ?_, cQ_c p4 (fun i hi => ?_)⟩
      · obtain ⟨i, hi, z⟩ := p1
        rw [← qe i hi, e, Nat.zero_testBit] at z
        cases z
      · rw [qe i hi] at z
        obtain ⟨z1, z2⟩ := p2 i hi z
        rw [Nat.testBit_and, show S.testBit i = true from z1, eM i hi, z2]
        rfl
      · rw [pc_card Q q8]
        have : cN (fun i => Q.testBit i) 8 = card8 P := cN_congr 8 qe
        rw [this]
        exact p3
      · show (sd S Q).testBit i = (S.testBit i && !P i)
        rw [sd_tb (by omega), qe i hi]
/-- begun -/
def bgn (h : QH) (a E : Nat) : Prop := hI h 56 35 = nZ a ∧ hI h 56 38 = nZ E
theorem bgn.fr {h k : QH} {a E : Nat} (B : bgn h a E) {cs : Nat → Nat → Bool} (F : Fr cs h k) (e1 : cs 56 35 = false) (e2 : cs 56 38 = false) : bgn k a E := by
  refine ⟨?_, ?_⟩
  · rw [F.2 56 35 e1]
    exact B.1
  · rw [F.2 56 38 e2]
    exact B.2
theorem MM.fr {h k : QH} {W : Nat → Nat} (M : MM h W) {cs : Nat → Nat → Bool} (F : Fr cs h k) (e : ∀ j, cs 58 j = false) : MM k W := ⟨F.Sh M.1, M.2.1.of (fun j => F.2 58 j (e j)), M.2.2⟩
theorem m221_9 (d y : Nat) (K : Nat) (hy : y < 31) : ∀ m s h, s + m = 256 → Sh h → (∀ S, S < s → hI h 75 (256 * y + S) = nZ (if S = 0 then 1 else 0)) → ∃ k, qbig (d + 1) 221 9 [sR (some 56), sI (nZ y), sI (nZ K), sI (nZ (256 * y)), sI (nZ s), none, none, none, none] [] h = qbig (d + 1) 221 48 [sR (some 56), sI (nZ y), sI (nZ K), sI (nZ (256 * y)), sI (nZ 0), sI (nZ 0), none, none, none] [] k ∧ Fr (fRw y) h k ∧ ∀ S, S < 256 → hI k 75 (256 * y + S) = nZ (if S = 0 then 1 else 0)
  | 0, s, h, e, H, z => by
    have e' : s = 256 := by omega
    subst e'
    refine ⟨h, ?_, Fr.refl, z⟩
    rw [E221_9, if_neg (by decide)]
    rfl
  | m + 1, s, h, e, H, z => by
    have lt1 : nZ s < 256 := by
      rw [show (256 : Int32) = nZ 256 from rfl, nZ_lt (by omega) (by decide)]
      omega
    have ip : nZ s + 1 = nZ (s + 1) := by rw [L1, nZ_add]
    have F1 : ∀ v, Fr (fRw y) h (hsI h 75 (256 * y + s) v) := fun v => Fr.si (fRw_t (by omega) (by omega)) Fr.refl
    have v11 : (1 : Int32) &&& 1 = nZ 1 := by decide
    have v00 : (0 : Int32) &&& 1 = nZ 0 := by decide
    obtain ⟨k, ek, Fk, zk⟩ := m221_9 d y K hy m (s + 1) (hsI h 75 (256 * y + s) (nZ (if s = 0 then 1 else 0))) (by omega) H (fun S hS => by
      by_cases c : S = s
      · rw [c, hI_at rfl]
      · rw [hI_ne (by omega)]
        exact z S (by omega))
    refine ⟨k, ?_, (F1 _).trans Fk, zk⟩
    by_cases c : s = 0
    · have s0 : nZ s = (0 : Int32) := by
        rw [c]
        rfl
      rw [if_pos c] at ek
      rw [E221_9, if_pos lt1, g56_34 H, ob_some, if_pos s0, ob_some, nZ_add, v11, S75 H (by omega), ob_some, ip]
      exact ek
    · have s0 : ¬(nZ s = (0 : Int32)) := by
        rw [L0, nZ_eq (by omega) (by decide)]
        exact c
      rw [if_neg c] at ek
      rw [E221_9, if_pos lt1, g56_34 H, ob_some, if_neg s0, ob_some, nZ_add, v00, S75 H (by omega), ob_some, ip]
      exact ek
theorem m221_114 {h : QH} {W : Nat → Nat} (M : MM h W) (d a E y K p : Nat) (a3 a4 a6 : Int32) (ha : a < 5) (hE : E < 256) (hy : y < 30) (hp : p < 8) (B : bgn h a E) : ∀ m q, q + m = W 408 → qbig (d + 3) 221 114 [sR (some 56), sI (nZ y), sI (nZ K), sI a3, sI a4, sI (nZ p), sI a6, sI (nZ (mb (wm W a E y K p) q)), sI (nZ q)] [] h = qbig (d + 3) 221 114 [sR (some 56), sI (nZ y), sI (nZ K), sI a3, sI a4, sI (nZ p), sI a6, sI (nZ (mb (wm W a E y K p) (W 408))), sI (nZ (W 408))] [] h
  | 0, q, e => by
    have e' : q = W 408 := by omega
    rw [e']
  | m + 1, q, e => by
    have H := M.1
    have w := M.2.2
    have n8 := M.n8
    have hq : q < 8 := by omega
    have e232 := n232 M (d + 1)
    have lt1 : nZ q < nZ (W 408) := by
      rw [nZ_lt (by omega) (by omega)]
      omega
    have ip : nZ q + 1 = nZ (q + 1) := by rw [L1, nZ_add]
    have z00 : nZ 0 = (0 : Int32) := rfl
    have z10 : ¬(nZ 1 = (0 : Int32)) := by decide
    have ih := m221_114 M d a E y K p a3 a4 a6 ha hE hy hp B m (q + 1) (by omega)
    have s8 : sd E K < 256 := Nat.lt_of_le_of_lt sd_le hE
    have e196 := m196 (d + 1) (sd E K) q h (by omega) (by omega)
    have e223 := n223 M d (p := p) (k := q) hp (by omega)
    have e201 := n201 M d (p := q) (k := y) hq (by omega)
    have e227 : qcl (d + 2) 227 [qR (some 56), qI (nZ q), qI 2] h = some (some (qI (nZ (W (4 * q + 2)))), h) := n227 M (d + 1) (p := q) (f := 2) hq (by decide)
    have e168 : qcl (d + 2) 168 [qR (some 56), qI (nZ a), qI 0] h = some (some (qI (nZ (W (40 + 4 * a)))), h) := n168 M (d + 1) (a := a) (f := 0) ha (by decide)
    have bh := w.bh hq
    have bt := (w.bt ha).1
    have es : mb (wm W a E y K p) (q + 1) = if wm W a E y K p q = true then mb (wm W a E y K p) q ||| 2 ^ q else mb (wm W a E y K p) q := rfl
    have tbq : (sd E K).testBit q = (E.testBit q && !K.testBit q) := sd_tb (by omega)
    rw [es] at ih
    by_cases c1' : (sd E K).testBit q = true
    case neg =>
      rw [bI_f c1'] at e196
      have n : ¬(wm W a E y K p q = true) := fun z => c1' (by
        unfold wm at z
        simp only [Bool.and_eq_true] at z
        rw [tbq, z.1, z.2.1]
        rfl)
      rw [if_neg n] at ih
      rw [E221_114, e232, jI, if_pos lt1, g56_38 H, ob_some, B.2, sd_i, e196, jI, if_pos z00, ip]
      exact ih
    rw [bI_t c1'] at e196
    rw [tbq, Bool.and_eq_true] at c1'
    by_cases c2' : (W (32 + p)).testBit q = true
    case neg =>
      rw [bI_f c2'] at e223
      have n : ¬(wm W a E y K p q = true) := fun z => c2' (by
        unfold wm at z
        simp only [Bool.and_eq_true] at z
        exact z.2.2.1)
      rw [if_neg n] at ih
      rw [E221_114, e232, jI, if_pos lt1, g56_38 H, ob_some, B.2, sd_i, e196, jI, if_neg z10, e223, jI, if_pos z00, ip]
      exact ih
    rw [bI_t c2'] at e223
    by_cases c3 : (W (4 * q + 3)).testBit y = true
    · rw [bI_t c3] at e201
      have n : ¬(wm W a E y K p q = true) := fun z => by
        unfold wm at z
        simp only [Bool.and_eq_true] at z
        have := z.2.2.2.1
        rw [c3] at this
        cases this
      rw [if_neg n] at ih
      rw [E221_114, e232, jI, if_pos lt1, g56_38 H, ob_some, B.2, sd_i, e196, jI, if_neg z10, e223, jI, if_neg z10, e201, jI, if_neg z10, ip]
      exact ih
    rw [bI_f c3] at e201
    by_cases c4 : W (4 * q + 2) < W (40 + 4 * a)
    · have g : nZ (W (4 * q + 2)) < nZ (W (40 + 4 * a)) := by
        rw [nZ_lt (by omega) (by omega)]
        exact c4
      have n : ¬(wm W a E y K p q = true) := fun z => by
        unfold wm at z
        simp only [Bool.and_eq_true] at z
        have := of_decide_eq_true z.2.2.2.2
        omega
      rw [if_neg n] at ih
      rw [E221_114, e232, jI, if_pos lt1, g56_38 H, ob_some, B.2, sd_i, e196, jI, if_neg z10, e223, jI, if_neg z10, e201, jI, if_pos z00, e227, jI, g56_35 H, ob_some, B.1, e168, jI, if_pos g, ip]
      exact ih
    · have g : ¬(nZ (W (4 * q + 2)) < nZ (W (40 + 4 * a))) := by
        rw [nZ_lt (by omega) (by omega)]
        exact c4
      have n : wm W a E y K p q = true := by
        unfold wm
        simp only [Bool.and_eq_true]
        exact ⟨c1'.1, c1'.2, c2', by rw [Bool.eq_false_iff.2 c3]; rfl, decide_eq_true (by omega)⟩
      rw [if_pos n] at ih
      rw [E221_114, e232, jI, if_pos lt1, g56_38 H, ob_some, B.2, sd_i, e196, jI, if_neg z10, e223, jI, if_neg z10, e201, jI, if_pos z00, e227, jI, g56_35 H, ob_some, B.1, e168, jI, if_neg g, bit_set (by omega), ip]
      exact ih
theorem m221_48 {W : Nat → Nat} (d a E y K : Nat) (ha : a < 5) (t1 : 1 ≤ W (40 + 4 * a)) (hE : E < 256) (hEn : ∀ i, W 408 ≤ i → E.testBit i = false) (hy : y < 30) (hK : K < 256) : ∀ m p h, p + m = W 408 → MM h W → bgn h a E → (∀ S, S < 256 → tf (hI h 75 (256 * y + S)) (cQ W a E y K p (tb S))) → ∃ k, qbig (d + 3) 221 48 [sR (some 56), sI (nZ y), sI (nZ K), sI (nZ (256 * y)), sI (nZ 0), sI (nZ p), none, none, none] [] h = qbig (d + 3) 221 212 [sR (some 56), none, none, sI (nZ (256 * y)), sI (nZ 0), sI (nZ 0), none, none, none] [] k ∧ Fr (fRw y) h k ∧ ∀ S, S < 256 → tf (hI k 75 (256 * y + S)) (cQ W a E y K (W 408) (tb S))
  | 0, p, h, e, M, B, z => by
    have e' : p = W 408 := by omega
    have n8 := M.n8
    have e232 := n232 M (d + 1)
    have lt1 : ¬(nZ p < nZ (W 408)) := by
      rw [nZ_lt (by omega) (by omega)]
      omega
    rw [e'] at z
    refine ⟨h, ?_, Fr.refl, z⟩
    rw [E221_48, e232, jI, if_neg lt1]
    rfl
  | m + 1, p, h, e, M, B, z => by
    have H := M.1
    have w := M.2.2
    have n8 := M.n8
    have hp : p < 8 := by omega
    have e232 := n232 M (d + 1)
    have lt1 : nZ p < nZ (W 408) := by
      rw [nZ_lt (by omega) (by omega)]
      omega
    have ip : nZ p + 1 = nZ (p + 1) := by rw [L1, nZ_add]
    have z00 : nZ 0 = (0 : Int32) := rfl
    have z10 : ¬(nZ 1 = (0 : Int32)) := by decide
    have e196 := m196 (d + 1) K p h (by omega) (by omega)
    have e201 := n201 M d (p := p) (k := y) hp (by omega)
    have e227 : qcl (d + 2) 227 [qR (some 56), qI (nZ p), qI 2] h = some (some (qI (nZ (W (4 * p + 2)))), h) := n227 M (d + 1) (p := p) (f := 2) hp (by decide)
    have e168 : qcl (d + 2) 168 [qR (some 56), qI (nZ a), qI 0] h = some (some (qI (nZ (W (40 + 4 * a)))), h) := n168 M (d + 1) (a := a) (f := 0) ha (by decide)
    have e168' : qcl (d + 2) 168 [qR (some 56), qI (nZ a), qI 1] h = some (some (qI (nZ (W (41 + 4 * a)))), h) := by
      rw [show 41 + 4 * a = 40 + 4 * a + 1 by omega]
      exact n168 M (d + 1) (a := a) (f := 1) ha (by decide)
    have bh := w.bh hp
    have bt := (w.bt ha).1
    have skip : ¬(tl W y K p = true) → ∀ S, S < 256 → tf (hI h 75 (256 * y + S)) (cQ W a E y K (p + 1) (tb S)) := fun nt S hS => (z S hS).c ⟨fun q => Or.inl q, fun q => by
      rcases q with q | q
      · exact q
      · exact absurd q.1 nt⟩
    by_cases c1' : K.testBit p = true
    case neg =>
      rw [bI_f c1'] at e196
      obtain ⟨k, ek, Fk, zk⟩ := m221_48 d a E y K ha t1 hE hEn hy hK m (p + 1) h (by omega) M B (skip (fun q => c1' (by
        unfold tl at q
        rw [Bool.and_eq_true] at q
        exact q.1)))
      refine ⟨k, ?_, Fk, zk⟩
      rw [E221_48, e232, jI, if_pos lt1, e196, jI, if_pos z00, ip]
      exact ek
    rw [bI_t c1'] at e196
    by_cases c2' : (W (4 * p + 3)).testBit y = true
    · rw [bI_t c2'] at e201
      obtain ⟨k, ek, Fk, zk⟩ := m221_48 d a E y K ha t1 hE hEn hy hK m (p + 1) h (by omega) M B (skip (fun q => by
        unfold tl at q
        rw [Bool.and_eq_true, c2'] at q
        cases q.2))
      refine ⟨k, ?_, Fk, zk⟩
      rw [E221_48, e232, jI, if_pos lt1, e196, jI, if_neg z10, e201, jI, if_neg z10, ip]
      exact ek
    rw [bI_f c2'] at e201
    have t : tl W y K p = true := by
      unfold tl
      rw [c1', Bool.eq_false_iff.2 c2']
      rfl
    have n0 : ¬(nZ (W (40 + 4 * a)) = (0 : Int32)) := by
      rw [L0, nZ_eq (by omega) (by decide)]
      omega
    have em : (nZ (W (4 * p + 2)) / nZ (W (40 + 4 * a))) * nZ (W (41 + 4 * a)) = nZ (cp W a p) := by
      rw [nZ_div (by omega) (by omega), nZ_mul]
      rfl
    have m8 : mb (wm W a E y K p) (W 408) < 256 := Nat.lt_of_lt_of_le (mb_lt (W 408)) (Nat.pow_le_pow_right (n := 2) (by decide) n8)
    have cl := cp_le w ha hp
    obtain ⟨k, e253, Fk, zk⟩ := m253 H d y (mb (wm W a E y K p) (W 408)) (cp W a p) (fun S => cQ W a E y K p (tb S)) (by omega) m8 (by omega) z
    have lt2 : ¬(nZ (W 408) < nZ (W 408)) := by
      rw [nZ_lt (by omega) (by omega)]
      omega
    have eM : ∀ i, i < 8 → (mb (wm W a E y K p) (W 408)).testBit i = wm W a E y K p i := fun i hi => by
      rw [mb_tb]
      by_cases c : i < W 408
      · rw [decide_eq_true c, Bool.true_and]
      · rw [decide_eq_false c, Bool.false_and]
        unfold wm
        rw [hEn i (by omega), Bool.false_and]
    obtain ⟨k2, ek2, Fk2, zk2⟩ := m221_48 d a E y K ha t1 hE hEn hy hK m (p + 1) k (by omega) (M.fr Fk (fun j => fRw_n (by decide))) (B.fr Fk (fRw_n (by decide)) (fRw_n (by decide))) (fun S hS => (zk S hS).c (PN_cQ hS t eM))
    refine ⟨k2, ?_, Fk.trans Fk2, zk2⟩
    rw [E221_48, e232, jI, if_pos lt1, e196, jI, if_neg z10, e201, jI, if_pos z00, e227, jI, g56_35 H, ob_some, B.1, e168, jI, if_neg n0, g56_35 H, ob_some, B.1, e168', jI, em]
    refine (m221_114 M d a E y K p (nZ (256 * y)) (nZ 0) (nZ (cp W a p)) ha hE hy hp B (W 408) 0 (by omega)).trans ?_
    rw [E221_114, e232, jI, if_neg lt2, e253, jV, ip]
    exact ek2
theorem m221_212 {h : QH} (H : Sh h) (d y : Nat) (P : Nat → Prop) (hy : y < 31) (z : ∀ S, S < 256 → tf (hI h 75 (256 * y + S)) (P S)) : ∀ m s v, s + m = 256 → v ≤ 8 → (∀ S, S < s → P S → pc S ≤ v) → (v = 0 ∨ ∃ S, S < 256 ∧ P S ∧ pc S = v) → ∃ v', qbig (d + 2) 221 212 [sR (some 56), none, none, sI (nZ (256 * y)), sI (nZ v), sI (nZ s), none, none, none] [] h = some (some (qI (nZ v')), h) ∧ (∀ S, S < 256 → P S → pc S ≤ v') ∧ (v' = 0 ∨ ∃ S, S < 256 ∧ P S ∧ pc S = v')
  | 0, s, v, e, hv, i1, i2 => by
    have e' : s = 256 := by omega
    subst e'
    refine ⟨v, ?_, i1, i2⟩
    rw [E221_212, if_neg (by decide)]
  | m + 1, s, v, e, hv, i1, i2 => by
    have lt1 : nZ s < 256 := by
      rw [show (256 : Int32) = nZ 256 from rfl, nZ_lt (by omega) (by decide)]
      omega
    have ip : nZ s + 1 = nZ (s + 1) := by rw [L1, nZ_add]
    have z00 : nZ 0 = (0 : Int32) := rfl
    have z10 : ¬(nZ 1 = (0 : Int32)) := by decide
    have p8 := (pc_le s (by omega)).1
    rcases z s (by omega) with ⟨q1, q2⟩ | ⟨q1, q2⟩
    · obtain ⟨v', ev, r⟩ := m221_212 H d y P hy z m (s + 1) (max v (pc s)) (by omega) (by omega) (fun S hS q => by
        by_cases c : S = s
        · rw [c]
          exact Nat.le_max_right _ _
        · exact Nat.le_trans (i1 S (by omega) q) (Nat.le_max_left _ _)) (by
        by_cases c : v < pc s
        · exact Or.inr ⟨s, by omega, q2, (Nat.max_eq_right (by omega)).symm⟩
        · rw [Nat.max_eq_left (by omega)]
          exact i2)
      refine ⟨v', ?_, r⟩
      rw [E221_212, if_pos lt1, g56_34 H, ob_some, ob_some, nZ_add, A75 H (by omega), ob_some, q1, if_neg z10, m228 d s (by omega) h, jI, m191 d v (pc s) (by omega) (by omega) h, jI, ip]
      exact ev
    · obtain ⟨v', ev, r⟩ := m221_212 H d y P hy z m (s + 1) v (by omega) hv (fun S hS q => by
        by_cases c : S = s
        · rw [c] at q
          exact absurd q q2
        · exact i1 S (by omega) q) i2
      refine ⟨v', ?_, r⟩
      rw [E221_212, if_pos lt1, g56_34 H, ob_some, ob_some, nZ_add, A75 H (by omega), ob_some, q1, if_pos z00, ip]
      exact ev
theorem m221 {h : QH} {W : Nat → Nat} (M : MM h W) (d a E y K : Nat) (ha : a < W 409) (hE : E < 256) (hEn : ∀ i, W 408 ≤ i → E.testBit i = false) (hy : y < 30) (hK : K < 256) (sK : sbs K E) (B : bgn h a E) : ∃ k v, qcl (d + 3) 221 [qR (some 56), qI (nZ y), qI (nZ K)] h = some (some (qI (nZ v)), k) ∧ Fr (fRw y) h k ∧ (∀ S, S < 256 → tf (hI k 75 (256 * y + S)) (fit W a E y K S)) ∧ ∃ S, isM W a E y K S ∧ pc S = v := by
  have H := M.1
  have n8 := M.n8
  have n5 := M.n5
  have t1 := M.2.2.2.2.1 a ha
  obtain ⟨h1, e1, F1, z1⟩ := m221_9 (d + 2) y K (by omega) 256 0 h (by decide) H (fun S hS => by omega)
  have M1 := M.fr F1 (fun j => fRw_n (by decide))
  have B1 := B.fr F1 (fRw_n (by decide)) (fRw_n (by decide))
  obtain ⟨h2, e2, F2, z2⟩ := m221_48 d a E y K (by omega) t1 hE hEn hy hK (W 408) 0 h1 (by omega) M1 B1 (fun S hS => by
    rw [z1 S hS]
    by_cases c : S = 0
    · rw [if_pos c]
      refine Or.inl ⟨rfl, fun i _ => ?_⟩
      show S.testBit i = false
      rw [c, Nat.zero_testBit]
    · rw [if_neg c]
      exact Or.inr ⟨rfl, fun q => c (tb_eq hS (by decide) (fun i hi => by
        rw [Nat.zero_testBit]
        exact q i hi))⟩)
  have H2 := (M1.fr F2 (fun j => fRw_n (by decide))).1
  have cf : ∀ S, cQ W a E y K (W 408) (tb S) ↔ fit W a E y K S := fun S => by
    rw [cQ_Hl]
    unfold fit
    have e := rr_ext (W := W) (a := a) (E := E) (y := y) (K := K) (n := W 408) (fun p hp => by
      unfold tl
      have : K.testBit p = false := by
        by_cases c : p < 8
        · cases q : K.testBit p
          · rfl
          · have := sK p c q
            rw [hEn p hp] at this
            cases this
        · exact tb_hi hK (by omega)
      rw [this, Bool.false_and]) (8 - W 408)
    rw [show W 408 + (8 - W 408) = 8 by omega] at e
    rw [e]
  have z3 : ∀ S, S < 256 → tf (hI h2 75 (256 * y + S)) (fit W a E y K S) := fun S hS => (z2 S hS).c (cf S)
  obtain ⟨v, ev, r1, r2⟩ := m221_212 H2 (d + 1) y (fit W a E y K) (by omega) z3 256 0 0 (by decide) (by decide) (fun S hS => by omega) (Or.inl rfl)
  refine ⟨h2, v, ?_, F1.trans F2, z3, ?_⟩
  · have e0 : (256 : Int32) * nZ y = nZ (256 * y) := by rw [show (256 : Int32) = nZ 256 from rfl, nZ_mul]
    rw [E221, ck56 H, ob_some, e0]
    exact e1.trans (e2.trans ev)
  · have top : ∀ S, S < 256 → fit W a E y K S → pc S = v → isM W a E y K S := fun S hS f e => ⟨hS, f, fun S' h1 h2 => by
      have g := r1 S' h1 h2
      have c1' := pc_card S' h1
      have c2' := pc_card S hS
      show cN (fun i => S'.testBit i) 8 ≤ cN (fun i => S.testBit i) 8
      omega⟩
    rcases r2 with e | ⟨S, s1, s2, s3⟩
    · exact ⟨0, top 0 (by decide) fit_0 (by rw [e]; rfl), by rw [e]; rfl⟩
    · exact ⟨S, top S s1 s2 s3, s3⟩

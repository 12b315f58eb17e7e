/-! ===== weeks ===== -/
def dr (s : Nat) : Nat := (s * 1103 + 12345) % 1000003
theorem dr_lt (s : Nat) : dr s < 1000003 := Nat.mod_lt _ (by decide)
theorem c155 {h : QH} (H : Sh h) (d s n : Nat) (hs : s < 1000003) (hn : 1 ≤ n ∧ n < 1000) (e4 : hI h 52 4 = nZ s) : qcl (d + 1) 155 [qR (some 52), qI (nZ n)] h = some (some (qI (nZ (dr s % n))), hsI h 52 4 (nZ (dr s))) := by
  have er : nZ s * 1103 + 12345 - (nZ s * 1103 + 12345) / 1000003 * 1000003 = nZ (dr s) := by
    rw [L1103, L12345, L1000003, nZ_mul, nZ_add, nZ_rem (by omega) (by decide)]
    rfl
  have hd := dr_lt s
  have er2 : nZ (dr s) - nZ (dr s) / nZ n * nZ n = nZ (dr s % n) := nZ_rem (by omega) (by omega)
  have zm : ((1000003 : Int32) = 0) = False := by decide
  have e42 : hI (hsI h 52 4 (nZ (dr s))) 52 4 = nZ (dr s) := hI_at rfl
  have H2 : Sh (hsI h 52 4 (nZ (dr s))) := H
  have zn : (nZ n = 0) = False := by
    rw [L0, nZ_eq (by omega) (by decide)]
    exact eq_false (by omega)
  have pn : ((0 : Int32) < nZ n) = True := by
    rw [L0, nZ_lt (by decide) (by omega)]
    exact eq_true (by omega)
  rw [E155, ck52 H, ob_some, g52_4 H, ob_some, e4, if_neg (by decide)]
  rw [er, p52_4 H, ob_some]
  simp only [pn, if_true]
  rw [g52_4 H2, ob_some, e42]
  simp only [zn, if_false]
  rw [er2]
theorem m181 {h : QH} (H : Sh h) (d s n : Nat) (hs : s < 1000003) (hn : 1 ≤ n ∧ n < 1000) (e4 : hI h 56 44 = nZ s) : qcl (d + 1) 181 [qR (some 56), qI (nZ n)] h = some (some (qI (nZ (dr s % n))), hsI h 56 44 (nZ (dr s))) := by
  have hd := dr_lt s
  have l1' : ((1103 : Int32).toInt64) = lI 1103 := lI_nat (n := 1103) (by decide)
  have l2' : ((12345 : Int32).toInt64) = lI 12345 := lI_nat (n := 12345) (by decide)
  have l3' : ((1000003 : Int32).toInt64) = lI 1000003 := lI_nat (n := 1000003) (by decide)
  have ls : (nZ s).toInt64 = lI s := lI_nat (by omega)
  have er : ((((lI 1103) * (lI s)) + (lI 12345)) - (((lI 1103) * (lI s)) + (lI 12345)) / (lI 1000003) * (lI 1000003)).toInt32 = nZ (dr s) := by
    have r1 : Rg (1103 * (s : Int) + 12345) := by unfold Rg; omega
    have r2 : Rg 1000003 := by decide
    rw [lI_mul, lI_add, lI_div r1 r2, lI_mul, lI_sub]
    have e1 : (1103 * (s : Int) + 12345).tdiv 1000003 = (((1103 * s + 12345) / 1000003 : Nat) : Int) := by
      rw [Int.tdiv_eq_ediv_of_nonneg (by omega)]
      omega
    rw [e1]
    have e2 : (1103 * (s : Int) + 12345) - (((1103 * s + 12345) / 1000003 : Nat) : Int) * 1000003 = ((dr s : Nat) : Int) := by
      unfold dr
      omega
    rw [e2, l2i_nat (by omega)]
    congr 1
  have er2 : nZ (dr s) - nZ (dr s) / nZ n * nZ n = nZ (dr s % n) := nZ_rem (by omega) (by omega)
  have zm : (lI 1000003 = 0) = False := by decide
  have e42 : hI (hsI h 56 44 (nZ (dr s))) 56 44 = nZ (dr s) := hI_at rfl
  have H2 : Sh (hsI h 56 44 (nZ (dr s))) := H
  have zn : (nZ n = 0) = False := by
    rw [L0, nZ_eq (by omega) (by decide)]
    exact eq_false (by omega)
  rw [E181, ck56 H, ob_some, g56_44 H, ob_some, e4, l1', l2', l3', ls]
  simp only [zm, if_false]
  rw [er, p56_44 H, ob_some, g56_44 H2, ob_some, e42]
  simp only [zn, if_false]
  rw [er2]
/-- a day's state: the seed, the levels behind it, who was shown, how many spoilt -/
abbrev WkS : Type := Nat × (Nat → Nat) × Nat × Nat
/-- what is asked when p shows q on a day -/
def wq (W : Nat → Nat) (a day : Nat) (lv : Nat → Nat) (p q : Nat) : Nat → Nat := qf W a day 1 p (lv p) q (lv q)
/-- p shows, if it can -/
def wk1 (W : Nat → Nat) (o : Option (List CL)) (a n day : Nat) (lv : Nat → Nat) (p : Nat) (s : WkS) : WkS :=
  if lv p = 0 ∨ (W (4 * p + 3)).testBit day = true then s else
    (if dr s.1 % n = p ∨ (W (4 * (dr s.1 % n) + 3)).testBit day = true ∨ (W (32 + p)).testBit (dr s.1 % n) = false ∨ s.2.2.1.testBit (dr s.1 % n) = true then (dr s.1, s.2.1, s.2.2.1, s.2.2.2) else
      (dr (dr s.1), up s.2.1 (dr s.1 % n) (max (lv (dr s.1 % n)) (if dr (dr s.1) % 100 < tw o 3 (wq W a day lv p (dr s.1 % n)) 0 then tw o 1 (wq W a day lv p (dr s.1 % n)) (lv p - 1) - 1 else tw o 1 (wq W a day lv p (dr s.1 % n)) (lv p - 1))), s.2.2.1 ||| 1 <<< (dr s.1 % n), s.2.2.2 + (if dr (dr s.1) % 100 < tw o 3 (wq W a day lv p (dr s.1 % n)) 0 then 1 else 0)))
/-- the first k of a day -/
def wkD (W : Nat → Nat) (o : Option (List CL)) (a n day : Nat) (lv : Nat → Nat) (s : WkS) : Nat → WkS
  | 0 => s
  | k + 1 => wk1 W o a n day lv k (wkD W o a n day lv s k)
/-- behind so many days: seed, levels, spoilt -/
def wkW (W : Nat → Nat) (o : Option (List CL)) (a n seed : Nat) : Nat → Nat × (Nat → Nat) × Nat
  | 0 => (seed, fun p => W (60 + 5 * p + a), 0)
  | k + 1 => ((wkD W o a n k (wkW W o a n seed k).2.1 ((wkW W o a n seed k).1, (wkW W o a n seed k).2.1, 0, (wkW W o a n seed k).2.2) n).1, (wkD W o a n k (wkW W o a n seed k).2.1 ((wkW W o a n seed k).1, (wkW W o a n seed k).2.1, 0, (wkW W o a n seed k).2.2) n).2.1, (wkD W o a n k (wkW W o a n seed k).2.1 ((wkW W o a n seed k).1, (wkW W o a n seed k).2.1, 0, (wkW W o a n seed k).2.2) n).2.2.2)
/-- what holds of a day's state -/
def WkI (lv : Nat → Nat) (n : Nat) (B : Nat) (s : WkS) : Prop := s.1 < 1000003 ∧ (∀ q, q < n → s.2.1 q ≤ 9) ∧ s.2.2.1 < 256 ∧ s.2.2.2 ≤ B ∧ ∀ q, q < n → s.2.2.1.testBit q = false → s.2.1 q = lv q
theorem wk1_I {W : Nat → Nat} {o : Option (List CL)} {a n day : Nat} {lv : Nat → Nat} {p B : Nat} {s : WkS} (hn : 1 ≤ n ∧ n ≤ 8) (hlv : ∀ q, q < n → lv q ≤ 9) (hp : p < n) (i : WkI lv n B s) : WkI lv n (B + 1) (wk1 W o a n day lv p s) := by
  obtain ⟨i1, i2, i3, i4, i5⟩ := i
  unfold wk1
  split
  · exact ⟨i1, i2, i3, by omega, i5⟩
  · split
    · exact ⟨dr_lt _, i2, i3, by show s.2.2.2 ≤ B + 1; omega, i5⟩
    · have hq := Nat.mod_lt (dr s.1) (show n > 0 by omega)
      generalize dr s.1 % n = q at *
      have t1 : tw o 1 (wq W a day lv p q) (lv p - 1) ≤ 9 := tw_le (by decide) (by have := hlv p hp; omega)
      refine ⟨dr_lt _, ?_, ?_, ?_, ?_⟩
      · intro x hx
        show up s.2.1 q _ x ≤ 9
        unfold up
        split
        · have := hlv q hq
          apply Nat.max_le.2
          refine ⟨this, ?_⟩
          split <;> omega
        · exact i2 x hx
      · show s.2.2.1 ||| 1 <<< q < 2 ^ 8
        apply Nat.or_lt_two_pow i3
        rw [Nat.shiftLeft_eq, Nat.one_mul]
        exact Nat.pow_lt_pow_right (by decide) (by omega)
      · show s.2.2.2 + (if _ then 1 else 0) ≤ B + 1
        split <;> omega
      · intro x hx hb
        show up s.2.1 q _ x = lv x
        have hb' : (s.2.2.1 ||| 1 <<< q).testBit x = false := hb
        rw [Nat.testBit_or, Bool.or_eq_false_iff] at hb'
        have hxq : x ≠ q := by
          intro e
          have := hb'.2
          rw [e, Nat.one_shiftLeft, Nat.testBit_two_pow_self] at this
          cases this
        rw [up_ne hxq]
        exact i5 x hx hb'.1

/-! the plan: handing over to all -/
def pHs (W : Nat → Nat) (o : Option (List CL)) (L Z0 : Nat → Nat) (i tk : Nat) (s : PlS) : Nat → PlS
  | 0 => s
  | k + 1 => pH W o L Z0 i tk k (pHs W o L Z0 i tk s k)
theorem pO.trans {y : Nat} {h k l : QH} (a : pO y h k) (b : pO y k l) : pO y h l := by
  obtain ⟨a1, a2, a3⟩ := a
  obtain ⟨b1, b2, b3⟩ := b
  exact ⟨fun j hj => ⟨(b1 j hj).1.trans (a1 j hj).1, (b1 j hj).2.trans (a1 j hj).2⟩, fun j hj => (b2 j hj).trans (a2 j hj), fun j => (b3 j).trans (a3 j)⟩
theorem pL.o {h k : QH} {y : Nat} {L : Nat → Nat} (P : pL h y L) (O : pO y h k) : pL k y L := fun p a hp ha => by
  rw [(O.1 _ (by omega)).1]
  exact P p a hp ha
theorem c98l {W : Nat → Nat} {o : Option (List CL)} {r : Option Nat} (d i tk : Nat) (L Z0 : Nat → Nat) (s : PlS) (hi : i < 60) : ∀ m l h, l + m = W 408 → CX h W o r → pL h (W (100 + 5 * i)) L → pS h (W (100 + 5 * i)) (pHs W o L Z0 i tk s l) → vA h W (W (102 + 5 * i)) (W (100 + 5 * i)) (pc (W (103 + 5 * i))) → ∃ k, qbig (d + 5) 98 82 [sR (some 40), sR (some 11), sR (some 36), sI (nZ i), sI (nZ tk), sR (some 19), sI (nZ (W (100 + 5 * i))), sI (nZ (W (102 + 5 * i))), none, sI (nZ (W (104 + 5 * i) ||| Z0 (5 * W (101 + 5 * i) + W (102 + 5 * i)))), sI (nZ l), none, none] [] h = some (none, k) ∧ Fr fP h k ∧ pO (W (100 + 5 * i)) h k ∧ pS k (W (100 + 5 * i)) (pHs W o L Z0 i tk s (W 408))
  | 0, l, h, e, X, P, S, A => by
    have e' : l = W 408 := by omega
    have H := X.1
    have n8 := X.n8
    have n0 : hI h 12 0 = nZ (W 408) := X.2.2.1.1.1
    have lt1 : ¬(nZ l < nZ (W 408)) := by
      rw [nZ_lt (by omega) (by omega)]
      omega
    rw [e'] at S
    refine ⟨h, ?_, Fr.refl, ⟨fun j _ => ⟨rfl, rfl⟩, fun j _ => rfl, fun j => rfl⟩, S⟩
    rw [E98_82, ob_some, g11_0 H, ob_some, ob_some, g12_0 H, ob_some, n0, if_neg lt1]
  | m + 1, l, h, e, X, P, S, A => by
    obtain ⟨k, ek, Fk, Ak, Ok, Sk⟩ := c98s X d i tk l L Z0 _ hi (by omega) P S A
    obtain ⟨k2, ek2, Fk2, Ok2, Sk2⟩ := c98l d i tk L Z0 s hi m (l + 1) k (by omega) (X.fr Fk nW_fP) (P.o Ok) Sk Ak
    exact ⟨k2, ek.trans ek2, Fk.trans Fk2, Ok.trans Ok2, Sk2⟩
/-- all of showing i's handing over -/
def pG (W : Nat → Nat) (o : Option (List CL)) (L Z0 : Nat → Nat) (i tk : Nat) (s : PlS) : PlS := pHs W o L Z0 i tk (s.1, s.2.1, up s.2.2 (W (101 + 5 * i)) (s.2.2 (W (101 + 5 * i)) + tk)) (W 408)
theorem c98 {h : QH} {W : Nat → Nat} {o : Option (List CL)} {r : Option Nat} (X : CX h W o r) (d i tk : Nat) (L Z0 : Nat → Nat) (s : PlS) (hi : i < 60) (P : pL h (W (100 + 5 * i)) L) (Z : hI h 42 (W (100 + 5 * i) * 40 + (W (101 + 5 * i) * 5 + W (102 + 5 * i))) = nZ (Z0 (5 * W (101 + 5 * i) + W (102 + 5 * i)))) (S : pS h (W (100 + 5 * i)) s) (A : vA h W (W (102 + 5 * i)) (W (100 + 5 * i)) (pc (W (103 + 5 * i)))) : ∃ k, qcl (d + 5) 98 [qR (some 40), qR (some 11), qR (some 36), qI (nZ i), qI (nZ tk)] h = some (none, k) ∧ Fr fP h k ∧ pO (W (100 + 5 * i)) h k ∧ pS k (W (100 + 5 * i)) (pG W o L Z0 i tk s) := by
  have H := X.1
  obtain ⟨s0, s1', s2', s3', s4'⟩ := X.sh0 hi
  obtain ⟨b0, b1, b2, b3, b4⟩ := X.2.2.2.1.sh hi
  obtain ⟨S1', S2', S3'⟩ := S
  have u1 := S3' _ b1
  have F1 : Fr fP h (hsI h 43 (W (100 + 5 * i) * 8 + W (101 + 5 * i)) (nZ (s.2.2 (W (101 + 5 * i)) + tk))) := Fr.si rfl Fr.refl
  have X1 := X.fr F1 nW_fP
  have O1 : pO (W (100 + 5 * i)) h (hsI h 43 (W (100 + 5 * i) * 8 + W (101 + 5 * i)) (nZ (s.2.2 (W (101 + 5 * i)) + tk))) := by
    refine ⟨fun j _ => ⟨?_, ?_⟩, fun j hj => ?_, fun j => ?_⟩
    · rw [hI_ne (by omega)]
    · rw [hI_ne (by omega)]
    · rw [hI_ne (by omega)]
    · rw [hI_ne (by omega)]
  have A1' : vA (hsI h 43 (W (100 + 5 * i) * 8 + W (101 + 5 * i)) (nZ (s.2.2 (W (101 + 5 * i)) + tk))) W (W (102 + 5 * i)) (W (100 + 5 * i)) (pc (W (103 + 5 * i))) := by
    obtain ⟨a1, a2, a3, a4⟩ := A
    refine ⟨?_, ?_, ?_, ?_⟩
    · rw [hI_ne (by omega)]
      exact a1
    · rw [hI_ne (by omega)]
      exact a2
    · rw [hI_ne (by omega)]
      exact a3
    · rw [hI_ne (by omega)]
      exact a4
  have Sn : pS (hsI h 43 (W (100 + 5 * i) * 8 + W (101 + 5 * i)) (nZ (s.2.2 (W (101 + 5 * i)) + tk))) (W (100 + 5 * i)) (s.1, s.2.1, up s.2.2 (W (101 + 5 * i)) (s.2.2 (W (101 + 5 * i)) + tk)) := by
    refine ⟨?_, ?_, ?_⟩
    · intro x a' hx ha'
      rw [hI_ne (by omega)]
      exact S1' x a' hx ha'
    · intro x a' hx ha'
      rw [hI_ne (by omega)]
      exact S2' x a' hx ha'
    · intro x hx
      show _ = nZ (up s.2.2 _ _ x)
      by_cases c : x = W (101 + 5 * i)
      · rw [up_at c, c, hI_at rfl]
      · rw [up_ne c, hI_ne (by omega)]
        exact S3' x hx
  obtain ⟨k, ek, Fk, Ok, Sk⟩ := c98l (o := o) (r := r) d i tk L Z0 (s.1, s.2.1, up s.2.2 (W (101 + 5 * i)) (s.2.2 (W (101 + 5 * i)) + tk)) hi (W 408) 0 _ (by omega) X1 (P.o O1) Sn A1'
  refine ⟨k, ?_, F1.trans Fk, O1.trans Ok, Sk⟩
  have ixU : nZ (W (100 + 5 * i)) * 8 + nZ (W (101 + 5 * i)) = nZ (W (100 + 5 * i) * 8 + W (101 + 5 * i)) := by rw [L8, nZ_mul, nZ_add]
  have ixZ : nZ (W (100 + 5 * i)) * 40 + nZ (W (101 + 5 * i) * 5 + W (102 + 5 * i)) = nZ (W (100 + 5 * i) * 40 + (W (101 + 5 * i) * 5 + W (102 + 5 * i))) := by rw [L40, nZ_mul, nZ_add]
  rw [E98, ck40 H, ob_some, ob_some, g11_2 H, ob_some, ob_some, g19_1 H, ob_some, ob_some, A20 H hi, ob_some, s0, ob_some, g19_3 H, ob_some, ob_some, A22 H hi, ob_some, s2', ob_some, g19_2 H, ob_some, ob_some, A21 H hi, ob_some, s1']
  rw [E98_33, ob_some, g19_5 H, ob_some, ob_some, A24 H hi, ob_some, s4', g40_1 H, ob_some, c18, jI, ob_some, ixZ, A42 H (by omega), ob_some, Z, g40_2 H, ob_some, ob_some, ixU, A43 H (by omega), ob_some, u1, ob_some, S43 H (by omega), ob_some, nZ_or, nZ_add]
  exact ek

/-! the main loop: one turn -/
theorem RS_up {h : QH} {n : Nat} (r : RS h n) : RS h (n + 1) := by
  obtain ⟨W, c, T, r, hc, b1, b2⟩ := r
  exact ⟨W, c, T, r, by omega, by omega, by omega⟩
/-- the script is there -/
def Sc (h : QH) (N : Nat) (f : Nat → Int32) : Prop := 10 ≤ hN h ∧ h.2.2.1 9 = (0, N) ∧ ∀ j, hI h 9 j = f j
theorem Sc.k {h k : QH} {N : Nat} {f : Nat → Int32} (s : Sc h N f) (g : K10 h k) : Sc k N f := by
  obtain ⟨g1, g2⟩ := g s.1
  exact ⟨g1, (g2 9 (by decide)).1.trans s.2.1, fun j => ((g2 9 (by decide)).2 j).trans (s.2.2 j)⟩
theorem Sc.al {h : QH} {N : Nat} {f : Nat → Int32} (s : Sc h N f) : qal 9 h = some (nZ N) := by
  have t : hT h 9 = 0 := by
    show (h.2.2.1 9).1 = 0
    rw [s.2.1]
  have l : hL h 9 = N := by
    show (h.2.2.1 9).2 = N
    rw [s.2.1]
  have := s.1
  have e : qal 9 h = some (Int32.ofNat (hL h 9)) := if_pos ⟨by omega, by rw [t]; decide⟩
  rw [e, l]
  rfl
theorem Sc.ai {h : QH} {N : Nat} {f : Nat → Int32} (s : Sc h N f) (hN3 : N ≤ 3072) {j : Nat} (hj : j < N) : qai 0 9 (nZ j) h = some (f j) := by
  have t : hT h 9 = 0 := by
    show (h.2.2.1 9).1 = 0
    rw [s.2.1]
  have l : hL h 9 = N := by
    show (h.2.2.1 9).2 = N
    rw [s.2.1]
  have := s.1
  have e1 : (nZ j).toNatClampNeg = j := nZ_nat (by omega)
  have e0 : (0 : Int32) ≤ nZ j := by
    rw [L0, nZ_le (by decide) (by omega)]
    omega
  have e : qai 0 9 (nZ j) h = some (hI h 9 (nZ j).toNatClampNeg) := if_pos ⟨by omega, t, e0, by rw [e1, l]; exact hj⟩
  rw [e, e1, s.2.2 j]
theorem br_0 {h : QH} {n N p : Nat} {f : Nat → Int32} (rs : RS h n) (hn : n < 1000) (s : Sc h N f) (h3 : N ≤ 3072) (hp : p + 6 ≤ N) (d : Nat) : ∃ h2, ((some 9).bind fun p481 => (qai 0 p481 ((nZ p) + 1) h).bind fun x482 => (some 9).bind fun p483 => (qai 0 p483 ((nZ p) + 2) h).bind fun x484 => (some 9).bind fun p485 => (qai 0 p485 ((nZ p) + 3) h).bind fun x486 => cI (qcl (d + 120) 39 [qR (some 10), qI x482, qI x484, qI x486] h) fun x488 h487 => (some 9).bind fun p489 => (qai 0 p489 ((nZ p) + 1) h487).bind fun x490 => (some 9).bind fun p491 => (qai 0 p491 ((nZ p) + 2) h487).bind fun x492 => (some 9).bind fun p493 => (qai 0 p493 ((nZ p) + 3) h487).bind fun x494 => cI (qcl (d + 120) 226 [qR (some 56), qI x490, qI x492, qI x494] h487) fun x496 h495 => if x488 = x496 then (qbig (d + 120 + 1) 0 18 [sR (some 9), sR (some 10), sR (some 56), sI ((nZ p) + 6)] [] h495) else (if (0 : Int32) = 0 ∨ (0 : Int32) = 1 then some (some (qI 0), h495) else none)) = qbig (d + 120 + 1) 0 18 [sR (some 9), sR (some 10), sR (some 56), sI (nZ (p + 6))] [] h2 ∧ RS h2 (n + 1) ∧ Sc h2 N f := by
  have i1 : nZ p + 1 = nZ (p + 1) := by rw [L1, nZ_add]
  have i2 : nZ p + 2 = nZ (p + 2) := by rw [L2, nZ_add]
  have i3 : nZ p + 3 = nZ (p + 3) := by rw [L3, nZ_add]
  have i6 : nZ p + 6 = nZ (p + 6) := by rw [L6, nZ_add]
  obtain ⟨v, g1, g2, e1, e2, r⟩ := os_one rs hn d (f (p + 1)) (f (p + 2)) (f (p + 3))
  have s1' := s.k (KP_cl _ _ _ _ _ e1)
  have s2' := s1'.k (KP_cl _ _ _ _ _ e2)
  refine ⟨g2, ?_, r, s2'⟩
  rw [i1, i2, i3]
  rw [ob_some, s.ai h3 (j := p + 1) (by omega), ob_some, ob_some, s.ai h3 (j := p + 2) (by omega), ob_some, ob_some, s.ai h3 (j := p + 3) (by omega), ob_some, e1, jI, ob_some, s1'.ai h3 (j := p + 1) (by omega), ob_some, ob_some, s1'.ai h3 (j := p + 2) (by omega), ob_some, ob_some, s1'.ai h3 (j := p + 3) (by omega), ob_some, e2, jI, if_pos rfl, i6]
theorem br_1 {h : QH} {n N p : Nat} {f : Nat → Int32} (rs : RS h n) (hn : n < 1000) (s : Sc h N f) (h3 : N ≤ 3072) (hp : p + 6 ≤ N) (d : Nat) : ∃ h2, ((some 9).bind fun p465 => (qai 0 p465 ((nZ p) + 1) h).bind fun x466 => (some 9).bind fun p467 => (qai 0 p467 ((nZ p) + 2) h).bind fun x468 => (some 9).bind fun p469 => (qai 0 p469 ((nZ p) + 3) h).bind fun x470 => cI (qcl (d + 120) 41 [qR (some 10), qI x466, qI x468, qI x470] h) fun x472 h471 => (some 9).bind fun p473 => (qai 0 p473 ((nZ p) + 1) h471).bind fun x474 => (some 9).bind fun p475 => (qai 0 p475 ((nZ p) + 2) h471).bind fun x476 => (some 9).bind fun p477 => (qai 0 p477 ((nZ p) + 3) h471).bind fun x478 => cI (qcl (d + 120) 235 [qR (some 56), qI x474, qI x476, qI x478] h471) fun x480 h479 => if x472 = x480 then (qbig (d + 120 + 1) 0 18 [sR (some 9), sR (some 10), sR (some 56), sI ((nZ p) + 6)] [] h479) else (if (0 : Int32) = 0 ∨ (0 : Int32) = 1 then some (some (qI 0), h479) else none)) = qbig (d + 120 + 1) 0 18 [sR (some 9), sR (some 10), sR (some 56), sI (nZ (p + 6))] [] h2 ∧ RS h2 (n + 1) ∧ Sc h2 N f := by
  have i1 : nZ p + 1 = nZ (p + 1) := by rw [L1, nZ_add]
  have i2 : nZ p + 2 = nZ (p + 2) := by rw [L2, nZ_add]
  have i3 : nZ p + 3 = nZ (p + 3) := by rw [L3, nZ_add]
  have i6 : nZ p + 6 = nZ (p + 6) := by rw [L6, nZ_add]
  obtain ⟨v, g1, g2, e1, e2, r⟩ := os_put rs hn d (f (p + 1)) (f (p + 2)) (f (p + 3))
  have s1' := s.k (KP_cl _ _ _ _ _ e1)
  have s2' := s1'.k (KP_cl _ _ _ _ _ e2)
  refine ⟨g2, ?_, r, s2'⟩
  rw [i1, i2, i3]
  rw [ob_some, s.ai h3 (j := p + 1) (by omega), ob_some, ob_some, s.ai h3 (j := p + 2) (by omega), ob_some, ob_some, s.ai h3 (j := p + 3) (by omega), ob_some, e1, jI, ob_some, s1'.ai h3 (j := p + 1) (by omega), ob_some, ob_some, s1'.ai h3 (j := p + 2) (by omega), ob_some, ob_some, s1'.ai h3 (j := p + 3) (by omega), ob_some, e2, jI, if_pos rfl, i6]
theorem br_2 {h : QH} {n N p : Nat} {f : Nat → Int32} (rs : RS h n) (hn : n < 1000) (s : Sc h N f) (h3 : N ≤ 3072) (hp : p + 6 ≤ N) (d : Nat) : ∃ h2, ((some 9).bind fun p449 => (qai 0 p449 ((nZ p) + 1) h).bind fun x450 => (some 9).bind fun p451 => (qai 0 p451 ((nZ p) + 2) h).bind fun x452 => (some 9).bind fun p453 => (qai 0 p453 ((nZ p) + 3) h).bind fun x454 => cI (qcl (d + 120) 37 [qR (some 10), qI x450, qI x452, qI x454] h) fun x456 h455 => (some 9).bind fun p457 => (qai 0 p457 ((nZ p) + 1) h455).bind fun x458 => (some 9).bind fun p459 => (qai 0 p459 ((nZ p) + 2) h455).bind fun x460 => (some 9).bind fun p461 => (qai 0 p461 ((nZ p) + 3) h455).bind fun x462 => cI (qcl (d + 120) 222 [qR (some 56), qI x458, qI x460, qI x462] h455) fun x464 h463 => if x456 = x464 then (qbig (d + 120 + 1) 0 18 [sR (some 9), sR (some 10), sR (some 56), sI ((nZ p) + 6)] [] h463) else (if (0 : Int32) = 0 ∨ (0 : Int32) = 1 then some (some (qI 0), h463) else none)) = qbig (d + 120 + 1) 0 18 [sR (some 9), sR (some 10), sR (some 56), sI (nZ (p + 6))] [] h2 ∧ RS h2 (n + 1) ∧ Sc h2 N f := by
  have i1 : nZ p + 1 = nZ (p + 1) := by rw [L1, nZ_add]
  have i2 : nZ p + 2 = nZ (p + 2) := by rw [L2, nZ_add]
  have i3 : nZ p + 3 = nZ (p + 3) := by rw [L3, nZ_add]
  have i6 : nZ p + 6 = nZ (p + 6) := by rw [L6, nZ_add]
  obtain ⟨v, g1, g2, e1, e2, r⟩ := os_meet rs hn d (f (p + 1)) (f (p + 2)) (f (p + 3))
  have s1' := s.k (KP_cl _ _ _ _ _ e1)
  have s2' := s1'.k (KP_cl _ _ _ _ _ e2)
  refine ⟨g2, ?_, r, s2'⟩
  rw [i1, i2, i3]
  rw [ob_some, s.ai h3 (j := p + 1) (by omega), ob_some, ob_some, s.ai h3 (j := p + 2) (by omega), ob_some, ob_some, s.ai h3 (j := p + 3) (by omega), ob_some, e1, jI, ob_some, s1'.ai h3 (j := p + 1) (by omega), ob_some, ob_some, s1'.ai h3 (j := p + 2) (by omega), ob_some, ob_some, s1'.ai h3 (j := p + 3) (by omega), ob_some, e2, jI, if_pos rfl, i6]
theorem br_3 {h : QH} {n N p : Nat} {f : Nat → Int32} (rs : RS h n) (hn : n < 1000) (s : Sc h N f) (h3 : N ≤ 3072) (hp : p + 6 ≤ N) (d : Nat) : ∃ h2, ((some 9).bind fun p437 => (qai 0 p437 ((nZ p) + 1) h).bind fun x438 => (some 9).bind fun p439 => (qai 0 p439 ((nZ p) + 2) h).bind fun x440 => cI (qcl (d + 120) 14 [qR (some 10), qI x438, qI x440] h) fun x442 h441 => (some 9).bind fun p443 => (qai 0 p443 ((nZ p) + 1) h441).bind fun x444 => (some 9).bind fun p445 => (qai 0 p445 ((nZ p) + 2) h441).bind fun x446 => cI (qcl (d + 120) 167 [qR (some 56), qI x444, qI x446] h441) fun x448 h447 => if x442 = x448 then (qbig (d + 120 + 1) 0 18 [sR (some 9), sR (some 10), sR (some 56), sI ((nZ p) + 6)] [] h447) else (if (0 : Int32) = 0 ∨ (0 : Int32) = 1 then some (some (qI 0), h447) else none)) = qbig (d + 120 + 1) 0 18 [sR (some 9), sR (some 10), sR (some 56), sI (nZ (p + 6))] [] h2 ∧ RS h2 (n + 1) ∧ Sc h2 N f := by
  have i1 : nZ p + 1 = nZ (p + 1) := by rw [L1, nZ_add]
  have i2 : nZ p + 2 = nZ (p + 2) := by rw [L2, nZ_add]
  have i6 : nZ p + 6 = nZ (p + 6) := by rw [L6, nZ_add]
  obtain ⟨v, g1, g2, e1, e2, r⟩ := os_art rs hn d (f (p + 1)) (f (p + 2))
  have s1' := s.k (KP_cl _ _ _ _ _ e1)
  have s2' := s1'.k (KP_cl _ _ _ _ _ e2)
  refine ⟨g2, ?_, r, s2'⟩
  rw [i1, i2]
  rw [ob_some, s.ai h3 (j := p + 1) (by omega), ob_some, ob_some, s.ai h3 (j := p + 2) (by omega), ob_some, e1, jI, ob_some, s1'.ai h3 (j := p + 1) (by omega), ob_some, ob_some, s1'.ai h3 (j := p + 2) (by omega), ob_some, e2, jI, if_pos rfl, i6]
theorem br_4 {h : QH} {n N p : Nat} {f : Nat → Int32} (rs : RS h n) (hn : n < 1000) (s : Sc h N f) (h3 : N ≤ 3072) (hp : p + 6 ≤ N) (d : Nat) : ∃ h2, ((some 9).bind fun p421 => (qai 0 p421 ((nZ p) + 1) h).bind fun x422 => (some 9).bind fun p423 => (qai 0 p423 ((nZ p) + 2) h).bind fun x424 => (some 9).bind fun p425 => (qai 0 p425 ((nZ p) + 3) h).bind fun x426 => cI (qcl (d + 120) 46 [qR (some 10), qI x422, qI x424, qI x426] h) fun x428 h427 => (some 9).bind fun p429 => (qai 0 p429 ((nZ p) + 1) h427).bind fun x430 => (some 9).bind fun p431 => (qai 0 p431 ((nZ p) + 2) h427).bind fun x432 => (some 9).bind fun p433 => (qai 0 p433 ((nZ p) + 3) h427).bind fun x434 => cI (qcl (d + 120) 248 [qR (some 56), qI x430, qI x432, qI x434] h427) fun x436 h435 => if x428 = x436 then (qbig (d + 120 + 1) 0 18 [sR (some 9), sR (some 10), sR (some 56), sI ((nZ p) + 6)] [] h435) else (if (0 : Int32) = 0 ∨ (0 : Int32) = 1 then some (some (qI 0), h435) else none)) = qbig (d + 120 + 1) 0 18 [sR (some 9), sR (some 10), sR (some 56), sI (nZ (p + 6))] [] h2 ∧ RS h2 (n + 1) ∧ Sc h2 N f := by
  have i1 : nZ p + 1 = nZ (p + 1) := by rw [L1, nZ_add]
  have i2 : nZ p + 2 = nZ (p + 2) := by rw [L2, nZ_add]
  have i3 : nZ p + 3 = nZ (p + 3) := by rw [L3, nZ_add]
  have i6 : nZ p + 6 = nZ (p + 6) := by rw [L6, nZ_add]
  obtain ⟨v, g1, g2, e1, e2, r⟩ := os_rule rs hn d (f (p + 1)) (f (p + 2)) (f (p + 3))
  have s1' := s.k (KP_cl _ _ _ _ _ e1)
  have s2' := s1'.k (KP_cl _ _ _ _ _ e2)
  refine ⟨g2, ?_, r, s2'⟩
  rw [i1, i2, i3]
  rw [ob_some, s.ai h3 (j := p + 1) (by omega), ob_some, ob_some, s.ai h3 (j := p + 2) (by omega), ob_some, ob_some, s.ai h3 (j := p + 3) (by omega), ob_some, e1, jI, ob_some, s1'.ai h3 (j := p + 1) (by omega), ob_some, ob_some, s1'.ai h3 (j := p + 2) (by omega), ob_some, ob_some, s1'.ai h3 (j := p + 3) (by omega), ob_some, e2, jI, if_pos rfl, i6]
theorem br_5 {h : QH} {n N p : Nat} {f : Nat → Int32} (rs : RS h n) (hn : n < 1000) (s : Sc h N f) (h3 : N ≤ 3072) (hp : p + 6 ≤ N) (d : Nat) : ∃ h2, ((some 9).bind fun p405 => (qai 0 p405 ((nZ p) + 1) h).bind fun x406 => (some 9).bind fun p407 => (qai 0 p407 ((nZ p) + 2) h).bind fun x408 => (some 9).bind fun p409 => (qai 0 p409 ((nZ p) + 3) h).bind fun x410 => cI (qcl (d + 120) 34 [qR (some 10), qI x406, qI x408, qI x410] h) fun x412 h411 => (some 9).bind fun p413 => (qai 0 p413 ((nZ p) + 1) h411).bind fun x414 => (some 9).bind fun p415 => (qai 0 p415 ((nZ p) + 2) h411).bind fun x416 => (some 9).bind fun p417 => (qai 0 p417 ((nZ p) + 3) h411).bind fun x418 => cI (qcl (d + 120) 210 [qR (some 56), qI x414, qI x416, qI x418] h411) fun x420 h419 => if x412 = x420 then (qbig (d + 120 + 1) 0 18 [sR (some 9), sR (some 10), sR (some 56), sI ((nZ p) + 6)] [] h419) else (if (0 : Int32) = 0 ∨ (0 : Int32) = 1 then some (some (qI 0), h419) else none)) = qbig (d + 120 + 1) 0 18 [sR (some 9), sR (some 10), sR (some 56), sI (nZ (p + 6))] [] h2 ∧ RS h2 (n + 1) ∧ Sc h2 N f := by
  have i1 : nZ p + 1 = nZ (p + 1) := by rw [L1, nZ_add]
  have i2 : nZ p + 2 = nZ (p + 2) := by rw [L2, nZ_add]
  have i3 : nZ p + 3 = nZ (p + 3) := by rw [L3, nZ_add]
  have i6 : nZ p + 6 = nZ (p + 6) := by rw [L6, nZ_add]
  obtain ⟨v, g1, g2, e1, e2, r⟩ := os_know rs hn d (f (p + 1)) (f (p + 2)) (f (p + 3))
  have s1' := s.k (KP_cl _ _ _ _ _ e1)
  have s2' := s1'.k (KP_cl _ _ _ _ _ e2)
  refine ⟨g2, ?_, r, s2'⟩
  rw [i1, i2, i3]
  rw [ob_some, s.ai h3 (j := p + 1) (by omega), ob_some, ob_some, s.ai h3 (j := p + 2) (by omega), ob_some, ob_some, s.ai h3 (j := p + 3) (by omega), ob_some, e1, jI, ob_some, s1'.ai h3 (j := p + 1) (by omega), ob_some, ob_some, s1'.ai h3 (j := p + 2) (by omega), ob_some, ob_some, s1'.ai h3 (j := p + 3) (by omega), ob_some, e2, jI, if_pos rfl, i6]
theorem br_6 {h : QH} {n N p : Nat} {f : Nat → Int32} (rs : RS h n) (hn : n < 1000) (s : Sc h N f) (h3 : N ≤ 3072) (hp : p + 6 ≤ N) (d : Nat) : ∃ h2, ((some 9).bind fun p393 => (qai 0 p393 ((nZ p) + 1) h).bind fun x394 => (some 9).bind fun p395 => (qai 0 p395 ((nZ p) + 2) h).bind fun x396 => cI (qcl (d + 120) 38 [qR (some 10), qI x394, qI x396] h) fun x398 h397 => (some 9).bind fun p399 => (qai 0 p399 ((nZ p) + 1) h397).bind fun x400 => (some 9).bind fun p401 => (qai 0 p401 ((nZ p) + 2) h397).bind fun x402 => cI (qcl (d + 120) 225 [qR (some 56), qI x400, qI x402] h397) fun x404 h403 => if x398 = x404 then (qbig (d + 120 + 1) 0 18 [sR (some 9), sR (some 10), sR (some 56), sI ((nZ p) + 6)] [] h403) else (if (0 : Int32) = 0 ∨ (0 : Int32) = 1 then some (some (qI 0), h403) else none)) = qbig (d + 120 + 1) 0 18 [sR (some 9), sR (some 10), sR (some 56), sI (nZ (p + 6))] [] h2 ∧ RS h2 (n + 1) ∧ Sc h2 N f := by
  have i1 : nZ p + 1 = nZ (p + 1) := by rw [L1, nZ_add]
  have i2 : nZ p + 2 = nZ (p + 2) := by rw [L2, nZ_add]
  have i6 : nZ p + 6 = nZ (p + 6) := by rw [L6, nZ_add]
  obtain ⟨v, g1, g2, e1, e2, r⟩ := os_of rs hn d (f (p + 1)) (f (p + 2))
  have s1' := s.k (KP_cl _ _ _ _ _ e1)
  have s2' := s1'.k (KP_cl _ _ _ _ _ e2)
  refine ⟨g2, ?_, r, s2'⟩
  rw [i1, i2]
  rw [ob_some, s.ai h3 (j := p + 1) (by omega), ob_some, ob_some, s.ai h3 (j := p + 2) (by omega), ob_some, e1, jI, ob_some, s1'.ai h3 (j := p + 1) (by omega), ob_some, ob_some, s1'.ai h3 (j := p + 2) (by omega), ob_some, e2, jI, if_pos rfl, i6]
theorem br_7 {h : QH} {n N p : Nat} {f : Nat → Int32} (rs : RS h n) (hn : n < 1000) (s : Sc h N f) (h3 : N ≤ 3072) (hp : p + 6 ≤ N) (d : Nat) : ∃ h2, ((some 9).bind fun p369 => (qai 0 p369 ((nZ p) + 1) h).bind fun x370 => (some 9).bind fun p371 => (qai 0 p371 ((nZ p) + 2) h).bind fun x372 => (some 9).bind fun p373 => (qai 0 p373 ((nZ p) + 3) h).bind fun x374 => (some 9).bind fun p375 => (qai 0 p375 ((nZ p) + 4) h).bind fun x376 => (some 9).bind fun p377 => (qai 0 p377 ((nZ p) + 5) h).bind fun x378 => cI (qcl (d + 120) 25 [qR (some 10), qI x370, qI x372, qI x374, qI x376, qI x378] h) fun x380 h379 => (some 9).bind fun p381 => (qai 0 p381 ((nZ p) + 1) h379).bind fun x382 => (some 9).bind fun p383 => (qai 0 p383 ((nZ p) + 2) h379).bind fun x384 => (some 9).bind fun p385 => (qai 0 p385 ((nZ p) + 3) h379).bind fun x386 => (some 9).bind fun p387 => (qai 0 p387 ((nZ p) + 4) h379).bind fun x388 => (some 9).bind fun p389 => (qai 0 p389 ((nZ p) + 5) h379).bind fun x390 => cI (qcl (d + 120) 185 [qR (some 56), qI x382, qI x384, qI x386, qI x388, qI x390] h379) fun x392 h391 => if x380 = x392 then (qbig (d + 120 + 1) 0 18 [sR (some 9), sR (some 10), sR (some 56), sI ((nZ p) + 6)] [] h391) else (if (0 : Int32) = 0 ∨ (0 : Int32) = 1 then some (some (qI 0), h391) else none)) = qbig (d + 120 + 1) 0 18 [sR (some 9), sR (some 10), sR (some 56), sI (nZ (p + 6))] [] h2 ∧ RS h2 (n + 1) ∧ Sc h2 N f := by
  have i1 : nZ p + 1 = nZ (p + 1) := by rw [L1, nZ_add]
  have i2 : nZ p + 2 = nZ (p + 2) := by rw [L2, nZ_add]
  have i3 : nZ p + 3 = nZ (p + 3) := by rw [L3, nZ_add]
  have i4 : nZ p + 4 = nZ (p + 4) := by rw [L4, nZ_add]
  have i5 : nZ p + 5 = nZ (p + 5) := by rw [L5, nZ_add]
  have i6 : nZ p + 6 = nZ (p + 6) := by rw [L6, nZ_add]
  obtain ⟨v, g1, g2, e1, e2, r⟩ := os_feed rs hn d (f (p + 1)) (f (p + 2)) (f (p + 3)) (f (p + 4)) (f (p + 5))
  have s1' := s.k (KP_cl _ _ _ _ _ e1)
  have s2' := s1'.k (KP_cl _ _ _ _ _ e2)
  refine ⟨g2, ?_, r, s2'⟩
  rw [i1, i2, i3, i4, i5]
  rw [ob_some, s.ai h3 (j := p + 1) (by omega), ob_some, ob_some, s.ai h3 (j := p + 2) (by omega), ob_some, ob_some, s.ai h3 (j := p + 3) (by omega), ob_some, ob_some, s.ai h3 (j := p + 4) (by omega), ob_some, ob_some, s.ai h3 (j := p + 5) (by omega), ob_some, e1, jI, ob_some, s1'.ai h3 (j := p + 1) (by omega), ob_some, ob_some, s1'.ai h3 (j := p + 2) (by omega), ob_some, ob_some, s1'.ai h3 (j := p + 3) (by omega), ob_some, ob_some, s1'.ai h3 (j := p + 4) (by omega), ob_some, ob_some, s1'.ai h3 (j := p + 5) (by omega), ob_some, e2, jI, if_pos rfl, i6]
theorem br_8 {h : QH} {n N p : Nat} {f : Nat → Int32} (rs : RS h n) (hn : n < 1000) (s : Sc h N f) (h3 : N ≤ 3072) (hp : p + 6 ≤ N) (d : Nat) : ∃ h2, ((some 9).bind fun p361 => (qai 0 p361 ((nZ p) + 1) h).bind fun x362 => cI (qcl (d + 120) 23 [qR (some 10), qI x362] h) fun x364 h363 => (some 9).bind fun p365 => (qai 0 p365 ((nZ p) + 1) h363).bind fun x366 => cI (qcl (d + 120) 182 [qR (some 56), qI x366] h363) fun x368 h367 => if x364 = x368 then (qbig (d + 120 + 1) 0 18 [sR (some 9), sR (some 10), sR (some 56), sI ((nZ p) + 6)] [] h367) else (if (0 : Int32) = 0 ∨ (0 : Int32) = 1 then some (some (qI 0), h367) else none)) = qbig (d + 120 + 1) 0 18 [sR (some 9), sR (some 10), sR (some 56), sI (nZ (p + 6))] [] h2 ∧ RS h2 (n + 1) ∧ Sc h2 N f := by
  have i1 : nZ p + 1 = nZ (p + 1) := by rw [L1, nZ_add]
  have i6 : nZ p + 6 = nZ (p + 6) := by rw [L6, nZ_add]
  obtain ⟨v, g1, g2, e1, e2, r⟩ := os_end rs hn d (f (p + 1))
  have s1' := s.k (KP_cl _ _ _ _ _ e1)
  have s2' := s1'.k (KP_cl _ _ _ _ _ e2)
  refine ⟨g2, ?_, r, s2'⟩
  rw [i1]
  rw [ob_some, s.ai h3 (j := p + 1) (by omega), ob_some, e1, jI, ob_some, s1'.ai h3 (j := p + 1) (by omega), ob_some, e2, jI, if_pos rfl, i6]
theorem br_9 {h : QH} {n N p : Nat} {f : Nat → Int32} (rs : RS h n) (hn : n < 1000) (s : Sc h N f) (h3 : N ≤ 3072) (hp : p + 6 ≤ N) (d : Nat) : ∃ h2, ((some 9).bind fun p353 => (qai 0 p353 ((nZ p) + 1) h).bind fun x354 => cI (qcl (d + 120) 45 [qR (some 10), qI x354] h) fun x356 h355 => (some 9).bind fun p357 => (qai 0 p357 ((nZ p) + 1) h355).bind fun x358 => cI (qcl (d + 120) 247 [qR (some 56), qI x358] h355) fun x360 h359 => if x356 = x360 then (qbig (d + 120 + 1) 0 18 [sR (some 9), sR (some 10), sR (some 56), sI ((nZ p) + 6)] [] h359) else (if (0 : Int32) = 0 ∨ (0 : Int32) = 1 then some (some (qI 0), h359) else none)) = qbig (d + 120 + 1) 0 18 [sR (some 9), sR (some 10), sR (some 56), sI (nZ (p + 6))] [] h2 ∧ RS h2 (n + 1) ∧ Sc h2 N f := by
  have i1 : nZ p + 1 = nZ (p + 1) := by rw [L1, nZ_add]
  have i6 : nZ p + 6 = nZ (p + 6) := by rw [L6, nZ_add]
  obtain ⟨v, g1, g2, e1, e2, r⟩ := os_row rs hn d (f (p + 1))
  have s1' := s.k (KP_cl _ _ _ _ _ e1)
  have s2' := s1'.k (KP_cl _ _ _ _ _ e2)
  refine ⟨g2, ?_, r, s2'⟩
  rw [i1]
  rw [ob_some, s.ai h3 (j := p + 1) (by omega), ob_some, e1, jI, ob_some, s1'.ai h3 (j := p + 1) (by omega), ob_some, e2, jI, if_pos rfl, i6]
theorem br_10 {h : QH} {n N p : Nat} {f : Nat → Int32} (rs : RS h n) (hn : n < 1000) (s : Sc h N f) (h3 : N ≤ 3072) (hp : p + 6 ≤ N) (d : Nat) : ∃ h2, (cI (qcl (d + 120) 49 [qR (some 10)] h) fun x350 h349 => cI (qcl (d + 120) 255 [qR (some 56)] h349) fun x352 h351 => if x350 = x352 then (qbig (d + 120 + 1) 0 18 [sR (some 9), sR (some 10), sR (some 56), sI ((nZ p) + 6)] [] h351) else (if (0 : Int32) = 0 ∨ (0 : Int32) = 1 then some (some (qI 0), h351) else none)) = qbig (d + 120 + 1) 0 18 [sR (some 9), sR (some 10), sR (some 56), sI (nZ (p + 6))] [] h2 ∧ RS h2 (n + 1) ∧ Sc h2 N f := by
  have i6 : nZ p + 6 = nZ (p + 6) := by rw [L6, nZ_add]
  obtain ⟨v, g1, g2, e1, e2, r⟩ := os_slack rs hn d
  have s1' := s.k (KP_cl _ _ _ _ _ e1)
  have s2' := s1'.k (KP_cl _ _ _ _ _ e2)
  refine ⟨g2, ?_, r, s2'⟩
  skip
  rw [e1, jI, e2, jI, if_pos rfl, i6]
theorem br_11 {h : QH} {n N p : Nat} {f : Nat → Int32} (rs : RS h n) (hn : n < 1000) (s : Sc h N f) (h3 : N ≤ 3072) (hp : p + 6 ≤ N) (d : Nat) : ∃ h2, (cI (qcl (d + 120) 35 [qR (some 10)] h) fun x346 h345 => cI (qcl (d + 120) 214 [qR (some 56)] h345) fun x348 h347 => if x346 = x348 then (qbig (d + 120 + 1) 0 18 [sR (some 9), sR (some 10), sR (some 56), sI ((nZ p) + 6)] [] h347) else (if (0 : Int32) = 0 ∨ (0 : Int32) = 1 then some (some (qI 0), h347) else none)) = qbig (d + 120 + 1) 0 18 [sR (some 9), sR (some 10), sR (some 56), sI (nZ (p + 6))] [] h2 ∧ RS h2 (n + 1) ∧ Sc h2 N f := by
  have i6 : nZ p + 6 = nZ (p + 6) := by rw [L6, nZ_add]
  obtain ⟨v, g1, g2, e1, e2, r⟩ := os_law2 rs hn d
  have s1' := s.k (KP_cl _ _ _ _ _ e1)
  have s2' := s1'.k (KP_cl _ _ _ _ _ e2)
  refine ⟨g2, ?_, r, s2'⟩
  skip
  rw [e1, jI, e2, jI, if_pos rfl, i6]
theorem br_12 {h : QH} {n N p : Nat} {f : Nat → Int32} (rs : RS h n) (hn : n < 1000) (s : Sc h N f) (h3 : N ≤ 3072) (hp : p + 6 ≤ N) (d : Nat) : ∃ h2, (cI (qcl (d + 120) 24 [qR (some 10)] h) fun x342 h341 => cI (qcl (d + 120) 183 [qR (some 56)] h341) fun x344 h343 => if x342 = x344 then (qbig (d + 120 + 1) 0 18 [sR (some 9), sR (some 10), sR (some 56), sI ((nZ p) + 6)] [] h343) else (if (0 : Int32) = 0 ∨ (0 : Int32) = 1 then some (some (qI 0), h343) else none)) = qbig (d + 120 + 1) 0 18 [sR (some 9), sR (some 10), sR (some 56), sI (nZ (p + 6))] [] h2 ∧ RS h2 (n + 1) ∧ Sc h2 N f := by
  have i6 : nZ p + 6 = nZ (p + 6) := by rw [L6, nZ_add]
  obtain ⟨v, g1, g2, e1, e2, r⟩ := os_fault rs hn d
  have s1' := s.k (KP_cl _ _ _ _ _ e1)
  have s2' := s1'.k (KP_cl _ _ _ _ _ e2)
  refine ⟨g2, ?_, r, s2'⟩
  skip
  rw [e1, jI, e2, jI, if_pos rfl, i6]
theorem br_13 {h : QH} {n N p : Nat} {f : Nat → Int32} (rs : RS h n) (hn : n < 1000) (s : Sc h N f) (h3 : N ≤ 3072) (hp : p + 6 ≤ N) (d : Nat) : ∃ h2, ((some 9).bind fun p333 => (qai 0 p333 ((nZ p) + 1) h).bind fun x334 => cI (qcl (d + 120) 28 [qR (some 10), qI x334] h) fun x336 h335 => (some 9).bind fun p337 => (qai 0 p337 ((nZ p) + 1) h335).bind fun x338 => cI (qcl (d + 120) 189 [qR (some 56), qI x338] h335) fun x340 h339 => if x336 = x340 then (qbig (d + 120 + 1) 0 18 [sR (some 9), sR (some 10), sR (some 56), sI ((nZ p) + 6)] [] h339) else (if (0 : Int32) = 0 ∨ (0 : Int32) = 1 then some (some (qI 0), h339) else none)) = qbig (d + 120 + 1) 0 18 [sR (some 9), sR (some 10), sR (some 56), sI (nZ (p + 6))] [] h2 ∧ RS h2 (n + 1) ∧ Sc h2 N f := by
  have i1 : nZ p + 1 = nZ (p + 1) := by rw [L1, nZ_add]
  have i6 : nZ p + 6 = nZ (p + 6) := by rw [L6, nZ_add]
  obtain ⟨v, g1, g2, e1, e2, r⟩ := os_force rs hn d (f (p + 1))
  have s1' := s.k (KP_cl _ _ _ _ _ e1)
  have s2' := s1'.k (KP_cl _ _ _ _ _ e2)
  refine ⟨g2, ?_, r, s2'⟩
  rw [i1]
  rw [ob_some, s.ai h3 (j := p + 1) (by omega), ob_some, e1, jI, ob_some, s1'.ai h3 (j := p + 1) (by omega), ob_some, e2, jI, if_pos rfl, i6]
theorem br_14 {h : QH} {n N p : Nat} {f : Nat → Int32} (rs : RS h n) (hn : n < 1000) (s : Sc h N f) (h3 : N ≤ 3072) (hp : p + 6 ≤ N) (d : Nat) : ∃ h2, ((some 9).bind fun p313 => (qai 0 p313 ((nZ p) + 1) h).bind fun x314 => (some 9).bind fun p315 => (qai 0 p315 ((nZ p) + 2) h).bind fun x316 => (some 9).bind fun p317 => (qai 0 p317 ((nZ p) + 3) h).bind fun x318 => (some 9).bind fun p319 => (qai 0 p319 ((nZ p) + 4) h).bind fun x320 => cI (qcl (d + 120) 29 [qR (some 10), qI x314, qI x316, qI x318, qI x320] h) fun x322 h321 => (some 9).bind fun p323 => (qai 0 p323 ((nZ p) + 1) h321).bind fun x324 => (some 9).bind fun p325 => (qai 0 p325 ((nZ p) + 2) h321).bind fun x326 => (some 9).bind fun p327 => (qai 0 p327 ((nZ p) + 3) h321).bind fun x328 => (some 9).bind fun p329 => (qai 0 p329 ((nZ p) + 4) h321).bind fun x330 => cI (qcl (d + 120) 192 [qR (some 56), qI x324, qI x326, qI x328, qI x330] h321) fun x332 h331 => if x322 = x332 then (qbig (d + 120 + 1) 0 18 [sR (some 9), sR (some 10), sR (some 56), sI ((nZ p) + 6)] [] h331) else (if (0 : Int32) = 0 ∨ (0 : Int32) = 1 then some (some (qI 0), h331) else none)) = qbig (d + 120 + 1) 0 18 [sR (some 9), sR (some 10), sR (some 56), sI (nZ (p + 6))] [] h2 ∧ RS h2 (n + 1) ∧ Sc h2 N f := by
  have i1 : nZ p + 1 = nZ (p + 1) := by rw [L1, nZ_add]
  have i2 : nZ p + 2 = nZ (p + 2) := by rw [L2, nZ_add]
  have i3 : nZ p + 3 = nZ (p + 3) := by rw [L3, nZ_add]
  have i4 : nZ p + 4 = nZ (p + 4) := by rw [L4, nZ_add]
  have i6 : nZ p + 6 = nZ (p + 6) := by rw [L6, nZ_add]
  obtain ⟨v, g1, g2, e1, e2, r⟩ := os_handed rs hn d (f (p + 1)) (f (p + 2)) (f (p + 3)) (f (p + 4))
  have s1' := s.k (KP_cl _ _ _ _ _ e1)
  have s2' := s1'.k (KP_cl _ _ _ _ _ e2)
  refine ⟨g2, ?_, r, s2'⟩
  rw [i1, i2, i3, i4]
  rw [ob_some, s.ai h3 (j := p + 1) (by omega), ob_some, ob_some, s.ai h3 (j := p + 2) (by omega), ob_some, ob_some, s.ai h3 (j := p + 3) (by omega), ob_some, ob_some, s.ai h3 (j := p + 4) (by omega), ob_some, e1, jI, ob_some, s1'.ai h3 (j := p + 1) (by omega), ob_some, ob_some, s1'.ai h3 (j := p + 2) (by omega), ob_some, ob_some, s1'.ai h3 (j := p + 3) (by omega), ob_some, ob_some, s1'.ai h3 (j := p + 4) (by omega), ob_some, e2, jI, if_pos rfl, i6]
theorem br_15 {h : QH} {n N p : Nat} {f : Nat → Int32} (rs : RS h n) (hn : n < 1000) (s : Sc h N f) (h3 : N ≤ 3072) (hp : p + 6 ≤ N) (d : Nat) : ∃ h2, ((some 9).bind fun p293 => (qai 0 p293 ((nZ p) + 1) h).bind fun x294 => (some 9).bind fun p295 => (qai 0 p295 ((nZ p) + 2) h).bind fun x296 => (some 9).bind fun p297 => (qai 0 p297 ((nZ p) + 3) h).bind fun x298 => (some 9).bind fun p299 => (qai 0 p299 ((nZ p) + 4) h).bind fun x300 => cI (qcl (d + 120) 48 [qR (some 10), qI x294, qI x296, qI x298, qI x300] h) fun x302 h301 => (some 9).bind fun p303 => (qai 0 p303 ((nZ p) + 1) h301).bind fun x304 => (some 9).bind fun p305 => (qai 0 p305 ((nZ p) + 2) h301).bind fun x306 => (some 9).bind fun p307 => (qai 0 p307 ((nZ p) + 3) h301).bind fun x308 => (some 9).bind fun p309 => (qai 0 p309 ((nZ p) + 4) h301).bind fun x310 => cI (qcl (d + 120) 249 [qR (some 56), qI x304, qI x306, qI x308, qI x310] h301) fun x312 h311 => if x302 = x312 then (qbig (d + 120 + 1) 0 18 [sR (some 9), sR (some 10), sR (some 56), sI ((nZ p) + 6)] [] h311) else (if (0 : Int32) = 0 ∨ (0 : Int32) = 1 then some (some (qI 0), h311) else none)) = qbig (d + 120 + 1) 0 18 [sR (some 9), sR (some 10), sR (some 56), sI (nZ (p + 6))] [] h2 ∧ RS h2 (n + 1) ∧ Sc h2 N f := by
  have i1 : nZ p + 1 = nZ (p + 1) := by rw [L1, nZ_add]
  have i2 : nZ p + 2 = nZ (p + 2) := by rw [L2, nZ_add]
  have i3 : nZ p + 3 = nZ (p + 3) := by rw [L3, nZ_add]
  have i4 : nZ p + 4 = nZ (p + 4) := by rw [L4, nZ_add]
  have i6 : nZ p + 6 = nZ (p + 6) := by rw [L6, nZ_add]
  obtain ⟨v, g1, g2, e1, e2, r⟩ := os_show rs hn d (f (p + 1)) (f (p + 2)) (f (p + 3)) (f (p + 4))
  have s1' := s.k (KP_cl _ _ _ _ _ e1)
  have s2' := s1'.k (KP_cl _ _ _ _ _ e2)
  refine ⟨g2, ?_, r, s2'⟩
  rw [i1, i2, i3, i4]
  rw [ob_some, s.ai h3 (j := p + 1) (by omega), ob_some, ob_some, s.ai h3 (j := p + 2) (by omega), ob_some, ob_some, s.ai h3 (j := p + 3) (by omega), ob_some, ob_some, s.ai h3 (j := p + 4) (by omega), ob_some, e1, jI, ob_some, s1'.ai h3 (j := p + 1) (by omega), ob_some, ob_some, s1'.ai h3 (j := p + 2) (by omega), ob_some, ob_some, s1'.ai h3 (j := p + 3) (by omega), ob_some, ob_some, s1'.ai h3 (j := p + 4) (by omega), ob_some, e2, jI, if_pos rfl, i6]
theorem br_16 {h : QH} {n N p : Nat} {f : Nat → Int32} (rs : RS h n) (hn : n < 1000) (s : Sc h N f) (h3 : N ≤ 3072) (hp : p + 6 ≤ N) (d : Nat) : ∃ h2, ((some 9).bind fun p281 => (qai 0 p281 ((nZ p) + 1) h).bind fun x282 => (some 9).bind fun p283 => (qai 0 p283 ((nZ p) + 2) h).bind fun x284 => cI (qcl (d + 120) 64 [qR (some 10), qI x282, qI x284] h) fun x286 h285 => (some 9).bind fun p287 => (qai 0 p287 ((nZ p) + 1) h285).bind fun x288 => (some 9).bind fun p289 => (qai 0 p289 ((nZ p) + 2) h285).bind fun x290 => cI (qcl (d + 120) 277 [qR (some 56), qI x288, qI x290] h285) fun x292 h291 => if x286 = x292 then (qbig (d + 120 + 1) 0 18 [sR (some 9), sR (some 10), sR (some 56), sI ((nZ p) + 6)] [] h291) else (if (0 : Int32) = 0 ∨ (0 : Int32) = 1 then some (some (qI 0), h291) else none)) = qbig (d + 120 + 1) 0 18 [sR (some 9), sR (some 10), sR (some 56), sI (nZ (p + 6))] [] h2 ∧ RS h2 (n + 1) ∧ Sc h2 N f := by
  have i1 : nZ p + 1 = nZ (p + 1) := by rw [L1, nZ_add]
  have i2 : nZ p + 2 = nZ (p + 2) := by rw [L2, nZ_add]
  have i6 : nZ p + 6 = nZ (p + 6) := by rw [L6, nZ_add]
  obtain ⟨v, g1, g2, e1, e2, r⟩ := os_wrong rs hn d (f (p + 1)) (f (p + 2))
  have s1' := s.k (KP_cl _ _ _ _ _ e1)
  have s2' := s1'.k (KP_cl _ _ _ _ _ e2)
  refine ⟨g2, ?_, r, s2'⟩
  rw [i1, i2]
  rw [ob_some, s.ai h3 (j := p + 1) (by omega), ob_some, ob_some, s.ai h3 (j := p + 2) (by omega), ob_some, e1, jI, ob_some, s1'.ai h3 (j := p + 1) (by omega), ob_some, ob_some, s1'.ai h3 (j := p + 2) (by omega), ob_some, e2, jI, if_pos rfl, i6]
theorem br_17 {h : QH} {n N p : Nat} {f : Nat → Int32} (rs : RS h n) (hn : n < 1000) (s : Sc h N f) (h3 : N ≤ 3072) (hp : p + 6 ≤ N) (d : Nat) : ∃ h2, (cI (qcl (d + 120) 19 [qR (some 10)] h) fun x278 h277 => cI (qcl (d + 120) 177 [qR (some 56)] h277) fun x280 h279 => if x278 = x280 then (qbig (d + 120 + 1) 0 18 [sR (some 9), sR (some 10), sR (some 56), sI ((nZ p) + 6)] [] h279) else (if (0 : Int32) = 0 ∨ (0 : Int32) = 1 then some (some (qI 0), h279) else none)) = qbig (d + 120 + 1) 0 18 [sR (some 9), sR (some 10), sR (some 56), sI (nZ (p + 6))] [] h2 ∧ RS h2 (n + 1) ∧ Sc h2 N f := by
  have i6 : nZ p + 6 = nZ (p + 6) := by rw [L6, nZ_add]
  obtain ⟨v, g1, g2, e1, e2, r⟩ := os_clear rs hn d
  have s1' := s.k (KP_cl _ _ _ _ _ e1)
  have s2' := s1'.k (KP_cl _ _ _ _ _ e2)
  refine ⟨g2, ?_, r, s2'⟩
  skip
  rw [e1, jI, e2, jI, if_pos rfl, i6]
theorem br_18 {h : QH} {n N p : Nat} {f : Nat → Int32} (rs : RS h n) (hn : n < 1000) (s : Sc h N f) (h3 : N ≤ 3072) (hp : p + 6 ≤ N) (d : Nat) : ∃ h2, ((some 9).bind fun p261 => (qai 0 p261 ((nZ p) + 1) h).bind fun x262 => (some 9).bind fun p263 => (qai 0 p263 ((nZ p) + 2) h).bind fun x264 => (some 9).bind fun p265 => (qai 0 p265 ((nZ p) + 3) h).bind fun x266 => cI (qcl (d + 120) 16 [qR (some 10), qI x262, qI x264, qI x266] h) fun x268 h267 => (some 9).bind fun p269 => (qai 0 p269 ((nZ p) + 1) h267).bind fun x270 => (some 9).bind fun p271 => (qai 0 p271 ((nZ p) + 2) h267).bind fun x272 => (some 9).bind fun p273 => (qai 0 p273 ((nZ p) + 3) h267).bind fun x274 => cI (qcl (d + 120) 173 [qR (some 56), qI x270, qI x272, qI x274] h267) fun x276 h275 => if x268 = x276 then (qbig (d + 120 + 1) 0 18 [sR (some 9), sR (some 10), sR (some 56), sI ((nZ p) + 6)] [] h275) else (if (0 : Int32) = 0 ∨ (0 : Int32) = 1 then some (some (qI 0), h275) else none)) = qbig (d + 120 + 1) 0 18 [sR (some 9), sR (some 10), sR (some 56), sI (nZ (p + 6))] [] h2 ∧ RS h2 (n + 1) ∧ Sc h2 N f := by
  have i1 : nZ p + 1 = nZ (p + 1) := by rw [L1, nZ_add]
  have i2 : nZ p + 2 = nZ (p + 2) := by rw [L2, nZ_add]
  have i3 : nZ p + 3 = nZ (p + 3) := by rw [L3, nZ_add]
  have i6 : nZ p + 6 = nZ (p + 6) := by rw [L6, nZ_add]
  obtain ⟨v, g1, g2, e1, e2, r⟩ := os_behind rs hn d (f (p + 1)) (f (p + 2)) (f (p + 3))
  have s1' := s.k (KP_cl _ _ _ _ _ e1)
  have s2' := s1'.k (KP_cl _ _ _ _ _ e2)
  refine ⟨g2, ?_, r, s2'⟩
  rw [i1, i2, i3]
  rw [ob_some, s.ai h3 (j := p + 1) (by omega), ob_some, ob_some, s.ai h3 (j := p + 2) (by omega), ob_some, ob_some, s.ai h3 (j := p + 3) (by omega), ob_some, e1, jI, ob_some, s1'.ai h3 (j := p + 1) (by omega), ob_some, ob_some, s1'.ai h3 (j := p + 2) (by omega), ob_some, ob_some, s1'.ai h3 (j := p + 3) (by omega), ob_some, e2, jI, if_pos rfl, i6]
theorem br_19 {h : QH} {n N p : Nat} {f : Nat → Int32} (rs : RS h n) (hn : n < 1000) (s : Sc h N f) (h3 : N ≤ 3072) (hp : p + 6 ≤ N) (d : Nat) : ∃ h2, ((some 9).bind fun p245 => (qai 0 p245 ((nZ p) + 1) h).bind fun x246 => (some 9).bind fun p247 => (qai 0 p247 ((nZ p) + 2) h).bind fun x248 => (some 9).bind fun p249 => (qai 0 p249 ((nZ p) + 3) h).bind fun x250 => cI (qcl (d + 120) 30 [qR (some 10), qI x246, qI x248, qI x250] h) fun x252 h251 => (some 9).bind fun p253 => (qai 0 p253 ((nZ p) + 1) h251).bind fun x254 => (some 9).bind fun p255 => (qai 0 p255 ((nZ p) + 2) h251).bind fun x256 => (some 9).bind fun p257 => (qai 0 p257 ((nZ p) + 3) h251).bind fun x258 => cI (qcl (d + 120) 195 [qR (some 56), qI x254, qI x256, qI x258] h251) fun x260 h259 => if x252 = x260 then (qbig (d + 120 + 1) 0 18 [sR (some 9), sR (some 10), sR (some 56), sI ((nZ p) + 6)] [] h259) else (if (0 : Int32) = 0 ∨ (0 : Int32) = 1 then some (some (qI 0), h259) else none)) = qbig (d + 120 + 1) 0 18 [sR (some 9), sR (some 10), sR (some 56), sI (nZ (p + 6))] [] h2 ∧ RS h2 (n + 1) ∧ Sc h2 N f := by
  have i1 : nZ p + 1 = nZ (p + 1) := by rw [L1, nZ_add]
  have i2 : nZ p + 2 = nZ (p + 2) := by rw [L2, nZ_add]
  have i3 : nZ p + 3 = nZ (p + 3) := by rw [L3, nZ_add]
  have i6 : nZ p + 6 = nZ (p + 6) := by rw [L6, nZ_add]
  obtain ⟨v, g1, g2, e1, e2, r⟩ := os_has rs hn d (f (p + 1)) (f (p + 2)) (f (p + 3))
  have s1' := s.k (KP_cl _ _ _ _ _ e1)
  have s2' := s1'.k (KP_cl _ _ _ _ _ e2)
  refine ⟨g2, ?_, r, s2'⟩
  rw [i1, i2, i3]
  rw [ob_some, s.ai h3 (j := p + 1) (by omega), ob_some, ob_some, s.ai h3 (j := p + 2) (by omega), ob_some, ob_some, s.ai h3 (j := p + 3) (by omega), ob_some, e1, jI, ob_some, s1'.ai h3 (j := p + 1) (by omega), ob_some, ob_some, s1'.ai h3 (j := p + 2) (by omega), ob_some, ob_some, s1'.ai h3 (j := p + 3) (by omega), ob_some, e2, jI, if_pos rfl, i6]
theorem br_20 {h : QH} {n N p : Nat} {f : Nat → Int32} (rs : RS h n) (hn : n < 1000) (s : Sc h N f) (h3 : N ≤ 3072) (hp : p + 6 ≤ N) (d : Nat) : ∃ h2, ((some 9).bind fun p233 => (qai 0 p233 ((nZ p) + 1) h).bind fun x234 => (some 9).bind fun p235 => (qai 0 p235 ((nZ p) + 2) h).bind fun x236 => cI (qcl (d + 120) 53 [qR (some 10), qI x234, qI x236] h) fun x238 h237 => (some 9).bind fun p239 => (qai 0 p239 ((nZ p) + 1) h237).bind fun x240 => (some 9).bind fun p241 => (qai 0 p241 ((nZ p) + 2) h237).bind fun x242 => cI (qcl (d + 120) 259 [qR (some 56), qI x240, qI x242] h237) fun x244 h243 => if x238 = x244 then (qbig (d + 120 + 1) 0 18 [sR (some 9), sR (some 10), sR (some 56), sI ((nZ p) + 6)] [] h243) else (if (0 : Int32) = 0 ∨ (0 : Int32) = 1 then some (some (qI 0), h243) else none)) = qbig (d + 120 + 1) 0 18 [sR (some 9), sR (some 10), sR (some 56), sI (nZ (p + 6))] [] h2 ∧ RS h2 (n + 1) ∧ Sc h2 N f := by
  have i1 : nZ p + 1 = nZ (p + 1) := by rw [L1, nZ_add]
  have i2 : nZ p + 2 = nZ (p + 2) := by rw [L2, nZ_add]
  have i6 : nZ p + 6 = nZ (p + 6) := by rw [L6, nZ_add]
  obtain ⟨v, g1, g2, e1, e2, r⟩ := os_spent rs hn d (f (p + 1)) (f (p + 2))
  have s1' := s.k (KP_cl _ _ _ _ _ e1)
  have s2' := s1'.k (KP_cl _ _ _ _ _ e2)
  refine ⟨g2, ?_, r, s2'⟩
  rw [i1, i2]
  rw [ob_some, s.ai h3 (j := p + 1) (by omega), ob_some, ob_some, s.ai h3 (j := p + 2) (by omega), ob_some, e1, jI, ob_some, s1'.ai h3 (j := p + 1) (by omega), ob_some, ob_some, s1'.ai h3 (j := p + 2) (by omega), ob_some, e2, jI, if_pos rfl, i6]
theorem br_21 {h : QH} {n N p : Nat} {f : Nat → Int32} (rs : RS h n) (hn : n < 1000) (s : Sc h N f) (h3 : N ≤ 3072) (hp : p + 6 ≤ N) (d : Nat) : ∃ h2, ((some 9).bind fun p225 => (qai 0 p225 ((nZ p) + 1) h).bind fun x226 => cI (qcl (d + 120) 62 [qR (some 10), qI x226] h) fun x228 h227 => (some 9).bind fun p229 => (qai 0 p229 ((nZ p) + 1) h227).bind fun x230 => cI (qcl (d + 120) 274 [qR (some 56), qI x230] h227) fun x232 h231 => if x228 = x232 then (qbig (d + 120 + 1) 0 18 [sR (some 9), sR (some 10), sR (some 56), sI ((nZ p) + 6)] [] h231) else (if (0 : Int32) = 0 ∨ (0 : Int32) = 1 then some (some (qI 0), h231) else none)) = qbig (d + 120 + 1) 0 18 [sR (some 9), sR (some 10), sR (some 56), sI (nZ (p + 6))] [] h2 ∧ RS h2 (n + 1) ∧ Sc h2 N f := by
  have i1 : nZ p + 1 = nZ (p + 1) := by rw [L1, nZ_add]
  have i6 : nZ p + 6 = nZ (p + 6) := by rw [L6, nZ_add]
  obtain ⟨v, g1, g2, e1, e2, r⟩ := os_why rs hn d (f (p + 1))
  have s1' := s.k (KP_cl _ _ _ _ _ e1)
  have s2' := s1'.k (KP_cl _ _ _ _ _ e2)
  refine ⟨g2, ?_, r, s2'⟩
  rw [i1]
  rw [ob_some, s.ai h3 (j := p + 1) (by omega), ob_some, e1, jI, ob_some, s1'.ai h3 (j := p + 1) (by omega), ob_some, e2, jI, if_pos rfl, i6]
theorem br_22 {h : QH} {n N p : Nat} {f : Nat → Int32} (rs : RS h n) (hn : n < 1000) (s : Sc h N f) (h3 : N ≤ 3072) (hp : p + 6 ≤ N) (d : Nat) : ∃ h2, ((some 9).bind fun p217 => (qai 0 p217 ((nZ p) + 1) h).bind fun x218 => cI (qcl (d + 120) 33 [qR (some 10), qI x218] h) fun x220 h219 => (some 9).bind fun p221 => (qai 0 p221 ((nZ p) + 1) h219).bind fun x222 => cI (qcl (d + 120) 209 [qR (some 56), qI x222] h219) fun x224 h223 => if x220 = x224 then (qbig (d + 120 + 1) 0 18 [sR (some 9), sR (some 10), sR (some 56), sI ((nZ p) + 6)] [] h223) else (if (0 : Int32) = 0 ∨ (0 : Int32) = 1 then some (some (qI 0), h223) else none)) = qbig (d + 120 + 1) 0 18 [sR (some 9), sR (some 10), sR (some 56), sI (nZ (p + 6))] [] h2 ∧ RS h2 (n + 1) ∧ Sc h2 N f := by
  have i1 : nZ p + 1 = nZ (p + 1) := by rw [L1, nZ_add]
  have i6 : nZ p + 6 = nZ (p + 6) := by rw [L6, nZ_add]
  obtain ⟨v, g1, g2, e1, e2, r⟩ := os_judge rs hn d (f (p + 1))
  have s1' := s.k (KP_cl _ _ _ _ _ e1)
  have s2' := s1'.k (KP_cl _ _ _ _ _ e2)
  refine ⟨g2, ?_, r, s2'⟩
  rw [i1]
  rw [ob_some, s.ai h3 (j := p + 1) (by omega), ob_some, e1, jI, ob_some, s1'.ai h3 (j := p + 1) (by omega), ob_some, e2, jI, if_pos rfl, i6]
theorem br_23 {h : QH} {n N p : Nat} {f : Nat → Int32} (rs : RS h n) (hn : n < 1000) (s : Sc h N f) (h3 : N ≤ 3072) (hp : p + 6 ≤ N) (d : Nat) : ∃ h2, ((some 9).bind fun p209 => (qai 0 p209 ((nZ p) + 1) h).bind fun x210 => cI (qcl (d + 120) 50 [qR (some 10), qI x210] h) fun x212 h211 => (some 9).bind fun p213 => (qai 0 p213 ((nZ p) + 1) h211).bind fun x214 => cI (qcl (d + 120) 258 [qR (some 56), qI x214] h211) fun x216 h215 => if x212 = x216 then (qbig (d + 120 + 1) 0 18 [sR (some 9), sR (some 10), sR (some 56), sI ((nZ p) + 6)] [] h215) else (if (0 : Int32) = 0 ∨ (0 : Int32) = 1 then some (some (qI 0), h215) else none)) = qbig (d + 120 + 1) 0 18 [sR (some 9), sR (some 10), sR (some 56), sI (nZ (p + 6))] [] h2 ∧ RS h2 (n + 1) ∧ Sc h2 N f := by
  have i1 : nZ p + 1 = nZ (p + 1) := by rw [L1, nZ_add]
  have i6 : nZ p + 6 = nZ (p + 6) := by rw [L6, nZ_add]
  obtain ⟨v, g1, g2, e1, e2, r⟩ := os_soonest rs hn d (f (p + 1))
  have s1' := s.k (KP_cl _ _ _ _ _ e1)
  have s2' := s1'.k (KP_cl _ _ _ _ _ e2)
  refine ⟨g2, ?_, r, s2'⟩
  rw [i1]
  rw [ob_some, s.ai h3 (j := p + 1) (by omega), ob_some, e1, jI, ob_some, s1'.ai h3 (j := p + 1) (by omega), ob_some, e2, jI, if_pos rfl, i6]
theorem br_24 {h : QH} {n N p : Nat} {f : Nat → Int32} (rs : RS h n) (hn : n < 1000) (s : Sc h N f) (h3 : N ≤ 3072) (hp : p + 6 ≤ N) (d : Nat) : ∃ h2, ((some 9).bind fun p197 => (qai 0 p197 ((nZ p) + 1) h).bind fun x198 => (some 9).bind fun p199 => (qai 0 p199 ((nZ p) + 2) h).bind fun x200 => cI (qcl (d + 120) 27 [qR (some 10), qI x198, qI x200] h) fun x202 h201 => (some 9).bind fun p203 => (qai 0 p203 ((nZ p) + 1) h201).bind fun x204 => (some 9).bind fun p205 => (qai 0 p205 ((nZ p) + 2) h201).bind fun x206 => cI (qcl (d + 120) 188 [qR (some 56), qI x204, qI x206] h201) fun x208 h207 => if x202 = x208 then (qbig (d + 120 + 1) 0 18 [sR (some 9), sR (some 10), sR (some 56), sI ((nZ p) + 6)] [] h207) else (if (0 : Int32) = 0 ∨ (0 : Int32) = 1 then some (some (qI 0), h207) else none)) = qbig (d + 120 + 1) 0 18 [sR (some 9), sR (some 10), sR (some 56), sI (nZ (p + 6))] [] h2 ∧ RS h2 (n + 1) ∧ Sc h2 N f := by
  have i1 : nZ p + 1 = nZ (p + 1) := by rw [L1, nZ_add]
  have i2 : nZ p + 2 = nZ (p + 2) := by rw [L2, nZ_add]
  have i6 : nZ p + 6 = nZ (p + 6) := by rw [L6, nZ_add]
  obtain ⟨v, g1, g2, e1, e2, r⟩ := os_first rs hn d (f (p + 1)) (f (p + 2))
  have s1' := s.k (KP_cl _ _ _ _ _ e1)
  have s2' := s1'.k (KP_cl _ _ _ _ _ e2)
  refine ⟨g2, ?_, r, s2'⟩
  rw [i1, i2]
  rw [ob_some, s.ai h3 (j := p + 1) (by omega), ob_some, ob_some, s.ai h3 (j := p + 2) (by omega), ob_some, e1, jI, ob_some, s1'.ai h3 (j := p + 1) (by omega), ob_some, ob_some, s1'.ai h3 (j := p + 2) (by omega), ob_some, e2, jI, if_pos rfl, i6]
theorem br_25 {h : QH} {n N p : Nat} {f : Nat → Int32} (rs : RS h n) (hn : n < 1000) (s : Sc h N f) (h3 : N ≤ 3072) (hp : p + 6 ≤ N) (d : Nat) : ∃ h2, ((some 9).bind fun p185 => (qai 0 p185 ((nZ p) + 1) h).bind fun x186 => (some 9).bind fun p187 => (qai 0 p187 ((nZ p) + 2) h).bind fun x188 => cI (qcl (d + 120) 26 [qR (some 10), qI x186, qI x188] h) fun x190 h189 => (some 9).bind fun p191 => (qai 0 p191 ((nZ p) + 1) h189).bind fun x192 => (some 9).bind fun p193 => (qai 0 p193 ((nZ p) + 2) h189).bind fun x194 => cI (qcl (d + 120) 186 [qR (some 56), qI x192, qI x194] h189) fun x196 h195 => if x190 = x196 then (qbig (d + 120 + 1) 0 18 [sR (some 9), sR (some 10), sR (some 56), sI ((nZ p) + 6)] [] h195) else (if (0 : Int32) = 0 ∨ (0 : Int32) = 1 then some (some (qI 0), h195) else none)) = qbig (d + 120 + 1) 0 18 [sR (some 9), sR (some 10), sR (some 56), sI (nZ (p + 6))] [] h2 ∧ RS h2 (n + 1) ∧ Sc h2 N f := by
  have i1 : nZ p + 1 = nZ (p + 1) := by rw [L1, nZ_add]
  have i2 : nZ p + 2 = nZ (p + 2) := by rw [L2, nZ_add]
  have i6 : nZ p + 6 = nZ (p + 6) := by rw [L6, nZ_add]
  obtain ⟨v, g1, g2, e1, e2, r⟩ := os_fewest rs hn d (f (p + 1)) (f (p + 2))
  have s1' := s.k (KP_cl _ _ _ _ _ e1)
  have s2' := s1'.k (KP_cl _ _ _ _ _ e2)
  refine ⟨g2, ?_, r, s2'⟩
  rw [i1, i2]
  rw [ob_some, s.ai h3 (j := p + 1) (by omega), ob_some, ob_some, s.ai h3 (j := p + 2) (by omega), ob_some, e1, jI, ob_some, s1'.ai h3 (j := p + 1) (by omega), ob_some, ob_some, s1'.ai h3 (j := p + 2) (by omega), ob_some, e2, jI, if_pos rfl, i6]
theorem br_26 {h : QH} {n N p : Nat} {f : Nat → Int32} (rs : RS h n) (hn : n < 1000) (s : Sc h N f) (h3 : N ≤ 3072) (hp : p + 6 ≤ N) (d : Nat) : ∃ h2, ((some 9).bind fun p173 => (qai 0 p173 ((nZ p) + 1) h).bind fun x174 => (some 9).bind fun p175 => (qai 0 p175 ((nZ p) + 2) h).bind fun x176 => cI (qcl (d + 120) 63 [qR (some 10), qI x174, qI x176] h) fun x178 h177 => (some 9).bind fun p179 => (qai 0 p179 ((nZ p) + 1) h177).bind fun x180 => (some 9).bind fun p181 => (qai 0 p181 ((nZ p) + 2) h177).bind fun x182 => cI (qcl (d + 120) 275 [qR (some 56), qI x180, qI x182] h177) fun x184 h183 => if x178 = x184 then (qbig (d + 120 + 1) 0 18 [sR (some 9), sR (some 10), sR (some 56), sI ((nZ p) + 6)] [] h183) else (if (0 : Int32) = 0 ∨ (0 : Int32) = 1 then some (some (qI 0), h183) else none)) = qbig (d + 120 + 1) 0 18 [sR (some 9), sR (some 10), sR (some 56), sI (nZ (p + 6))] [] h2 ∧ RS h2 (n + 1) ∧ Sc h2 N f := by
  have i1 : nZ p + 1 = nZ (p + 1) := by rw [L1, nZ_add]
  have i2 : nZ p + 2 = nZ (p + 2) := by rw [L2, nZ_add]
  have i6 : nZ p + 6 = nZ (p + 6) := by rw [L6, nZ_add]
  obtain ⟨v, g1, g2, e1, e2, r⟩ := os_without rs hn d (f (p + 1)) (f (p + 2))
  have s1' := s.k (KP_cl _ _ _ _ _ e1)
  have s2' := s1'.k (KP_cl _ _ _ _ _ e2)
  refine ⟨g2, ?_, r, s2'⟩
  rw [i1, i2]
  rw [ob_some, s.ai h3 (j := p + 1) (by omega), ob_some, ob_some, s.ai h3 (j := p + 2) (by omega), ob_some, e1, jI, ob_some, s1'.ai h3 (j := p + 1) (by omega), ob_some, ob_some, s1'.ai h3 (j := p + 2) (by omega), ob_some, e2, jI, if_pos rfl, i6]
theorem br_27 {h : QH} {n N p : Nat} {f : Nat → Int32} (rs : RS h n) (hn : n < 1000) (s : Sc h N f) (h3 : N ≤ 3072) (hp : p + 6 ≤ N) (d : Nat) : ∃ h2, ((some 9).bind fun p165 => (qai 0 p165 ((nZ p) + 1) h).bind fun x166 => cI (qcl (d + 120) 36 [qR (some 10), qI x166] h) fun x168 h167 => (some 9).bind fun p169 => (qai 0 p169 ((nZ p) + 1) h167).bind fun x170 => cI (qcl (d + 120) 216 [qR (some 56), qI x170] h167) fun x172 h171 => if x168 = x172 then (qbig (d + 120 + 1) 0 18 [sR (some 9), sR (some 10), sR (some 56), sI ((nZ p) + 6)] [] h171) else (if (0 : Int32) = 0 ∨ (0 : Int32) = 1 then some (some (qI 0), h171) else none)) = qbig (d + 120 + 1) 0 18 [sR (some 9), sR (some 10), sR (some 56), sI (nZ (p + 6))] [] h2 ∧ RS h2 (n + 1) ∧ Sc h2 N f := by
  have i1 : nZ p + 1 = nZ (p + 1) := by rw [L1, nZ_add]
  have i6 : nZ p + 6 = nZ (p + 6) := by rw [L6, nZ_add]
  obtain ⟨v, g1, g2, e1, e2, r⟩ := os_left rs hn d (f (p + 1))
  have s1' := s.k (KP_cl _ _ _ _ _ e1)
  have s2' := s1'.k (KP_cl _ _ _ _ _ e2)
  refine ⟨g2, ?_, r, s2'⟩
  rw [i1]
  rw [ob_some, s.ai h3 (j := p + 1) (by omega), ob_some, e1, jI, ob_some, s1'.ai h3 (j := p + 1) (by omega), ob_some, e2, jI, if_pos rfl, i6]
theorem br_28 {h : QH} {n N p : Nat} {f : Nat → Int32} (rs : RS h n) (hn : n < 1000) (s : Sc h N f) (h3 : N ≤ 3072) (hp : p + 6 ≤ N) (d : Nat) : ∃ h2, ((some 9).bind fun p153 => (qai 0 p153 ((nZ p) + 1) h).bind fun x154 => (some 9).bind fun p155 => (qai 0 p155 ((nZ p) + 2) h).bind fun x156 => cI (qcl (d + 120) 54 [qR (some 10), qI x154, qI x156] h) fun x158 h157 => (some 9).bind fun p159 => (qai 0 p159 ((nZ p) + 1) h157).bind fun x160 => (some 9).bind fun p161 => (qai 0 p161 ((nZ p) + 2) h157).bind fun x162 => cI (qcl (d + 120) 261 [qR (some 56), qI x160, qI x162] h157) fun x164 h163 => if x158 = x164 then (qbig (d + 120 + 1) 0 18 [sR (some 9), sR (some 10), sR (some 56), sI ((nZ p) + 6)] [] h163) else (if (0 : Int32) = 0 ∨ (0 : Int32) = 1 then some (some (qI 0), h163) else none)) = qbig (d + 120 + 1) 0 18 [sR (some 9), sR (some 10), sR (some 56), sI (nZ (p + 6))] [] h2 ∧ RS h2 (n + 1) ∧ Sc h2 N f := by
  have i1 : nZ p + 1 = nZ (p + 1) := by rw [L1, nZ_add]
  have i2 : nZ p + 2 = nZ (p + 2) := by rw [L2, nZ_add]
  have i6 : nZ p + 6 = nZ (p + 6) := by rw [L6, nZ_add]
  obtain ⟨v, g1, g2, e1, e2, r⟩ := os_start rs hn d (f (p + 1)) (f (p + 2))
  have s1' := s.k (KP_cl _ _ _ _ _ e1)
  have s2' := s1'.k (KP_cl _ _ _ _ _ e2)
  refine ⟨g2, ?_, r, s2'⟩
  rw [i1, i2]
  rw [ob_some, s.ai h3 (j := p + 1) (by omega), ob_some, ob_some, s.ai h3 (j := p + 2) (by omega), ob_some, e1, jI, ob_some, s1'.ai h3 (j := p + 1) (by omega), ob_some, ob_some, s1'.ai h3 (j := p + 2) (by omega), ob_some, e2, jI, if_pos rfl, i6]
theorem br_29 {h : QH} {n N p : Nat} {f : Nat → Int32} (rs : RS h n) (hn : n < 1000) (s : Sc h N f) (h3 : N ≤ 3072) (hp : p + 6 ≤ N) (d : Nat) : ∃ h2, ((some 9).bind fun p145 => (qai 0 p145 ((nZ p) + 1) h).bind fun x146 => cI (qcl (d + 120) 17 [qR (some 10), qI x146] h) fun x148 h147 => (some 9).bind fun p149 => (qai 0 p149 ((nZ p) + 1) h147).bind fun x150 => cI (qcl (d + 120) 174 [qR (some 56), qI x150] h147) fun x152 h151 => if x148 = x152 then (qbig (d + 120 + 1) 0 18 [sR (some 9), sR (some 10), sR (some 56), sI ((nZ p) + 6)] [] h151) else (if (0 : Int32) = 0 ∨ (0 : Int32) = 1 then some (some (qI 0), h151) else none)) = qbig (d + 120 + 1) 0 18 [sR (some 9), sR (some 10), sR (some 56), sI (nZ (p + 6))] [] h2 ∧ RS h2 (n + 1) ∧ Sc h2 N f := by
  have i1 : nZ p + 1 = nZ (p + 1) := by rw [L1, nZ_add]
  have i6 : nZ p + 6 = nZ (p + 6) := by rw [L6, nZ_add]
  obtain ⟨v, g1, g2, e1, e2, r⟩ := os_best rs hn d (f (p + 1))
  have s1' := s.k (KP_cl _ _ _ _ _ e1)
  have s2' := s1'.k (KP_cl _ _ _ _ _ e2)
  refine ⟨g2, ?_, r, s2'⟩
  rw [i1]
  rw [ob_some, s.ai h3 (j := p + 1) (by omega), ob_some, e1, jI, ob_some, s1'.ai h3 (j := p + 1) (by omega), ob_some, e2, jI, if_pos rfl, i6]
theorem br_30 {h : QH} {n N p : Nat} {f : Nat → Int32} (rs : RS h n) (hn : n < 1000) (s : Sc h N f) (h3 : N ≤ 3072) (hp : p + 6 ≤ N) (d : Nat) : ∃ h2, ((some 9).bind fun p125 => (qai 0 p125 ((nZ p) + 1) h).bind fun x126 => (some 9).bind fun p127 => (qai 0 p127 ((nZ p) + 2) h).bind fun x128 => (some 9).bind fun p129 => (qai 0 p129 ((nZ p) + 3) h).bind fun x130 => (some 9).bind fun p131 => (qai 0 p131 ((nZ p) + 4) h).bind fun x132 => cI (qcl (d + 120) 11 [qR (some 10), qI x126, qI x128, qI x130, qI x132] h) fun x134 h133 => (some 9).bind fun p135 => (qai 0 p135 ((nZ p) + 1) h133).bind fun x136 => (some 9).bind fun p137 => (qai 0 p137 ((nZ p) + 2) h133).bind fun x138 => (some 9).bind fun p139 => (qai 0 p139 ((nZ p) + 3) h133).bind fun x140 => (some 9).bind fun p141 => (qai 0 p141 ((nZ p) + 4) h133).bind fun x142 => cI (qcl (d + 120) 165 [qR (some 56), qI x136, qI x138, qI x140, qI x142] h133) fun x144 h143 => if x134 = x144 then (qbig (d + 120 + 1) 0 18 [sR (some 9), sR (some 10), sR (some 56), sI ((nZ p) + 6)] [] h143) else (if (0 : Int32) = 0 ∨ (0 : Int32) = 1 then some (some (qI 0), h143) else none)) = qbig (d + 120 + 1) 0 18 [sR (some 9), sR (some 10), sR (some 56), sI (nZ (p + 6))] [] h2 ∧ RS h2 (n + 1) ∧ Sc h2 N f := by
  have i1 : nZ p + 1 = nZ (p + 1) := by rw [L1, nZ_add]
  have i2 : nZ p + 2 = nZ (p + 2) := by rw [L2, nZ_add]
  have i3 : nZ p + 3 = nZ (p + 3) := by rw [L3, nZ_add]
  have i4 : nZ p + 4 = nZ (p + 4) := by rw [L4, nZ_add]
  have i6 : nZ p + 6 = nZ (p + 6) := by rw [L6, nZ_add]
  obtain ⟨v, g1, g2, e1, e2, r⟩ := os_alike rs hn d (f (p + 1)) (f (p + 2)) (f (p + 3)) (f (p + 4))
  have s1' := s.k (KP_cl _ _ _ _ _ e1)
  have s2' := s1'.k (KP_cl _ _ _ _ _ e2)
  refine ⟨g2, ?_, r, s2'⟩
  rw [i1, i2, i3, i4]
  rw [ob_some, s.ai h3 (j := p + 1) (by omega), ob_some, ob_some, s.ai h3 (j := p + 2) (by omega), ob_some, ob_some, s.ai h3 (j := p + 3) (by omega), ob_some, ob_some, s.ai h3 (j := p + 4) (by omega), ob_some, e1, jI, ob_some, s1'.ai h3 (j := p + 1) (by omega), ob_some, ob_some, s1'.ai h3 (j := p + 2) (by omega), ob_some, ob_some, s1'.ai h3 (j := p + 3) (by omega), ob_some, ob_some, s1'.ai h3 (j := p + 4) (by omega), ob_some, e2, jI, if_pos rfl, i6]
theorem br_31 {h : QH} {n N p : Nat} {f : Nat → Int32} (rs : RS h n) (hn : n < 1000) (s : Sc h N f) (h3 : N ≤ 3072) (hp : p + 6 ≤ N) (d : Nat) : ∃ h2, ((some 9).bind fun p105 => (qai 0 p105 ((nZ p) + 1) h).bind fun x106 => (some 9).bind fun p107 => (qai 0 p107 ((nZ p) + 2) h).bind fun x108 => (some 9).bind fun p109 => (qai 0 p109 ((nZ p) + 3) h).bind fun x110 => (some 9).bind fun p111 => (qai 0 p111 ((nZ p) + 4) h).bind fun x112 => cI (qcl (d + 120) 61 [qR (some 10), qI x106, qI x108, qI x110, qI x112] h) fun x114 h113 => (some 9).bind fun p115 => (qai 0 p115 ((nZ p) + 1) h113).bind fun x116 => (some 9).bind fun p117 => (qai 0 p117 ((nZ p) + 2) h113).bind fun x118 => (some 9).bind fun p119 => (qai 0 p119 ((nZ p) + 3) h113).bind fun x120 => (some 9).bind fun p121 => (qai 0 p121 ((nZ p) + 4) h113).bind fun x122 => cI (qcl (d + 120) 273 [qR (some 56), qI x116, qI x118, qI x120, qI x122] h113) fun x124 h123 => if x114 = x124 then (qbig (d + 120 + 1) 0 18 [sR (some 9), sR (some 10), sR (some 56), sI ((nZ p) + 6)] [] h123) else (if (0 : Int32) = 0 ∨ (0 : Int32) = 1 then some (some (qI 0), h123) else none)) = qbig (d + 120 + 1) 0 18 [sR (some 9), sR (some 10), sR (some 56), sI (nZ (p + 6))] [] h2 ∧ RS h2 (n + 1) ∧ Sc h2 N f := by
  have i1 : nZ p + 1 = nZ (p + 1) := by rw [L1, nZ_add]
  have i2 : nZ p + 2 = nZ (p + 2) := by rw [L2, nZ_add]
  have i3 : nZ p + 3 = nZ (p + 3) := by rw [L3, nZ_add]
  have i4 : nZ p + 4 = nZ (p + 4) := by rw [L4, nZ_add]
  have i6 : nZ p + 6 = nZ (p + 6) := by rw [L6, nZ_add]
  obtain ⟨v, g1, g2, e1, e2, r⟩ := os_well rs hn d (f (p + 1)) (f (p + 2)) (f (p + 3)) (f (p + 4))
  have s1' := s.k (KP_cl _ _ _ _ _ e1)
  have s2' := s1'.k (KP_cl _ _ _ _ _ e2)
  refine ⟨g2, ?_, r, s2'⟩
  rw [i1, i2, i3, i4]
  rw [ob_some, s.ai h3 (j := p + 1) (by omega), ob_some, ob_some, s.ai h3 (j := p + 2) (by omega), ob_some, ob_some, s.ai h3 (j := p + 3) (by omega), ob_some, ob_some, s.ai h3 (j := p + 4) (by omega), ob_some, e1, jI, ob_some, s1'.ai h3 (j := p + 1) (by omega), ob_some, ob_some, s1'.ai h3 (j := p + 2) (by omega), ob_some, ob_some, s1'.ai h3 (j := p + 3) (by omega), ob_some, ob_some, s1'.ai h3 (j := p + 4) (by omega), ob_some, e2, jI, if_pos rfl, i6]
theorem br_32 {h : QH} {n N p : Nat} {f : Nat → Int32} (rs : RS h n) (hn : n < 1000) (s : Sc h N f) (h3 : N ≤ 3072) (hp : p + 6 ≤ N) (d : Nat) : ∃ h2, ((some 9).bind fun p93 => (qai 0 p93 ((nZ p) + 1) h).bind fun x94 => (some 9).bind fun p95 => (qai 0 p95 ((nZ p) + 2) h).bind fun x96 => cI (qcl (d + 120) 44 [qR (some 10), qI x94, qI x96] h) fun x98 h97 => (some 9).bind fun p99 => (qai 0 p99 ((nZ p) + 1) h97).bind fun x100 => (some 9).bind fun p101 => (qai 0 p101 ((nZ p) + 2) h97).bind fun x102 => cI (qcl (d + 120) 246 [qR (some 56), qI x100, qI x102] h97) fun x104 h103 => if x98 = x104 then (qbig (d + 120 + 1) 0 18 [sR (some 9), sR (some 10), sR (some 56), sI ((nZ p) + 6)] [] h103) else (if (0 : Int32) = 0 ∨ (0 : Int32) = 1 then some (some (qI 0), h103) else none)) = qbig (d + 120 + 1) 0 18 [sR (some 9), sR (some 10), sR (some 56), sI (nZ (p + 6))] [] h2 ∧ RS h2 (n + 1) ∧ Sc h2 N f := by
  have i1 : nZ p + 1 = nZ (p + 1) := by rw [L1, nZ_add]
  have i2 : nZ p + 2 = nZ (p + 2) := by rw [L2, nZ_add]
  have i6 : nZ p + 6 = nZ (p + 6) := by rw [L6, nZ_add]
  obtain ⟨v, g1, g2, e1, e2, r⟩ := os_ring rs hn d (f (p + 1)) (f (p + 2))
  have s1' := s.k (KP_cl _ _ _ _ _ e1)
  have s2' := s1'.k (KP_cl _ _ _ _ _ e2)
  refine ⟨g2, ?_, r, s2'⟩
  rw [i1, i2]
  rw [ob_some, s.ai h3 (j := p + 1) (by omega), ob_some, ob_some, s.ai h3 (j := p + 2) (by omega), ob_some, e1, jI, ob_some, s1'.ai h3 (j := p + 1) (by omega), ob_some, ob_some, s1'.ai h3 (j := p + 2) (by omega), ob_some, e2, jI, if_pos rfl, i6]
theorem br_33 {h : QH} {n N p : Nat} {f : Nat → Int32} (rs : RS h n) (hn : n < 1000) (s : Sc h N f) (h3 : N ≤ 3072) (hp : p + 6 ≤ N) (d : Nat) : ∃ h2, ((some 9).bind fun p85 => (qai 0 p85 ((nZ p) + 1) h).bind fun x86 => cI (qcl (d + 120) 40 [qR (some 10), qI x86] h) fun x88 h87 => (some 9).bind fun p89 => (qai 0 p89 ((nZ p) + 1) h87).bind fun x90 => cI (qcl (d + 120) 229 [qR (some 56), qI x90] h87) fun x92 h91 => if x88 = x92 then (qbig (d + 120 + 1) 0 18 [sR (some 9), sR (some 10), sR (some 56), sI ((nZ p) + 6)] [] h91) else (if (0 : Int32) = 0 ∨ (0 : Int32) = 1 then some (some (qI 0), h91) else none)) = qbig (d + 120 + 1) 0 18 [sR (some 9), sR (some 10), sR (some 56), sI (nZ (p + 6))] [] h2 ∧ RS h2 (n + 1) ∧ Sc h2 N f := by
  have i1 : nZ p + 1 = nZ (p + 1) := by rw [L1, nZ_add]
  have i6 : nZ p + 6 = nZ (p + 6) := by rw [L6, nZ_add]
  obtain ⟨v, g1, g2, e1, e2, r⟩ := os_order rs hn d (f (p + 1))
  have s1' := s.k (KP_cl _ _ _ _ _ e1)
  have s2' := s1'.k (KP_cl _ _ _ _ _ e2)
  refine ⟨g2, ?_, r, s2'⟩
  rw [i1]
  rw [ob_some, s.ai h3 (j := p + 1) (by omega), ob_some, e1, jI, ob_some, s1'.ai h3 (j := p + 1) (by omega), ob_some, e2, jI, if_pos rfl, i6]
theorem br_34 {h : QH} {n N p : Nat} {f : Nat → Int32} (rs : RS h n) (hn : n < 1000) (s : Sc h N f) (h3 : N ≤ 3072) (hp : p + 6 ≤ N) (d : Nat) : ∃ h2, ((some 9).bind fun p73 => (qai 0 p73 ((nZ p) + 1) h).bind fun x74 => (some 9).bind fun p75 => (qai 0 p75 ((nZ p) + 2) h).bind fun x76 => cI (qcl (d + 120) 57 [qR (some 10), qI x74, qI x76] h) fun x78 h77 => (some 9).bind fun p79 => (qai 0 p79 ((nZ p) + 1) h77).bind fun x80 => (some 9).bind fun p81 => (qai 0 p81 ((nZ p) + 2) h77).bind fun x82 => cI (qcl (d + 120) 267 [qR (some 56), qI x80, qI x82] h77) fun x84 h83 => if x78 = x84 then (qbig (d + 120 + 1) 0 18 [sR (some 9), sR (some 10), sR (some 56), sI ((nZ p) + 6)] [] h83) else (if (0 : Int32) = 0 ∨ (0 : Int32) = 1 then some (some (qI 0), h83) else none)) = qbig (d + 120 + 1) 0 18 [sR (some 9), sR (some 10), sR (some 56), sI (nZ (p + 6))] [] h2 ∧ RS h2 (n + 1) ∧ Sc h2 N f := by
  have i1 : nZ p + 1 = nZ (p + 1) := by rw [L1, nZ_add]
  have i2 : nZ p + 2 = nZ (p + 2) := by rw [L2, nZ_add]
  have i6 : nZ p + 6 = nZ (p + 6) := by rw [L6, nZ_add]
  obtain ⟨v, g1, g2, e1, e2, r⟩ := os_talk rs hn d (f (p + 1)) (f (p + 2))
  have s1' := s.k (KP_cl _ _ _ _ _ e1)
  have s2' := s1'.k (KP_cl _ _ _ _ _ e2)
  refine ⟨g2, ?_, r, s2'⟩
  rw [i1, i2]
  rw [ob_some, s.ai h3 (j := p + 1) (by omega), ob_some, ob_some, s.ai h3 (j := p + 2) (by omega), ob_some, e1, jI, ob_some, s1'.ai h3 (j := p + 1) (by omega), ob_some, ob_some, s1'.ai h3 (j := p + 2) (by omega), ob_some, e2, jI, if_pos rfl, i6]
theorem br_35 {h : QH} {n N p : Nat} {f : Nat → Int32} (rs : RS h n) (hn : n < 1000) (s : Sc h N f) (h3 : N ≤ 3072) (hp : p + 6 ≤ N) (d : Nat) : ∃ h2, ((some 9).bind fun p65 => (qai 0 p65 ((nZ p) + 1) h).bind fun x66 => cI (qcl (d + 120) 31 [qR (some 10), qI x66] h) fun x68 h67 => (some 9).bind fun p69 => (qai 0 p69 ((nZ p) + 1) h67).bind fun x70 => cI (qcl (d + 120) 197 [qR (some 56), qI x70] h67) fun x72 h71 => if x68 = x72 then (qbig (d + 120 + 1) 0 18 [sR (some 9), sR (some 10), sR (some 56), sI ((nZ p) + 6)] [] h71) else (if (0 : Int32) = 0 ∨ (0 : Int32) = 1 then some (some (qI 0), h71) else none)) = qbig (d + 120 + 1) 0 18 [sR (some 9), sR (some 10), sR (some 56), sI (nZ (p + 6))] [] h2 ∧ RS h2 (n + 1) ∧ Sc h2 N f := by
  have i1 : nZ p + 1 = nZ (p + 1) := by rw [L1, nZ_add]
  have i6 : nZ p + 6 = nZ (p + 6) := by rw [L6, nZ_add]
  obtain ⟨v, g1, g2, e1, e2, r⟩ := os_heard rs hn d (f (p + 1))
  have s1' := s.k (KP_cl _ _ _ _ _ e1)
  have s2' := s1'.k (KP_cl _ _ _ _ _ e2)
  refine ⟨g2, ?_, r, s2'⟩
  rw [i1]
  rw [ob_some, s.ai h3 (j := p + 1) (by omega), ob_some, e1, jI, ob_some, s1'.ai h3 (j := p + 1) (by omega), ob_some, e2, jI, if_pos rfl, i6]
theorem br_36 {h : QH} {n N p : Nat} {f : Nat → Int32} (rs : RS h n) (hn : n < 1000) (s : Sc h N f) (h3 : N ≤ 3072) (hp : p + 6 ≤ N) (d : Nat) : ∃ h2, ((some 9).bind fun p57 => (qai 0 p57 ((nZ p) + 1) h).bind fun x58 => cI (qcl (d + 120) 58 [qR (some 10), qI x58] h) fun x60 h59 => (some 9).bind fun p61 => (qai 0 p61 ((nZ p) + 1) h59).bind fun x62 => cI (qcl (d + 120) 268 [qR (some 56), qI x62] h59) fun x64 h63 => if x60 = x64 then (qbig (d + 120 + 1) 0 18 [sR (some 9), sR (some 10), sR (some 56), sI ((nZ p) + 6)] [] h63) else (if (0 : Int32) = 0 ∨ (0 : Int32) = 1 then some (some (qI 0), h63) else none)) = qbig (d + 120 + 1) 0 18 [sR (some 9), sR (some 10), sR (some 56), sI (nZ (p + 6))] [] h2 ∧ RS h2 (n + 1) ∧ Sc h2 N f := by
  have i1 : nZ p + 1 = nZ (p + 1) := by rw [L1, nZ_add]
  have i6 : nZ p + 6 = nZ (p + 6) := by rw [L6, nZ_add]
  obtain ⟨v, g1, g2, e1, e2, r⟩ := os_talks rs hn d (f (p + 1))
  have s1' := s.k (KP_cl _ _ _ _ _ e1)
  have s2' := s1'.k (KP_cl _ _ _ _ _ e2)
  refine ⟨g2, ?_, r, s2'⟩
  rw [i1]
  rw [ob_some, s.ai h3 (j := p + 1) (by omega), ob_some, e1, jI, ob_some, s1'.ai h3 (j := p + 1) (by omega), ob_some, e2, jI, if_pos rfl, i6]
theorem br_37 {h : QH} {n N p : Nat} {f : Nat → Int32} (rs : RS h n) (hn : n < 1000) (s : Sc h N f) (h3 : N ≤ 3072) (hp : p + 6 ≤ N) (d : Nat) : ∃ h2, ((some 9).bind fun p45 => (qai 0 p45 ((nZ p) + 1) h).bind fun x46 => (some 9).bind fun p47 => (qai 0 p47 ((nZ p) + 2) h).bind fun x48 => cI (qcl (d + 120) 60 [qR (some 10), qI x46, qI x48] h) fun x50 h49 => (some 9).bind fun p51 => (qai 0 p51 ((nZ p) + 1) h49).bind fun x52 => (some 9).bind fun p53 => (qai 0 p53 ((nZ p) + 2) h49).bind fun x54 => cI (qcl (d + 120) 272 [qR (some 56), qI x52, qI x54] h49) fun x56 h55 => if x50 = x56 then (qbig (d + 120 + 1) 0 18 [sR (some 9), sR (some 10), sR (some 56), sI ((nZ p) + 6)] [] h55) else (if (0 : Int32) = 0 ∨ (0 : Int32) = 1 then some (some (qI 0), h55) else none)) = qbig (d + 120 + 1) 0 18 [sR (some 9), sR (some 10), sR (some 56), sI (nZ (p + 6))] [] h2 ∧ RS h2 (n + 1) ∧ Sc h2 N f := by
  have i1 : nZ p + 1 = nZ (p + 1) := by rw [L1, nZ_add]
  have i2 : nZ p + 2 = nZ (p + 2) := by rw [L2, nZ_add]
  have i6 : nZ p + 6 = nZ (p + 6) := by rw [L6, nZ_add]
  obtain ⟨v, g1, g2, e1, e2, r⟩ := os_week rs hn d (f (p + 1)) (f (p + 2))
  have s1' := s.k (KP_cl _ _ _ _ _ e1)
  have s2' := s1'.k (KP_cl _ _ _ _ _ e2)
  refine ⟨g2, ?_, r, s2'⟩
  rw [i1, i2]
  rw [ob_some, s.ai h3 (j := p + 1) (by omega), ob_some, ob_some, s.ai h3 (j := p + 2) (by omega), ob_some, e1, jI, ob_some, s1'.ai h3 (j := p + 1) (by omega), ob_some, ob_some, s1'.ai h3 (j := p + 2) (by omega), ob_some, e2, jI, if_pos rfl, i6]
theorem br_38 {h : QH} {n N p : Nat} {f : Nat → Int32} (rs : RS h n) (hn : n < 1000) (s : Sc h N f) (h3 : N ≤ 3072) (hp : p + 6 ≤ N) (d : Nat) : ∃ h2, ((some 9).bind fun p33 => (qai 0 p33 ((nZ p) + 1) h).bind fun x34 => (some 9).bind fun p35 => (qai 0 p35 ((nZ p) + 2) h).bind fun x36 => cI (qcl (d + 120) 22 [qR (some 10), qI x34, qI x36] h) fun x38 h37 => (some 9).bind fun p39 => (qai 0 p39 ((nZ p) + 1) h37).bind fun x40 => (some 9).bind fun p41 => (qai 0 p41 ((nZ p) + 2) h37).bind fun x42 => cI (qcl (d + 120) 180 [qR (some 56), qI x40, qI x42] h37) fun x44 h43 => if x38 = x44 then (qbig (d + 120 + 1) 0 18 [sR (some 9), sR (some 10), sR (some 56), sI ((nZ p) + 6)] [] h43) else (if (0 : Int32) = 0 ∨ (0 : Int32) = 1 then some (some (qI 0), h43) else none)) = qbig (d + 120 + 1) 0 18 [sR (some 9), sR (some 10), sR (some 56), sI (nZ (p + 6))] [] h2 ∧ RS h2 (n + 1) ∧ Sc h2 N f := by
  have i1 : nZ p + 1 = nZ (p + 1) := by rw [L1, nZ_add]
  have i2 : nZ p + 2 = nZ (p + 2) := by rw [L2, nZ_add]
  have i6 : nZ p + 6 = nZ (p + 6) := by rw [L6, nZ_add]
  obtain ⟨v, g1, g2, e1, e2, r⟩ := os_drawn rs hn d (f (p + 1)) (f (p + 2))
  have s1' := s.k (KP_cl _ _ _ _ _ e1)
  have s2' := s1'.k (KP_cl _ _ _ _ _ e2)
  refine ⟨g2, ?_, r, s2'⟩
  rw [i1, i2]
  rw [ob_some, s.ai h3 (j := p + 1) (by omega), ob_some, ob_some, s.ai h3 (j := p + 2) (by omega), ob_some, e1, jI, ob_some, s1'.ai h3 (j := p + 1) (by omega), ob_some, ob_some, s1'.ai h3 (j := p + 2) (by omega), ob_some, e2, jI, if_pos rfl, i6]
theorem br_39 {h : QH} {n N p : Nat} {f : Nat → Int32} (rs : RS h n) (hn : n < 1000) (s : Sc h N f) (h3 : N ≤ 3072) (hp : p + 6 ≤ N) (d : Nat) : ∃ h2, ((some 9).bind fun p25 => (qai 0 p25 ((nZ p) + 1) h).bind fun x26 => cI (qcl (d + 120) 32 [qR (some 10), qI x26] h) fun x28 h27 => (some 9).bind fun p29 => (qai 0 p29 ((nZ p) + 1) h27).bind fun x30 => cI (qcl (d + 120) 198 [qR (some 56), qI x30] h27) fun x32 h31 => if x28 = x32 then (qbig (d + 120 + 1) 0 18 [sR (some 9), sR (some 10), sR (some 56), sI ((nZ p) + 6)] [] h31) else (if (0 : Int32) = 0 ∨ (0 : Int32) = 1 then some (some (qI 0), h31) else none)) = qbig (d + 120 + 1) 0 18 [sR (some 9), sR (some 10), sR (some 56), sI (nZ (p + 6))] [] h2 ∧ RS h2 (n + 1) ∧ Sc h2 N f := by
  have i1 : nZ p + 1 = nZ (p + 1) := by rw [L1, nZ_add]
  have i6 : nZ p + 6 = nZ (p + 6) := by rw [L6, nZ_add]
  obtain ⟨v, g1, g2, e1, e2, r⟩ := os_image rs hn d (f (p + 1))
  have s1' := s.k (KP_cl _ _ _ _ _ e1)
  have s2' := s1'.k (KP_cl _ _ _ _ _ e2)
  refine ⟨g2, ?_, r, s2'⟩
  rw [i1]
  rw [ob_some, s.ai h3 (j := p + 1) (by omega), ob_some, e1, jI, ob_some, s1'.ai h3 (j := p + 1) (by omega), ob_some, e2, jI, if_pos rfl, i6]
theorem br_40 {h : QH} {n N p : Nat} {f : Nat → Int32} (rs : RS h n) (hn : n < 1000) (s : Sc h N f) (h3 : N ≤ 3072) (hp : p + 6 ≤ N) (d : Nat) : ∃ h2, ((some 9).bind fun p17 => (qai 0 p17 ((nZ p) + 1) h).bind fun x18 => cI (qcl (d + 120) 15 [qR (some 10), qI x18] h) fun x20 h19 => (some 9).bind fun p21 => (qai 0 p21 ((nZ p) + 1) h19).bind fun x22 => cI (qcl (d + 120) 171 [qR (some 56), qI x22] h19) fun x24 h23 => if x20 = x24 then (qbig (d + 120 + 1) 0 18 [sR (some 9), sR (some 10), sR (some 56), sI ((nZ p) + 6)] [] h23) else (if (0 : Int32) = 0 ∨ (0 : Int32) = 1 then some (some (qI 0), h23) else none)) = qbig (d + 120 + 1) 0 18 [sR (some 9), sR (some 10), sR (some 56), sI (nZ (p + 6))] [] h2 ∧ RS h2 (n + 1) ∧ Sc h2 N f := by
  have i1 : nZ p + 1 = nZ (p + 1) := by rw [L1, nZ_add]
  have i6 : nZ p + 6 = nZ (p + 6) := by rw [L6, nZ_add]
  obtain ⟨v, g1, g2, e1, e2, r⟩ := os_back rs hn d (f (p + 1))
  have s1' := s.k (KP_cl _ _ _ _ _ e1)
  have s2' := s1'.k (KP_cl _ _ _ _ _ e2)
  refine ⟨g2, ?_, r, s2'⟩
  rw [i1]
  rw [ob_some, s.ai h3 (j := p + 1) (by omega), ob_some, e1, jI, ob_some, s1'.ai h3 (j := p + 1) (by omega), ob_some, e2, jI, if_pos rfl, i6]
theorem br_41 {h : QH} {n N p : Nat} {f : Nat → Int32} (rs : RS h n) (hn : n < 1000) (s : Sc h N f) (h3 : N ≤ 3072) (hp : p + 6 ≤ N) (d : Nat) : ∃ h2, ((some 9).bind fun p9 => (qai 0 p9 ((nZ p) + 1) h).bind fun x10 => cI (qcl (d + 120) 20 [qR (some 10), qI x10] h) fun x12 h11 => (some 9).bind fun p13 => (qai 0 p13 ((nZ p) + 1) h11).bind fun x14 => cI (qcl (d + 120) 179 [qR (some 56), qI x14] h11) fun x16 h15 => if x12 = x16 then (qbig (d + 120 + 1) 0 18 [sR (some 9), sR (some 10), sR (some 56), sI ((nZ p) + 6)] [] h15) else (if (0 : Int32) = 0 ∨ (0 : Int32) = 1 then some (some (qI 0), h15) else none)) = qbig (d + 120 + 1) 0 18 [sR (some 9), sR (some 10), sR (some 56), sI (nZ (p + 6))] [] h2 ∧ RS h2 (n + 1) ∧ Sc h2 N f := by
  have i1 : nZ p + 1 = nZ (p + 1) := by rw [L1, nZ_add]
  have i6 : nZ p + 6 = nZ (p + 6) := by rw [L6, nZ_add]
  obtain ⟨v, g1, g2, e1, e2, r⟩ := os_count rs hn d (f (p + 1))
  have s1' := s.k (KP_cl _ _ _ _ _ e1)
  have s2' := s1'.k (KP_cl _ _ _ _ _ e2)
  refine ⟨g2, ?_, r, s2'⟩
  rw [i1]
  rw [ob_some, s.ai h3 (j := p + 1) (by omega), ob_some, e1, jI, ob_some, s1'.ai h3 (j := p + 1) (by omega), ob_some, e2, jI, if_pos rfl, i6]
theorem br_42 {h : QH} {n N p : Nat} {f : Nat → Int32} (rs : RS h n) (hn : n < 1000) (s : Sc h N f) (h3 : N ≤ 3072) (hp : p + 6 ≤ N) (d : Nat) : ∃ h2, (cI (qcl (d + 120) 55 [qR (some 10)] h) fun x6 h5 => cI (qcl (d + 120) 262 [qR (some 56)] h5) fun x8 h7 => if x6 = x8 then (qbig (d + 120 + 1) 0 18 [sR (some 9), sR (some 10), sR (some 56), sI ((nZ p) + 6)] [] h7) else (if (0 : Int32) = 0 ∨ (0 : Int32) = 1 then some (some (qI 0), h7) else none)) = qbig (d + 120 + 1) 0 18 [sR (some 9), sR (some 10), sR (some 56), sI (nZ (p + 6))] [] h2 ∧ RS h2 (n + 1) ∧ Sc h2 N f := by
  have i6 : nZ p + 6 = nZ (p + 6) := by rw [L6, nZ_add]
  obtain ⟨v, g1, g2, e1, e2, r⟩ := os_status rs hn d
  have s1' := s.k (KP_cl _ _ _ _ _ e1)
  have s2' := s1'.k (KP_cl _ _ _ _ _ e2)
  refine ⟨g2, ?_, r, s2'⟩
  skip
  rw [e1, jI, e2, jI, if_pos rfl, i6]
theorem turn {h : QH} {n N p : Nat} {f : Nat → Int32} (rs : RS h n) (hn : n < 1000) (s : Sc h N f) (h3 : N ≤ 3072) (hp : p + 6 ≤ N) (d : Nat) : ∃ h2, qbig (d + 120 + 1) 0 18 [sR (some 9), sR (some 10), sR (some 56), sI (nZ p)] [] h = qbig (d + 120 + 1) 0 18 [sR (some 9), sR (some 10), sR (some 56), sI (nZ (p + 6))] [] h2 ∧ RS h2 (n + 1) ∧ Sc h2 N f := by
  have lt : ¬(nZ N - 6 < nZ p) := by
    rw [L6, nZ_sub (by omega), nZ_lt (by omega) (by omega)]
    omega
  have i6 : nZ p + 6 = nZ (p + 6) := by rw [L6, nZ_add]
  rw [E0_18, ob_some, s.al, ob_some, if_neg lt, ob_some, s.ai h3 (j := p) (by omega), ob_some]
  by_cases c0 : (f p &&& 63) = 0
  · rw [if_pos c0]
    exact br_0 rs hn s h3 hp d
  rw [if_neg c0]
  by_cases c1 : (f p &&& 63) = 1
  · rw [if_pos c1]
    exact br_1 rs hn s h3 hp d
  rw [if_neg c1]
  by_cases c2 : (f p &&& 63) = 2
  · rw [if_pos c2]
    exact br_2 rs hn s h3 hp d
  rw [if_neg c2]
  by_cases c3 : (f p &&& 63) = 3
  · rw [if_pos c3]
    exact br_3 rs hn s h3 hp d
  rw [if_neg c3]
  by_cases c4 : (f p &&& 63) = 4
  · rw [if_pos c4]
    exact br_4 rs hn s h3 hp d
  rw [if_neg c4]
  by_cases c5 : (f p &&& 63) = 5
  · rw [if_pos c5]
    exact br_5 rs hn s h3 hp d
  rw [if_neg c5]
  by_cases c6 : (f p &&& 63) = 6
  · rw [if_pos c6]
    exact br_6 rs hn s h3 hp d
  rw [if_neg c6]
  by_cases c7 : (f p &&& 63) = 7
  · rw [if_pos c7]
    exact br_7 rs hn s h3 hp d
  rw [if_neg c7]
  by_cases c8 : (f p &&& 63) = 8
  · rw [if_pos c8]
    exact br_8 rs hn s h3 hp d
  rw [if_neg c8]
  by_cases c9 : (f p &&& 63) = 9
  · rw [if_pos c9]
    exact br_9 rs hn s h3 hp d
  rw [if_neg c9]
  by_cases c10 : (f p &&& 63) = 10
  · rw [if_pos c10]
    exact br_10 rs hn s h3 hp d
  rw [if_neg c10]
  by_cases c11 : (f p &&& 63) = 11
  · rw [if_pos c11]
    exact br_11 rs hn s h3 hp d
  rw [if_neg c11]
  by_cases c12 : (f p &&& 63) = 12
  · rw [if_pos c12]
    exact br_12 rs hn s h3 hp d
  rw [if_neg c12]
  by_cases c13 : (f p &&& 63) = 13
  · rw [if_pos c13]
    exact br_13 rs hn s h3 hp d
  rw [if_neg c13]
  by_cases c14 : (f p &&& 63) = 14
  · rw [if_pos c14]
    exact br_14 rs hn s h3 hp d
  rw [if_neg c14]
  by_cases c15 : (f p &&& 63) = 15
  · rw [if_pos c15]
    exact br_15 rs hn s h3 hp d
  rw [if_neg c15]
  by_cases c16 : (f p &&& 63) = 16
  · rw [if_pos c16]
    exact br_16 rs hn s h3 hp d
  rw [if_neg c16]
  by_cases c17 : (f p &&& 63) = 17
  · rw [if_pos c17]
    exact br_17 rs hn s h3 hp d
  rw [if_neg c17]
  by_cases c18 : (f p &&& 63) = 18
  · rw [if_pos c18]
    exact br_18 rs hn s h3 hp d
  rw [if_neg c18]
  by_cases c19 : (f p &&& 63) = 19
  · rw [if_pos c19]
    exact br_19 rs hn s h3 hp d
  rw [if_neg c19]
  by_cases c20 : (f p &&& 63) = 20
  · rw [if_pos c20]
    exact br_20 rs hn s h3 hp d
  rw [if_neg c20]
  by_cases c21 : (f p &&& 63) = 21
  · rw [if_pos c21]
    exact br_21 rs hn s h3 hp d
  rw [if_neg c21]
  by_cases c22 : (f p &&& 63) = 22
  · rw [if_pos c22]
    exact br_22 rs hn s h3 hp d
  rw [if_neg c22]
  by_cases c23 : (f p &&& 63) = 23
  · rw [if_pos c23]
    exact br_23 rs hn s h3 hp d
  rw [if_neg c23]
  by_cases c24 : (f p &&& 63) = 24
  · rw [if_pos c24]
    exact br_24 rs hn s h3 hp d
  rw [if_neg c24]
  by_cases c25 : (f p &&& 63) = 25
  · rw [if_pos c25]
    exact br_25 rs hn s h3 hp d
  rw [if_neg c25]
  by_cases c26 : (f p &&& 63) = 26
  · rw [if_pos c26]
    exact br_26 rs hn s h3 hp d
  rw [if_neg c26]
  by_cases c27 : (f p &&& 63) = 27
  · rw [if_pos c27]
    exact br_27 rs hn s h3 hp d
  rw [if_neg c27]
  by_cases c28 : (f p &&& 63) = 28
  · rw [if_pos c28]
    exact br_28 rs hn s h3 hp d
  rw [if_neg c28]
  by_cases c29 : (f p &&& 63) = 29
  · rw [if_pos c29]
    exact br_29 rs hn s h3 hp d
  rw [if_neg c29]
  by_cases c30 : (f p &&& 63) = 30
  · rw [if_pos c30]
    exact br_30 rs hn s h3 hp d
  rw [if_neg c30]
  by_cases c31 : (f p &&& 63) = 31
  · rw [if_pos c31]
    exact br_31 rs hn s h3 hp d
  rw [if_neg c31]
  by_cases c32 : (f p &&& 63) = 32
  · rw [if_pos c32]
    exact br_32 rs hn s h3 hp d
  rw [if_neg c32]
  by_cases c33 : (f p &&& 63) = 33
  · rw [if_pos c33]
    exact br_33 rs hn s h3 hp d
  rw [if_neg c33]
  by_cases c34 : (f p &&& 63) = 34
  · rw [if_pos c34]
    exact br_34 rs hn s h3 hp d
  rw [if_neg c34]
  by_cases c35 : (f p &&& 63) = 35
  · rw [if_pos c35]
    exact br_35 rs hn s h3 hp d
  rw [if_neg c35]
  by_cases c36 : (f p &&& 63) = 36
  · rw [if_pos c36]
    exact br_36 rs hn s h3 hp d
  rw [if_neg c36]
  by_cases c37 : (f p &&& 63) = 37
  · rw [if_pos c37]
    exact br_37 rs hn s h3 hp d
  rw [if_neg c37]
  by_cases c38 : (f p &&& 63) = 38
  · rw [if_pos c38]
    exact br_38 rs hn s h3 hp d
  rw [if_neg c38]
  by_cases c39 : (f p &&& 63) = 39
  · rw [if_pos c39]
    exact br_39 rs hn s h3 hp d
  rw [if_neg c39]
  by_cases c40 : (f p &&& 63) = 40
  · rw [if_pos c40]
    exact br_40 rs hn s h3 hp d
  rw [if_neg c40]
  by_cases c41 : (f p &&& 63) = 41
  · rw [if_pos c41]
    exact br_41 rs hn s h3 hp d
  rw [if_neg c41]
  by_cases c42 : (f p &&& 63) = 42
  · rw [if_pos c42]
    exact br_42 rs hn s h3 hp d
  rw [if_neg c42]
  exact ⟨h, by rw [i6], RS_up rs, s⟩
theorem loop0 {N : Nat} {f : Nat → Int32} (h3 : N ≤ 3072) (d : Nat) : ∀ m n p h, p + 6 * m ≤ N → N < p + 6 * m + 6 → n + m < 1000 → RS h n → Sc h N f → ∃ h2, qbig (d + 120 + 1) 0 18 [sR (some 9), sR (some 10), sR (some 56), sI (nZ p)] [] h = some (some (qI 1), h2) ∧ RS h2 (n + m) ∧ Sc h2 N f
  | 0, n, p, h, h1, h2, hn, rs, s => by
    have lt : nZ N - 6 < nZ p := by
      by_cases c : 6 ≤ N
      · rw [L6, nZ_sub c, nZ_lt (by omega) (by omega)]
        omega
      · have q : N = 0 ∨ N = 1 ∨ N = 2 ∨ N = 3 ∨ N = 4 ∨ N = 5 := by omega
        have g : nZ N - 6 < nZ 0 := by
          rcases q with e | e | e | e | e | e <;> rw [e] <;> decide
        have g2 : nZ 0 ≤ nZ p := by
          rw [nZ_le (by decide) (by omega)]
          omega
        exact Int32.lt_of_lt_of_le g g2
    refine ⟨h, ?_, rs, s⟩
    rw [E0_18, ob_some, s.al, ob_some, if_pos lt, if_pos (by decide)]
  | m + 1, n, p, h, h1, h2, hn, rs, s => by
    obtain ⟨k, ek, rk, sk⟩ := turn (p := p) rs (by omega) s h3 (by omega) d
    obtain ⟨k2, ek2, rk2, sk2⟩ := loop0 h3 d m (n + 1) (p + 6) k (by omega) (by omega) (by omega) rk sk
    refine ⟨k2, ek.trans ek2, ?_, sk2⟩
    rw [show n + (m + 1) = n + 1 + m by omega]
    exact rk2

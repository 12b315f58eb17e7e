/-! each kind of call keeps it -/
theorem r40 {cs : Nat → Nat → Bool} (h : (∀ j, cs 40 j = false) ∧ (∀ j, cs 41 j = false) ∧ (∀ j, cs 42 j = false) ∧ (∀ j, cs 43 j = false) ∧ ∀ j, cs 44 j = false) (b j : Nat) (h1 : 40 ≤ b) (h2 : b ≤ 44) : cs b j = false := by
  have : b = 40 ∨ b = 41 ∨ b = 42 ∨ b = 43 ∨ b = 44 := by omega
  rcases this with e | e | e | e | e <;> subst e
  · exact h.1 j
  · exact h.2.1 j
  · exact h.2.2.1 j
  · exact h.2.2.2.1 j
  · exact h.2.2.2.2 j
theorem r56 {cs : Nat → Nat → Bool} (h : cs 56 35 = false ∧ cs 56 36 = false ∧ cs 56 37 = false ∧ cs 56 38 = false) (j : Nat) (h1 : 35 ≤ j) (h2 : j ≤ 38) : cs 56 j = false := by
  have : j = 35 ∨ j = 36 ∨ j = 37 ∨ j = 38 := by omega
  rcases this with e | e | e | e <;> subst e
  · exact h.1
  · exact h.2.1
  · exact h.2.2.1
  · exact h.2.2.2
theorem r45 {cs : Nat → Nat → Bool} (h : cs 45 0 = false ∧ cs 45 1 = false ∧ cs 45 2 = false ∧ cs 45 3 = false) (j : Nat) (h1 : j < 4) : cs 45 j = false := by
  have : j = 0 ∨ j = 1 ∨ j = 2 ∨ j = 3 := by omega
  rcases this with e | e | e | e <;> subst e
  · exact h.1
  · exact h.2.1
  · exact h.2.2.1
  · exact h.2.2.2
theorem nQ_or {a b : Nat → Nat → Bool} (x : nQ a) (y : nQ b) : nQ (fun p q => a p q || b p q) := by
  obtain ⟨x1, x2, x3, x4, x5, x6, x7, x8⟩ := x
  obtain ⟨y1, y2, y3, y4, y5, y6, y7, y8⟩ := y
  have o : ∀ {u v : Bool}, u = false → v = false → (u || v) = false := fun e1 e2 => by
    rw [e1, e2]
    rfl
  exact ⟨fun p q hp => o (x1 p q hp) (y1 p q hp), fun j => o (x2 j) (y2 j), fun j => o (x3 j) (y3 j), fun j => o (x4 j) (y4 j), fun j => o (x5 j) (y5 j), fun j => o (x6 j) (y6 j), o x7 y7, o x8 y8⟩
theorem nQ_Pl : nQ fPl := ⟨nW_fPl.2.2.1, fun j => rfl, fun j => rfl, fun j => rfl, fun j => rfl, fun j => rfl, rfl, rfl⟩
theorem nQ_Lv : nQ fLv := ⟨nW_fLv.2.2.1, fun j => rfl, fun j => rfl, fun j => rfl, fun j => rfl, fun j => rfl, rfl, rfl⟩
theorem nQ_Sp : nQ fSp := ⟨nW_fSp.2.2.1, fun j => rfl, fun j => rfl, fun j => rfl, fun j => rfl, fun j => rfl, rfl, rfl⟩
theorem nQ_So : nQ fSo := ⟨nW_fSo.2.2.1, fun j => rfl, fun j => rfl, fun j => rfl, fun j => rfl, fun j => rfl, rfl, rfl⟩
theorem nQ_Fp : nQ fFp := ⟨nW_fFp.2.2.1, fun j => rfl, fun j => rfl, fun j => rfl, fun j => rfl, fun j => rfl, rfl, rfl⟩
theorem nQ_76 : nQ (fO 76) := ⟨fun b j hb => fO_ne (by omega), fun j => rfl, fun j => rfl, fun j => rfl, fun j => rfl, fun j => rfl, rfl, rfl⟩
/-- the rest of a kept state -/
def Rst (h k : QH) : Prop := hN k = hN h ∧ hS k = hS h ∧ ∀ i, hR k 26 i = hR h 26 i
theorem Fr.rst {cs : Nat → Nat → Bool} {h k : QH} (F : Fr cs h k) : Rst h k := ⟨F.n, F.s, fun i => F.r 26 i⟩
theorem R_Plan {h k : QH} {W : Nat → Nat} {c : Nat} {T : Nat → Nat} (r : R h W c T) (p : PlanP h k W c T) : R k W c T ∧ Rst h k := by
  obtain ⟨K, F, P⟩ := p
  obtain ⟨b1, b2, b3, b4⟩ := R_base r K F (nQ_or nQ_Pl nQ_Lv) (fun _ _ => rfl) rfl
  obtain ⟨_, _, _, p1, p2, p3, p4⟩ := r
  exact ⟨⟨b1, b2, ⟨b3, b4⟩, P, p2.of (fun j h1 h2 => F.2 56 j (r56 ⟨rfl, rfl, rfl, rfl⟩ j h1 h2)) (fun j => F.2 74 j rfl), p3.of (fun j hj => F.2 45 j (r45 ⟨rfl, rfl, rfl, rfl⟩ j hj)) (fun j => F.2 46 j rfl), p4.of (fun j => F.2 52 j rfl) (fun j => F.2 53 j rfl) (F.2 56 42 rfl) (F.2 56 43 rfl) (fun j => F.2 78 j rfl)⟩, F.rst⟩
theorem R_Sp {h k : QH} {W : Nat → Nat} {c : Nat} {T : Nat → Nat} (r : R h W c T) (p : SpP h k W c T) : R k W c T ∧ Rst h k := by
  obtain ⟨K, F, P⟩ := p
  obtain ⟨b1, b2, b3, b4⟩ := R_base r K F (nQ_or nQ_Sp nQ_So) (fun _ _ => rfl) rfl
  obtain ⟨_, _, _, p1, p2, p3, p4⟩ := r
  exact ⟨⟨b1, b2, ⟨b3, b4⟩, p1.of (fun b j h1 h2 => F.2 b j (r40 ⟨fun j => rfl, fun j => rfl, fun j => rfl, fun j => rfl, fun j => rfl⟩ b j h1 h2)), P, p3.of (fun j hj => F.2 45 j (r45 ⟨rfl, rfl, rfl, rfl⟩ j hj)) (fun j => F.2 46 j rfl), p4.of (fun j => F.2 52 j rfl) (fun j => F.2 53 j rfl) (F.2 56 42 rfl) (F.2 56 43 rfl) (fun j => F.2 78 j rfl)⟩, F.rst⟩
theorem R_Fi {h k : QH} {W : Nat → Nat} {c : Nat} {T : Nat → Nat} (r : R h W c T) (p : FiP h k W c T) : R k W c T ∧ Rst h k := by
  obtain ⟨K, F, P, Q⟩ := p
  obtain ⟨b1, b2, b3, b4⟩ := R_base r K F (nQ_or nQ_Fp nQ_So) (fun _ _ => rfl) rfl
  obtain ⟨_, _, _, p1, p2, p3, p4⟩ := r
  exact ⟨⟨b1, b2, ⟨b3, b4⟩, p1.of (fun b j h1 h2 => F.2 b j (r40 ⟨fun j => rfl, fun j => rfl, fun j => rfl, fun j => rfl, fun j => rfl⟩ b j h1 h2)), P, Q, p4.of (fun j => F.2 52 j rfl) (fun j => F.2 53 j rfl) (F.2 56 42 rfl) (F.2 56 43 rfl) (fun j => F.2 78 j rfl)⟩, F.rst⟩
theorem R_Fw {h k : QH} {W : Nat → Nat} {c : Nat} {T : Nat → Nat} (r : R h W c T) (p : FwP h k W c T) : R k W c T ∧ Rst h k := by
  obtain ⟨K, F⟩ := p
  obtain ⟨b1, b2, b3, b4⟩ := R_base r K F (nQ_or nQ_Sp nQ_76) (fun _ _ => rfl) rfl
  obtain ⟨_, _, _, p1, p2, p3, p4⟩ := r
  exact ⟨⟨b1, b2, ⟨b3, b4⟩, p1.of (fun b j h1 h2 => F.2 b j (r40 ⟨fun j => rfl, fun j => rfl, fun j => rfl, fun j => rfl, fun j => rfl⟩ b j h1 h2)), p2.of (fun j h1 h2 => F.2 56 j (r56 ⟨rfl, rfl, rfl, rfl⟩ j h1 h2)) (fun j => F.2 74 j rfl), p3.of (fun j hj => F.2 45 j (r45 ⟨rfl, rfl, rfl, rfl⟩ j hj)) (fun j => F.2 46 j rfl), p4.of (fun j => F.2 52 j rfl) (fun j => F.2 53 j rfl) (F.2 56 42 rfl) (F.2 56 43 rfl) (fun j => F.2 78 j rfl)⟩, F.rst⟩
theorem nQ_WK : nQ fWK := by
  have a : nQ fWN := ⟨nK_WN.1.2.2.1, fun j => rfl, fun j => rfl, fun j => rfl, fun j => rfl, fun j => rfl, rfl, rfl⟩
  refine ⟨fun b j hb => ?_, fun j => rfl, fun j => rfl, fun j => rfl, fun j => rfl, fun j => rfl, rfl, rfl⟩
  unfold fWK
  rw [a.1 b j hb]
  split <;> first | omega | rfl
theorem R_Week {h k : QH} {W : Nat → Nat} {c : Nat} {T : Nat → Nat} (r : R h W c T) (hc : c < 100000) (p : WeekP h k W c T) : R k W (c + 1) T ∧ Rst h k := by
  obtain ⟨K, F, P⟩ := p
  have st : stp W W c (c + 1) := Or.inr rfl
  obtain ⟨b1, b2, b3, b4⟩ := R_base r K F nQ_WK (fun _ _ => rfl) rfl
  obtain ⟨_, _, _, p1, p2, p3, p4⟩ := r
  exact ⟨⟨b1, b2, ⟨b3, b4⟩, p1.step st hc (fun b j h1 h2 => F.2 b j (r40 ⟨fun j => rfl, fun j => rfl, fun j => rfl, fun j => rfl, fun j => rfl⟩ b j h1 h2)), p2.step st hc (fun j h1 h2 => F.2 56 j (r56 ⟨rfl, rfl, rfl, rfl⟩ j h1 h2)) (fun j => F.2 74 j rfl), p3.step st hc (fun j hj => F.2 45 j (r45 ⟨rfl, rfl, rfl, rfl⟩ j hj)) (fun j => F.2 46 j rfl), P⟩, F.rst⟩
theorem R_Law {h k : QH} {W : Nat → Nat} {c : Nat} {T : Nat → Nat} (r : R h W c T) (hc : c < 100000) (p : LawP h k W c T ∧ ∀ i a, hR k 25 i = some a → hR h 25 i = some a ∨ LG k a) : ∃ W' c' T', R k W' c' T' ∧ c' ≤ c + 1 ∧ hN k ≤ hN h + 4 ∧ hS k ≤ hS h + 439 ∧ ∀ i, hR k 26 i = hR h 26 i := by
  obtain ⟨⟨W', c', T', KK, wc, F, cc⟩, lg⟩ := p
  have st : stp W W' c c' := cc
  obtain ⟨K, _, ⟨I, l⟩, p1, p2, p3, p4⟩ := r
  have h79 := K.1.sh.1
  have t : TRN h k (hN h) := ⟨F.1.1, F.2.1, fun b j h1 h2 _ => ⟨F.2.2.1 b j h2 (lCR_79 b j h1).1, F.2.2.2 b j h2 (lCR_79 b j h1).2⟩⟩
  have g : ∀ b j, b < 79 → lC b j = false → hI k b j = hI h b j := fun b j hb e => F.2.2.1 b j (by omega) e
  have r26 : ∀ i, hR k 26 i = hR h 26 i := fun i => F.2.2.2 26 i (by omega) rfl
  refine ⟨W', c', T', ⟨KK, wc, ⟨I.tr t r26 (fun j => g 59 j (by decide) rfl) (fun j => g 60 j (by decide) rfl), fun x a hx e => ?_⟩, p1.step st hc (fun b j h1 h2 => g b j (by omega) (r40 ⟨fun j => rfl, fun j => rfl, fun j => rfl, fun j => rfl, fun j => rfl⟩ b j h1 h2)), p2.step st hc (fun j h1 h2 => g 56 j (by decide) (r56 ⟨rfl, rfl, rfl, rfl⟩ j h1 h2)) (fun j => g 74 j (by decide) rfl), p3.step st hc (fun j hj => g 45 j (by decide) (r45 ⟨rfl, rfl, rfl, rfl⟩ j hj)) (fun j => g 46 j (by decide) rfl), p4.of (fun j => g 52 j (by decide) rfl) (fun j => g 53 j (by decide) rfl) (g 56 42 (by decide) rfl) (g 56 43 (by decide) rfl) (fun j => g 78 j (by decide) rfl)⟩, st.le.2, F.1.2.1, F.1.2.2, r26⟩
  rcases lg x a e with q | q
  · have gg := l x a hx q
    exact gg.tr t (Or.inl gg.1.2)
  · exact q
theorem R_Im {h k : QH} {W : Nat → Nat} {c : Nat} {T : Nat → Nat} (r : R h W c T) (hc : c < 100000) (p : ImP h k W c T) : (∃ W', R k W' (c + 1) T) ∧ ImR h k := by
  obtain ⟨W', KK, I, l, ⟨f1, f2', f3⟩, im⟩ := p
  have st : stp W W' c (c + 1) := Or.inr rfl
  obtain ⟨K, wc, _, p1, p2, p3, p4⟩ := r
  have g : ∀ b j, 26 ≤ b → b < 79 → b ≠ 56 → b ≠ 58 → b ≠ 59 → b ≠ 60 → hI k b j = hI h b j := fun b j h1 h2 h3 h4 h5 h6 => f1 b j h1 h2 h4 h5 h6 (Or.inl h3)
  have g6 : ∀ j, j ≠ 0 → j ≠ 1 → hI k 56 j = hI h 56 j := fun j h1 h2 => f1 56 j (by decide) (by decide) (by decide) (by decide) (by decide) (Or.inr ⟨h1, h2⟩)
  refine ⟨⟨W', KK, wc.of (fun j => g 61 j (by decide) (by decide) (by decide) (by decide) (by decide) (by decide)) (fun j => g 31 j (by decide) (by decide) (by decide) (by decide) (by decide) (by decide)) (fun j => g 32 j (by decide) (by decide) (by decide) (by decide) (by decide) (by decide)), ⟨I, l⟩, p1.step st hc (fun b j h1 h2 => g b j (by omega) (by omega) (by omega) (by omega) (by omega) (by omega)), p2.step st hc (fun j h1 h2 => g6 j (by omega) (by omega)) (fun j => g 74 j (by decide) (by decide) (by decide) (by decide) (by decide) (by decide)), p3.step st hc (fun j hj => g 45 j (by decide) (by decide) (by decide) (by decide) (by decide) (by decide)) (fun j => g 46 j (by decide) (by decide) (by decide) (by decide) (by decide) (by decide)), p4.of (fun j => g 52 j (by decide) (by decide) (by decide) (by decide) (by decide) (by decide)) (fun j => g 53 j (by decide) (by decide) (by decide) (by decide) (by decide) (by decide)) (g6 42 (by decide) (by decide)) (g6 43 (by decide) (by decide)) (fun j => g 78 j (by decide) (by decide) (by decide) (by decide) (by decide) (by decide))⟩, im⟩
/-- images that there are -/
def imc (h : QH) : Nat := (if hR h 26 0 = none then 0 else 1) + (if hR h 26 1 = none then 0 else 1)
def RS (h : QH) (n : Nat) : Prop := ∃ W c T, R h W c T ∧ c ≤ n ∧ hN h ≤ 79 + 4 * n + 15 * imc h ∧ hS h ≤ 200000 + 439 * n + 434 * imc h
theorem imc_le {h : QH} : imc h ≤ 2 := by
  unfold imc
  split <;> split <;> omega
theorem imc_same {h k : QH} (e : ∀ i, hR k 26 i = hR h 26 i) : imc k = imc h := by
  unfold imc
  rw [e 0, e 1]
theorem RS_rst {h k : QH} {n : Nat} {W W' : Nat → Nat} {c c' : Nat} {T T' : Nat → Nat} (r : R k W' c' T') (hc : c ≤ n) (cc : c' ≤ c + 1) (b1 : hN h ≤ 79 + 4 * n + 15 * imc h) (b2 : hS h ≤ 200000 + 439 * n + 434 * imc h) (h1 : hN k ≤ hN h + 4) (h2 : hS k ≤ hS h + 439) (h3 : ∀ i, hR k 26 i = hR h 26 i) : RS k (n + 1) := by
  have e := imc_same h3
  exact ⟨W', c', T', r, by omega, by rw [e]; omega, by rw [e]; omega⟩
theorem RS_im {h k : QH} {n : Nat} {W' : Nat → Nat} {c : Nat} {T : Nat → Nat} (r : R k W' (c + 1) T) (hc : c ≤ n) (b1 : hN h ≤ 79 + 4 * n + 15 * imc h) (b2 : hS h ≤ 200000 + 439 * n + 434 * imc h) (im : ImR h k) : RS k (n + 1) := by
  rcases im with ⟨h1, h2, h3⟩ | ⟨i, hi, u2, u3, u4, u5, u6⟩
  · have e := imc_same h3
    exact ⟨W', c + 1, T, r, by omega, by rw [e]; omega, by rw [e]; omega⟩
  · have e : imc k = imc h + 1 := by
      have : i = 0 ∨ i = 1 := by omega
      unfold imc
      rcases this with q | q
      · subst q
        rw [u2, u6 1 (by decide), if_neg u3, if_pos rfl]
        omega
      · subst q
        rw [u2, u6 0 (by decide), if_neg u3, if_pos rfl]
    exact ⟨W', c + 1, T, r, by omega, by rw [e]; omega, by rw [e]; omega⟩

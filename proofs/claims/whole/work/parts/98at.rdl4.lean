/-! ===== read ===== -/
theorem shR_29 : ∀ q ∈ shR, ¬(q.1 = 29 ∧ q.2.1 = 1) := by decide
theorem shR_25 : ∀ q ∈ shR, q.1 ≠ 25 := by decide
theorem Sh_r29 {h : QH} (H : Sh h) (v : Option Nat) : Sh (hsR h 29 1 v) := by
  refine ⟨H.1, H.2.1, ?_⟩
  intro q hq
  show (if q.1 = 29 ∧ q.2.1 = 1 then v else hR h q.1 q.2.1) = _
  rw [if_neg (shR_29 q hq)]
  exact H.2.2 q hq
theorem Sh_r25 {h : QH} (H : Sh h) (i : Nat) (v : Option Nat) : Sh (hsR h 25 i v) := by
  refine ⟨H.1, H.2.1, ?_⟩
  intro q hq
  show (if q.1 = 25 ∧ q.2.1 = i then v else hR h q.1 q.2.1) = _
  rw [if_neg (fun z => shR_25 q hq z.1)]
  exact H.2.2 q hq
theorem s2_id {h : QH} : st2' (bs h (hI h 33) (hI h 34)) (hI h 29) (hI h 35) = h := by
  refine qh_ext rfl rfl rfl ?_ rfl
  intro b j
  unfold st2' bs
  simp only [hI_sA]
  by_cases c1 : b = 35
  · rw [if_pos c1, c1]
  · rw [if_neg c1]
    by_cases c2 : b = 29
    · rw [if_pos c2, c2]
    · rw [if_neg c2]
      by_cases c3 : b = 34
      · rw [if_pos c3, c3]
      · rw [if_neg c3]
        by_cases c4 : b = 33
        · rw [if_pos c4, c4]
        · rw [if_neg c4]
theorem c112 {h : QH} (H : Sh h) (wc : WC h) {T : Nat → Nat} (tc : ∀ i, i < 400 → T i < 256 ∧ hI h 28 i = nZ (T i)) (d n N : Nat) (hn : n ≤ 400) (w : NN T n N) : (match RL (CT T n) (VT T n) N 12 0 0 0 with
    | .inl e => ∃ A B G R, qcl (d + 63) 112 [qR (some 29), qR (some 28), qI (nZ n)] h = some (some (qR none), st2' (bs (hsR h 29 1 (some 28)) A B) G R) ∧ G 0 = nZ (ts T n e)
    | .inr L => ∃ A B G R k, qcl (d + 63) 112 [qR (some 29), qR (some 28), qI (nZ n)] h = some (some (qR (some (hN h))), k) ∧ GW 4 (3 + (L.length + (L.length + (stepsOf L).length))) (st2' (bs (hsR h 29 1 (some 28)) A B) G R) k ∧ LO k (hN h) L) := by
  have Hr := Sh_r29 H (some 28)
  have hNn := w.1
  have Xr : CRX (hsR h 29 1 (some 28)) T n := by
    refine ⟨Hr, hn, ?_, tc, wc⟩
    show (if (29 : Nat) = 29 ∧ (1 : Nat) = 1 then some 28 else hR h 29 1) = some 28
    rw [if_pos ⟨rfl, rfl⟩]
  have Xb := bs_X Xr (hI h 33) (hI h 34)
  have F0 : ∃ F : Nat → Int32, F = upS (upS (upS (upS (upS (upS (hI h 29) 2 (nZ n)) 3 (nZ 0)) 6 (nZ 0)) 7 (nZ 0)) 8 (nZ 0)) 9 (nZ 0) := ⟨_, rfl⟩
  obtain ⟨F, hF⟩ := F0
  have f2 : F 2 = nZ n := by
    rw [hF]
    simp (disch := decide) only [upS_ne, upS_at]
  have f3 : F 3 = nZ 0 := by
    rw [hF]
    simp (disch := decide) only [upS_ne, upS_at]
  have f6 : F 6 = nZ 0 := by
    rw [hF]
    simp (disch := decide) only [upS_ne, upS_at]
  have f7 : F 7 = nZ 0 := by
    rw [hF]
    simp (disch := decide) only [upS_ne, upS_at]
  have f8 : F 8 = nZ 0 := by
    rw [hF]
    simp (disch := decide) only [upS_ne, upS_at]
  have f9 : F 9 = nZ 0 := by
    rw [hF]
    exact upS_at
  obtain ⟨G1, a1, a2, a3⟩ := c106_first Xb (d + 59) F (hI h 35) f2 f3
  have ps : PS T n G1 0 0 0 0 := ⟨a2, a3.2.1.trans f6, a3.2.2.1.trans f7, a3.2.2.2.2.trans f9⟩
  have o := c112_44 Xr w d 11 0 0 0 (hI h 33) (hI h 34) G1 (hI h 35) (by decide) (Nat.zero_le _) (Nat.zero_le _) (by omega) ps (a3.2.2.2.1.trans f8)
  have st : qcl (d + 63) 112 [qR (some 29), qR (some 28), qI (nZ n)] h = qbig (d + 63) 112 46 [sR (some 29), none, none, sI (nZ 0)] [] (st2' (bs (hsR h 29 1 (some 28)) (hI h 33) (hI h 34)) G1 (hI h 35)) := by
    have pr : qpr 4 1 29 (some 28) h = some (hsR h 29 1 (some 28)) := by
      unfold qpr
      rw [if_pos ⟨⟨by decide, H.n (by decide)⟩, H.t (by decide) (by decide) rfl, by rw [H.l (a := 29) (by decide) (by decide) rfl]; decide⟩]
    have em : (if nZ 400 < nZ n then nZ 400 else nZ n) = nZ n := by
      have e := nZ_lt (a := 400) (b := n) (by decide) (by omega)
      simp only [e]
      rw [if_neg (by omega)]
    have s0 : hsR h 29 1 (some 28) = st2' (bs (hsR h 29 1 (some 28)) (hI h 33) (hI h 34)) (hI h 29) (hI h 35) := (s2_id (h := hsR h 29 1 (some 28))).symm
    have Hb : Sh (bs (hsR h 29 1 (some 28)) (hI h 33) (hI h 34)) := Hr
    have el : qal 28 (hsR h 29 1 (some 28)) = some (nZ 400) := l28 Hr
    have a1' : qcl (d + 62) 106 [qR (some 29)] (st2' (bs (hsR h 29 1 (some 28)) (hI h 33) (hI h 34)) (upS (upS (upS (upS (upS (upS (hI h 29) 2 (nZ n)) 3 (nZ 0)) 6 (nZ 0)) 7 (nZ 0)) 8 (nZ 0)) 9 (nZ 0)) (hI h 35)) = some (none, st2' (bs (hsR h 29 1 (some 28)) (hI h 33) (hI h 34)) G1 (hI h 35)) := by
      rw [← hF]
      exact a1
    rw [E112, ck29 H, ob_some, pr, ob_some, ob_some, el, ob_some]
    have em' : (if (nZ 400) < (nZ n) then (nZ 400) else (nZ n)) = nZ n := em
    rw [em', s0]
    simp (disch := first | assumption | omega | (simp only [Sh_s2]; assumption)) only [p29_2, p29_3, p29_6, p29_7, p29_8, p29_9, ob_some, s2_s29, L0, a1', jV]
    rw [← s0]
  rw [st]
  cases er : RL (CT T n) (VT T n) N 12 0 0 0 with
  | inl e =>
    rw [er] at o
    obtain ⟨he, A, B, G, R, g1, g2⟩ := o
    exact ⟨A, B, G, R, g1, g2⟩
  | inr L =>
    obtain ⟨r1, r2, r3, r4, r5⟩ := RL_b _ _ _ _ _ er (Nat.zero_le _) (Nat.zero_le _)
    rw [er] at o
    obtain ⟨A, B, G, R, g1, g2, g3, g4, g5, g6, g7⟩ := o
    rw [Nat.zero_add] at g3
    have g2' : G 8 = nZ L.length := by
      rw [g2]
      congr 1
      omega
    obtain ⟨k, m1, m2, m3⟩ := mkL_c Hr (d + 61) L A B G R r2 (by omega) g2' g3 g5 g7
    exact ⟨A, B, G, R, k, g1.trans m1, m2, m3⟩
/-! frames with new cells -/
def FrA (cs rs : Nat → Nat → Bool) (m s : Nat) (h k : QH) : Prop := (hN h ≤ hN k ∧ hN k ≤ hN h + m ∧ hS k ≤ hS h + s) ∧ (∀ b, b < hN h → k.2.2.1 b = h.2.2.1 b) ∧ (∀ b j, b < hN h → cs b j = false → hI k b j = hI h b j) ∧ ∀ b j, b < hN h → rs b j = false → hR k b j = hR h b j
theorem FrA.refl {cs rs : Nat → Nat → Bool} {h : QH} : FrA cs rs 0 0 h h := ⟨⟨Nat.le_refl _, Nat.le_refl _, Nat.le_refl _⟩, fun _ _ => rfl, fun _ _ _ _ => rfl, fun _ _ _ _ => rfl⟩
theorem FrA.trans {cs rs : Nat → Nat → Bool} {m s m2 s2 : Nat} {h k l : QH} (a : FrA cs rs m s h k) (b : FrA cs rs m2 s2 k l) : FrA cs rs (m + m2) (s + s2) h l := by
  obtain ⟨⟨a1, a2, a3⟩, a4, a5, a6⟩ := a
  obtain ⟨⟨b1, b2, b3⟩, b4, b5, b6⟩ := b
  exact ⟨⟨by omega, by omega, by omega⟩, fun x hx => (b4 x (by omega)).trans (a4 x hx), fun x j hx hc => (b5 x j (by omega) hc).trans (a5 x j hx hc), fun x j hx hc => (b6 x j (by omega) hc).trans (a6 x j hx hc)⟩
theorem FrA.of {cs rs : Nat → Nat → Bool} {m s m2 s2 : Nat} {h k : QH} (a : FrA cs rs m s h k) (h1 : m ≤ m2) (h2 : s ≤ s2) : FrA cs rs m2 s2 h k := by
  obtain ⟨⟨a1, a2, a3⟩, a4⟩ := a
  exact ⟨⟨a1, by omega, by omega⟩, a4⟩
theorem FrA.fr {cs rs ds : Nat → Nat → Bool} {h k : QH} (F : Fr ds h k) (e : ∀ b j, ds b j = true → cs b j = true) : FrA cs rs 0 0 h k := by
  refine ⟨⟨Nat.le_of_eq F.n.symm, Nat.le_of_eq F.n, Nat.le_of_eq F.s⟩, fun b _ => by rw [F.1.2.2.1], fun b j _ hc => F.2 b j ?_, fun b j _ _ => F.r b j⟩
  cases hd : ds b j
  · rfl
  · rw [e b j hd] at hc
    cases hc
theorem FrA.si {cs rs : Nat → Nat → Bool} {m s a i : Nat} {v : Int32} {h k : QH} (ha : cs a i = true) (F : FrA cs rs m s h k) : FrA cs rs m s h (hsI k a i v) := by
  obtain ⟨f1, f2, f3, f4⟩ := F
  refine ⟨f1, f2, ?_, f4⟩
  intro b j hb hc
  rw [hI_si, if_neg]
  · exact f3 b j hb hc
  · intro z
    rw [z.1, z.2, ha] at hc
    cases hc
theorem FrA.sA {cs rs : Nat → Nat → Bool} {m s a : Nat} {f : Nat → Int32} {h k : QH} (ha : ∀ i, cs a i = true) (F : FrA cs rs m s h k) : FrA cs rs m s h (hsA k a f) := by
  obtain ⟨f1, f2, f3, f4⟩ := F
  refine ⟨f1, f2, ?_, f4⟩
  intro b j hb hc
  rw [hI_sA, if_neg]
  · exact f3 b j hb hc
  · intro z
    rw [z, ha] at hc
    cases hc
theorem FrA.sR {cs rs : Nat → Nat → Bool} {m s a i : Nat} {v : Option Nat} {h k : QH} (ha : rs a i = true) (F : FrA cs rs m s h k) : FrA cs rs m s h (hsR k a i v) := by
  obtain ⟨f1, f2, f3, f4⟩ := F
  refine ⟨f1, f2, f3, ?_⟩
  intro b j hb hc
  show (if b = a ∧ j = i then v else hR k b j) = _
  rw [if_neg]
  · exact f4 b j hb hc
  · intro z
    rw [z.1, z.2, ha] at hc
    cases hc
theorem FrA.gw {cs rs : Nat → Nat → Bool} {m s m2 s2 : Nat} {h k l : QH} (F : FrA cs rs m s h k) (g : GW m2 s2 k l) : FrA cs rs (m + m2) (s + s2) h l := F.trans ⟨⟨by have := g.1; omega, by have := g.1; omega, by have := g.2.1; omega⟩, g.2.2.1, fun b j hb _ => g.2.2.2.1 b j hb, fun b j hb _ => g.2.2.2.2 b j hb⟩
theorem LO.frA {h k : QH} {a : Nat} {L : List CL} (O : LO h a L) {cs rs : Nat → Nat → Bool} {m s : Nat} (F : FrA cs rs m s h k) (e : ∀ b j, 79 ≤ b → cs b j = false ∧ rs b j = false) : LO k a L := O.fr F.1.1 (fun b _ h2 => F.2.1 b h2) (fun b j h1 h2 => F.2.2.1 b j h2 (e b j h1).1) (fun b j h1 h2 => F.2.2.2 b j h2 (e b j h1).2)
/-- what law changes -/
def lC (b j : Nat) : Bool := (match b with
  | 10 => true | 11 => (match j with | 4 => true | _ => false) | 27 => true | 29 => true | 33 => true | 34 => true | 35 => true | 54 => true | 57 => true | 58 => true | 64 => true | 65 => true | 66 => true
  | 56 => (match j with | 0 => true | 1 => true | 10 => true | 11 => true | 15 => true | 16 => true | 17 => true | 18 => true | _ => false)
  | _ => false)
def lR (b j : Nat) : Bool := (match b with
  | 25 => true | 29 => (match j with | 1 => true | _ => false) | _ => false)

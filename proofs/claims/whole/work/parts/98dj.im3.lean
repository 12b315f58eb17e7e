/-! a new world -/
def uS (f : Nat → Nat × Nat) (i : Nat) (v : Nat × Nat) : Nat → Nat × Nat := fun x => if x = i then v else f x
def uR (f : Nat → Nat → Option Nat) (i j : Nat) (v : Option Nat) : Nat → Nat → Option Nat := fun x y => if x = i ∧ y = j then v else f x y
def uN (f : Nat → Nat → Option Nat) (i : Nat) : Nat → Nat → Option Nat := fun x y => if x = i then none else f x y
/-- grown by m cells -/
def GNw (h k : QH) (m s : Nat) (sh : Nat → Nat × Nat) (rf : Nat → Nat → Option Nat) : Prop := hN k = hN h + m ∧ hS k = hS h + s ∧ (∀ b, b < hN h → k.2.2.1 b = h.2.2.1 b ∧ ∀ j, hI k b j = hI h b j ∧ hR k b j = hR h b j) ∧ ∀ i, i < m → k.2.2.1 (hN h + i) = sh i ∧ ∀ j, hR k (hN h + i) j = rf i j
theorem GNw_0 {h : QH} : GNw h h 0 0 (fun _ => (0, 0)) (fun _ _ => none) := ⟨rfl, rfl, fun _ _ => ⟨rfl, fun _ => ⟨rfl, rfl⟩⟩, fun i hi => by omega⟩
theorem GNw.push {h k : QH} {m s : Nat} {sh : Nat → Nat × Nat} {rf : Nat → Nat → Option Nat} (G : GNw h k m s sh rf) (t n : Nat) : GNw h (hPush k t n) (m + 1) (s + n) (uS sh m (t, n)) (uN rf m) := by
  obtain ⟨g1, g2, g3, g4⟩ := G
  have e1 : k.1 = hN h + m := g1
  refine ⟨?_, ?_, fun b hb => ⟨?_, fun j => ⟨?_, ?_⟩⟩, fun i hi => ⟨?_, fun j => ?_⟩⟩
  · show k.1 + 1 = _
    omega
  · show k.2.1 + n = _
    have : k.2.1 = hS h + s := g2
    omega
  · show (if b = k.1 then (t, n) else k.2.2.1 b) = _
    rw [if_neg (by omega)]
    exact (g3 b hb).1
  · show (if b = k.1 then 0 else k.2.2.2.1 b j) = _
    rw [if_neg (by omega)]
    exact ((g3 b hb).2 j).1
  · show (if b = k.1 then none else k.2.2.2.2 b j) = _
    rw [if_neg (by omega)]
    exact ((g3 b hb).2 j).2
  · show (if hN h + i = k.1 then (t, n) else k.2.2.1 (hN h + i)) = uS sh m (t, n) i
    unfold uS
    by_cases c : i = m
    · rw [if_pos (by omega), if_pos c]
    · rw [if_neg (by omega), if_neg c]
      exact (g4 i (by omega)).1
  · show (if hN h + i = k.1 then none else k.2.2.2.2 (hN h + i) j) = uN rf m i j
    unfold uN
    by_cases c : i = m
    · rw [if_pos (by omega), if_pos c]
    · rw [if_neg (by omega), if_neg c]
      exact (g4 i (by omega)).2 j
theorem GNw.sI {h k : QH} {m s : Nat} {sh : Nat → Nat × Nat} {rf : Nat → Nat → Option Nat} (G : GNw h k m s sh rf) (i j : Nat) (v : Int32) : GNw h (hsI k (hN h + i) j v) m s sh rf := by
  obtain ⟨g1, g2, g3, g4⟩ := G
  refine ⟨g1, g2, fun b hb => ⟨(g3 b hb).1, fun j' => ⟨?_, ((g3 b hb).2 j').2⟩⟩, g4⟩
  rw [hI_ne (by omega)]
  exact ((g3 b hb).2 j').1
theorem GNw.sR {h k : QH} {m s : Nat} {sh : Nat → Nat × Nat} {rf : Nat → Nat → Option Nat} (G : GNw h k m s sh rf) (i j : Nat) (v : Option Nat) : GNw h (hsR k (hN h + i) j v) m s sh (uR rf i j v) := by
  obtain ⟨g1, g2, g3, g4⟩ := G
  refine ⟨g1, g2, fun b hb => ⟨(g3 b hb).1, fun j' => ⟨((g3 b hb).2 j').1, ?_⟩⟩, fun x hx => ⟨(g4 x hx).1, fun y => ?_⟩⟩
  · rw [hR_sR, if_neg (by omega)]
    exact ((g3 b hb).2 j').2
  · rw [hR_sR]
    unfold uR
    by_cases c : x = i ∧ y = j
    · rw [if_pos ⟨by omega, c.2⟩, if_pos c]
    · rw [if_neg (fun z => c ⟨by omega, z.2⟩), if_neg c]
      exact (g4 x hx).2 y
theorem GNw.t {h k : QH} {m s : Nat} {sh : Nat → Nat × Nat} {rf : Nat → Nat → Option Nat} (G : GNw h k m s sh rf) {i t n : Nat} (hi : i < m) (e : sh i = (t, n)) : hT k (hN h + i) = t ∧ hL k (hN h + i) = n ∧ hN h + i < hN k := by
  have q := (G.2.2.2 i hi).1
  rw [e] at q
  have := G.1
  refine ⟨?_, ?_, by omega⟩
  · show (k.2.2.1 (hN h + i)).1 = t
    rw [q]
  · show (k.2.2.1 (hN h + i)).2 = n
    rw [q]
theorem GNw.ck {h k : QH} {m s : Nat} {sh : Nat → Nat × Nat} {rf : Nat → Nat → Option Nat} (G : GNw h k m s sh rf) {i c n : Nat} (hi : i < m) (e : sh i = (16 + c, n)) : qck c (hN h + i) k = some () := if_pos ⟨(G.t hi e).2.2, Or.inr (G.t hi e).1⟩
theorem GNw.pi {h k : QH} {m s : Nat} {sh : Nat → Nat × Nat} {rf : Nat → Nat → Option Nat} (G : GNw h k m s sh rf) (h10 : 10 ≤ hN h) {i c n j : Nat} (hi : i < m) (e : sh i = (16 + c, n)) (hj : j < n) (v : Int32) : qpi c j (hN h + i) v k = some (hsI k (hN h + i) j v) := if_pos ⟨⟨by omega, (G.t hi e).2.2⟩, (G.t hi e).1, by rw [(G.t hi e).2.1]; exact hj⟩
theorem GNw.pr {h k : QH} {m s : Nat} {sh : Nat → Nat × Nat} {rf : Nat → Nat → Option Nat} (G : GNw h k m s sh rf) (h10 : 10 ≤ hN h) {i c n j : Nat} (hi : i < m) (e : sh i = (16 + c, n)) (hj : j < n) (v : Option Nat) : qpr c j (hN h + i) v k = some (hsR k (hN h + i) j v) := if_pos ⟨⟨by omega, (G.t hi e).2.2⟩, (G.t hi e).1, by rw [(G.t hi e).2.1]; exact hj⟩
/-- an array made and kept -/
theorem GNw.na {h k : QH} {m s : Nat} {sh : Nat → Nat × Nat} {rf : Nat → Nat → Option Nat} (G : GNw h k m s sh rf) (h10 : 10 ≤ hN h) {i c n j tg ln : Nat} {lit : Int32} (hi : i < m) (e : uS sh m (tg, ln) i = (16 + c, n)) (hj : j < n) (hl : qna tg lit k = some (hPush k tg ln)) (F : QH → QO) : ((qna tg lit k).bind fun h3 => (qpr c j (hN h + i) (some (hN k)) h3).bind F) = F (hsR (hPush k tg ln) (hN h + i) j (some (hN h + m))) ∧ GNw h (hsR (hPush k tg ln) (hN h + i) j (some (hN h + m))) (m + 1) (s + ln) (uS sh m (tg, ln)) (uR (uN rf m) i j (some (hN h + m))) := by
  have G1 := G.push tg ln
  refine ⟨?_, G1.sR i j _⟩
  rw [hl, ob_some, G1.pr h10 (by omega) e hj, ob_some, G.1]
theorem c74 {h k : QH} {m s : Nat} {sh : Nat → Nat × Nat} {rf : Nat → Nat → Option Nat} (G : GNw h k m s sh rf) (h10 : 10 ≤ hN h) (d i : Nat) (hi : i < m) (e : sh i = (18, 6)) : ∃ k', qcl (d + 1) 74 [qR (some (hN h + i))] k = some (none, k') ∧ GNw h k' (m + 1 + 1 + 1 + 1) (s + 32 + 8 + 8 + 40) (uS (uS (uS (uS sh m (0, 32)) (m + 1) (0, 8)) (m + 1 + 1) (0, 8)) (m + 1 + 1 + 1) (0, 40)) (uR (uN (uR (uN (uR (uN (uR (uN rf m) i 2 (some (hN h + m))) (m + 1)) i 3 (some (hN h + (m + 1)))) (m + 1 + 1)) i 4 (some (hN h + (m + 1 + 1)))) (m + 1 + 1 + 1)) i 5 (some (hN h + (m + 1 + 1 + 1)))) := by
  have ne : ∀ {f : Nat → Nat × Nat} {x : Nat} {v : Nat × Nat}, f i = (18, 6) → i < x → uS f x v i = (18, 6) := fun {f x v} q hx => by
    unfold uS
    rw [if_neg (by omega)]
    exact q
  have G1 := G.sI i 0 0
  have G2 := G1.sI i 1 0
  have e0 := e
  have e1 : uS sh m (0, 32) i = (18, 6) := ne e hi
  have G3 := (G2.na h10 (i := i) (c := 2) (n := 6) (j := 2) (tg := 0) (ln := 32) (lit := 32) hi e1 (by decide) rfl (fun _ => none)).2
  have e2 : uS (uS sh m (0, 32)) (m + 1) (0, 8) i = (18, 6) := ne e1 (by omega)
  have G4 := (G3.na h10 (i := i) (c := 2) (n := 6) (j := 3) (tg := 0) (ln := 8) (lit := 8) (by omega) e2 (by decide) rfl (fun _ => none)).2
  have e3 : uS (uS (uS sh m (0, 32)) (m + 1) (0, 8)) (m + 1 + 1) (0, 8) i = (18, 6) := ne e2 (by omega)
  have G5 := (G4.na h10 (i := i) (c := 2) (n := 6) (j := 4) (tg := 0) (ln := 8) (lit := 8) (by omega) e3 (by decide) rfl (fun _ => none)).2
  have e4 : uS (uS (uS (uS sh m (0, 32)) (m + 1) (0, 8)) (m + 1 + 1) (0, 8)) (m + 1 + 1 + 1) (0, 40) i = (18, 6) := ne e3 (by omega)
  have G6 := (G5.na h10 (i := i) (c := 2) (n := 6) (j := 5) (tg := 0) (ln := 40) (lit := 40) (by omega) e4 (by decide) rfl (fun _ => none)).2
  refine ⟨_, ?_, G6⟩
  rw [E74, G.ck (i := i) (c := 2) (n := 6) hi e, ob_some, G.pi h10 (c := 2) (n := 6) hi e (by decide), ob_some, G1.pi h10 (c := 2) (n := 6) hi e (by decide), ob_some]
  rw [(G2.na h10 (i := i) (c := 2) (n := 6) (j := 2) (tg := 0) (ln := 32) (lit := 32) hi e1 (by decide) rfl _).1]
  rw [(G3.na h10 (i := i) (c := 2) (n := 6) (j := 3) (tg := 0) (ln := 8) (lit := 8) (by omega) e2 (by decide) rfl _).1]
  rw [(G4.na h10 (i := i) (c := 2) (n := 6) (j := 4) (tg := 0) (ln := 8) (lit := 8) (by omega) e3 (by decide) rfl _).1]
  rw [(G5.na h10 (i := i) (c := 2) (n := 6) (j := 5) (tg := 0) (ln := 40) (lit := 40) (by omega) e4 (by decide) rfl _).1]

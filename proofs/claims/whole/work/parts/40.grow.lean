/-! ===== the heap only grows ===== -/
def qh (q : QN) : QH := match q with
  | .inl r => r.2
  | .inr (.inl g) => g.2.2.2
  | .inr (.inr g) => g.2.2.2.2.2.2
def og (h : QH) (o : Option QN) : Prop := ∀ q, o = some q → hN h ≤ hN (qh q) ∧ hS h ≤ hS (qh q)
theorem og_none {h : QH} : og h none := fun _ e => by cases e
theorem og_K {h : QH} {q : QN} (e : qh q = h) : og h (some q) := fun q' e' => by
  cases e'
  rw [e]
  exact ⟨Nat.le_refl _, Nat.le_refl _⟩
theorem og_G {h h2 : QH} {pc : Nat} {ls : List QS} {st : List QV} (e : hN h ≤ hN h2 ∧ hS h ≤ hS h2) : og h (some (nGo pc ls st h2)) := fun q' e' => by
  cases e'
  exact e
theorem og_eI {h : QH} {w : QV} {f : Int32 → Option QN} (k : ∀ x, og h (f x)) : og h (eI w f) := fun q e => by
  obtain ⟨x, -, e⟩ := eI_inv e
  exact k x q e
theorem og_eL {h : QH} {w : QV} {f : Int64 → Option QN} (k : ∀ x, og h (f x)) : og h (eL w f) := fun q e => by
  obtain ⟨x, -, e⟩ := eL_inv e
  exact k x q e
theorem og_eR {h : QH} {w : QV} {f : Option Nat → Option QN} (k : ∀ x, og h (f x)) : og h (eR w f) := fun q e => by
  obtain ⟨x, -, e⟩ := eR_inv e
  exact k x q e
theorem og_eC {h : QH} {w : QV} {f : Option QN} (k : og h f) : og h (eC w f) := fun q e => k q (eC_inv e).2
theorem og_e0 {h : QH} {st : List QV} {f : Option QN} (k : og h f) : og h (e0 st f) := fun q e => k q (e0_inv e).2
theorem og_eS {h : QH} {s : QS} {f : QV → Option QN} (k : ∀ x, og h (f x)) : og h (eS s f) := fun q e => by
  obtain ⟨x, -, e⟩ := eS_inv e
  exact k x q e
theorem og_e1 {h : QH} {st : List QV} {f : QV → List QV → Option QN} (k : ∀ x r, og h (f x r)) : og h (e1 st f) := fun q e => by
  obtain ⟨x, r, -, e⟩ := e1_inv e
  exact k x r q e
theorem og_2I {h : QH} {st : List QV} {f : Int32 → Int32 → List QV → Option QN} (k : ∀ x y r, og h (f x y r)) : og h (e2I st f) := fun q e => by
  obtain ⟨x, y, r, -, e⟩ := e2I_inv e
  exact k x y r q e
theorem og_2L {h : QH} {st : List QV} {f : Int64 → Int64 → List QV → Option QN} (k : ∀ x y r, og h (f x y r)) : og h (e2L st f) := fun q e => by
  obtain ⟨x, y, r, -, e⟩ := e2L_inv e
  exact k x y r q e
theorem og_b {α : Type} {h : QH} {o : Option α} {f : α → Option QN} (k : ∀ x, o = some x → og h (f x)) : og h (o.bind f) := fun q e => by
  obtain ⟨x, e1, e2⟩ := ob_inv e
  exact k x e1 q e2
theorem og_if {h : QH} {c : Prop} [Decidable c] {f g : Option QN} (a : og h f) (b : og h g) : og h (if c then f else g) := by
  by_cases hc : c
  · rw [if_pos hc]; exact a
  · rw [if_neg hc]; exact b
theorem og_c {h : QH} {b : Bool} {f g : Option QN} (x : og h f) (y : og h g) : og h (cond b f g) := by
  cases b
  · exact y
  · exact x
theorem og_sw {h : QH} {x : Int32} {f : Nat → Option QN} {d : Nat} (k : ∀ pc, og h (f pc)) : ∀ ts, og h (qsw x f d ts)
  | [] => k d
  | t :: ts => og_if (k t.2) (og_sw k ts)
theorem og_pi {h h2 : QH} {a b q : Nat} {v : Int32} (e : qpi a b q v h = some h2) : hN h ≤ hN h2 ∧ hS h ≤ hS h2 := by
  obtain ⟨-, -, -, -, rfl⟩ := qpi_inv e; exact ⟨Nat.le_refl _, Nat.le_refl _⟩
theorem og_pz {h h2 : QH} {a b q : Nat} {v : Int32} (e : qpz a b q v h = some h2) : hN h ≤ hN h2 ∧ hS h ≤ hS h2 := by
  obtain ⟨-, -, -, -, -, rfl⟩ := qpz_inv e; exact ⟨Nat.le_refl _, Nat.le_refl _⟩
theorem og_pr {h h2 : QH} {a b q : Nat} {v : Option Nat} (e : qpr a b q v h = some h2) : hN h ≤ hN h2 ∧ hS h ≤ hS h2 := by
  obtain ⟨-, -, -, -, rfl⟩ := qpr_inv e; exact ⟨Nat.le_refl _, Nat.le_refl _⟩
theorem og_si {h h2 : QH} {t q : Nat} {i v : Int32} (e : qsi t q i v h = some h2) : hN h ≤ hN h2 ∧ hS h ≤ hS h2 := by
  obtain ⟨-, -, -, -, -, rfl⟩ := qsi_inv e; exact ⟨Nat.le_refl _, Nat.le_refl _⟩
theorem og_sr {h h2 : QH} {q : Nat} {i : Int32} {v : Option Nat} (e : qsr q i v h = some h2) : hN h ≤ hN h2 ∧ hS h ≤ hS h2 := by
  obtain ⟨-, -, -, -, -, -, rfl⟩ := qsr_inv e; exact ⟨Nat.le_refl _, Nat.le_refl _⟩
theorem og_na {h h2 : QH} {t : Nat} {n : Int32} (e : qna t n h = some h2) : hN h ≤ hN h2 ∧ hS h ≤ hS h2 := by
  obtain ⟨-, -, rfl⟩ := qna_inv e; exact ⟨Nat.le_succ _, Nat.le_add_right _ _⟩
theorem og_cn {h h2 : QH} {q : Nat} (e : qcn q h = some h2) : hN h ≤ hN h2 ∧ hS h ≤ hS h2 := by
  unfold qcn at e
  split at e
  · cases e; exact ⟨Nat.le_succ _, Nat.le_add_right _ _⟩
  · cases e
theorem og_cp {h h2 : QH} {s d : Nat} {sp dp n : Int32} (e : qcp s sp d dp n h = some h2) : hN h ≤ hN h2 ∧ hS h ≤ hS h2 := by
  unfold qcp at e
  split at e
  · cases e; exact ⟨Nat.le_refl _, Nat.le_refl _⟩
  · cases e
set_option maxHeartbeats 4000000 in
theorem qexec_grow (ls : List QS) (st : List QV) (h : QH) (i : Instr) (nx a b c : Nat) (v : Int32) (ts : List (Int32 × Nat)) : og h (qexec some ls st h i nx a b c v ts) := by
  cases i
  case ifCond q _ => cases q <;> exact og_e1 fun _ _ => og_eI fun _ => og_if (og_K rfl) (og_K rfl)
  case if_icmp q _ => cases q <;> exact og_2I fun _ _ _ => og_if (og_K rfl) (og_K rfl)
  case tableswitch => exact og_e1 fun _ r => og_eI fun x => og_sw (f := fun pc => some (nGo pc ls r h)) (fun _ => og_K rfl) _
  case putfield => exact og_e1 fun _ _ => og_e1 fun _ _ => og_eR fun _ => og_b fun _ _ => og_c (og_eR fun _ => og_b fun _ e => og_G (og_pr e)) (og_eI fun _ => og_c (og_b fun _ e => og_G (og_pi e)) (og_b fun _ e => og_G (og_pz e)))
  case iastore => exact og_2I fun _ _ _ => og_e1 fun _ _ => og_eR fun _ => og_b fun _ _ => og_b fun _ e => og_G (og_si e)
  case castore => exact og_2I fun _ _ _ => og_e1 fun _ _ => og_eR fun _ => og_b fun _ _ => og_b fun _ e => og_G (og_si e)
  case bastore => exact og_2I fun _ _ _ => og_e1 fun _ _ => og_eR fun _ => og_b fun _ _ => og_c (og_b fun _ e => og_G (og_si e)) (og_b fun _ e => og_G (og_si e))
  case aastore => exact og_e1 fun _ _ => og_eR fun _ => og_e1 fun _ _ => og_eI fun _ => og_e1 fun _ _ => og_eR fun _ => og_b fun _ _ => og_b fun _ e => og_G (og_sr e)
  case newarray => exact og_e1 fun _ _ => og_eI fun _ => og_b fun _ e => og_G (og_na e)
  case anewarray => exact og_e1 fun _ _ => og_eI fun _ => og_b fun _ e => og_G (og_na e)
  case new => exact og_G ⟨Nat.le_succ _, Nat.le_add_right _ _⟩
  case invokevirtual => exact og_c (og_e1 fun _ _ => og_eR fun _ => og_b fun _ _ => og_c (og_b fun _ e => og_G (og_cn e)) og_none) (og_b fun _ _ => og_c (og_K rfl) og_none)
  case invokespecial => exact og_c (og_e1 fun _ _ => og_eR fun _ => og_b fun _ _ => og_c (og_K rfl) og_none) (og_b fun _ _ => og_c (og_K rfl) og_none)
  case invokestatic => exact og_c (og_c (og_2I fun _ _ _ => og_e1 fun _ _ => og_eR fun _ => og_e1 fun _ _ => og_eI fun _ => og_e1 fun _ _ => og_eR fun _ => og_b fun _ _ => og_b fun _ _ => og_c (og_b fun _ e => og_G (og_cp e)) og_none) (og_2I fun _ _ _ => og_c (og_K rfl) og_none)) (og_b fun _ _ => og_c (og_K rfl) og_none)
  all_goals first
    | exact og_K rfl
    | exact og_none
    | exact og_c (og_K rfl) (og_K rfl)
    | exact og_eS fun _ => og_eI fun _ => og_K rfl
    | exact og_eS fun _ => og_eL fun _ => og_K rfl
    | exact og_eS fun _ => og_eR fun _ => og_K rfl
    | exact og_e1 fun _ _ => og_eI fun _ => og_K rfl
    | exact og_e1 fun _ _ => og_eR fun _ => og_K rfl
    | exact og_e1 fun _ _ => og_eL fun _ => og_K rfl
    | exact og_2I fun _ _ _ => og_K rfl
    | exact og_2L fun _ _ _ => og_K rfl
    | exact og_2I fun _ _ _ => og_if og_none (og_K rfl)
    | exact og_2L fun _ _ _ => og_if og_none (og_K rfl)
    | exact og_e1 fun _ _ => og_eC (og_K rfl)
    | exact og_e1 fun _ _ => og_e1 fun _ _ => og_eC (og_eC (og_K rfl))
    | exact og_e1 fun _ _ => og_eR fun _ => og_if (og_K rfl) (og_K rfl)
    | exact og_e1 fun _ _ => og_e0 (og_eI fun _ => og_c (og_K rfl) (og_if (og_K rfl) og_none))
    | exact og_e1 fun _ _ => og_e0 (og_eL fun _ => og_K rfl)
    | exact og_e1 fun _ _ => og_e0 (og_eR fun _ => og_K rfl)
    | exact og_e0 (og_K rfl)
    | exact og_e1 fun _ _ => og_eR fun _ => og_b fun _ _ => og_c (og_b fun _ _ => og_K rfl) (og_b fun _ _ => og_K rfl)
    | exact og_e1 fun _ _ => og_eI fun _ => og_e1 fun _ _ => og_eR fun _ => og_b fun _ _ => og_b fun _ _ => og_K rfl
    | exact og_e1 fun _ _ => og_eR fun _ => og_b fun _ _ => og_b fun _ _ => og_K rfl
/-! what stands in the program's lists -/
theorem lkp_in {β : Type} {K : QE → Option β} {pc : Nat} {q : β} : ∀ (l : List (Nat × QE)), lkp K pc l = some q → ∃ e, (pc, e) ∈ l ∧ K e = some q
  | [], h => by cases h
  | x :: l, h => by
    have h : cond (Nat.beq pc x.1) (K x.2) (lkp K pc l) = some q := h
    cases hb : Nat.beq pc x.1
    · rw [hb] at h
      obtain ⟨e, h1, h2⟩ := lkp_in l h
      exact ⟨e, List.mem_cons.mpr (Or.inr h1), h2⟩
    · rw [hb] at h
      exact ⟨x.2, List.mem_cons.mpr (Or.inl (by rw [Nat.eq_of_beq_eq_true hb])), h⟩
theorem lkp2_in {β : Type} {K : QE → Option β} {pc : Nat} {q : β} : ∀ (l : List (Nat × List (Nat × QE))), lkp2 K pc l = some q → ∃ x ∈ l, ∃ e, (pc, e) ∈ x.2 ∧ K e = some q
  | [], h => by cases h
  | x :: l, h => by
    have h : cond (Nat.ble pc x.1) (lkp K pc x.2) (lkp2 K pc l) = some q := h
    cases hb : Nat.ble pc x.1
    · rw [hb] at h
      obtain ⟨y, h1, h2⟩ := lkp2_in l h
      exact ⟨y, List.mem_cons.mpr (Or.inr h1), h2⟩
    · rw [hb] at h
      obtain ⟨e, h1, h2⟩ := lkp_in x.2 h
      exact ⟨x, List.mem_cons.mpr (Or.inl rfl), e, h1, h2⟩
theorem qact_in {m pc : Nat} {ls : List QS} {st : List QV} {h : QH} {q : QN} (ok : okC m = true) (e : qact m pc ls st h = some q) : ∃ (i : Instr) (nx a b c j : Nat) (v : Int32) (ts : List (Int32 × Nat)), decode (qbyte m) pc = .ok (i, nx - pc) ∧ okE m pc i nx a b c j v ts = true ∧ qexec some ls st h i nx a b c v ts = some q := by
  obtain ⟨x, hx, ⟨i, nx, a, b, c, j, v, ts⟩, h1, h2⟩ := lkp2_in _ e
  have h3 := List.all_eq_true.mp (List.all_eq_true.mp ok x hx) _ h1
  unfold okT at h3
  rw [Bool.and_eq_true] at h3
  obtain ⟨h4, h5⟩ := h3
  refine ⟨i, nx, a, b, c, j, v, ts, ?_, h5, h2⟩
  dsimp only at h4
  cases hd : decode (qbyte m) pc with
  | error z => rw [hd] at h4; cases h4
  | ok z =>
    obtain ⟨i', n⟩ := z
    rw [hd] at h4
    have h4 : (decide (i' = i) && decide (n = nx - pc)) = true := h4
    rw [Bool.and_eq_true, decide_eq_true_eq, decide_eq_true_eq] at h4
    rw [h4.1, h4.2]
theorem qact_grow {m pc : Nat} {ls : List QS} {st : List QV} {h : QH} {q : QN} (e : qact m pc ls st h = some q) : hN h ≤ hN (qh q) ∧ hS h ≤ hS (qh q) := by
  obtain ⟨x, hx, ⟨i, nx, a, b, c, j, v, ts⟩, h1, h2⟩ := lkp2_in _ e
  exact qexec_grow ls st h i nx a b c v ts q h2
theorem qent_inv {f : QF} {d k : Nat} {as : List QV} {h : QH} {r : Option QV × QH} (e : qent f d k as h = some r) : catS as ≤ qmx k ∧ f d k 0 (argL as (qmx k)) [] h = some r ∧ (qrc k ≠ 100 → ∃ p as', as = qR (some p) :: as' ∧ p < hN h ∧ (qrc k = 101 ∨ hT h p = 16 + qrc k)) := by
  unfold qent at e
  obtain ⟨h1, e⟩ := cond_inv e
  refine ⟨Nat.le_of_ble_eq_true h1, ?_⟩
  cases hb : Nat.beq (qrc k) 100
  · rw [hb] at e
    obtain ⟨u, e1, e2⟩ := ob_inv (show ((qrcv (qrc k) as h).bind fun _ => f d k 0 (argL as (qmx k)) [] h) = some r from e)
    refine ⟨e2, fun _ => ?_⟩
    cases as with
    | nil => cases e1
    | cons w as' =>
      rcases w with x | x | o
      · cases e1
      · cases e1
      · obtain ⟨p, rfl, e3⟩ := ob_inv (show (o.bind fun p => qck (qrc k) p h) = some u from e1)
        unfold qck at e3
        split at e3
        · rename_i g
          exact ⟨p, as', rfl, g.1, g.2⟩
        · cases e3
  · rw [hb] at e
    exact ⟨e, fun z => absurd (Nat.eq_of_beq_eq_true hb) z⟩
theorem qrun_grow : ∀ (n d m pc : Nat) (ls : List QS) (st : List QV) (h : QH) (r : Option QV × QH), qrun n d m pc ls st h = some r → hN h ≤ hN r.2 ∧ hS h ≤ hS r.2
  | 0, _, _, _, _, _, _, _, e => by cases e
  | n + 1, d, m, pc, ls, st, h, r, e => by
    have e : qstep (qent (qrun n)) (qrun n) d m pc ls st h = some r := e
    rw [qstep_act] at e
    obtain ⟨q, e1, e2⟩ := ob_inv e
    have hg := qact_grow e1
    rcases q with q | ⟨pc', ls', st', h'⟩ | ⟨k, as, rk, nx, ls', st', h'⟩
    · cases e2
      exact hg
    · have h1 := qrun_grow n d m pc' _ st' h' r e2
      exact ⟨Nat.le_trans hg.1 h1.1, Nat.le_trans hg.2 h1.2⟩
    · cases d with
      | zero => cases e2
      | succ d =>
        have e2 : cAny rk (qent (qrun n) d k as h') (fun vs h => qgo (qrun n) (d + 1) m nx ls' (vs ++ st') h) = some r := e2
        obtain ⟨v, h1, e3, e4, -⟩ := cAny_some e2
        have h2 := qrun_grow n d k 0 _ [] h' (v, h1) (qent_inv e3).2.1
        have h3 := qrun_grow n (d + 1) m nx _ _ h1 r e4
        exact ⟨Nat.le_trans hg.1 (Nat.le_trans h2.1 h3.1), Nat.le_trans hg.2 (Nat.le_trans h2.2 h3.2)⟩
theorem splitA_inv : ∀ (n : Nat) (acc st as rest : List QV), splitA n acc st = some (as, rest) → ∃ w, w.length = n ∧ as = w.reverse ++ acc ∧ st = w ++ rest
  | 0, acc, st, as, rest, h => by cases h; exact ⟨[], rfl, rfl, rfl⟩
  | n + 1, acc, [], as, rest, h => by cases h
  | n + 1, acc, v :: st, as, rest, h => by
    obtain ⟨w, h1, h2, h3⟩ := splitA_inv n (v :: acc) st as rest h
    exact ⟨v :: w, by rw [List.length_cons, h1], by rw [h2]; simp, by rw [h3]; rfl⟩

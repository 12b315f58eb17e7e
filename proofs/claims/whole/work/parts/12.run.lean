noncomputable def qgo (go : QF) (d m pc : Nat) (ls : List QS) (st : List QV) (h : QH) : QO := go d m pc (kl (lkk pc (qkls m)) ls) st h
noncomputable def qdo (call : Nat → Nat → List QV → QH → QO) (go : QF) (d m : Nat) (q : QN) : QO := match q with
  | .inl r => some r
  | .inr (.inl (pc, ls, st, h)) => qgo go d m pc ls st h
  | .inr (.inr (k, as, rk, nx, ls, st, h)) => match d with
    | 0 => none
    | d + 1 => cAny rk (call d k as h) fun vs h => qgo go (d + 1) m nx ls (vs ++ st) h
noncomputable def qstep (call : Nat → Nat → List QV → QH → QO) (go : QF) : QF := fun d m pc ls st h => lkp2 (fun e => qexec (qdo call go d m) ls st h e.1 e.2.1 e.2.2.1 e.2.2.2.1 e.2.2.2.2.1 e.2.2.2.2.2.2.1 e.2.2.2.2.2.2.2) pc (qcode m)
def qck (c a : Nat) (h : QH) : Option Unit := if a < hN h ∧ (c = 101 ∨ hT h a = 16 + c) then some () else none
def qrcv (c : Nat) (as : List QV) (h : QH) : Option Unit := match as with
  | .inr (.inr o) :: _ => o.bind fun p => qck c p h
  | _ => none
noncomputable def qent (f : QF) (d k : Nat) (as : List QV) (h : QH) : QO := cond (Nat.ble (catS as) (qmx k)) (cond (Nat.beq (qrc k) 100) (f d k 0 (argL as (qmx k)) [] h) ((qrcv (qrc k) as h).bind fun _ => f d k 0 (argL as (qmx k)) [] h)) none
noncomputable def qrun : Nat → QF
  | 0 => fun _ _ _ _ _ _ => none
  | n + 1 => qstep (qent (qrun n)) (qrun n)
noncomputable def qbig : QF := fun d m pc ls st h => @dite _ (∃ r, ∃ n, qrun n d m pc ls st h = some r) (Classical.propDecidable _) (fun e => some (Classical.choose e)) (fun _ => none)
noncomputable def qcl (d k : Nat) (as : List QV) (h : QH) : QO := qent qbig d k as h
def inL (n : Nat) : List Nat → Bool
  | [] => false
  | a :: l => cond (Nat.beq n a) true (inL n l)
noncomputable def qseg (call : Nat → Nat → List QV → QH → QO) (rec : QF) (cs : List Nat) : Nat → QF
  | 0 => rec
  | n + 1 => qstep call (fun d m pc ls st h => cond (inL pc cs) (rec d m pc ls st h) (qseg call rec cs n d m pc ls st h))
/-! ===== the run's limit is a fixed point ===== -/
def qnat (F : ∀ β : Type, (QN → Option β) → Option β) : Prop := ∀ (β : Type) (K : QN → Option β), F β K = (F QN some).bind K
theorem qnat_K (q : QN) : qnat (fun _ K => K q) := fun _ _ => rfl
theorem qnat_none : qnat (fun _ _ => none) := fun _ _ => rfl
theorem qnat_eI (w : QV) (F : Int32 → ∀ β : Type, (QN → Option β) → Option β) (h : ∀ x, qnat (F x)) : qnat (fun β K => eI w fun x => F x β K) := by
  intro β K
  rcases w with x | x | x
  · exact h x β K
  · rfl
  · rfl
theorem qnat_eL (w : QV) (F : Int64 → ∀ β : Type, (QN → Option β) → Option β) (h : ∀ x, qnat (F x)) : qnat (fun β K => eL w fun x => F x β K) := by
  intro β K
  rcases w with x | x | x
  · rfl
  · exact h x β K
  · rfl
theorem qnat_eR (w : QV) (F : Option Nat → ∀ β : Type, (QN → Option β) → Option β) (h : ∀ x, qnat (F x)) : qnat (fun β K => eR w fun x => F x β K) := by
  intro β K
  rcases w with x | x | x
  · rfl
  · rfl
  · exact h x β K
theorem qnat_eC (w : QV) (F : ∀ β : Type, (QN → Option β) → Option β) (h : qnat F) : qnat (fun β K => eC w (F β K)) := by
  intro β K
  rcases w with x | x | x
  · exact h β K
  · rfl
  · exact h β K
theorem qnat_eS (s : QS) (F : QV → ∀ β : Type, (QN → Option β) → Option β) (h : ∀ x, qnat (F x)) : qnat (fun β K => eS s fun x => F x β K) := by
  intro β K
  rcases s with _ | x
  · rfl
  · exact h x β K
theorem qnat_e1 (st : List QV) (F : QV → List QV → ∀ β : Type, (QN → Option β) → Option β) (h : ∀ x r, qnat (F x r)) : qnat (fun β K => e1 st fun x r => F x r β K) := by
  intro β K
  cases st with
  | nil => rfl
  | cons x r => exact h x r β K
theorem qnat_e0 (st : List QV) (F : ∀ β : Type, (QN → Option β) → Option β) (h : qnat F) : qnat (fun β K => e0 st (F β K)) := by
  intro β K
  cases st with
  | nil => exact h β K
  | cons x r => rfl
theorem qnat_e2I (st : List QV) (F : Int32 → Int32 → List QV → ∀ β : Type, (QN → Option β) → Option β) (h : ∀ x y r, qnat (F x y r)) : qnat (fun β K => e2I st fun x y r => F x y r β K) :=
  qnat_e1 st _ fun y r => qnat_e1 r _ fun x r => qnat_eI y _ fun y => qnat_eI x _ fun x => h x y r
theorem qnat_e2L (st : List QV) (F : Int64 → Int64 → List QV → ∀ β : Type, (QN → Option β) → Option β) (h : ∀ x y r, qnat (F x y r)) : qnat (fun β K => e2L st fun x y r => F x y r β K) :=
  qnat_e1 st _ fun y r => qnat_e1 r _ fun x r => qnat_eL y _ fun y => qnat_eL x _ fun x => h x y r
theorem qnat_bind {α : Type} (o : Option α) (F : α → ∀ β : Type, (QN → Option β) → Option β) (h : ∀ x, qnat (F x)) : qnat (fun β K => o.bind fun x => F x β K) := by
  intro β K
  cases o with
  | none => rfl
  | some x => exact h x β K
theorem qnat_ite (c : Prop) [Decidable c] (F G : ∀ β : Type, (QN → Option β) → Option β) (hF : qnat F) (hG : qnat G) : qnat (fun β K => if c then F β K else G β K) := by
  intro β K
  by_cases hc : c
  · simp only [if_pos hc]; exact hF β K
  · simp only [if_neg hc]; exact hG β K
theorem qnat_cond (b : Bool) (F G : ∀ β : Type, (QN → Option β) → Option β) (hF : qnat F) (hG : qnat G) : qnat (fun β K => cond b (F β K) (G β K)) := by
  intro β K
  cases b
  · exact hG β K
  · exact hF β K
theorem qnat_sw (x : Int32) (d : Nat) (F : Nat → ∀ β : Type, (QN → Option β) → Option β) (h : ∀ pc, qnat (F pc)) : ∀ ts : List (Int32 × Nat), qnat (fun β K => qsw x (fun pc => F pc β K) d ts)
  | [] => h d
  | q :: l => qnat_ite (x = q.1) _ _ (h q.2) (qnat_sw x d F h l)
set_option maxHeartbeats 4000000 in
theorem qexec_nat (ls : List QS) (st : List QV) (h : QH) (i : Instr) (nx a b c : Nat) (v : Int32) (ts : List (Int32 × Nat)) : qnat (fun _ K => qexec K ls st h i nx a b c v ts) := by
  cases i
  case ifCond q _ => cases q <;> exact qnat_e1 _ _ fun _ _ => qnat_eI _ _ fun _ => qnat_ite _ _ _ (qnat_K _) (qnat_K _)
  case if_icmp q _ => cases q <;> exact qnat_e2I _ _ fun _ _ _ => qnat_ite _ _ _ (qnat_K _) (qnat_K _)
  case tableswitch => exact qnat_e1 _ _ fun _ _ => qnat_eI _ _ fun _ => qnat_sw _ _ (fun pc _ K => K (nGo pc ls _ h)) (fun _ => qnat_K _) _
  all_goals first
    | exact qnat_K _
    | exact qnat_none
    | exact qnat_cond _ _ _ (qnat_K _) (qnat_K _)
    | exact qnat_eS _ _ fun _ => qnat_eI _ _ fun _ => qnat_K _
    | exact qnat_eS _ _ fun _ => qnat_eL _ _ fun _ => qnat_K _
    | exact qnat_eS _ _ fun _ => qnat_eR _ _ fun _ => qnat_K _
    | exact qnat_e1 _ _ fun _ _ => qnat_eI _ _ fun _ => qnat_K _
    | exact qnat_e1 _ _ fun _ _ => qnat_eR _ _ fun _ => qnat_K _
    | exact qnat_e1 _ _ fun _ _ => qnat_eL _ _ fun _ => qnat_K _
    | exact qnat_e2I _ _ fun _ _ _ => qnat_K _
    | exact qnat_e2L _ _ fun _ _ _ => qnat_K _
    | exact qnat_e2I _ _ fun _ _ _ => qnat_ite _ _ _ qnat_none (qnat_K _)
    | exact qnat_e2L _ _ fun _ _ _ => qnat_ite _ _ _ qnat_none (qnat_K _)
    | exact qnat_e1 _ _ fun _ _ => qnat_eC _ _ (qnat_K _)
    | exact qnat_e1 _ _ fun _ _ => qnat_e1 _ _ fun _ _ => qnat_eC _ _ (qnat_eC _ _ (qnat_K _))
    | exact qnat_e1 _ _ fun _ _ => qnat_eR _ _ fun _ => qnat_ite _ _ _ (qnat_K _) (qnat_K _)
    | exact qnat_e1 _ _ fun _ _ => qnat_e0 _ _ (qnat_eI _ _ fun _ => qnat_cond _ _ _ (qnat_K _) (qnat_ite _ _ _ (qnat_K _) qnat_none))
    | exact qnat_e1 _ _ fun _ _ => qnat_e0 _ _ (qnat_eL _ _ fun _ => qnat_K _)
    | exact qnat_e1 _ _ fun _ _ => qnat_e0 _ _ (qnat_eR _ _ fun _ => qnat_K _)
    | exact qnat_e0 _ _ (qnat_K _)
    | exact qnat_e1 _ _ fun _ _ => qnat_eR _ _ fun _ => qnat_bind _ _ fun _ => qnat_cond _ _ _ (qnat_bind _ _ fun _ => qnat_K _) (qnat_bind _ _ fun _ => qnat_K _)
    | exact qnat_e1 _ _ fun _ _ => qnat_e1 _ _ fun _ _ => qnat_eR _ _ fun _ => qnat_bind _ _ fun _ => qnat_cond _ _ _ (qnat_eR _ _ fun _ => qnat_bind _ _ fun _ => qnat_K _) (qnat_eI _ _ fun _ => qnat_cond _ _ _ (qnat_bind _ _ fun _ => qnat_K _) (qnat_bind _ _ fun _ => qnat_K _))
    | exact qnat_e1 _ _ fun _ _ => qnat_eI _ _ fun _ => qnat_e1 _ _ fun _ _ => qnat_eR _ _ fun _ => qnat_bind _ _ fun _ => qnat_bind _ _ fun _ => qnat_K _
    | exact qnat_e2I _ _ fun _ _ _ => qnat_e1 _ _ fun _ _ => qnat_eR _ _ fun _ => qnat_bind _ _ fun _ => qnat_bind _ _ fun _ => qnat_K _
    | exact qnat_e2I _ _ fun _ _ _ => qnat_e1 _ _ fun _ _ => qnat_eR _ _ fun _ => qnat_bind _ _ fun _ => qnat_cond _ _ _ (qnat_bind _ _ fun _ => qnat_K _) (qnat_bind _ _ fun _ => qnat_K _)
    | exact qnat_e1 _ _ fun _ _ => qnat_eR _ _ fun _ => qnat_e1 _ _ fun _ _ => qnat_eI _ _ fun _ => qnat_e1 _ _ fun _ _ => qnat_eR _ _ fun _ => qnat_bind _ _ fun _ => qnat_bind _ _ fun _ => qnat_K _
    | exact qnat_e1 _ _ fun _ _ => qnat_eR _ _ fun _ => qnat_bind _ _ fun _ => qnat_bind _ _ fun _ => qnat_K _
    | exact qnat_e1 _ _ fun _ _ => qnat_eI _ _ fun _ => qnat_bind _ _ fun _ => qnat_K _
    | exact qnat_cond _ _ _ (qnat_e1 _ _ fun _ _ => qnat_eR _ _ fun _ => qnat_bind _ _ fun _ => qnat_cond _ _ _ (qnat_K _) qnat_none) (qnat_bind _ _ fun _ => qnat_cond _ _ _ (qnat_K _) qnat_none)
    | exact qnat_cond _ _ _ (qnat_e1 _ _ fun _ _ => qnat_eR _ _ fun _ => qnat_bind _ _ fun _ => qnat_cond _ _ _ (qnat_bind _ _ fun _ => qnat_K _) qnat_none) (qnat_bind _ _ fun _ => qnat_cond _ _ _ (qnat_K _) qnat_none)
    | exact qnat_cond _ _ _ (qnat_cond _ _ _ (qnat_e2I _ _ fun _ _ _ => qnat_e1 _ _ fun _ _ => qnat_eR _ _ fun _ => qnat_e1 _ _ fun _ _ => qnat_eI _ _ fun _ => qnat_e1 _ _ fun _ _ => qnat_eR _ _ fun _ => qnat_bind _ _ fun _ => qnat_bind _ _ fun _ => qnat_cond _ _ _ (qnat_bind _ _ fun _ => qnat_K _) qnat_none) (qnat_e2I _ _ fun _ _ _ => qnat_cond _ _ _ (qnat_K _) qnat_none)) (qnat_bind _ _ fun _ => qnat_cond _ _ _ (qnat_K _) qnat_none)
theorem lkp_nat {α β : Type} (f : QE → Option α) (K : α → Option β) (pc : Nat) : ∀ l, lkp (fun e => (f e).bind K) pc l = (lkp f pc l).bind K
  | [] => rfl
  | q :: l => by
    simp only [lkp]
    cases Nat.beq pc q.1
    · exact lkp_nat f K pc l
    · rfl
theorem lkp2_nat {α β : Type} (f : QE → Option α) (K : α → Option β) (pc : Nat) : ∀ l, lkp2 (fun e => (f e).bind K) pc l = (lkp2 f pc l).bind K
  | [] => rfl
  | q :: l => by
    simp only [lkp2]
    cases Nat.ble pc q.1
    · exact lkp2_nat f K pc l
    · exact lkp_nat f K pc q.2
/-- one instruction -/
noncomputable def qact (m pc : Nat) (ls : List QS) (st : List QV) (h : QH) : Option QN := lkp2 (fun e => qexec some ls st h e.1 e.2.1 e.2.2.1 e.2.2.2.1 e.2.2.2.2.1 e.2.2.2.2.2.2.1 e.2.2.2.2.2.2.2) pc (qcode m)
theorem qstep_act (call : Nat → Nat → List QV → QH → QO) (go : QF) (d m pc : Nat) (ls : List QS) (st : List QV) (h : QH) : qstep call go d m pc ls st h = (qact m pc ls st h).bind (qdo call go d m) := by
  unfold qstep qact
  rw [← lkp2_nat]
  congr 1
  funext e
  exact qexec_nat ls st h e.1 e.2.1 e.2.2.1 e.2.2.2.1 e.2.2.2.2.1 e.2.2.2.2.2.2.1 e.2.2.2.2.2.2.2 _ _
theorem cI_some {o : QO} {f : Int32 → QH → QO} {r : Option QV × QH} (e : cI o f = some r) : ∃ x h, o = some (some (qI x), h) ∧ f x h = some r := by
  unfold cI at e
  split at e
  · exact ⟨_, _, rfl, e⟩
  · cases e
theorem cL_some {o : QO} {f : Int64 → QH → QO} {r : Option QV × QH} (e : cL o f = some r) : ∃ x h, o = some (some (qL x), h) ∧ f x h = some r := by
  unfold cL at e
  split at e
  · exact ⟨_, _, rfl, e⟩
  · cases e
theorem cR_some {o : QO} {f : Option Nat → QH → QO} {r : Option QV × QH} (e : cR o f = some r) : ∃ x h, o = some (some (qR x), h) ∧ f x h = some r := by
  unfold cR at e
  split at e
  · exact ⟨_, _, rfl, e⟩
  · cases e
theorem cV_some {o : QO} {f : QH → QO} {r : Option QV × QH} (e : cV o f = some r) : ∃ h, o = some (none, h) ∧ f h = some r := by
  unfold cV at e
  split at e
  · exact ⟨_, rfl, e⟩
  · cases e
/-- what stands on the stack behind an answer -/
def vsOf (v : Option QV) : List QV := match v with
  | none => []
  | some x => [x]
def rkOf (rk : Nat) (v : Option QV) : Prop := (rk = 0 ∧ v = none) ∨ (rk = 1 ∧ ∃ x, v = some (qI x)) ∨ (rk = 2 ∧ ∃ x, v = some (qL x)) ∨ (2 < rk ∧ ∃ x, v = some (qR x))
theorem cAny_some {rk : Nat} {o : QO} {f : List QV → QH → QO} {r : Option QV × QH} (e : cAny rk o f = some r) : ∃ v h, o = some (v, h) ∧ f (vsOf v) h = some r ∧ rkOf rk v := by
  unfold cAny at e
  cases h0 : Nat.beq rk 0
  · cases h1 : Nat.beq rk 1
    · cases h2 : Nat.beq rk 2
      · rw [h0, h1, h2] at e
        obtain ⟨x, h, e1, e2⟩ := cR_some e
        have a0 := Nat.ne_of_beq_eq_false h0
        have a1 := Nat.ne_of_beq_eq_false h1
        have a2 := Nat.ne_of_beq_eq_false h2
        exact ⟨_, h, e1, e2, Or.inr (Or.inr (Or.inr ⟨by omega, x, rfl⟩))⟩
      · rw [h0, h1, h2] at e
        obtain ⟨x, h, e1, e2⟩ := cL_some e
        exact ⟨_, h, e1, e2, Or.inr (Or.inr (Or.inl ⟨Nat.eq_of_beq_eq_true h2, x, rfl⟩))⟩
    · rw [h0, h1] at e
      obtain ⟨x, h, e1, e2⟩ := cI_some e
      exact ⟨_, h, e1, e2, Or.inr (Or.inl ⟨Nat.eq_of_beq_eq_true h1, x, rfl⟩)⟩
  · rw [h0] at e
    obtain ⟨h, e1, e2⟩ := cV_some e
    exact ⟨_, h, e1, e2, Or.inl ⟨Nat.eq_of_beq_eq_true h0, rfl⟩⟩
theorem cAny_of {rk : Nat} {v : Option QV} {h : QH} {f : List QV → QH → QO} (k : rkOf rk v) : cAny rk (some (v, h)) f = f (vsOf v) h := by
  rcases k with ⟨rfl, rfl⟩ | ⟨rfl, x, rfl⟩ | ⟨rfl, x, rfl⟩ | ⟨k, x, rfl⟩
  · rfl
  · rfl
  · rfl
  · unfold cAny
    have h0 : Nat.beq rk 0 = false := by
      cases e : Nat.beq rk 0
      · rfl
      · have := Nat.eq_of_beq_eq_true e; omega
    have h1 : Nat.beq rk 1 = false := by
      cases e : Nat.beq rk 1
      · rfl
      · have := Nat.eq_of_beq_eq_true e; omega
    have h2 : Nat.beq rk 2 = false := by
      cases e : Nat.beq rk 2
      · rfl
      · have := Nat.eq_of_beq_eq_true e; omega
    rw [h0, h1, h2]
    rfl
/-- more calls come to an end, more goes do -/
def qle (f g : QF) : Prop := ∀ d m pc ls st h r, f d m pc ls st h = some r → g d m pc ls st h = some r
def qlc (f g : Nat → Nat → List QV → QH → QO) : Prop := ∀ d k as h r, f d k as h = some r → g d k as h = some r
theorem qent_le {f g : QF} (h : qle f g) : qlc (qent f) (qent g) := by
  intro d k as hp r e
  unfold qent at e ⊢
  cases hz : Nat.ble (catS as) (qmx k)
  · rw [hz] at e; cases e
  rw [hz] at e
  cases hb : Nat.beq (qrc k) 100
  · rw [hb] at e
    cases hr : qrcv (qrc k) as hp with
    | none => rw [hr] at e; cases e
    | some u => rw [hr] at e; exact h _ _ _ _ _ _ _ e
  · rw [hb] at e
    exact h _ _ _ _ _ _ _ e
theorem qdo_le {c c' : Nat → Nat → List QV → QH → QO} {g g' : QF} (hc : qlc c c') (hg : qle g g') {d m : Nat} {q : QN} {r : Option QV × QH} (e : qdo c g d m q = some r) : qdo c' g' d m q = some r := by
  rcases q with q | ⟨pc, ls, st, h⟩ | ⟨k, as, rk, nx, ls, st, h⟩
  · exact e
  · exact hg _ _ _ _ _ _ _ e
  · cases d with
    | zero => cases e
    | succ d =>
      have e : cAny rk (c d k as h) (fun vs h => qgo g (d + 1) m nx ls (vs ++ st) h) = some r := e
      obtain ⟨v, h1, e1, e2, e3⟩ := cAny_some e
      show cAny rk (c' d k as h) (fun vs h => qgo g' (d + 1) m nx ls (vs ++ st) h) = some r
      rw [hc _ _ _ _ _ e1, cAny_of e3]
      exact hg _ _ _ _ _ _ _ e2
theorem qstep_le {c c' : Nat → Nat → List QV → QH → QO} {g g' : QF} (hc : qlc c c') (hg : qle g g') : qle (qstep c g) (qstep c' g') := by
  intro d m pc ls st h r e
  rw [qstep_act] at e ⊢
  cases ha : qact m pc ls st h with
  | none => rw [ha] at e; cases e
  | some q => rw [ha] at e; exact qdo_le hc hg e
theorem qrun_le : ∀ n, qle (qrun n) (qrun (n + 1))
  | 0 => fun _ _ _ _ _ _ _ e => by cases e
  | n + 1 => qstep_le (qent_le (qrun_le n)) (qrun_le n)
theorem qrun_mono {n k : Nat} (h : n ≤ k) : qle (qrun n) (qrun k) := by
  induction h with
  | refl => exact fun _ _ _ _ _ _ _ e => e
  | step _ ih => exact fun d m pc ls st h r e => qrun_le _ d m pc ls st h r (ih d m pc ls st h r e)
theorem qbig_of {n d m pc : Nat} {ls : List QS} {st : List QV} {h : QH} {r : Option QV × QH} (e : qrun n d m pc ls st h = some r) : qbig d m pc ls st h = some r := by
  have hx : ∃ r, ∃ n, qrun n d m pc ls st h = some r := ⟨r, n, e⟩
  unfold qbig
  rw [dif_pos hx]
  obtain ⟨k, hk⟩ := Classical.choose_spec hx
  have h1 := qrun_mono (Nat.le_max_left n k) d m pc ls st h r e
  have h2 := qrun_mono (Nat.le_max_right n k) d m pc ls st h _ hk
  exact h2.symm.trans h1
theorem qbig_run {d m pc : Nat} {ls : List QS} {st : List QV} {h : QH} {r : Option QV × QH} (e : qbig d m pc ls st h = some r) : ∃ n, qrun n d m pc ls st h = some r := by
  unfold qbig at e
  by_cases hx : ∃ r, ∃ n, qrun n d m pc ls st h = some r
  · rw [dif_pos hx] at e
    obtain ⟨k, hk⟩ := Classical.choose_spec hx
    exact ⟨k, hk.trans e⟩
  · rw [dif_neg hx] at e
    cases e
theorem qcl_run {d k : Nat} {as : List QV} {h : QH} {r : Option QV × QH} (e : qcl d k as h = some r) : ∃ n, qent (qrun n) d k as h = some r := by
  unfold qcl qent at e
  unfold qent
  cases hz : Nat.ble (catS as) (qmx k)
  · rw [hz] at e; cases e
  rw [hz] at e
  cases hb : Nat.beq (qrc k) 100
  · rw [hb] at e
    cases hr : qrcv (qrc k) as h with
    | none => rw [hr] at e; cases e
    | some u => rw [hr] at e; obtain ⟨n, hn⟩ := qbig_run e; exact ⟨n, hn⟩
  · rw [hb] at e
    obtain ⟨n, hn⟩ := qbig_run e
    exact ⟨n, hn⟩
theorem qbig_fix (d m pc : Nat) (ls : List QS) (st : List QV) (h : QH) : qbig d m pc ls st h = qstep qcl qbig d m pc ls st h := by
  have key : ∀ r, qbig d m pc ls st h = some r ↔ qstep qcl qbig d m pc ls st h = some r := by
    intro r
    constructor
    · intro e
      obtain ⟨n, hn⟩ := qbig_run e
      cases n with
      | zero => cases hn
      | succ n => exact qstep_le (qent_le (fun d m pc ls st h r e => qbig_of e)) (fun d m pc ls st h r e => qbig_of e) _ _ _ _ _ _ _ hn
    · intro e
      rw [qstep_act] at e
      cases ha : qact m pc ls st h with
      | none => rw [ha] at e; cases e
      | some q =>
        rw [ha] at e
        have hs : ∀ n, qdo (qent (qrun n)) (qrun n) d m q = some r → qbig d m pc ls st h = some r := by
          intro n hn
          refine qbig_of (n := n + 1) ?_
          show qstep _ _ d m pc ls st h = some r
          rw [qstep_act, ha]
          exact hn
        rcases q with q | ⟨pc', ls', st', h'⟩ | ⟨k, as, rk, nx, ls', st', h'⟩
        · exact hs 0 e
        · obtain ⟨n, hn⟩ := qbig_run (show qbig d m pc' _ st' h' = some r from e)
          exact hs n hn
        · cases d with
          | zero => cases e
          | succ d =>
            have e : cAny rk (qcl d k as h') (fun vs h => qgo qbig (d + 1) m nx ls' (vs ++ st') h) = some r := e
            obtain ⟨v, h1, e1, e2, e3⟩ := cAny_some e
            obtain ⟨n1, hn1⟩ := qcl_run e1
            obtain ⟨n2, hn2⟩ := qbig_run (show qbig (d + 1) m nx _ _ h1 = some r from e2)
            refine hs (max n1 n2) ?_
            show cAny rk (qent (qrun (max n1 n2)) d k as h') (fun vs h => qgo (qrun (max n1 n2)) (d + 1) m nx ls' (vs ++ st') h) = some r
            rw [qent_le (qrun_mono (Nat.le_max_left n1 n2)) _ _ _ _ _ hn1, cAny_of e3]
            exact qrun_mono (Nat.le_max_right n1 n2) _ _ _ _ _ _ _ hn2
  cases hb : qbig d m pc ls st h with
  | some r => exact ((key r).mp hb).symm
  | none =>
    cases hs : qstep qcl qbig d m pc ls st h with
    | none => rfl
    | some r => rw [(key r).mpr hs] at hb; cases hb
theorem qseg_big (cs : List Nat) : ∀ (n d m pc : Nat) (ls : List QS) (st : List QV) (h : QH), qseg qcl qbig cs n d m pc ls st h = qbig d m pc ls st h
  | 0, _, _, _, _, _, _ => rfl
  | n + 1, d, m, pc, ls, st, h => by
    have e : (fun d m pc ls st h => cond (inL pc cs) (qbig d m pc ls st h) (qseg qcl qbig cs n d m pc ls st h)) = qbig := by
      funext d m pc ls st h
      cases inL pc cs
      · exact qseg_big cs n d m pc ls st h
      · rfl
    show qstep qcl _ d m pc ls st h = _
    rw [e]
    exact (qbig_fix d m pc ls st h).symm
theorem qE {d m pc : Nat} {ls : List QS} {st : List QV} {h : QH} {o : QO} (n : Nat) (cs : List Nat) (e : qseg qcl qbig cs n d m pc ls st h = o) : qbig d m pc ls st h = o := (qseg_big cs n d m pc ls st h).symm.trans e
theorem qE0 {d k : Nat} {as : List QV} {h : QH} {o : QO} (n : Nat) (cs : List Nat) (e : qent (qseg qcl qbig cs n) d k as h = o) : qcl d k as h = o := by
  have hq : qseg qcl qbig cs n = qbig := by
    funext d m pc ls st h
    exact qseg_big cs n d m pc ls st h
  rw [hq] at e
  exact e

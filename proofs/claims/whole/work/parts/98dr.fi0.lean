/-! the first ten cells stay, whatever runs -/
def K10 (h k : QH) : Prop := 10 ≤ hN h → 10 ≤ hN k ∧ ∀ b, b < 10 → k.2.2.1 b = h.2.2.1 b ∧ ∀ j, hI k b j = hI h b j
theorem K10.refl {h : QH} : K10 h h := fun h10 => ⟨h10, fun _ _ => ⟨rfl, fun _ => rfl⟩⟩
theorem K10.trans {h k l : QH} (a : K10 h k) (b : K10 k l) : K10 h l := fun h10 => by
  obtain ⟨a1, a2⟩ := a h10
  obtain ⟨b1, b2⟩ := b a1
  exact ⟨b1, fun x hx => ⟨(b2 x hx).1.trans (a2 x hx).1, fun j => ((b2 x hx).2 j).trans ((a2 x hx).2 j)⟩⟩
theorem K10.sI {h : QH} {a i : Nat} {v : Int32} (ha : 10 ≤ a) : K10 h (hsI h a i v) := fun h10 => ⟨h10, fun b hb => ⟨rfl, fun j => by rw [hI_ne (by omega)]⟩⟩
theorem K10.sR {h : QH} {a i : Nat} {v : Option Nat} : K10 h (hsR h a i v) := fun h10 => ⟨h10, fun _ _ => ⟨rfl, fun _ => rfl⟩⟩
theorem K10.push {h : QH} {t n : Nat} : K10 h (hPush h t n) := fun h10 => by
  have e : hN h = h.1 := rfl
  refine ⟨by show 10 ≤ h.1 + 1; omega, fun b hb => ⟨?_, fun j => ?_⟩⟩
  · show (if b = h.1 then (t, n) else h.2.2.1 b) = _
    rw [if_neg (by omega)]
  · show (if b = h.1 then 0 else h.2.2.2.1 b j) = _
    rw [if_neg (by omega)]
    rfl
def KP (h : QH) (o : QO) : Prop := ∀ r, o = some r → K10 h r.2
theorem KP_none {h : QH} : KP h none := fun r e => by cases e
theorem KP_bind {h : QH} {α : Type} {o : Option α} {f : α → QO} (g : ∀ x, o = some x → KP h (f x)) : KP h (o.bind f) := by
  cases o with
  | none => exact KP_none
  | some x => exact g x rfl
theorem KP_eI {h : QH} {w : QV} {f : Int32 → QO} (g : ∀ x, KP h (f x)) : KP h (eI w f) := by
  unfold eI
  split
  · exact g _
  · exact KP_none
theorem KP_eL {h : QH} {w : QV} {f : Int64 → QO} (g : ∀ x, KP h (f x)) : KP h (eL w f) := by
  unfold eL
  split
  · exact g _
  · exact KP_none
theorem KP_eR {h : QH} {w : QV} {f : Option Nat → QO} (g : ∀ x, KP h (f x)) : KP h (eR w f) := by
  unfold eR
  split
  · exact g _
  · exact KP_none
theorem KP_eC {h : QH} {w : QV} {f : QO} (g : KP h f) : KP h (eC w f) := by
  unfold eC
  split
  · exact KP_none
  · exact g
theorem KP_eS {h : QH} {w : QS} {f : QV → QO} (g : ∀ x, KP h (f x)) : KP h (eS w f) := by
  unfold eS
  split
  · exact g _
  · exact KP_none
theorem KP_e1 {h : QH} {w : List QV} {f : QV → List QV → QO} (g : ∀ x y, KP h (f x y)) : KP h (e1 w f) := by
  unfold e1
  split
  · exact g _ _
  · exact KP_none
theorem KP_e0 {h : QH} {w : List QV} {f : QO} (g : KP h f) : KP h (e0 w f) := by
  unfold e0
  split
  · exact g
  · exact KP_none
theorem KP_e2I {h : QH} {w : List QV} {f : Int32 → Int32 → List QV → QO} (g : ∀ x y z, KP h (f x y z)) : KP h (e2I w f) := KP_e1 fun _ _ => KP_e1 fun _ _ => KP_eI fun _ => KP_eI fun _ => g _ _ _
theorem KP_e2L {h : QH} {w : List QV} {f : Int64 → Int64 → List QV → QO} (g : ∀ x y z, KP h (f x y z)) : KP h (e2L w f) := KP_e1 fun _ _ => KP_e1 fun _ _ => KP_eL fun _ => KP_eL fun _ => g _ _ _
theorem KP_qsw {h : QH} {x : Int32} {f : Nat → QO} {d : Nat} (g : ∀ x, KP h (f x)) : ∀ l, KP h (qsw x f d l)
  | [] => g d
  | q :: l => by
    unfold qsw
    split
    · exact g _
    · exact KP_qsw g l
theorem KP_cond {h : QH} {c : Bool} {x y : QO} (a : KP h x) (b : KP h y) : KP h (cond c x y) := by
  cases c
  · exact b
  · exact a
theorem KP_ite {h : QH} {c : Prop} [Decidable c] {x y : QO} (a : KP h x) (b : KP h y) : KP h (if c then x else y) := by
  split
  · exact a
  · exact b
theorem KP_pr {h : QH} {a b p : Nat} {x : Option Nat} {f : QH → QO} (g : ∀ k, K10 h k → KP h (f k)) : KP h ((qpr a b p x h).bind f) := KP_bind fun k e => by
  unfold qpr at e
  split at e
  · cases e
    exact g _ K10.sR
  · cases e
theorem KP_pi {h : QH} {a b p : Nat} {x : Int32} {f : QH → QO} (g : ∀ k, K10 h k → KP h (f k)) : KP h ((qpi a b p x h).bind f) := KP_bind fun k e => by
  unfold qpi at e
  split at e
  · next w =>
    cases e
    exact g _ (K10.sI w.1.1)
  · cases e
theorem KP_pz {h : QH} {a b p : Nat} {x : Int32} {f : QH → QO} (g : ∀ k, K10 h k → KP h (f k)) : KP h ((qpz a b p x h).bind f) := KP_bind fun k e => by
  unfold qpz at e
  split at e
  · next w =>
    cases e
    exact g _ (K10.sI w.1.1)
  · cases e
theorem KP_si {h : QH} {t p : Nat} {i x : Int32} {f : QH → QO} (g : ∀ k, K10 h k → KP h (f k)) : KP h ((qsi t p i x h).bind f) := KP_bind fun k e => by
  unfold qsi at e
  split at e
  · next w =>
    cases e
    exact g _ (K10.sI w.1.1)
  · cases e
theorem KP_sr {h : QH} {p : Nat} {i : Int32} {x : Option Nat} {f : QH → QO} (g : ∀ k, K10 h k → KP h (f k)) : KP h ((qsr p i x h).bind f) := KP_bind fun k e => by
  unfold qsr at e
  split at e
  · cases e
    exact g _ K10.sR
  · cases e
theorem KP_na {h : QH} {t : Nat} {x : Int32} {f : QH → QO} (g : ∀ k, K10 h k → KP h (f k)) : KP h ((qna t x h).bind f) := KP_bind fun k e => by
  unfold qna at e
  split at e
  · cases e
    exact g _ K10.push
  · cases e
theorem KP_cn {h : QH} {p : Nat} {f : QH → QO} (g : ∀ k, K10 h k → KP h (f k)) : KP h ((qcn p h).bind f) := KP_bind fun k e => by
  unfold qcn at e
  split at e
  · cases e
    apply g
    intro h10
    have e : hN h = h.1 := rfl
    refine ⟨by show 10 ≤ h.1 + 1; omega, fun b hb => ⟨?_, fun j => ?_⟩⟩
    · show (if b = h.1 then _ else h.2.2.1 b) = _
      rw [if_neg (by omega)]
    · show (if b = h.1 then _ else h.2.2.2.1 b j) = _
      rw [if_neg (by omega)]
      rfl
  · cases e
theorem KP_cp {h : QH} {s d : Nat} {sp dp n : Int32} {f : QH → QO} (g : ∀ k, K10 h k → KP h (f k)) : KP h ((qcp s sp d dp n h).bind f) := KP_bind fun k e => by
  unfold qcp at e
  split at e
  · next w =>
    cases e
    apply g
    intro h10
    refine ⟨h10, fun b hb => ⟨rfl, fun j => ?_⟩⟩
    have := w.2.1.1
    first | (show (if b = d then _ else h.2.2.2.1 b j) = _; rw [if_neg (by omega)]; rfl) | (show (if b = d ∧ _ then _ else h.2.2.2.1 b j) = _; rw [if_neg (by omega)]; rfl)
  · cases e
def hpQ (q : QN) : QH := match q with
  | .inl r => r.2
  | .inr (.inl (_, _, _, h)) => h
  | .inr (.inr (_, _, _, _, _, _, h)) => h
theorem KP_exec {K : QN → QO} {h : QH} (g : ∀ q, K10 h (hpQ q) → KP h (K q)) (ls : List QS) (st : List QV) (i : Instr) (nx a b c : Nat) (v : Int32) (ts : List (Int32 × Nat)) : KP h (qexec K ls st h i nx a b c v ts) := by
  cases i
  case ifCond q _ =>
    unfold qexec
    refine KP_e1 fun _ _ => KP_eI fun _ => ?_
    cases q <;> exact KP_ite (g _ K10.refl) (g _ K10.refl)
  case if_icmp q _ =>
    unfold qexec
    refine KP_e2I fun _ _ _ => ?_
    cases q <;> exact KP_ite (g _ K10.refl) (g _ K10.refl)
  all_goals (unfold qexec)
  all_goals (try exact KP_none)
  all_goals (repeat' (first | (apply g; first | exact K10.refl | assumption | exact K10.push) | exact KP_none | apply KP_pr | apply KP_pi | apply KP_pz | apply KP_si | apply KP_sr | apply KP_na | apply KP_cn | apply KP_cp | apply KP_bind | apply KP_eI | apply KP_eL | apply KP_eR | apply KP_eC | apply KP_eS | apply KP_e2I | apply KP_e2L | apply KP_e1 | apply KP_e0 | apply KP_cond | apply KP_ite | (refine KP_qsw ?_ _) | intro _ | split))
theorem KP.tr {h k : QH} {o : QO} (a : K10 h k) (b : KP k o) : KP h o := fun r e => a.trans (b r e)
theorem KP_cV {h k : QH} {o : QO} {f : QH → QO} (a : K10 h k) (p : KP k o) (g : ∀ l, K10 h l → KP h (f l)) : KP h (cV o f) := by
  unfold cV
  split
  · next l => exact g l (a.trans (p _ rfl))
  · exact KP_none
theorem KP_cI {h k : QH} {o : QO} {f : Int32 → QH → QO} (a : K10 h k) (p : KP k o) (g : ∀ x l, K10 h l → KP h (f x l)) : KP h (cI o f) := by
  unfold cI
  split
  · next x l => exact g x l (a.trans (p _ rfl))
  · exact KP_none
theorem KP_cL {h k : QH} {o : QO} {f : Int64 → QH → QO} (a : K10 h k) (p : KP k o) (g : ∀ x l, K10 h l → KP h (f x l)) : KP h (cL o f) := by
  unfold cL
  split
  · next x l => exact g x l (a.trans (p _ rfl))
  · exact KP_none
theorem KP_cR {h k : QH} {o : QO} {f : Option Nat → QH → QO} (a : K10 h k) (p : KP k o) (g : ∀ x l, K10 h l → KP h (f x l)) : KP h (cR o f) := by
  unfold cR
  split
  · next x l => exact g x l (a.trans (p _ rfl))
  · exact KP_none
theorem KP_cAny {h k : QH} {o : QO} {rk : Nat} {f : List QV → QH → QO} (a : K10 h k) (p : KP k o) (g : ∀ x l, K10 h l → KP h (f x l)) : KP h (cAny rk o f) := KP_cond (KP_cV a p fun l q => g _ l q) (KP_cond (KP_cI a p fun _ l q => g _ l q) (KP_cond (KP_cL a p fun _ l q => g _ l q) (KP_cR a p fun _ l q => g _ l q)))
theorem KP_lkp {h : QH} {K : QE → QO} {pc : Nat} (g : ∀ e, KP h (K e)) : ∀ l, KP h (lkp K pc l)
  | [] => KP_none
  | q :: l => KP_cond (g _) (KP_lkp g l)
theorem KP_lkp2 {h : QH} {K : QE → QO} {pc : Nat} (g : ∀ e, KP h (K e)) : ∀ l, KP h (lkp2 K pc l)
  | [] => KP_none
  | q :: l => KP_cond (KP_lkp g _) (KP_lkp2 g l)
theorem KP_ent {f : QF} (g : ∀ d m pc ls st h, KP h (f d m pc ls st h)) (d k : Nat) (as : List QV) (h : QH) : KP h (qent f d k as h) := KP_cond (KP_cond (g _ _ _ _ _ _) (KP_bind fun _ _ => g _ _ _ _ _ _)) KP_none
theorem KP_run : ∀ n d m pc ls st h, KP h (qrun n d m pc ls st h)
  | 0, _, _, _, _, _, _ => KP_none
  | n + 1, d, m, pc, ls, st, h => by
    have ih := KP_run n
    show KP h (lkp2 (fun e => qexec (qdo (qent (qrun n)) (qrun n) d m) ls st h e.1 e.2.1 e.2.2.1 e.2.2.2.1 e.2.2.2.2.1 e.2.2.2.2.2.2.1 e.2.2.2.2.2.2.2) pc (qcode m))
    refine KP_lkp2 (fun e => KP_exec (fun q hq => ?_) _ _ _ _ _ _ _ _ _) _
    rcases q with r | ⟨pc', ls', st', h'⟩ | ⟨k, as, rk, nx, ls', st', h'⟩
    · intro x e
      cases e
      exact hq
    · exact KP.tr hq (ih _ _ _ _ _ _)
    · cases d with
      | zero => exact KP_none
      | succ d =>
        show KP h (cAny rk (qent (qrun n) d k as h') fun vs h => qgo (qrun n) (d + 1) m nx ls' (vs ++ st') h)
        exact KP_cAny hq (KP_ent ih d k as h') fun vs l ql => KP.tr ql (by
          unfold qgo
          exact ih _ _ _ _ _ _)
theorem KP_big (d m pc : Nat) (ls : List QS) (st : List QV) (h : QH) : KP h (qbig d m pc ls st h) := by
  unfold qbig
  split
  · next e =>
    intro r er
    obtain ⟨n, hn⟩ := Classical.choose_spec e
    have : Classical.choose e = r := Option.some.inj er
    rw [this] at hn
    exact KP_run n d m pc ls st h r hn
  · exact KP_none
/-- a call leaves the first ten cells -/
theorem KP_cl (d k : Nat) (as : List QV) (h : QH) : KP h (qcl d k as h) := KP_ent KP_big d k as h

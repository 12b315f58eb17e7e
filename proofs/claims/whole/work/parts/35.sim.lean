/-! ===== one instruction of the small machine is one of the real one ===== -/
theorem e1_inv {β : Type} {st : List QV} {f : QV → List QV → Option β} {q : β} (h : e1 st f = some q) : ∃ v r, st = v :: r ∧ f v r = some q := by
  cases st with
  | nil => cases h
  | cons v r => exact ⟨v, r, rfl, h⟩
theorem e0_inv {β : Type} {st : List QV} {f : Option β} {q : β} (h : e0 st f = some q) : st = [] ∧ f = some q := by
  cases st with
  | nil => exact ⟨rfl, h⟩
  | cons v r => cases h
theorem eI_inv {β : Type} {w : QV} {f : Int32 → Option β} {q : β} (h : eI w f = some q) : ∃ x, w = qI x ∧ f x = some q := by
  rcases w with x | x | x
  · exact ⟨x, rfl, h⟩
  · cases h
  · cases h
theorem eL_inv {β : Type} {w : QV} {f : Int64 → Option β} {q : β} (h : eL w f = some q) : ∃ x, w = qL x ∧ f x = some q := by
  rcases w with x | x | x
  · cases h
  · exact ⟨x, rfl, h⟩
  · cases h
theorem eR_inv {β : Type} {w : QV} {f : Option Nat → Option β} {q : β} (h : eR w f = some q) : ∃ x, w = qR x ∧ f x = some q := by
  rcases w with x | x | x
  · cases h
  · cases h
  · exact ⟨x, rfl, h⟩
theorem eC_inv {β : Type} {w : QV} {f : Option β} {q : β} (h : eC w f = some q) : (∀ x, w ≠ qL x) ∧ f = some q := by
  rcases w with x | x | x
  · exact ⟨(fun y e => by cases e), h⟩
  · cases h
  · exact ⟨(fun y e => by cases e), h⟩
theorem eS_inv {β : Type} {s : QS} {f : QV → Option β} {q : β} (h : eS s f = some q) : ∃ v, s = some v ∧ f v = some q := by
  cases s with
  | none => cases h
  | some v => exact ⟨v, rfl, h⟩
theorem e2I_inv {β : Type} {st : List QV} {f : Int32 → Int32 → List QV → Option β} {q : β} (h : e2I st f = some q) : ∃ x y r, st = qI y :: qI x :: r ∧ f x y r = some q := by
  obtain ⟨w, r1, e1, h1⟩ := e1_inv h
  obtain ⟨u, r2, e2, h2⟩ := e1_inv h1
  obtain ⟨y, e3, h3⟩ := eI_inv h2
  obtain ⟨x, e4, h4⟩ := eI_inv h3
  exact ⟨x, y, r2, by rw [e1, e2, e3, e4], h4⟩
theorem e2L_inv {β : Type} {st : List QV} {f : Int64 → Int64 → List QV → Option β} {q : β} (h : e2L st f = some q) : ∃ x y r, st = qL y :: qL x :: r ∧ f x y r = some q := by
  obtain ⟨w, r1, e1, h1⟩ := e1_inv h
  obtain ⟨u, r2, e2, h2⟩ := e1_inv h1
  obtain ⟨y, e3, h3⟩ := eL_inv h2
  obtain ⟨x, e4, h4⟩ := eL_inv h3
  exact ⟨x, y, r2, by rw [e1, e2, e3, e4], h4⟩
theorem ob_inv {α β : Type} {o : Option α} {f : α → Option β} {q : β} (h : o.bind f = some q) : ∃ x, o = some x ∧ f x = some q := by
  cases o with
  | none => cases h
  | some x => exact ⟨x, rfl, h⟩
theorem cond_inv {β : Type} {b : Bool} {f : Option β} {q : β} (h : cond b f none = some q) : b = true ∧ f = some q := by
  cases b
  · cases h
  · exact ⟨rfl, h⟩
def FC (p : Program) (R : Room) (s : State) (mi : MethodId) (meth : Method) (c : Code) (D : va_G) (cA : Nat → ClassId) (ad : Nat → Nat) (H0 : Heap) (L : Nat) (xs : Nat → Int32) (d m : Nat) (hs hf : QH) : Prop :=
  p.tables.exec = Jvm.exec ∧ c.code = qbyte m ∧ c.maxLocals = qmx m ∧ s.vm.findClass (qname m).cls = some mi.cls ∧ meth.sig.returnType = qret m ∧ meth.locks = false ∧ ((qname m).name = "<init>" → meth.name = "<init>") ∧ qKK D cA ad H0 L xs s ∧
  (s.heap.size = H0.size + (hN hs - 10) ∧ 10 ≤ hN hs ∧ ∀ q : Nat, q < H0.size → s.heap[q]? = H0[q]?) ∧ (d + 1 ≤ R.frames ∧ 200 * (d + 1) ≤ R.locals) ∧ (hN hf - hN hs ≤ R.cells ∧ hS hf - hS hs ≤ R.slots) ∧ qad H0 ad
def SW (p : Program) (l : Launch) (e : Env) (R : Room) (s : State) (mi : MethodId) (args : Array Value) (below : List Frame) (meth : Method) (c : Code) (Q : State → Prop) (D : va_G) (cA : Nat → ClassId) (ad : Nat → Nat) (H0 : Heap) (L : Nat) (xs : Nat → Int32) (m : Nat) (hs : QH) (pc : Nat) (ls : List QS) (st : List QV) (h : QH) : Prop :=
  ∀ (H : Heap) (locs : List Loc) (rl : Array Slot), qRel D cA ad H0 L xs h H → lv_has rl (qmx m) (lfac ad 0 ls) → (∀ q ∈ locs, H0.size ≤ q.base) → W p l e R s mi args below meth c H locs (hN h - hN hs) (hS h - hS hs) Q (F0 mi pc rl (st.map (qrz ad)))
section QSIM
variable {p : Program} {l : Launch} {e : Env} {R : Room} {s : State} {mi : MethodId} {args : Array Value} {below : List Frame} {meth : Method} {c : Code} {Q : State → Prop} {D : va_G} {cA : Nat → ClassId} {ad : Nat → Nat} {H0 : Heap} {L : Nat} {xs : Nat → Int32} {d m : Nat} {hs hf : QH}
theorem W_size {H : Heap} {locs : List Loc} {cells slots : Nat} {g : JFrame} (k : H.size ≤ s.heap.size + cells → W p l e R s mi args below meth c H locs cells slots Q g) : W p l e R s mi args below meth c H locs cells slots Q g := by
  intro T hT X
  have := X.heapSize
  rw [hT] at this
  exact k this T hT X
theorem SW_kill (ks : List Nat) {pc : Nat} {ls : List QS} {st : List QV} {h : QH} (k : SW p l e R s mi args below meth c Q D cA ad H0 L xs m hs pc (kl ks ls) st h) : SW p l e R s mi args below meth c Q D cA ad H0 L xs m hs pc ls st h := fun H locs rl h1 h2 h3 => k H locs rl h1 (lfac_kl ks h2) h3
theorem qS_of (F : FC p R s mi meth c D cA ad H0 L xs d m hs hf) {h : QH} {H : Heap} {locs : List Loc} (hR : qRel D cA ad H0 L xs h H) (hn : hN hs ≤ hN h) (hq : ∀ q ∈ locs, H0.size ≤ q.base) : va_S (fun q => H0.size ≤ q) s.heap H locs := by
  obtain ⟨-, -, -, -, -, -, -, -, ⟨f1, f2, f3⟩, -, -, -⟩ := F
  refine ⟨by rw [f1, hR.1]; omega, fun q h1 h2 => ?_, hq⟩
  have h2 : q < H0.size := Nat.not_le.mp h2
  rw [hR.2.2.1 q h2, f3 q h2]
theorem qS_self {h : QH} {H : Heap} {locs : List Loc} (hq : ∀ q ∈ locs, H0.size ≤ q.base) : va_S (fun q => H0.size ≤ q) H H locs := ⟨Nat.le_refl _, fun _ _ _ => rfl, hq⟩
/-- behind a store -/
theorem qRel_set (F : FC p R s mi meth c D cA ad H0 L xs d m hs hf) {h h' : QH} {H H1 : Heap} {a : Nat} {en : va_E} {locs1 : List Loc} (hR : qRel D cA ad H0 L xs h H) (ha : 10 ≤ a) (hb : a < hN h) (hn : hN h' = hN h) (hss : hN hs ≤ hN h) (hsz : H1.size ≤ s.heap.size + (hN h - hN hs))
    (he : en = qce cA ad h' a) (ho : ∀ b, b ≠ a → qce cA ad h' b = qce cA ad h b) (hro : qRO L xs h → qRO L xs h') (hP : va_P D vwCl ((qws cA ad h).set (a - 10) (ad a, en)) H1) (hS : va_S (fun q => H0.size ≤ q) H H1 locs1) : qRel D cA ad H0 L xs h' H1 := by
  obtain ⟨-, -, -, -, -, -, -, -, ⟨f1, f2, f3⟩, -, -, -⟩ := F
  obtain ⟨r1, r2, r3, r4, r5⟩ := hR
  subst he
  rw [qws_set ha hb hn ho] at hP
  have h9 := hS.1
  refine ⟨by rw [hn]; omega, by rw [hn]; exact r2, fun q hq => ?_, hP, hro r5⟩
  rw [hS.2.1 q (by omega) (Nat.not_le.mpr hq), r3 q hq]
/-- behind a making -/
theorem qRel_push (F : FC p R s mi meth c D cA ad H0 L xs d m hs hf) {h h' : QH} {H H1 : Heap} {q0 : Nat} {en : va_E} {locs1 : List Loc} (hR : qRel D cA ad H0 L xs h H) (hn : hN h' = hN h + 1) (hss : hN hs ≤ hN h) (hsz : H1.size ≤ s.heap.size + (hN h - hN hs + 1))
    (he : en = qce cA ad h' (hN h)) (ho : ∀ b, b < hN h → qce cA ad h' b = qce cA ad h b) (hro : qRO L xs h → qRO L xs h') (hP : va_P D vwCl (qws cA ad h ++ [(q0, en)]) H1) (hD : va_D (fun q => H0.size ≤ q) (qws cA ad h ++ [(q0, en)])) (hS : va_S (fun q => H0.size ≤ q) H H1 locs1) : q0 = ad (hN h) ∧ qRel D cA ad H0 L xs h' H1 := by
  obtain ⟨-, -, -, -, -, -, -, -, ⟨f1, f2, f3⟩, -, -, had⟩ := F
  obtain ⟨r1, r2, r3, r4, r5⟩ := hR
  have hl : (qws cA ad h).length = hN h - 10 := by simp [qws]
  have hlast : (qws cA ad h ++ [(q0, en)])[hN h - 10]? = some (q0, en) := by rw [List.getElem?_append_right (by omega), hl, Nat.sub_self]; rfl
  have hlt : q0 < H1.size := (hP _ _ hlast).lt
  have hge : H0.size ≤ q0 := hD.2 _ _ hlast
  have hne : ∀ i, i < hN h - 10 → q0 ≠ H0.size + i := by
    intro i hi e
    have h1 : (qws cA ad h ++ [(q0, en)])[i]? = some (ad (i + 10), qce cA ad h (i + 10)) := by
      rw [List.getElem?_append_left (by omega)]
      have := qws_at (cA := cA) (ad := ad) (h := h) (a := i + 10) (by omega) (by omega)
      rw [Nat.add_sub_cancel] at this
      exact this
    have h2 := hD.1 i (hN h - 10) _ _ h1 hlast (by show ad (i + 10) = q0; rw [had (i + 10) (by omega), e]; omega)
    omega
  have hq0 : q0 = H0.size + (hN h - 10) := by
    by_cases h1 : q0 - H0.size < hN h - 10
    · exact absurd (by omega) (hne (q0 - H0.size) h1)
    · omega
  have hq1 : q0 = ad (hN h) := by rw [had (hN h) r2]; exact hq0
  refine ⟨hq1, ?_⟩
  subst he
  rw [hq1, qws_push r2 hn ho] at hP
  have h9 := hS.1
  refine ⟨by rw [hn]; omega, by rw [hn]; omega, fun q hq => ?_, hP, hro r5⟩
  rw [hS.2.1 q (by omega) (Nat.not_le.mpr hq), r3 q hq]
end QSIM
/-! cells of a heap that was changed -/
theorem hT_hsI (h : QH) (a i : Nat) (v : Int32) (b : Nat) : hT (hsI h a i v) b = hT h b := rfl
theorem hL_hsI (h : QH) (a i : Nat) (v : Int32) (b : Nat) : hL (hsI h a i v) b = hL h b := rfl
theorem hR_hsI (h : QH) (a i : Nat) (v : Int32) : hR (hsI h a i v) = hR h := rfl
theorem hI_hsI (h : QH) (a i : Nat) (v : Int32) : hI (hsI h a i v) = up2 (hI h) a i v := rfl
theorem hT_hsR (h : QH) (a i : Nat) (v : Option Nat) (b : Nat) : hT (hsR h a i v) b = hT h b := rfl
theorem hL_hsR (h : QH) (a i : Nat) (v : Option Nat) (b : Nat) : hL (hsR h a i v) b = hL h b := rfl
theorem hI_hsR (h : QH) (a i : Nat) (v : Option Nat) : hI (hsR h a i v) = hI h := rfl
theorem hR_hsR (h : QH) (a i : Nat) (v : Option Nat) : hR (hsR h a i v) = up2 (hR h) a i v := rfl
theorem up2_o {α : Type} (f : Nat → Nat → α) (a i : Nat) (v : α) {b : Nat} (hb : b ≠ a) : up2 f a i v b = f b := by
  funext j
  unfold up2
  rw [if_neg (fun q => hb q.1)]
theorem up2_s (f : Nat → Nat → Int32) (a i : Nat) (v : Int32) : up2 f a i v a = upd (f a) i v := by
  funext j
  unfold up2 upd
  by_cases hj : j = i
  · rw [if_pos ⟨rfl, hj⟩, if_pos hj]
  · rw [if_neg (fun q => hj q.2), if_neg hj]
theorem qce_I {cA : Nat → ClassId} {ad : Nat → Nat} {h : QH} {a i : Nat} {v : Int32} : ∀ b, b ≠ a → qce cA ad (hsI h a i v) b = qce cA ad h b := by
  intro b hb
  unfold qce
  have e : qfv ad (hsI h a i v) b = qfv ad h b := by
    funext k j
    simp only [qfv, hR_hsI, hI_hsI, up2_o _ _ _ _ hb]
  simp only [hT_hsI, hL_hsI, hR_hsI, hI_hsI, up2_o _ _ _ _ hb, e]
theorem qce_R {cA : Nat → ClassId} {ad : Nat → Nat} {h : QH} {a i : Nat} {v : Option Nat} : ∀ b, b ≠ a → qce cA ad (hsR h a i v) b = qce cA ad h b := by
  intro b hb
  unfold qce
  have e : qfv ad (hsR h a i v) b = qfv ad h b := by
    funext k j
    simp only [qfv, hR_hsR, hI_hsR, up2_o _ _ _ _ hb]
  simp only [hT_hsR, hL_hsR, hR_hsR, hI_hsR, up2_o _ _ _ _ hb, e]
theorem qRO_I {L : Nat} {xs : Nat → Int32} {h : QH} {a i : Nat} {v : Int32} (ha : 10 ≤ a) (q : qRO L xs h) : qRO L xs (hsI h a i v) := by
  intro k hk
  obtain ⟨h1, h2, h3⟩ := q k hk
  refine ⟨h1, fun j => ?_, h3⟩
  rw [hI_hsI, up2_o _ _ _ _ (by omega)]
  exact h2 j
theorem qRO_R {L : Nat} {xs : Nat → Int32} {h : QH} {a i : Nat} {v : Option Nat} (ha : 10 ≤ a) (q : qRO L xs h) : qRO L xs (hsR h a i v) := by
  intro k hk
  obtain ⟨h1, h2, h3⟩ := q k hk
  refine ⟨h1, h2, fun j => ?_⟩
  rw [hR_hsR, up2_o _ _ _ _ (by omega)]
  exact h3 j
theorem qce_arr {cA : Nat → ClassId} {ad : Nat → Nat} {h : QH} {a t : Nat} (ht : hT h a = t) (h4 : t < 4) : qce cA ad h a = .inl (cA t, hL h a, .inl (hI h a)) := by
  unfold qce
  rw [ht, if_pos h4]
theorem qce_ref {cA : Nat → ClassId} {ad : Nat → Nat} {h : QH} {a t : Nat} (ht : hT h a = t) (h4 : t = 4 ∨ t = 5) : qce cA ad h a = .inl (cA t, hL h a, .inr (.inr (.inr (.inr (fun j => (hR h a j).map ad))))) := by
  unfold qce
  rw [ht, if_neg (by omega), if_pos (by omega)]
theorem qce_obj {cA : Nat → ClassId} {ad : Nat → Nat} {h : QH} {a k : Nat} (ht : hT h a = 16 + k) : qce cA ad h a = .inr (k, (List.range (hL h a)).map (qfv ad h a k)) := by
  unfold qce
  rw [ht, if_neg (by omega), if_neg (by omega), Nat.add_sub_cancel_left]
/-- a store in an array of numbers -/
theorem qce_sI {cA : Nat → ClassId} {ad : Nat → Nat} {h : QH} {a t i : Nat} {v : Int32} (ht : hT h a = t) (h4 : t < 4) : qce cA ad (hsI h a i v) a = .inl (cA t, hL h a, .inl (upd (hI h a) i v)) := by
  rw [qce_arr (h := hsI h a i v) (t := t) (by rw [hT_hsI]; exact ht) h4, hL_hsI, hI_hsI, up2_s]
theorem qce_sR {cA : Nat → ClassId} {ad : Nat → Nat} {h : QH} {a t i : Nat} {v : Option Nat} (ht : hT h a = t) (h4 : t = 4 ∨ t = 5) : qce cA ad (hsR h a i v) a = .inl (cA t, hL h a, .inr (.inr (.inr (.inr (va_up (fun j => (hR h a j).map ad) i (v.map ad)))))) := by
  rw [qce_ref (h := hsR h a i v) (t := t) (by rw [hT_hsR]; exact ht) h4, hL_hsR]
  congr 7
  funext j
  rw [hR_hsR]
  unfold up2 va_up
  by_cases hj : j = i
  · rw [if_pos ⟨rfl, hj⟩, if_pos hj]
  · rw [if_neg (fun q => hj q.2), if_neg hj]
theorem map_range_set {α : Type} {n k : Nat} {f g : Nat → α} {v : α} (hv : g k = v) (ho : ∀ j, j ≠ k → g j = f j) : ((List.range n).map f).set k v = (List.range n).map g := by
  apply List.ext_getElem?
  intro j
  by_cases hj : j = k
  · subst hj
    by_cases hl : j < n
    · rw [List.getElem?_set_self (by simpa using hl), List.getElem?_map, List.getElem?_range hl, ← hv]
      rfl
    · rw [List.getElem?_eq_none (by simp; omega), List.getElem?_eq_none (by simp; omega)]
  · rw [List.getElem?_set_ne (Ne.symm hj), List.getElem?_map, List.getElem?_map]
    cases hr : (List.range n)[j]? with
    | none => rfl
    | some i =>
      have : i = j := by
        obtain ⟨hlt, e⟩ := List.getElem?_eq_some_iff.mp hr
        rw [List.getElem_range] at e
        exact e.symm
      subst this
      show some (f i) = some (g i)
      rw [ho i hj]
theorem qce_fI {cA : Nat → ClassId} {ad : Nat → Nat} {h : QH} {a k i : Nat} {v : Int32} (ht : hT h a = 16 + k) (hf : qfr k i = false) : qce cA ad (hsI h a i v) a = .inr (k, ((List.range (hL h a)).map (qfv ad h a k)).set i (.int v)) := by
  rw [qce_obj (h := hsI h a i v) (k := k) (by rw [hT_hsI]; exact ht), hL_hsI]
  rw [map_range_set (g := qfv ad (hsI h a i v) a k)]
  · simp [qfv, hf, hI_hsI, up2]
  · intro j hj
    simp [qfv, hR_hsI, hI_hsI, up2, hj]
theorem qce_fR {cA : Nat → ClassId} {ad : Nat → Nat} {h : QH} {a k i : Nat} {v : Option Nat} (ht : hT h a = 16 + k) (hf : qfr k i = true) : qce cA ad (hsR h a i v) a = .inr (k, ((List.range (hL h a)).map (qfv ad h a k)).set i (va_rf (v.map ad))) := by
  rw [qce_obj (h := hsR h a i v) (k := k) (by rw [hT_hsR]; exact ht), hL_hsR]
  rw [map_range_set (g := qfv ad (hsR h a i v) a k)]
  · simp [qfv, hf, hR_hsR, up2]
  · intro j hj
    simp [qfv, hR_hsR, hI_hsR, up2, hj]

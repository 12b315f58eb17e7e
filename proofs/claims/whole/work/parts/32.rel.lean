/-! ===== the small machine beside the real one ===== -/
/-- a value as the machine has it -/
def qrz (ad : Nat → Nat) : QV → Value
  | .inl x => .int x
  | .inr (.inl x) => .long x
  | .inr (.inr o) => va_rf (o.map ad)
/-- what is known of the locals -/
def lfac (ad : Nat → Nat) : Nat → List QS → List (Nat × Value)
  | _, [] => []
  | k, some v :: l => (k, qrz ad v) :: lfac ad (k + 1) l
  | k, none :: l => lfac ad (k + 1) l
theorem mem_lfac {ad : Nat → Nat} {q : Nat × Value} : ∀ {ls : List QS} {k : Nat}, q ∈ lfac ad k ls ↔ ∃ i v, q.1 = k + i ∧ nthL ls i = some v ∧ q.2 = qrz ad v
  | [], k => by simp [lfac, nthL]
  | none :: l, k => by
    show q ∈ lfac ad (k + 1) l ↔ _
    rw [mem_lfac]
    constructor
    · rintro ⟨i, v, h1, h2, h3⟩
      exact ⟨i + 1, v, by omega, h2, h3⟩
    · rintro ⟨i, v, h1, h2, h3⟩
      cases i with
      | zero => cases h2
      | succ i => exact ⟨i, v, by omega, h2, h3⟩
  | some w :: l, k => by
    show q ∈ (k, qrz ad w) :: lfac ad (k + 1) l ↔ _
    rw [List.mem_cons, mem_lfac]
    constructor
    · rintro (h | ⟨i, v, h1, h2, h3⟩)
      · exact ⟨0, w, by rw [h]; rfl, rfl, by rw [h]⟩
      · exact ⟨i + 1, v, by omega, h2, h3⟩
    · rintro ⟨i, v, h1, h2, h3⟩
      cases i with
      | zero =>
        left
        have hw : w = v := by simpa [nthL] using h2
        subst hw
        exact Prod.ext (by simpa using h1) h3
      | succ i => exact Or.inr ⟨i, v, by omega, h2, h3⟩
theorem lfac_at {ad : Nat → Nat} {rl : Array Slot} {nL : Nat} {ls : List QS} (hl : lv_has rl nL (lfac ad 0 ls)) {k : Nat} {v : QV} (h : nthL ls k = some v) : rl[k]? = some (.val (qrz ad v)) :=
  hl.2.2 (k, qrz ad v) (mem_lfac.mpr ⟨k, v, by simp, h, rfl⟩)
theorem nthL_setL : ∀ (ls : List QS) (k : Nat) (v : QS) (j : Nat), nthL (setL ls k v) j = if j = k ∧ k < ls.length then v else nthL ls j
  | [], k, v, j => by simp [setL, nthL]
  | a :: l, 0, v, j => by
    cases j with
    | zero => simp [setL, nthL]
    | succ j => simp [setL, nthL]
  | a :: l, k + 1, v, j => by
    cases j with
    | zero => simp [setL, nthL]
    | succ j => simp [setL, nthL, nthL_setL l k v j]
theorem setL_length : ∀ (ls : List QS) (k : Nat) (v : QS), (setL ls k v).length = ls.length
  | [], _, _ => rfl
  | _ :: _, 0, _ => rfl
  | _ :: l, k + 1, v => by simp [setL, setL_length l k v]
theorem nthL_setN {ls : List QS} {k j : Nat} {v : QV} (h : nthL (setL ls k none) j = some v) : nthL ls j = some v ∧ (j = k → False) := by
  rw [nthL_setL] at h
  split at h
  · cases h
  · rename_i hn
    refine ⟨h, fun e => ?_⟩
    subst e
    have hl : ¬ j < ls.length := fun q => hn ⟨rfl, q⟩
    have : ∀ (l : List QS) (j : Nat), ¬ j < l.length → nthL l j = none := by
      intro l
      induction l with
      | nil => intro j _; rfl
      | cons a l ih =>
        intro j hj
        cases j with
        | zero => exact absurd (Nat.succ_pos _) hj
        | succ j => exact ih j (fun q => hj (Nat.succ_lt_succ q))
    rw [this ls j hl] at h
    cases h
theorem nthL_preL {ls : List QS} {k j : Nat} {v : QV} (h : nthL (preL ls k) j = some v) (hj : ¬ j = k) : nthL ls j = some v ∧ (j + 1 = k → ∀ x, v ≠ qL x) := by
  unfold preL at h
  cases hb : isLng (nthL ls (k - 1))
  · rw [hb] at h
    refine ⟨h, fun e x hx => ?_⟩
    subst e; subst hx
    have h : nthL ls j = some (qL x) := h
    have hb : isLng (nthL ls j) = false := hb
    rw [h] at hb
    cases hb
  · rw [hb] at h
    obtain ⟨h1, h2⟩ := nthL_setN (show nthL (setL ls (k - 1) none) j = some v from h)
    exact ⟨h1, fun e => absurd (by omega) h2⟩
theorem nthL_st1 {ls : List QS} {k j : Nat} {v w : QV} (h : nthL (st1 ls k v) j = some w) : (j = k ∧ w = v) ∨ (¬ j = k ∧ nthL ls j = some w ∧ (j + 1 = k → ∀ x, w ≠ qL x)) := by
  unfold st1 at h
  rw [nthL_setL] at h
  by_cases e : j = k
  · subst e
    split at h
    · exact Or.inl ⟨rfl, (Option.some.inj h).symm⟩
    · rename_i hn
      exfalso
      have hl : ¬ j < (preL ls j).length := fun q => hn ⟨rfl, q⟩
      have h9 := (nthL_setN (ls := preL ls j) (k := j) (j := j) (v := w) (by rw [nthL_setL, if_neg (fun q => hl q.2)]; exact h)).2
      exact h9 rfl
  · rw [if_neg (fun q => e q.1)] at h
    obtain ⟨h1, h2⟩ := nthL_preL h e
    exact Or.inr ⟨e, h1, h2⟩
theorem qrz_cat {ad : Nat → Nat} {v : QV} (h : ∀ x, v ≠ qL x) : (qrz ad v).category = 1 := by
  rcases v with x | x | x
  · rfl
  · exact absurd rfl (h x)
  · cases x <;> rfl
theorem lfac_st1 {ad : Nat → Nat} {rl : Array Slot} {nL : Nat} {ls : List QS} {k : Nat} {v : QV} {w : Value} (hw : w = qrz ad v) (h : lv_has rl nL ((k, w) :: (lfac ad 0 ls).filter (fun q => !(q.1 == k) && !(q.1 + 1 == k && q.2.category == 2)))) : lv_has rl nL (lfac ad 0 (st1 ls k v)) := by
  refine ⟨h.1, h.2.1, fun q hq => ?_⟩
  obtain ⟨j, u, h1, h2, h3⟩ := mem_lfac.mp hq
  have h1 : q.1 = j := by omega
  rcases nthL_st1 h2 with ⟨e1, e2⟩ | ⟨e1, e2, e3⟩
  · refine h.2.2 q (List.mem_cons.mpr (Or.inl (Prod.ext (h1.trans e1) (by rw [h3, e2, hw]))))
  · refine h.2.2 q (List.mem_cons.mpr (Or.inr (List.mem_filter.mpr ⟨mem_lfac.mpr ⟨j, u, by omega, e2, h3⟩, ?_⟩)))
    rw [h1, h3]
    simp only [Bool.and_eq_true, Bool.not_eq_true', beq_eq_false_iff_ne, ne_eq, Bool.and_eq_false_iff]
    refine ⟨e1, ?_⟩
    by_cases e : j + 1 = k
    · right
      rw [qrz_cat (e3 e)]
      decide
    · exact Or.inl e
theorem nthL_st2 {ls : List QS} {k j : Nat} {v w : QV} (h : nthL (st2 ls k v) j = some w) : (j = k ∧ w = v) ∨ (¬ j = k ∧ ¬ j = k + 1 ∧ nthL ls j = some w ∧ (j + 1 = k → ∀ x, w ≠ qL x)) := by
  obtain ⟨h1, h2⟩ := nthL_setN (show nthL (setL (st1 ls k v) (k + 1) none) j = some w from h)
  rcases nthL_st1 h1 with h3 | ⟨h3, h4, h5⟩
  · exact Or.inl h3
  · exact Or.inr ⟨h3, h2, h4, h5⟩
theorem lfac_st2 {ad : Nat → Nat} {rl : Array Slot} {nL : Nat} {ls : List QS} {k : Nat} {v : QV} {w : Value} (hw : w = qrz ad v) (h : lv_has rl nL ((k, w) :: (lfac ad 0 ls).filter (fun q => !(q.1 == k) && (!(q.1 == k + 1) && !(q.1 + 1 == k && q.2.category == 2))))) : lv_has rl nL (lfac ad 0 (st2 ls k v)) := by
  refine ⟨h.1, h.2.1, fun q hq => ?_⟩
  obtain ⟨j, u, h1, h2, h3⟩ := mem_lfac.mp hq
  have h1 : q.1 = j := by omega
  rcases nthL_st2 h2 with ⟨e1, e2⟩ | ⟨e1, e4, e2, e3⟩
  · refine h.2.2 q (List.mem_cons.mpr (Or.inl (Prod.ext (h1.trans e1) (by rw [h3, e2, hw]))))
  · refine h.2.2 q (List.mem_cons.mpr (Or.inr (List.mem_filter.mpr ⟨mem_lfac.mpr ⟨j, u, by omega, e2, h3⟩, ?_⟩)))
    rw [h1, h3]
    simp only [Bool.and_eq_true, Bool.not_eq_true', beq_eq_false_iff_ne, ne_eq, Bool.and_eq_false_iff]
    refine ⟨e1, e4, ?_⟩
    by_cases e : j + 1 = k
    · right
      rw [qrz_cat (e3 e)]
      decide
    · exact Or.inl e
theorem lfac_kl {ad : Nat → Nat} {rl : Array Slot} {nL : Nat} : ∀ (ks : List Nat) {ls : List QS}, lv_has rl nL (lfac ad 0 ls) → lv_has rl nL (lfac ad 0 (kl ks ls))
  | [], _, h => h
  | k :: ks, ls, h => by
    refine lfac_kl ks (ls := setL ls k none) ⟨h.1, h.2.1, fun q hq => ?_⟩
    obtain ⟨j, u, h1, h2, h3⟩ := mem_lfac.mp hq
    exact h.2.2 q (mem_lfac.mpr ⟨j, u, h1, (nthL_setN h2).1, h3⟩)
theorem nthL_pad : ∀ (n i : Nat), nthL (pad n) i = none
  | 0, i => rfl
  | n + 1, 0 => rfl
  | n + 1, i + 1 => nthL_pad n i
theorem lfac_arg {ad : Nat → Nat} : ∀ (as : List QV) (n k : Nat) (q : Nat × Value), q ∈ lfac ad k (argL as n) → q ∈ lv_args k (as.map (qrz ad))
  | [], n, k, q, h => by
    obtain ⟨i, v, -, h2, -⟩ := mem_lfac.mp h
    rw [show argL [] n = pad n from rfl, nthL_pad] at h2
    cases h2
  | .inl x :: r, n, k, q, h => by
    rcases List.mem_cons.mp (show q ∈ (k, Value.int x) :: lfac ad (k + 1) (argL r (n - 1)) from h) with h | h
    · exact List.mem_cons.mpr (Or.inl h)
    · exact List.mem_cons.mpr (Or.inr (lfac_arg r (n - 1) (k + 1) q h))
  | .inr (.inr o) :: r, n, k, q, h => by
    rcases List.mem_cons.mp (show q ∈ (k, va_rf (o.map ad)) :: lfac ad (k + 1) (argL r (n - 1)) from h) with h | h
    · exact List.mem_cons.mpr (Or.inl h)
    · refine List.mem_cons.mpr (Or.inr ?_)
      have hc : (qrz ad (Sum.inr (Sum.inr o))).category = 1 := qrz_cat (fun x e => by cases e)
      rw [if_neg (by rw [hc]; decide)]
      exact lfac_arg r (n - 1) (k + 1) q h
  | .inr (.inl x) :: r, n, k, q, h => by
    rcases List.mem_cons.mp (show q ∈ (k, Value.long x) :: lfac ad (k + 1 + 1) (argL r (n - 2)) from h) with h | h
    · exact List.mem_cons.mpr (Or.inl h)
    · exact List.mem_cons.mpr (Or.inr (lfac_arg r (n - 2) (k + 2) q h))
theorem catS_sl {ad : Nat → Nat} : ∀ (as : List QV), (lg_sl (as.map (qrz ad))).length = catS as
  | [] => rfl
  | .inl x :: r => by
    show (([Slot.val (.int x)] ++ lg_sl (r.map (qrz ad))) : List Slot).length = 1 + catS r
    rw [List.length_append, catS_sl r]
    rfl
  | .inr (.inr o) :: r => by
    have hc : (qrz ad (Sum.inr (Sum.inr o))).category = 1 := qrz_cat (fun x e => by cases e)
    show ((if (qrz ad (Sum.inr (Sum.inr o))).category = 2 then [Slot.val (qrz ad (Sum.inr (Sum.inr o))), .second] else [Slot.val (qrz ad (Sum.inr (Sum.inr o)))]) ++ lg_sl (r.map (qrz ad)) : List Slot).length = 1 + catS r
    rw [if_neg (by rw [hc]; decide), List.length_append, catS_sl r]
    rfl
  | .inr (.inl x) :: r => by
    show (([Slot.val (.long x), .second] ++ lg_sl (r.map (qrz ad))) : List Slot).length = 2 + catS r
    rw [List.length_append, catS_sl r]
    rfl
theorem catS_sum {ad : Nat → Nat} : ∀ (as : List QV), ((as.map (qrz ad)).map fun v => v.category).sum = catS as
  | [] => rfl
  | .inl x :: r => by
    show 1 + ((r.map (qrz ad)).map fun v => v.category).sum = 1 + catS r
    rw [catS_sum r]
  | .inr (.inr o) :: r => by
    have hc : (qrz ad (Sum.inr (Sum.inr o))).category = 1 := qrz_cat (fun x e => by cases e)
    show (qrz ad (Sum.inr (Sum.inr o))).category + ((r.map (qrz ad)).map fun v => v.category).sum = 1 + catS r
    rw [catS_sum r, hc]
  | .inr (.inl x) :: r => by
    show 2 + ((r.map (qrz ad)).map fun v => v.category).sum = 2 + catS r
    rw [catS_sum r]
/-! the cells -/
/-- is the field a reference? -/
def qfr (c k : Nat) : Bool := match vwCl[c]? with
  | some r => (match parseFieldDescriptor (r.2.1 k).2.2.1 with
    | some (.object _) => true
    | some (.array _) => true
    | _ => false)
  | none => false
def qfv (ad : Nat → Nat) (h : QH) (a c k : Nat) : Value := if qfr c k then va_rf ((hR h a k).map ad) else .int (hI h a k)
def qce (cA : Nat → ClassId) (ad : Nat → Nat) (h : QH) (a : Nat) : va_E :=
  if hT h a < 4 then .inl (cA (hT h a), hL h a, .inl (hI h a))
  else if hT h a < 16 then .inl (cA (hT h a), hL h a, .inr (.inr (.inr (.inr (fun j => (hR h a j).map ad)))))
  else .inr (hT h a - 16, (List.range (hL h a)).map (qfv ad h a (hT h a - 16)))
def qws (cA : Nat → ClassId) (ad : Nat → Nat) (h : QH) : va_W := (List.range (hN h - 10)).map fun k => (ad (k + 10), qce cA ad h (k + 10))
/-! what was there ahead of the law: five rows of numbers, two texts and their bytes, the script -/
def qwordB : List Int32 := [108, 101, 97, 114, 110, 116, 32, 116, 97, 107, 101, 115, 32, 119, 114, 111, 110, 103, 32, 114, 101, 102, 117, 115, 101, 115, 32, 105, 102, 32, 111, 114, 32, 97, 110, 100, 32, 110, 111, 116, 32, 107, 110, 111, 119, 115, 32, 104, 97, 115, 32, 116, 101, 108, 108, 32, 108, 101, 97, 114, 110, 32, 97, 114, 116, 32, 100, 97, 121, 32, 116, 101, 108, 108, 101, 114, 32, 108, 101, 97, 114, 110, 101, 114, 32, 111, 110, 99, 101, 32]
def qsignB : List Int32 := [59, 40, 41, 91, 93, 60, 62, 61, 43, 45, 42, 47]
def qroS (L k : Nat) : Nat × Nat := if k < 5 then (0, 4) else if k < 7 then (29, 2) else if k = 7 then (1, 90) else if k = 8 then (1, 12) else (0, L)
def qroI (xs : Nat → Int32) (k j : Nat) : Int32 := if k = 0 then [9, 9, 12, 1073741823].getD j 0 else if k = 1 then [1, 1, 1, 0].getD j 0 else if k = 2 then [6, 3, 9, 31].getD j 0 else if k = 3 then [0, 1, 0, 0].getD j 0 else if k = 4 then [9, 12, 100, 1].getD j 0 else if k < 7 then 0 else if k = 7 then qwordB.getD j 0 else if k = 8 then qsignB.getD j 0 else xs j
def qroR (k j : Nat) : Option Nat := if k = 5 ∧ j = 0 then some 7 else if k = 6 ∧ j = 0 then some 8 else none
def qRO (L : Nat) (xs : Nat → Int32) (h : QH) : Prop := ∀ k, k < 10 → h.2.2.1 k = qroS L k ∧ (∀ j, hI h k j = qroI xs k j) ∧ ∀ j, hR h k j = qroR k j
/-- the heap beside the small machine's -/
def qRel (D : va_G) (cA : Nat → ClassId) (ad : Nat → Nat) (H0 : Heap) (L : Nat) (xs : Nat → Int32) (h : QH) (H : Heap) : Prop :=
  H.size = H0.size + (hN h - 10) ∧ 10 ≤ hN h ∧ (∀ q : Nat, q < H0.size → H[q]? = H0[q]?) ∧ va_P D vwCl (qws cA ad h) H ∧ qRO L xs h
/-- the cells' places: as they were made -/
def qad (H0 : Heap) (ad : Nat → Nat) : Prop := ∀ a, 10 ≤ a → ad a = H0.size + (a - 10)
theorem qws_at {cA : Nat → ClassId} {ad : Nat → Nat} {h : QH} {a : Nat} (h1 : 10 ≤ a) (h2 : a < hN h) : (qws cA ad h)[a - 10]? = some (ad a, qce cA ad h a) := by
  unfold qws
  rw [List.getElem?_map, List.getElem?_range (by omega)]
  show some (ad (a - 10 + 10), qce cA ad h (a - 10 + 10)) = _
  rw [Nat.sub_add_cancel h1]
theorem qws_D {H0 : Heap} {cA : Nat → ClassId} {ad : Nat → Nat} (had : qad H0 ad) (h : QH) : va_D (fun q => H0.size ≤ q) (qws cA ad h) := by
  have key : ∀ (k : Nat) (q : Nat × va_E), (qws cA ad h)[k]? = some q → q.1 = H0.size + k := by
    intro k q hq
    unfold qws at hq
    rw [List.getElem?_map] at hq
    cases hr : (List.range (hN h - 10))[k]? with
    | none => rw [hr] at hq; cases hq
    | some j =>
      rw [hr] at hq
      cases hq
      have hj : j = k := by
        have := (List.getElem?_eq_some_iff.mp hr)
        obtain ⟨hlt, e⟩ := this
        rw [List.getElem_range] at e
        exact e.symm
      subst hj
      show ad (j + 10) = _
      rw [had (j + 10) (by omega)]
      omega
  refine ⟨fun i j x y hx hy e => ?_, fun k q hq => ?_⟩
  · have a1 := key i x hx
    have a2 := key j y hy
    omega
  · rw [key k q hq]
    exact Nat.le_add_right _ _
/-- one cell's contents are others -/
theorem qws_set {cA : Nat → ClassId} {ad : Nat → Nat} {h h' : QH} {a : Nat} (h1 : 10 ≤ a) (h2 : a < hN h) (hn : hN h' = hN h) (ho : ∀ b, b ≠ a → qce cA ad h' b = qce cA ad h b) : (qws cA ad h).set (a - 10) (ad a, qce cA ad h' a) = qws cA ad h' := by
  apply List.ext_getElem?
  intro k
  by_cases hk : k = a - 10
  · subst hk
    have hl : a - 10 < (qws cA ad h).length := (List.getElem?_eq_some_iff.mp (qws_at (cA := cA) (ad := ad) h1 h2)).1
    rw [List.getElem?_set_self hl, qws_at h1 (by rw [hn]; exact h2)]
  · rw [List.getElem?_set_ne (Ne.symm hk)]
    by_cases hlt : k < hN h - 10
    · have e1 := qws_at (cA := cA) (ad := ad) (h := h) (a := k + 10) (by omega) (by omega)
      have e2 := qws_at (cA := cA) (ad := ad) (h := h') (a := k + 10) (by omega) (by omega)
      rw [show k + 10 - 10 = k by omega] at e1 e2
      rw [e1, e2, ho (k + 10) (by omega)]
    · have l1 : (qws cA ad h).length = hN h - 10 := by simp [qws]
      have l2 : (qws cA ad h').length = hN h - 10 := by simp [qws, hn]
      rw [List.getElem?_eq_none (by omega), List.getElem?_eq_none (by omega)]
/-- a cell more -/
theorem qws_push {cA : Nat → ClassId} {ad : Nat → Nat} {h h' : QH} (h1 : 10 ≤ hN h) (hn : hN h' = hN h + 1) (ho : ∀ b, b < hN h → qce cA ad h' b = qce cA ad h b) : qws cA ad h ++ [(ad (hN h), qce cA ad h' (hN h))] = qws cA ad h' := by
  unfold qws
  rw [hn, show hN h + 1 - 10 = (hN h - 10) + 1 by omega, List.range_succ, List.map_append]
  congr 1
  · apply List.map_congr_left
    intro k hk
    have := List.mem_range.mp hk
    rw [ho (k + 10) (by omega)]
  · show [(ad (hN h), qce cA ad h' (hN h))] = [(ad (hN h - 10 + 10), qce cA ad h' (hN h - 10 + 10))]
    rw [Nat.sub_add_cancel h1]

theorem inb_of {i : Int32} {n : Nat} (h0 : 0 ≤ i) (h1 : i.toNatClampNeg < n) : vp_in i n := fun q => q.elim (fun h => absurd h (Int32.not_lt.mpr h0)) (fun h => absurd h1 (Nat.not_lt.mpr h))
theorem vw_all : ∀ (ci : Nat) (r : vw_C), vwCl[ci]? = some r → ((List.range r.2.2).all fun k => (List.range r.2.2).all fun n => decide (k = n) || decide ((r.2.1 k).2.1 ≠ (r.2.1 n).2.1)) = true ∧ ((List.range r.2.2).all fun k => (parseFieldDescriptor (r.2.1 k).2.2.1).isSome) = true ∧ ((u_ws r.1 r.2.1 r.2.2).all fun w => decide (w ∈ lw_tbl) && goodWord w) = true ∧ (decide (Cond.instantiable r.1 r.2.2 ∈ lw_tbl) && goodWord (Cond.instantiable r.1 r.2.2)) = true ∧ (decide (Cond.initialized r.1 ∈ lw_tbl) && goodWord (Cond.initialized r.1)) = true := by
  intro ci r hr
  match ci, hr with
  | 0, hr => cases hr; decide +kernel
  | 1, hr => cases hr; decide +kernel
  | 2, hr => cases hr; decide +kernel
  | 3, hr => cases hr; decide +kernel
  | 4, hr => cases hr; decide +kernel
  | 5, hr => cases hr; decide +kernel
  | 6, hr => cases hr; decide +kernel
  | 7, hr => cases hr; decide +kernel
  | 8, hr => cases hr; decide +kernel
  | 9, hr => cases hr; decide +kernel
  | 10, hr => cases hr; decide +kernel
  | 11, hr => cases hr; decide +kernel
  | 12, hr => cases hr; decide +kernel
  | n + 13, hr => simp at hr
theorem vw_nm {ci : Nat} {r : vw_C} (h : vwCl[ci]? = some r) : ∀ a, a < r.2.2 → ∀ b, b < r.2.2 → a ≠ b → (r.2.1 a).2.1 ≠ (r.2.1 b).2.1 := by
  intro a ha b hb hne
  have h1 := (vw_all ci r h).1
  have h2 := List.all_eq_true.mp (List.all_eq_true.mp h1 a (List.mem_range.mpr ha)) b (List.mem_range.mpr hb)
  rcases (Bool.or_eq_true _ _).mp h2 with q | q
  · exact absurd (of_decide_eq_true q) hne
  · exact of_decide_eq_true q
noncomputable def vw_ty (r : vw_C) (k : Nat) : FieldType := (parseFieldDescriptor (r.2.1 k).2.2.1).getD .int
theorem vw_tyk {ci : Nat} {r : vw_C} (h : vwCl[ci]? = some r) : ∀ k, k < r.2.2 → parseFieldDescriptor (r.2.1 k).2.2.1 = some (vw_ty r k) := by
  intro k hk
  have h2 := List.all_eq_true.mp (vw_all ci r h).2.1 k (List.mem_range.mpr hk)
  unfold vw_ty
  cases e : parseFieldDescriptor (r.2.1 k).2.2.1 with
  | none => rw [e] at h2; cases h2
  | some t => rfl
theorem vw_in {ci : Nat} {r : vw_C} (h : vwCl[ci]? = some r) : ∀ w ∈ u_ws r.1 r.2.1 r.2.2, w ∈ lwG := by
  intro w hw
  have h2 := List.all_eq_true.mp (vw_all ci r h).2.2.1 w hw
  rw [Bool.and_eq_true, decide_eq_true_eq] at h2
  exact List.mem_filter.mpr h2
theorem vw_inst {ci : Nat} {r : vw_C} (h : vwCl[ci]? = some r) : Cond.instantiable r.1 r.2.2 ∈ lwG := by
  have h2 := (vw_all ci r h).2.2.2.1
  rw [Bool.and_eq_true, decide_eq_true_eq] at h2
  exact List.mem_filter.mpr h2
theorem vw_ini {ci : Nat} {r : vw_C} (h : vwCl[ci]? = some r) : Cond.initialized r.1 ∈ lwG := by
  have h2 := (vw_all ci r h).2.2.2.2
  rw [Bool.and_eq_true, decide_eq_true_eq] at h2
  exact List.mem_filter.mpr h2
section QGO
variable {p : Program} {l : Launch} {e : Env} {R : Room} {s : State} {mi : MethodId} {args : Array Value} {below : List Frame} {meth : Method} {c : Code} {Q : State → Prop} {D : va_G} {cA : Nat → ClassId} {ad : Nat → Nat} {H0 : Heap} {L : Nat} {xs : Nat → Int32} {d m : Nat} {hs hf : QH}
set_option maxHeartbeats 1000000 in
theorem sg_aconst_null (F : FC p R s mi meth c D cA ad H0 L xs d m hs hf) {pc nx a b k j : Nat} {v : Int32} {ts : List (Int32 × Nat)} {ls ls2 : List QS} {st st2 : List QV} {h h2 : QH} {pc2 : Nat} (hss : hN hs ≤ hN h ∧ hS hs ≤ hS h) (hff : hN h2 ≤ hN hf ∧ hS h2 ≤ hS hf)   (hd : decode (qbyte m) pc = .ok (.aconst_null, nx - pc)) (ok : okE m pc .aconst_null nx a b k j v ts = true) (hq : qexec some ls st h .aconst_null nx a b k v ts = some (nGo pc2 ls2 st2 h2)) (kk : SW p l e R s mi args below meth c Q D cA ad H0 L xs m hs pc2 ls2 st2 h2) : SW p l e R s mi args below meth c Q D cA ad H0 L xs m hs pc ls st h := by
  intro H locs rl hR hl hloc
  obtain ⟨hx, hb, hml, hown, hret, hlocks, hname, hK, hs3, hrm, hcs, had⟩ := id F
  have en : nx = pc + 1 := of_decide_eq_true ok
  subst en
  rw [Nat.add_sub_cancel_left] at hd
  cases hq
  exact lv_null hx hb hd (kk H locs rl hR hl hloc)

set_option maxHeartbeats 1000000 in
theorem sg_iconst (F : FC p R s mi meth c D cA ad H0 L xs d m hs hf) {pc nx a b k j : Nat} {v : Int32} {ts : List (Int32 × Nat)} {ls ls2 : List QS} {st st2 : List QV} {h h2 : QH} {pc2 : Nat} (hss : hN hs ≤ hN h ∧ hS hs ≤ hS h) (hff : hN h2 ≤ hN hf ∧ hS h2 ≤ hS hf)  {n : Int} (hd : decode (qbyte m) pc = .ok ((.iconst n), nx - pc)) (ok : okE m pc (.iconst n) nx a b k j v ts = true) (hq : qexec some ls st h (.iconst n) nx a b k v ts = some (nGo pc2 ls2 st2 h2)) (kk : SW p l e R s mi args below meth c Q D cA ad H0 L xs m hs pc2 ls2 st2 h2) : SW p l e R s mi args below meth c Q D cA ad H0 L xs m hs pc ls st h := by
  intro H locs rl hR hl hloc
  obtain ⟨hx, hb, hml, hown, hret, hlocks, hname, hK, hs3, hrm, hcs, had⟩ := id F
  have ok : (decide (nx = pc + 1) && decide (Int32.ofInt n = v)) = true := ok
  simp only [Bool.and_eq_true, decide_eq_true_eq] at ok
  obtain ⟨en, hv⟩ := ok
  subst en
  rw [Nat.add_sub_cancel_left] at hd
  cases hq
  exact lv_iconst hx hb hd hv (kk H locs rl hR hl hloc)

set_option maxHeartbeats 1000000 in
theorem sg_bipush (F : FC p R s mi meth c D cA ad H0 L xs d m hs hf) {pc nx a b k j : Nat} {v : Int32} {ts : List (Int32 × Nat)} {ls ls2 : List QS} {st st2 : List QV} {h h2 : QH} {pc2 : Nat} (hss : hN hs ≤ hN h ∧ hS hs ≤ hS h) (hff : hN h2 ≤ hN hf ∧ hS h2 ≤ hS hf)  {n : Int} (hd : decode (qbyte m) pc = .ok ((.bipush n), nx - pc)) (ok : okE m pc (.bipush n) nx a b k j v ts = true) (hq : qexec some ls st h (.bipush n) nx a b k v ts = some (nGo pc2 ls2 st2 h2)) (kk : SW p l e R s mi args below meth c Q D cA ad H0 L xs m hs pc2 ls2 st2 h2) : SW p l e R s mi args below meth c Q D cA ad H0 L xs m hs pc ls st h := by
  intro H locs rl hR hl hloc
  obtain ⟨hx, hb, hml, hown, hret, hlocks, hname, hK, hs3, hrm, hcs, had⟩ := id F
  have ok : (decide (nx = pc + 2) && decide ((Int8.ofInt n).toInt32 = v)) = true := ok
  simp only [Bool.and_eq_true, decide_eq_true_eq] at ok
  obtain ⟨en, hv⟩ := ok
  subst en
  rw [Nat.add_sub_cancel_left] at hd
  cases hq
  exact lv_bipush hx hb hd hv (kk H locs rl hR hl hloc)

set_option maxHeartbeats 1000000 in
theorem sg_sipush (F : FC p R s mi meth c D cA ad H0 L xs d m hs hf) {pc nx a b k j : Nat} {v : Int32} {ts : List (Int32 × Nat)} {ls ls2 : List QS} {st st2 : List QV} {h h2 : QH} {pc2 : Nat} (hss : hN hs ≤ hN h ∧ hS hs ≤ hS h) (hff : hN h2 ≤ hN hf ∧ hS h2 ≤ hS hf)  {n : Int} (hd : decode (qbyte m) pc = .ok ((.sipush n), nx - pc)) (ok : okE m pc (.sipush n) nx a b k j v ts = true) (hq : qexec some ls st h (.sipush n) nx a b k v ts = some (nGo pc2 ls2 st2 h2)) (kk : SW p l e R s mi args below meth c Q D cA ad H0 L xs m hs pc2 ls2 st2 h2) : SW p l e R s mi args below meth c Q D cA ad H0 L xs m hs pc ls st h := by
  intro H locs rl hR hl hloc
  obtain ⟨hx, hb, hml, hown, hret, hlocks, hname, hK, hs3, hrm, hcs, had⟩ := id F
  have ok : (decide (nx = pc + 3) && decide ((Int16.ofInt n).toInt32 = v)) = true := ok
  simp only [Bool.and_eq_true, decide_eq_true_eq] at ok
  obtain ⟨en, hv⟩ := ok
  subst en
  rw [Nat.add_sub_cancel_left] at hd
  cases hq
  exact lv_sipush hx hb hd hv (kk H locs rl hR hl hloc)

set_option maxHeartbeats 1000000 in
theorem sg_lconst (F : FC p R s mi meth c D cA ad H0 L xs d m hs hf) {pc nx a b k j : Nat} {v : Int32} {ts : List (Int32 × Nat)} {ls ls2 : List QS} {st st2 : List QV} {h h2 : QH} {pc2 : Nat} (hss : hN hs ≤ hN h ∧ hS hs ≤ hS h) (hff : hN h2 ≤ hN hf ∧ hS h2 ≤ hS hf)  {n : Fin 2} (hd : decode (qbyte m) pc = .ok ((.lconst n), nx - pc)) (ok : okE m pc (.lconst n) nx a b k j v ts = true) (hq : qexec some ls st h (.lconst n) nx a b k v ts = some (nGo pc2 ls2 st2 h2)) (kk : SW p l e R s mi args below meth c Q D cA ad H0 L xs m hs pc2 ls2 st2 h2) : SW p l e R s mi args below meth c Q D cA ad H0 L xs m hs pc ls st h := by
  intro H locs rl hR hl hloc
  obtain ⟨hx, hb, hml, hown, hret, hlocks, hname, hK, hs3, hrm, hcs, had⟩ := id F
  have ok : (decide (nx = pc + 1) && decide (Int64.ofNat (n : Nat) = v.toInt64)) = true := ok
  simp only [Bool.and_eq_true, decide_eq_true_eq] at ok
  obtain ⟨en, hv⟩ := ok
  subst en
  rw [Nat.add_sub_cancel_left] at hd
  cases hq
  exact lv_lconst hx hb hd hv (kk H locs rl hR hl hloc)

set_option maxHeartbeats 1000000 in
theorem sg_ldc_w (F : FC p R s mi meth c D cA ad H0 L xs d m hs hf) {pc nx a b k j : Nat} {v : Int32} {ts : List (Int32 × Nat)} {ls ls2 : List QS} {st st2 : List QV} {h h2 : QH} {pc2 : Nat} (hss : hN hs ≤ hN h ∧ hS hs ≤ hS h) (hff : hN h2 ≤ hN hf ∧ hS h2 ≤ hS hf)  {n : Nat} (hd : decode (qbyte m) pc = .ok ((.ldc_w n), nx - pc)) (ok : okE m pc (.ldc_w n) nx a b k j v ts = true) (hq : qexec some ls st h (.ldc_w n) nx a b k v ts = some (nGo pc2 ls2 st2 h2)) (kk : SW p l e R s mi args below meth c Q D cA ad H0 L xs m hs pc2 ls2 st2 h2) : SW p l e R s mi args below meth c Q D cA ad H0 L xs m hs pc ls st h := by
  intro H locs rl hR hl hloc
  obtain ⟨hx, hb, hml, hown, hret, hlocks, hname, hK, hs3, hrm, hcs, had⟩ := id F
  have ok : (decide (nx = pc + 3) && okL j (.constant (qname m).cls n v)) = true := ok
  simp only [Bool.and_eq_true, decide_eq_true_eq] at ok
  obtain ⟨en, hv⟩ := ok
  subst en
  rw [Nat.add_sub_cancel_left] at hd
  cases hq
  exact lv_ldcw hx hb hown (hK.1 _ (okL_in hv) args) hd (kk H locs rl hR hl hloc)

set_option maxHeartbeats 1000000 in
theorem sg_ldc2_w (F : FC p R s mi meth c D cA ad H0 L xs d m hs hf) {pc nx a b k j : Nat} {v : Int32} {ts : List (Int32 × Nat)} {ls ls2 : List QS} {st st2 : List QV} {h h2 : QH} {pc2 : Nat} (hss : hN hs ≤ hN h ∧ hS hs ≤ hS h) (hff : hN h2 ≤ hN hf ∧ hS h2 ≤ hS hf)  {n : Nat} (hd : decode (qbyte m) pc = .ok ((.ldc2_w n), nx - pc)) (ok : okE m pc (.ldc2_w n) nx a b k j v ts = true) (hq : qexec some ls st h (.ldc2_w n) nx a b k v ts = some (nGo pc2 ls2 st2 h2)) (kk : SW p l e R s mi args below meth c Q D cA ad H0 L xs m hs pc2 ls2 st2 h2) : SW p l e R s mi args below meth c Q D cA ad H0 L xs m hs pc ls st h := by
  intro H locs rl hR hl hloc
  obtain ⟨hx, hb, hml, hown, hret, hlocks, hname, hK, hs3, hrm, hcs, had⟩ := id F
  have ok : (decide (nx = pc + 3) && okL j (.constantLong (qname m).cls n v.toInt64)) = true := ok
  simp only [Bool.and_eq_true, decide_eq_true_eq] at ok
  obtain ⟨en, hv⟩ := ok
  subst en
  rw [Nat.add_sub_cancel_left] at hd
  cases hq
  exact lv_ldc2 hx hb hown (hK.1 _ (okL_in hv) args) hd (kk H locs rl hR hl hloc)

set_option maxHeartbeats 1000000 in
theorem sg_ldc (F : FC p R s mi meth c D cA ad H0 L xs d m hs hf) {pc nx a b k j : Nat} {v : Int32} {ts : List (Int32 × Nat)} {ls ls2 : List QS} {st st2 : List QV} {h h2 : QH} {pc2 : Nat} (hss : hN hs ≤ hN h ∧ hS hs ≤ hS h) (hff : hN h2 ≤ hN hf ∧ hS h2 ≤ hS hf)  {n : Nat} (hd : decode (qbyte m) pc = .ok ((.ldc n), nx - pc)) (ok : okE m pc (.ldc n) nx a b k j v ts = true) (hq : qexec some ls st h (.ldc n) nx a b k v ts = some (nGo pc2 ls2 st2 h2)) (kk : SW p l e R s mi args below meth c Q D cA ad H0 L xs m hs pc2 ls2 st2 h2) : SW p l e R s mi args below meth c Q D cA ad H0 L xs m hs pc ls st h := by
  intro H locs rl hR hl hloc
  obtain ⟨hx, hb, hml, hown, hret, hlocks, hname, hK, hs3, hrm, hcs, had⟩ := id F
  have ok1 : (decide (nx = pc + 2) && cond (Nat.beq k 0) (okL j (.constant (qname m).cls n v)) (decide ((qname m).cls = "HandedOn$Reader") && (decide (a = 5) || decide (a = 6)) && decide (n = qtxi a))) = true := ok
  have hq1 : cond (Nat.beq k 0) (some (nGo nx ls (qI v :: st) h)) (some (nGo nx ls (qR (some a) :: st) h)) = some (nGo pc2 ls2 st2 h2) := hq
  rw [Bool.and_eq_true, decide_eq_true_eq] at ok1
  obtain ⟨en, ok2⟩ := ok1
  subst en
  rw [Nat.add_sub_cancel_left] at hd
  cases hk : Nat.beq k 0
  · rw [hk] at ok2 hq1
    cases hq1
    have ok3 : (decide ((qname m).cls = "HandedOn$Reader") && (decide (a = 5) || decide (a = 6)) && decide (n = qtxi a)) = true := ok2
    simp only [Bool.and_eq_true, Bool.or_eq_true, decide_eq_true_eq] at ok3
    obtain ⟨⟨o1, o2⟩, o3⟩ := ok3
    rw [o1] at hown
    obtain ⟨g1, -⟩ := hK.2.2.2.2.2.2.2.1 a o2
    rw [← o3] at g1
    exact va_ldcS hx hb hown g1 hd (kk H locs rl hR hl hloc)
  · rw [hk] at ok2 hq1
    cases hq1
    exact lv_ldc hx hb hown (hK.1 _ (okL_in ok2) args) hd (kk H locs rl hR hl hloc)

set_option maxHeartbeats 1000000 in
theorem sg_iload (F : FC p R s mi meth c D cA ad H0 L xs d m hs hf) {pc nx a b k j : Nat} {v : Int32} {ts : List (Int32 × Nat)} {ls ls2 : List QS} {st st2 : List QV} {h h2 : QH} {pc2 : Nat} (hss : hN hs ≤ hN h ∧ hS hs ≤ hS h) (hff : hN h2 ≤ hN hf ∧ hS h2 ≤ hS hf)  {n : Nat} (hd : decode (qbyte m) pc = .ok ((.iload n), nx - pc)) (ok : okE m pc (.iload n) nx a b k j v ts = true) (hq : qexec some ls st h (.iload n) nx a b k v ts = some (nGo pc2 ls2 st2 h2)) (kk : SW p l e R s mi args below meth c Q D cA ad H0 L xs m hs pc2 ls2 st2 h2) : SW p l e R s mi args below meth c Q D cA ad H0 L xs m hs pc ls st h := by
  intro H locs rl hR hl hloc
  obtain ⟨hx, hb, hml, hown, hret, hlocks, hname, hK, hs3, hrm, hcs, had⟩ := id F
  have ok : (decide (nx = pc + 2) && decide (n = a)) = true := ok
  simp only [Bool.and_eq_true, decide_eq_true_eq] at ok
  obtain ⟨en, ha⟩ := ok
  subst en
  rw [Nat.add_sub_cancel_left] at hd
  obtain ⟨w, hw, hq⟩ := eS_inv hq
  obtain ⟨x, rfl, hq⟩ := eI_inv hq
  cases hq
  subst ha
  exact lv_iload hx hb hd (lfac_at hl hw) (kk H locs rl hR hl hloc)

set_option maxHeartbeats 1000000 in
theorem sg_iload_n (F : FC p R s mi meth c D cA ad H0 L xs d m hs hf) {pc nx a b k j : Nat} {v : Int32} {ts : List (Int32 × Nat)} {ls ls2 : List QS} {st st2 : List QV} {h h2 : QH} {pc2 : Nat} (hss : hN hs ≤ hN h ∧ hS hs ≤ hS h) (hff : hN h2 ≤ hN hf ∧ hS h2 ≤ hS hf)  {n : Fin 4} (hd : decode (qbyte m) pc = .ok ((.iload_n n), nx - pc)) (ok : okE m pc (.iload_n n) nx a b k j v ts = true) (hq : qexec some ls st h (.iload_n n) nx a b k v ts = some (nGo pc2 ls2 st2 h2)) (kk : SW p l e R s mi args below meth c Q D cA ad H0 L xs m hs pc2 ls2 st2 h2) : SW p l e R s mi args below meth c Q D cA ad H0 L xs m hs pc ls st h := by
  intro H locs rl hR hl hloc
  obtain ⟨hx, hb, hml, hown, hret, hlocks, hname, hK, hs3, hrm, hcs, had⟩ := id F
  have ok : (decide (nx = pc + 1) && decide ((n : Nat) = a)) = true := ok
  simp only [Bool.and_eq_true, decide_eq_true_eq] at ok
  obtain ⟨en, ha⟩ := ok
  subst en
  rw [Nat.add_sub_cancel_left] at hd
  obtain ⟨w, hw, hq⟩ := eS_inv hq
  obtain ⟨x, rfl, hq⟩ := eI_inv hq
  cases hq
  exact lv_iload_n hx hb hd ha (lfac_at hl hw) (kk H locs rl hR hl hloc)

set_option maxHeartbeats 1000000 in
theorem sg_lload (F : FC p R s mi meth c D cA ad H0 L xs d m hs hf) {pc nx a b k j : Nat} {v : Int32} {ts : List (Int32 × Nat)} {ls ls2 : List QS} {st st2 : List QV} {h h2 : QH} {pc2 : Nat} (hss : hN hs ≤ hN h ∧ hS hs ≤ hS h) (hff : hN h2 ≤ hN hf ∧ hS h2 ≤ hS hf)  {n : Nat} (hd : decode (qbyte m) pc = .ok ((.lload n), nx - pc)) (ok : okE m pc (.lload n) nx a b k j v ts = true) (hq : qexec some ls st h (.lload n) nx a b k v ts = some (nGo pc2 ls2 st2 h2)) (kk : SW p l e R s mi args below meth c Q D cA ad H0 L xs m hs pc2 ls2 st2 h2) : SW p l e R s mi args below meth c Q D cA ad H0 L xs m hs pc ls st h := by
  intro H locs rl hR hl hloc
  obtain ⟨hx, hb, hml, hown, hret, hlocks, hname, hK, hs3, hrm, hcs, had⟩ := id F
  have ok : (decide (nx = pc + 2) && decide (n = a)) = true := ok
  simp only [Bool.and_eq_true, decide_eq_true_eq] at ok
  obtain ⟨en, ha⟩ := ok
  subst en
  rw [Nat.add_sub_cancel_left] at hd
  obtain ⟨w, hw, hq⟩ := eS_inv hq
  obtain ⟨x, rfl, hq⟩ := eL_inv hq
  cases hq
  subst ha
  exact lv_lload hx hb hd (lfac_at hl hw) (kk H locs rl hR hl hloc)

set_option maxHeartbeats 1000000 in
theorem sg_lload_n (F : FC p R s mi meth c D cA ad H0 L xs d m hs hf) {pc nx a b k j : Nat} {v : Int32} {ts : List (Int32 × Nat)} {ls ls2 : List QS} {st st2 : List QV} {h h2 : QH} {pc2 : Nat} (hss : hN hs ≤ hN h ∧ hS hs ≤ hS h) (hff : hN h2 ≤ hN hf ∧ hS h2 ≤ hS hf)  {n : Fin 4} (hd : decode (qbyte m) pc = .ok ((.lload_n n), nx - pc)) (ok : okE m pc (.lload_n n) nx a b k j v ts = true) (hq : qexec some ls st h (.lload_n n) nx a b k v ts = some (nGo pc2 ls2 st2 h2)) (kk : SW p l e R s mi args below meth c Q D cA ad H0 L xs m hs pc2 ls2 st2 h2) : SW p l e R s mi args below meth c Q D cA ad H0 L xs m hs pc ls st h := by
  intro H locs rl hR hl hloc
  obtain ⟨hx, hb, hml, hown, hret, hlocks, hname, hK, hs3, hrm, hcs, had⟩ := id F
  have ok : (decide (nx = pc + 1) && decide ((n : Nat) = a)) = true := ok
  simp only [Bool.and_eq_true, decide_eq_true_eq] at ok
  obtain ⟨en, ha⟩ := ok
  subst en
  rw [Nat.add_sub_cancel_left] at hd
  obtain ⟨w, hw, hq⟩ := eS_inv hq
  obtain ⟨x, rfl, hq⟩ := eL_inv hq
  cases hq
  exact lv_lload_n hx hb hd ha (lfac_at hl hw) (kk H locs rl hR hl hloc)

set_option maxHeartbeats 1000000 in
theorem sg_aload (F : FC p R s mi meth c D cA ad H0 L xs d m hs hf) {pc nx a b k j : Nat} {v : Int32} {ts : List (Int32 × Nat)} {ls ls2 : List QS} {st st2 : List QV} {h h2 : QH} {pc2 : Nat} (hss : hN hs ≤ hN h ∧ hS hs ≤ hS h) (hff : hN h2 ≤ hN hf ∧ hS h2 ≤ hS hf)  {n : Nat} (hd : decode (qbyte m) pc = .ok ((.aload n), nx - pc)) (ok : okE m pc (.aload n) nx a b k j v ts = true) (hq : qexec some ls st h (.aload n) nx a b k v ts = some (nGo pc2 ls2 st2 h2)) (kk : SW p l e R s mi args below meth c Q D cA ad H0 L xs m hs pc2 ls2 st2 h2) : SW p l e R s mi args below meth c Q D cA ad H0 L xs m hs pc ls st h := by
  intro H locs rl hR hl hloc
  obtain ⟨hx, hb, hml, hown, hret, hlocks, hname, hK, hs3, hrm, hcs, had⟩ := id F
  have ok : (decide (nx = pc + 2) && decide (n = a)) = true := ok
  simp only [Bool.and_eq_true, decide_eq_true_eq] at ok
  obtain ⟨en, ha⟩ := ok
  subst en
  rw [Nat.add_sub_cancel_left] at hd
  obtain ⟨w, hw, hq⟩ := eS_inv hq
  obtain ⟨x, rfl, hq⟩ := eR_inv hq
  cases hq
  subst ha
  cases x with
  | none => exact lv_aloadN hx hb hd (lfac_at hl hw) (kk H locs rl hR hl hloc)
  | some x => exact lv_aload hx hb hd (lfac_at hl hw) (kk H locs rl hR hl hloc)

set_option maxHeartbeats 1000000 in
theorem sg_aload_n (F : FC p R s mi meth c D cA ad H0 L xs d m hs hf) {pc nx a b k j : Nat} {v : Int32} {ts : List (Int32 × Nat)} {ls ls2 : List QS} {st st2 : List QV} {h h2 : QH} {pc2 : Nat} (hss : hN hs ≤ hN h ∧ hS hs ≤ hS h) (hff : hN h2 ≤ hN hf ∧ hS h2 ≤ hS hf)  {n : Fin 4} (hd : decode (qbyte m) pc = .ok ((.aload_n n), nx - pc)) (ok : okE m pc (.aload_n n) nx a b k j v ts = true) (hq : qexec some ls st h (.aload_n n) nx a b k v ts = some (nGo pc2 ls2 st2 h2)) (kk : SW p l e R s mi args below meth c Q D cA ad H0 L xs m hs pc2 ls2 st2 h2) : SW p l e R s mi args below meth c Q D cA ad H0 L xs m hs pc ls st h := by
  intro H locs rl hR hl hloc
  obtain ⟨hx, hb, hml, hown, hret, hlocks, hname, hK, hs3, hrm, hcs, had⟩ := id F
  have ok : (decide (nx = pc + 1) && decide ((n : Nat) = a)) = true := ok
  simp only [Bool.and_eq_true, decide_eq_true_eq] at ok
  obtain ⟨en, ha⟩ := ok
  subst en
  rw [Nat.add_sub_cancel_left] at hd
  obtain ⟨w, hw, hq⟩ := eS_inv hq
  obtain ⟨x, rfl, hq⟩ := eR_inv hq
  cases hq
  cases x with
  | none => exact lv_aload_nN hx hb hd ha (lfac_at hl hw) (kk H locs rl hR hl hloc)
  | some x => exact lv_aload_n hx hb hd ha (lfac_at hl hw) (kk H locs rl hR hl hloc)

set_option maxHeartbeats 1000000 in
theorem sg_istore (F : FC p R s mi meth c D cA ad H0 L xs d m hs hf) {pc nx a b k j : Nat} {v : Int32} {ts : List (Int32 × Nat)} {ls ls2 : List QS} {st st2 : List QV} {h h2 : QH} {pc2 : Nat} (hss : hN hs ≤ hN h ∧ hS hs ≤ hS h) (hff : hN h2 ≤ hN hf ∧ hS h2 ≤ hS hf)  {n : Nat} (hd : decode (qbyte m) pc = .ok ((.istore n), nx - pc)) (ok : okE m pc (.istore n) nx a b k j v ts = true) (hq : qexec some ls st h (.istore n) nx a b k v ts = some (nGo pc2 ls2 st2 h2)) (kk : SW p l e R s mi args below meth c Q D cA ad H0 L xs m hs pc2 ls2 st2 h2) : SW p l e R s mi args below meth c Q D cA ad H0 L xs m hs pc ls st h := by
  intro H locs rl hR hl hloc
  obtain ⟨hx, hb, hml, hown, hret, hlocks, hname, hK, hs3, hrm, hcs, had⟩ := id F
  have ok : ((decide (nx = pc + 2) && decide (n = a)) && decide (a < qmx m)) = true := ok
  simp only [Bool.and_eq_true, decide_eq_true_eq] at ok
  obtain ⟨⟨en, ha⟩, hm⟩ := ok
  subst en
  rw [Nat.add_sub_cancel_left] at hd
  obtain ⟨w, r, rfl, hq⟩ := e1_inv hq
  obtain ⟨x, rfl, hq⟩ := eI_inv hq
  cases hq
  subst ha
  exact lv_istore hx hb hd hl hm rfl (fun rl hl => kk H locs rl hR (lfac_st1 rfl hl) hloc)

set_option maxHeartbeats 1000000 in
theorem sg_astore (F : FC p R s mi meth c D cA ad H0 L xs d m hs hf) {pc nx a b k j : Nat} {v : Int32} {ts : List (Int32 × Nat)} {ls ls2 : List QS} {st st2 : List QV} {h h2 : QH} {pc2 : Nat} (hss : hN hs ≤ hN h ∧ hS hs ≤ hS h) (hff : hN h2 ≤ hN hf ∧ hS h2 ≤ hS hf)  {n : Nat} (hd : decode (qbyte m) pc = .ok ((.astore n), nx - pc)) (ok : okE m pc (.astore n) nx a b k j v ts = true) (hq : qexec some ls st h (.astore n) nx a b k v ts = some (nGo pc2 ls2 st2 h2)) (kk : SW p l e R s mi args below meth c Q D cA ad H0 L xs m hs pc2 ls2 st2 h2) : SW p l e R s mi args below meth c Q D cA ad H0 L xs m hs pc ls st h := by
  intro H locs rl hR hl hloc
  obtain ⟨hx, hb, hml, hown, hret, hlocks, hname, hK, hs3, hrm, hcs, had⟩ := id F
  have ok : ((decide (nx = pc + 2) && decide (n = a)) && decide (a < qmx m)) = true := ok
  simp only [Bool.and_eq_true, decide_eq_true_eq] at ok
  obtain ⟨⟨en, ha⟩, hm⟩ := ok
  subst en
  rw [Nat.add_sub_cancel_left] at hd
  obtain ⟨w, r, rfl, hq⟩ := e1_inv hq
  obtain ⟨x, rfl, hq⟩ := eR_inv hq
  cases hq
  subst ha
  cases x with
  | none => exact lv_astoreN hx hb hd hl hm rfl (fun rl hl => kk H locs rl hR (lfac_st1 rfl hl) hloc)
  | some x => exact lv_astore hx hb hd hl hm rfl (fun rl hl => kk H locs rl hR (lfac_st1 rfl hl) hloc)

set_option maxHeartbeats 1000000 in
theorem sg_lstore (F : FC p R s mi meth c D cA ad H0 L xs d m hs hf) {pc nx a b k j : Nat} {v : Int32} {ts : List (Int32 × Nat)} {ls ls2 : List QS} {st st2 : List QV} {h h2 : QH} {pc2 : Nat} (hss : hN hs ≤ hN h ∧ hS hs ≤ hS h) (hff : hN h2 ≤ hN hf ∧ hS h2 ≤ hS hf)  {n : Nat} (hd : decode (qbyte m) pc = .ok ((.lstore n), nx - pc)) (ok : okE m pc (.lstore n) nx a b k j v ts = true) (hq : qexec some ls st h (.lstore n) nx a b k v ts = some (nGo pc2 ls2 st2 h2)) (kk : SW p l e R s mi args below meth c Q D cA ad H0 L xs m hs pc2 ls2 st2 h2) : SW p l e R s mi args below meth c Q D cA ad H0 L xs m hs pc ls st h := by
  intro H locs rl hR hl hloc
  obtain ⟨hx, hb, hml, hown, hret, hlocks, hname, hK, hs3, hrm, hcs, had⟩ := id F
  have ok : ((decide (nx = pc + 2) && decide (n = a)) && decide (a + 1 < qmx m)) = true := ok
  simp only [Bool.and_eq_true, decide_eq_true_eq] at ok
  obtain ⟨⟨en, ha⟩, hm⟩ := ok
  subst en
  rw [Nat.add_sub_cancel_left] at hd
  obtain ⟨w, r, rfl, hq⟩ := e1_inv hq
  obtain ⟨x, rfl, hq⟩ := eL_inv hq
  cases hq
  subst ha
  exact lv_lstore hx hb hd hl hm rfl (fun rl hl => kk H locs rl hR (lfac_st2 rfl hl) hloc)

set_option maxHeartbeats 1000000 in
theorem sg_istore_n (F : FC p R s mi meth c D cA ad H0 L xs d m hs hf) {pc nx a b k j : Nat} {v : Int32} {ts : List (Int32 × Nat)} {ls ls2 : List QS} {st st2 : List QV} {h h2 : QH} {pc2 : Nat} (hss : hN hs ≤ hN h ∧ hS hs ≤ hS h) (hff : hN h2 ≤ hN hf ∧ hS h2 ≤ hS hf)  {n : Fin 4} (hd : decode (qbyte m) pc = .ok ((.istore_n n), nx - pc)) (ok : okE m pc (.istore_n n) nx a b k j v ts = true) (hq : qexec some ls st h (.istore_n n) nx a b k v ts = some (nGo pc2 ls2 st2 h2)) (kk : SW p l e R s mi args below meth c Q D cA ad H0 L xs m hs pc2 ls2 st2 h2) : SW p l e R s mi args below meth c Q D cA ad H0 L xs m hs pc ls st h := by
  intro H locs rl hR hl hloc
  obtain ⟨hx, hb, hml, hown, hret, hlocks, hname, hK, hs3, hrm, hcs, had⟩ := id F
  have ok : ((decide (nx = pc + 1) && decide ((n : Nat) = a)) && decide (a < qmx m)) = true := ok
  simp only [Bool.and_eq_true, decide_eq_true_eq] at ok
  obtain ⟨⟨en, ha⟩, hm⟩ := ok
  subst en
  rw [Nat.add_sub_cancel_left] at hd
  obtain ⟨w, r, rfl, hq⟩ := e1_inv hq
  obtain ⟨x, rfl, hq⟩ := eI_inv hq
  cases hq
  exact lv_istore_n hx hb hd ha hl hm rfl (fun rl hl => kk H locs rl hR (lfac_st1 rfl hl) hloc)

set_option maxHeartbeats 1000000 in
theorem sg_astore_n (F : FC p R s mi meth c D cA ad H0 L xs d m hs hf) {pc nx a b k j : Nat} {v : Int32} {ts : List (Int32 × Nat)} {ls ls2 : List QS} {st st2 : List QV} {h h2 : QH} {pc2 : Nat} (hss : hN hs ≤ hN h ∧ hS hs ≤ hS h) (hff : hN h2 ≤ hN hf ∧ hS h2 ≤ hS hf)  {n : Fin 4} (hd : decode (qbyte m) pc = .ok ((.astore_n n), nx - pc)) (ok : okE m pc (.astore_n n) nx a b k j v ts = true) (hq : qexec some ls st h (.astore_n n) nx a b k v ts = some (nGo pc2 ls2 st2 h2)) (kk : SW p l e R s mi args below meth c Q D cA ad H0 L xs m hs pc2 ls2 st2 h2) : SW p l e R s mi args below meth c Q D cA ad H0 L xs m hs pc ls st h := by
  intro H locs rl hR hl hloc
  obtain ⟨hx, hb, hml, hown, hret, hlocks, hname, hK, hs3, hrm, hcs, had⟩ := id F
  have ok : ((decide (nx = pc + 1) && decide ((n : Nat) = a)) && decide (a < qmx m)) = true := ok
  simp only [Bool.and_eq_true, decide_eq_true_eq] at ok
  obtain ⟨⟨en, ha⟩, hm⟩ := ok
  subst en
  rw [Nat.add_sub_cancel_left] at hd
  obtain ⟨w, r, rfl, hq⟩ := e1_inv hq
  obtain ⟨x, rfl, hq⟩ := eR_inv hq
  cases hq
  cases x with
  | none => exact lv_astore_nN hx hb hd ha hl hm rfl (fun rl hl => kk H locs rl hR (lfac_st1 rfl hl) hloc)
  | some x => exact lv_astore_n hx hb hd ha hl hm rfl (fun rl hl => kk H locs rl hR (lfac_st1 rfl hl) hloc)

set_option maxHeartbeats 1000000 in
theorem sg_lstore_n (F : FC p R s mi meth c D cA ad H0 L xs d m hs hf) {pc nx a b k j : Nat} {v : Int32} {ts : List (Int32 × Nat)} {ls ls2 : List QS} {st st2 : List QV} {h h2 : QH} {pc2 : Nat} (hss : hN hs ≤ hN h ∧ hS hs ≤ hS h) (hff : hN h2 ≤ hN hf ∧ hS h2 ≤ hS hf)  {n : Fin 4} (hd : decode (qbyte m) pc = .ok ((.lstore_n n), nx - pc)) (ok : okE m pc (.lstore_n n) nx a b k j v ts = true) (hq : qexec some ls st h (.lstore_n n) nx a b k v ts = some (nGo pc2 ls2 st2 h2)) (kk : SW p l e R s mi args below meth c Q D cA ad H0 L xs m hs pc2 ls2 st2 h2) : SW p l e R s mi args below meth c Q D cA ad H0 L xs m hs pc ls st h := by
  intro H locs rl hR hl hloc
  obtain ⟨hx, hb, hml, hown, hret, hlocks, hname, hK, hs3, hrm, hcs, had⟩ := id F
  have ok : ((decide (nx = pc + 1) && decide ((n : Nat) = a)) && decide (a + 1 < qmx m)) = true := ok
  simp only [Bool.and_eq_true, decide_eq_true_eq] at ok
  obtain ⟨⟨en, ha⟩, hm⟩ := ok
  subst en
  rw [Nat.add_sub_cancel_left] at hd
  obtain ⟨w, r, rfl, hq⟩ := e1_inv hq
  obtain ⟨x, rfl, hq⟩ := eL_inv hq
  cases hq
  exact lv_lstore_n hx hb hd ha hl hm rfl (fun rl hl => kk H locs rl hR (lfac_st2 rfl hl) hloc)

set_option maxHeartbeats 1000000 in
theorem sg_iinc (F : FC p R s mi meth c D cA ad H0 L xs d m hs hf) {pc nx a b k j : Nat} {v : Int32} {ts : List (Int32 × Nat)} {ls ls2 : List QS} {st st2 : List QV} {h h2 : QH} {pc2 : Nat} (hss : hN hs ≤ hN h ∧ hS hs ≤ hS h) (hff : hN h2 ≤ hN hf ∧ hS h2 ≤ hS hf)  {n : Nat} {z : Int} (hd : decode (qbyte m) pc = .ok ((.iinc n z), nx - pc)) (ok : okE m pc (.iinc n z) nx a b k j v ts = true) (hq : qexec some ls st h (.iinc n z) nx a b k v ts = some (nGo pc2 ls2 st2 h2)) (kk : SW p l e R s mi args below meth c Q D cA ad H0 L xs m hs pc2 ls2 st2 h2) : SW p l e R s mi args below meth c Q D cA ad H0 L xs m hs pc ls st h := by
  intro H locs rl hR hl hloc
  obtain ⟨hx, hb, hml, hown, hret, hlocks, hname, hK, hs3, hrm, hcs, had⟩ := id F
  have ok : (((decide (nx = pc + 3) && decide (n = a)) && decide (Int32.ofInt z = v)) && decide (a < qmx m)) = true := ok
  simp only [Bool.and_eq_true, decide_eq_true_eq] at ok
  obtain ⟨⟨⟨en, ha⟩, hv⟩, hm⟩ := ok
  subst en
  rw [Nat.add_sub_cancel_left] at hd
  obtain ⟨w, hw, hq⟩ := eS_inv hq
  obtain ⟨x, rfl, hq⟩ := eI_inv hq
  cases hq
  subst ha
  obtain ⟨kx, hkx⟩ := List.getElem?_of_mem (mem_lfac.mpr ⟨n, qI x, (Nat.zero_add n).symm, hw, rfl⟩ : (n, qrz ad (qI x)) ∈ lfac ad 0 ls)
  exact lv_iinc hx hb hd hl hkx (by rw [hv]) hm rfl (fun rl hl => kk H locs rl hR (lfac_st1 rfl hl) hloc)

set_option maxHeartbeats 1000000 in
theorem sg_iadd (F : FC p R s mi meth c D cA ad H0 L xs d m hs hf) {pc nx a b k j : Nat} {v : Int32} {ts : List (Int32 × Nat)} {ls ls2 : List QS} {st st2 : List QV} {h h2 : QH} {pc2 : Nat} (hss : hN hs ≤ hN h ∧ hS hs ≤ hS h) (hff : hN h2 ≤ hN hf ∧ hS h2 ≤ hS hf)   (hd : decode (qbyte m) pc = .ok (.iadd, nx - pc)) (ok : okE m pc .iadd nx a b k j v ts = true) (hq : qexec some ls st h .iadd nx a b k v ts = some (nGo pc2 ls2 st2 h2)) (kk : SW p l e R s mi args below meth c Q D cA ad H0 L xs m hs pc2 ls2 st2 h2) : SW p l e R s mi args below meth c Q D cA ad H0 L xs m hs pc ls st h := by
  intro H locs rl hR hl hloc
  obtain ⟨hx, hb, hml, hown, hret, hlocks, hname, hK, hs3, hrm, hcs, had⟩ := id F
  have en : nx = pc + 1 := of_decide_eq_true ok
  subst en
  rw [Nat.add_sub_cancel_left] at hd
  obtain ⟨x, y, r, rfl, hq⟩ := e2I_inv hq
  cases hq
  exact lv_iadd hx hb hd (kk H locs rl hR hl hloc)

set_option maxHeartbeats 1000000 in
theorem sg_isub (F : FC p R s mi meth c D cA ad H0 L xs d m hs hf) {pc nx a b k j : Nat} {v : Int32} {ts : List (Int32 × Nat)} {ls ls2 : List QS} {st st2 : List QV} {h h2 : QH} {pc2 : Nat} (hss : hN hs ≤ hN h ∧ hS hs ≤ hS h) (hff : hN h2 ≤ hN hf ∧ hS h2 ≤ hS hf)   (hd : decode (qbyte m) pc = .ok (.isub, nx - pc)) (ok : okE m pc .isub nx a b k j v ts = true) (hq : qexec some ls st h .isub nx a b k v ts = some (nGo pc2 ls2 st2 h2)) (kk : SW p l e R s mi args below meth c Q D cA ad H0 L xs m hs pc2 ls2 st2 h2) : SW p l e R s mi args below meth c Q D cA ad H0 L xs m hs pc ls st h := by
  intro H locs rl hR hl hloc
  obtain ⟨hx, hb, hml, hown, hret, hlocks, hname, hK, hs3, hrm, hcs, had⟩ := id F
  have en : nx = pc + 1 := of_decide_eq_true ok
  subst en
  rw [Nat.add_sub_cancel_left] at hd
  obtain ⟨x, y, r, rfl, hq⟩ := e2I_inv hq
  cases hq
  exact lv_isub hx hb hd (kk H locs rl hR hl hloc)

set_option maxHeartbeats 1000000 in
theorem sg_imul (F : FC p R s mi meth c D cA ad H0 L xs d m hs hf) {pc nx a b k j : Nat} {v : Int32} {ts : List (Int32 × Nat)} {ls ls2 : List QS} {st st2 : List QV} {h h2 : QH} {pc2 : Nat} (hss : hN hs ≤ hN h ∧ hS hs ≤ hS h) (hff : hN h2 ≤ hN hf ∧ hS h2 ≤ hS hf)   (hd : decode (qbyte m) pc = .ok (.imul, nx - pc)) (ok : okE m pc .imul nx a b k j v ts = true) (hq : qexec some ls st h .imul nx a b k v ts = some (nGo pc2 ls2 st2 h2)) (kk : SW p l e R s mi args below meth c Q D cA ad H0 L xs m hs pc2 ls2 st2 h2) : SW p l e R s mi args below meth c Q D cA ad H0 L xs m hs pc ls st h := by
  intro H locs rl hR hl hloc
  obtain ⟨hx, hb, hml, hown, hret, hlocks, hname, hK, hs3, hrm, hcs, had⟩ := id F
  have en : nx = pc + 1 := of_decide_eq_true ok
  subst en
  rw [Nat.add_sub_cancel_left] at hd
  obtain ⟨x, y, r, rfl, hq⟩ := e2I_inv hq
  cases hq
  exact lv_imul hx hb hd (kk H locs rl hR hl hloc)

set_option maxHeartbeats 1000000 in
theorem sg_iand (F : FC p R s mi meth c D cA ad H0 L xs d m hs hf) {pc nx a b k j : Nat} {v : Int32} {ts : List (Int32 × Nat)} {ls ls2 : List QS} {st st2 : List QV} {h h2 : QH} {pc2 : Nat} (hss : hN hs ≤ hN h ∧ hS hs ≤ hS h) (hff : hN h2 ≤ hN hf ∧ hS h2 ≤ hS hf)   (hd : decode (qbyte m) pc = .ok (.iand, nx - pc)) (ok : okE m pc .iand nx a b k j v ts = true) (hq : qexec some ls st h .iand nx a b k v ts = some (nGo pc2 ls2 st2 h2)) (kk : SW p l e R s mi args below meth c Q D cA ad H0 L xs m hs pc2 ls2 st2 h2) : SW p l e R s mi args below meth c Q D cA ad H0 L xs m hs pc ls st h := by
  intro H locs rl hR hl hloc
  obtain ⟨hx, hb, hml, hown, hret, hlocks, hname, hK, hs3, hrm, hcs, had⟩ := id F
  have en : nx = pc + 1 := of_decide_eq_true ok
  subst en
  rw [Nat.add_sub_cancel_left] at hd
  obtain ⟨x, y, r, rfl, hq⟩ := e2I_inv hq
  cases hq
  exact lv_iand hx hb hd (kk H locs rl hR hl hloc)

set_option maxHeartbeats 1000000 in
theorem sg_ior (F : FC p R s mi meth c D cA ad H0 L xs d m hs hf) {pc nx a b k j : Nat} {v : Int32} {ts : List (Int32 × Nat)} {ls ls2 : List QS} {st st2 : List QV} {h h2 : QH} {pc2 : Nat} (hss : hN hs ≤ hN h ∧ hS hs ≤ hS h) (hff : hN h2 ≤ hN hf ∧ hS h2 ≤ hS hf)   (hd : decode (qbyte m) pc = .ok (.ior, nx - pc)) (ok : okE m pc .ior nx a b k j v ts = true) (hq : qexec some ls st h .ior nx a b k v ts = some (nGo pc2 ls2 st2 h2)) (kk : SW p l e R s mi args below meth c Q D cA ad H0 L xs m hs pc2 ls2 st2 h2) : SW p l e R s mi args below meth c Q D cA ad H0 L xs m hs pc ls st h := by
  intro H locs rl hR hl hloc
  obtain ⟨hx, hb, hml, hown, hret, hlocks, hname, hK, hs3, hrm, hcs, had⟩ := id F
  have en : nx = pc + 1 := of_decide_eq_true ok
  subst en
  rw [Nat.add_sub_cancel_left] at hd
  obtain ⟨x, y, r, rfl, hq⟩ := e2I_inv hq
  cases hq
  exact lv_ior hx hb hd (kk H locs rl hR hl hloc)

set_option maxHeartbeats 1000000 in
theorem sg_ixor (F : FC p R s mi meth c D cA ad H0 L xs d m hs hf) {pc nx a b k j : Nat} {v : Int32} {ts : List (Int32 × Nat)} {ls ls2 : List QS} {st st2 : List QV} {h h2 : QH} {pc2 : Nat} (hss : hN hs ≤ hN h ∧ hS hs ≤ hS h) (hff : hN h2 ≤ hN hf ∧ hS h2 ≤ hS hf)   (hd : decode (qbyte m) pc = .ok (.ixor, nx - pc)) (ok : okE m pc .ixor nx a b k j v ts = true) (hq : qexec some ls st h .ixor nx a b k v ts = some (nGo pc2 ls2 st2 h2)) (kk : SW p l e R s mi args below meth c Q D cA ad H0 L xs m hs pc2 ls2 st2 h2) : SW p l e R s mi args below meth c Q D cA ad H0 L xs m hs pc ls st h := by
  intro H locs rl hR hl hloc
  obtain ⟨hx, hb, hml, hown, hret, hlocks, hname, hK, hs3, hrm, hcs, had⟩ := id F
  have en : nx = pc + 1 := of_decide_eq_true ok
  subst en
  rw [Nat.add_sub_cancel_left] at hd
  obtain ⟨x, y, r, rfl, hq⟩ := e2I_inv hq
  cases hq
  exact lv_ixor hx hb hd (kk H locs rl hR hl hloc)

set_option maxHeartbeats 1000000 in
theorem sg_ishl (F : FC p R s mi meth c D cA ad H0 L xs d m hs hf) {pc nx a b k j : Nat} {v : Int32} {ts : List (Int32 × Nat)} {ls ls2 : List QS} {st st2 : List QV} {h h2 : QH} {pc2 : Nat} (hss : hN hs ≤ hN h ∧ hS hs ≤ hS h) (hff : hN h2 ≤ hN hf ∧ hS h2 ≤ hS hf)   (hd : decode (qbyte m) pc = .ok (.ishl, nx - pc)) (ok : okE m pc .ishl nx a b k j v ts = true) (hq : qexec some ls st h .ishl nx a b k v ts = some (nGo pc2 ls2 st2 h2)) (kk : SW p l e R s mi args below meth c Q D cA ad H0 L xs m hs pc2 ls2 st2 h2) : SW p l e R s mi args below meth c Q D cA ad H0 L xs m hs pc ls st h := by
  intro H locs rl hR hl hloc
  obtain ⟨hx, hb, hml, hown, hret, hlocks, hname, hK, hs3, hrm, hcs, had⟩ := id F
  have en : nx = pc + 1 := of_decide_eq_true ok
  subst en
  rw [Nat.add_sub_cancel_left] at hd
  obtain ⟨x, y, r, rfl, hq⟩ := e2I_inv hq
  cases hq
  exact lv_ishl hx hb hd (kk H locs rl hR hl hloc)

set_option maxHeartbeats 1000000 in
theorem sg_ishr (F : FC p R s mi meth c D cA ad H0 L xs d m hs hf) {pc nx a b k j : Nat} {v : Int32} {ts : List (Int32 × Nat)} {ls ls2 : List QS} {st st2 : List QV} {h h2 : QH} {pc2 : Nat} (hss : hN hs ≤ hN h ∧ hS hs ≤ hS h) (hff : hN h2 ≤ hN hf ∧ hS h2 ≤ hS hf)   (hd : decode (qbyte m) pc = .ok (.ishr, nx - pc)) (ok : okE m pc .ishr nx a b k j v ts = true) (hq : qexec some ls st h .ishr nx a b k v ts = some (nGo pc2 ls2 st2 h2)) (kk : SW p l e R s mi args below meth c Q D cA ad H0 L xs m hs pc2 ls2 st2 h2) : SW p l e R s mi args below meth c Q D cA ad H0 L xs m hs pc ls st h := by
  intro H locs rl hR hl hloc
  obtain ⟨hx, hb, hml, hown, hret, hlocks, hname, hK, hs3, hrm, hcs, had⟩ := id F
  have en : nx = pc + 1 := of_decide_eq_true ok
  subst en
  rw [Nat.add_sub_cancel_left] at hd
  obtain ⟨x, y, r, rfl, hq⟩ := e2I_inv hq
  cases hq
  exact lv_ishr hx hb hd (kk H locs rl hR hl hloc)

set_option maxHeartbeats 1000000 in
theorem sg_iushr (F : FC p R s mi meth c D cA ad H0 L xs d m hs hf) {pc nx a b k j : Nat} {v : Int32} {ts : List (Int32 × Nat)} {ls ls2 : List QS} {st st2 : List QV} {h h2 : QH} {pc2 : Nat} (hss : hN hs ≤ hN h ∧ hS hs ≤ hS h) (hff : hN h2 ≤ hN hf ∧ hS h2 ≤ hS hf)   (hd : decode (qbyte m) pc = .ok (.iushr, nx - pc)) (ok : okE m pc .iushr nx a b k j v ts = true) (hq : qexec some ls st h .iushr nx a b k v ts = some (nGo pc2 ls2 st2 h2)) (kk : SW p l e R s mi args below meth c Q D cA ad H0 L xs m hs pc2 ls2 st2 h2) : SW p l e R s mi args below meth c Q D cA ad H0 L xs m hs pc ls st h := by
  intro H locs rl hR hl hloc
  obtain ⟨hx, hb, hml, hown, hret, hlocks, hname, hK, hs3, hrm, hcs, had⟩ := id F
  have en : nx = pc + 1 := of_decide_eq_true ok
  subst en
  rw [Nat.add_sub_cancel_left] at hd
  obtain ⟨x, y, r, rfl, hq⟩ := e2I_inv hq
  cases hq
  exact lv_iushr hx hb hd rfl (kk H locs rl hR hl hloc)

set_option maxHeartbeats 1000000 in
theorem sg_ladd (F : FC p R s mi meth c D cA ad H0 L xs d m hs hf) {pc nx a b k j : Nat} {v : Int32} {ts : List (Int32 × Nat)} {ls ls2 : List QS} {st st2 : List QV} {h h2 : QH} {pc2 : Nat} (hss : hN hs ≤ hN h ∧ hS hs ≤ hS h) (hff : hN h2 ≤ hN hf ∧ hS h2 ≤ hS hf)   (hd : decode (qbyte m) pc = .ok (.ladd, nx - pc)) (ok : okE m pc .ladd nx a b k j v ts = true) (hq : qexec some ls st h .ladd nx a b k v ts = some (nGo pc2 ls2 st2 h2)) (kk : SW p l e R s mi args below meth c Q D cA ad H0 L xs m hs pc2 ls2 st2 h2) : SW p l e R s mi args below meth c Q D cA ad H0 L xs m hs pc ls st h := by
  intro H locs rl hR hl hloc
  obtain ⟨hx, hb, hml, hown, hret, hlocks, hname, hK, hs3, hrm, hcs, had⟩ := id F
  have en : nx = pc + 1 := of_decide_eq_true ok
  subst en
  rw [Nat.add_sub_cancel_left] at hd
  obtain ⟨x, y, r, rfl, hq⟩ := e2L_inv hq
  cases hq
  exact lv_ladd hx hb hd (kk H locs rl hR hl hloc)

set_option maxHeartbeats 1000000 in
theorem sg_lsub (F : FC p R s mi meth c D cA ad H0 L xs d m hs hf) {pc nx a b k j : Nat} {v : Int32} {ts : List (Int32 × Nat)} {ls ls2 : List QS} {st st2 : List QV} {h h2 : QH} {pc2 : Nat} (hss : hN hs ≤ hN h ∧ hS hs ≤ hS h) (hff : hN h2 ≤ hN hf ∧ hS h2 ≤ hS hf)   (hd : decode (qbyte m) pc = .ok (.lsub, nx - pc)) (ok : okE m pc .lsub nx a b k j v ts = true) (hq : qexec some ls st h .lsub nx a b k v ts = some (nGo pc2 ls2 st2 h2)) (kk : SW p l e R s mi args below meth c Q D cA ad H0 L xs m hs pc2 ls2 st2 h2) : SW p l e R s mi args below meth c Q D cA ad H0 L xs m hs pc ls st h := by
  intro H locs rl hR hl hloc
  obtain ⟨hx, hb, hml, hown, hret, hlocks, hname, hK, hs3, hrm, hcs, had⟩ := id F
  have en : nx = pc + 1 := of_decide_eq_true ok
  subst en
  rw [Nat.add_sub_cancel_left] at hd
  obtain ⟨x, y, r, rfl, hq⟩ := e2L_inv hq
  cases hq
  exact lv_lsub hx hb hd (kk H locs rl hR hl hloc)

set_option maxHeartbeats 1000000 in
theorem sg_lmul (F : FC p R s mi meth c D cA ad H0 L xs d m hs hf) {pc nx a b k j : Nat} {v : Int32} {ts : List (Int32 × Nat)} {ls ls2 : List QS} {st st2 : List QV} {h h2 : QH} {pc2 : Nat} (hss : hN hs ≤ hN h ∧ hS hs ≤ hS h) (hff : hN h2 ≤ hN hf ∧ hS h2 ≤ hS hf)   (hd : decode (qbyte m) pc = .ok (.lmul, nx - pc)) (ok : okE m pc .lmul nx a b k j v ts = true) (hq : qexec some ls st h .lmul nx a b k v ts = some (nGo pc2 ls2 st2 h2)) (kk : SW p l e R s mi args below meth c Q D cA ad H0 L xs m hs pc2 ls2 st2 h2) : SW p l e R s mi args below meth c Q D cA ad H0 L xs m hs pc ls st h := by
  intro H locs rl hR hl hloc
  obtain ⟨hx, hb, hml, hown, hret, hlocks, hname, hK, hs3, hrm, hcs, had⟩ := id F
  have en : nx = pc + 1 := of_decide_eq_true ok
  subst en
  rw [Nat.add_sub_cancel_left] at hd
  obtain ⟨x, y, r, rfl, hq⟩ := e2L_inv hq
  cases hq
  exact lv_lmul hx hb hd (kk H locs rl hR hl hloc)

set_option maxHeartbeats 1000000 in
theorem sg_lcmp (F : FC p R s mi meth c D cA ad H0 L xs d m hs hf) {pc nx a b k j : Nat} {v : Int32} {ts : List (Int32 × Nat)} {ls ls2 : List QS} {st st2 : List QV} {h h2 : QH} {pc2 : Nat} (hss : hN hs ≤ hN h ∧ hS hs ≤ hS h) (hff : hN h2 ≤ hN hf ∧ hS h2 ≤ hS hf)   (hd : decode (qbyte m) pc = .ok (.lcmp, nx - pc)) (ok : okE m pc .lcmp nx a b k j v ts = true) (hq : qexec some ls st h .lcmp nx a b k v ts = some (nGo pc2 ls2 st2 h2)) (kk : SW p l e R s mi args below meth c Q D cA ad H0 L xs m hs pc2 ls2 st2 h2) : SW p l e R s mi args below meth c Q D cA ad H0 L xs m hs pc ls st h := by
  intro H locs rl hR hl hloc
  obtain ⟨hx, hb, hml, hown, hret, hlocks, hname, hK, hs3, hrm, hcs, had⟩ := id F
  have en : nx = pc + 1 := of_decide_eq_true ok
  subst en
  rw [Nat.add_sub_cancel_left] at hd
  obtain ⟨x, y, r, rfl, hq⟩ := e2L_inv hq
  cases hq
  exact W.lcmp hx hb hd (kk H locs rl hR hl hloc)

set_option maxHeartbeats 1000000 in
theorem sg_idiv (F : FC p R s mi meth c D cA ad H0 L xs d m hs hf) {pc nx a b k j : Nat} {v : Int32} {ts : List (Int32 × Nat)} {ls ls2 : List QS} {st st2 : List QV} {h h2 : QH} {pc2 : Nat} (hss : hN hs ≤ hN h ∧ hS hs ≤ hS h) (hff : hN h2 ≤ hN hf ∧ hS h2 ≤ hS hf)   (hd : decode (qbyte m) pc = .ok (.idiv, nx - pc)) (ok : okE m pc .idiv nx a b k j v ts = true) (hq : qexec some ls st h .idiv nx a b k v ts = some (nGo pc2 ls2 st2 h2)) (kk : SW p l e R s mi args below meth c Q D cA ad H0 L xs m hs pc2 ls2 st2 h2) : SW p l e R s mi args below meth c Q D cA ad H0 L xs m hs pc ls st h := by
  intro H locs rl hR hl hloc
  obtain ⟨hx, hb, hml, hown, hret, hlocks, hname, hK, hs3, hrm, hcs, had⟩ := id F
  have en : nx = pc + 1 := of_decide_eq_true ok
  subst en
  rw [Nat.add_sub_cancel_left] at hd
  obtain ⟨x, y, r, rfl, hq1⟩ := e2I_inv hq
  by_cases hy : y = 0
  · rw [if_pos hy] at hq1; cases hq1
  · rw [if_neg hy] at hq1
    cases hq1
    exact lv_idiv hx hb hd hy (kk H locs rl hR hl hloc)

set_option maxHeartbeats 1000000 in
theorem sg_irem (F : FC p R s mi meth c D cA ad H0 L xs d m hs hf) {pc nx a b k j : Nat} {v : Int32} {ts : List (Int32 × Nat)} {ls ls2 : List QS} {st st2 : List QV} {h h2 : QH} {pc2 : Nat} (hss : hN hs ≤ hN h ∧ hS hs ≤ hS h) (hff : hN h2 ≤ hN hf ∧ hS h2 ≤ hS hf)   (hd : decode (qbyte m) pc = .ok (.irem, nx - pc)) (ok : okE m pc .irem nx a b k j v ts = true) (hq : qexec some ls st h .irem nx a b k v ts = some (nGo pc2 ls2 st2 h2)) (kk : SW p l e R s mi args below meth c Q D cA ad H0 L xs m hs pc2 ls2 st2 h2) : SW p l e R s mi args below meth c Q D cA ad H0 L xs m hs pc ls st h := by
  intro H locs rl hR hl hloc
  obtain ⟨hx, hb, hml, hown, hret, hlocks, hname, hK, hs3, hrm, hcs, had⟩ := id F
  have en : nx = pc + 1 := of_decide_eq_true ok
  subst en
  rw [Nat.add_sub_cancel_left] at hd
  obtain ⟨x, y, r, rfl, hq1⟩ := e2I_inv hq
  by_cases hy : y = 0
  · rw [if_pos hy] at hq1; cases hq1
  · rw [if_neg hy] at hq1
    cases hq1
    exact lv_irem hx hb hd hy (kk H locs rl hR hl hloc)

set_option maxHeartbeats 1000000 in
theorem sg_ldiv (F : FC p R s mi meth c D cA ad H0 L xs d m hs hf) {pc nx a b k j : Nat} {v : Int32} {ts : List (Int32 × Nat)} {ls ls2 : List QS} {st st2 : List QV} {h h2 : QH} {pc2 : Nat} (hss : hN hs ≤ hN h ∧ hS hs ≤ hS h) (hff : hN h2 ≤ hN hf ∧ hS h2 ≤ hS hf)   (hd : decode (qbyte m) pc = .ok (.ldiv, nx - pc)) (ok : okE m pc .ldiv nx a b k j v ts = true) (hq : qexec some ls st h .ldiv nx a b k v ts = some (nGo pc2 ls2 st2 h2)) (kk : SW p l e R s mi args below meth c Q D cA ad H0 L xs m hs pc2 ls2 st2 h2) : SW p l e R s mi args below meth c Q D cA ad H0 L xs m hs pc ls st h := by
  intro H locs rl hR hl hloc
  obtain ⟨hx, hb, hml, hown, hret, hlocks, hname, hK, hs3, hrm, hcs, had⟩ := id F
  have en : nx = pc + 1 := of_decide_eq_true ok
  subst en
  rw [Nat.add_sub_cancel_left] at hd
  obtain ⟨x, y, r, rfl, hq1⟩ := e2L_inv hq
  by_cases hy : y = 0
  · rw [if_pos hy] at hq1; cases hq1
  · rw [if_neg hy] at hq1
    cases hq1
    exact lv_ldiv hx hb hd hy (kk H locs rl hR hl hloc)

set_option maxHeartbeats 1000000 in
theorem sg_lrem (F : FC p R s mi meth c D cA ad H0 L xs d m hs hf) {pc nx a b k j : Nat} {v : Int32} {ts : List (Int32 × Nat)} {ls ls2 : List QS} {st st2 : List QV} {h h2 : QH} {pc2 : Nat} (hss : hN hs ≤ hN h ∧ hS hs ≤ hS h) (hff : hN h2 ≤ hN hf ∧ hS h2 ≤ hS hf)   (hd : decode (qbyte m) pc = .ok (.lrem, nx - pc)) (ok : okE m pc .lrem nx a b k j v ts = true) (hq : qexec some ls st h .lrem nx a b k v ts = some (nGo pc2 ls2 st2 h2)) (kk : SW p l e R s mi args below meth c Q D cA ad H0 L xs m hs pc2 ls2 st2 h2) : SW p l e R s mi args below meth c Q D cA ad H0 L xs m hs pc ls st h := by
  intro H locs rl hR hl hloc
  obtain ⟨hx, hb, hml, hown, hret, hlocks, hname, hK, hs3, hrm, hcs, had⟩ := id F
  have en : nx = pc + 1 := of_decide_eq_true ok
  subst en
  rw [Nat.add_sub_cancel_left] at hd
  obtain ⟨x, y, r, rfl, hq1⟩ := e2L_inv hq
  by_cases hy : y = 0
  · rw [if_pos hy] at hq1; cases hq1
  · rw [if_neg hy] at hq1
    cases hq1
    exact lv_lrem hx hb hd hy (kk H locs rl hR hl hloc)

set_option maxHeartbeats 1000000 in
theorem sg_ineg (F : FC p R s mi meth c D cA ad H0 L xs d m hs hf) {pc nx a b k j : Nat} {v : Int32} {ts : List (Int32 × Nat)} {ls ls2 : List QS} {st st2 : List QV} {h h2 : QH} {pc2 : Nat} (hss : hN hs ≤ hN h ∧ hS hs ≤ hS h) (hff : hN h2 ≤ hN hf ∧ hS h2 ≤ hS hf)   (hd : decode (qbyte m) pc = .ok (.ineg, nx - pc)) (ok : okE m pc .ineg nx a b k j v ts = true) (hq : qexec some ls st h .ineg nx a b k v ts = some (nGo pc2 ls2 st2 h2)) (kk : SW p l e R s mi args below meth c Q D cA ad H0 L xs m hs pc2 ls2 st2 h2) : SW p l e R s mi args below meth c Q D cA ad H0 L xs m hs pc ls st h := by
  intro H locs rl hR hl hloc
  obtain ⟨hx, hb, hml, hown, hret, hlocks, hname, hK, hs3, hrm, hcs, had⟩ := id F
  have en : nx = pc + 1 := of_decide_eq_true ok
  subst en
  rw [Nat.add_sub_cancel_left] at hd
  obtain ⟨w, r, rfl, hq⟩ := e1_inv hq
  obtain ⟨x, rfl, hq⟩ := eI_inv hq
  cases hq
  exact lv_ineg hx hb hd (kk H locs rl hR hl hloc)

set_option maxHeartbeats 1000000 in
theorem sg_i2l (F : FC p R s mi meth c D cA ad H0 L xs d m hs hf) {pc nx a b k j : Nat} {v : Int32} {ts : List (Int32 × Nat)} {ls ls2 : List QS} {st st2 : List QV} {h h2 : QH} {pc2 : Nat} (hss : hN hs ≤ hN h ∧ hS hs ≤ hS h) (hff : hN h2 ≤ hN hf ∧ hS h2 ≤ hS hf)   (hd : decode (qbyte m) pc = .ok (.i2l, nx - pc)) (ok : okE m pc .i2l nx a b k j v ts = true) (hq : qexec some ls st h .i2l nx a b k v ts = some (nGo pc2 ls2 st2 h2)) (kk : SW p l e R s mi args below meth c Q D cA ad H0 L xs m hs pc2 ls2 st2 h2) : SW p l e R s mi args below meth c Q D cA ad H0 L xs m hs pc ls st h := by
  intro H locs rl hR hl hloc
  obtain ⟨hx, hb, hml, hown, hret, hlocks, hname, hK, hs3, hrm, hcs, had⟩ := id F
  have en : nx = pc + 1 := of_decide_eq_true ok
  subst en
  rw [Nat.add_sub_cancel_left] at hd
  obtain ⟨w, r, rfl, hq⟩ := e1_inv hq
  obtain ⟨x, rfl, hq⟩ := eI_inv hq
  cases hq
  exact lv_i2l hx hb hd rfl (kk H locs rl hR hl hloc)

set_option maxHeartbeats 1000000 in
theorem sg_i2b (F : FC p R s mi meth c D cA ad H0 L xs d m hs hf) {pc nx a b k j : Nat} {v : Int32} {ts : List (Int32 × Nat)} {ls ls2 : List QS} {st st2 : List QV} {h h2 : QH} {pc2 : Nat} (hss : hN hs ≤ hN h ∧ hS hs ≤ hS h) (hff : hN h2 ≤ hN hf ∧ hS h2 ≤ hS hf)   (hd : decode (qbyte m) pc = .ok (.i2b, nx - pc)) (ok : okE m pc .i2b nx a b k j v ts = true) (hq : qexec some ls st h .i2b nx a b k v ts = some (nGo pc2 ls2 st2 h2)) (kk : SW p l e R s mi args below meth c Q D cA ad H0 L xs m hs pc2 ls2 st2 h2) : SW p l e R s mi args below meth c Q D cA ad H0 L xs m hs pc ls st h := by
  intro H locs rl hR hl hloc
  obtain ⟨hx, hb, hml, hown, hret, hlocks, hname, hK, hs3, hrm, hcs, had⟩ := id F
  have en : nx = pc + 1 := of_decide_eq_true ok
  subst en
  rw [Nat.add_sub_cancel_left] at hd
  obtain ⟨w, r, rfl, hq⟩ := e1_inv hq
  obtain ⟨x, rfl, hq⟩ := eI_inv hq
  cases hq
  exact lv_i2b hx hb hd rfl (kk H locs rl hR hl hloc)

set_option maxHeartbeats 1000000 in
theorem sg_i2c (F : FC p R s mi meth c D cA ad H0 L xs d m hs hf) {pc nx a b k j : Nat} {v : Int32} {ts : List (Int32 × Nat)} {ls ls2 : List QS} {st st2 : List QV} {h h2 : QH} {pc2 : Nat} (hss : hN hs ≤ hN h ∧ hS hs ≤ hS h) (hff : hN h2 ≤ hN hf ∧ hS h2 ≤ hS hf)   (hd : decode (qbyte m) pc = .ok (.i2c, nx - pc)) (ok : okE m pc .i2c nx a b k j v ts = true) (hq : qexec some ls st h .i2c nx a b k v ts = some (nGo pc2 ls2 st2 h2)) (kk : SW p l e R s mi args below meth c Q D cA ad H0 L xs m hs pc2 ls2 st2 h2) : SW p l e R s mi args below meth c Q D cA ad H0 L xs m hs pc ls st h := by
  intro H locs rl hR hl hloc
  obtain ⟨hx, hb, hml, hown, hret, hlocks, hname, hK, hs3, hrm, hcs, had⟩ := id F
  have en : nx = pc + 1 := of_decide_eq_true ok
  subst en
  rw [Nat.add_sub_cancel_left] at hd
  obtain ⟨w, r, rfl, hq⟩ := e1_inv hq
  obtain ⟨x, rfl, hq⟩ := eI_inv hq
  cases hq
  exact lv_i2c hx hb hd rfl (kk H locs rl hR hl hloc)

set_option maxHeartbeats 1000000 in
theorem sg_l2i (F : FC p R s mi meth c D cA ad H0 L xs d m hs hf) {pc nx a b k j : Nat} {v : Int32} {ts : List (Int32 × Nat)} {ls ls2 : List QS} {st st2 : List QV} {h h2 : QH} {pc2 : Nat} (hss : hN hs ≤ hN h ∧ hS hs ≤ hS h) (hff : hN h2 ≤ hN hf ∧ hS h2 ≤ hS hf)   (hd : decode (qbyte m) pc = .ok (.l2i, nx - pc)) (ok : okE m pc .l2i nx a b k j v ts = true) (hq : qexec some ls st h .l2i nx a b k v ts = some (nGo pc2 ls2 st2 h2)) (kk : SW p l e R s mi args below meth c Q D cA ad H0 L xs m hs pc2 ls2 st2 h2) : SW p l e R s mi args below meth c Q D cA ad H0 L xs m hs pc ls st h := by
  intro H locs rl hR hl hloc
  obtain ⟨hx, hb, hml, hown, hret, hlocks, hname, hK, hs3, hrm, hcs, had⟩ := id F
  have en : nx = pc + 1 := of_decide_eq_true ok
  subst en
  rw [Nat.add_sub_cancel_left] at hd
  obtain ⟨w, r, rfl, hq⟩ := e1_inv hq
  obtain ⟨x, rfl, hq⟩ := eL_inv hq
  cases hq
  exact lv_l2i hx hb hd rfl (kk H locs rl hR hl hloc)

set_option maxHeartbeats 1000000 in
theorem sg_dup (F : FC p R s mi meth c D cA ad H0 L xs d m hs hf) {pc nx a b k j : Nat} {v : Int32} {ts : List (Int32 × Nat)} {ls ls2 : List QS} {st st2 : List QV} {h h2 : QH} {pc2 : Nat} (hss : hN hs ≤ hN h ∧ hS hs ≤ hS h) (hff : hN h2 ≤ hN hf ∧ hS h2 ≤ hS hf)   (hd : decode (qbyte m) pc = .ok (.dup, nx - pc)) (ok : okE m pc .dup nx a b k j v ts = true) (hq : qexec some ls st h .dup nx a b k v ts = some (nGo pc2 ls2 st2 h2)) (kk : SW p l e R s mi args below meth c Q D cA ad H0 L xs m hs pc2 ls2 st2 h2) : SW p l e R s mi args below meth c Q D cA ad H0 L xs m hs pc ls st h := by
  intro H locs rl hR hl hloc
  obtain ⟨hx, hb, hml, hown, hret, hlocks, hname, hK, hs3, hrm, hcs, had⟩ := id F
  have en : nx = pc + 1 := of_decide_eq_true ok
  subst en
  rw [Nat.add_sub_cancel_left] at hd
  obtain ⟨w, r, rfl, hq⟩ := e1_inv hq
  obtain ⟨hw, hq⟩ := eC_inv hq
  cases hq
  exact lv_dup hx hb hd (qrz_cat hw) (kk H locs rl hR hl hloc)

set_option maxHeartbeats 1000000 in
theorem sg_pop (F : FC p R s mi meth c D cA ad H0 L xs d m hs hf) {pc nx a b k j : Nat} {v : Int32} {ts : List (Int32 × Nat)} {ls ls2 : List QS} {st st2 : List QV} {h h2 : QH} {pc2 : Nat} (hss : hN hs ≤ hN h ∧ hS hs ≤ hS h) (hff : hN h2 ≤ hN hf ∧ hS h2 ≤ hS hf)   (hd : decode (qbyte m) pc = .ok (.pop, nx - pc)) (ok : okE m pc .pop nx a b k j v ts = true) (hq : qexec some ls st h .pop nx a b k v ts = some (nGo pc2 ls2 st2 h2)) (kk : SW p l e R s mi args below meth c Q D cA ad H0 L xs m hs pc2 ls2 st2 h2) : SW p l e R s mi args below meth c Q D cA ad H0 L xs m hs pc ls st h := by
  intro H locs rl hR hl hloc
  obtain ⟨hx, hb, hml, hown, hret, hlocks, hname, hK, hs3, hrm, hcs, had⟩ := id F
  have en : nx = pc + 1 := of_decide_eq_true ok
  subst en
  rw [Nat.add_sub_cancel_left] at hd
  obtain ⟨w, r, rfl, hq⟩ := e1_inv hq
  obtain ⟨hw, hq⟩ := eC_inv hq
  cases hq
  exact lv_pop hx hb hd (qrz_cat hw) (kk H locs rl hR hl hloc)

set_option maxHeartbeats 1000000 in
theorem sg_dup2 (F : FC p R s mi meth c D cA ad H0 L xs d m hs hf) {pc nx a b k j : Nat} {v : Int32} {ts : List (Int32 × Nat)} {ls ls2 : List QS} {st st2 : List QV} {h h2 : QH} {pc2 : Nat} (hss : hN hs ≤ hN h ∧ hS hs ≤ hS h) (hff : hN h2 ≤ hN hf ∧ hS h2 ≤ hS hf)   (hd : decode (qbyte m) pc = .ok (.dup2, nx - pc)) (ok : okE m pc .dup2 nx a b k j v ts = true) (hq : qexec some ls st h .dup2 nx a b k v ts = some (nGo pc2 ls2 st2 h2)) (kk : SW p l e R s mi args below meth c Q D cA ad H0 L xs m hs pc2 ls2 st2 h2) : SW p l e R s mi args below meth c Q D cA ad H0 L xs m hs pc ls st h := by
  intro H locs rl hR hl hloc
  obtain ⟨hx, hb, hml, hown, hret, hlocks, hname, hK, hs3, hrm, hcs, had⟩ := id F
  have en : nx = pc + 1 := of_decide_eq_true ok
  subst en
  rw [Nat.add_sub_cancel_left] at hd
  obtain ⟨w, r1, rfl, hq⟩ := e1_inv hq
  obtain ⟨u, r, rfl, hq⟩ := e1_inv hq
  obtain ⟨hw, hq⟩ := eC_inv hq
  obtain ⟨hu, hq⟩ := eC_inv hq
  cases hq
  exact lv_dup2_11 hx hb hd (qrz_cat hw) (qrz_cat hu) (kk H locs rl hR hl hloc)

set_option maxHeartbeats 1000000 in
theorem sg_goto (F : FC p R s mi meth c D cA ad H0 L xs d m hs hf) {pc nx a b k j : Nat} {v : Int32} {ts : List (Int32 × Nat)} {ls ls2 : List QS} {st st2 : List QV} {h h2 : QH} {pc2 : Nat} (hss : hN hs ≤ hN h ∧ hS hs ≤ hS h) (hff : hN h2 ≤ hN hf ∧ hS h2 ≤ hS hf)  {off : Int} (hd : decode (qbyte m) pc = .ok ((.goto off), nx - pc)) (ok : okE m pc (.goto off) nx a b k j v ts = true) (hq : qexec some ls st h (.goto off) nx a b k v ts = some (nGo pc2 ls2 st2 h2)) (kk : SW p l e R s mi args below meth c Q D cA ad H0 L xs m hs pc2 ls2 st2 h2) : SW p l e R s mi args below meth c Q D cA ad H0 L xs m hs pc ls st h := by
  intro H locs rl hR hl hloc
  obtain ⟨hx, hb, hml, hown, hret, hlocks, hname, hK, hs3, hrm, hcs, had⟩ := id F
  have ok : (decide (nx = pc + 3) && decide ((pc : Int) + off = (a : Int))) = true := ok
  simp only [Bool.and_eq_true, decide_eq_true_eq] at ok
  obtain ⟨en, ht⟩ := ok
  subst en
  rw [Nat.add_sub_cancel_left] at hd
  cases hq
  exact lv_goto hx hb hd ht (kk H locs rl hR hl hloc)

set_option maxHeartbeats 1000000 in
theorem sg_if_eq (F : FC p R s mi meth c D cA ad H0 L xs d m hs hf) {pc nx a b k j : Nat} {v : Int32} {ts : List (Int32 × Nat)} {ls ls2 : List QS} {st st2 : List QV} {h h2 : QH} {pc2 : Nat} (hss : hN hs ≤ hN h ∧ hS hs ≤ hS h) (hff : hN h2 ≤ hN hf ∧ hS h2 ≤ hS hf)  {off : Int} (hd : decode (qbyte m) pc = .ok ((.ifCond .eq off), nx - pc)) (ok : okE m pc (.ifCond .eq off) nx a b k j v ts = true) (hq : qexec some ls st h (.ifCond .eq off) nx a b k v ts = some (nGo pc2 ls2 st2 h2)) (kk : SW p l e R s mi args below meth c Q D cA ad H0 L xs m hs pc2 ls2 st2 h2) : SW p l e R s mi args below meth c Q D cA ad H0 L xs m hs pc ls st h := by
  intro H locs rl hR hl hloc
  obtain ⟨hx, hb, hml, hown, hret, hlocks, hname, hK, hs3, hrm, hcs, had⟩ := id F
  have ok : (decide (nx = pc + 3) && decide ((pc : Int) + off = (a : Int))) = true := ok
  simp only [Bool.and_eq_true, decide_eq_true_eq] at ok
  obtain ⟨en, ht⟩ := ok
  subst en
  rw [Nat.add_sub_cancel_left] at hd
  obtain ⟨w, r, rfl, hq⟩ := e1_inv hq
  obtain ⟨x, rfl, hq⟩ := eI_inv hq
  have hq1 : (if x = 0 then some (nGo a ls r h) else some (nGo (pc + 3) ls r h)) = some (nGo pc2 ls2 st2 h2) := hq
  refine lv_if_eq hx hb hd ht (fun hc => ?_) (fun hc => ?_) <;> by_cases hz : x = 0
  all_goals first
    | (exfalso; revert hc hz; simp only [Int32.lt_iff_toInt_lt, Int32.le_iff_toInt_le, ← Int32.toInt_inj, Int32.toInt_zero]; omega)
    | (rw [if_pos hz] at hq1; cases hq1; exact kk H locs rl hR hl hloc)
    | (rw [if_neg hz] at hq1; cases hq1; exact kk H locs rl hR hl hloc)

set_option maxHeartbeats 1000000 in
theorem sg_icmp_eq (F : FC p R s mi meth c D cA ad H0 L xs d m hs hf) {pc nx a b k j : Nat} {v : Int32} {ts : List (Int32 × Nat)} {ls ls2 : List QS} {st st2 : List QV} {h h2 : QH} {pc2 : Nat} (hss : hN hs ≤ hN h ∧ hS hs ≤ hS h) (hff : hN h2 ≤ hN hf ∧ hS h2 ≤ hS hf)  {off : Int} (hd : decode (qbyte m) pc = .ok ((.if_icmp .eq off), nx - pc)) (ok : okE m pc (.if_icmp .eq off) nx a b k j v ts = true) (hq : qexec some ls st h (.if_icmp .eq off) nx a b k v ts = some (nGo pc2 ls2 st2 h2)) (kk : SW p l e R s mi args below meth c Q D cA ad H0 L xs m hs pc2 ls2 st2 h2) : SW p l e R s mi args below meth c Q D cA ad H0 L xs m hs pc ls st h := by
  intro H locs rl hR hl hloc
  obtain ⟨hx, hb, hml, hown, hret, hlocks, hname, hK, hs3, hrm, hcs, had⟩ := id F
  have ok : (decide (nx = pc + 3) && decide ((pc : Int) + off = (a : Int))) = true := ok
  simp only [Bool.and_eq_true, decide_eq_true_eq] at ok
  obtain ⟨en, ht⟩ := ok
  subst en
  rw [Nat.add_sub_cancel_left] at hd
  obtain ⟨x, y, r, rfl, hq⟩ := e2I_inv hq
  have hq1 : (if x = y then some (nGo a ls r h) else some (nGo (pc + 3) ls r h)) = some (nGo pc2 ls2 st2 h2) := hq
  refine lv_icmp_eq hx hb hd ht (fun hc => ?_) (fun hc => ?_) <;> by_cases hz : x = y
  all_goals first
    | (exfalso; revert hc hz; simp only [Int32.lt_iff_toInt_lt, Int32.le_iff_toInt_le, ← Int32.toInt_inj, Int32.toInt_zero]; omega)
    | (rw [if_pos hz] at hq1; cases hq1; exact kk H locs rl hR hl hloc)
    | (rw [if_neg hz] at hq1; cases hq1; exact kk H locs rl hR hl hloc)

set_option maxHeartbeats 1000000 in
theorem sg_if_ne (F : FC p R s mi meth c D cA ad H0 L xs d m hs hf) {pc nx a b k j : Nat} {v : Int32} {ts : List (Int32 × Nat)} {ls ls2 : List QS} {st st2 : List QV} {h h2 : QH} {pc2 : Nat} (hss : hN hs ≤ hN h ∧ hS hs ≤ hS h) (hff : hN h2 ≤ hN hf ∧ hS h2 ≤ hS hf)  {off : Int} (hd : decode (qbyte m) pc = .ok ((.ifCond .ne off), nx - pc)) (ok : okE m pc (.ifCond .ne off) nx a b k j v ts = true) (hq : qexec some ls st h (.ifCond .ne off) nx a b k v ts = some (nGo pc2 ls2 st2 h2)) (kk : SW p l e R s mi args below meth c Q D cA ad H0 L xs m hs pc2 ls2 st2 h2) : SW p l e R s mi args below meth c Q D cA ad H0 L xs m hs pc ls st h := by
  intro H locs rl hR hl hloc
  obtain ⟨hx, hb, hml, hown, hret, hlocks, hname, hK, hs3, hrm, hcs, had⟩ := id F
  have ok : (decide (nx = pc + 3) && decide ((pc : Int) + off = (a : Int))) = true := ok
  simp only [Bool.and_eq_true, decide_eq_true_eq] at ok
  obtain ⟨en, ht⟩ := ok
  subst en
  rw [Nat.add_sub_cancel_left] at hd
  obtain ⟨w, r, rfl, hq⟩ := e1_inv hq
  obtain ⟨x, rfl, hq⟩ := eI_inv hq
  have hq1 : (if x = 0 then some (nGo (pc + 3) ls r h) else some (nGo a ls r h)) = some (nGo pc2 ls2 st2 h2) := hq
  refine lv_if_ne hx hb hd ht (fun hc => ?_) (fun hc => ?_) <;> by_cases hz : x = 0
  all_goals first
    | (exfalso; revert hc hz; simp only [Int32.lt_iff_toInt_lt, Int32.le_iff_toInt_le, ← Int32.toInt_inj, Int32.toInt_zero]; omega)
    | (rw [if_pos hz] at hq1; cases hq1; exact kk H locs rl hR hl hloc)
    | (rw [if_neg hz] at hq1; cases hq1; exact kk H locs rl hR hl hloc)

set_option maxHeartbeats 1000000 in
theorem sg_icmp_ne (F : FC p R s mi meth c D cA ad H0 L xs d m hs hf) {pc nx a b k j : Nat} {v : Int32} {ts : List (Int32 × Nat)} {ls ls2 : List QS} {st st2 : List QV} {h h2 : QH} {pc2 : Nat} (hss : hN hs ≤ hN h ∧ hS hs ≤ hS h) (hff : hN h2 ≤ hN hf ∧ hS h2 ≤ hS hf)  {off : Int} (hd : decode (qbyte m) pc = .ok ((.if_icmp .ne off), nx - pc)) (ok : okE m pc (.if_icmp .ne off) nx a b k j v ts = true) (hq : qexec some ls st h (.if_icmp .ne off) nx a b k v ts = some (nGo pc2 ls2 st2 h2)) (kk : SW p l e R s mi args below meth c Q D cA ad H0 L xs m hs pc2 ls2 st2 h2) : SW p l e R s mi args below meth c Q D cA ad H0 L xs m hs pc ls st h := by
  intro H locs rl hR hl hloc
  obtain ⟨hx, hb, hml, hown, hret, hlocks, hname, hK, hs3, hrm, hcs, had⟩ := id F
  have ok : (decide (nx = pc + 3) && decide ((pc : Int) + off = (a : Int))) = true := ok
  simp only [Bool.and_eq_true, decide_eq_true_eq] at ok
  obtain ⟨en, ht⟩ := ok
  subst en
  rw [Nat.add_sub_cancel_left] at hd
  obtain ⟨x, y, r, rfl, hq⟩ := e2I_inv hq
  have hq1 : (if x = y then some (nGo (pc + 3) ls r h) else some (nGo a ls r h)) = some (nGo pc2 ls2 st2 h2) := hq
  refine lv_icmp_ne hx hb hd ht (fun hc => ?_) (fun hc => ?_) <;> by_cases hz : x = y
  all_goals first
    | (exfalso; revert hc hz; simp only [Int32.lt_iff_toInt_lt, Int32.le_iff_toInt_le, ← Int32.toInt_inj, Int32.toInt_zero]; omega)
    | (rw [if_pos hz] at hq1; cases hq1; exact kk H locs rl hR hl hloc)
    | (rw [if_neg hz] at hq1; cases hq1; exact kk H locs rl hR hl hloc)

set_option maxHeartbeats 1000000 in
theorem sg_if_lt (F : FC p R s mi meth c D cA ad H0 L xs d m hs hf) {pc nx a b k j : Nat} {v : Int32} {ts : List (Int32 × Nat)} {ls ls2 : List QS} {st st2 : List QV} {h h2 : QH} {pc2 : Nat} (hss : hN hs ≤ hN h ∧ hS hs ≤ hS h) (hff : hN h2 ≤ hN hf ∧ hS h2 ≤ hS hf)  {off : Int} (hd : decode (qbyte m) pc = .ok ((.ifCond .lt off), nx - pc)) (ok : okE m pc (.ifCond .lt off) nx a b k j v ts = true) (hq : qexec some ls st h (.ifCond .lt off) nx a b k v ts = some (nGo pc2 ls2 st2 h2)) (kk : SW p l e R s mi args below meth c Q D cA ad H0 L xs m hs pc2 ls2 st2 h2) : SW p l e R s mi args below meth c Q D cA ad H0 L xs m hs pc ls st h := by
  intro H locs rl hR hl hloc
  obtain ⟨hx, hb, hml, hown, hret, hlocks, hname, hK, hs3, hrm, hcs, had⟩ := id F
  have ok : (decide (nx = pc + 3) && decide ((pc : Int) + off = (a : Int))) = true := ok
  simp only [Bool.and_eq_true, decide_eq_true_eq] at ok
  obtain ⟨en, ht⟩ := ok
  subst en
  rw [Nat.add_sub_cancel_left] at hd
  obtain ⟨w, r, rfl, hq⟩ := e1_inv hq
  obtain ⟨x, rfl, hq⟩ := eI_inv hq
  have hq1 : (if x < 0 then some (nGo a ls r h) else some (nGo (pc + 3) ls r h)) = some (nGo pc2 ls2 st2 h2) := hq
  refine lv_if_lt hx hb hd ht (fun hc => ?_) (fun hc => ?_) <;> by_cases hz : x < 0
  all_goals first
    | (exfalso; revert hc hz; simp only [Int32.lt_iff_toInt_lt, Int32.le_iff_toInt_le, ← Int32.toInt_inj, Int32.toInt_zero]; omega)
    | (rw [if_pos hz] at hq1; cases hq1; exact kk H locs rl hR hl hloc)
    | (rw [if_neg hz] at hq1; cases hq1; exact kk H locs rl hR hl hloc)

set_option maxHeartbeats 1000000 in
theorem sg_icmp_lt (F : FC p R s mi meth c D cA ad H0 L xs d m hs hf) {pc nx a b k j : Nat} {v : Int32} {ts : List (Int32 × Nat)} {ls ls2 : List QS} {st st2 : List QV} {h h2 : QH} {pc2 : Nat} (hss : hN hs ≤ hN h ∧ hS hs ≤ hS h) (hff : hN h2 ≤ hN hf ∧ hS h2 ≤ hS hf)  {off : Int} (hd : decode (qbyte m) pc = .ok ((.if_icmp .lt off), nx - pc)) (ok : okE m pc (.if_icmp .lt off) nx a b k j v ts = true) (hq : qexec some ls st h (.if_icmp .lt off) nx a b k v ts = some (nGo pc2 ls2 st2 h2)) (kk : SW p l e R s mi args below meth c Q D cA ad H0 L xs m hs pc2 ls2 st2 h2) : SW p l e R s mi args below meth c Q D cA ad H0 L xs m hs pc ls st h := by
  intro H locs rl hR hl hloc
  obtain ⟨hx, hb, hml, hown, hret, hlocks, hname, hK, hs3, hrm, hcs, had⟩ := id F
  have ok : (decide (nx = pc + 3) && decide ((pc : Int) + off = (a : Int))) = true := ok
  simp only [Bool.and_eq_true, decide_eq_true_eq] at ok
  obtain ⟨en, ht⟩ := ok
  subst en
  rw [Nat.add_sub_cancel_left] at hd
  obtain ⟨x, y, r, rfl, hq⟩ := e2I_inv hq
  have hq1 : (if x < y then some (nGo a ls r h) else some (nGo (pc + 3) ls r h)) = some (nGo pc2 ls2 st2 h2) := hq
  refine lv_icmp_lt hx hb hd ht (fun hc => ?_) (fun hc => ?_) <;> by_cases hz : x < y
  all_goals first
    | (exfalso; revert hc hz; simp only [Int32.lt_iff_toInt_lt, Int32.le_iff_toInt_le, ← Int32.toInt_inj, Int32.toInt_zero]; omega)
    | (rw [if_pos hz] at hq1; cases hq1; exact kk H locs rl hR hl hloc)
    | (rw [if_neg hz] at hq1; cases hq1; exact kk H locs rl hR hl hloc)

set_option maxHeartbeats 1000000 in
theorem sg_if_ge (F : FC p R s mi meth c D cA ad H0 L xs d m hs hf) {pc nx a b k j : Nat} {v : Int32} {ts : List (Int32 × Nat)} {ls ls2 : List QS} {st st2 : List QV} {h h2 : QH} {pc2 : Nat} (hss : hN hs ≤ hN h ∧ hS hs ≤ hS h) (hff : hN h2 ≤ hN hf ∧ hS h2 ≤ hS hf)  {off : Int} (hd : decode (qbyte m) pc = .ok ((.ifCond .ge off), nx - pc)) (ok : okE m pc (.ifCond .ge off) nx a b k j v ts = true) (hq : qexec some ls st h (.ifCond .ge off) nx a b k v ts = some (nGo pc2 ls2 st2 h2)) (kk : SW p l e R s mi args below meth c Q D cA ad H0 L xs m hs pc2 ls2 st2 h2) : SW p l e R s mi args below meth c Q D cA ad H0 L xs m hs pc ls st h := by
  intro H locs rl hR hl hloc
  obtain ⟨hx, hb, hml, hown, hret, hlocks, hname, hK, hs3, hrm, hcs, had⟩ := id F
  have ok : (decide (nx = pc + 3) && decide ((pc : Int) + off = (a : Int))) = true := ok
  simp only [Bool.and_eq_true, decide_eq_true_eq] at ok
  obtain ⟨en, ht⟩ := ok
  subst en
  rw [Nat.add_sub_cancel_left] at hd
  obtain ⟨w, r, rfl, hq⟩ := e1_inv hq
  obtain ⟨x, rfl, hq⟩ := eI_inv hq
  have hq1 : (if x < 0 then some (nGo (pc + 3) ls r h) else some (nGo a ls r h)) = some (nGo pc2 ls2 st2 h2) := hq
  refine lv_if_ge hx hb hd ht (fun hc => ?_) (fun hc => ?_) <;> by_cases hz : x < 0
  all_goals first
    | (exfalso; revert hc hz; simp only [Int32.lt_iff_toInt_lt, Int32.le_iff_toInt_le, ← Int32.toInt_inj, Int32.toInt_zero]; omega)
    | (rw [if_pos hz] at hq1; cases hq1; exact kk H locs rl hR hl hloc)
    | (rw [if_neg hz] at hq1; cases hq1; exact kk H locs rl hR hl hloc)

set_option maxHeartbeats 1000000 in
theorem sg_icmp_ge (F : FC p R s mi meth c D cA ad H0 L xs d m hs hf) {pc nx a b k j : Nat} {v : Int32} {ts : List (Int32 × Nat)} {ls ls2 : List QS} {st st2 : List QV} {h h2 : QH} {pc2 : Nat} (hss : hN hs ≤ hN h ∧ hS hs ≤ hS h) (hff : hN h2 ≤ hN hf ∧ hS h2 ≤ hS hf)  {off : Int} (hd : decode (qbyte m) pc = .ok ((.if_icmp .ge off), nx - pc)) (ok : okE m pc (.if_icmp .ge off) nx a b k j v ts = true) (hq : qexec some ls st h (.if_icmp .ge off) nx a b k v ts = some (nGo pc2 ls2 st2 h2)) (kk : SW p l e R s mi args below meth c Q D cA ad H0 L xs m hs pc2 ls2 st2 h2) : SW p l e R s mi args below meth c Q D cA ad H0 L xs m hs pc ls st h := by
  intro H locs rl hR hl hloc
  obtain ⟨hx, hb, hml, hown, hret, hlocks, hname, hK, hs3, hrm, hcs, had⟩ := id F
  have ok : (decide (nx = pc + 3) && decide ((pc : Int) + off = (a : Int))) = true := ok
  simp only [Bool.and_eq_true, decide_eq_true_eq] at ok
  obtain ⟨en, ht⟩ := ok
  subst en
  rw [Nat.add_sub_cancel_left] at hd
  obtain ⟨x, y, r, rfl, hq⟩ := e2I_inv hq
  have hq1 : (if x < y then some (nGo (pc + 3) ls r h) else some (nGo a ls r h)) = some (nGo pc2 ls2 st2 h2) := hq
  refine lv_icmp_ge hx hb hd ht (fun hc => ?_) (fun hc => ?_) <;> by_cases hz : x < y
  all_goals first
    | (exfalso; revert hc hz; simp only [Int32.lt_iff_toInt_lt, Int32.le_iff_toInt_le, ← Int32.toInt_inj, Int32.toInt_zero]; omega)
    | (rw [if_pos hz] at hq1; cases hq1; exact kk H locs rl hR hl hloc)
    | (rw [if_neg hz] at hq1; cases hq1; exact kk H locs rl hR hl hloc)

set_option maxHeartbeats 1000000 in
theorem sg_if_gt (F : FC p R s mi meth c D cA ad H0 L xs d m hs hf) {pc nx a b k j : Nat} {v : Int32} {ts : List (Int32 × Nat)} {ls ls2 : List QS} {st st2 : List QV} {h h2 : QH} {pc2 : Nat} (hss : hN hs ≤ hN h ∧ hS hs ≤ hS h) (hff : hN h2 ≤ hN hf ∧ hS h2 ≤ hS hf)  {off : Int} (hd : decode (qbyte m) pc = .ok ((.ifCond .gt off), nx - pc)) (ok : okE m pc (.ifCond .gt off) nx a b k j v ts = true) (hq : qexec some ls st h (.ifCond .gt off) nx a b k v ts = some (nGo pc2 ls2 st2 h2)) (kk : SW p l e R s mi args below meth c Q D cA ad H0 L xs m hs pc2 ls2 st2 h2) : SW p l e R s mi args below meth c Q D cA ad H0 L xs m hs pc ls st h := by
  intro H locs rl hR hl hloc
  obtain ⟨hx, hb, hml, hown, hret, hlocks, hname, hK, hs3, hrm, hcs, had⟩ := id F
  have ok : (decide (nx = pc + 3) && decide ((pc : Int) + off = (a : Int))) = true := ok
  simp only [Bool.and_eq_true, decide_eq_true_eq] at ok
  obtain ⟨en, ht⟩ := ok
  subst en
  rw [Nat.add_sub_cancel_left] at hd
  obtain ⟨w, r, rfl, hq⟩ := e1_inv hq
  obtain ⟨x, rfl, hq⟩ := eI_inv hq
  have hq1 : (if 0 < x then some (nGo a ls r h) else some (nGo (pc + 3) ls r h)) = some (nGo pc2 ls2 st2 h2) := hq
  refine lv_if_gt hx hb hd ht (fun hc => ?_) (fun hc => ?_) <;> by_cases hz : 0 < x
  all_goals first
    | (exfalso; revert hc hz; simp only [Int32.lt_iff_toInt_lt, Int32.le_iff_toInt_le, ← Int32.toInt_inj, Int32.toInt_zero]; omega)
    | (rw [if_pos hz] at hq1; cases hq1; exact kk H locs rl hR hl hloc)
    | (rw [if_neg hz] at hq1; cases hq1; exact kk H locs rl hR hl hloc)

set_option maxHeartbeats 1000000 in
theorem sg_icmp_gt (F : FC p R s mi meth c D cA ad H0 L xs d m hs hf) {pc nx a b k j : Nat} {v : Int32} {ts : List (Int32 × Nat)} {ls ls2 : List QS} {st st2 : List QV} {h h2 : QH} {pc2 : Nat} (hss : hN hs ≤ hN h ∧ hS hs ≤ hS h) (hff : hN h2 ≤ hN hf ∧ hS h2 ≤ hS hf)  {off : Int} (hd : decode (qbyte m) pc = .ok ((.if_icmp .gt off), nx - pc)) (ok : okE m pc (.if_icmp .gt off) nx a b k j v ts = true) (hq : qexec some ls st h (.if_icmp .gt off) nx a b k v ts = some (nGo pc2 ls2 st2 h2)) (kk : SW p l e R s mi args below meth c Q D cA ad H0 L xs m hs pc2 ls2 st2 h2) : SW p l e R s mi args below meth c Q D cA ad H0 L xs m hs pc ls st h := by
  intro H locs rl hR hl hloc
  obtain ⟨hx, hb, hml, hown, hret, hlocks, hname, hK, hs3, hrm, hcs, had⟩ := id F
  have ok : (decide (nx = pc + 3) && decide ((pc : Int) + off = (a : Int))) = true := ok
  simp only [Bool.and_eq_true, decide_eq_true_eq] at ok
  obtain ⟨en, ht⟩ := ok
  subst en
  rw [Nat.add_sub_cancel_left] at hd
  obtain ⟨x, y, r, rfl, hq⟩ := e2I_inv hq
  have hq1 : (if y < x then some (nGo a ls r h) else some (nGo (pc + 3) ls r h)) = some (nGo pc2 ls2 st2 h2) := hq
  refine lv_icmp_gt hx hb hd ht (fun hc => ?_) (fun hc => ?_) <;> by_cases hz : y < x
  all_goals first
    | (exfalso; revert hc hz; simp only [Int32.lt_iff_toInt_lt, Int32.le_iff_toInt_le, ← Int32.toInt_inj, Int32.toInt_zero]; omega)
    | (rw [if_pos hz] at hq1; cases hq1; exact kk H locs rl hR hl hloc)
    | (rw [if_neg hz] at hq1; cases hq1; exact kk H locs rl hR hl hloc)

set_option maxHeartbeats 1000000 in
theorem sg_if_le (F : FC p R s mi meth c D cA ad H0 L xs d m hs hf) {pc nx a b k j : Nat} {v : Int32} {ts : List (Int32 × Nat)} {ls ls2 : List QS} {st st2 : List QV} {h h2 : QH} {pc2 : Nat} (hss : hN hs ≤ hN h ∧ hS hs ≤ hS h) (hff : hN h2 ≤ hN hf ∧ hS h2 ≤ hS hf)  {off : Int} (hd : decode (qbyte m) pc = .ok ((.ifCond .le off), nx - pc)) (ok : okE m pc (.ifCond .le off) nx a b k j v ts = true) (hq : qexec some ls st h (.ifCond .le off) nx a b k v ts = some (nGo pc2 ls2 st2 h2)) (kk : SW p l e R s mi args below meth c Q D cA ad H0 L xs m hs pc2 ls2 st2 h2) : SW p l e R s mi args below meth c Q D cA ad H0 L xs m hs pc ls st h := by
  intro H locs rl hR hl hloc
  obtain ⟨hx, hb, hml, hown, hret, hlocks, hname, hK, hs3, hrm, hcs, had⟩ := id F
  have ok : (decide (nx = pc + 3) && decide ((pc : Int) + off = (a : Int))) = true := ok
  simp only [Bool.and_eq_true, decide_eq_true_eq] at ok
  obtain ⟨en, ht⟩ := ok
  subst en
  rw [Nat.add_sub_cancel_left] at hd
  obtain ⟨w, r, rfl, hq⟩ := e1_inv hq
  obtain ⟨x, rfl, hq⟩ := eI_inv hq
  have hq1 : (if 0 < x then some (nGo (pc + 3) ls r h) else some (nGo a ls r h)) = some (nGo pc2 ls2 st2 h2) := hq
  refine lv_if_le hx hb hd ht (fun hc => ?_) (fun hc => ?_) <;> by_cases hz : 0 < x
  all_goals first
    | (exfalso; revert hc hz; simp only [Int32.lt_iff_toInt_lt, Int32.le_iff_toInt_le, ← Int32.toInt_inj, Int32.toInt_zero]; omega)
    | (rw [if_pos hz] at hq1; cases hq1; exact kk H locs rl hR hl hloc)
    | (rw [if_neg hz] at hq1; cases hq1; exact kk H locs rl hR hl hloc)

set_option maxHeartbeats 1000000 in
theorem sg_icmp_le (F : FC p R s mi meth c D cA ad H0 L xs d m hs hf) {pc nx a b k j : Nat} {v : Int32} {ts : List (Int32 × Nat)} {ls ls2 : List QS} {st st2 : List QV} {h h2 : QH} {pc2 : Nat} (hss : hN hs ≤ hN h ∧ hS hs ≤ hS h) (hff : hN h2 ≤ hN hf ∧ hS h2 ≤ hS hf)  {off : Int} (hd : decode (qbyte m) pc = .ok ((.if_icmp .le off), nx - pc)) (ok : okE m pc (.if_icmp .le off) nx a b k j v ts = true) (hq : qexec some ls st h (.if_icmp .le off) nx a b k v ts = some (nGo pc2 ls2 st2 h2)) (kk : SW p l e R s mi args below meth c Q D cA ad H0 L xs m hs pc2 ls2 st2 h2) : SW p l e R s mi args below meth c Q D cA ad H0 L xs m hs pc ls st h := by
  intro H locs rl hR hl hloc
  obtain ⟨hx, hb, hml, hown, hret, hlocks, hname, hK, hs3, hrm, hcs, had⟩ := id F
  have ok : (decide (nx = pc + 3) && decide ((pc : Int) + off = (a : Int))) = true := ok
  simp only [Bool.and_eq_true, decide_eq_true_eq] at ok
  obtain ⟨en, ht⟩ := ok
  subst en
  rw [Nat.add_sub_cancel_left] at hd
  obtain ⟨x, y, r, rfl, hq⟩ := e2I_inv hq
  have hq1 : (if y < x then some (nGo (pc + 3) ls r h) else some (nGo a ls r h)) = some (nGo pc2 ls2 st2 h2) := hq
  refine lv_icmp_le hx hb hd ht (fun hc => ?_) (fun hc => ?_) <;> by_cases hz : y < x
  all_goals first
    | (exfalso; revert hc hz; simp only [Int32.lt_iff_toInt_lt, Int32.le_iff_toInt_le, ← Int32.toInt_inj, Int32.toInt_zero]; omega)
    | (rw [if_pos hz] at hq1; cases hq1; exact kk H locs rl hR hl hloc)
    | (rw [if_neg hz] at hq1; cases hq1; exact kk H locs rl hR hl hloc)

set_option maxHeartbeats 1000000 in
theorem sg_ifnull (F : FC p R s mi meth c D cA ad H0 L xs d m hs hf) {pc nx a b k j : Nat} {v : Int32} {ts : List (Int32 × Nat)} {ls ls2 : List QS} {st st2 : List QV} {h h2 : QH} {pc2 : Nat} (hss : hN hs ≤ hN h ∧ hS hs ≤ hS h) (hff : hN h2 ≤ hN hf ∧ hS h2 ≤ hS hf)  {off : Int} (hd : decode (qbyte m) pc = .ok ((.ifnull off), nx - pc)) (ok : okE m pc (.ifnull off) nx a b k j v ts = true) (hq : qexec some ls st h (.ifnull off) nx a b k v ts = some (nGo pc2 ls2 st2 h2)) (kk : SW p l e R s mi args below meth c Q D cA ad H0 L xs m hs pc2 ls2 st2 h2) : SW p l e R s mi args below meth c Q D cA ad H0 L xs m hs pc ls st h := by
  intro H locs rl hR hl hloc
  obtain ⟨hx, hb, hml, hown, hret, hlocks, hname, hK, hs3, hrm, hcs, had⟩ := id F
  have ok : (decide (nx = pc + 3) && decide ((pc : Int) + off = (a : Int))) = true := ok
  simp only [Bool.and_eq_true, decide_eq_true_eq] at ok
  obtain ⟨en, ht⟩ := ok
  subst en
  rw [Nat.add_sub_cancel_left] at hd
  obtain ⟨w, r, rfl, hq1⟩ := e1_inv hq
  obtain ⟨x, rfl, hq2⟩ := eR_inv hq1
  cases x with
  | none =>
    rw [if_pos rfl] at hq2
    cases hq2
    exact lv_ifnullN hx hb hd ht (kk H locs rl hR hl hloc)
  | some x =>
    rw [if_neg (fun z => by cases z)] at hq2
    cases hq2
    exact lv_ifnull hx hb hd (kk H locs rl hR hl hloc)

set_option maxHeartbeats 1000000 in
theorem sg_ifnonnull (F : FC p R s mi meth c D cA ad H0 L xs d m hs hf) {pc nx a b k j : Nat} {v : Int32} {ts : List (Int32 × Nat)} {ls ls2 : List QS} {st st2 : List QV} {h h2 : QH} {pc2 : Nat} (hss : hN hs ≤ hN h ∧ hS hs ≤ hS h) (hff : hN h2 ≤ hN hf ∧ hS h2 ≤ hS hf)  {off : Int} (hd : decode (qbyte m) pc = .ok ((.ifnonnull off), nx - pc)) (ok : okE m pc (.ifnonnull off) nx a b k j v ts = true) (hq : qexec some ls st h (.ifnonnull off) nx a b k v ts = some (nGo pc2 ls2 st2 h2)) (kk : SW p l e R s mi args below meth c Q D cA ad H0 L xs m hs pc2 ls2 st2 h2) : SW p l e R s mi args below meth c Q D cA ad H0 L xs m hs pc ls st h := by
  intro H locs rl hR hl hloc
  obtain ⟨hx, hb, hml, hown, hret, hlocks, hname, hK, hs3, hrm, hcs, had⟩ := id F
  have ok : (decide (nx = pc + 3) && decide ((pc : Int) + off = (a : Int))) = true := ok
  simp only [Bool.and_eq_true, decide_eq_true_eq] at ok
  obtain ⟨en, ht⟩ := ok
  subst en
  rw [Nat.add_sub_cancel_left] at hd
  obtain ⟨w, r, rfl, hq1⟩ := e1_inv hq
  obtain ⟨x, rfl, hq2⟩ := eR_inv hq1
  cases x with
  | none =>
    rw [if_pos rfl] at hq2
    cases hq2
    exact lv_ifnonnullN hx hb hd (kk H locs rl hR hl hloc)
  | some x =>
    rw [if_neg (fun z => by cases z)] at hq2
    cases hq2
    exact lv_ifnonnull hx hb hd ht (kk H locs rl hR hl hloc)
end QGO


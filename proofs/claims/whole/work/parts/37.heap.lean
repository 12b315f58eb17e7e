theorem vw_tyok : ∀ (ci : Nat) (r : vw_C), vwCl[ci]? = some r → ((List.range r.2.2).all fun k => (match parseFieldDescriptor (r.2.1 k).2.2.1 with
  | some .int => true
  | some .boolean => true
  | some (.object _) => true
  | some (.array _) => true
  | _ => false)) = true := by
  intro ci r hr
  match ci, hr with
  | 0, hr => cases hr; decide +kernel
  | 1, hr => cases hr; decide +kernel
  | 2, hr => cases hr; decide +kernel
  | 3, hr => cases hr; decide +kernel
  | 4, hr => cases hr; decide +kernel
  | 5, hr => cases hr; decide +kernel
  | 6, hr => cases hr; decide +kernel
  | 7, hr => cases hr; decide +kernel
  | 8, hr => cases hr; decide +kernel
  | 9, hr => cases hr; decide +kernel
  | 10, hr => cases hr; decide +kernel
  | 11, hr => cases hr; decide +kernel
  | 12, hr => cases hr; decide +kernel
  | n + 13, hr => simp at hr
theorem vw_def {ci : Nat} {r : vw_C} (h : vwCl[ci]? = some r) {k : Nat} (hk : k < r.2.2) : defaultValue (vw_ty r k) = (if qfr ci k then Value.null else .int 0) := by
  have h2 := List.all_eq_true.mp (vw_tyok ci r h) k (List.mem_range.mpr hk)
  have hq : qfr ci k = (match parseFieldDescriptor (r.2.1 k).2.2.1 with
    | some (.object _) => true
    | some (.array _) => true
    | _ => false) := by
    unfold qfr
    rw [h]
    rfl
  rw [hq]
  unfold vw_ty
  split at h2
  · rename_i e; rw [e]; rfl
  · rename_i e; rw [e]; rfl
  · rename_i e; rw [e]; rfl
  · rename_i e; rw [e]; rfl
  · cases h2
theorem qgi_inv {a b q : Nat} {h : QH} {x : Int32} (e : qgi a b q h = some x) : q < hN h ∧ hT h q = 16 + a ∧ b < hL h q ∧ x = hI h q b := by
  unfold qgi at e
  split at e
  · rename_i c; exact ⟨c.1, c.2.1, c.2.2, (Option.some.inj e).symm⟩
  · cases e
theorem qgr_inv {a b q : Nat} {h : QH} {x : Option Nat} (e : qgr a b q h = some x) : q < hN h ∧ hT h q = 16 + a ∧ b < hL h q ∧ x = hR h q b := by
  unfold qgr at e
  split at e
  · rename_i c; exact ⟨c.1, c.2.1, c.2.2, (Option.some.inj e).symm⟩
  · cases e
theorem qpi_inv {a b q : Nat} {v : Int32} {h h2 : QH} (e : qpi a b q v h = some h2) : 10 ≤ q ∧ q < hN h ∧ hT h q = 16 + a ∧ b < hL h q ∧ h2 = hsI h q b v := by
  unfold qpi at e
  split at e
  · rename_i c; exact ⟨c.1.1, c.1.2, c.2.1, c.2.2, (Option.some.inj e).symm⟩
  · cases e
theorem qpz_inv {a b q : Nat} {v : Int32} {h h2 : QH} (e : qpz a b q v h = some h2) : 10 ≤ q ∧ q < hN h ∧ hT h q = 16 + a ∧ b < hL h q ∧ (v = 0 ∨ v = 1) ∧ h2 = hsI h q b v := by
  unfold qpz at e
  split at e
  · rename_i c; exact ⟨c.1.1, c.1.2, c.2.1, c.2.2.1, c.2.2.2, (Option.some.inj e).symm⟩
  · cases e
theorem qpr_inv {a b q : Nat} {v : Option Nat} {h h2 : QH} (e : qpr a b q v h = some h2) : 10 ≤ q ∧ q < hN h ∧ hT h q = 16 + a ∧ b < hL h q ∧ h2 = hsR h q b v := by
  unfold qpr at e
  split at e
  · rename_i c; exact ⟨c.1.1, c.1.2, c.2.1, c.2.2, (Option.some.inj e).symm⟩
  · cases e
theorem qai_inv {t q : Nat} {i x : Int32} {h : QH} (e : qai t q i h = some x) : q < hN h ∧ hT h q = t ∧ 0 ≤ i ∧ i.toNatClampNeg < hL h q ∧ x = hI h q i.toNatClampNeg := by
  unfold qai at e
  split at e
  · rename_i c; exact ⟨c.1, c.2.1, c.2.2.1, c.2.2.2, (Option.some.inj e).symm⟩
  · cases e
theorem qar_inv {q : Nat} {i : Int32} {x : Option Nat} {h : QH} (e : qar q i h = some x) : 10 ≤ q ∧ q < hN h ∧ (hT h q = 4 ∨ hT h q = 5) ∧ 0 ≤ i ∧ i.toNatClampNeg < hL h q ∧ x = hR h q i.toNatClampNeg := by
  unfold qar at e
  split at e
  · rename_i c; exact ⟨c.1.1, c.1.2, c.2.1, c.2.2.1, c.2.2.2, (Option.some.inj e).symm⟩
  · cases e
theorem qsi_inv {t q : Nat} {i v : Int32} {h h2 : QH} (e : qsi t q i v h = some h2) : 10 ≤ q ∧ q < hN h ∧ hT h q = t ∧ 0 ≤ i ∧ i.toNatClampNeg < hL h q ∧ h2 = hsI h q i.toNatClampNeg v := by
  unfold qsi at e
  split at e
  · rename_i c; exact ⟨c.1.1, c.1.2, c.2.1, c.2.2.1, c.2.2.2, (Option.some.inj e).symm⟩
  · cases e
theorem qsr_inv {q : Nat} {i : Int32} {v : Option Nat} {h h2 : QH} (e : qsr q i v h = some h2) : 10 ≤ q ∧ q < hN h ∧ (hT h q = 4 ∨ hT h q = 5) ∧ 0 ≤ i ∧ i.toNatClampNeg < hL h q ∧ qfit (hT h q) v h = true ∧ h2 = hsR h q i.toNatClampNeg v := by
  unfold qsr at e
  split at e
  · rename_i c; exact ⟨c.1.1, c.1.2, c.2.1, c.2.2.1, c.2.2.2.1, c.2.2.2.2, (Option.some.inj e).symm⟩
  · cases e
theorem qal_inv {q : Nat} {x : Int32} {h : QH} (e : qal q h = some x) : q < hN h ∧ hT h q < 6 ∧ x = Int32.ofNat (hL h q) := by
  unfold qal at e
  split at e
  · rename_i c; exact ⟨c.1, c.2, (Option.some.inj e).symm⟩
  · cases e
theorem qna_inv {t : Nat} {n : Int32} {h h2 : QH} (e : qna t n h = some h2) : 0 ≤ n ∧ n.toNatClampNeg ≤ 100000 ∧ h2 = hPush h t n.toNatClampNeg := by
  unfold qna at e
  split at e
  · rename_i c; exact ⟨c.1, c.2, (Option.some.inj e).symm⟩
  · cases e
theorem qro_T {L : Nat} {xs : Nat → Int32} {h : QH} (hr : qRO L xs h) {k : Nat} (hk : k < 10) : hT h k = (qroS L k).1 ∧ hL h k = (qroS L k).2 := by
  have := (hr k hk).1
  unfold hT hL
  rw [this]
  exact ⟨rfl, rfl⟩
theorem qroS_29 {L k : Nat} (hk : k < 10) {c : Nat} (h : (qroS L k).1 = 16 + c) : c = 13 ∧ (k = 5 ∨ k = 6) := by
  unfold qroS at h
  split at h
  · simp at h; omega
  · split at h
    · simp at h; omega
    · split at h
      · simp at h; omega
      · split at h <;> (simp at h; try omega)
theorem va_K_ty {D : va_G} {cl : List vw_C} {tys : List (ClassId × FieldType)} {U : State} (h : va_K D cl tys U) {t : Nat} {q : ClassId × FieldType} (hq : tys[t]? = some q) : ArrOfT U q.1 q.2 ∧ va_RA U q.1 q.2 := h.2 t q hq
theorem lwG_ac {t : FieldType} (ht : t = .int ∨ t = .byte ∨ t = .boolean ∨ t = .char) : Cond.arrayClass t ∈ lwG := by
  rcases ht with rfl | rfl | rfl | rfl
  · exact okL_in (j := 177) (by decide +kernel)
  · exact okL_in (j := 375) (by decide +kernel)
  · exact okL_in (j := 467) (by decide +kernel)
  · exact okL_in (j := 376) (by decide +kernel)
theorem hPush_T (h : QH) (t n b : Nat) : hT (hPush h t n) b = if b = hN h then t else hT h b := by
  show ((fun b => if b = h.1 then (t, n) else h.2.2.1 b) b).1 = _
  dsimp only
  by_cases hb : b = h.1
  · rw [if_pos hb, if_pos (show b = hN h from hb)]
  · rw [if_neg hb, if_neg (show ¬ b = hN h from hb)]; rfl
theorem hPush_L (h : QH) (t n b : Nat) : hL (hPush h t n) b = if b = hN h then n else hL h b := by
  show ((fun b => if b = h.1 then (t, n) else h.2.2.1 b) b).2 = _
  dsimp only
  by_cases hb : b = h.1
  · rw [if_pos hb, if_pos (show b = hN h from hb)]
  · rw [if_neg hb, if_neg (show ¬ b = hN h from hb)]; rfl
theorem hPush_I (h : QH) (t n b : Nat) : hI (hPush h t n) b = if b = hN h then (fun _ => 0) else hI h b := by
  funext j
  show (if b = h.1 then 0 else h.2.2.2.1 b j) = _
  by_cases hb : b = h.1
  · rw [if_pos hb, if_pos (show b = hN h from hb)]
  · rw [if_neg hb, if_neg (show ¬ b = hN h from hb)]; rfl
theorem hPush_R (h : QH) (t n b : Nat) : hR (hPush h t n) b = if b = hN h then (fun _ => none) else hR h b := by
  funext j
  show (if b = h.1 then none else h.2.2.2.2 b j) = _
  by_cases hb : b = h.1
  · rw [if_pos hb, if_pos (show b = hN h from hb)]
  · rw [if_neg hb, if_neg (show ¬ b = hN h from hb)]; rfl
theorem qce_P {cA : Nat → ClassId} {ad : Nat → Nat} {h : QH} {t n : Nat} : ∀ b, b < hN h → qce cA ad (hPush h t n) b = qce cA ad h b := by
  intro b hb
  have hb : ¬ b = hN h := Nat.ne_of_lt hb
  have e : qfv ad (hPush h t n) b = qfv ad h b := by
    funext k j
    simp only [qfv, hPush_I, hPush_R, if_neg hb]
  unfold qce
  simp only [hPush_T, hPush_L, hPush_I, hPush_R, if_neg hb, e]
theorem qRO_P {L : Nat} {xs : Nat → Int32} {h : QH} {t n : Nat} (h10 : 10 ≤ hN h) (q : qRO L xs h) : qRO L xs (hPush h t n) := by
  intro k hk
  obtain ⟨h1, h2, h3⟩ := q k hk
  have hb : ¬ k = hN h := by omega
  refine ⟨?_, fun j => ?_, fun j => ?_⟩
  · show (if k = h.1 then (t, n) else h.2.2.1 k) = _
    rw [if_neg (show ¬ k = h.1 from hb)]
    exact h1
  · rw [hPush_I, if_neg hb]; exact h2 j
  · rw [hPush_R, if_neg hb]; exact h3 j
section QHP
variable {p : Program} {l : Launch} {e : Env} {R : Room} {s : State} {mi : MethodId} {args : Array Value} {below : List Frame} {meth : Method} {c : Code} {Q : State → Prop} {D : va_G} {cA : Nat → ClassId} {ad : Nat → Nat} {H0 : Heap} {L : Nat} {xs : Nat → Int32} {d m : Nat} {hs hf : QH}
theorem qT_s (F : FC p R s mi meth c D cA ad H0 L xs d m hs hf) {ty : FieldType} {t N : Nat} {f : Nat → Value} (h : va_T ty t N f (fun q => H0.size ≤ q) s H0) : va_T ty t N f (fun q => H0.size ≤ q) s s.heap := by
  obtain ⟨-, -, -, -, -, -, -, -, ⟨f1, f2, f3⟩, -, -, -⟩ := F
  exact h.kept (fun a h1 _ => f3 a h1)
theorem qZ_s (F : FC p R s mi meth c D cA ad H0 L xs d m hs hf) {C n d' : String} {v : Value} (h : va_Z C n d' v (fun q => H0.size ≤ q) s H0) : va_Z C n d' v (fun q => H0.size ≤ q) s s.heap := by
  obtain ⟨-, -, -, -, -, -, -, -, ⟨f1, f2, f3⟩, -, -, -⟩ := F
  exact h.kept (fun a h1 _ => f3 a h1)

set_option maxHeartbeats 1000000 in
theorem sg_iaload (F : FC p R s mi meth c D cA ad H0 L xs d m hs hf) {pc nx a b k j : Nat} {v : Int32} {ts : List (Int32 × Nat)} {ls ls2 : List QS} {st st2 : List QV} {h h2 : QH} {pc2 : Nat} (hss : hN hs ≤ hN h ∧ hS hs ≤ hS h) (hff : hN h2 ≤ hN hf ∧ hS h2 ≤ hS hf)   (hd : decode (qbyte m) pc = .ok (.iaload, nx - pc)) (ok : okE m pc .iaload nx a b k j v ts = true) (hq : qexec some ls st h .iaload nx a b k v ts = some (nGo pc2 ls2 st2 h2)) (kk : SW p l e R s mi args below meth c Q D cA ad H0 L xs m hs pc2 ls2 st2 h2) : SW p l e R s mi args below meth c Q D cA ad H0 L xs m hs pc ls st h := by
  intro H locs rl hR hl hloc
  obtain ⟨hx, hb, hml, hown, hret, hlocks, hname, hK, hs3, hrm, hcs, had⟩ := id F
  have en : nx = pc + 1 := of_decide_eq_true ok
  subst en
  rw [Nat.add_sub_cancel_left] at hd
  obtain ⟨w, r, rfl, hq1⟩ := e1_inv hq
  obtain ⟨x, rfl, hq2⟩ := eI_inv hq1
  obtain ⟨u, r, rfl, hq3⟩ := e1_inv hq2
  obtain ⟨o, rfl, hq4⟩ := eR_inv hq3
  obtain ⟨q, rfl, hq5⟩ := ob_inv hq4
  obtain ⟨y, hy, hq6⟩ := ob_inv hq5
  cases hq6
  obtain ⟨g1, g2, g3, g4, rfl⟩ := qai_inv hy
  by_cases h10 : q < 10
  · show W p l e R s mi args below meth c H locs _ _ Q (F0 mi pc rl (.int x :: .ref (ad q) :: r.map (qrz ad)))
    exact va_ti hx hb (qT_s F (hK.2.2.2.1 q h10 (by rw [← (qro_T hR.2.2.2.2 h10).1]; exact g2))) (qS_of F hR hss.1 hloc) (inb_of g3 (by rw [← (qro_T hR.2.2.2.2 h10).2]; exact g4)) (by rw [(hR.2.2.2.2 q h10).2.1]; rfl) hd (kk H locs rl hR hl hloc)
  · have hw := qws_at (cA := cA) (ad := ad) (Nat.not_lt.mp h10) g1
    rw [qce_arr g2 (by decide)] at hw
    exact va_iald hx hb hK.2.2.1 hR.2.2.2.1 (q - 10) 0 hw rfl (inb_of g3 g4) hd (kk H locs rl hR hl hloc)

set_option maxHeartbeats 1000000 in
theorem sg_caload (F : FC p R s mi meth c D cA ad H0 L xs d m hs hf) {pc nx a b k j : Nat} {v : Int32} {ts : List (Int32 × Nat)} {ls ls2 : List QS} {st st2 : List QV} {h h2 : QH} {pc2 : Nat} (hss : hN hs ≤ hN h ∧ hS hs ≤ hS h) (hff : hN h2 ≤ hN hf ∧ hS h2 ≤ hS hf)   (hd : decode (qbyte m) pc = .ok (.caload, nx - pc)) (ok : okE m pc .caload nx a b k j v ts = true) (hq : qexec some ls st h .caload nx a b k v ts = some (nGo pc2 ls2 st2 h2)) (kk : SW p l e R s mi args below meth c Q D cA ad H0 L xs m hs pc2 ls2 st2 h2) : SW p l e R s mi args below meth c Q D cA ad H0 L xs m hs pc ls st h := by
  intro H locs rl hR hl hloc
  obtain ⟨hx, hb, hml, hown, hret, hlocks, hname, hK, hs3, hrm, hcs, had⟩ := id F
  have en : nx = pc + 1 := of_decide_eq_true ok
  subst en
  rw [Nat.add_sub_cancel_left] at hd
  obtain ⟨w, r, rfl, hq1⟩ := e1_inv hq
  obtain ⟨x, rfl, hq2⟩ := eI_inv hq1
  obtain ⟨u, r, rfl, hq3⟩ := e1_inv hq2
  obtain ⟨o, rfl, hq4⟩ := eR_inv hq3
  obtain ⟨q, rfl, hq5⟩ := ob_inv hq4
  obtain ⟨y, hy, hq6⟩ := ob_inv hq5
  cases hq6
  obtain ⟨g1, g2, g3, g4, rfl⟩ := qai_inv hy
  by_cases h10 : q < 10
  · show W p l e R s mi args below meth c H locs _ _ Q (F0 mi pc rl (.int x :: .ref (ad q) :: r.map (qrz ad)))
    exfalso
    have g := (qro_T hR.2.2.2.2 h10).1
    rw [g2] at g
    unfold qroS at g
    (repeat' split at g) <;> simp at g
  · have hw := qws_at (cA := cA) (ad := ad) (Nat.not_lt.mp h10) g1
    rw [qce_arr g2 (by decide)] at hw
    exact va_cald hx hb hK.2.2.1 hR.2.2.2.1 (q - 10) 3 hw rfl (inb_of g3 g4) hd (kk H locs rl hR hl hloc)

set_option maxHeartbeats 1000000 in
theorem sg_baload (F : FC p R s mi meth c D cA ad H0 L xs d m hs hf) {pc nx a b k j : Nat} {v : Int32} {ts : List (Int32 × Nat)} {ls ls2 : List QS} {st st2 : List QV} {h h2 : QH} {pc2 : Nat} (hss : hN hs ≤ hN h ∧ hS hs ≤ hS h) (hff : hN h2 ≤ hN hf ∧ hS h2 ≤ hS hf)   (hd : decode (qbyte m) pc = .ok (.baload, nx - pc)) (ok : okE m pc .baload nx a b k j v ts = true) (hq : qexec some ls st h .baload nx a b k v ts = some (nGo pc2 ls2 st2 h2)) (kk : SW p l e R s mi args below meth c Q D cA ad H0 L xs m hs pc2 ls2 st2 h2) : SW p l e R s mi args below meth c Q D cA ad H0 L xs m hs pc ls st h := by
  intro H locs rl hR hl hloc
  obtain ⟨hx, hb, hml, hown, hret, hlocks, hname, hK, hs3, hrm, hcs, had⟩ := id F
  have ok : (decide (nx = pc + 1) && (decide (k = 1) || decide (k = 2))) = true := ok
  simp only [Bool.and_eq_true, Bool.or_eq_true, decide_eq_true_eq] at ok
  obtain ⟨en, hk⟩ := ok
  subst en
  rw [Nat.add_sub_cancel_left] at hd
  obtain ⟨w, r, rfl, hq1⟩ := e1_inv hq
  obtain ⟨x, rfl, hq2⟩ := eI_inv hq1
  obtain ⟨u, r, rfl, hq3⟩ := e1_inv hq2
  obtain ⟨o, rfl, hq4⟩ := eR_inv hq3
  obtain ⟨q, rfl, hq5⟩ := ob_inv hq4
  obtain ⟨y, hy, hq6⟩ := ob_inv hq5
  cases hq6
  rcases hk with rfl | rfl
  · obtain ⟨g1, g2, g3, g4, rfl⟩ := qai_inv hy
    by_cases h10 : q < 10
    · show W p l e R s mi args below meth c H locs _ _ Q (F0 mi pc rl (.int x :: .ref (ad q) :: r.map (qrz ad)))
      exact va_tb hx hb (qT_s F (hK.2.2.2.2.1 q h10 (by rw [← (qro_T hR.2.2.2.2 h10).1]; exact g2))) (qS_of F hR hss.1 hloc) (inb_of g3 (by rw [← (qro_T hR.2.2.2.2 h10).2]; exact g4)) (by rw [(hR.2.2.2.2 q h10).2.1]; rfl) hd (kk H locs rl hR hl hloc)
    · have hw := qws_at (cA := cA) (ad := ad) (Nat.not_lt.mp h10) g1
      rw [qce_arr g2 (by decide)] at hw
      exact va_bald hx hb hK.2.2.1 hR.2.2.2.1 (q - 10) 1 hw rfl (inb_of g3 g4) hd (kk H locs rl hR hl hloc)
  · obtain ⟨g1, g2, g3, g4, rfl⟩ := qai_inv hy
    by_cases h10 : q < 10
    · show W p l e R s mi args below meth c H locs _ _ Q (F0 mi pc rl (.int x :: .ref (ad q) :: r.map (qrz ad)))
      exfalso
      have g := (qro_T hR.2.2.2.2 h10).1
      rw [g2] at g
      unfold qroS at g
      (repeat' split at g) <;> simp at g
    · have hw := qws_at (cA := cA) (ad := ad) (Nat.not_lt.mp h10) g1
      rw [qce_arr g2 (by decide)] at hw
      exact va_zald hx hb hK.2.2.1 hR.2.2.2.1 (q - 10) 2 hw rfl (inb_of g3 g4) hd (kk H locs rl hR hl hloc)

set_option maxHeartbeats 1000000 in
theorem sg_aaload (F : FC p R s mi meth c D cA ad H0 L xs d m hs hf) {pc nx a b k j : Nat} {v : Int32} {ts : List (Int32 × Nat)} {ls ls2 : List QS} {st st2 : List QV} {h h2 : QH} {pc2 : Nat} (hss : hN hs ≤ hN h ∧ hS hs ≤ hS h) (hff : hN h2 ≤ hN hf ∧ hS h2 ≤ hS hf)   (hd : decode (qbyte m) pc = .ok (.aaload, nx - pc)) (ok : okE m pc .aaload nx a b k j v ts = true) (hq : qexec some ls st h .aaload nx a b k v ts = some (nGo pc2 ls2 st2 h2)) (kk : SW p l e R s mi args below meth c Q D cA ad H0 L xs m hs pc2 ls2 st2 h2) : SW p l e R s mi args below meth c Q D cA ad H0 L xs m hs pc ls st h := by
  intro H locs rl hR hl hloc
  obtain ⟨hx, hb, hml, hown, hret, hlocks, hname, hK, hs3, hrm, hcs, had⟩ := id F
  have en : nx = pc + 1 := of_decide_eq_true ok
  subst en
  rw [Nat.add_sub_cancel_left] at hd
  obtain ⟨w, r, rfl, hq1⟩ := e1_inv hq
  obtain ⟨x, rfl, hq2⟩ := eI_inv hq1
  obtain ⟨u, r, rfl, hq3⟩ := e1_inv hq2
  obtain ⟨o, rfl, hq4⟩ := eR_inv hq3
  obtain ⟨q, rfl, hq5⟩ := ob_inv hq4
  obtain ⟨y, hy, hq6⟩ := ob_inv hq5
  cases hq6
  obtain ⟨g0, g1, g2, g3, g4, rfl⟩ := qar_inv hy
  have hw := qws_at (cA := cA) (ad := ad) g0 g1
  rcases g2 with g2 | g2
  · rw [qce_ref g2 (Or.inl rfl)] at hw
    exact va_aldq hx hb hK.2.2.1 hR.2.2.2.1 (q - 10) 4 hw rfl (inb_of g3 g4) hd (kk H locs rl hR hl hloc)
  · rw [qce_ref g2 (Or.inr rfl)] at hw
    exact va_aldq hx hb hK.2.2.1 hR.2.2.2.1 (q - 10) 5 hw rfl (inb_of g3 g4) hd (kk H locs rl hR hl hloc)

set_option maxHeartbeats 1000000 in
theorem sg_iastore (F : FC p R s mi meth c D cA ad H0 L xs d m hs hf) {pc nx a b k j : Nat} {v : Int32} {ts : List (Int32 × Nat)} {ls ls2 : List QS} {st st2 : List QV} {h h2 : QH} {pc2 : Nat} (hss : hN hs ≤ hN h ∧ hS hs ≤ hS h) (hff : hN h2 ≤ hN hf ∧ hS h2 ≤ hS hf)   (hd : decode (qbyte m) pc = .ok (.iastore, nx - pc)) (ok : okE m pc .iastore nx a b k j v ts = true) (hq : qexec some ls st h .iastore nx a b k v ts = some (nGo pc2 ls2 st2 h2)) (kk : SW p l e R s mi args below meth c Q D cA ad H0 L xs m hs pc2 ls2 st2 h2) : SW p l e R s mi args below meth c Q D cA ad H0 L xs m hs pc ls st h := by
  intro H locs rl hR hl hloc
  obtain ⟨hx, hb, hml, hown, hret, hlocks, hname, hK, hs3, hrm, hcs, had⟩ := id F
  have en : nx = pc + 1 := of_decide_eq_true ok
  subst en
  rw [Nat.add_sub_cancel_left] at hd
  obtain ⟨x, y, r, rfl, hq1⟩ := e2I_inv hq
  obtain ⟨u, r, rfl, hq2⟩ := e1_inv hq1
  obtain ⟨o, rfl, hq3⟩ := eR_inv hq2
  obtain ⟨q, rfl, hq4⟩ := ob_inv hq3
  obtain ⟨h9, hy, hq5⟩ := ob_inv hq4
  cases hq5
  obtain ⟨g0, g1, g2, g3, g4, rfl⟩ := qsi_inv hy
  have hw := qws_at (cA := cA) (ad := ad) g0 g1
  rw [qce_arr g2 (by decide)] at hw
  refine va_iast hx hb hK.2.2.1 hR.2.2.2.1 (qws_D had h) (qS_self (h := h) hloc) (q - 10) 0 hw rfl (inb_of g3 g4) hd (fun H1 locs1 hP hD hS => W_size (fun hsz => ?_))
  exact kk H1 locs1 rl (qRel_set F hR g0 g1 rfl hss.1 hsz (qce_sI g2 (by decide)).symm qce_I (qRO_I g0) hP hS) hl hS.2.2

set_option maxHeartbeats 1000000 in
theorem sg_castore (F : FC p R s mi meth c D cA ad H0 L xs d m hs hf) {pc nx a b k j : Nat} {v : Int32} {ts : List (Int32 × Nat)} {ls ls2 : List QS} {st st2 : List QV} {h h2 : QH} {pc2 : Nat} (hss : hN hs ≤ hN h ∧ hS hs ≤ hS h) (hff : hN h2 ≤ hN hf ∧ hS h2 ≤ hS hf)   (hd : decode (qbyte m) pc = .ok (.castore, nx - pc)) (ok : okE m pc .castore nx a b k j v ts = true) (hq : qexec some ls st h .castore nx a b k v ts = some (nGo pc2 ls2 st2 h2)) (kk : SW p l e R s mi args below meth c Q D cA ad H0 L xs m hs pc2 ls2 st2 h2) : SW p l e R s mi args below meth c Q D cA ad H0 L xs m hs pc ls st h := by
  intro H locs rl hR hl hloc
  obtain ⟨hx, hb, hml, hown, hret, hlocks, hname, hK, hs3, hrm, hcs, had⟩ := id F
  have en : nx = pc + 1 := of_decide_eq_true ok
  subst en
  rw [Nat.add_sub_cancel_left] at hd
  obtain ⟨x, y, r, rfl, hq1⟩ := e2I_inv hq
  obtain ⟨u, r, rfl, hq2⟩ := e1_inv hq1
  obtain ⟨o, rfl, hq3⟩ := eR_inv hq2
  obtain ⟨q, rfl, hq4⟩ := ob_inv hq3
  obtain ⟨h9, hy, hq5⟩ := ob_inv hq4
  cases hq5
  obtain ⟨g0, g1, g2, g3, g4, rfl⟩ := qsi_inv hy
  have hw := qws_at (cA := cA) (ad := ad) g0 g1
  rw [qce_arr g2 (by decide)] at hw
  refine va_cast hx hb hK.2.2.1 hR.2.2.2.1 (qws_D had h) (qS_self (h := h) hloc) (q - 10) 3 hw rfl (inb_of g3 g4) hd (fun H1 locs1 hP hD hS => W_size (fun hsz => ?_))
  exact kk H1 locs1 rl (qRel_set F hR g0 g1 rfl hss.1 hsz (by rw [qce_sI g2 (by decide), vp_nar_char]) qce_I (qRO_I g0) hP hS) hl hS.2.2

set_option maxHeartbeats 1000000 in
theorem sg_bastore (F : FC p R s mi meth c D cA ad H0 L xs d m hs hf) {pc nx a b k j : Nat} {v : Int32} {ts : List (Int32 × Nat)} {ls ls2 : List QS} {st st2 : List QV} {h h2 : QH} {pc2 : Nat} (hss : hN hs ≤ hN h ∧ hS hs ≤ hS h) (hff : hN h2 ≤ hN hf ∧ hS h2 ≤ hS hf)   (hd : decode (qbyte m) pc = .ok (.bastore, nx - pc)) (ok : okE m pc .bastore nx a b k j v ts = true) (hq : qexec some ls st h .bastore nx a b k v ts = some (nGo pc2 ls2 st2 h2)) (kk : SW p l e R s mi args below meth c Q D cA ad H0 L xs m hs pc2 ls2 st2 h2) : SW p l e R s mi args below meth c Q D cA ad H0 L xs m hs pc ls st h := by
  intro H locs rl hR hl hloc
  obtain ⟨hx, hb, hml, hown, hret, hlocks, hname, hK, hs3, hrm, hcs, had⟩ := id F
  have en : nx = pc + 1 := of_decide_eq_true ok
  subst en
  rw [Nat.add_sub_cancel_left] at hd
  obtain ⟨x, y, r, rfl, hq1⟩ := e2I_inv hq
  obtain ⟨u, r, rfl, hq2⟩ := e1_inv hq1
  obtain ⟨o, rfl, hq3⟩ := eR_inv hq2
  obtain ⟨q, rfl, hq4⟩ := ob_inv hq3
  have hq5 : cond (Nat.beq k 1) ((qsi 1 q x y.toInt8.toInt32 h).bind fun h => some (nGo (pc + 1) ls r h)) ((qsi 2 q x (y &&& 1) h).bind fun h => some (nGo (pc + 1) ls r h)) = some (nGo pc2 ls2 st2 h2) := hq4
  cases hk : Nat.beq k 1
  · rw [hk] at hq5
    obtain ⟨h9, hy, hq6⟩ := ob_inv (show ((qsi 2 q x (y &&& 1) h).bind fun h => some (nGo (pc + 1) ls r h)) = some (nGo pc2 ls2 st2 h2) from hq5)
    cases hq6
    obtain ⟨g0, g1, g2, g3, g4, rfl⟩ := qsi_inv hy
    have hw := qws_at (cA := cA) (ad := ad) g0 g1
    rw [qce_arr g2 (by decide)] at hw
    refine va_zast hx hb hK.2.2.1 hR.2.2.2.1 (qws_D had h) (qS_self (h := h) hloc) (q - 10) 2 hw rfl (inb_of g3 g4) hd (fun H1 locs1 hP hD hS => W_size (fun hsz => ?_))
    exact kk H1 locs1 rl (qRel_set F hR g0 g1 rfl hss.1 hsz (by rw [qce_sI g2 (by decide)]; rfl) qce_I (qRO_I g0) hP hS) hl hS.2.2

  · rw [hk] at hq5
    obtain ⟨h9, hy, hq6⟩ := ob_inv (show ((qsi 1 q x y.toInt8.toInt32 h).bind fun h => some (nGo (pc + 1) ls r h)) = some (nGo pc2 ls2 st2 h2) from hq5)
    cases hq6
    obtain ⟨g0, g1, g2, g3, g4, rfl⟩ := qsi_inv hy
    have hw := qws_at (cA := cA) (ad := ad) g0 g1
    rw [qce_arr g2 (by decide)] at hw
    refine va_bast hx hb hK.2.2.1 hR.2.2.2.1 (qws_D had h) (qS_self (h := h) hloc) (q - 10) 1 hw rfl (inb_of g3 g4) hd (fun H1 locs1 hP hD hS => W_size (fun hsz => ?_))
    exact kk H1 locs1 rl (qRel_set F hR g0 g1 rfl hss.1 hsz (by rw [qce_sI g2 (by decide), vp_nar_byte]) qce_I (qRO_I g0) hP hS) hl hS.2.2

set_option maxHeartbeats 1000000 in
theorem sg_aastore (F : FC p R s mi meth c D cA ad H0 L xs d m hs hf) {pc nx a b k j : Nat} {v : Int32} {ts : List (Int32 × Nat)} {ls ls2 : List QS} {st st2 : List QV} {h h2 : QH} {pc2 : Nat} (hss : hN hs ≤ hN h ∧ hS hs ≤ hS h) (hff : hN h2 ≤ hN hf ∧ hS h2 ≤ hS hf)   (hd : decode (qbyte m) pc = .ok (.aastore, nx - pc)) (ok : okE m pc .aastore nx a b k j v ts = true) (hq : qexec some ls st h .aastore nx a b k v ts = some (nGo pc2 ls2 st2 h2)) (kk : SW p l e R s mi args below meth c Q D cA ad H0 L xs m hs pc2 ls2 st2 h2) : SW p l e R s mi args below meth c Q D cA ad H0 L xs m hs pc ls st h := by
  intro H locs rl hR hl hloc
  obtain ⟨hx, hb, hml, hown, hret, hlocks, hname, hK, hs3, hrm, hcs, had⟩ := id F
  have en : nx = pc + 1 := of_decide_eq_true ok
  subst en
  rw [Nat.add_sub_cancel_left] at hd
  obtain ⟨w, r, rfl, hq1⟩ := e1_inv hq
  obtain ⟨z, rfl, hq2⟩ := eR_inv hq1
  obtain ⟨w, r, rfl, hq3⟩ := e1_inv hq2
  obtain ⟨x, rfl, hq4⟩ := eI_inv hq3
  obtain ⟨u, r, rfl, hq5⟩ := e1_inv hq4
  obtain ⟨o, rfl, hq6⟩ := eR_inv hq5
  obtain ⟨q, rfl, hq7⟩ := ob_inv hq6
  obtain ⟨h9, hy, hq8⟩ := ob_inv hq7
  cases hq8
  obtain ⟨g0, g1, g2, g3, g4, g5, rfl⟩ := qsr_inv hy
  rcases g2 with g2 | g2
  · have hw := qws_at (cA := cA) (ad := ad) g0 g1
    rw [qce_ref g2 (Or.inl rfl)] at hw
    cases z with
    | none =>
      refine va_astqN hx hb hK.2.2.1 hR.2.2.2.1 (qws_D had h) (qS_self (h := h) hloc) (q - 10) 4 hw rfl (inb_of g3 g4) hd (fun H1 locs1 hP hD hS => W_size (fun hsz => ?_))
      exact kk H1 locs1 rl (qRel_set F hR g0 g1 rfl hss.1 hsz (qce_sR g2 (Or.inl rfl)).symm qce_R (qRO_R g0) hP hS) hl hS.2.2
    | some z =>
      have g6 : ((10 ≤ z ∧ z < hN h) ∧ ((hT h q = 4 ∧ hT h z = 26) ∨ (hT h q = 5 ∧ hT h z = 17))) := of_decide_eq_true g5
      have hz : hT h z = 16 + 10 := by omega
      have hv := qws_at (cA := cA) (ad := ad) g6.1.1 g6.1.2
      rw [qce_obj hz] at hv
      refine va_astq (r := (RX10, TX10, 6)) hx hb hK.2.2.1 hR.2.2.2.1 (qws_D had h) (qS_self (h := h) hloc) (q - 10) 4 (z - 10) 10 hw rfl hv rfl (inb_of g3 g4) hd (fun H1 locs1 hP hD hS => W_size (fun hsz => ?_))
      exact kk H1 locs1 rl (qRel_set F hR g0 g1 rfl hss.1 hsz (qce_sR g2 (Or.inl rfl)).symm qce_R (qRO_R g0) hP hS) hl hS.2.2
  · have hw := qws_at (cA := cA) (ad := ad) g0 g1
    rw [qce_ref g2 (Or.inr rfl)] at hw
    cases z with
    | none =>
      refine va_astqN hx hb hK.2.2.1 hR.2.2.2.1 (qws_D had h) (qS_self (h := h) hloc) (q - 10) 5 hw rfl (inb_of g3 g4) hd (fun H1 locs1 hP hD hS => W_size (fun hsz => ?_))
      exact kk H1 locs1 rl (qRel_set F hR g0 g1 rfl hss.1 hsz (qce_sR g2 (Or.inr rfl)).symm qce_R (qRO_R g0) hP hS) hl hS.2.2
    | some z =>
      have g6 : ((10 ≤ z ∧ z < hN h) ∧ ((hT h q = 4 ∧ hT h z = 26) ∨ (hT h q = 5 ∧ hT h z = 17))) := of_decide_eq_true g5
      have hz : hT h z = 16 + 1 := by omega
      have hv := qws_at (cA := cA) (ad := ad) g6.1.1 g6.1.2
      rw [qce_obj hz] at hv
      refine va_astq (r := (RX1, TX1, 3)) hx hb hK.2.2.1 hR.2.2.2.1 (qws_D had h) (qS_self (h := h) hloc) (q - 10) 5 (z - 10) 1 hw rfl hv rfl (inb_of g3 g4) hd (fun H1 locs1 hP hD hS => W_size (fun hsz => ?_))
      exact kk H1 locs1 rl (qRel_set F hR g0 g1 rfl hss.1 hsz (qce_sR g2 (Or.inr rfl)).symm qce_R (qRO_R g0) hP hS) hl hS.2.2

set_option maxHeartbeats 1000000 in
theorem sg_arraylength (F : FC p R s mi meth c D cA ad H0 L xs d m hs hf) {pc nx a b k j : Nat} {v : Int32} {ts : List (Int32 × Nat)} {ls ls2 : List QS} {st st2 : List QV} {h h2 : QH} {pc2 : Nat} (hss : hN hs ≤ hN h ∧ hS hs ≤ hS h) (hff : hN h2 ≤ hN hf ∧ hS h2 ≤ hS hf)   (hd : decode (qbyte m) pc = .ok (.arraylength, nx - pc)) (ok : okE m pc .arraylength nx a b k j v ts = true) (hq : qexec some ls st h .arraylength nx a b k v ts = some (nGo pc2 ls2 st2 h2)) (kk : SW p l e R s mi args below meth c Q D cA ad H0 L xs m hs pc2 ls2 st2 h2) : SW p l e R s mi args below meth c Q D cA ad H0 L xs m hs pc ls st h := by
  intro H locs rl hR hl hloc
  obtain ⟨hx, hb, hml, hown, hret, hlocks, hname, hK, hs3, hrm, hcs, had⟩ := id F
  have en : nx = pc + 1 := of_decide_eq_true ok
  subst en
  rw [Nat.add_sub_cancel_left] at hd
  obtain ⟨u, r, rfl, hq1⟩ := e1_inv hq
  obtain ⟨o, rfl, hq2⟩ := eR_inv hq1
  obtain ⟨q, rfl, hq3⟩ := ob_inv hq2
  obtain ⟨y, hy, hq4⟩ := ob_inv hq3
  cases hq4
  obtain ⟨g1, g2, rfl⟩ := qal_inv hy
  by_cases h10 : q < 10
  · have gT := qro_T hR.2.2.2.2 h10
    by_cases g0 : (qroS L q).1 = 0
    · exact va_tlen hx hb (qT_s F (hK.2.2.2.1 q h10 g0)) (qS_of F hR hss.1 hloc) (by rw [← gT.2]) hd (kk H locs rl hR hl hloc)
    · have g5 : (qroS L q).1 = 1 := by
        have g6 : (qroS L q).1 < 6 := by rw [← gT.1]; exact g2
        unfold qroS at g0 g6 ⊢
        (repeat' split at g0) <;> simp_all
      exact va_tlen hx hb (qT_s F (hK.2.2.2.2.1 q h10 g5)) (qS_of F hR hss.1 hloc) (by rw [← gT.2]) hd (kk H locs rl hR hl hloc)
  · have hw := qws_at (cA := cA) (ad := ad) (Nat.not_lt.mp h10) g1
    have g3 : hT h q = 0 ∨ hT h q = 1 ∨ hT h q = 2 ∨ hT h q = 3 ∨ hT h q = 4 ∨ hT h q = 5 := by omega
    rcases g3 with g3 | g3 | g3 | g3 | g3 | g3
    · rw [qce_arr g3 (by decide)] at hw
      exact va_alen (ty := .int) hx hb hK.2.2.1 hR.2.2.2.1 (q - 10) 0 hw rfl rfl hd (kk H locs rl hR hl hloc)
    · rw [qce_arr g3 (by decide)] at hw
      exact va_alen (ty := .byte) hx hb hK.2.2.1 hR.2.2.2.1 (q - 10) 1 hw rfl rfl hd (kk H locs rl hR hl hloc)
    · rw [qce_arr g3 (by decide)] at hw
      exact va_alen (ty := .boolean) hx hb hK.2.2.1 hR.2.2.2.1 (q - 10) 2 hw rfl rfl hd (kk H locs rl hR hl hloc)
    · rw [qce_arr g3 (by decide)] at hw
      exact va_alen (ty := .char) hx hb hK.2.2.1 hR.2.2.2.1 (q - 10) 3 hw rfl rfl hd (kk H locs rl hR hl hloc)
    · rw [qce_ref g3 (Or.inl rfl)] at hw
      exact va_alen (ty := .object "HandedOn$World") hx hb hK.2.2.1 hR.2.2.2.1 (q - 10) 4 hw rfl rfl hd (kk H locs rl hR hl hloc)
    · rw [qce_ref g3 (Or.inr rfl)] at hw
      exact va_alen (ty := .object "HandedOn$Law") hx hb hK.2.2.1 hR.2.2.2.1 (q - 10) 5 hw rfl rfl hd (kk H locs rl hR hl hloc)
end QHP


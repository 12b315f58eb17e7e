section QFD
variable {p : Program} {l : Launch} {e : Env} {R : Room} {s : State} {mi : MethodId} {args : Array Value} {below : List Frame} {meth : Method} {c : Code} {Q : State → Prop} {D : va_G} {cA : Nat → ClassId} {ad : Nat → Nat} {H0 : Heap} {L : Nat} {xs : Nat → Int32} {d m : Nat} {hs hf : QH}
set_option maxHeartbeats 1000000 in
theorem sg_getfield (F : FC p R s mi meth c D cA ad H0 L xs d m hs hf) {pc nx a b k j : Nat} {v : Int32} {ts : List (Int32 × Nat)} {ls ls2 : List QS} {st st2 : List QV} {h h2 : QH} {pc2 : Nat} (hss : hN hs ≤ hN h ∧ hS hs ≤ hS h) (hff : hN h2 ≤ hN hf ∧ hS h2 ≤ hS hf)  {n : Nat} (hd : decode (qbyte m) pc = .ok ((.getfield n), nx - pc)) (ok : okE m pc (.getfield n) nx a b k j v ts = true) (hq : qexec some ls st h (.getfield n) nx a b k v ts = some (nGo pc2 ls2 st2 h2)) (kk : SW p l e R s mi args below meth c Q D cA ad H0 L xs m hs pc2 ls2 st2 h2) : SW p l e R s mi args below meth c Q D cA ad H0 L xs m hs pc ls st h := by
  intro H locs rl hR hl hloc
  obtain ⟨hx, hb, hml, hown, hret, hlocks, hname, hK, hs3, hrm, hcs, had⟩ := id F
  obtain ⟨w, r, rfl, hq1⟩ := e1_inv hq
  obtain ⟨o, rfl, hq2⟩ := eR_inv hq1
  obtain ⟨q, rfl, hq3⟩ := ob_inv hq2
  have hq4 : cond (Nat.beq k 1) ((qgr a b q h).bind fun x => some (nGo nx ls (qR x :: r) h)) ((qgi a b q h).bind fun x => some (nGo nx ls (qI x :: r) h)) = some (nGo pc2 ls2 st2 h2) := hq3
  have ok1 : (decide (nx = pc + 3) && cond (Nat.beq a 13) (decide ((qname m).cls = "java/lang/String") && (decide (b = 0) && Nat.beq k 1 && okL j (.fieldLink (qname m).cls n "java/lang/String" "value" "[B") || decide (b = 1) && Nat.beq k 0 && okL j (.fieldLink (qname m).cls n "java/lang/String" "coder" "B"))) (match vwCl[a]? with
    | some r => decide (b < r.2.2) && okL j (.fieldLink (qname m).cls n r.1 (r.2.1 b).2.1 (r.2.1 b).2.2.1) && decide ((r.2.1 b).1 = r.1) && decide (Nat.beq k 1 = qfr a b)
    | none => false)) = true := ok
  rw [Bool.and_eq_true, decide_eq_true_eq] at ok1
  obtain ⟨en, ok2⟩ := ok1
  subst en
  rw [Nat.add_sub_cancel_left] at hd
  have hy : ∃ y, (q < hN h ∧ hT h q = 16 + a ∧ b < hL h q) ∧ y = (if Nat.beq k 1 = true then qR (h.2.2.2.2 q b) else qI (hI h q b)) ∧ nGo (pc + 3) ls (y :: r) h = nGo pc2 ls2 st2 h2 := by
    cases hk : Nat.beq k 1
    · rw [hk] at hq4
      obtain ⟨y, e1, e2⟩ := ob_inv (show ((qgi a b q h).bind fun x => some (nGo (pc + 3) ls (qI x :: r) h)) = some (nGo pc2 ls2 st2 h2) from hq4)
      obtain ⟨g1, g2, g3, rfl⟩ := qgi_inv e1
      exact ⟨_, ⟨g1, g2, g3⟩, rfl, Option.some.inj e2⟩
    · rw [hk] at hq4
      obtain ⟨y, e1, e2⟩ := ob_inv (show ((qgr a b q h).bind fun x => some (nGo (pc + 3) ls (qR x :: r) h)) = some (nGo pc2 ls2 st2 h2) from hq4)
      obtain ⟨g1, g2, g3, rfl⟩ := qgr_inv e1
      exact ⟨_, ⟨g1, g2, g3⟩, rfl, Option.some.inj e2⟩
  obtain ⟨y, ⟨g1, g2, g3⟩, ey, e9⟩ := hy
  cases e9
  by_cases h10 : q < 10
  · have gT := qro_T hR.2.2.2.2 h10
    obtain ⟨rfl, g5⟩ := qroS_29 h10 (gT.1.symm.trans g2)
    have gB := hR.2.2.2.2 q h10
    obtain ⟨-, -, s1, s2⟩ := hK.2.2.2.2.2.2.2.1 q g5
    have ok3 : (decide ((qname m).cls = "java/lang/String") && (decide (b = 0) && Nat.beq k 1 && okL j (.fieldLink (qname m).cls n "java/lang/String" "value" "[B") || decide (b = 1) && Nat.beq k 0 && okL j (.fieldLink (qname m).cls n "java/lang/String" "coder" "B"))) = true := ok2
    simp only [Bool.and_eq_true, Bool.or_eq_true, decide_eq_true_eq] at ok3
    obtain ⟨-, ok4⟩ := ok3
    have key : ∀ (nm ds : String) (w : Value), va_OF "java/lang/String" nm ds w (ad q) (fun z => H0.size ≤ z) s H0 → Cond.fieldLink (qname m).cls n "java/lang/String" nm ds ∈ lwG → w = qrz ad y → W p l e R s mi args below meth c H locs (hN h - hN hs) (hS h - hS hs) Q (F0 mi pc rl (.ref (ad q) :: r.map (qrz ad))) := by
      intro nm ds w hOF hlk ew
      obtain ⟨cf, kf, fi, f, cell, z1, z2, z3, z4, z5, z6⟩ := hOF
      refine W.getf hx hb hown (hK.1 _ hlk args) z1 z2 (by rw [hR.2.2.1 (ad q) (Nat.not_le.mp z6)]; exact z3) z4 z5 rfl rfl hd ?_
      rw [ew]
      exact kk H locs rl hR hl hloc
    rcases ok4 with ⟨⟨rfl, hk⟩, hlk⟩ | ⟨⟨rfl, hk⟩, hlk⟩
    · refine key _ _ _ s2 (okL_in hlk) ?_
      rw [ey, if_pos hk, show h.2.2.2.2 q 0 = qroR q 0 from gB.2.2 0]
      rcases g5 with rfl | rfl <;> rfl
    · refine key _ _ _ s1 (okL_in hlk) ?_
      have hk0 := Nat.eq_of_beq_eq_true hk
      subst hk0
      rw [ey, if_neg (by decide), gB.2.1 1]
      rcases g5 with rfl | rfl <;> rfl
  · have hw := qws_at (cA := cA) (ad := ad) (Nat.not_lt.mp h10) g1
    rw [qce_obj g2] at hw
    obtain ⟨r0, hr0, -⟩ := hR.2.2.2.1 _ _ hw
    have ha : Nat.beq a 13 = false := by
      cases e13 : Nat.beq a 13
      · rfl
      · have := Nat.eq_of_beq_eq_true e13
        subst this
        cases hr0
    rw [ha] at ok2
    have ok3 : (match vwCl[a]? with
      | some r => decide (b < r.2.2) && okL j (.fieldLink (qname m).cls n r.1 (r.2.1 b).2.1 (r.2.1 b).2.2.1) && decide ((r.2.1 b).1 = r.1) && decide (Nat.beq k 1 = qfr a b)
      | none => false) = true := ok2
    have hr0 : vwCl[a]? = some r0 := hr0
    rw [hr0] at ok3
    have ok4 : (decide (b < r0.2.2) && okL j (.fieldLink (qname m).cls n r0.1 (r0.2.1 b).2.1 (r0.2.1 b).2.2.1) && decide ((r0.2.1 b).1 = r0.1) && decide (Nat.beq k 1 = qfr a b)) = true := ok3
    rw [Bool.and_eq_true, Bool.and_eq_true, Bool.and_eq_true, decide_eq_true_eq, decide_eq_true_eq, decide_eq_true_eq] at ok4
    obtain ⟨⟨⟨o1, o2⟩, o3⟩, o4⟩ := ok4
    refine va_get (D := D) (ci := a) (C := r0.1) (T := r0.2.1) (N := r0.2.2) (v := qrz ad y) hx hb (fun w hw => hK.1 w hw args) (vw_in hr0) hown hK.2.2.1 hR.2.2.2.1 (q - 10) hw hr0 b o1 (hK.1 _ (okL_in o2) args) (by rw [o3]; exact fun _ z => z) ?_ hd (kk H locs rl hR hl hloc)
    rw [List.getElem?_map, List.getElem?_range g3, ey]
    show some (qfv ad h q a b) = _
    unfold qfv
    rw [← o4]
    cases Nat.beq k 1 <;> rfl

theorem sg_put (F : FC p R s mi meth c D cA ad H0 L xs d m hs hf) {pc b a n q : Nat} {r0 : vw_C} {h h2 : QH} {ls : List QS} {st : List QV} {H : Heap} {locs : List Loc} {rl : Array Slot} {y : QV} (hss : hN hs ≤ hN h) (hd : decode (qbyte m) pc = .ok (.putfield n, 3)) (hr0 : vwCl[a]? = some r0) (o1 : b < r0.2.2) (o2 : Cond.fieldLink (qname m).cls n r0.1 (r0.2.1 b).2.1 (r0.2.1 b).2.2.1 ∈ lwG) (o3 : (r0.2.1 b).1 = r0.1) (o5 : (r0.2.1 b).2.2.2 = true → (qname m).name = "<init>" ∧ r0.1 = (qname m).cls) {ty : FieldType} (hty : parseFieldDescriptor (r0.2.1 b).2.2.1 = some ty) (hnar : narrow ty (qrz ad y) = qrz ad y) (hfit : fits ty (qrz ad y) = true)
    (g0 : 10 ≤ q) (g1 : q < hN h) (g2 : hT h q = 16 + a) (g3 : b < hL h q) (hn2 : hN h2 = hN h) (hS2 : hS h2 = hS h) (ec : qce cA ad h2 q = .inr (a, ((List.range (hL h q)).map (qfv ad h q a)).set b (qrz ad y))) (eo : ∀ z, z ≠ q → qce cA ad h2 z = qce cA ad h z) (ero : qRO L xs h → qRO L xs h2)
    (hR : qRel D cA ad H0 L xs h H) (hl : lv_has rl (qmx m) (lfac ad 0 ls)) (hloc : ∀ q ∈ locs, H0.size ≤ q.base) (kk : SW p l e R s mi args below meth c Q D cA ad H0 L xs m hs (pc + 3) ls st h2) : W p l e R s mi args below meth c H locs (hN h - hN hs) (hS h - hS hs) Q (F0 mi pc rl (qrz ad y :: .ref (ad q) :: st.map (qrz ad))) := by
  obtain ⟨hx, hb, hml, hown, hret, hlocks, hname, hK, hs3, hrm, hcs, had⟩ := id F
  have hw := qws_at (cA := cA) (ad := ad) g0 g1
  rw [qce_obj g2] at hw
  have fin : ∀ (H1 : Heap) (locs1 : List Loc), va_P D vwCl ((qws cA ad h).set (q - 10) (ad q, .inr (a, ((List.range (hL h q)).map (qfv ad h q a)).set b (qrz ad y)))) H1 → va_D (fun q => H0.size ≤ q) ((qws cA ad h).set (q - 10) (ad q, .inr (a, ((List.range (hL h q)).map (qfv ad h q a)).set b (qrz ad y)))) → va_S (fun q => H0.size ≤ q) H H1 locs1 → W p l e R s mi args below meth c H1 locs1 (hN h - hN hs) (hS h - hS hs) Q (F0 mi (pc + 3) rl (st.map (qrz ad))) := by
    intro H1 locs1 hP hD hS
    refine W_size (fun hsz => ?_)
    have := kk H1 locs1 rl (qRel_set F hR g0 g1 hn2 hss hsz ec.symm eo ero hP hS) hl hS.2.2
    rw [hn2, hS2] at this
    exact this
  cases hfin : (r0.2.1 b).2.2.2
  · exact va_put (D := D) (ci := a) (C := r0.1) (T := r0.2.1) (N := r0.2.2) (v := qrz ad y) (ty := ty) hx hb (fun w hw => hK.1 w hw args) (vw_in hr0) (vw_ty r0) (vw_tyk hr0) (vw_nm hr0) hown hK.2.2.1 hR.2.2.2.1 (qws_D had h) (qS_self (h := h) hloc) (q - 10) hw hr0 b o1 (hK.1 _ o2 args) (by rw [o3]; exact fun _ z => z) hfin hty hnar hfit (by simpa using g3) hd fin
  · obtain ⟨i1, i2⟩ := o5 hfin
    exact va_putF (D := D) (ci := a) (C := r0.1) (T := r0.2.1) (N := r0.2.2) (v := qrz ad y) (ty := ty) hx hb (fun w hw => hK.1 w hw args) (vw_in hr0) (vw_ty r0) (vw_tyk hr0) (vw_nm hr0) hown hK.2.2.1 hR.2.2.2.1 (qws_D had h) (qS_self (h := h) hloc) (q - 10) hw hr0 b o1 (hK.1 _ o2 args) (by rw [o3]; exact fun _ z => z) hfin (hname i1) (o3.trans i2) hty hnar hfit (by simpa using g3) hd fin

set_option maxHeartbeats 1000000 in
theorem sg_putfield (F : FC p R s mi meth c D cA ad H0 L xs d m hs hf) {pc nx a b k j : Nat} {v : Int32} {ts : List (Int32 × Nat)} {ls ls2 : List QS} {st st2 : List QV} {h h2 : QH} {pc2 : Nat} (hss : hN hs ≤ hN h ∧ hS hs ≤ hS h) (hff : hN h2 ≤ hN hf ∧ hS h2 ≤ hS hf)  {n : Nat} (hd : decode (qbyte m) pc = .ok ((.putfield n), nx - pc)) (ok : okE m pc (.putfield n) nx a b k j v ts = true) (hq : qexec some ls st h (.putfield n) nx a b k v ts = some (nGo pc2 ls2 st2 h2)) (kk : SW p l e R s mi args below meth c Q D cA ad H0 L xs m hs pc2 ls2 st2 h2) : SW p l e R s mi args below meth c Q D cA ad H0 L xs m hs pc ls st h := by
  intro H locs rl hR hl hloc
  obtain ⟨hx, hb, hml, hown, hret, hlocks, hname, hK, hs3, hrm, hcs, had⟩ := id F
  obtain ⟨w, r1, rfl, hq1⟩ := e1_inv hq
  obtain ⟨u, r, rfl, hq2⟩ := e1_inv hq1
  obtain ⟨o, rfl, hq3⟩ := eR_inv hq2
  obtain ⟨q, rfl, hq4⟩ := ob_inv hq3
  have hq5 : cond (Nat.beq k 1) (eR w fun x => (qpr a b q x h).bind fun h => some (nGo nx ls r h)) (eI w fun x => cond (Nat.beq k 0) ((qpi a b q x h).bind fun h => some (nGo nx ls r h)) ((qpz a b q x h).bind fun h => some (nGo nx ls r h))) = some (nGo pc2 ls2 st2 h2) := hq4
  have ok1 : (decide (nx = pc + 3) && (match vwCl[a]? with
    | some r => decide (b < r.2.2) && okL j (.fieldLink (qname m).cls n r.1 (r.2.1 b).2.1 (r.2.1 b).2.2.1) && decide ((r.2.1 b).1 = r.1) && decide (Nat.beq k 1 = qfr a b) && (cond (r.2.1 b).2.2.2 (decide ((qname m).name = "<init>") && decide (r.1 = (qname m).cls)) true) && (match parseFieldDescriptor (r.2.1 b).2.2.1 with
      | some (.object _) => Nat.beq k 1
      | some (.array _) => Nat.beq k 1
      | some .int => Nat.beq k 0
      | some .boolean => Nat.beq k 2
      | _ => false)
    | none => false)) = true := ok
  rw [Bool.and_eq_true, decide_eq_true_eq] at ok1
  obtain ⟨en, ok2⟩ := ok1
  subst en
  rw [Nat.add_sub_cancel_left] at hd
  cases hr0 : vwCl[a]? with
  | none => rw [hr0] at ok2; cases ok2
  | some r0 =>
    rw [hr0] at ok2
    have ok3 : (decide (b < r0.2.2) && okL j (.fieldLink (qname m).cls n r0.1 (r0.2.1 b).2.1 (r0.2.1 b).2.2.1) && decide ((r0.2.1 b).1 = r0.1) && decide (Nat.beq k 1 = qfr a b) && (cond (r0.2.1 b).2.2.2 (decide ((qname m).name = "<init>") && decide (r0.1 = (qname m).cls)) true) && (match parseFieldDescriptor (r0.2.1 b).2.2.1 with
      | some (.object _) => Nat.beq k 1
      | some (.array _) => Nat.beq k 1
      | some .int => Nat.beq k 0
      | some .boolean => Nat.beq k 2
      | _ => false)) = true := ok2
    rw [Bool.and_eq_true, Bool.and_eq_true, Bool.and_eq_true, Bool.and_eq_true, Bool.and_eq_true, decide_eq_true_eq, decide_eq_true_eq, decide_eq_true_eq] at ok3
    obtain ⟨⟨⟨⟨⟨o1, o2⟩, o3⟩, o4⟩, o5⟩, o6⟩ := ok3
    have o7 : (r0.2.1 b).2.2.2 = true → (qname m).name = "<init>" ∧ r0.1 = (qname m).cls := by
      intro z
      rw [z] at o5
      have o5 : (decide ((qname m).name = "<init>") && decide (r0.1 = (qname m).cls)) = true := o5
      rw [Bool.and_eq_true, decide_eq_true_eq, decide_eq_true_eq] at o5
      exact o5
    have refs : ∀ {ty : FieldType} (_ : parseFieldDescriptor (r0.2.1 b).2.2.1 = some ty) (_ : ∀ v : Value, narrow ty v = v) (_ : ∀ o : Option Nat, fits ty (va_rf (o.map ad)) = true) (_ : Nat.beq k 1 = true), W p l e R s mi args below meth c H locs (hN h - hN hs) (hS h - hS hs) Q (F0 mi pc rl (qrz ad w :: .ref (ad q) :: r.map (qrz ad))) := by
      intro ty hty hna hfi hk
      rw [hk] at hq5 o4
      obtain ⟨x, rfl, hq6⟩ := eR_inv (show (eR w fun x => (qpr a b q x h).bind fun h => some (nGo (pc + 3) ls r h)) = some (nGo pc2 ls2 st2 h2) from hq5)
      obtain ⟨h9, hy, hq7⟩ := ob_inv hq6
      cases hq7
      obtain ⟨g0, g1, g2, g3, rfl⟩ := qpr_inv hy
      exact sg_put (h2 := hsR h q b x) (y := qR x) F hss.1 hd hr0 o1 (okL_in o2) o3 o7 hty (hna _) (hfi x) g0 g1 g2 g3 rfl rfl (qce_fR g2 o4.symm) qce_R (qRO_R g0) hR hl hloc kk
    split at o6
    · rename_i C0 hty
      exact refs hty (fun v => by cases v <;> rfl) (fun o => by cases o <;> rfl) o6
    · rename_i C0 hty
      exact refs hty (fun v => by cases v <;> rfl) (fun o => by cases o <;> rfl) o6
    · rename_i hty
      have hk0 := Nat.eq_of_beq_eq_true o6
      subst hk0
      obtain ⟨x, rfl, hq6⟩ := eI_inv (show (eI w fun x => cond (Nat.beq 0 0) ((qpi a b q x h).bind fun h => some (nGo (pc + 3) ls r h)) ((qpz a b q x h).bind fun h => some (nGo (pc + 3) ls r h))) = some (nGo pc2 ls2 st2 h2) from hq5)
      obtain ⟨h9, hy, hq7⟩ := ob_inv (show ((qpi a b q x h).bind fun h => some (nGo (pc + 3) ls r h)) = some (nGo pc2 ls2 st2 h2) from hq6)
      cases hq7
      obtain ⟨g0, g1, g2, g3, rfl⟩ := qpi_inv hy
      exact sg_put (h2 := hsI h q b x) F hss.1 hd hr0 o1 (okL_in o2) o3 o7 (y := qI x) hty rfl rfl g0 g1 g2 g3 rfl rfl (qce_fI g2 o4.symm) qce_I (qRO_I g0) hR hl hloc kk
    · rename_i hty
      have hk0 := Nat.eq_of_beq_eq_true o6
      subst hk0
      obtain ⟨x, rfl, hq6⟩ := eI_inv (show (eI w fun x => cond (Nat.beq 2 0) ((qpi a b q x h).bind fun h => some (nGo (pc + 3) ls r h)) ((qpz a b q x h).bind fun h => some (nGo (pc + 3) ls r h))) = some (nGo pc2 ls2 st2 h2) from hq5)
      obtain ⟨h9, hy, hq7⟩ := ob_inv (show ((qpz a b q x h).bind fun h => some (nGo (pc + 3) ls r h)) = some (nGo pc2 ls2 st2 h2) from hq6)
      cases hq7
      obtain ⟨g0, g1, g2, g3, g4, rfl⟩ := qpz_inv hy
      exact sg_put (h2 := hsI h q b x) F hss.1 hd hr0 o1 (okL_in o2) o3 o7 (y := qI x) hty (by rcases g4 with rfl | rfl <;> rfl) (by rcases g4 with rfl | rfl <;> rfl) g0 g1 g2 g3 rfl rfl (qce_fI g2 o4.symm) qce_I (qRO_I g0) hR hl hloc kk
    · cases o6

set_option maxHeartbeats 1000000 in
theorem sg_getstatic (F : FC p R s mi meth c D cA ad H0 L xs d m hs hf) {pc nx a b k j : Nat} {v : Int32} {ts : List (Int32 × Nat)} {ls ls2 : List QS} {st st2 : List QV} {h h2 : QH} {pc2 : Nat} (hss : hN hs ≤ hN h ∧ hS hs ≤ hS h) (hff : hN h2 ≤ hN hf ∧ hS h2 ≤ hS hf)  {n : Nat} (hd : decode (qbyte m) pc = .ok ((.getstatic n), nx - pc)) (ok : okE m pc (.getstatic n) nx a b k j v ts = true) (hq : qexec some ls st h (.getstatic n) nx a b k v ts = some (nGo pc2 ls2 st2 h2)) (kk : SW p l e R s mi args below meth c Q D cA ad H0 L xs m hs pc2 ls2 st2 h2) : SW p l e R s mi args below meth c Q D cA ad H0 L xs m hs pc ls st h := by
  intro H locs rl hR hl hloc
  obtain ⟨hx, hb, hml, hown, hret, hlocks, hname, hK, hs3, hrm, hcs, had⟩ := id F
  have hq1 : cond (Nat.beq k 0) (some (nGo nx ls (qI v :: st) h)) (some (nGo nx ls (qR (some a) :: st) h)) = some (nGo pc2 ls2 st2 h2) := hq
  have ok1 : (decide (nx = pc + 3) && cond (Nat.beq k 0) (decide (v = 1) && okL j (.fieldLink (qname m).cls n "java/lang/String" "COMPACT_STRINGS" "Z")) (decide (a < 5) && (okL j (.fieldLink (qname m).cls n "HandedOn" (qstn a) "[I") || okN j (.fieldLinkNest (qname m).cls n "HandedOn" (qstn a) "[I" "HandedOn")))) = true := ok
  rw [Bool.and_eq_true, decide_eq_true_eq] at ok1
  obtain ⟨en, ok2⟩ := ok1
  subst en
  rw [Nat.add_sub_cancel_left] at hd
  cases hk : Nat.beq k 0
  · rw [hk] at ok2 hq1
    cases hq1
    have ok3 : (decide (a < 5) && (okL j (.fieldLink (qname m).cls n "HandedOn" (qstn a) "[I") || okN j (.fieldLinkNest (qname m).cls n "HandedOn" (qstn a) "[I" "HandedOn"))) = true := ok2
    rw [Bool.and_eq_true, Bool.or_eq_true, decide_eq_true_eq] at ok3
    obtain ⟨o1, o2⟩ := ok3
    have hZ := qZ_s F (hK.2.2.2.2.2.1 a o1)
    rcases o2 with o2 | o2
    · exact va_gets hx hb hZ (qS_of F hR hss.1 hloc) hown (hK.1 _ (okL_in o2) args) (fun _ z => z) hd (kk H locs rl hR hl hloc)
    · exact va_getsN hx hb hZ (qS_of F hR hss.1 hloc) hown (va_Nw.use rfl (hK.2.1 _ (okN_in o2))) (fun _ z => z) hd (kk H locs rl hR hl hloc)
  · rw [hk] at ok2 hq1
    cases hq1
    have ok3 : (decide (v = 1) && okL j (.fieldLink (qname m).cls n "java/lang/String" "COMPACT_STRINGS" "Z")) = true := ok2
    rw [Bool.and_eq_true, decide_eq_true_eq] at ok3
    obtain ⟨rfl, o2⟩ := ok3
    exact va_gets hx hb (qZ_s F hK.2.2.2.2.2.2.1) (qS_of F hR hss.1 hloc) hown (hK.1 _ (okL_in o2) args) (fun _ z => z) hd (kk H locs rl hR hl hloc)
end QFD


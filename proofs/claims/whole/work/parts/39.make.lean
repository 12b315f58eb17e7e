section QMK
variable {p : Program} {l : Launch} {e : Env} {R : Room} {s : State} {mi : MethodId} {args : Array Value} {below : List Frame} {meth : Method} {c : Code} {Q : State → Prop} {D : va_G} {cA : Nat → ClassId} {ad : Nat → Nat} {H0 : Heap} {L : Nat} {xs : Nat → Int32} {d m : Nat} {hs hf : QH}
theorem sg_narr (F : FC p R s mi meth c D cA ad H0 L xs d m hs hf) {pc t : Nat} {x : Int32} {at_ : ArrayType} {ty : FieldType} {h h2 : QH} {ls : List QS} {r : List QV} {H : Heap} {locs : List Loc} {rl : Array Slot} (hss : hN hs ≤ hN h ∧ hS hs ≤ hS h) (hff : hN h2 ≤ hN hf ∧ hS h2 ≤ hS hf) (hd : decode (qbyte m) pc = .ok (.newarray at_, 2)) (hty : newarray.typeOf at_ = ty) (h4 : t < 4) (htt : (qtys cA)[t]? = some (cA t, ty)) (hac : ty = .int ∨ ty = .byte ∨ ty = .boolean ∨ ty = .char) (hdef : defaultValue ty = .int 0) (hby : componentBytes ty ≤ 8) (hRA : ∀ z, va_RA s z ty = (s.vm.findClass ("[" ++ ty.toString) = some z)) (g0 : 0 ≤ x) (g1 : x.toNatClampNeg ≤ 100000) (e2 : h2 = hPush h t x.toNatClampNeg)
    (hR : qRel D cA ad H0 L xs h H) (hl : lv_has rl (qmx m) (lfac ad 0 ls)) (hloc : ∀ q ∈ locs, H0.size ≤ q.base) (kk : SW p l e R s mi args below meth c Q D cA ad H0 L xs m hs (pc + 2) ls (qR (some (hN h)) :: r) h2) : W p l e R s mi args below meth c H locs (hN h - hN hs) (hS h - hS hs) Q (F0 mi pc rl (.int x :: r.map (qrz ad))) := by
  obtain ⟨hx, hb, hml, hown, hret, hlocks, hname, hK, hs3, hrm, hcs, had⟩ := id F
  subst e2
  have n1 : hN (hPush h t x.toNatClampNeg) = hN h + 1 := rfl
  have n2 : hS (hPush h t x.toNatClampNeg) = hS h + x.toNatClampNeg := rfl
  rw [n1, n2] at hff
  refine va_newa (D := D) (ty := ty) (a0 := (x.toNatClampNeg, .inl (fun _ => 0))) (N' := x.toNatClampNeg) hx hb (by rw [hty]; exact hK.1 _ (lwG_ac hac) args) hty hK.2.2.1 hR.2.2.2.1 (qws_D had h) (qS_self (h := h) hloc) (fun q hq => Nat.le_trans (by rw [hR.1]; omega) hq) (fun cA' => by rw [vp_cell_i, hdef]) (Int32.not_lt.mpr g0) rfl (by have := Nat.mul_le_mul g1 hby; omega) (by omega) (by omega) hd (fun q cA' H1 hK1 hP hD hV => W_size (fun hsz => ?_))
  have hc : cA' = cA t := by
    have a1 := (va_K_ty hK1 (t := 6) (q := (cA', ty)) rfl).2
    have a2 := (va_K_ty hK.2.2.1 htt).2
    rw [hRA] at a1
    rw [hRA] at a2
    exact Option.some.inj (a1.symm.trans a2)
  subst hc
  obtain ⟨eq, hR2⟩ := qRel_push F hR n1 hss.1 hsz (h' := hPush h t x.toNatClampNeg) (by rw [qce_arr (h := hPush h t x.toNatClampNeg) (t := t) (by rw [hPush_T, if_pos rfl]) h4, hPush_L, hPush_I, if_pos rfl, if_pos rfl]) qce_P (qRO_P hR.2.1) hP hD hV
  subst eq
  have := kk H1 locs rl hR2 hl hloc
  rw [n1, n2, show hN h + 1 - hN hs = hN h - hN hs + 1 by omega, show hS h + x.toNatClampNeg - hS hs = hS h - hS hs + x.toNatClampNeg by omega] at this
  exact this

set_option maxHeartbeats 1000000 in
theorem sg_newarray (F : FC p R s mi meth c D cA ad H0 L xs d m hs hf) {pc nx a b k j : Nat} {v : Int32} {ts : List (Int32 × Nat)} {ls ls2 : List QS} {st st2 : List QV} {h h2 : QH} {pc2 : Nat} (hss : hN hs ≤ hN h ∧ hS hs ≤ hS h) (hff : hN h2 ≤ hN hf ∧ hS h2 ≤ hS hf)  {t : ArrayType} (hd : decode (qbyte m) pc = .ok ((.newarray t), nx - pc)) (ok : okE m pc (.newarray t) nx a b k j v ts = true) (hq : qexec some ls st h (.newarray t) nx a b k v ts = some (nGo pc2 ls2 st2 h2)) (kk : SW p l e R s mi args below meth c Q D cA ad H0 L xs m hs pc2 ls2 st2 h2) : SW p l e R s mi args below meth c Q D cA ad H0 L xs m hs pc ls st h := by
  intro H locs rl hR hl hloc
  obtain ⟨hx, hb, hml, hown, hret, hlocks, hname, hK, hs3, hrm, hcs, had⟩ := id F
  obtain ⟨w, r, rfl, hq1⟩ := e1_inv hq
  obtain ⟨x, rfl, hq2⟩ := eI_inv hq1
  obtain ⟨h9, hy, hq3⟩ := ob_inv hq2
  cases hq3
  obtain ⟨g0, g1, g2⟩ := qna_inv hy
  cases t
  case int =>
    have ok1 : (decide (nx = pc + 2) && decide (a = 0)) = true := ok
    rw [Bool.and_eq_true, decide_eq_true_eq, decide_eq_true_eq] at ok1
    obtain ⟨en, ha⟩ := ok1
    subst en
    subst ha
    rw [Nat.add_sub_cancel_left] at hd
    exact sg_narr F hss hff hd rfl (by decide) rfl (Or.inl rfl) rfl (by decide) (fun _ => rfl) g0 g1 g2 hR hl hloc kk
  case byte =>
    have ok1 : (decide (nx = pc + 2) && decide (a = 1)) = true := ok
    rw [Bool.and_eq_true, decide_eq_true_eq, decide_eq_true_eq] at ok1
    obtain ⟨en, ha⟩ := ok1
    subst en
    subst ha
    rw [Nat.add_sub_cancel_left] at hd
    exact sg_narr F hss hff hd rfl (by decide) rfl (Or.inr (Or.inl rfl)) rfl (by decide) (fun _ => rfl) g0 g1 g2 hR hl hloc kk
  case boolean =>
    have ok1 : (decide (nx = pc + 2) && decide (a = 2)) = true := ok
    rw [Bool.and_eq_true, decide_eq_true_eq, decide_eq_true_eq] at ok1
    obtain ⟨en, ha⟩ := ok1
    subst en
    subst ha
    rw [Nat.add_sub_cancel_left] at hd
    exact sg_narr F hss hff hd rfl (by decide) rfl (Or.inr (Or.inr (Or.inl rfl))) rfl (by decide) (fun _ => rfl) g0 g1 g2 hR hl hloc kk
  case char =>
    have ok1 : (decide (nx = pc + 2) && decide (a = 3)) = true := ok
    rw [Bool.and_eq_true, decide_eq_true_eq, decide_eq_true_eq] at ok1
    obtain ⟨en, ha⟩ := ok1
    subst en
    subst ha
    rw [Nat.add_sub_cancel_left] at hd
    exact sg_narr F hss hff hd rfl (by decide) rfl (Or.inr (Or.inr (Or.inr rfl))) rfl (by decide) (fun _ => rfl) g0 g1 g2 hR hl hloc kk
  all_goals
    have ok1 : (decide (nx = pc + 2) && false) = true := ok
    rw [Bool.and_false] at ok1
    cases ok1

theorem sg_anew (F : FC p R s mi meth c D cA ad H0 L xs d m hs hf) {pc t n : Nat} {x : Int32} {C : String} {h h2 : QH} {ls : List QS} {r : List QV} {H : Heap} {locs : List Loc} {rl : Array Slot} (hss : hN hs ≤ hN h ∧ hS hs ≤ hS h) (hff : hN h2 ≤ hN hf ∧ hS h2 ≤ hS hf) (hd : decode (qbyte m) pc = .ok (.anewarray n, 3)) (ht : t = 4 ∨ t = 5) (htt : (qtys cA)[t]? = some (cA t, .object C)) (hlk : Cond.classLink (qname m).cls n C ∈ lwG) (hao : va_AO C s) (g0 : 0 ≤ x) (g1 : x.toNatClampNeg ≤ 100000) (e2 : h2 = hPush h t x.toNatClampNeg)
    (hR : qRel D cA ad H0 L xs h H) (hl : lv_has rl (qmx m) (lfac ad 0 ls)) (hloc : ∀ q ∈ locs, H0.size ≤ q.base) (kk : SW p l e R s mi args below meth c Q D cA ad H0 L xs m hs (pc + 3) ls (qR (some (hN h)) :: r) h2) : W p l e R s mi args below meth c H locs (hN h - hN hs) (hS h - hS hs) Q (F0 mi pc rl (.int x :: r.map (qrz ad))) := by
  obtain ⟨hx, hb, hml, hown, hret, hlocks, hname, hK, hs3, hrm, hcs, had⟩ := id F
  subst e2
  have n1 : hN (hPush h t x.toNatClampNeg) = hN h + 1 := rfl
  have n2 : hS (hPush h t x.toNatClampNeg) = hS h + x.toNatClampNeg := rfl
  rw [n1, n2] at hff
  refine va_newq (D := D) (N' := x.toNatClampNeg) hx hb hown (hK.1 _ hlk args) hao hK.2.2.1 hR.2.2.2.1 (qws_D had h) (qS_self (h := h) hloc) (fun q hq => Nat.le_trans (by rw [hR.1]; omega) hq) (Int32.not_lt.mpr g0) rfl (by omega) (by omega) (by omega) hd (fun q cA' H1 hK1 hP hD hV => W_size (fun hsz => ?_))
  have hc : cA' = cA t := by
    obtain ⟨_, _, _, _, _, a1⟩ := (va_K_ty hK1 (t := 6) (q := (cA', .object C)) rfl).2
    obtain ⟨_, _, _, _, _, a2⟩ := (va_K_ty hK.2.2.1 htt).2
    exact Option.some.inj (a1.symm.trans a2)
  subst hc
  obtain ⟨eq, hR2⟩ := qRel_push F hR n1 hss.1 hsz (h' := hPush h t x.toNatClampNeg) (by rw [qce_ref (h := hPush h t x.toNatClampNeg) (t := t) (by rw [hPush_T, if_pos rfl]) ht, hPush_L, hPush_R, if_pos rfl, if_pos rfl]; rfl) qce_P (qRO_P hR.2.1) hP hD hV
  subst eq
  have := kk H1 locs rl hR2 hl hloc
  rw [n1, n2, show hN h + 1 - hN hs = hN h - hN hs + 1 by omega, show hS h + x.toNatClampNeg - hS hs = hS h - hS hs + x.toNatClampNeg by omega] at this
  exact this

set_option maxHeartbeats 1000000 in
theorem sg_anewarray (F : FC p R s mi meth c D cA ad H0 L xs d m hs hf) {pc nx a b k j : Nat} {v : Int32} {ts : List (Int32 × Nat)} {ls ls2 : List QS} {st st2 : List QV} {h h2 : QH} {pc2 : Nat} (hss : hN hs ≤ hN h ∧ hS hs ≤ hS h) (hff : hN h2 ≤ hN hf ∧ hS h2 ≤ hS hf)  {n : Nat} (hd : decode (qbyte m) pc = .ok ((.anewarray n), nx - pc)) (ok : okE m pc (.anewarray n) nx a b k j v ts = true) (hq : qexec some ls st h (.anewarray n) nx a b k v ts = some (nGo pc2 ls2 st2 h2)) (kk : SW p l e R s mi args below meth c Q D cA ad H0 L xs m hs pc2 ls2 st2 h2) : SW p l e R s mi args below meth c Q D cA ad H0 L xs m hs pc ls st h := by
  intro H locs rl hR hl hloc
  obtain ⟨hx, hb, hml, hown, hret, hlocks, hname, hK, hs3, hrm, hcs, had⟩ := id F
  obtain ⟨w, r, rfl, hq1⟩ := e1_inv hq
  obtain ⟨x, rfl, hq2⟩ := eI_inv hq1
  obtain ⟨h9, hy, hq3⟩ := ob_inv hq2
  cases hq3
  obtain ⟨g0, g1, g2⟩ := qna_inv hy
  have ok1 : (decide (nx = pc + 3) && (decide (a = 4) && okL j (.classLink (qname m).cls n "HandedOn$World") || decide (a = 5) && okL j (.classLink (qname m).cls n "HandedOn$Law"))) = true := ok
  simp only [Bool.and_eq_true, Bool.or_eq_true, decide_eq_true_eq] at ok1
  obtain ⟨en, ok2⟩ := ok1
  subst en
  rw [Nat.add_sub_cancel_left] at hd
  rcases ok2 with ⟨rfl, o2⟩ | ⟨rfl, o2⟩
  · exact sg_anew F hss hff hd (Or.inl rfl) rfl (okL_in o2) hK.2.2.2.2.2.2.2.2.1 g0 g1 g2 hR hl hloc kk
  · exact sg_anew F hss hff hd (Or.inr rfl) rfl (okL_in o2) hK.2.2.2.2.2.2.2.2.2 g0 g1 g2 hR hl hloc kk

set_option maxHeartbeats 1000000 in
theorem sg_new (F : FC p R s mi meth c D cA ad H0 L xs d m hs hf) {pc nx a b k j : Nat} {v : Int32} {ts : List (Int32 × Nat)} {ls ls2 : List QS} {st st2 : List QV} {h h2 : QH} {pc2 : Nat} (hss : hN hs ≤ hN h ∧ hS hs ≤ hS h) (hff : hN h2 ≤ hN hf ∧ hS h2 ≤ hS hf)  {n : Nat} (hd : decode (qbyte m) pc = .ok ((.new n), nx - pc)) (ok : okE m pc (.new n) nx a b k j v ts = true) (hq : qexec some ls st h (.new n) nx a b k v ts = some (nGo pc2 ls2 st2 h2)) (kk : SW p l e R s mi args below meth c Q D cA ad H0 L xs m hs pc2 ls2 st2 h2) : SW p l e R s mi args below meth c Q D cA ad H0 L xs m hs pc ls st h := by
  intro H locs rl hR hl hloc
  obtain ⟨hx, hb, hml, hown, hret, hlocks, hname, hK, hs3, hrm, hcs, had⟩ := id F
  have ok1 : (decide (nx = pc + 3) && (match vwCl[a]? with
    | some r => okL j (.classLink (qname m).cls n r.1) && decide (b = r.2.2)
    | none => false)) = true := ok
  rw [Bool.and_eq_true, decide_eq_true_eq] at ok1
  obtain ⟨en, ok2⟩ := ok1
  subst en
  rw [Nat.add_sub_cancel_left] at hd
  cases hq
  cases hr0 : vwCl[a]? with
  | none => rw [hr0] at ok2; cases ok2
  | some r0 =>
    rw [hr0] at ok2
    have ok3 : (okL j (.classLink (qname m).cls n r0.1) && decide (b = r0.2.2)) = true := ok2
    rw [Bool.and_eq_true, decide_eq_true_eq] at ok3
    obtain ⟨o1, o2⟩ := ok3
    subst o2
    have n1 : hN (qno a r0.2.2 h) = hN h + 1 := rfl
    have n2 : hS (qno a r0.2.2 h) = hS h + r0.2.2 := rfl
    rw [n1, n2] at hff
    refine va_new (D := D) (ci := a) (C := r0.1) (T := r0.2.1) (N := r0.2.2) (fs := (List.range r0.2.2).map (qfv ad (qno a r0.2.2 h) (hN h) a)) hx hb (fun w hw => hK.1 w hw args) (vw_in hr0) (vw_ty r0) (vw_tyk hr0) hown (hK.1 _ (okL_in o1) args) (hK.1 _ (vw_inst hr0) args) (hK.1 _ (vw_ini hr0) args) hK.2.2.1 hR.2.2.2.1 (qws_D had h) (qS_self (h := h) hloc) (fun q hq => Nat.le_trans (by rw [hR.1]; omega) hq) hr0 (fun i hi => ?_) (by omega) (by omega) hd (fun q H1 hP hD hV => W_size (fun hsz => ?_))
    · rw [vw_def hr0 hi]
      unfold vp_V
      rw [List.getD_eq_getElem?_getD, List.getElem?_map, List.getElem?_range hi]
      show _ = qfv ad (qno a r0.2.2 h) (hN h) a i
      unfold qfv qno
      rw [hPush_I, hPush_R, if_pos rfl, if_pos rfl]
      rfl
    · obtain ⟨eq, hR2⟩ := qRel_push F hR n1 hss.1 hsz (h' := qno a r0.2.2 h) (by rw [qce_obj (h := qno a r0.2.2 h) (k := a) (by unfold qno; rw [hPush_T, if_pos rfl])]; unfold qno; rw [hPush_L, if_pos rfl]) qce_P (qRO_P hR.2.1) hP hD hV
      subst eq
      have := kk H1 locs rl hR2 hl hloc
      rw [n1, n2, show hN h + 1 - hN hs = hN h - hN hs + 1 by omega, show hS h + r0.2.2 - hS hs = hS h - hS hs + r0.2.2 by omega] at this
      exact this

set_option maxHeartbeats 1000000 in
theorem sg_checkcast (F : FC p R s mi meth c D cA ad H0 L xs d m hs hf) {pc nx a b k j : Nat} {v : Int32} {ts : List (Int32 × Nat)} {ls ls2 : List QS} {st st2 : List QV} {h h2 : QH} {pc2 : Nat} (hss : hN hs ≤ hN h ∧ hS hs ≤ hS h) (hff : hN h2 ≤ hN hf ∧ hS h2 ≤ hS hf)  {n : Nat} (hd : decode (qbyte m) pc = .ok ((.checkcast n), nx - pc)) (ok : okE m pc (.checkcast n) nx a b k j v ts = true) (hq : qexec some ls st h (.checkcast n) nx a b k v ts = some (nGo pc2 ls2 st2 h2)) (kk : SW p l e R s mi args below meth c Q D cA ad H0 L xs m hs pc2 ls2 st2 h2) : SW p l e R s mi args below meth c Q D cA ad H0 L xs m hs pc ls st h := by
  intro H locs rl hR hl hloc
  obtain ⟨hx, hb, hml, hown, hret, hlocks, hname, hK, hs3, hrm, hcs, had⟩ := id F
  have ok : (decide (nx = pc + 3) && okL j (.classLink (qname m).cls n "[I")) = true := ok
  simp only [Bool.and_eq_true, decide_eq_true_eq] at ok
  obtain ⟨en, ha⟩ := ok
  subst en
  rw [Nat.add_sub_cancel_left] at hd
  obtain ⟨u, r, rfl, hq1⟩ := e1_inv hq
  obtain ⟨o, rfl, hq2⟩ := eR_inv hq1
  obtain ⟨q, rfl, hq3⟩ := ob_inv hq2
  obtain ⟨y, hy, hq4⟩ := ob_inv hq3
  cases hq4
  unfold qca at hy
  split at hy
  · rename_i g
    have hw := qws_at (cA := cA) (ad := ad) g.1.1 g.1.2
    rw [qce_arr g.2 (by decide)] at hw
    exact va_castA hx hb hown (hK.1 _ (okL_in ha) args) hR.2.2.2.1 (q - 10) hw (va_K_ty hK.2.2.1 (t := 0) (q := (cA 0, .int)) rfl).2 hd (kk H locs rl hR hl hloc)
  · cases hy

set_option maxHeartbeats 1000000 in
theorem sg_clone (F : FC p R s mi meth c D cA ad H0 L xs d m hs hf) {pc nx a b k j : Nat} {v : Int32} {ts : List (Int32 × Nat)} {ls ls2 : List QS} {st st2 : List QV} {h h2 : QH} {pc2 : Nat} (hss : hN hs ≤ hN h ∧ hS hs ≤ hS h) (hff : hN h2 ≤ hN hf ∧ hS h2 ≤ hS hf)  {n : Nat} (hk8 : Nat.beq k 8 = true) (hd : decode (qbyte m) pc = .ok ((.invokevirtual n), nx - pc)) (ok : okE m pc (.invokevirtual n) nx a b k j v ts = true) (hq : qexec some ls st h (.invokevirtual n) nx a b k v ts = some (nGo pc2 ls2 st2 h2)) (kk : SW p l e R s mi args below meth c Q D cA ad H0 L xs m hs pc2 ls2 st2 h2) : SW p l e R s mi args below meth c Q D cA ad H0 L xs m hs pc ls st h := by
  intro H locs rl hR hl hloc
  obtain ⟨hx, hb, hml, hown, hret, hlocks, hname, hK, hs3, hrm, hcs, had⟩ := id F
  have hq0 : cond (Nat.beq k 8) (e1 st fun u r => eR u fun o => o.bind fun p => cond (Nat.ble (catS r) 8) ((qcn p h).bind fun h1 => some (nGo nx ls (qR (some (hN h)) :: r) h1)) none) ((splitA b [] st).bind fun q => cond (Nat.ble (catS q.2) 8) (some (nCall a q.1 k nx ls q.2 h)) none) = some (nGo pc2 ls2 st2 h2) := hq
  have ok0 : (decide (nx = pc + 3) && cond (Nat.beq k 8) (okL j (.methodLink (qname m).cls n ⟨"[I", "clone", "()Ljava/lang/Object;"⟩)) (okL j (.methodLink (qname m).cls n (qname a)) && decide (1 ≤ a) && decide (a < 279) && decide (1 ≤ b) && decide (qnas a = some (b - 1)) && decide (qrc a ≠ 100) && decide ((qname a).name ≠ "<init>"))) = true := ok
  rw [hk8] at hq0 ok0
  have ok1 : (decide (nx = pc + 3) && okL j (.methodLink (qname m).cls n ⟨"[I", "clone", "()Ljava/lang/Object;"⟩)) = true := ok0
  rw [Bool.and_eq_true, decide_eq_true_eq] at ok1
  obtain ⟨en, ok2⟩ := ok1
  subst en
  rw [Nat.add_sub_cancel_left] at hd
  obtain ⟨u, r, rfl, hq1⟩ := e1_inv (show (e1 st fun u r => eR u fun o => o.bind fun p => cond (Nat.ble (catS r) 8) ((qcn p h).bind fun h1 => some (nGo (pc + 3) ls (qR (some (hN h)) :: r) h1)) none) = some (nGo pc2 ls2 st2 h2) from hq0)
  obtain ⟨o, rfl, hq2⟩ := eR_inv hq1
  obtain ⟨q, rfl, hq3⟩ := ob_inv hq2
  obtain ⟨hcat, hq4⟩ := cond_inv hq3
  obtain ⟨h9, hy, hq5⟩ := ob_inv hq4
  cases hq5
  have hcat := Nat.le_of_ble_eq_true hcat
  unfold qcn at hy
  split at hy
  · rename_i g
    have hy := (Option.some.inj hy).symm
    have hw := qws_at (cA := cA) (ad := ad) g.1.1 g.1.2
    rw [qce_arr g.2 (by decide)] at hw
    have n1 : hN h2 = hN h + 1 := by rw [hy]; rfl
    have n2 : hS h2 = hS h + hL h q := by rw [hy]; rfl
    have nT : ∀ z, hT h2 z = if z = hN h then 0 else hT h z := by
      intro z; rw [hy]
      show (if z = h.1 then (0, hL h q) else h.2.2.1 z).1 = _
      by_cases hz : z = h.1
      · rw [if_pos hz, if_pos (show z = hN h from hz)]
      · rw [if_neg hz, if_neg (show ¬ z = hN h from hz)]; rfl
    have nL : ∀ z, hL h2 z = if z = hN h then hL h q else hL h z := by
      intro z; rw [hy]
      show (if z = h.1 then (0, hL h q) else h.2.2.1 z).2 = _
      by_cases hz : z = h.1
      · rw [if_pos hz, if_pos (show z = hN h from hz)]
      · rw [if_neg hz, if_neg (show ¬ z = hN h from hz)]; rfl
    have nI : ∀ z, hI h2 z = if z = hN h then hI h q else hI h z := by
      intro z; rw [hy]; funext i
      show (if z = h.1 then hI h q i else h.2.2.2.1 z i) = _
      by_cases hz : z = h.1
      · rw [if_pos hz, if_pos (show z = hN h from hz)]
      · rw [if_neg hz, if_neg (show ¬ z = hN h from hz)]; rfl
    have nR : ∀ z, h2.2.2.2.2 z = if z = hN h then (fun _ => none) else h.2.2.2.2 z := by
      intro z; rw [hy]; funext i
      show (if z = h.1 then none else h.2.2.2.2 z i) = _
      by_cases hz : z = h.1
      · rw [if_pos hz, if_pos (show z = hN h from hz)]
      · rw [if_neg hz, if_neg (show ¬ z = hN h from hz)]
    rw [n1, n2] at hff
    have hro2 : qRO L xs h → qRO L xs h2 := by
      intro hro k hk
      obtain ⟨h1, h2', h3⟩ := hro k hk
      have h10 := hR.2.1
      have hb' : ¬ k = hN h := by omega
      refine ⟨?_, fun i => ?_, fun i => ?_⟩
      · rw [hy]
        show (if k = h.1 then (0, hL h q) else h.2.2.1 k) = _
        rw [if_neg (show ¬ k = h.1 from hb')]
        exact h1
      · rw [nI, if_neg hb']; exact h2' i
      · show h2.2.2.2.2 k i = _
        rw [nR, if_neg hb']; exact h3 i
    refine va_clone (D := D) (ad := "[I") hx hb (hml.trans hl.1.symm) hown (hK.1 _ (okL_in ok2) args) (hK.1 _ (okL_in (j := 763) (by decide +kernel)) args) (hK.1 _ (okL_in (j := 764) (by decide +kernel)) args) (hK.1 _ (okL_in (j := 765) (by decide +kernel)) args) (hK.1 _ (okL_in (j := 766) (by decide +kernel)) args) (hK.2.1 _ (okN_in (j := 767) (by decide +kernel))) hK.2.2.1 hR.2.2.2.1 (qws_D had h) (qS_self (h := h) hloc) (fun z hz => Nat.le_trans (by rw [hR.1]; omega) hz) (q - 10) 0 hw rfl (va_K_ty hK.2.2.1 (t := 0) (q := (cA 0, .int)) rfl).2 (fun i w hi => ?_) (by omega) (by rw [catS_sum]; omega) (by omega) (by show hS h - hS hs + hL h q ≤ R.slots; omega) hd (fun z H1 hK1 hP hD hV => W_size (fun hsz => ?_))
    · have hi2 : (arrV (cA 0) (hL h q) (fun j => .int (hI h q j))).slots[i]? = some w := by rw [← vp_cell_i]; exact hi
      have hlt : i < hL h q := by
        have := (Array.getElem?_eq_some_iff.mp hi2).1
        rw [arrV_size] at this
        exact this
      rw [arrV_read _ _ hlt] at hi2
      rw [← Option.some.inj hi2]
      rfl
    · obtain ⟨eq, hR2⟩ := qRel_push F hR n1 hss.1 hsz (h' := h2) (by rw [qce_arr (h := h2) (t := 0) (by rw [nT, if_pos rfl]) (by decide), nL, nI, if_pos rfl, if_pos rfl]) (fun z hz => by
        have hz : ¬ z = hN h := Nat.ne_of_lt hz
        have e : qfv ad h2 z = qfv ad h z := by
          funext k j
          show (if qfr k j then va_rf ((h2.2.2.2.2 z j).map ad) else Value.int (hI h2 z j)) = (if qfr k j then va_rf ((h.2.2.2.2 z j).map ad) else Value.int (hI h z j))
          rw [nI, nR, if_neg hz, if_neg hz]
        unfold qce
        rw [nT, nL, nI, if_neg hz, if_neg hz, if_neg hz, e]
        show _ = (if hT h z < 4 then Sum.inl (cA (hT h z), hL h z, Sum.inl (hI h z)) else if hT h z < 16 then Sum.inl (cA (hT h z), hL h z, Sum.inr (Sum.inr (Sum.inr (Sum.inr fun j => (h.2.2.2.2 z j).map ad)))) else Sum.inr (hT h z - 16, List.map (qfv ad h z (hT h z - 16)) (List.range (hL h z))))
        have e2 : (fun j => (h2.2.2.2.2 z j).map ad) = (fun j => (h.2.2.2.2 z j).map ad) := by rw [nR, if_neg hz]
        rw [← e2]
        rfl) hro2 hP hD hV
      subst eq
      have := kk H1 locs rl hR2 hl hloc
      rw [n1, n2, show hN h + 1 - hN hs = hN h - hN hs + 1 by omega, show hS h + hL h q - hS hs = hS h - hS hs + hL h q by omega] at this
      exact this
  · cases hy

set_option maxHeartbeats 1000000 in
theorem sg_objinit (F : FC p R s mi meth c D cA ad H0 L xs d m hs hf) {pc nx a b k j : Nat} {v : Int32} {ts : List (Int32 × Nat)} {ls ls2 : List QS} {st st2 : List QV} {h h2 : QH} {pc2 : Nat} (hss : hN hs ≤ hN h ∧ hS hs ≤ hS h) (hff : hN h2 ≤ hN hf ∧ hS h2 ≤ hS hf)  {n : Nat} (hk7 : Nat.beq k 7 = true) (hd : decode (qbyte m) pc = .ok ((.invokespecial n), nx - pc)) (ok : okE m pc (.invokespecial n) nx a b k j v ts = true) (hq : qexec some ls st h (.invokespecial n) nx a b k v ts = some (nGo pc2 ls2 st2 h2)) (kk : SW p l e R s mi args below meth c Q D cA ad H0 L xs m hs pc2 ls2 st2 h2) : SW p l e R s mi args below meth c Q D cA ad H0 L xs m hs pc ls st h := by
  intro H locs rl hR hl hloc
  obtain ⟨hx, hb, hml, hown, hret, hlocks, hname, hK, hs3, hrm, hcs, had⟩ := id F
  have hq0 : cond (Nat.beq k 7) (e1 st fun u r => eR u fun o => o.bind fun _ => cond (Nat.ble (catS r) 8) (some (nGo nx ls r h)) none) ((splitA b [] st).bind fun q => cond (Nat.ble (catS q.2) 8) (some (nCall a q.1 k nx ls q.2 h)) none) = some (nGo pc2 ls2 st2 h2) := hq
  have ok0 : (decide (nx = pc + 3) && cond (Nat.beq k 7) (okL j (.methodLink (qname m).cls n Lib.objectInit)) ((okL j (.methodLink (qname m).cls n (qname a)) || okN j (.methodLinkNest (qname m).cls n (qname a) "HandedOn")) && decide (1 ≤ a) && decide (a < 279) && decide (1 ≤ b) && decide (qnas a = some (b - 1)) && decide (qrc a ≠ 100) && decide ((qname a).name = "<init>") && decide (qret a = none))) = true := ok
  rw [hk7] at hq0 ok0
  have ok1 : (decide (nx = pc + 3) && okL j (.methodLink (qname m).cls n Lib.objectInit)) = true := ok0
  rw [Bool.and_eq_true, decide_eq_true_eq] at ok1
  obtain ⟨en, ok2⟩ := ok1
  subst en
  rw [Nat.add_sub_cancel_left] at hd
  obtain ⟨u, r, rfl, hq1⟩ := e1_inv (show (e1 st fun u r => eR u fun o => o.bind fun _ => cond (Nat.ble (catS r) 8) (some (nGo (pc + 3) ls r h)) none) = some (nGo pc2 ls2 st2 h2) from hq0)
  obtain ⟨o, rfl, hq2⟩ := eR_inv hq1
  obtain ⟨q, rfl, hq3⟩ := ob_inv hq2
  obtain ⟨hcat, hq4⟩ := cond_inv hq3
  cases hq4
  have hcat := Nat.le_of_ble_eq_true hcat
  exact W.objInit hx hb hown (hK.1 _ (okL_in ok2) args) (hK.1 _ (okL_in (j := 136) (by decide +kernel)) args) (hK.1 _ (okL_in (j := 137) (by decide +kernel)) args) rfl (hl.1.trans hml.symm) rfl hd (by omega) (by show 2 * 0 + _ + 12 ≤ _; rw [catS_sum]; omega) (kk H locs rl hR hl hloc)

set_option maxHeartbeats 1000000 in
theorem sg_arraycopy (F : FC p R s mi meth c D cA ad H0 L xs d m hs hf) {pc nx a b k j : Nat} {v : Int32} {ts : List (Int32 × Nat)} {ls ls2 : List QS} {st st2 : List QV} {h h2 : QH} {pc2 : Nat} (hss : hN hs ≤ hN h ∧ hS hs ≤ hS h) (hff : hN h2 ≤ hN hf ∧ hS h2 ≤ hS hf)  {n : Nat} (hk5 : Nat.ble 5 k = true) (hk9 : Nat.beq k 9 = true) (hd : decode (qbyte m) pc = .ok ((.invokestatic n), nx - pc)) (ok : okE m pc (.invokestatic n) nx a b k j v ts = true) (hq : qexec some ls st h (.invokestatic n) nx a b k v ts = some (nGo pc2 ls2 st2 h2)) (kk : SW p l e R s mi args below meth c Q D cA ad H0 L xs m hs pc2 ls2 st2 h2) : SW p l e R s mi args below meth c Q D cA ad H0 L xs m hs pc ls st h := by
  intro H locs rl hR hl hloc
  obtain ⟨hx, hb, hml, hown, hret, hlocks, hname, hK, hs3, hrm, hcs, had⟩ := id F
  have hq0 : cond (Nat.ble 5 k) (cond (Nat.beq k 9) (e2I st fun dp n r => e1 r fun u r => eR u fun od => e1 r fun w r => eI w fun sp => e1 r fun u2 r => eR u2 fun os => od.bind fun pd => os.bind fun ps => cond (Nat.ble (catS r) 8) ((qcp ps sp pd dp n h).bind fun h => some (nGo nx ls r h)) none) (e2I st fun x y r => cond (Nat.ble (catS r) 8) (some (nGo nx ls (qI (cond (Nat.beq k 5) (if x < y then y else x) (if y < x then y else x)) :: r) h)) none)) ((splitA b [] st).bind fun q => cond (Nat.ble (catS q.2) 8) (some (nCall a q.1 k nx ls q.2 h)) none) = some (nGo pc2 ls2 st2 h2) := hq
  have ok0 : (decide (nx = pc + 3) && cond (Nat.ble 5 k) (cond (Nat.beq k 9) (okL j (.methodLink (qname m).cls n arraycopyName)) (cond (Nat.beq k 5) (okL j (.methodLink (qname m).cls n Lib.Math.max.name)) (okL j (.methodLink (qname m).cls n Lib.Math.min.name)))) ((okL j (.methodLink (qname m).cls n (qname a)) || okN j (.methodLinkNest (qname m).cls n (qname a) "HandedOn")) && decide (1 ≤ a) && decide (a < 279) && decide (qnas a = some b) && decide (qrc a = 100))) = true := ok
  rw [hk5, hk9] at hq0 ok0
  have ok1 : (decide (nx = pc + 3) && okL j (.methodLink (qname m).cls n arraycopyName)) = true := ok0
  rw [Bool.and_eq_true, decide_eq_true_eq] at ok1
  obtain ⟨en, ok2⟩ := ok1
  subst en
  rw [Nat.add_sub_cancel_left] at hd
  obtain ⟨dp, z, r1, rfl, hq1⟩ := e2I_inv (show (e2I st fun dp n r => e1 r fun u r => eR u fun od => e1 r fun w r => eI w fun sp => e1 r fun u2 r => eR u2 fun os => od.bind fun pd => os.bind fun ps => cond (Nat.ble (catS r) 8) ((qcp ps sp pd dp n h).bind fun h => some (nGo (pc + 3) ls r h)) none) = some (nGo pc2 ls2 st2 h2) from hq0)
  obtain ⟨u1, r2, rfl, hq2⟩ := e1_inv hq1
  obtain ⟨od, rfl, hq3⟩ := eR_inv hq2
  obtain ⟨u2, r3, rfl, hq4⟩ := e1_inv hq3
  obtain ⟨sp, rfl, hq5⟩ := eI_inv hq4
  obtain ⟨u3, r, rfl, hq6⟩ := e1_inv hq5
  obtain ⟨os, rfl, hq7⟩ := eR_inv hq6
  obtain ⟨pd, rfl, hq8⟩ := ob_inv hq7
  obtain ⟨ps, rfl, hq9⟩ := ob_inv hq8
  obtain ⟨hcat, hq10⟩ := cond_inv hq9
  obtain ⟨h9, hy, hq11⟩ := ob_inv hq10
  cases hq11
  have hcat := Nat.le_of_ble_eq_true hcat
  unfold qcp at hy
  split at hy
  · rename_i g
    obtain ⟨⟨gs0, gs1⟩, ⟨gd0, gd1⟩, ts0, td0, p1, p2, p3, p4, p5⟩ := g
    have hy := (Option.some.inj hy).symm
    have hws := qws_at (cA := cA) (ad := ad) gs0 gs1
    rw [qce_arr ts0 (by decide)] at hws
    have hwd := qws_at (cA := cA) (ad := ad) gd0 gd1
    rw [qce_arr td0 (by decide)] at hwd
    have n1 : hN h2 = hN h := by rw [hy]; rfl
    have n2 : hS h2 = hS h := by rw [hy]; rfl
    have nT : hT h2 = hT h := by rw [hy]; rfl
    have nL : hL h2 = hL h := by rw [hy]; rfl
    have nR : h2.2.2.2.2 = h.2.2.2.2 := by rw [hy]
    have nI : ∀ z, z ≠ pd → hI h2 z = hI h z := by
      intro z hz; rw [hy]; funext i
      show (if z = pd ∧ _ ∧ _ then _ else hI h z i) = _
      rw [if_neg (fun q => hz q.1)]
    have nD : hI h2 pd = va_cpy (hI h ps) (hI h pd) sp.toNatClampNeg dp.toNatClampNeg z.toNatClampNeg := by
      rw [hy]; funext i
      show (if pd = pd ∧ _ ∧ _ then _ else hI h pd i) = _
      unfold va_cpy
      by_cases hc : dp.toNatClampNeg ≤ i ∧ i < dp.toNatClampNeg + z.toNatClampNeg
      · rw [if_pos ⟨rfl, hc⟩, if_pos hc]
      · rw [if_neg (fun q => hc q.2), if_neg hc]
    have hnf : nativeFrameWords "java/lang/System" "arraycopy" 5 = 7 := by decide
    have he2 : ∀ y, y ≠ pd → qce cA ad h2 y = qce cA ad h y := by
      intro y hy2
      have e : qfv ad h2 y = qfv ad h y := by
        funext k j
        show (if qfr k j then va_rf ((h2.2.2.2.2 y j).map ad) else Value.int (hI h2 y j)) = (if qfr k j then va_rf ((h.2.2.2.2 y j).map ad) else Value.int (hI h y j))
        rw [nI y hy2, nR]
      show (if hT h2 y < 4 then Sum.inl (cA (hT h2 y), hL h2 y, Sum.inl (hI h2 y)) else if hT h2 y < 16 then Sum.inl (cA (hT h2 y), hL h2 y, Sum.inr (Sum.inr (Sum.inr (Sum.inr fun j => (h2.2.2.2.2 y j).map ad)))) else Sum.inr (hT h2 y - 16, List.map (qfv ad h2 y (hT h2 y - 16)) (List.range (hL h2 y)))) = _
      rw [nT, nL, nI y hy2, nR, e]
      rfl
    have hro2 : qRO L xs h → qRO L xs h2 := by
      intro hro k hk
      obtain ⟨h1, h2', h3⟩ := hro k hk
      refine ⟨?_, fun i => ?_, fun i => ?_⟩
      · rw [hy]; exact h1
      · rw [nI k (by omega)]; exact h2' i
      · show h2.2.2.2.2 k i = _
        rw [nR]; exact h3 i
    refine va_copyi (D := D) (ty := .int) hx hb (hml.trans hl.1.symm) hown (hK.1 _ (okL_in ok2) args) (hK.1 _ (okL_in (j := 772) (by decide +kernel)) args) (hK.1 _ (okL_in (j := 771) (by decide +kernel)) args) (hK.1 _ (okL_in (j := 128) (by decide +kernel)) args) hK.2.2.1 hR.2.2.2.1 (qws_D had h) (qS_self (h := h) hloc) (ps - 10) (pd - 10) 0 0 hws hwd rfl rfl rfl (Int32.not_lt.mpr p1) (Int32.not_lt.mpr p2) (Int32.not_lt.mpr p3) p4 p5 (fun _ _ => rfl) (by omega) (by rw [catS_sum, hnf]; omega) hd (fun H1 locs1 hP hD hV => W_size (fun hsz => ?_))
    have := kk H1 locs1 rl (qRel_set F hR gd0 gd1 n1 hss.1 hsz (h' := h2) (by rw [qce_arr (h := h2) (t := 0) (by rw [nT]; exact td0) (by decide), nL, nD]) he2 hro2 hP hV) hl hV.2.2
    rw [n1, n2] at this
    exact this
  · cases hy

set_option maxHeartbeats 1000000 in
theorem sg_math (F : FC p R s mi meth c D cA ad H0 L xs d m hs hf) {pc nx a b k j : Nat} {v : Int32} {ts : List (Int32 × Nat)} {ls ls2 : List QS} {st st2 : List QV} {h h2 : QH} {pc2 : Nat} (hss : hN hs ≤ hN h ∧ hS hs ≤ hS h) (hff : hN h2 ≤ hN hf ∧ hS h2 ≤ hS hf)  {n : Nat} (hk5 : Nat.ble 5 k = true) (hk9 : Nat.beq k 9 = false) (hd : decode (qbyte m) pc = .ok ((.invokestatic n), nx - pc)) (ok : okE m pc (.invokestatic n) nx a b k j v ts = true) (hq : qexec some ls st h (.invokestatic n) nx a b k v ts = some (nGo pc2 ls2 st2 h2)) (kk : SW p l e R s mi args below meth c Q D cA ad H0 L xs m hs pc2 ls2 st2 h2) : SW p l e R s mi args below meth c Q D cA ad H0 L xs m hs pc ls st h := by
  intro H locs rl hR hl hloc
  obtain ⟨hx, hb, hml, hown, hret, hlocks, hname, hK, hs3, hrm, hcs, had⟩ := id F
  have hq0 : cond (Nat.ble 5 k) (cond (Nat.beq k 9) (e2I st fun dp n r => e1 r fun u r => eR u fun od => e1 r fun w r => eI w fun sp => e1 r fun u2 r => eR u2 fun os => od.bind fun pd => os.bind fun ps => cond (Nat.ble (catS r) 8) ((qcp ps sp pd dp n h).bind fun h => some (nGo nx ls r h)) none) (e2I st fun x y r => cond (Nat.ble (catS r) 8) (some (nGo nx ls (qI (cond (Nat.beq k 5) (if x < y then y else x) (if y < x then y else x)) :: r) h)) none)) ((splitA b [] st).bind fun q => cond (Nat.ble (catS q.2) 8) (some (nCall a q.1 k nx ls q.2 h)) none) = some (nGo pc2 ls2 st2 h2) := hq
  have ok0 : (decide (nx = pc + 3) && cond (Nat.ble 5 k) (cond (Nat.beq k 9) (okL j (.methodLink (qname m).cls n arraycopyName)) (cond (Nat.beq k 5) (okL j (.methodLink (qname m).cls n Lib.Math.max.name)) (okL j (.methodLink (qname m).cls n Lib.Math.min.name)))) ((okL j (.methodLink (qname m).cls n (qname a)) || okN j (.methodLinkNest (qname m).cls n (qname a) "HandedOn")) && decide (1 ≤ a) && decide (a < 279) && decide (qnas a = some b) && decide (qrc a = 100))) = true := ok
  rw [hk5, hk9] at hq0 ok0
  have ok1 : (decide (nx = pc + 3) && cond (Nat.beq k 5) (okL j (.methodLink (qname m).cls n Lib.Math.max.name)) (okL j (.methodLink (qname m).cls n Lib.Math.min.name))) = true := ok0
  rw [Bool.and_eq_true, decide_eq_true_eq] at ok1
  obtain ⟨en, ok2⟩ := ok1
  subst en
  rw [Nat.add_sub_cancel_left] at hd
  obtain ⟨x, y, r, rfl, hq1⟩ := e2I_inv (show (e2I st fun x y r => cond (Nat.ble (catS r) 8) (some (nGo (pc + 3) ls (qI (cond (Nat.beq k 5) (if x < y then y else x) (if y < x then y else x)) :: r) h)) none) = some (nGo pc2 ls2 st2 h2) from hq0)
  obtain ⟨hcat, hq2⟩ := cond_inv hq1
  cases hq2
  have hcat := Nat.le_of_ble_eq_true hcat
  cases h5 : Nat.beq k 5
  · rw [h5] at ok2
    have kk2 := kk H locs rl hR hl hloc
    rw [h5] at kk2
    exact va_mmin hx hb (hml.trans hl.1.symm) hown (hK.1 _ (okL_in ok2) args) (hK.1 _ (okL_in (j := 685) (by decide +kernel)) args) (hK.1 _ (okL_in (j := 125) (by decide +kernel)) args) (hK.1 _ (okL_in (j := 686) (by decide +kernel)) args) (by omega) (by rw [catS_sum]; omega) (by omega) (by omega) hd kk2
  · rw [h5] at ok2
    have kk2 := kk H locs rl hR hl hloc
    rw [h5] at kk2
    exact va_mmax hx hb (hml.trans hl.1.symm) hown (hK.1 _ (okL_in ok2) args) (hK.1 _ (okL_in (j := 816) (by decide +kernel)) args) (hK.1 _ (okL_in (j := 125) (by decide +kernel)) args) (hK.1 _ (okL_in (j := 817) (by decide +kernel)) args) (by omega) (by rw [catS_sum]; omega) (by omega) (by omega) hd kk2

theorem qsw_inv {x : Int32} {f : Nat → Option QN} {dflt : Nat} {q : QN} : ∀ (ts : List (Int32 × Nat)), qsw x f dflt ts = some q → (∃ (i t : Nat), ts[i]? = some (x, t) ∧ f t = some q) ∨ ((∀ t ∈ ts, x ≠ t.1) ∧ f dflt = some q)
  | [], h => Or.inr ⟨(fun t ht => by cases ht), h⟩
  | t :: ts, h => by
    have h : (if x = t.1 then f t.2 else qsw x f dflt ts) = some q := h
    by_cases hx : x = t.1
    · rw [if_pos hx] at h
      exact Or.inl ⟨0, t.2, by rw [hx]; rfl, h⟩
    · rw [if_neg hx] at h
      rcases qsw_inv ts h with ⟨i, t', h1, h2⟩ | ⟨h1, h2⟩
      · exact Or.inl ⟨i + 1, t', h1, h2⟩
      · refine Or.inr ⟨fun t' ht' => ?_, h2⟩
        rcases List.mem_cons.mp ht' with rfl | ht'
        · exact hx
        · exact h1 t' ht'

set_option maxHeartbeats 1000000 in
theorem sg_tableswitch (F : FC p R s mi meth c D cA ad H0 L xs d m hs hf) {pc nx a b k j : Nat} {v : Int32} {ts : List (Int32 × Nat)} {ls ls2 : List QS} {st st2 : List QV} {h h2 : QH} {pc2 : Nat} (hss : hN hs ≤ hN h ∧ hS hs ≤ hS h) (hff : hN h2 ≤ hN hf ∧ hS h2 ≤ hS hf)  {dflt lo hi : Int} {offs : Array Int} (hd : decode (qbyte m) pc = .ok ((.tableswitch dflt lo hi offs), nx - pc)) (ok : okE m pc (.tableswitch dflt lo hi offs) nx a b k j v ts = true) (hq : qexec some ls st h (.tableswitch dflt lo hi offs) nx a b k v ts = some (nGo pc2 ls2 st2 h2)) (kk : SW p l e R s mi args below meth c Q D cA ad H0 L xs m hs pc2 ls2 st2 h2) : SW p l e R s mi args below meth c Q D cA ad H0 L xs m hs pc ls st h := by
  intro H locs rl hR hl hloc
  obtain ⟨hx, hb, hml, hown, hret, hlocks, hname, hK, hs3, hrm, hcs, had⟩ := id F
  have ok1 : (decide ((pc : Int) + dflt = (a : Int)) && decide (hi + 1 = lo + ts.length) && decide (offs.toList.map (fun o => (pc : Int) + o) = ts.map (fun q => (q.2 : Int))) && decide (ts.map (fun q => q.1.toInt) = (List.range ts.length).map (fun (k : Nat) => lo + (k : Int)))) = true := ok
  simp only [Bool.and_eq_true, decide_eq_true_eq] at ok1
  obtain ⟨⟨⟨o1, o2⟩, o3⟩, o4⟩ := ok1
  have hx0 := hx
  obtain ⟨w, r, rfl, hq1⟩ := e1_inv hq
  obtain ⟨x, rfl, hq2⟩ := eI_inv hq1
  have at4 : ∀ (i : Nat) (t : Int32 × Nat), ts[i]? = some t → t.1.toInt = lo + (i : Int) := by
    intro i t ht
    have h1 : (ts.map (fun q => q.1.toInt))[i]? = some t.1.toInt := by rw [List.getElem?_map, ht]; rfl
    have hlt : i < ts.length := (List.getElem?_eq_some_iff.mp ht).1
    rw [o4, List.getElem?_map, List.getElem?_range hlt] at h1
    exact (Option.some.inj h1).symm
  rcases qsw_inv ts hq2 with ⟨i, t, h1, h2'⟩ | ⟨h1, h2'⟩
  · cases h2'
    have hlt : i < ts.length := (List.getElem?_eq_some_iff.mp h1).1
    have hx := at4 i _ h1
    have hx : x.toInt = lo + (i : Int) := hx
    have h3 : (ts.map (fun q => (q.2 : Int)))[i]? = some (pc2 : Int) := by rw [List.getElem?_map, h1]; rfl
    rw [← o3, List.getElem?_map] at h3
    cases ho : offs.toList[i]? with
    | none => rw [ho] at h3; cases h3
    | some off =>
      rw [ho] at h3
      exact lv_tableIn hx0 hb hd (by omega) (by omega) (off := off) (by rw [show (x.toInt - lo).toNat = i by omega, ← Array.getElem?_toList]; exact ho) (Option.some.inj h3) (kk H locs rl hR hl hloc)
  · cases h2'
    refine lv_tableOut hx hb hd ?_ o1 (kk H locs rl hR hl hloc)
    by_cases c1 : x.toInt < lo
    · exact Or.inl c1
    · right
      by_cases c2 : hi < x.toInt
      · exact c2
      · exfalso
        have hlt : (x.toInt - lo).toNat < ts.length := by omega
        have ht : ts[(x.toInt - lo).toNat]? = some ts[(x.toInt - lo).toNat] := List.getElem?_eq_getElem hlt
        have e := at4 _ _ ht
        refine h1 _ (List.mem_of_getElem? ht) (Int32.toInt_inj.mp ?_)
        rw [e]
        omega
end QMK


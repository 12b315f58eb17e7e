/-! ===== THE SIMULATION ===== -/
def qQc (D : va_G) (cA : Nat → ClassId) (ad : Nat → Nat) (H0 : Heap) (L : Nat) (xs : Nat → Int32) (rv : Option QV) (h1 : QH) : Array Value → State → Outcome → State → Prop := fun _ _ o t => o = .returned (rv.map (qrz ad)) ∧ qRel D cA ad H0 L xs h1 t.heap
def qPc (D : va_G) (cA : Nat → ClassId) (ad : Nat → Nat) (H0 : Heap) (L : Nat) (xs : Nat → Int32) (as : List QV) (h : QH) : Array Value → State → Prop := fun v U => v = (as.map (qrz ad)).toArray ∧ qRel D cA ad H0 L xs h U.heap ∧ qKK D cA ad H0 L xs U
def qroom (d mc ms : Nat) : Room := { frames := d + 1, cells := mc, slots := ms, locals := 200 * (d + 1) }
theorem vsOf_map {ad : Nat → Nat} (rv : Option QV) (st : List QV) : (rv.map (qrz ad)).toList ++ st.map (qrz ad) = (vsOf rv ++ st).map (qrz ad) := by
  cases rv <;> rfl
theorem qPc_blind {D : va_G} {cA : Nat → ClassId} {ad : Nat → Nat} {H0 : Heap} {L : Nat} {xs : Nat → Int32} {as : List QV} {h : QH} : FrameBlind (qPc D cA ad H0 L xs as h) := fun a U g mk q => ⟨q.1, q.2.1, qKK_same q.2.2 g mk a⟩
section QSM
variable {p : Program} {l : Launch} {e : Env} {R : Room} {s : State} {mi : MethodId} {args : Array Value} {below : List Frame} {meth : Method} {c : Code} {Q : State → Prop} {D : va_G} {cA : Nat → ClassId} {ad : Nat → Nat} {H0 : Heap} {L : Nat} {xs : Nat → Int32} {d m : Nat} {hs hf : QH}
theorem qcall {H : Heap} {locs : List Loc} {cells slots mc ms pc : Nat} {rl : Array Slot} {st0 rest : List Value} {rv : Option QV} {h1 : QH} {a : Array Value} (hr : va_Run p l e R s mi args below meth c H locs cells slots mc ms (F0 mi pc rl st0) rest (qQc D cA ad H0 L xs rv h1 a) (fun q => H0.size ≤ q)) (hloc : ∀ q ∈ locs, H0.size ≤ q.base)
    (kk : ∀ (H1 : Heap) (locs1 : List Loc), qRel D cA ad H0 L xs h1 H1 → (∀ q ∈ locs1, H0.size ≤ q.base) → W p l e R s mi args below meth c H1 locs1 (cells + mc) (slots + ms) Q (F0 mi (pc + 3) rl ((rv.map (qrz ad)).toList ++ rest))) : W p l e R s mi args below meth c H locs cells slots Q (F0 mi pc rl st0) := by
  intro T hT X
  obtain ⟨v, st₀, t, T', L', h0, X', hL, e1, e2, ⟨hv, hR1⟩, st⟩ := hr T hT X
  cases hv
  obtain ⟨t2, a1, b1⟩ := kk T'.heap (locs ++ L') (by rw [e1]; exact hR1) (fun q hq => (List.mem_append.mp hq).elim (hloc q) (hL q)) T' rfl X'
  exact ⟨t2, st t2 a1, b1⟩
/-- what a method's contract is -/
def qMet (l : Launch) (D : va_G) (cA : Nat → ClassId) (ad : Nat → Nat) (H0 : Heap) (L : Nat) (xs : Nat → Int32) (d k : Nat) (as : List QV) (h : QH) (rv : Option QV) (h1 : QH) : Prop :=
  Met l (qname k) [.code (qname k) (qbyte k) (qmx k) (qret k)] (qroom d (hN h1 - hN h) (hS h1 - hS h)) (qPc D cA ad H0 L xs as h) (qQc D cA ad H0 L xs rv h1) (hN h1 - hN h) (hS h1 - hS h) (fun q => H0.size ≤ q)
def okMP (k : Nat) : Prop := Cond.code (qname k) (qbyte k) (qmx k) (qret k) ∈ lwG ∧ plainName (qname k).cls = true ∧ ((qname k).cls ≠ "java/lang/invoke/MethodHandle" ∧ (qname k).cls ≠ "java/lang/invoke/VarHandle") ∧ Cond.initialized (qname k).cls ∈ lwG ∧ qmx k ≤ 150 ∧ (qrc k = 100 → Cond.static (qname k) ∈ lwG) ∧ (qrc k ≠ 100 → Cond.instanceMethod (qname k) ∈ lwG ∧ ((qname k).name ≠ "<init>" → Cond.selects (qname k).cls (qname k) (qname k) ∈ lwG) ∧ ((∃ r, vwCl[qrc k]? = some r ∧ r.1 = (qname k).cls) ∨ (qrc k = 13 ∧ (qname k).cls = "java/lang/String")))
theorem okMP_of {k : Nat} (h : okM k = true) : okMP k := by
  unfold okM at h
  rw [Bool.and_eq_true, Bool.and_eq_true, Bool.and_eq_true, Bool.and_eq_true, Bool.and_eq_true, Bool.and_eq_true, decide_eq_true_eq, decide_eq_true_eq, decide_eq_true_eq] at h
  obtain ⟨⟨⟨⟨⟨⟨h1, h2⟩, h3⟩, h4⟩, h5⟩, h6⟩, h7⟩ := h
  refine ⟨okL_in h1, h2, ⟨h3, h4⟩, okL_in h5, h6, fun z => ?_, fun z => ?_⟩
  · rw [z] at h7
    exact okL_in h7
  · have hb : Nat.beq (qrc k) 100 = false := by
      cases e : Nat.beq (qrc k) 100
      · rfl
      · exact absurd (Nat.eq_of_beq_eq_true e) z
    rw [hb] at h7
    have h7 : (okL (qkindI k) (.instanceMethod (qname k)) && (decide ((qname k).name = "<init>") || okL (qselI k) (.selects (qname k).cls (qname k) (qname k))) && (match vwCl[qrc k]? with
      | some r => decide (r.1 = (qname k).cls)
      | none => decide (qrc k = 13) && decide ((qname k).cls = "java/lang/String"))) = true := h7
    rw [Bool.and_eq_true, Bool.and_eq_true, Bool.or_eq_true, decide_eq_true_eq] at h7
    obtain ⟨⟨g1, g2⟩, g3⟩ := h7
    refine ⟨okL_in g1, fun y => g2.elim (fun q => absurd q y) okL_in, ?_⟩
    cases hr : vwCl[qrc k]? with
    | some r =>
      rw [hr] at g3
      exact Or.inl ⟨r, rfl, of_decide_eq_true g3⟩
    | none =>
      rw [hr] at g3
      have g3 : (decide (qrc k = 13) && decide ((qname k).cls = "java/lang/String")) = true := g3
      rw [Bool.and_eq_true, decide_eq_true_eq, decide_eq_true_eq] at g3
      exact Or.inr g3
theorem qcode_good (k : Nat) : goodWord (Cond.code (qname k) (qbyte k) (qmx k) (qret k)) = true := rfl
set_option maxHeartbeats 2000000 in
theorem sim_call (F : FC p R s mi meth c D cA ad H0 L xs (d + 1) m hs hf) (okMs : ∀ k, 1 ≤ k → k < 279 → okM k = true) {pc nx a b k j : Nat} {v : Int32} {ts : List (Int32 × Nat)} {ls : List QS} {st : List QV} {h : QH} {i : Instr} {r : Nat × List QV × Nat × Nat × List QS × List QV × QH} {rv : Option QV} {h1 : QH} (hss : hN hs ≤ hN h ∧ hS hs ≤ hS h) (hg : hN h ≤ hN h1 ∧ hS h ≤ hS h1) (hff : hN h1 ≤ hN hf ∧ hS h1 ≤ hS hf) (hd : decode (qbyte m) pc = .ok (i, nx - pc)) (ok : okE m pc i nx a b k j v ts = true) (hq : qexec some ls st h i nx a b k v ts = some (Sum.inr (Sum.inr r)))
    (hcl : qrc r.1 ≠ 100 → ∃ q as', r.2.1 = qR (some q) :: as' ∧ q < hN h ∧ (qrc r.1 = 101 ∨ hT h q = 16 + qrc r.1)) (hM : 1 ≤ r.1 → r.1 < 279 → qMet l D cA ad H0 L xs d r.1 r.2.1 h rv h1)
    (kk : SW p l e R s mi args below meth c Q D cA ad H0 L xs m hs r.2.2.2.1 ls (vsOf rv ++ r.2.2.2.2.2.1) h1) : SW p l e R s mi args below meth c Q D cA ad H0 L xs m hs pc ls st h := by
  intro H locs rl hR hl hloc
  obtain ⟨as, rest, rfl, hcat, rfl, hlen, hi⟩ := call_inv hq
  dsimp only at hcl hM kk
  obtain ⟨hx, hb, hml, hown, hret, hlocks, hname, hK, hs3, hrm, hcs, had⟩ := id F
  have cells : hN h - hN hs + (hN h1 - hN h) = hN h1 - hN hs := by omega
  have slots : hS h - hS hs + (hS h1 - hS h) = hS h1 - hS hs := by omega
  have room : hN h - hN hs + (hN h1 - hN h) ≤ R.cells ∧ hS h - hS hs + (hS h1 - hS h) ≤ R.slots := by omega
  have hW : ∀ (x : List QV), catS x ≤ 8 → 2 * (F0 mi pc rl (((as.reverse ++ rest).map (qrz ad)))).monitorRoom + ((x.map (qrz ad)).map fun v => v.category).sum ≤ 8 := by
    intro x hx
    show 2 * 0 + _ ≤ 8
    rw [catS_sum]
    omega
  have fin : (∀ (H1 : Heap) (locs1 : List Loc), qRel D cA ad H0 L xs h1 H1 → (∀ q ∈ locs1, H0.size ≤ q.base) → W p l e R s mi args below meth c H1 locs1 (hN h - hN hs + (hN h1 - hN h)) (hS h - hS hs + (hS h1 - hS h)) Q (F0 mi nx rl ((rv.map (qrz ad)).toList ++ rest.map (qrz ad)))) := by
    intro H1 locs1 hR1 hloc1
    have := kk H1 locs1 rl hR1 hl hloc1
    rw [cells, slots, vsOf_map]
    exact this
  have mp : ∀ (y : MethodName) (n : Nat), qnas a = some n → (∀ sig, parseMethodDescriptor (qname a).desc = some sig → n = sig.parameters.length) := by
    intro y n hn sig hsig
    unfold qnas at hn
    rw [hsig] at hn
    exact (Option.some.inj hn).symm
  rcases hi with ⟨x, rfl, hk⟩ | ⟨x, rfl, hk⟩ | ⟨x, rfl, hk⟩
  · have ok1 : (decide (nx = pc + 3) && cond (Nat.beq k 8) (okL j (.methodLink (qname m).cls x ⟨"[I", "clone", "()Ljava/lang/Object;"⟩)) (okL j (.methodLink (qname m).cls x (qname a)) && decide (1 ≤ a) && decide (a < 279) && decide (1 ≤ b) && decide (qnas a = some (b - 1)) && decide (qrc a ≠ 100) && decide ((qname a).name ≠ "<init>"))) = true := ok
    rw [hk, Bool.and_eq_true, decide_eq_true_eq] at ok1
    obtain ⟨en, ok2⟩ := ok1
    subst en
    rw [Nat.add_sub_cancel_left] at hd
    have ok3 : (okL j (.methodLink (qname m).cls x (qname a)) && decide (1 ≤ a) && decide (a < 279) && decide (1 ≤ b) && decide (qnas a = some (b - 1)) && decide (qrc a ≠ 100) && decide ((qname a).name ≠ "<init>")) = true := ok2
    simp only [Bool.and_eq_true, decide_eq_true_eq] at ok3
    obtain ⟨⟨⟨⟨⟨⟨o1, o2⟩, o3⟩, o4⟩, o5⟩, o6⟩, o7⟩ := ok3
    obtain ⟨m1, m2, m3, m4, m5, m6, m7⟩ := okMP_of (okMs a o2 o3)
    obtain ⟨g1, g2, g3⟩ := m7 o6
    obtain ⟨q, as', rfl, hq1, hq2⟩ := hcl o6
    have recv : ∃ cellB : Cell, H[ad q]? = some cellB ∧ cellB.vm.isStatics = false ∧ s.vm.findClass (qname a).cls = some cellB.cls := by
      have hT1 : hT h q = 16 + qrc a := by
        rcases hq2 with hq2 | hq2
        · exfalso
          rw [hq2] at g3
          rcases g3 with ⟨r, hr, -⟩ | ⟨hr, -⟩
          · cases hr
          · cases hr
        · exact hq2
      by_cases h10 : q < 10
      · obtain ⟨e13, e5⟩ := qroS_29 h10 ((qro_T hR.2.2.2.2 h10).1.symm.trans hT1)
        obtain ⟨-, ⟨cell, z1, z2, z3, z4⟩, -⟩ := hK.2.2.2.2.2.2.2.1 q e5
        rw [e13] at g3
        rcases g3 with ⟨r, hr, -⟩ | ⟨-, hr⟩
        · cases hr
        · exact ⟨cell, by rw [hR.2.2.1 _ (Nat.not_le.mp z4)]; exact z1, z2, by rw [hr]; exact z3⟩
      · have hw := qws_at (cA := cA) (ad := ad) (Nat.not_lt.mp h10) hq1
        rw [qce_obj hT1] at hw
        rcases g3 with ⟨r, hr, er⟩ | ⟨hr, -⟩
        · rw [← er]
          exact va_recv hK.2.2.1 hR.2.2.2.1 hr hw
        · obtain ⟨r0, hr0, -⟩ := hR.2.2.2.1 _ _ hw
          rw [hr] at hr0
          cases hr0
    refine qcall (rv := rv) (h1 := h1) (rest := rest.map (qrz ad)) (va_runV (C := (qname a).cls) (As := as'.map (qrz ad)) (n := b - 1) (Ts := lwG) ⟨hx, hb, hml, hown, fun w hw => hK.1 w hw args⟩ (hM o2 o3) ⟨⟨rfl, rfl, by show d + 1 + 1 ≤ R.frames; omega, by show 8 + (qmx a + 11) + 200 * (d + 1) ≤ R.locals; omega, fun w hw a' U hU => ?_, List.mem_singleton.mpr rfl, hK.1 _ m1 args, hK.1 _ m4 args, m3, mp (qname a) _ o5, hK.1 _ (okL_in o1) args⟩, hK.1 _ g1 args, hK.1 _ (g2 o7) args⟩ ⟨qPc_blind, recv, fun U hU hWU => ⟨rfl, by rw [hU]; exact hR, qKK_warm hWU hK⟩⟩ rfl (by rw [List.length_map]; simp at hlen; omega) hl.1 (by simp; rfl) (hW rest hcat) hd room) hloc fin
    rw [List.mem_singleton.mp hw]
    exact word_at hU (good_of_word (qcode_good a)) (hK.1 _ m1 args)
  · have ok1 : (decide (nx = pc + 3) && cond (Nat.beq k 7) (okL j (.methodLink (qname m).cls x Lib.objectInit)) ((okL j (.methodLink (qname m).cls x (qname a)) || okN j (.methodLinkNest (qname m).cls x (qname a) "HandedOn")) && decide (1 ≤ a) && decide (a < 279) && decide (1 ≤ b) && decide (qnas a = some (b - 1)) && decide (qrc a ≠ 100) && decide ((qname a).name = "<init>") && decide (qret a = none))) = true := ok
    rw [hk, Bool.and_eq_true, decide_eq_true_eq] at ok1
    obtain ⟨en, ok2⟩ := ok1
    subst en
    rw [Nat.add_sub_cancel_left] at hd
    have ok3 : ((okL j (.methodLink (qname m).cls x (qname a)) || okN j (.methodLinkNest (qname m).cls x (qname a) "HandedOn")) && decide (1 ≤ a) && decide (a < 279) && decide (1 ≤ b) && decide (qnas a = some (b - 1)) && decide (qrc a ≠ 100) && decide ((qname a).name = "<init>") && decide (qret a = none)) = true := ok2
    simp only [Bool.and_eq_true, Bool.or_eq_true, decide_eq_true_eq] at ok3
    obtain ⟨⟨⟨⟨⟨⟨⟨o1, o2⟩, o3⟩, o4⟩, o5⟩, o6⟩, o7⟩, o8⟩ := ok3
    obtain ⟨m1, m2, m3, m4, m5, m6, m7⟩ := okMP_of (okMs a o2 o3)
    obtain ⟨g1, -, -⟩ := m7 o6
    obtain ⟨q, as', rfl, hq1, hq2⟩ := hcl o6
    have hM1 := hM o2 o3
    unfold qMet at hM1
    rw [o8] at hM1 m1
    have wsok : ∀ w ∈ [Cond.code (qname a) (qbyte a) (qmx a) none], ∀ (a' : Array Value) (U : State), s.WarmedH U.vm → w.before a' U = true := by
      intro w hw a' U hU
      rw [List.mem_singleton.mp hw]
      exact word_at hU (good_of_word rfl) (hK.1 _ m1 args)
    rcases o1 with o1 | o1
    · exact qcall (rv := rv) (h1 := h1) (rest := rest.map (qrz ad)) (va_runI (As := as'.map (qrz ad)) (n := b - 1) (Ts := lwG) ⟨hx, hb, hml, hown, fun w hw => hK.1 w hw args⟩ hM1 ⟨⟨rfl, rfl, by show d + 1 + 1 ≤ R.frames; omega, by show 8 + (qmx a + 11) + 200 * (d + 1) ≤ R.locals; omega, wsok, List.mem_singleton.mpr rfl, hK.1 _ m1 args, hK.1 _ m4 args, m3, mp (qname a) _ o5, hK.1 _ (okL_in o1) args⟩, o7, hK.1 _ g1 args⟩ ⟨qPc_blind, fun U hU hWU => ⟨rfl, by rw [hU]; exact hR, qKK_warm hWU hK⟩⟩ rfl (by rw [List.length_map]; simp at hlen; omega) hl.1 (by simp; rfl) (hW rest hcat) hd room) hloc fin
    · exact qcall (rv := rv) (h1 := h1) (rest := rest.map (qrz ad)) (va_runIN (host := "HandedOn") (As := as'.map (qrz ad)) (n := b - 1) (Ts := lwG) ⟨hx, hb, hml, hown, fun w hw => hK.1 w hw args⟩ hM1 ⟨⟨⟨rfl, rfl, by show d + 1 + 1 ≤ R.frames; omega, by show 8 + (qmx a + 11) + 200 * (d + 1) ≤ R.locals; omega, wsok, List.mem_singleton.mpr rfl⟩, hK.1 _ m1 args, hK.1 _ m4 args, m3, mp (qname a) _ o5, va_Nw.use rfl (hK.2.1 _ (okN_in o1))⟩, o7, hK.1 _ g1 args⟩ ⟨qPc_blind, fun U hU hWU => ⟨rfl, by rw [hU]; exact hR, qKK_warm hWU hK⟩⟩ rfl (by rw [List.length_map]; simp at hlen; omega) hl.1 (by simp; rfl) (hW rest hcat) hd room) hloc fin
  · have ok1 : (decide (nx = pc + 3) && cond (Nat.ble 5 k) (cond (Nat.beq k 9) (okL j (.methodLink (qname m).cls x arraycopyName)) (cond (Nat.beq k 5) (okL j (.methodLink (qname m).cls x Lib.Math.max.name)) (okL j (.methodLink (qname m).cls x Lib.Math.min.name)))) ((okL j (.methodLink (qname m).cls x (qname a)) || okN j (.methodLinkNest (qname m).cls x (qname a) "HandedOn")) && decide (1 ≤ a) && decide (a < 279) && decide (qnas a = some b) && decide (qrc a = 100))) = true := ok
    rw [hk, Bool.and_eq_true, decide_eq_true_eq] at ok1
    obtain ⟨en, ok2⟩ := ok1
    subst en
    rw [Nat.add_sub_cancel_left] at hd
    have ok3 : ((okL j (.methodLink (qname m).cls x (qname a)) || okN j (.methodLinkNest (qname m).cls x (qname a) "HandedOn")) && decide (1 ≤ a) && decide (a < 279) && decide (qnas a = some b) && decide (qrc a = 100)) = true := ok2
    simp only [Bool.and_eq_true, Bool.or_eq_true, decide_eq_true_eq] at ok3
    obtain ⟨⟨⟨⟨o1, o2⟩, o3⟩, o5⟩, o6⟩ := ok3
    obtain ⟨m1, m2, m3, m4, m5, m6, m7⟩ := okMP_of (okMs a o2 o3)
    have wsok : ∀ w ∈ [Cond.code (qname a) (qbyte a) (qmx a) (qret a)], ∀ (a' : Array Value) (U : State), s.WarmedH U.vm → w.before a' U = true := by
      intro w hw a' U hU
      rw [List.mem_singleton.mp hw]
      exact word_at hU (good_of_word (qcode_good a)) (hK.1 _ m1 args)
    rcases o1 with o1 | o1
    · exact qcall (rv := rv) (h1 := h1) (rest := rest.map (qrz ad)) (va_runS (As := as.map (qrz ad)) (n := b) (Ts := lwG) ⟨hx, hb, hml, hown, fun w hw => hK.1 w hw args⟩ (hM o2 o3) ⟨⟨rfl, rfl, by show d + 1 + 1 ≤ R.frames; omega, by show 8 + (qmx a + 11) + 200 * (d + 1) ≤ R.locals; omega, wsok, List.mem_singleton.mpr rfl, hK.1 _ m1 args, hK.1 _ m4 args, m3, mp (qname a) _ o5, hK.1 _ (okL_in o1) args⟩, hK.1 _ (m6 o6) args⟩ ⟨qPc_blind, fun U hU hWU => ⟨rfl, by rw [hU]; exact hR, qKK_warm hWU hK⟩⟩ rfl (by rw [List.length_map]; exact hlen) hl.1 (by simp) (hW rest hcat) hd room) hloc fin
    · exact qcall (rv := rv) (h1 := h1) (rest := rest.map (qrz ad)) (va_runSN (host := "HandedOn") (As := as.map (qrz ad)) (n := b) (Ts := lwG) ⟨hx, hb, hml, hown, fun w hw => hK.1 w hw args⟩ (hM o2 o3) ⟨⟨⟨rfl, rfl, by show d + 1 + 1 ≤ R.frames; omega, by show 8 + (qmx a + 11) + 200 * (d + 1) ≤ R.locals; omega, wsok, List.mem_singleton.mpr rfl⟩, hK.1 _ m1 args, hK.1 _ m4 args, m3, mp (qname a) _ o5, va_Nw.use rfl (hK.2.1 _ (okN_in o1))⟩, hK.1 _ (m6 o6) args, trivial⟩ ⟨qPc_blind, fun U hU hWU => ⟨rfl, by rw [hU]; exact hR, qKK_warm hWU hK⟩⟩ rfl (by rw [List.length_map]; exact hlen) hl.1 (by simp) (hW rest hcat) hd room) hloc fin
end QSM

def R_law : String := "HandedOnLaw"
def lw_P (b : Addr) (xs : List Int32) (args : Array Value) (s : State) : Prop := args = #[.ref b] ∧ s.IntsAt b xs ∧ xs.length ≤ 3072 ∧ (Jvm.Cond.and given_1 narrow_1).before args s = true
def lw_Q (_ : Array Value) (s : State) (o : Outcome) (t : State) : Prop := o = .returned (some (.int 1)) ∧ Framed s o t [] 600000 7302250
def lw_Z (below : List Frame) (a : Array Value) (s : State) : State → Prop := fun t => ∃ o, t.status = .running ∧ Ended t below o ∧ lw_Q a s o t
/-- the law's own end, with 1 on the stack, nothing written that was there before, its room as the claim has it -/
theorem lw_ret {p : Program} {l : Launch} {e : Env} {s : State} {m : MethodId} {below : List Frame} {meth : Method} {c : Code} {b : Nat} (hx : p.tables.exec = Jvm.exec) (hb : c.code = code) (hr : meth.sig.returnType = ret) (hlocks : meth.locks = false) {pc : Nat} {H : Heap} {ls : Array Slot} (hdg : decode code pc = .ok (.ireturn, 1)) : W p l e room_1 s m #[Value.ref b] below meth c H [] 600000 7302250 (lw_Z below #[Value.ref b] s) (F0 m pc ls [.int 1]) := by
  intro T hT X
  obtain ⟨fs, hret, hrun, hended, hW, hframe⟩ := X.leave (v := some (.int 1)) (hlocks := hlocks) (fun h => by rw [hr] at h; cases h)
  have hmeth' : T.vm.method? m = some meth := X.method'
  refine ⟨T.setFrames fs, ?_, .returned (some (.int 1)), hrun, hended, rfl, ⟨_, rfl⟩, hW, hframe⟩
  jvm_step X.here [X.here.top, hx, hb, hdg, hmeth', hr, ret, narrow_b1]
  (try refine ⟨rfl, ?_⟩); (try refine ⟨rfl, ?_⟩)
  first | (intro acts; rw [hret _ acts rfl rfl rfl]) | rw [hret _ _ rfl rfl rfl]
  exact Steps.refl _
/-- what holds at the law's entry: the machine, the code, the tables' words (any of lw_tbl by 'hts w (by decide +kernel)'), the script of L ints xs at the cell b, what the Statement gives of the start (any of its parts by flat_of_before) -/
def lw_At (p : Program) (s : State) (m : MethodId) (meth : Method) (c : Code) (b L : Nat) (xs : Nat → Int32) : Prop :=
  p.tables.exec = Jvm.exec ∧ c.code = code ∧ meth.sig.returnType = ret ∧ c.maxLocals = 4 ∧ s.vm.findClass R_law = some m.cls ∧ (∀ w ∈ lw_tbl, w.before #[Value.ref b] s = true) ∧ va_X b L xs s s.heap ∧ b < s.heap.size ∧ meth.locks = false ∧ (Jvm.Cond.and given_1 narrow_1).before #[Value.ref b] s = true
set_option maxHeartbeats 1000000 in
theorem whole_of {p : Program} {e : Env} {s : State} {m : MethodId} {below : List Frame} {meth : Method} {c : Code} (l : Launch) {b L : Nat} {xs : Nat → Int32} (okCs : ∀ m, m < 279 → okC m = true) (okMs : ∀ k, 1 ≤ k → k < 279 → okM k = true) (C0 : lw_At p s m meth c b L xs) {d : Nat} {hf : QH} (hd : d ≤ 418) (hrun : qbig d 0 0 (argL [qR (some 9)] 4) [] (q0 L xs) = some (some (qI 1), hf)) (h1 : hN hf ≤ 600010) (h2 : hS hf ≤ 7302250) : W p l e room_1 s m #[Value.ref b] below meth c s.heap [] 0 0 (lw_Z below #[Value.ref b] s) (entryFrame m ([Value.ref b] : List Value).toArray 4) := by
  obtain ⟨hx, hb, hr, hml, hown, hts, hX, hbl, hlocks, hgv⟩ := id C0
  obtain ⟨n, hn⟩ := qbig_run hrun
  obtain ⟨D, cA, ad, e9, had, hKK⟩ := start_KK hts hgv hX hbl
  subst e9
  have F : FC p room_1 s m meth c D cA ad s.heap L xs d 0 (q0 L xs) hf := ⟨hx, hb, hml, hown, hr, hlocks, fun z => absurd z (by decide +kernel), hKK, ⟨rfl, Nat.le_refl _, fun _ _ => rfl⟩, ⟨show d + 1 ≤ 2048 by omega, show 200 * (d + 1) ≤ 84000 by omega⟩, ⟨show hN hf - 10 ≤ 600000 by omega, show hS hf - 0 ≤ 7302250 by omega⟩, had⟩
  have hl := lv_entry ([qR (some 9)].map (qrz ad)) (n := 4) (by rw [catS_sl]; decide)
  rw [lg_entry_eq]
  have hl2 : lv_has ((lg_sl ([qR (some 9)].map (qrz ad)) ++ List.replicate (4 - (lg_sl ([qR (some 9)].map (qrz ad))).length) Slot.unset).toArray) (qmx 0) (lfac ad 0 (argL [qR (some 9)] 4)) := ⟨hl.1, hl.2.1, fun q hq => hl.2.2 q (lfac_arg [qR (some 9)] 4 0 q hq)⟩
  have fin : FIN p l e room_1 s m #[Value.ref (ad 9)] below meth c (lw_Z below #[Value.ref (ad 9)] s) D cA ad s.heap L xs 0 (q0 L xs) (some (qI 1)) hf := by
    intro pc H locs rl hR hloc ok
    refine va_forget hloc ?_
    refine W.widen (k := 600000) (n := 7302250) (show hN hf - 10 ≤ 600000 by omega) (show hS hf - 0 ≤ 7302250 by omega) ?_
    exact lw_ret hx hb hr hlocks ok.1
  have k := sim had okCs okMs n d 0 0 (argL [qR (some 9)] 4) [] (q0 L xs) (some (qI 1)) hf (by decide) hn p e room_1 s m #[Value.ref (ad 9)] below meth c (lw_Z below #[Value.ref (ad 9)] s) (q0 L xs) F ⟨Nat.le_refl _, Nat.le_refl _⟩ fin s.heap [] _ q0_rel hl2 (fun q hq => by cases hq)
  rw [Nat.sub_self, Nat.sub_self] at k
  exact k

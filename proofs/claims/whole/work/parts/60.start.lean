/-! ===== the start: what the tables and the Statement give, put into the small machine's words ===== -/
theorem lwG_any {s : State} {A0 : Array Value} (hts : ∀ w ∈ lw_tbl, w.before A0 s = true) : ∀ w ∈ lwG, ∀ A : Array Value, w.before A s = true := by
  intro w hw A
  obtain ⟨h1, h2⟩ := List.mem_filter.mp hw
  rcases good_of_word h2 with h | ⟨ty, rfl⟩
  · rw [Bool.and_eq_true] at h
    exact va_tabs h.1 rfl (hts w h1)
  · exact hts _ h1
theorem lwN_any {s : State} {A0 : Array Value} (hts : ∀ w ∈ lw_tbl, w.before A0 s = true) : ∀ w ∈ lwN, va_Nw w s := by
  intro w hw
  obtain ⟨h1, h2⟩ := List.mem_filter.mp hw
  have h3 := hts w h1
  cases w <;> first | exact absurd h2 Bool.false_ne_true | exact h3
theorem start_D {s : State} (hG : ∀ w ∈ lwG, ∀ A : Array Value, w.before A s = true) : ∃ D : va_G, ∀ (c : Nat) (q : vw_C), vwCl[c]? = some q → u_Kn s q.1 q.2.1 q.2.2 (D.1 c) (D.2 c) := by
  have h : ∀ c : Nat, ∃ d : ClassId × (Nat → Nat), ∀ q : vw_C, vwCl[c]? = some q → u_Kn s q.1 q.2.1 q.2.2 d.1 d.2 := by
    intro c
    cases hc : vwCl[c]? with
    | none => exact ⟨((0 : Nat), fun _ => 0), fun q h => by cases h⟩
    | some r =>
      obtain ⟨cC, iS, hk⟩ := u_known (ws := lwG) (s := s) (args := #[]) (C := r.1) (T := r.2.1) (N := r.2.2) (n := r.2.2) (fun w hw => hG w hw #[]) (vw_in hc) (hG _ (vw_inst hc) #[])
      exact ⟨(cC, iS), fun q h => by cases h; exact hk⟩
  obtain ⟨f, hf⟩ := Classical.axiomOfChoice h
  exact ⟨(fun c => (f c).1, fun c => (f c).2), hf⟩
theorem start_AC {s : State} {ty : FieldType} (h : (Cond.arrayClass ty).before #[] s = true) (hty : ∀ C, ty ≠ .object C) : ∃ cA : ClassId, ArrOfT s cA ty ∧ va_RA s cA ty := by
  obtain ⟨c, k, comp, h1, h2, h3⟩ := Cond.arrayClass_spec h
  refine ⟨c, fun n z => ⟨fun k h => (by cases h), k, h2, comp, h3⟩, ?_⟩
  cases ty with
  | object C => exact absurd rfl (hty C)
  | _ => exact h1
theorem start_AO {s : State} {C : String} (h : va_AO C s) : ∃ cA : ClassId, ArrOfT s cA (.object C) ∧ va_RA s cA (.object C) := by
  obtain ⟨comp, c, k, h1, -, h3, h4, h5⟩ := Cond.arrayOver_spec h
  exact ⟨c, fun n z => ⟨fun k h => (by cases h), k, h3, comp, h4⟩, k, comp, h3, h4, h1, h5⟩
theorem start_A {s : State} (hG : ∀ w ∈ lwG, ∀ A : Array Value, w.before A s = true) (hW : va_AO "HandedOn$World" s) (hl : va_AO "HandedOn$Law" s) : ∃ cA : Nat → ClassId, ∀ (k : Nat) (q : ClassId × FieldType), (qtys cA)[k]? = some q → ArrOfT s q.1 q.2 ∧ va_RA s q.1 q.2 := by
  obtain ⟨c0, h0⟩ := start_AC (ty := .int) (hG _ (lwG_at (j := 177) (by decide +kernel) rfl) #[]) (fun _ h => by cases h)
  obtain ⟨c1, h1⟩ := start_AC (ty := .byte) (hG _ (lwG_at (j := 375) (by decide +kernel) rfl) #[]) (fun _ h => by cases h)
  obtain ⟨c2, h2⟩ := start_AC (ty := .boolean) (hG _ (lwG_at (j := 467) (by decide +kernel) rfl) #[]) (fun _ h => by cases h)
  obtain ⟨c3, h3⟩ := start_AC (ty := .char) (hG _ (lwG_at (j := 376) (by decide +kernel) rfl) #[]) (fun _ h => by cases h)
  obtain ⟨c4, h4⟩ := start_AO hW
  obtain ⟨c5, h5⟩ := start_AO hl
  refine ⟨fun k => if k = 0 then c0 else if k = 1 then c1 else if k = 2 then c2 else if k = 3 then c3 else if k = 4 then c4 else c5, ?_⟩
  intro k q hq
  match k, hq with
  | 0, hq => cases hq; exact h0
  | 1, hq => cases hq; exact h1
  | 2, hq => cases hq; exact h2
  | 3, hq => cases hq; exact h3
  | 4, hq => cases hq; exact h4
  | 5, hq => cases hq; exact h5
  | k + 6, hq => simp [qtys] at hq
noncomputable abbrev gvC : Cond := Jvm.Cond.and given_1 narrow_1
noncomputable def gvF : List Cond := flatC gvC
noncomputable def qstT (k : Nat) : Term := .static "HandedOn" (qstn k) "[I"
noncomputable def qsgT (k : Nat) : Term := .string "HandedOn$Reader" (qtxi k)
noncomputable def qsvT (k : Nat) : Term := .field (qsgT k) "java/lang/String" "value" "[B"
theorem gv_arr : ((List.range 5).all fun k => decide (Cond.arrayOf (qstT k) .int ∈ gvF) && (decide (Cond.eq (.length (qstT k)) (.int (Int32.ofNat 4)) ∈ gvF) && (List.range 4).all fun j => decide (Cond.eq (.elem (qstT k) (.int (Int32.ofNat j))) (.int (qroI (fun _ => 0) k j)) ∈ gvF))) = true := by decide +kernel
theorem gv_str : ((List.range 2).all fun k => decide (Cond.exactly (qsgT (k + 5)) "java/lang/String" ∈ gvF) && (decide (Cond.eq (.field (qsgT (k + 5)) "java/lang/String" "coder" "B") (.int 0) ∈ gvF) && (decide (Cond.arrayOf (qsvT (k + 5)) .byte ∈ gvF) && (decide (Cond.eq (.length (qsvT (k + 5))) (.int (Int32.ofNat (qroS 0 (k + 7)).2)) ∈ gvF) && (List.range (qroS 0 (k + 7)).2).all fun j => decide (Cond.eq (.elem (qsvT (k + 5)) (.int (Int32.ofNat j))) (.int (qroI (fun _ => 0) (k + 7) j)) ∈ gvF))))) = true := by decide +kernel
theorem qroI_lo {k : Nat} (hk : k < 9) (xs : Nat → Int32) (j : Nat) : qroI xs k j = qroI (fun _ => 0) k j := by
  have : k = 0 ∨ k = 1 ∨ k = 2 ∨ k = 3 ∨ k = 4 ∨ k = 5 ∨ k = 6 ∨ k = 7 ∨ k = 8 := by omega
  rcases this with rfl | rfl | rfl | rfl | rfl | rfl | rfl | rfl | rfl <;> rfl
theorem st_arr {args : Array Value} {s : State} (hg : ∀ w ∈ gvF, w.before args s = true) {A : Nat → Prop} (hA : ∀ a : Nat, a < s.heap.size → ¬ A a) {k : Nat} (hk : k < 5) (xs : Nat → Int32) : ∃ t : Nat, (qstT k).eval args s none [] s = some (.ref t) ∧ va_T .int t 4 (fun j => .int (qroI xs k j)) A s s.heap := by
  have h := List.all_eq_true.mp gv_arr k (List.mem_range.mpr hk)
  simp only [Bool.and_eq_true, decide_eq_true_eq] at h
  obtain ⟨h1, h2, h3⟩ := h
  refine va_Tof (by decide) (hg _ h1) (va_eqt (hg _ h2)) (fun j hj => ?_) hA
  have h4 := List.all_eq_true.mp h3 j (List.mem_range.mpr hj)
  rw [qroI_lo (Nat.lt_of_lt_of_le hk (by decide))]
  exact va_eqt (hg _ (of_decide_eq_true h4))
theorem st_str {args : Array Value} {s : State} (hg : ∀ w ∈ gvF, w.before args s = true) {A : Nat → Prop} (hA : ∀ a : Nat, a < s.heap.size → ¬ A a) {k : Nat} (hk : k < 2) (L : Nat) (xs : Nat → Int32) : ∃ a t : Nat, (qsgT (k + 5)).eval args s none [] s = some (.ref a) ∧ va_O "java/lang/String" a A s s.heap ∧ va_OF "java/lang/String" "coder" "B" (.int 0) a A s s.heap ∧ va_OF "java/lang/String" "value" "[B" (.ref t) a A s s.heap ∧ va_T .byte t (qroS L (k + 7)).2 (fun j => .int (qroI xs (k + 7) j)) A s s.heap := by
  have h := List.all_eq_true.mp gv_str k (List.mem_range.mpr hk)
  simp only [Bool.and_eq_true, decide_eq_true_eq] at h
  obtain ⟨h1, h2, h3, h4, h5⟩ := h
  have eL : (qroS L (k + 7)).2 = (qroS 0 (k + 7)).2 := by
    have : k = 0 ∨ k = 1 := by omega
    rcases this with rfl | rfl <;> rfl
  have bL : (qroS 0 (k + 7)).2 < 2 ^ 31 := by
    have : k = 0 ∨ k = 1 := by omega
    rcases this with rfl | rfl <;> decide
  obtain ⟨a, c, cA, kA, q1, q2, q3, q4, q5, q6, -⟩ := Cond.exactly_spec (args := args) (first := s) (o := none) (s := s) (idx := []) (t := qsgT (k + 5)) (cls := "java/lang/String") (hg _ h1)
  obtain ⟨t, ht, hT⟩ := va_Tof (args := args) (s := s) (tm := qsvT (k + 5)) (ty := .byte) (N := (qroS 0 (k + 7)).2) (f := fun j => .int (qroI xs (k + 7) j)) (A := A) bL (hg _ h3) (va_eqt (hg _ h4)) (fun j hj => by
    have h6 := List.all_eq_true.mp h5 j (List.mem_range.mpr hj)
    rw [qroI_lo (k := k + 7) (by omega)]
    exact va_eqt (hg _ (of_decide_eq_true h6))) hA
  rw [eL]
  exact ⟨a, t, q1, ⟨cA, q3, q5, by rw [q6]; exact q2, hA a (Array.getElem?_eq_some_iff.mp q3).1⟩, vk_OFof q1 (va_eqt (hg _ h2)) hA, vk_OFof q1 ht hA, hT⟩
theorem start_KK {s : State} {b L : Nat} {xs : Nat → Int32} (hts : ∀ w ∈ lw_tbl, w.before #[Value.ref b] s = true) (hgv : gvC.before #[Value.ref b] s = true) (hX : va_X b L xs s s.heap) (hb : b < s.heap.size) : ∃ (D : va_G) (cA : Nat → ClassId) (ad : Nat → Nat), ad 9 = b ∧ qad s.heap ad ∧ qKK D cA ad s.heap L xs s := by
  have hG := lwG_any hts
  have hg : ∀ w ∈ gvF, w.before #[Value.ref b] s = true := flat_of_before _ hgv
  have hA : ∀ a : Nat, a < s.heap.size → ¬ s.heap.size ≤ a := fun a h => Nat.not_le.mpr h
  have hW : va_AO "HandedOn$World" s := va_AO.of (hts _ (List.mem_of_getElem? (i := 259) (by decide +kernel)))
  have hl : va_AO "HandedOn$Law" s := va_AO.of (hts _ (List.mem_of_getElem? (i := 227) (by decide +kernel)))
  obtain ⟨D, hD⟩ := start_D hG
  obtain ⟨cA, hcA⟩ := start_A hG hW hl
  have hini : (Cond.initialized "HandedOn").before #[Value.ref b] s = true := hts _ (List.mem_of_getElem? (i := 109) (by decide +kernel))
  obtain ⟨t0, e0, T0⟩ := st_arr hg hA (k := 0) (by decide) xs
  obtain ⟨t1, e1, T1⟩ := st_arr hg hA (k := 1) (by decide) xs
  obtain ⟨t2, e2, T2⟩ := st_arr hg hA (k := 2) (by decide) xs
  obtain ⟨t3, e3, T3⟩ := st_arr hg hA (k := 3) (by decide) xs
  obtain ⟨t4, e4, T4⟩ := st_arr hg hA (k := 4) (by decide) xs
  obtain ⟨t5, t7, e5, O5, C5, V5, T7⟩ := st_str hg hA (k := 0) (by decide) L xs
  obtain ⟨t6, t8, e6, O6, C6, V6, T8⟩ := st_str hg hA (k := 1) (by decide) L xs
  have T9 : va_T .int b L (fun j => .int (qroI xs 9 j)) (fun q => s.heap.size ≤ q) s s.heap := by
    obtain ⟨scr, hcb, hof, hkn, hsz, hval⟩ := hX
    exact ⟨scr, hcb, hof, hkn, Nat.le_of_eq hsz.symm, by rw [hsz], hval, hA b hb⟩
  refine ⟨D, cA, fun k => if k = 0 then t0 else if k = 1 then t1 else if k = 2 then t2 else if k = 3 then t3 else if k = 4 then t4 else if k = 5 then t5 else if k = 6 then t6 else if k = 7 then t7 else if k = 8 then t8 else if k = 9 then b else s.heap.size + (k - 10), rfl, ?_, hG, lwN_any hts, ⟨hD, hcA⟩, ?_, ?_, ?_, ?_, ?_, hW, hl⟩
  · intro a ha
    have h : ∀ n, n < 10 → a ≠ n := fun n hn => by omega
    simp only [if_neg (h 0 (by decide)), if_neg (h 1 (by decide)), if_neg (h 2 (by decide)), if_neg (h 3 (by decide)), if_neg (h 4 (by decide)), if_neg (h 5 (by decide)), if_neg (h 6 (by decide)), if_neg (h 7 (by decide)), if_neg (h 8 (by decide)), if_neg (h 9 (by decide))]
  · intro k hk hz
    have : k = 0 ∨ k = 1 ∨ k = 2 ∨ k = 3 ∨ k = 4 ∨ k = 5 ∨ k = 6 ∨ k = 7 ∨ k = 8 ∨ k = 9 := by omega
    rcases this with rfl | rfl | rfl | rfl | rfl | rfl | rfl | rfl | rfl | rfl
    · exact T0
    · exact T1
    · exact T2
    · exact T3
    · exact T4
    · simp [qroS] at hz
    · simp [qroS] at hz
    · simp [qroS] at hz
    · simp [qroS] at hz
    · exact T9
  · intro k hk hz
    have : k = 0 ∨ k = 1 ∨ k = 2 ∨ k = 3 ∨ k = 4 ∨ k = 5 ∨ k = 6 ∨ k = 7 ∨ k = 8 ∨ k = 9 := by omega
    rcases this with rfl | rfl | rfl | rfl | rfl | rfl | rfl | rfl | rfl | rfl
    · simp [qroS] at hz
    · simp [qroS] at hz
    · simp [qroS] at hz
    · simp [qroS] at hz
    · simp [qroS] at hz
    · simp [qroS] at hz
    · simp [qroS] at hz
    · exact T7
    · exact T8
    · simp [qroS] at hz
  · intro k hk
    have : k = 0 ∨ k = 1 ∨ k = 2 ∨ k = 3 ∨ k = 4 := by omega
    rcases this with rfl | rfl | rfl | rfl | rfl
    · exact va_Zof (hts (.laysStatic "HandedOn" (qstn 0) "[I") (List.mem_of_getElem? (i := 545) (by decide +kernel))) hini e0 hA
    · exact va_Zof (hts (.laysStatic "HandedOn" (qstn 1) "[I") (List.mem_of_getElem? (i := 600) (by decide +kernel))) hini e1 hA
    · exact va_Zof (hts (.laysStatic "HandedOn" (qstn 2) "[I") (List.mem_of_getElem? (i := 602) (by decide +kernel))) hini e2 hA
    · exact va_Zof (hts (.laysStatic "HandedOn" (qstn 3) "[I") (List.mem_of_getElem? (i := 838) (by decide +kernel))) hini e3 hA
    · exact va_Zof (hts (.laysStatic "HandedOn" (qstn 4) "[I") (List.mem_of_getElem? (i := 840) (by decide +kernel))) hini e4 hA
  · exact va_Zof (hts (.laysStatic "java/lang/String" "COMPACT_STRINGS" "Z") (List.mem_of_getElem? (i := 291) (by decide +kernel))) (hts (.initialized "java/lang/String") (List.mem_of_getElem? (i := 116) (by decide +kernel))) (va_eqi (hg (Cond.eq (.static "java/lang/String" "COMPACT_STRINGS" "Z") (.int 1)) (by decide +kernel))) hA
  · intro k hk
    rcases hk with rfl | rfl
    · exact ⟨vk_R.of (hts (.stringRef "HandedOn$Reader" (qtxi 5) (qtxt 5)) (List.mem_of_getElem? (i := 281) (by decide +kernel))) e5, O5, C5, V5⟩
    · exact ⟨vk_R.of (hts (.stringRef "HandedOn$Reader" (qtxi 6) (qtxt 6)) (List.mem_of_getElem? (i := 327) (by decide +kernel))) e6, O6, C6, V6⟩
/-- the small machine's heap at the start -/
def q0 (L : Nat) (xs : Nat → Int32) : QH := (10, 0, qroS L, qroI xs, qroR)
theorem q0_rel {D : va_G} {cA : Nat → ClassId} {ad : Nat → Nat} {H0 : Heap} {L : Nat} {xs : Nat → Int32} : qRel D cA ad H0 L xs (q0 L xs) H0 :=
  ⟨rfl, Nat.le_refl _, fun _ _ => rfl, (fun k q h => by cases h), fun k hk => ⟨rfl, fun _ => rfl, fun _ => rfl⟩⟩

/-! ===== what the tables say, at each method's start; what each entry of the program is held to ===== -/
noncomputable def lwG : List Cond := lw_tbl.filter goodWord
theorem lwG_at {j : Nat} {w : Cond} (h : lw_tbl[j]? = some w) (g : goodWord w = true) : w ∈ lwG := List.mem_filter.mpr ⟨List.mem_of_getElem? h, g⟩
/-- words of nest mates, a cast, and arrays of references -/
def lwN : List Cond := lw_tbl.filter fun w => match w with
  | .methodLinkNest .. => true
  | .fieldLinkNest .. => true
  | .castable .. => true
  | _ => false
theorem lwN_warm {w : Cond} (hw : w ∈ lwN) {s U : State} (hW : s.WarmedH U.vm) (h : va_Nw w s) : va_Nw w U := by
  have h1 := (List.mem_filter.mp hw).2
  cases w <;> first | exact va_Nw.warmM hW h | exact va_Nw.warmF hW h | exact va_Nw.warmC hW h | cases h1
def qtys (cA : Nat → ClassId) : List (ClassId × FieldType) := [(cA 0, .int), (cA 1, .byte), (cA 2, .boolean), (cA 3, .char), (cA 4, .object "HandedOn$World"), (cA 5, .object "HandedOn$Law")]
def qstn (k : Nat) : String := if k = 0 then "TRAIT_MOST" else if k = 1 then "RULE_LEAST" else if k = 2 then "RULE_MOST" else if k = 3 then "TOLD_LEAST" else "TOLD_MOST"
def qtxt (k : Nat) : String := if k = 5 then "learnt takes wrong refuses if or and not knows has tell learn art day teller learner once " else ";()[]<>=+-*/"
def qtxi (k : Nat) : Nat := if k = 5 then 43 else 55
def qKK (D : va_G) (cA : Nat → ClassId) (ad : Nat → Nat) (H0 : Heap) (L : Nat) (xs : Nat → Int32) (U : State) : Prop :=
  (∀ w ∈ lwG, ∀ A : Array Value, w.before A U = true) ∧ (∀ w ∈ lwN, va_Nw w U) ∧ va_K D vwCl (qtys cA) U ∧
  (∀ k, k < 10 → (qroS L k).1 = 0 → va_T .int (ad k) (qroS L k).2 (fun j => .int (qroI xs k j)) (fun q => H0.size ≤ q) U H0) ∧
  (∀ k, k < 10 → (qroS L k).1 = 1 → va_T .byte (ad k) (qroS L k).2 (fun j => .int (qroI xs k j)) (fun q => H0.size ≤ q) U H0) ∧
  (∀ k, k < 5 → va_Z "HandedOn" (qstn k) "[I" (.ref (ad k)) (fun q => H0.size ≤ q) U H0) ∧ va_Z "java/lang/String" "COMPACT_STRINGS" "Z" (.int 1) (fun q => H0.size ≤ q) U H0 ∧
  (∀ k, k = 5 ∨ k = 6 → vk_R "HandedOn$Reader" (qtxi k) (qtxt k) (ad k) U ∧ va_O "java/lang/String" (ad k) (fun q => H0.size ≤ q) U H0 ∧ va_OF "java/lang/String" "coder" "B" (.int 0) (ad k) (fun q => H0.size ≤ q) U H0 ∧ va_OF "java/lang/String" "value" "[B" (.ref (ad (k + 2))) (ad k) (fun q => H0.size ≤ q) U H0) ∧
  va_AO "HandedOn$World" U ∧ va_AO "HandedOn$Law" U
theorem qKK_warm {D : va_G} {cA : Nat → ClassId} {ad : Nat → Nat} {H0 : Heap} {L : Nat} {xs : Nat → Int32} {s U : State} (hW : s.WarmedH U.vm) (h : qKK D cA ad H0 L xs s) : qKK D cA ad H0 L xs U := by
  obtain ⟨h1, h2, h3, h4, h5, h6, h7, h8, h9, h10⟩ := h
  refine ⟨fun w hw A => word_at hW (good_of_word (List.mem_filter.mp hw).2) (h1 w hw A), fun w hw => lwN_warm hw hW (h2 w hw), va_K.moved hW.alike h3, fun k a b => va_T.moved hW.alike (h4 k a b), fun k a b => va_T.moved hW.alike (h5 k a b), fun k a => va_Z.moved hW.alike (h6 k a), va_Z.moved hW.alike h7, fun k a => ?_, va_AO.moved hW.alike h9, va_AO.moved hW.alike h10⟩
  obtain ⟨a1, a2, a3, a4⟩ := h8 k a
  exact ⟨vk_R.warm hW a1, va_O.moved hW.alike a2, va_OF.moved hW.alike a3, va_OF.moved hW.alike a4⟩
theorem qKK_same {D : va_G} {cA : Nat → ClassId} {ad : Nat → Nat} {H0 : Heap} {L : Nat} {xs : Nat → Int32} {s : State} (h : qKK D cA ad H0 L xs s) (g : JFrame) (mk : MethodId) (a : Array Value) : qKK D cA ad H0 L xs (s.calling g mk a) :=
  qKK_warm (s := s) (U := s.calling g mk a) (State.WarmedH.refl s) h
def okL (j : Nat) (w : Cond) : Bool := decide (lw_tbl[j]? = some w) && goodWord w
def okN (j : Nat) (w : Cond) : Bool := decide (lw_tbl[j]? = some w) && (match w with
  | .methodLinkNest .. => true
  | .fieldLinkNest .. => true
  | .castable .. => true
  | _ => false)
theorem okL_in {j : Nat} {w : Cond} (h : okL j w = true) : w ∈ lwG := by
  unfold okL at h
  rw [Bool.and_eq_true, decide_eq_true_eq] at h
  exact lwG_at h.1 h.2
theorem okN_in {j : Nat} {w : Cond} (h : okN j w = true) : w ∈ lwN := by
  unfold okN at h
  rw [Bool.and_eq_true, decide_eq_true_eq] at h
  exact List.mem_filter.mpr ⟨List.mem_of_getElem? h.1, h.2⟩
noncomputable def qnas (k : Nat) : Option Nat := (parseMethodDescriptor (qname k).desc).map (fun d => d.parameters.length)
noncomputable def okE (m pc : Nat) (i : Instr) (nx a b c j : Nat) (v : Int32) (ts : List (Int32 × Nat)) : Bool := match i with
  | .aconst_null => decide (nx = pc + 1)
  | .iconst n => decide (nx = pc + 1) && decide (Int32.ofInt n = v)
  | .bipush n => decide (nx = pc + 2) && decide ((Int8.ofInt n).toInt32 = v)
  | .sipush n => decide (nx = pc + 3) && decide ((Int16.ofInt n).toInt32 = v)
  | .ldc_w x => decide (nx = pc + 3) && okL j (.constant (qname m).cls x v)
  | .ldc x => decide (nx = pc + 2) && cond (Nat.beq c 0) (okL j (.constant (qname m).cls x v)) (decide ((qname m).cls = "HandedOn$Reader") && (decide (a = 5) || decide (a = 6)) && decide (x = qtxi a))
  | .lconst n => decide (nx = pc + 1) && decide (Int64.ofNat (n : Nat) = v.toInt64)
  | .ldc2_w x => decide (nx = pc + 3) && okL j (.constantLong (qname m).cls x v.toInt64)
  | .iload n => decide (nx = pc + 2) && decide (n = a)
  | .iload_n n => decide (nx = pc + 1) && decide ((n : Nat) = a)
  | .lload n => decide (nx = pc + 2) && decide (n = a)
  | .lload_n n => decide (nx = pc + 1) && decide ((n : Nat) = a)
  | .aload n => decide (nx = pc + 2) && decide (n = a)
  | .aload_n n => decide (nx = pc + 1) && decide ((n : Nat) = a)
  | .istore n => decide (nx = pc + 2) && decide (n = a) && decide (a < qmx m)
  | .istore_n n => decide (nx = pc + 1) && decide ((n : Nat) = a) && decide (a < qmx m)
  | .astore n => decide (nx = pc + 2) && decide (n = a) && decide (a < qmx m)
  | .astore_n n => decide (nx = pc + 1) && decide ((n : Nat) = a) && decide (a < qmx m)
  | .lstore n => decide (nx = pc + 2) && decide (n = a) && decide (a + 1 < qmx m)
  | .lstore_n n => decide (nx = pc + 1) && decide ((n : Nat) = a) && decide (a + 1 < qmx m)
  | .iinc n k => decide (nx = pc + 3) && decide (n = a) && decide (Int32.ofInt k = v) && decide (a < qmx m)
  | .goto off => decide (nx = pc + 3) && decide ((pc : Int) + off = (a : Int))
  | .ifCond _ off => decide (nx = pc + 3) && decide ((pc : Int) + off = (a : Int))
  | .if_icmp _ off => decide (nx = pc + 3) && decide ((pc : Int) + off = (a : Int))
  | .ifnull off => decide (nx = pc + 3) && decide ((pc : Int) + off = (a : Int))
  | .ifnonnull off => decide (nx = pc + 3) && decide ((pc : Int) + off = (a : Int))
  | .tableswitch d lo hi offs => decide ((pc : Int) + d = (a : Int)) && decide (hi + 1 = lo + ts.length) && decide (offs.toList.map (fun o => (pc : Int) + o) = ts.map (fun q => (q.2 : Int))) && decide (ts.map (fun q => q.1.toInt) = (List.range ts.length).map (fun (k : Nat) => lo + (k : Int)))
  | .ireturn => decide (nx = pc + 1) && cond (Nat.beq c 0) (decide (qret m = some .int)) (decide (qret m = some .boolean))
  | .lreturn => decide (nx = pc + 1) && decide (qret m = some .long)
  | .areturn => decide (nx = pc + 1) && (match qret m with
    | some (.object _) => true
    | some (.array _) => true
    | _ => false)
  | .return_ => decide (nx = pc + 1) && decide (qret m = none)
  | .getfield x => decide (nx = pc + 3) && cond (Nat.beq a 13) (decide ((qname m).cls = "java/lang/String") && (decide (b = 0) && Nat.beq c 1 && okL j (.fieldLink (qname m).cls x "java/lang/String" "value" "[B") || decide (b = 1) && Nat.beq c 0 && okL j (.fieldLink (qname m).cls x "java/lang/String" "coder" "B"))) (match vwCl[a]? with
    | some r => decide (b < r.2.2) && okL j (.fieldLink (qname m).cls x r.1 (r.2.1 b).2.1 (r.2.1 b).2.2.1) && decide ((r.2.1 b).1 = r.1) && decide (Nat.beq c 1 = qfr a b)
    | none => false)
  | .putfield x => decide (nx = pc + 3) && (match vwCl[a]? with
    | some r => decide (b < r.2.2) && okL j (.fieldLink (qname m).cls x r.1 (r.2.1 b).2.1 (r.2.1 b).2.2.1) && decide ((r.2.1 b).1 = r.1) && decide (Nat.beq c 1 = qfr a b) && (cond (r.2.1 b).2.2.2 (decide ((qname m).name = "<init>") && decide (r.1 = (qname m).cls)) true) && (match parseFieldDescriptor (r.2.1 b).2.2.1 with
      | some (.object _) => Nat.beq c 1
      | some (.array _) => Nat.beq c 1
      | some .int => Nat.beq c 0
      | some .boolean => Nat.beq c 2
      | _ => false)
    | none => false)
  | .getstatic x => decide (nx = pc + 3) && cond (Nat.beq c 0) (decide (v = 1) && okL j (.fieldLink (qname m).cls x "java/lang/String" "COMPACT_STRINGS" "Z")) (decide (a < 5) && (okL j (.fieldLink (qname m).cls x "HandedOn" (qstn a) "[I") || okN j (.fieldLinkNest (qname m).cls x "HandedOn" (qstn a) "[I" "HandedOn")))
  | .baload => decide (nx = pc + 1) && (decide (c = 1) || decide (c = 2))
  | .new x => decide (nx = pc + 3) && (match vwCl[a]? with
    | some r => okL j (.classLink (qname m).cls x r.1) && decide (b = r.2.2)
    | none => false)
  | .newarray t => decide (nx = pc + 2) && (match t with
    | .int => decide (a = 0)
    | .byte => decide (a = 1)
    | .boolean => decide (a = 2)
    | .char => decide (a = 3)
    | _ => false)
  | .anewarray x => decide (nx = pc + 3) && (decide (a = 4) && okL j (.classLink (qname m).cls x "HandedOn$World") || decide (a = 5) && okL j (.classLink (qname m).cls x "HandedOn$Law"))
  | .checkcast x => decide (nx = pc + 3) && okL j (.classLink (qname m).cls x "[I")
  | .invokevirtual x => decide (nx = pc + 3) && cond (Nat.beq c 8) (okL j (.methodLink (qname m).cls x ⟨"[I", "clone", "()Ljava/lang/Object;"⟩)) (okL j (.methodLink (qname m).cls x (qname a)) && decide (1 ≤ a) && decide (a < 279) && decide (1 ≤ b) && decide (qnas a = some (b - 1)) && decide (qrc a ≠ 100) && decide ((qname a).name ≠ "<init>"))
  | .invokespecial x => decide (nx = pc + 3) && cond (Nat.beq c 7) (okL j (.methodLink (qname m).cls x Lib.objectInit)) ((okL j (.methodLink (qname m).cls x (qname a)) || okN j (.methodLinkNest (qname m).cls x (qname a) "HandedOn")) && decide (1 ≤ a) && decide (a < 279) && decide (1 ≤ b) && decide (qnas a = some (b - 1)) && decide (qrc a ≠ 100) && decide ((qname a).name = "<init>") && decide (qret a = none))
  | .invokestatic x => decide (nx = pc + 3) && cond (Nat.ble 5 c) (cond (Nat.beq c 9) (okL j (.methodLink (qname m).cls x arraycopyName)) (cond (Nat.beq c 5) (okL j (.methodLink (qname m).cls x Lib.Math.max.name)) (okL j (.methodLink (qname m).cls x Lib.Math.min.name)))) ((okL j (.methodLink (qname m).cls x (qname a)) || okN j (.methodLinkNest (qname m).cls x (qname a) "HandedOn")) && decide (1 ≤ a) && decide (a < 279) && decide (qnas a = some b) && decide (qrc a = 100))
  | _ => decide (nx = pc + 1)
noncomputable def okT (m : Nat) (q : Nat × QE) : Bool := (match decode (qbyte m) q.1 with
  | .ok (i, n) => decide (i = q.2.1) && decide (n = q.2.2.1 - q.1)
  | _ => false) && okE m q.1 q.2.1 q.2.2.1 q.2.2.2.1 q.2.2.2.2.1 q.2.2.2.2.2.1 q.2.2.2.2.2.2.1 q.2.2.2.2.2.2.2.1 q.2.2.2.2.2.2.2.2
noncomputable def okC (m : Nat) : Bool := (qcode m).all fun c => c.2.all (okT m)
/-- what the tables say of a method that is called -/
noncomputable def okM (k : Nat) : Bool := okL (qcodeI k) (.code (qname k) (qbyte k) (qmx k) (qret k)) && plainName (qname k).cls && decide ((qname k).cls ≠ "java/lang/invoke/MethodHandle") && decide ((qname k).cls ≠ "java/lang/invoke/VarHandle") && okL (qiniI k) (.initialized (qname k).cls) && decide (qmx k ≤ 150) && cond (Nat.beq (qrc k) 100) (okL (qkindI k) (.static (qname k))) (okL (qkindI k) (.instanceMethod (qname k)) && (decide ((qname k).name = "<init>") || okL (qselI k) (.selects (qname k).cls (qname k) (qname k))) && (match vwCl[qrc k]? with
  | some r => decide (r.1 = (qname k).cls)
  | none => decide (qrc k = 13) && decide ((qname k).cls = "java/lang/String")))

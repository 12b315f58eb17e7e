section QALL
variable {p : Program} {l : Launch} {e : Env} {R : Room} {s : State} {mi : MethodId} {args : Array Value} {below : List Frame} {meth : Method} {c : Code} {Q : State → Prop} {D : va_G} {cA : Nat → ClassId} {ad : Nat → Nat} {H0 : Heap} {L : Nat} {xs : Nat → Int32} {d m : Nat} {hs hf : QH}
set_option maxHeartbeats 4000000 in
theorem sim_go (F : FC p R s mi meth c D cA ad H0 L xs d m hs hf) {pc nx a b k j : Nat} {v : Int32} {ts : List (Int32 × Nat)} {ls ls2 : List QS} {st st2 : List QV} {h h2 : QH} {pc2 : Nat} (hss : hN hs ≤ hN h ∧ hS hs ≤ hS h) (hff : hN h2 ≤ hN hf ∧ hS h2 ≤ hS hf)  {i : Instr} (hd : decode (qbyte m) pc = .ok (i, nx - pc)) (ok : okE m pc i nx a b k j v ts = true) (hq : qexec some ls st h i nx a b k v ts = some (nGo pc2 ls2 st2 h2)) (kk : SW p l e R s mi args below meth c Q D cA ad H0 L xs m hs pc2 ls2 st2 h2) : SW p l e R s mi args below meth c Q D cA ad H0 L xs m hs pc ls st h := by
  cases i
  case aconst_null => exact sg_aconst_null F hss hff hd ok hq kk
  case iconst => exact sg_iconst F hss hff hd ok hq kk
  case bipush => exact sg_bipush F hss hff hd ok hq kk
  case sipush => exact sg_sipush F hss hff hd ok hq kk
  case lconst => exact sg_lconst F hss hff hd ok hq kk
  case ldc_w => exact sg_ldc_w F hss hff hd ok hq kk
  case ldc2_w => exact sg_ldc2_w F hss hff hd ok hq kk
  case ldc => exact sg_ldc F hss hff hd ok hq kk
  case iload => exact sg_iload F hss hff hd ok hq kk
  case iload_n => exact sg_iload_n F hss hff hd ok hq kk
  case lload => exact sg_lload F hss hff hd ok hq kk
  case lload_n => exact sg_lload_n F hss hff hd ok hq kk
  case aload => exact sg_aload F hss hff hd ok hq kk
  case aload_n => exact sg_aload_n F hss hff hd ok hq kk
  case istore => exact sg_istore F hss hff hd ok hq kk
  case istore_n => exact sg_istore_n F hss hff hd ok hq kk
  case astore => exact sg_astore F hss hff hd ok hq kk
  case astore_n => exact sg_astore_n F hss hff hd ok hq kk
  case lstore => exact sg_lstore F hss hff hd ok hq kk
  case lstore_n => exact sg_lstore_n F hss hff hd ok hq kk
  case iinc => exact sg_iinc F hss hff hd ok hq kk
  case iadd => exact sg_iadd F hss hff hd ok hq kk
  case isub => exact sg_isub F hss hff hd ok hq kk
  case imul => exact sg_imul F hss hff hd ok hq kk
  case iand => exact sg_iand F hss hff hd ok hq kk
  case ior => exact sg_ior F hss hff hd ok hq kk
  case ixor => exact sg_ixor F hss hff hd ok hq kk
  case ishl => exact sg_ishl F hss hff hd ok hq kk
  case ishr => exact sg_ishr F hss hff hd ok hq kk
  case iushr => exact sg_iushr F hss hff hd ok hq kk
  case ladd => exact sg_ladd F hss hff hd ok hq kk
  case lsub => exact sg_lsub F hss hff hd ok hq kk
  case lmul => exact sg_lmul F hss hff hd ok hq kk
  case lcmp => exact sg_lcmp F hss hff hd ok hq kk
  case idiv => exact sg_idiv F hss hff hd ok hq kk
  case irem => exact sg_irem F hss hff hd ok hq kk
  case ldiv => exact sg_ldiv F hss hff hd ok hq kk
  case lrem => exact sg_lrem F hss hff hd ok hq kk
  case ineg => exact sg_ineg F hss hff hd ok hq kk
  case i2l => exact sg_i2l F hss hff hd ok hq kk
  case i2b => exact sg_i2b F hss hff hd ok hq kk
  case i2c => exact sg_i2c F hss hff hd ok hq kk
  case l2i => exact sg_l2i F hss hff hd ok hq kk
  case dup => exact sg_dup F hss hff hd ok hq kk
  case pop => exact sg_pop F hss hff hd ok hq kk
  case dup2 => exact sg_dup2 F hss hff hd ok hq kk
  case goto => exact sg_goto F hss hff hd ok hq kk
  case ifnull => exact sg_ifnull F hss hff hd ok hq kk
  case ifnonnull => exact sg_ifnonnull F hss hff hd ok hq kk
  case iaload => exact sg_iaload F hss hff hd ok hq kk
  case baload => exact sg_baload F hss hff hd ok hq kk
  case caload => exact sg_caload F hss hff hd ok hq kk
  case aaload => exact sg_aaload F hss hff hd ok hq kk
  case iastore => exact sg_iastore F hss hff hd ok hq kk
  case bastore => exact sg_bastore F hss hff hd ok hq kk
  case castore => exact sg_castore F hss hff hd ok hq kk
  case aastore => exact sg_aastore F hss hff hd ok hq kk
  case arraylength => exact sg_arraylength F hss hff hd ok hq kk
  case newarray => exact sg_newarray F hss hff hd ok hq kk
  case anewarray => exact sg_anewarray F hss hff hd ok hq kk
  case new => exact sg_new F hss hff hd ok hq kk
  case checkcast => exact sg_checkcast F hss hff hd ok hq kk
  case getfield => exact sg_getfield F hss hff hd ok hq kk
  case putfield => exact sg_putfield F hss hff hd ok hq kk
  case getstatic => exact sg_getstatic F hss hff hd ok hq kk
  case tableswitch => exact sg_tableswitch F hss hff hd ok hq kk
  case ifCond q _ => cases q <;> first | exact sg_if_eq F hss hff hd ok hq kk | exact sg_if_ne F hss hff hd ok hq kk | exact sg_if_lt F hss hff hd ok hq kk | exact sg_if_ge F hss hff hd ok hq kk | exact sg_if_gt F hss hff hd ok hq kk | exact sg_if_le F hss hff hd ok hq kk
  case if_icmp q _ => cases q <;> first | exact sg_icmp_eq F hss hff hd ok hq kk | exact sg_icmp_ne F hss hff hd ok hq kk | exact sg_icmp_lt F hss hff hd ok hq kk | exact sg_icmp_ge F hss hff hd ok hq kk | exact sg_icmp_gt F hss hff hd ok hq kk | exact sg_icmp_le F hss hff hd ok hq kk
  case invokevirtual =>
    cases hc : Nat.beq k 8
    · exfalso
      have hq0 : cond (Nat.beq k 8) (e1 st fun u r => eR u fun o => o.bind fun p => cond (Nat.ble (catS r) 8) ((qcn p h).bind fun h1 => some (nGo nx ls (qR (some (hN h)) :: r) h1)) none) ((splitA b [] st).bind fun q => cond (Nat.ble (catS q.2) 8) (some (nCall a q.1 k nx ls q.2 h)) none) = some (nGo pc2 ls2 st2 h2) := hq
      rw [hc] at hq0
      obtain ⟨_, _, e⟩ := ob_inv (show ((splitA b [] st).bind fun q => cond (Nat.ble (catS q.2) 8) (some (nCall a q.1 k nx ls q.2 h)) none) = some (nGo pc2 ls2 st2 h2) from hq0)
      cases (cond_inv e).2
    · exact sg_clone F hss hff hc hd ok hq kk
  case invokespecial =>
    cases hc : Nat.beq k 7
    · exfalso
      have hq0 : cond (Nat.beq k 7) (e1 st fun u r => eR u fun o => o.bind fun _ => cond (Nat.ble (catS r) 8) (some (nGo nx ls r h)) none) ((splitA b [] st).bind fun q => cond (Nat.ble (catS q.2) 8) (some (nCall a q.1 k nx ls q.2 h)) none) = some (nGo pc2 ls2 st2 h2) := hq
      rw [hc] at hq0
      obtain ⟨_, _, e⟩ := ob_inv (show ((splitA b [] st).bind fun q => cond (Nat.ble (catS q.2) 8) (some (nCall a q.1 k nx ls q.2 h)) none) = some (nGo pc2 ls2 st2 h2) from hq0)
      cases (cond_inv e).2
    · exact sg_objinit F hss hff hc hd ok hq kk
  case invokestatic =>
    cases hc : Nat.ble 5 k
    · exfalso
      have hq0 : cond (Nat.ble 5 k) (cond (Nat.beq k 9) (e2I st fun dp n r => e1 r fun u r => eR u fun od => e1 r fun w r => eI w fun sp => e1 r fun u2 r => eR u2 fun os => od.bind fun pd => os.bind fun ps => cond (Nat.ble (catS r) 8) ((qcp ps sp pd dp n h).bind fun h => some (nGo nx ls r h)) none) (e2I st fun x y r => cond (Nat.ble (catS r) 8) (some (nGo nx ls (qI (cond (Nat.beq k 5) (if x < y then y else x) (if y < x then y else x)) :: r) h)) none)) ((splitA b [] st).bind fun q => cond (Nat.ble (catS q.2) 8) (some (nCall a q.1 k nx ls q.2 h)) none) = some (nGo pc2 ls2 st2 h2) := hq
      rw [hc] at hq0
      obtain ⟨_, _, e⟩ := ob_inv (show ((splitA b [] st).bind fun q => cond (Nat.ble (catS q.2) 8) (some (nCall a q.1 k nx ls q.2 h)) none) = some (nGo pc2 ls2 st2 h2) from hq0)
      cases (cond_inv e).2
    · cases hc9 : Nat.beq k 9
      · exact sg_math F hss hff hc hc9 hd ok hq kk
      · exact sg_arraycopy F hss hff hc hc9 hd ok hq kk
  all_goals exfalso
  case ireturn =>
    obtain ⟨w, r1, -, hq1⟩ := e1_inv hq
    obtain ⟨-, hq2⟩ := e0_inv hq1
    obtain ⟨x, -, hq3⟩ := eI_inv hq2
    have hq4 : cond (Nat.beq k 0) (some (nRet (some (qI x)) h)) (if x = 0 ∨ x = 1 then some (nRet (some (qI x)) h) else none) = some (nGo pc2 ls2 st2 h2) := hq3
    cases hc : Nat.beq k 0
    · rw [hc] at hq4
      have hq5 : (if x = 0 ∨ x = 1 then some (nRet (some (qI x)) h) else none) = some (nGo pc2 ls2 st2 h2) := hq4
      split at hq5 <;> cases hq5
    · rw [hc] at hq4
      cases hq4
  case lreturn =>
    obtain ⟨w, r1, -, hq1⟩ := e1_inv hq
    obtain ⟨-, hq2⟩ := e0_inv hq1
    obtain ⟨x, -, hq3⟩ := eL_inv hq2
    cases hq3
  case areturn =>
    obtain ⟨w, r1, -, hq1⟩ := e1_inv hq
    obtain ⟨-, hq2⟩ := e0_inv hq1
    obtain ⟨x, -, hq3⟩ := eR_inv hq2
    cases hq3
  case return_ =>
    obtain ⟨-, hq1⟩ := e0_inv hq
    cases hq1
  all_goals (cases hq; done)
end QALL

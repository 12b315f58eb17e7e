/-! ===== calls ===== -/
set_option maxHeartbeats 4000000 in
theorem call_inv {ls : List QS} {st : List QV} {h : QH} {i : Instr} {nx a b c : Nat} {v : Int32} {ts : List (Int32 × Nat)} {r : Nat × List QV × Nat × Nat × List QS × List QV × QH} (hq : qexec some ls st h i nx a b c v ts = some (Sum.inr (Sum.inr r))) : ∃ as rest, r = (a, as, c, nx, ls, rest, h) ∧ catS rest ≤ 8 ∧ st = as.reverse ++ rest ∧ as.length = b ∧ ((∃ x, i = .invokevirtual x ∧ Nat.beq c 8 = false) ∨ (∃ x, i = .invokespecial x ∧ Nat.beq c 7 = false) ∨ (∃ x, i = .invokestatic x ∧ Nat.ble 5 c = false)) := by
  have no : ∀ {z : Prop} {g : Nat × List QS × List QV × QH}, (some (Sum.inr (Sum.inl g)) : Option QN) = some (Sum.inr (Sum.inr r)) → z := fun e => by cases e
  cases i
  case invokevirtual =>
    have hq0 : cond (Nat.beq c 8) (e1 st fun u r => eR u fun o => o.bind fun p => cond (Nat.ble (catS r) 8) ((qcn p h).bind fun h1 => some (nGo nx ls (qR (some (hN h)) :: r) h1)) none) ((splitA b [] st).bind fun q => cond (Nat.ble (catS q.2) 8) (some (nCall a q.1 c nx ls q.2 h)) none) = some (Sum.inr (Sum.inr r)) := hq
    cases hc : Nat.beq c 8
    · rw [hc] at hq0
      obtain ⟨⟨as, rest⟩, e1, e2⟩ := ob_inv (show ((splitA b [] st).bind fun q => cond (Nat.ble (catS q.2) 8) (some (nCall a q.1 c nx ls q.2 h)) none) = some (Sum.inr (Sum.inr r)) from hq0)
      obtain ⟨h1, e3⟩ := cond_inv e2
      cases e3
      obtain ⟨w, w1, w2, w3⟩ := splitA_inv b [] st as rest e1
      rw [List.append_nil] at w2
      exact ⟨as, rest, rfl, Nat.le_of_ble_eq_true h1, by rw [w2, List.reverse_reverse]; exact w3, by rw [w2, List.length_reverse]; exact w1, Or.inl ⟨_, rfl, rfl⟩⟩
    · exfalso
      rw [hc] at hq0
      have hq1 : (e1 st fun u r => eR u fun o => o.bind fun p => cond (Nat.ble (catS r) 8) ((qcn p h).bind fun h1 => some (nGo nx ls (qR (some (hN h)) :: r) h1)) none) = some (Sum.inr (Sum.inr r)) := hq0
      obtain ⟨u, r1, -, hq2⟩ := e1_inv hq1
      obtain ⟨o, -, hq3⟩ := eR_inv hq2
      obtain ⟨q, -, hq4⟩ := ob_inv hq3
      obtain ⟨_, _, e⟩ := ob_inv (cond_inv hq4).2
      cases e
  case invokespecial =>
    have hq0 : cond (Nat.beq c 7) (e1 st fun u r => eR u fun o => o.bind fun _ => cond (Nat.ble (catS r) 8) (some (nGo nx ls r h)) none) ((splitA b [] st).bind fun q => cond (Nat.ble (catS q.2) 8) (some (nCall a q.1 c nx ls q.2 h)) none) = some (Sum.inr (Sum.inr r)) := hq
    cases hc : Nat.beq c 7
    · rw [hc] at hq0
      obtain ⟨⟨as, rest⟩, e1, e2⟩ := ob_inv (show ((splitA b [] st).bind fun q => cond (Nat.ble (catS q.2) 8) (some (nCall a q.1 c nx ls q.2 h)) none) = some (Sum.inr (Sum.inr r)) from hq0)
      obtain ⟨h1, e3⟩ := cond_inv e2
      cases e3
      obtain ⟨w, w1, w2, w3⟩ := splitA_inv b [] st as rest e1
      rw [List.append_nil] at w2
      exact ⟨as, rest, rfl, Nat.le_of_ble_eq_true h1, by rw [w2, List.reverse_reverse]; exact w3, by rw [w2, List.length_reverse]; exact w1, Or.inr (Or.inl ⟨_, rfl, rfl⟩)⟩
    · exfalso
      rw [hc] at hq0
      have hq1 : (e1 st fun u r => eR u fun o => o.bind fun _ => cond (Nat.ble (catS r) 8) (some (nGo nx ls r h)) none) = some (Sum.inr (Sum.inr r)) := hq0
      obtain ⟨u, r1, -, hq2⟩ := e1_inv hq1
      obtain ⟨o, -, hq3⟩ := eR_inv hq2
      obtain ⟨q, -, hq4⟩ := ob_inv hq3
      cases (cond_inv hq4).2
  case invokestatic =>
    have hq0 : cond (Nat.ble 5 c) (cond (Nat.beq c 9) (e2I st fun dp n r => e1 r fun u r => eR u fun od => e1 r fun w r => eI w fun sp => e1 r fun u2 r => eR u2 fun os => od.bind fun pd => os.bind fun ps => cond (Nat.ble (catS r) 8) ((qcp ps sp pd dp n h).bind fun h => some (nGo nx ls r h)) none) (e2I st fun x y r => cond (Nat.ble (catS r) 8) (some (nGo nx ls (qI (cond (Nat.beq c 5) (if x < y then y else x) (if y < x then y else x)) :: r) h)) none)) ((splitA b [] st).bind fun q => cond (Nat.ble (catS q.2) 8) (some (nCall a q.1 c nx ls q.2 h)) none) = some (Sum.inr (Sum.inr r)) := hq
    cases hc : Nat.ble 5 c
    · rw [hc] at hq0
      obtain ⟨⟨as, rest⟩, e1, e2⟩ := ob_inv (show ((splitA b [] st).bind fun q => cond (Nat.ble (catS q.2) 8) (some (nCall a q.1 c nx ls q.2 h)) none) = some (Sum.inr (Sum.inr r)) from hq0)
      obtain ⟨h1, e3⟩ := cond_inv e2
      cases e3
      obtain ⟨w, w1, w2, w3⟩ := splitA_inv b [] st as rest e1
      rw [List.append_nil] at w2
      exact ⟨as, rest, rfl, Nat.le_of_ble_eq_true h1, by rw [w2, List.reverse_reverse]; exact w3, by rw [w2, List.length_reverse]; exact w1, Or.inr (Or.inr ⟨_, rfl, rfl⟩)⟩
    · exfalso
      rw [hc] at hq0
      have hq1' : cond (Nat.beq c 9) (e2I st fun dp n r => e1 r fun u r => eR u fun od => e1 r fun w r => eI w fun sp => e1 r fun u2 r => eR u2 fun os => od.bind fun pd => os.bind fun ps => cond (Nat.ble (catS r) 8) ((qcp ps sp pd dp n h).bind fun h => some (nGo nx ls r h)) none) (e2I st fun x y r => cond (Nat.ble (catS r) 8) (some (nGo nx ls (qI (cond (Nat.beq c 5) (if x < y then y else x) (if y < x then y else x)) :: r) h)) none) = some (Sum.inr (Sum.inr r)) := hq0
      cases hc9 : Nat.beq c 9
      · rw [hc9] at hq1'
        obtain ⟨_, _, _, -, e⟩ := e2I_inv (show (e2I st fun x y r => cond (Nat.ble (catS r) 8) (some (nGo nx ls (qI (cond (Nat.beq c 5) (if x < y then y else x) (if y < x then y else x)) :: r) h)) none) = some (Sum.inr (Sum.inr r)) from hq1')
        cases (cond_inv e).2
      · rw [hc9] at hq1'
        have hq1 : (e2I st fun dp n r => e1 r fun u r => eR u fun od => e1 r fun w r => eI w fun sp => e1 r fun u2 r => eR u2 fun os => od.bind fun pd => os.bind fun ps => cond (Nat.ble (catS r) 8) ((qcp ps sp pd dp n h).bind fun h => some (nGo nx ls r h)) none) = some (Sum.inr (Sum.inr r)) := hq1'
        obtain ⟨dp, z, r1, -, hq2⟩ := e2I_inv hq1
        obtain ⟨_, _, -, hq3⟩ := e1_inv hq2
        obtain ⟨_, -, hq4⟩ := eR_inv hq3
        obtain ⟨_, _, -, hq5⟩ := e1_inv hq4
        obtain ⟨_, -, hq6⟩ := eI_inv hq5
        obtain ⟨_, _, -, hq7⟩ := e1_inv hq6
        obtain ⟨_, -, hq8⟩ := eR_inv hq7
        obtain ⟨_, -, hq9⟩ := ob_inv hq8
        obtain ⟨_, -, hq10⟩ := ob_inv hq9
        obtain ⟨_, _, e⟩ := ob_inv (cond_inv hq10).2
        cases e
  all_goals exfalso
  case ireturn =>
    obtain ⟨w, r1, -, hq1⟩ := e1_inv hq
    obtain ⟨-, hq2⟩ := e0_inv hq1
    obtain ⟨x, -, hq3⟩ := eI_inv hq2
    have hq4 : cond (Nat.beq c 0) (some (nRet (some (qI x)) h)) (if x = 0 ∨ x = 1 then some (nRet (some (qI x)) h) else none) = some (Sum.inr (Sum.inr r)) := hq3
    cases hc : Nat.beq c 0
    · rw [hc] at hq4
      have hq5 : (if x = 0 ∨ x = 1 then some (nRet (some (qI x)) h) else none) = some (Sum.inr (Sum.inr r)) := hq4
      split at hq5 <;> cases hq5
    · rw [hc] at hq4
      cases hq4
  case lreturn =>
    obtain ⟨w, r1, -, hq1⟩ := e1_inv hq
    obtain ⟨-, hq2⟩ := e0_inv hq1
    obtain ⟨x, -, hq3⟩ := eL_inv hq2
    cases hq3
  case areturn =>
    obtain ⟨w, r1, -, hq1⟩ := e1_inv hq
    obtain ⟨-, hq2⟩ := e0_inv hq1
    obtain ⟨x, -, hq3⟩ := eR_inv hq2
    cases hq3
  case return_ =>
    obtain ⟨-, hq1⟩ := e0_inv hq
    cases hq1
  case ifCond q _ =>
    obtain ⟨w, r1, -, hq1⟩ := e1_inv hq
    obtain ⟨x, -, hq2⟩ := eI_inv hq1
    cases q <;> (dsimp only at hq2; split at hq2 <;> cases hq2)
  case if_icmp q _ =>
    obtain ⟨x, y, r1, -, hq2⟩ := e2I_inv hq
    cases q <;> (dsimp only at hq2; split at hq2 <;> cases hq2)
  case ifnull =>
    obtain ⟨w, r1, -, hq1⟩ := e1_inv hq
    obtain ⟨x, -, hq2⟩ := eR_inv hq1
    split at hq2 <;> cases hq2
  case ifnonnull =>
    obtain ⟨w, r1, -, hq1⟩ := e1_inv hq
    obtain ⟨x, -, hq2⟩ := eR_inv hq1
    split at hq2 <;> cases hq2
  case tableswitch =>
    obtain ⟨w, r1, -, hq1⟩ := e1_inv hq
    obtain ⟨x, -, hq2⟩ := eI_inv hq1
    rcases qsw_inv ts hq2 with ⟨_, _, _, e⟩ | ⟨_, e⟩ <;> cases e
  case ldc =>
    have hq1 : cond (Nat.beq c 0) (some (nGo nx ls (qI v :: st) h)) (some (nGo nx ls (qR (some a) :: st) h)) = some (Sum.inr (Sum.inr r)) := hq
    cases hc : Nat.beq c 0 <;> (rw [hc] at hq1; cases hq1)
  case getstatic =>
    have hq1 : cond (Nat.beq c 0) (some (nGo nx ls (qI v :: st) h)) (some (nGo nx ls (qR (some a) :: st) h)) = some (Sum.inr (Sum.inr r)) := hq
    cases hc : Nat.beq c 0 <;> (rw [hc] at hq1; cases hq1)
  case getfield =>
    obtain ⟨w, r1, -, hq1⟩ := e1_inv hq
    obtain ⟨o, -, hq2⟩ := eR_inv hq1
    obtain ⟨q, -, hq3⟩ := ob_inv hq2
    have hq4 : cond (Nat.beq c 1) ((qgr a b q h).bind fun x => some (nGo nx ls (qR x :: r1) h)) ((qgi a b q h).bind fun x => some (nGo nx ls (qI x :: r1) h)) = some (Sum.inr (Sum.inr r)) := hq3
    cases hc : Nat.beq c 1 <;> (rw [hc] at hq4; obtain ⟨_, _, e⟩ := ob_inv hq4; cases e)
  case putfield =>
    obtain ⟨w, r1, -, hq1⟩ := e1_inv hq
    obtain ⟨u, r2, -, hq2⟩ := e1_inv hq1
    obtain ⟨o, -, hq3⟩ := eR_inv hq2
    obtain ⟨q, -, hq4⟩ := ob_inv hq3
    have hq5 : cond (Nat.beq c 1) (eR w fun x => (qpr a b q x h).bind fun h => some (nGo nx ls r2 h)) (eI w fun x => cond (Nat.beq c 0) ((qpi a b q x h).bind fun h => some (nGo nx ls r2 h)) ((qpz a b q x h).bind fun h => some (nGo nx ls r2 h))) = some (Sum.inr (Sum.inr r)) := hq4
    cases hc : Nat.beq c 1
    · rw [hc] at hq5
      obtain ⟨x, -, hq6⟩ := eI_inv (show (eI w fun x => cond (Nat.beq c 0) ((qpi a b q x h).bind fun h => some (nGo nx ls r2 h)) ((qpz a b q x h).bind fun h => some (nGo nx ls r2 h))) = some (Sum.inr (Sum.inr r)) from hq5)
      cases hc2 : Nat.beq c 0 <;> (rw [hc2] at hq6; obtain ⟨_, _, e⟩ := ob_inv hq6; cases e)
    · rw [hc] at hq5
      obtain ⟨x, -, hq6⟩ := eR_inv (show (eR w fun x => (qpr a b q x h).bind fun h => some (nGo nx ls r2 h)) = some (Sum.inr (Sum.inr r)) from hq5)
      obtain ⟨_, _, e⟩ := ob_inv hq6
      cases e
  case bastore =>
    obtain ⟨x, y, r1, -, hq1⟩ := e2I_inv hq
    obtain ⟨u, r2, -, hq2⟩ := e1_inv hq1
    obtain ⟨o, -, hq3⟩ := eR_inv hq2
    obtain ⟨q, -, hq4⟩ := ob_inv hq3
    have hq5 : cond (Nat.beq c 1) ((qsi 1 q x y.toInt8.toInt32 h).bind fun h => some (nGo nx ls r2 h)) ((qsi 2 q x (y &&& 1) h).bind fun h => some (nGo nx ls r2 h)) = some (Sum.inr (Sum.inr r)) := hq4
    cases hc : Nat.beq c 1 <;> (rw [hc] at hq5; obtain ⟨_, _, e⟩ := ob_inv hq5; cases e)
  all_goals first
    | exact no hq
    | (cases hq; done)
    | (obtain ⟨_, _, e⟩ := eS_inv hq; first | (obtain ⟨_, _, e⟩ := eI_inv e; exact no e) | (obtain ⟨_, _, e⟩ := eL_inv e; exact no e) | (obtain ⟨_, _, e⟩ := eR_inv e; exact no e))
    | (obtain ⟨_, _, _, _, e⟩ := e2I_inv hq; exact no e)
    | (obtain ⟨_, _, _, _, e⟩ := e2L_inv hq; exact no e)
    | (obtain ⟨_, _, _, _, e⟩ := e2I_inv hq; split at e <;> first | (cases e; done) | exact no e)
    | (obtain ⟨_, _, _, _, e⟩ := e2L_inv hq; split at e <;> first | (cases e; done) | exact no e)
    | (obtain ⟨_, _, _, _, e⟩ := e2I_inv hq; obtain ⟨_, _, _, e⟩ := e1_inv e; obtain ⟨_, _, e⟩ := eR_inv e; obtain ⟨_, _, e⟩ := ob_inv e; obtain ⟨_, _, e⟩ := ob_inv e; exact no e)
    | (obtain ⟨_, _, _, e⟩ := e1_inv hq; first
        | (obtain ⟨_, e⟩ := eC_inv e; exact no e)
        | (obtain ⟨_, _, e⟩ := eI_inv e; exact no e)
        | (obtain ⟨_, _, e⟩ := eL_inv e; exact no e)
        | (obtain ⟨_, _, e⟩ := eR_inv e; exact no e)
        | (obtain ⟨_, _, e⟩ := eI_inv e; obtain ⟨_, _, e⟩ := ob_inv e; exact no e)
        | (obtain ⟨_, _, e⟩ := eR_inv e; obtain ⟨_, _, e⟩ := ob_inv e; obtain ⟨_, _, e⟩ := ob_inv e; exact no e)
        | (obtain ⟨_, _, _, e⟩ := e1_inv e; obtain ⟨_, e⟩ := eC_inv e; obtain ⟨_, e⟩ := eC_inv e; exact no e)
        | (obtain ⟨_, _, e⟩ := eI_inv e; obtain ⟨_, _, _, e⟩ := e1_inv e; obtain ⟨_, _, e⟩ := eR_inv e; obtain ⟨_, _, e⟩ := ob_inv e; obtain ⟨_, _, e⟩ := ob_inv e; exact no e)
        | (obtain ⟨_, _, e⟩ := eR_inv e; obtain ⟨_, _, _, e⟩ := e1_inv e; obtain ⟨_, _, e⟩ := eI_inv e; obtain ⟨_, _, _, e⟩ := e1_inv e; obtain ⟨_, _, e⟩ := eR_inv e; obtain ⟨_, _, e⟩ := ob_inv e; obtain ⟨_, _, e⟩ := ob_inv e; exact no e))

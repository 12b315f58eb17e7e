def okCB (w v : Cond) : Bool := match w, v with
  | .code n b m r, .code n' b' m' r' => decide (n = n') && (decide (m = m') && (decide (r = r') && (b.data.toList.map UInt8.toNat == b'.data.toList.map UInt8.toNat)))
  | _, _ => false
theorem u8_inj : ∀ (a b : List UInt8), a.map UInt8.toNat = b.map UInt8.toNat → a = b
  | [], [], _ => rfl
  | [], _ :: _, h => by cases h
  | _ :: _, [], h => by cases h
  | x :: a, y :: b, h => by
    have h' : x.toNat = y.toNat ∧ a.map UInt8.toNat = b.map UInt8.toNat := by
      rw [List.map_cons, List.map_cons] at h
      exact List.cons.inj h
    rw [UInt8.toNat.inj h'.1, u8_inj a b h'.2]
theorem okCB_ {w v : Cond} (h : okCB w v = true) : w = v := by
  unfold okCB at h
  split at h
  · rename_i n b m r n' b' m' r'
    rw [Bool.and_eq_true, Bool.and_eq_true, Bool.and_eq_true] at h
    have e := u8_inj _ _ (eq_of_beq h.2.2.2)
    have e2 : b = b' := by
      cases b with
      | mk d =>
        cases b' with
        | mk d' =>
          cases d with
          | mk l =>
            cases d' with
            | mk l' =>
              have e3 : l = l' := e
              rw [e3]
    rw [of_decide_eq_true h.1, of_decide_eq_true h.2.1, of_decide_eq_true h.2.2.1, e2]
  · exact absurd h (by decide)
theorem okm_cd : (match lw_tbl[qcodeI 164]? with | some w => okCB w (.code (qname 164) (qbyte 164) (qmx 164) (qret 164)) | none => false) = true := by decide +kernel
theorem okm_cl : okL (qcodeI 164) (.code (qname 164) (qbyte 164) (qmx 164) (qret 164)) = true := by
  have h := okm_cd
  have g : goodWord (.code (qname 164) (qbyte 164) (qmx 164) (qret 164)) = true := by decide +kernel
  unfold okL
  rw [g, Bool.and_true]
  apply decide_eq_true
  cases e : lw_tbl[qcodeI 164]? with
  | none =>
    rw [e] at h
    exact absurd h (by decide)
  | some w =>
    rw [e] at h
    have h' : okCB w (.code (qname 164) (qbyte 164) (qmx 164) (qret 164)) = true := h
    rw [okCB_ h']
theorem okm27 : ((List.range 1).all fun k => okM (164 + k)) = true := by
  have e : ((List.range 1).all fun k => okM (164 + k)) = okM 164 := by
    rw [show List.range 1 = [0] from rfl, List.all_cons, List.all_nil, Bool.and_true]
  rw [e]
  unfold okM
  rw [okm_cl, Bool.true_and]
  decide +kernel

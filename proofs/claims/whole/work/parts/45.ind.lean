/-! ===== by induction over the run ===== -/
def FIN (p : Program) (l : Launch) (e : Env) (R : Room) (s : State) (mi : MethodId) (args : Array Value) (below : List Frame) (meth : Method) (c : Code) (Q : State → Prop) (D : va_G) (cA : Nat → ClassId) (ad : Nat → Nat) (H0 : Heap) (L : Nat) (xs : Nat → Int32) (m : Nat) (hs : QH) (rv : Option QV) (hf : QH) : Prop :=
  ∀ (pc : Nat) (H : Heap) (locs : List Loc) (rl : Array Slot), qRel D cA ad H0 L xs hf H → (∀ q ∈ locs, H0.size ≤ q.base) → retOK m pc rv → W p l e R s mi args below meth c H locs (hN hf - hN hs) (hS hf - hS hs) Q (F0 mi pc rl ((vsOf rv).map (qrz ad)))
theorem FIN_method {p : Program} {l : Launch} {e : Env} {R : Room} {s : State} {mi : MethodId} {args : Array Value} {below : List Frame} {meth : Method} {c : Code} {D : va_G} {cA : Nat → ClassId} {ad : Nat → Nat} {H0 : Heap} {L : Nat} {xs : Nat → Int32} {m : Nat} {h : QH} {rv : Option QV} {hf : QH} (hx : p.tables.exec = Jvm.exec) (hb : c.code = qbyte m) (hr : meth.sig.returnType = qret m) (hlocks : meth.locks = false) :
    FIN p l e R s mi args below meth c (MQ below (qQc D cA ad H0 L xs rv hf) args s (hN hf - hN h) (hS hf - hS h) (fun q => H0.size ≤ q)) D cA ad H0 L xs m h rv hf := by
  intro pc H locs rl hR hloc ok
  rcases rv with _ | x | x | x
  · exact W.vret hx hb (hr.trans ok.2) (fun t ht _ => ⟨rfl, by rw [ht]; exact hR⟩) hloc ok.1 hlocks
  · rcases ok.2 with hq | ⟨hq, h01⟩
    · exact W.iret hx hb (hr.trans hq) (fun t ht _ => ⟨rfl, by rw [ht]; exact hR⟩) hloc ok.1 hlocks
    · exact W.zret hx hb (hr.trans hq) (by rcases h01 with rfl | rfl <;> rfl) (fun t ht _ => ⟨rfl, by rw [ht]; exact hR⟩) hloc ok.1 hlocks
  · exact W.lret hx hb (hr.trans ok.2) (fun t ht _ => ⟨rfl, by rw [ht]; exact hR⟩) hloc ok.1 hlocks
  · rcases ok.2 with ⟨n, hq⟩ | ⟨n, hq⟩
    · exact W.aret (v := va_rf (x.map ad)) hx hb (hr.trans hq) (Or.inl ⟨n, rfl⟩) (by cases x <;> simp [va_rf]) (fun t ht _ => ⟨rfl, by rw [ht]; exact hR⟩) hloc ok.1 hlocks
    · exact W.aret (v := va_rf (x.map ad)) hx hb (hr.trans hq) (Or.inr ⟨n, rfl⟩) (by cases x <;> simp [va_rf]) (fun t ht _ => ⟨rfl, by rw [ht]; exact hR⟩) hloc ok.1 hlocks
def SIM (l : Launch) (D : va_G) (cA : Nat → ClassId) (ad : Nat → Nat) (H0 : Heap) (L : Nat) (xs : Nat → Int32) (n : Nat) : Prop :=
  ∀ (d m pc : Nat) (ls : List QS) (st : List QV) (h : QH) (rv : Option QV) (hf : QH), m < 279 → qrun n d m pc ls st h = some (rv, hf) →
    ∀ (p : Program) (e : Env) (R : Room) (s : State) (mi : MethodId) (args : Array Value) (below : List Frame) (meth : Method) (c : Code) (Q : State → Prop) (hs : QH), FC p R s mi meth c D cA ad H0 L xs d m hs hf → hN hs ≤ hN h ∧ hS hs ≤ hS h → FIN p l e R s mi args below meth c Q D cA ad H0 L xs m hs rv hf → SW p l e R s mi args below meth c Q D cA ad H0 L xs m hs pc ls st h
set_option maxHeartbeats 1000000 in
theorem met_of {l : Launch} {D : va_G} {cA : Nat → ClassId} {ad : Nat → Nat} {H0 : Heap} {L : Nat} {xs : Nat → Int32} {n : Nat} (had : qad H0 ad) (okMs : ∀ k, 1 ≤ k → k < 279 → okM k = true) (ih : SIM l D cA ad H0 L xs n) {d k : Nat} {as : List QV} {h h1 : QH} {rv : Option QV} (hk1 : 1 ≤ k) (hk2 : k < 279) (hc : catS as ≤ qmx k) (hr : qrun n d k 0 (argL as (qmx k)) [] h = some (rv, h1)) : qMet l D cA ad H0 L xs d k as h rv h1 := by
  unfold qMet
  refine Met.ofW (cc := qbyte k) (maxL := qmx k) (ret := qret k) (okMP_of (okMs k hk1 hk2)).2.1 rfl ?_
  intro p e s mi args below meth c s₁ B hml hv
  obtain ⟨rfl, hR, hK⟩ := hv
  have hl := lv_entry (as.map (qrz ad)) (n := qmx k) (by rw [catS_sl]; exact hc)
  rw [lg_entry_eq]
  have hl2 : lv_has ((lg_sl (as.map (qrz ad)) ++ List.replicate (qmx k - (lg_sl (as.map (qrz ad))).length) Slot.unset).toArray) (qmx k) (lfac ad 0 (argL as (qmx k))) := ⟨hl.1, hl.2.1, fun q hq => hl.2.2 q (lfac_arg as (qmx k) 0 q hq)⟩
  have F : FC p (qroom d (hN h1 - hN h) (hS h1 - hS h)) s mi meth c D cA ad H0 L xs d k h h1 := ⟨B.exec, B.bytes, hml, findClass_of_methodNamed B.named, B.returns, B.notSynchronized, fun z => (name_of_methodNamed B.named B.method).1.trans z, hK, ⟨hR.1, hR.2.1, hR.2.2.1⟩, ⟨Nat.le_refl _, Nat.le_refl _⟩, ⟨Nat.le_refl _, Nat.le_refl _⟩, had⟩
  have := ih d k 0 (argL as (qmx k)) [] h rv h1 hk2 hr p e (qroom d (hN h1 - hN h) (hS h1 - hS h)) s mi (as.map (qrz ad)).toArray below meth c (MQ below (qQc D cA ad H0 L xs rv h1) (as.map (qrz ad)).toArray s (hN h1 - hN h) (hS h1 - hS h) (fun q => H0.size ≤ q)) h F ⟨Nat.le_refl _, Nat.le_refl _⟩ (FIN_method B.exec B.bytes B.returns B.notSynchronized) s.heap [] _ hR hl2 (fun q hq => by cases hq)
  rw [Nat.sub_self, Nat.sub_self] at this
  exact this
set_option maxHeartbeats 1000000 in
theorem sim {l : Launch} {D : va_G} {cA : Nat → ClassId} {ad : Nat → Nat} {H0 : Heap} {L : Nat} {xs : Nat → Int32} (had : qad H0 ad) (okCs : ∀ m, m < 279 → okC m = true) (okMs : ∀ k, 1 ≤ k → k < 279 → okM k = true) : ∀ n, SIM l D cA ad H0 L xs n
  | 0 => fun d m pc ls st h rv hf _ e => by cases e
  | n + 1 => by
    have ih := sim (l := l) (D := D) (cA := cA) (L := L) (xs := xs) had okCs okMs n
    intro d m pc ls st h rv hf hm er p e R s mi args below meth c Q hs F hss fin
    have er : qstep (qent (qrun n)) (qrun n) d m pc ls st h = some (rv, hf) := er
    rw [qstep_act] at er
    obtain ⟨q, e1, e2⟩ := ob_inv er
    have hg := qact_grow e1
    obtain ⟨i, nx, a, b, k, j, v, ts, hd, ok, hq⟩ := qact_in (okCs m hm) e1
    rcases q with r | ⟨pc2, ls2, st2, h2⟩ | ⟨k2, as, rk, nx2, ls2, st2, h2⟩
    · cases e2
      obtain ⟨r1, r2, r3⟩ := ret_inv hd ok hq
      intro H locs rl hR hl hloc
      have r1 : hf = h := r1
      subst r1
      rw [r2]
      exact fin pc H locs rl hR hloc r3
    · have hgr := qrun_grow n d m pc2 _ st2 h2 (rv, hf) e2
      have k1 := ih d m pc2 _ st2 h2 rv hf hm e2 p e R s mi args below meth c Q hs F ⟨Nat.le_trans hss.1 hg.1, Nat.le_trans hss.2 hg.2⟩ fin
      exact sim_go F hss hgr hd ok hq (SW_kill _ k1)
    · cases d with
      | zero => cases e2
      | succ d =>
        have e3 : cAny rk (qent (qrun n) d k2 as h2) (fun vs h => qgo (qrun n) (d + 1) m nx2 ls2 (vs ++ st2) h) = some (rv, hf) := e2
        obtain ⟨v1, h1, e4, e5, -⟩ := cAny_some e3
        obtain ⟨c1, c2, c3⟩ := qent_inv e4
        obtain ⟨as', rest, er, -⟩ := call_inv hq
        obtain ⟨rfl, rfl, rfl, rfl, rfl, rfl, rfl⟩ : k2 = a ∧ as = as' ∧ rk = k ∧ nx2 = nx ∧ ls2 = ls ∧ st2 = rest ∧ h2 = h := by
          injection er with y1 y2
          injection y2 with y2 y3
          injection y3 with y3 y4
          injection y4 with y4 y5
          injection y5 with y5 y6
          injection y6 with y6 y7
          exact ⟨y1, y2, y3, y4, y5, y6, y7⟩
        have g1 := qrun_grow n d k2 0 _ [] h2 (v1, h1) c2
        have g2 := qrun_grow n (d + 1) m nx2 _ _ h1 (rv, hf) e5
        have k1 := ih (d + 1) m nx2 _ _ h1 rv hf hm e5 p e R s mi args below meth c Q hs F ⟨Nat.le_trans hss.1 g1.1, Nat.le_trans hss.2 g1.2⟩ fin
        exact sim_call F okMs hss g1 g2 hd ok hq c3 (fun x1 x2 => met_of had okMs ih x1 x2 c1 c2) (SW_kill _ k1)

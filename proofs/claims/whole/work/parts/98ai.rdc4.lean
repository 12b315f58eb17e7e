/-- a sign, one, the sign's step, the rest -/
theorem C_loopS {h : QH} {T : Nat → Nat} {n N f : Nat} (X : CRX h T n) (w : NN T n N) (ih : CIH h T n N f) (s s1 pos lv dp z k0 : Nat) (acc : Den) (dvf : Den → Den) (hs : s < 10) (hs1 : s1 < 10) (hpos : pos < N) (hlv : lv ≤ 50) (hdp : dp ≤ 8) (hz : z + (N - pos) ≤ 412) (hk0 : k0 < 32) (hseq : ∀ D, CMd s dp ≤ D → ∃ D1, CMd s1 dp ≤ D1 + 3 ∧ ∃ nx : Nat → Int32 → QH → QO, (∀ F S i G, i ≤ pos → PS T n F pos lv dp z → qcl (D1 + 3) 106 [qR (some 29)] (st2' h F S) = some (none, st2' h G S) → CMg s D 0 i (st2' h F S) = cI (CMg s1 (D1 + 3) 0 0 (st2' h G S)) (fun x k1 => cV (qcl (D1 + 3) 111 [qR (some 29), qI (nZ k0), qI (nZ 0)] k1) (fun k2 => nx i x k2))) ∧ (∀ i k, nx i (nZ 1) k = CMg s D 0 (i + 1) k) ∧ ∀ i k, nx i (nZ 0) k = some (some (qI (nZ 0)), k)) (hne : (rdB (P (CT T n) (VT T n) N f s1 (pos + 1) lv dp z 0 acc) fun p l cs dn => rdB (P (CT T n) (VT T n) N f s p l dp (z + cs.length + 1) 0 (dvf dn)) fun p2 l2 cs2 dn2 => .inr (p2, l2, cs ++ k0 :: cs2, dn2)) ≠ .inl 100000) (hpp : ∀ p l cs dn, P (CT T n) (VT T n) N f s1 (pos + 1) lv dp z 0 acc = .inr (p, l, cs, dn) → pos + 2 ≤ p) : GC h T n N s pos lv dp z 0 (rdB (P (CT T n) (VT T n) N f s1 (pos + 1) lv dp z 0 acc) fun p l cs dn => rdB (P (CT T n) (VT T n) N f s p l dp (z + cs.length + 1) 0 (dvf dn)) fun p2 l2 cs2 dn2 => .inr (p2, l2, cs ++ k0 :: cs2, dn2)) := by
  have H := X.1
  have hts := w.2.2 pos hpos
  have i1 := ih s1 (pos + 1) lv dp z 0 acc hs1 (by decide) (by omega) (by omega) hlv hdp (by omega)
  cases e1 : P (CT T n) (VT T n) N f s1 (pos + 1) lv dp z 0 acc with
  | inl e =>
    rw [e1] at i1 hne
    obtain ⟨b1, o1⟩ := i1 hne
    refine ⟨fun e' he' => by cases he'; exact b1 e rfl, ?_⟩
    intro D i F S hD hi ps
    obtain ⟨D1, d1, nx, sq, nt, nf⟩ := hseq D hD
    obtain ⟨G0, a1, a2, a3⟩ := c106 X D1 pos F S ps.1 hts
    obtain ⟨G, R, z', g1, g2, g3, g4, g5, g6⟩ := o1 (D1 + 3) 0 G0 S d1 (Nat.zero_le _) (ps.adv a2 a3)
    obtain ⟨G2, R2, z2, l1', l2', l3', l4'⟩ := c111f H (D1 + 2) z' (nZ k0) (nZ 0) G R g5 g6
    refine ⟨G2, R2, z2, ?_, (l4' 0 (by decide)).trans g2, (l4' 8 (by decide)).trans (g3.trans a3.2.2.2.1), (l4' 2 (by decide)).trans (g4.trans (a2.2.1.trans ps.1.2.1.symm)), l3', l2'⟩
    rw [sq F S i G0 hi ps a1, g1, jI, l1', jV, nf]
  | inr v =>
    obtain ⟨p, l, cs, dn⟩ := v
    have hp2 := hpp p l cs dn e1
    rw [e1] at i1 hne
    obtain ⟨b1, o1⟩ := i1 (fun zz => by cases zz)
    obtain ⟨q1, q2, q3, q4⟩ := PB _ _ _ _ _ _ _ _ _ _ _ _ e1 hs1 (by decide) (by omega) (by omega)
    have ql := P_lv _ _ _ _ _ _ _ _ _ _ _ _ e1 hs1 hlv
    have i2 := ih s p l dp (z + cs.length + 1) 0 (dvf dn) hs (by decide) (by omega) q2 ql hdp (by omega)
    change (rdB (P (CT T n) (VT T n) N f s p l dp (z + cs.length + 1) 0 (dvf dn)) fun p2 l2 cs2 dn2 => .inr (p2, l2, cs ++ k0 :: cs2, dn2)) ≠ .inl 100000 at hne
    change GC h T n N s pos lv dp z 0 (rdB (P (CT T n) (VT T n) N f s p l dp (z + cs.length + 1) 0 (dvf dn)) fun p2 l2 cs2 dn2 => .inr (p2, l2, cs ++ k0 :: cs2, dn2))
    have st : ∀ D i F S, CMd s dp ≤ D → i ≤ pos → PS T n F pos lv dp z → ∃ G R, CMg s D 0 i (st2' h F S) = CMg s D 0 (i + 1) (st2' h G R) ∧ PS T n G p l dp (z + cs.length + 1) ∧ G 8 = F 8 ∧ (∀ j, j < z → R j = S j) ∧ AtI R z (cs ++ [k0]) := by
      intro D i F S hD hi ps
      obtain ⟨D1, d1, nx, sq, nt, nf⟩ := hseq D hD
      obtain ⟨G0, a1, a2, a3⟩ := c106 X D1 pos F S ps.1 hts
      obtain ⟨G, R, g1, g2, g3, g4, g5, g6, g7, g8⟩ := o1 (D1 + 3) 0 G0 S d1 (Nat.zero_le _) (ps.adv a2 a3)
      have lv1 := c111 H (D1 + 2) k0 0 (z + cs.length) G R hk0 (by decide) g5 (by omega)
      refine ⟨upS G 9 (nZ (z + cs.length + 1)), upS R (z + cs.length) (nZ (k0 + 32 * 0)), ?_, ⟨?_, ?_, ?_, upS_at⟩, ?_, ?_, ?_⟩
      · rw [sq F S i G0 hi ps a1, g1, jI, lv1, jV, nt]
      · exact g2.of (upS_ne (by decide)) (upS_ne (by decide)) (upS_ne (by decide)) (upS_ne (by decide)) (upS_ne (by decide))
      · rw [upS_ne (by decide)]
        exact g3
      · rw [upS_ne (by decide)]
        exact g4
      · rw [upS_ne (by decide)]
        exact g6.trans a3.2.2.2.1
      · intro j hj
        rw [upS_ne (by omega)]
        exact g7 j hj
      · refine AtI_app cs [k0] z (AtI_congr cs z (fun j h1 h2 => upS_ne (by omega)) g8) ⟨?_, trivial⟩
        rw [upS_at]
        rfl
    cases e2 : P (CT T n) (VT T n) N f s p l dp (z + cs.length + 1) 0 (dvf dn) with
    | inl e =>
      rw [e2] at i2 hne
      obtain ⟨b2, o2⟩ := i2 hne
      refine ⟨fun e' he' => by cases he'; exact b2 e rfl, ?_⟩
      intro D i F S hD hi ps
      obtain ⟨G, R, st1', ps2, st3', st4', st5'⟩ := st D i F S hD hi ps
      obtain ⟨G2, R2, z', k1, k2, k3, k4, k5⟩ := o2 D (i + 1) G R hD (by omega) ps2
      refine ⟨G2, R2, z', ?_, k2, k3.trans st3', k4.trans (ps2.1.2.1.trans ps.1.2.1.symm), k5⟩
      rw [st1']
      exact k1
    | inr v2 =>
      obtain ⟨p2, lw, cs2, dn2⟩ := v2
      rw [e2] at i2
      obtain ⟨b2, o2⟩ := i2 (fun zz => by cases zz)
      refine ⟨fun e' he' => (by cases he'), ?_⟩
      intro D i F S hD hi ps
      obtain ⟨G, R, st1', ps2, st3', st4', st5'⟩ := st D i F S hD hi ps
      obtain ⟨G2, R2, k1, k2, k3, k4, k5, k6, k7, k8⟩ := o2 D (i + 1) G R hD (by omega) ps2
      refine ⟨G2, R2, ?_, k2, k3, k4, ?_, k6.trans st3', ?_, ?_⟩
      · rw [st1']
        exact k1
      · rw [k5]
        show nZ (z + cs.length + 1 + cs2.length) = nZ (z + (cs ++ k0 :: cs2).length)
        rw [List.length_append, List.length_cons]
        congr 1
        omega
      · intro j hj
        exact (k7 j (by omega)).trans (st4' j hj)
      · show AtI R2 z (cs ++ k0 :: cs2)
        have e3 : cs ++ k0 :: cs2 = (cs ++ [k0]) ++ cs2 := by simp
        have e4 : (cs ++ [k0]).length = cs.length + 1 := by simp
        rw [e3]
        refine AtI_app (cs ++ [k0]) cs2 z (AtI_congr (cs ++ [k0]) z (fun j h1 h2 => k7 j (by rw [e4] at h2; omega)) st5') ?_
        rw [e4, ← Nat.add_assoc]
        exact k8
/-- a word's step, one, where it jumps to, the rest -/
theorem C_loopT {h : QH} {T : Nat → Nat} {n N f : Nat} (X : CRX h T n) (w : NN T n N) (ih : CIH h T n N f) (s s1 pos lv dp z k0 : Nat) (acc : Den) (dvf : Den → Den) (hs : s < 10) (hs1 : s1 < 10) (hpos : pos < N) (hlv : lv ≤ 50) (hdp : dp ≤ 8) (hz : z + (N - pos) ≤ 412) (hk0 : k0 < 32) (hseq : ∀ D, CMd s dp ≤ D → ∃ D1, CMd s1 dp ≤ D1 + 3 ∧ ∃ nx : Nat → Int32 → QH → QO, (∀ F S i G0 R0 G, i ≤ pos → PS T n F pos lv dp z → qcl (D1 + 3) 111 [qR (some 29), qI (nZ k0), qI (nZ 0)] (st2' h F S) = some (none, st2' h G0 R0) → qcl (D1 + 3) 106 [qR (some 29)] (st2' h G0 R0) = some (none, st2' h G R0) → CMg s D 0 i (st2' h F S) = cI (CMg s1 (D1 + 3) 0 0 (st2' h G R0)) (fun x k1 => cV (qcl (D1 + 3) 107 [qR (some 29), qI (nZ z)] k1) (fun k2 => nx i x k2))) ∧ (∀ i k, nx i (nZ 1) k = CMg s D 0 (i + 1) k) ∧ ∀ i k, nx i (nZ 0) k = some (some (qI (nZ 0)), k)) (hne : (rdB (P (CT T n) (VT T n) N f s1 (pos + 1) lv dp (z + 1) 0 acc) fun p l cs dn => rdB (P (CT T n) (VT T n) N f s p l dp (z + 1 + cs.length) 0 (dvf dn)) fun p2 l2 cs2 dn2 => .inr (p2, l2, (k0 + 32 * (z + 1 + cs.length)) :: cs ++ cs2, dn2)) ≠ .inl 100000) (hpp : ∀ p l cs dn, P (CT T n) (VT T n) N f s1 (pos + 1) lv dp (z + 1) 0 acc = .inr (p, l, cs, dn) → pos + 2 ≤ p) : GC h T n N s pos lv dp z 0 (rdB (P (CT T n) (VT T n) N f s1 (pos + 1) lv dp (z + 1) 0 acc) fun p l cs dn => rdB (P (CT T n) (VT T n) N f s p l dp (z + 1 + cs.length) 0 (dvf dn)) fun p2 l2 cs2 dn2 => .inr (p2, l2, (k0 + 32 * (z + 1 + cs.length)) :: cs ++ cs2, dn2)) := by
  have H := X.1
  have hts := w.2.2 pos hpos
  have i1 := ih s1 (pos + 1) lv dp (z + 1) 0 acc hs1 (by decide) (by omega) (by omega) hlv hdp (by omega)
  have pre : ∀ D1 F S, PS T n F pos lv dp z → ∃ G0 R0 G, qcl (D1 + 3) 111 [qR (some 29), qI (nZ k0), qI (nZ 0)] (st2' h F S) = some (none, st2' h G0 R0) ∧ qcl (D1 + 3) 106 [qR (some 29)] (st2' h G0 R0) = some (none, st2' h G R0) ∧ PS T n G (pos + 1) lv dp (z + 1) ∧ G 8 = F 8 ∧ R0 z = nZ k0 ∧ ∀ j, j < z → R0 j = S j := by
    intro D1 F S ps
    have lv1 := c111 H (D1 + 2) k0 0 z F S hk0 (by decide) ps.2.2.2 (by omega)
    have tk : Tok T n (upS F 9 (nZ (z + 1))) pos := ps.1.of (upS_ne (by decide)) (upS_ne (by decide)) (upS_ne (by decide)) (upS_ne (by decide)) (upS_ne (by decide))
    obtain ⟨G, a1, a2, a3⟩ := c106 X D1 pos (upS F 9 (nZ (z + 1))) (upS S z (nZ (k0 + 32 * 0))) tk hts
    refine ⟨_, _, G, lv1, a1, ⟨a2, ?_, ?_, ?_⟩, ?_, ?_, ?_⟩
    · rw [a3.2.1, upS_ne (by decide)]
      exact ps.2.1
    · rw [a3.2.2.1, upS_ne (by decide)]
      exact ps.2.2.1
    · rw [a3.2.2.2.2, upS_at]
    · rw [a3.2.2.2.1, upS_ne (by decide)]
    · rw [upS_at]
      rfl
    · intro j hj
      exact upS_ne (by omega)
  cases e1 : P (CT T n) (VT T n) N f s1 (pos + 1) lv dp (z + 1) 0 acc with
  | inl e =>
    rw [e1] at i1 hne
    obtain ⟨b1, o1⟩ := i1 hne
    refine ⟨fun e' he' => by cases he'; exact b1 e rfl, ?_⟩
    intro D i F S hD hi ps
    obtain ⟨D1, d1, nx, sq, nt, nf⟩ := hseq D hD
    obtain ⟨G0, R0, G1, a1, a2, ps1, a4, a5, a6⟩ := pre D1 F S ps
    obtain ⟨G, R, z', g1, g2, g3, g4, g5, g6⟩ := o1 (D1 + 3) 0 G1 R0 d1 (Nat.zero_le _) ps1
    obtain ⟨R2, r2'⟩ := c107f H (D1 + 2) z G R (by omega)
    refine ⟨G, R2, z', ?_, g2, g3.trans a4, g4.trans (ps1.1.2.1.trans ps.1.2.1.symm), g5, g6⟩
    rw [sq F S i G0 R0 G1 hi ps a1 a2, g1, jI, r2', jV, nf]
  | inr v =>
    obtain ⟨p, l, cs, dn⟩ := v
    have hp2 := hpp p l cs dn e1
    rw [e1] at i1 hne
    obtain ⟨b1, o1⟩ := i1 (fun zz => by cases zz)
    obtain ⟨q1, q2, q3, q4⟩ := PB _ _ _ _ _ _ _ _ _ _ _ _ e1 hs1 (by decide) (by omega) (by omega)
    have ql := P_lv _ _ _ _ _ _ _ _ _ _ _ _ e1 hs1 hlv
    have i2 := ih s p l dp (z + 1 + cs.length) 0 (dvf dn) hs (by decide) (by omega) q2 ql hdp (by omega)
    change (rdB (P (CT T n) (VT T n) N f s p l dp (z + 1 + cs.length) 0 (dvf dn)) fun p2 l2 cs2 dn2 => .inr (p2, l2, (k0 + 32 * (z + 1 + cs.length)) :: cs ++ cs2, dn2)) ≠ .inl 100000 at hne
    change GC h T n N s pos lv dp z 0 (rdB (P (CT T n) (VT T n) N f s p l dp (z + 1 + cs.length) 0 (dvf dn)) fun p2 l2 cs2 dn2 => .inr (p2, l2, (k0 + 32 * (z + 1 + cs.length)) :: cs ++ cs2, dn2))
    have st : ∀ D i F S, CMd s dp ≤ D → i ≤ pos → PS T n F pos lv dp z → ∃ G R, CMg s D 0 i (st2' h F S) = CMg s D 0 (i + 1) (st2' h G R) ∧ PS T n G p l dp (z + 1 + cs.length) ∧ G 8 = F 8 ∧ (∀ j, j < z → R j = S j) ∧ AtI R z ((k0 + 32 * (z + 1 + cs.length)) :: cs) := by
      intro D i F S hD hi ps
      obtain ⟨D1, d1, nx, sq, nt, nf⟩ := hseq D hD
      obtain ⟨G0, R0, G1, a1, a2, ps1, a4, a5, a6⟩ := pre D1 F S ps
      obtain ⟨G, R, g1, g2, g3, g4, g5, g6, g7, g8⟩ := o1 (D1 + 3) 0 G1 R0 d1 (Nat.zero_le _) ps1
      have am := c107 H (D1 + 2) k0 (z + 1 + cs.length) z G R hk0 g5 (by omega) (by omega) ((g7 z (by omega)).trans a5)
      refine ⟨G, upS R z (nZ (k0 + 32 * (z + 1 + cs.length))), ?_, ⟨g2, g3, g4, g5⟩, g6.trans a4, ?_, ⟨upS_at, ?_⟩⟩
      · rw [sq F S i G0 R0 G1 hi ps a1 a2, g1, jI, am, jV, nt]
      · intro j hj
        rw [upS_ne (by omega)]
        exact (g7 j (by omega)).trans (a6 j hj)
      · exact AtI_congr cs (z + 1) (fun j h1 h2 => upS_ne (by omega)) g8
    cases e2 : P (CT T n) (VT T n) N f s p l dp (z + 1 + cs.length) 0 (dvf dn) with
    | inl e =>
      rw [e2] at i2 hne
      obtain ⟨b2, o2⟩ := i2 hne
      refine ⟨fun e' he' => by cases he'; exact b2 e rfl, ?_⟩
      intro D i F S hD hi ps
      obtain ⟨G, R, st1', ps2, st3', st4', st5'⟩ := st D i F S hD hi ps
      obtain ⟨G2, R2, z', k1, k2, k3, k4, k5⟩ := o2 D (i + 1) G R hD (by omega) ps2
      refine ⟨G2, R2, z', ?_, k2, k3.trans st3', k4.trans (ps2.1.2.1.trans ps.1.2.1.symm), k5⟩
      rw [st1']
      exact k1
    | inr v2 =>
      obtain ⟨p2, lw, cs2, dn2⟩ := v2
      rw [e2] at i2
      obtain ⟨b2, o2⟩ := i2 (fun zz => by cases zz)
      refine ⟨fun e' he' => (by cases he'), ?_⟩
      intro D i F S hD hi ps
      obtain ⟨G, R, st1', ps2, st3', st4', st5'⟩ := st D i F S hD hi ps
      obtain ⟨G2, R2, k1, k2, k3, k4, k5, k6, k7, k8⟩ := o2 D (i + 1) G R hD (by omega) ps2
      refine ⟨G2, R2, ?_, k2, k3, k4, ?_, k6.trans st3', ?_, ?_⟩
      · rw [st1']
        exact k1
      · rw [k5]
        show nZ (z + 1 + cs.length + cs2.length) = nZ (z + ((k0 + 32 * (z + 1 + cs.length)) :: cs ++ cs2).length)
        rw [List.length_append, List.length_cons]
        congr 1
        omega
      · intro j hj
        exact (k7 j (by omega)).trans (st4' j hj)
      · show AtI R2 z ((k0 + 32 * (z + 1 + cs.length)) :: cs ++ cs2)
        refine AtI_app _ cs2 z (AtI_congr _ z (fun j h1 h2 => k7 j (by rw [List.length_cons] at h2; omega)) st5') ?_
        rw [List.length_cons, show z + (cs.length + 1) = z + 1 + cs.length by omega]
        exact k8

/-! every call keeps what both stand in -/
theorem os_sim {h : QH} {n D k m : Nat} {as : List QV} {W : Nat → Nat} {c : Nat} {T : Nat → Nat} (r : R h W c T) (hc : c ≤ n) (hn : n < 1000) (b1 : hN h ≤ 79 + 4 * n + 15 * imc h) (b2 : hS h ≤ 200000 + 439 * n + 434 * imc h) {x : QH} (s : Sim h x W c T) : RS x (n + 1) := by
  obtain ⟨W', c', T', r', cc, F⟩ := R_Sim r (by omega) s
  exact RS_rst (h := h) (c := c) (W := W) (T := T) r' hc cc b1 b2 (by rw [F.n]; omega) (by rw [F.s]; omega) (fun i => F.r 26 i)
theorem os_rst {h : QH} {n : Nat} {W W' : Nat → Nat} {c c' : Nat} {T T' : Nat → Nat} (hc : c ≤ n) (b1 : hN h ≤ 79 + 4 * n + 15 * imc h) (b2 : hS h ≤ 200000 + 439 * n + 434 * imc h) {x : QH} (cc : c' ≤ c + 1) (s : R x W' c' T' ∧ Rst h x) : RS x (n + 1) := RS_rst (h := h) (c := c) (W := W) (T := T) s.1 hc cc b1 b2 (by rw [s.2.1]; omega) (by rw [s.2.2.1]; omega) s.2.2.2
theorem os_alike {h : QH} {n : Nat} (rs : RS h n) (hn : n < 1000) (d : Nat) (a1 a2 a3 a4 : Int32) : Op (d + 120) 11 165 [qI a1, qI a2, qI a3, qI a4] h (fun k => RS k (n + 1)) := by
  obtain ⟨W, c, T, r, hc, b1, b2⟩ := rs
  have o := op_alike r.1.1 (d + 100) a1 a2 a3 a4
  exact Op.mono o (fun k s => os_sim (D := 0) (k := 0) (m := 0) (as := []) r hc hn b1 b2 s)
theorem os_art {h : QH} {n : Nat} (rs : RS h n) (hn : n < 1000) (d : Nat) (a1 a2 : Int32) : Op (d + 120) 14 167 [qI a1, qI a2] h (fun k => RS k (n + 1)) := by
  obtain ⟨W, c, T, r, hc, b1, b2⟩ := rs
  have o := op_art r.1.1 (d + 100) a1 a2
  exact Op.mono o (fun k s => os_sim (D := 0) (k := 0) (m := 0) (as := []) r hc hn b1 b2 s)
theorem os_back {h : QH} {n : Nat} (rs : RS h n) (hn : n < 1000) (d : Nat) (a1 : Int32) : Op (d + 120) 15 171 [qI a1] h (fun k => RS k (n + 1)) := by
  obtain ⟨W, c, T, r, hc, b1, b2⟩ := rs
  have o := op_back r.1 r.2.2.1.1 d a1
  exact Op.mono o (fun k s => s.elim (fun s => os_sim (D := 0) (k := 0) (m := 0) (as := []) r hc hn b1 b2 s) (fun s => by
    obtain ⟨⟨W', r'⟩, im⟩ := R_Im r (by omega) s
    exact RS_im r' hc b1 b2 im))
theorem os_behind {h : QH} {n : Nat} (rs : RS h n) (hn : n < 1000) (d : Nat) (a1 a2 a3 : Int32) : Op (d + 120) 16 173 [qI a1, qI a2, qI a3] h (fun k => RS k (n + 1)) := by
  obtain ⟨W, c, T, r, hc, b1, b2⟩ := rs
  have o := op_behind r.1 r.2.2.2.1 d a1 a2 a3
  exact Op.mono o (fun k s => os_rst (W := W) (T := T) hc b1 b2 (by omega) (R_Plan r s))
theorem os_best {h : QH} {n : Nat} (rs : RS h n) (hn : n < 1000) (d : Nat) (a1 : Int32) : Op (d + 120) 17 174 [qI a1] h (fun k => RS k (n + 1)) := by
  obtain ⟨W, c, T, r, hc, b1, b2⟩ := rs
  have o := op_best r.1.1 r.2.2.2.2.1 d a1
  exact Op.mono o (fun k s => os_rst (W := W) (T := T) hc b1 b2 (by omega) (R_Sp r s))
theorem os_clear {h : QH} {n : Nat} (rs : RS h n) (hn : n < 1000) (d : Nat) : Op (d + 120) 19 177 [] h (fun k => RS k (n + 1)) := by
  obtain ⟨W, c, T, r, hc, b1, b2⟩ := rs
  have o := op_clear r.1.1 (d + 100)
  exact Op.mono o (fun k s => os_sim (D := 0) (k := 0) (m := 0) (as := []) r hc hn b1 b2 s)
theorem os_count {h : QH} {n : Nat} (rs : RS h n) (hn : n < 1000) (d : Nat) (a1 : Int32) : Op (d + 120) 20 179 [qI a1] h (fun k => RS k (n + 1)) := by
  obtain ⟨W, c, T, r, hc, b1, b2⟩ := rs
  have o := op_count r.1.1 (d + 100) a1
  exact Op.mono o (fun k s => os_sim (D := 0) (k := 0) (m := 0) (as := []) r hc hn b1 b2 s)
theorem os_drawn {h : QH} {n : Nat} (rs : RS h n) (hn : n < 1000) (d : Nat) (a1 a2 : Int32) : Op (d + 120) 22 180 [qI a1, qI a2] h (fun k => RS k (n + 1)) := by
  obtain ⟨W, c, T, r, hc, b1, b2⟩ := rs
  have o := op_drawn r.1.1 r.2.2.2.2.2.2 d a1 a2
  exact Op.mono o (fun k s => os_sim (D := 0) (k := 0) (m := 0) (as := []) r hc hn b1 b2 s)
theorem os_end {h : QH} {n : Nat} (rs : RS h n) (hn : n < 1000) (d : Nat) (a1 : Int32) : Op (d + 120) 23 182 [qI a1] h (fun k => RS k (n + 1)) := by
  obtain ⟨W, c, T, r, hc, b1, b2⟩ := rs
  have o := op_end r.1.1 (d + 100) a1
  exact Op.mono o (fun k s => os_sim (D := 0) (k := 0) (m := 0) (as := []) r hc hn b1 b2 s)
theorem os_fault {h : QH} {n : Nat} (rs : RS h n) (hn : n < 1000) (d : Nat) : Op (d + 120) 24 183 [] h (fun k => RS k (n + 1)) := by
  obtain ⟨W, c, T, r, hc, b1, b2⟩ := rs
  have o := op_fault r.1.1 (d + 100)
  exact Op.mono o (fun k s => os_sim (D := 0) (k := 0) (m := 0) (as := []) r hc hn b1 b2 s)
theorem os_feed {h : QH} {n : Nat} (rs : RS h n) (hn : n < 1000) (d : Nat) (a1 a2 a3 a4 a5 : Int32) : Op (d + 120) 25 185 [qI a1, qI a2, qI a3, qI a4, qI a5] h (fun k => RS k (n + 1)) := by
  obtain ⟨W, c, T, r, hc, b1, b2⟩ := rs
  have o := op_feed r.1.1 (d + 100) a1 a2 a3 a4 a5
  exact Op.mono o (fun k s => os_sim (D := 0) (k := 0) (m := 0) (as := []) r hc hn b1 b2 s)
theorem os_fewest {h : QH} {n : Nat} (rs : RS h n) (hn : n < 1000) (d : Nat) (a1 a2 : Int32) : Op (d + 120) 26 186 [qI a1, qI a2] h (fun k => RS k (n + 1)) := by
  obtain ⟨W, c, T, r, hc, b1, b2⟩ := rs
  have o := op_fewest r.1.1 d a1 a2
  exact Op.mono o (fun k s => os_rst (W := W) (T := T) hc b1 b2 (by omega) (R_Fw r s))
theorem os_first {h : QH} {n : Nat} (rs : RS h n) (hn : n < 1000) (d : Nat) (a1 a2 : Int32) : Op (d + 120) 27 188 [qI a1, qI a2] h (fun k => RS k (n + 1)) := by
  obtain ⟨W, c, T, r, hc, b1, b2⟩ := rs
  have o := op_first r.1.1 r.2.2.2.2.1 r.2.2.2.2.2.1 d a1 a2
  exact Op.mono o (fun k s => os_rst (W := W) (T := T) hc b1 b2 (by omega) (R_Fi r s))
theorem os_force {h : QH} {n : Nat} (rs : RS h n) (hn : n < 1000) (d : Nat) (a1 : Int32) : Op (d + 120) 28 189 [qI a1] h (fun k => RS k (n + 1)) := by
  obtain ⟨W, c, T, r, hc, b1, b2⟩ := rs
  have o := op_force r.1.1 (d + 100) a1
  exact Op.mono o (fun k s => os_sim (D := 0) (k := 0) (m := 0) (as := []) r hc hn b1 b2 s)
theorem os_handed {h : QH} {n : Nat} (rs : RS h n) (hn : n < 1000) (d : Nat) (a1 a2 a3 a4 : Int32) : Op (d + 120) 29 192 [qI a1, qI a2, qI a3, qI a4] h (fun k => RS k (n + 1)) := by
  obtain ⟨W, c, T, r, hc, b1, b2⟩ := rs
  have o := op_handed r.1 d a1 a2 a3 a4
  exact Op.mono o (fun k s => os_sim (D := 0) (k := 0) (m := 0) (as := []) r hc hn b1 b2 s)
theorem os_has {h : QH} {n : Nat} (rs : RS h n) (hn : n < 1000) (d : Nat) (a1 a2 a3 : Int32) : Op (d + 120) 30 195 [qI a1, qI a2, qI a3] h (fun k => RS k (n + 1)) := by
  obtain ⟨W, c, T, r, hc, b1, b2⟩ := rs
  have o := op_has r.1 r.2.2.2.1 d a1 a2 a3
  exact Op.mono o (fun k s => os_rst (W := W) (T := T) hc b1 b2 (by omega) (R_Plan r s))
theorem os_heard {h : QH} {n : Nat} (rs : RS h n) (hn : n < 1000) (d : Nat) (a1 : Int32) : Op (d + 120) 31 197 [qI a1] h (fun k => RS k (n + 1)) := by
  obtain ⟨W, c, T, r, hc, b1, b2⟩ := rs
  have o := op_heard r.1.1 (d + 100) a1
  exact Op.mono o (fun k s => os_sim (D := 0) (k := 0) (m := 0) (as := []) r hc hn b1 b2 s)
theorem os_image {h : QH} {n : Nat} (rs : RS h n) (hn : n < 1000) (d : Nat) (a1 : Int32) : Op (d + 120) 32 198 [qI a1] h (fun k => RS k (n + 1)) := by
  obtain ⟨W, c, T, r, hc, b1, b2⟩ := rs
  have o := op_image r.1 r.2.2.1.1 r.2.2.1.2 d a1
  exact Op.mono o (fun k s => s.elim (fun s => os_sim (D := 0) (k := 0) (m := 0) (as := []) r hc hn b1 b2 s) (fun s => by
    obtain ⟨⟨W', r'⟩, im⟩ := R_Im r (by omega) s
    exact RS_im r' hc b1 b2 im))
theorem os_judge {h : QH} {n : Nat} (rs : RS h n) (hn : n < 1000) (d : Nat) (a1 : Int32) : Op (d + 120) 33 209 [qI a1] h (fun k => RS k (n + 1)) := by
  obtain ⟨W, c, T, r, hc, b1, b2⟩ := rs
  have o := op_judge r.1 r.2.2.2.1 d a1
  exact Op.mono o (fun k s => os_rst (W := W) (T := T) hc b1 b2 (by omega) (R_Plan r s))
theorem os_know {h : QH} {n : Nat} (rs : RS h n) (hn : n < 1000) (d : Nat) (a1 a2 a3 : Int32) : Op (d + 120) 34 210 [qI a1, qI a2, qI a3] h (fun k => RS k (n + 1)) := by
  obtain ⟨W, c, T, r, hc, b1, b2⟩ := rs
  have o := op_know r.1.1 (d + 100) a1 a2 a3
  exact Op.mono o (fun k s => os_sim (D := 0) (k := 0) (m := 0) (as := []) r hc hn b1 b2 s)
theorem os_law2 {h : QH} {n : Nat} (rs : RS h n) (hn : n < 1000) (d : Nat) : Op (d + 120) 35 214 [] h (fun k => RS k (n + 1)) := by
  obtain ⟨W, c, T, r, hc, b1, b2⟩ := rs
  have o := op_law2 r.1 r.2.1 (d + 55)
  exact Op.mono o (fun k s => by
    obtain ⟨W', c', T', r', cc, u1, u2, u3⟩ := R_Law r (by omega) s
    exact RS_rst (h := h) (c := c) (W := W) (T := T) r' hc cc b1 b2 u1 u2 u3)
theorem os_left {h : QH} {n : Nat} (rs : RS h n) (hn : n < 1000) (d : Nat) (a1 : Int32) : Op (d + 120) 36 216 [qI a1] h (fun k => RS k (n + 1)) := by
  obtain ⟨W, c, T, r, hc, b1, b2⟩ := rs
  have o := op_left r.1.1 r.2.2.2.2.1 d a1
  exact Op.mono o (fun k s => os_rst (W := W) (T := T) hc b1 b2 (by omega) (R_Sp r s))
theorem os_meet {h : QH} {n : Nat} (rs : RS h n) (hn : n < 1000) (d : Nat) (a1 a2 a3 : Int32) : Op (d + 120) 37 222 [qI a1, qI a2, qI a3] h (fun k => RS k (n + 1)) := by
  obtain ⟨W, c, T, r, hc, b1, b2⟩ := rs
  have o := op_meet r.1.1 (d + 100) a1 a2 a3
  exact Op.mono o (fun k s => os_sim (D := 0) (k := 0) (m := 0) (as := []) r hc hn b1 b2 s)
theorem os_of {h : QH} {n : Nat} (rs : RS h n) (hn : n < 1000) (d : Nat) (a1 a2 : Int32) : Op (d + 120) 38 225 [qI a1, qI a2] h (fun k => RS k (n + 1)) := by
  obtain ⟨W, c, T, r, hc, b1, b2⟩ := rs
  have o := op_of r.1.1 (d + 100) a1 a2
  exact Op.mono o (fun k s => os_sim (D := 0) (k := 0) (m := 0) (as := []) r hc hn b1 b2 s)
theorem os_one {h : QH} {n : Nat} (rs : RS h n) (hn : n < 1000) (d : Nat) (a1 a2 a3 : Int32) : Op (d + 120) 39 226 [qI a1, qI a2, qI a3] h (fun k => RS k (n + 1)) := by
  obtain ⟨W, c, T, r, hc, b1, b2⟩ := rs
  have o := op_one r.1.1 (d + 100) a1 a2 a3
  exact Op.mono o (fun k s => os_sim (D := 0) (k := 0) (m := 0) (as := []) r hc hn b1 b2 s)
theorem os_order {h : QH} {n : Nat} (rs : RS h n) (hn : n < 1000) (d : Nat) (x : Int32) : Op (d + 120) 40 229 [qI x] h (fun k => RS k (n + 1)) := by
  obtain ⟨W, c, T, r, hc, b1, b2⟩ := rs
  have o := op_order r.1.1 (d + 100) x
  exact Op.mono o (fun k s => os_sim (D := 0) (k := 0) (m := 0) (as := []) r hc hn b1 b2 s)
theorem os_put {h : QH} {n : Nat} (rs : RS h n) (hn : n < 1000) (d : Nat) (a1 a2 a3 : Int32) : Op (d + 120) 41 235 [qI a1, qI a2, qI a3] h (fun k => RS k (n + 1)) := by
  obtain ⟨W, c, T, r, hc, b1, b2⟩ := rs
  have o := op_put r.1.1 (d + 100) a1 a2 a3
  exact Op.mono o (fun k s => os_sim (D := 0) (k := 0) (m := 0) (as := []) r hc hn b1 b2 s)
theorem os_ring {h : QH} {n : Nat} (rs : RS h n) (hn : n < 1000) (d : Nat) (a1 a2 : Int32) : Op (d + 120) 44 246 [qI a1, qI a2] h (fun k => RS k (n + 1)) := by
  obtain ⟨W, c, T, r, hc, b1, b2⟩ := rs
  have o := op_ring r.1 d a1 a2
  exact Op.mono o (fun k s => os_sim (D := 0) (k := 0) (m := 0) (as := []) r hc hn b1 b2 s)
theorem os_row {h : QH} {n : Nat} (rs : RS h n) (hn : n < 1000) (d : Nat) (a1 : Int32) : Op (d + 120) 45 247 [qI a1] h (fun k => RS k (n + 1)) := by
  obtain ⟨W, c, T, r, hc, b1, b2⟩ := rs
  have o := op_row r.1.1 (d + 100) a1
  exact Op.mono o (fun k s => os_sim (D := 0) (k := 0) (m := 0) (as := []) r hc hn b1 b2 s)
theorem os_rule {h : QH} {n : Nat} (rs : RS h n) (hn : n < 1000) (d : Nat) (a1 a2 a3 : Int32) : Op (d + 120) 46 248 [qI a1, qI a2, qI a3] h (fun k => RS k (n + 1)) := by
  obtain ⟨W, c, T, r, hc, b1, b2⟩ := rs
  have o := op_rule r.1.1 (d + 100) a1 a2 a3
  exact Op.mono o (fun k s => os_sim (D := 0) (k := 0) (m := 0) (as := []) r hc hn b1 b2 s)
theorem os_show {h : QH} {n : Nat} (rs : RS h n) (hn : n < 1000) (d : Nat) (a1 a2 a3 a4 : Int32) : Op (d + 120) 48 249 [qI a1, qI a2, qI a3, qI a4] h (fun k => RS k (n + 1)) := by
  obtain ⟨W, c, T, r, hc, b1, b2⟩ := rs
  have o := op_show r.1.1 (d + 100) a1 a2 a3 a4
  exact Op.mono o (fun k s => os_sim (D := 0) (k := 0) (m := 0) (as := []) r hc hn b1 b2 s)
theorem os_slack {h : QH} {n : Nat} (rs : RS h n) (hn : n < 1000) (d : Nat) : Op (d + 120) 49 255 [] h (fun k => RS k (n + 1)) := by
  obtain ⟨W, c, T, r, hc, b1, b2⟩ := rs
  have o := op_slack r.1.1 (d + 100)
  exact Op.mono o (fun k s => os_sim (D := 0) (k := 0) (m := 0) (as := []) r hc hn b1 b2 s)
theorem os_soonest {h : QH} {n : Nat} (rs : RS h n) (hn : n < 1000) (d : Nat) (a1 : Int32) : Op (d + 120) 50 258 [qI a1] h (fun k => RS k (n + 1)) := by
  obtain ⟨W, c, T, r, hc, b1, b2⟩ := rs
  have o := op_soonest r.1.1 r.2.2.2.2.1 d a1
  exact Op.mono o (fun k s => os_rst (W := W) (T := T) hc b1 b2 (by omega) (R_Sp r s))
theorem os_spent {h : QH} {n : Nat} (rs : RS h n) (hn : n < 1000) (d : Nat) (a1 a2 : Int32) : Op (d + 120) 53 259 [qI a1, qI a2] h (fun k => RS k (n + 1)) := by
  obtain ⟨W, c, T, r, hc, b1, b2⟩ := rs
  have o := op_spent r.1 r.2.2.2.1 d a1 a2
  exact Op.mono o (fun k s => os_rst (W := W) (T := T) hc b1 b2 (by omega) (R_Plan r s))
theorem os_start {h : QH} {n : Nat} (rs : RS h n) (hn : n < 1000) (d : Nat) (a1 a2 : Int32) : Op (d + 120) 54 261 [qI a1, qI a2] h (fun k => RS k (n + 1)) := by
  obtain ⟨W, c, T, r, hc, b1, b2⟩ := rs
  have o := op_start r.1.1 r.2.2.2.2.1 d a1 a2
  exact Op.mono o (fun k s => os_rst (W := W) (T := T) hc b1 b2 (by omega) (R_Sp r s))
theorem os_status {h : QH} {n : Nat} (rs : RS h n) (hn : n < 1000) (d : Nat) : Op (d + 120) 55 262 [] h (fun k => RS k (n + 1)) := by
  obtain ⟨W, c, T, r, hc, b1, b2⟩ := rs
  have o := op_status r.1.1 (d + 100)
  exact Op.mono o (fun k s => os_sim (D := 0) (k := 0) (m := 0) (as := []) r hc hn b1 b2 s)
theorem os_talk {h : QH} {n : Nat} (rs : RS h n) (hn : n < 1000) (d : Nat) (a1 a2 : Int32) : Op (d + 120) 57 267 [qI a1, qI a2] h (fun k => RS k (n + 1)) := by
  obtain ⟨W, c, T, r, hc, b1, b2⟩ := rs
  have o := op_talk r.1.1 (d + 100) a1 a2
  exact Op.mono o (fun k s => os_sim (D := 0) (k := 0) (m := 0) (as := []) r hc hn b1 b2 s)
theorem os_talks {h : QH} {n : Nat} (rs : RS h n) (hn : n < 1000) (d : Nat) (a1 : Int32) : Op (d + 120) 58 268 [qI a1] h (fun k => RS k (n + 1)) := by
  obtain ⟨W, c, T, r, hc, b1, b2⟩ := rs
  have o := op_talks r.1.1 (d + 100) a1
  exact Op.mono o (fun k s => os_sim (D := 0) (k := 0) (m := 0) (as := []) r hc hn b1 b2 s)
theorem os_week {h : QH} {n : Nat} (rs : RS h n) (hn : n < 1000) (d : Nat) (a1 a2 : Int32) : Op (d + 120) 60 272 [qI a1, qI a2] h (fun k => RS k (n + 1)) := by
  obtain ⟨W, c, T, r, hc, b1, b2⟩ := rs
  have o := op_week r.1 d a1 a2
  exact Op.mono o (fun k s => s.elim (fun s => os_sim (D := 0) (k := 0) (m := 0) (as := []) r hc hn b1 b2 s) (fun s => os_rst (W := W) (T := T) hc b1 b2 (Nat.le_refl _) (R_Week r (by omega) s)))
theorem os_well {h : QH} {n : Nat} (rs : RS h n) (hn : n < 1000) (d : Nat) (a1 a2 a3 a4 : Int32) : Op (d + 120) 61 273 [qI a1, qI a2, qI a3, qI a4] h (fun k => RS k (n + 1)) := by
  obtain ⟨W, c, T, r, hc, b1, b2⟩ := rs
  have o := op_well r.1.1 (d + 100) a1 a2 a3 a4
  exact Op.mono o (fun k s => os_sim (D := 0) (k := 0) (m := 0) (as := []) r hc hn b1 b2 s)
theorem os_why {h : QH} {n : Nat} (rs : RS h n) (hn : n < 1000) (d : Nat) (a1 : Int32) : Op (d + 120) 62 274 [qI a1] h (fun k => RS k (n + 1)) := by
  obtain ⟨W, c, T, r, hc, b1, b2⟩ := rs
  have o := op_why r.1 r.2.2.2.1 d a1
  exact Op.mono o (fun k s => os_rst (W := W) (T := T) hc b1 b2 (by omega) (R_Plan r s))
theorem os_without {h : QH} {n : Nat} (rs : RS h n) (hn : n < 1000) (d : Nat) (a1 a2 : Int32) : Op (d + 120) 63 275 [qI a1, qI a2] h (fun k => RS k (n + 1)) := by
  obtain ⟨W, c, T, r, hc, b1, b2⟩ := rs
  have o := op_without r.1.1 r.2.2.2.2.1 d a1 a2
  exact Op.mono o (fun k s => os_rst (W := W) (T := T) hc b1 b2 (by omega) (R_Sp r s))
theorem os_wrong {h : QH} {n : Nat} (rs : RS h n) (hn : n < 1000) (d : Nat) (a1 a2 : Int32) : Op (d + 120) 64 277 [qI a1, qI a2] h (fun k => RS k (n + 1)) := by
  obtain ⟨W, c, T, r, hc, b1, b2⟩ := rs
  have o := op_wrong r.1.1 (d + 100) a1 a2
  exact Op.mono o (fun k s => os_sim (D := 0) (k := 0) (m := 0) (as := []) r hc hn b1 b2 s)

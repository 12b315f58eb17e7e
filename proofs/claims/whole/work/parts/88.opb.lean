/-! ===== small methods, by the picture ===== -/
def MM (h : QH) (W : Nat → Nat) : Prop := Sh h ∧ MK h W ∧ WI W
theorem MM.n8 {h : QH} {W : Nat → Nat} (M : MM h W) : W 408 ≤ 8 := M.2.2.1 408 (by decide) (by decide)
theorem MM.n5 {h : QH} {W : Nat → Nat} (M : MM h W) : W 409 ≤ 5 := M.2.2.1 409 (by decide) (by decide)
theorem MM.n60 {h : QH} {W : Nat → Nat} (M : MM h W) : W 410 ≤ 60 := M.2.2.1 410 (by decide) (by decide)
theorem MM.n6 {h : QH} {W : Nat → Nat} (M : MM h W) : W 411 ≤ 6 := M.2.2.1 411 (by decide) (by decide)
theorem MM.at {h : QH} {W : Nat → Nat} (M : MM h W) {j : Nat} (hj : j < 5220) (h4 : j ≠ 413) : hI h 58 j = nZ (W j) := M.2.1.at hj h4
theorem bnd_big (j : Nat) : bnd j < 2147483648 := by
  unfold bnd
  repeat' split
  all_goals decide
theorem MM.b {h : QH} {W : Nat → Nat} (M : MM h W) {j : Nat} (hj : j < 414) (h4 : j ≠ 412) : W j < 2147483648 := Nat.lt_of_le_of_lt (M.2.2.1 j hj h4) (bnd_big j)
theorem n232 {h : QH} {W : Nat → Nat} (M : MM h W) (d : Nat) : qcl (d + 1) 232 [qR (some 56)] h = some (some (qI (nZ (W 408))), h) := by
  rw [m232 M.1, M.at (by decide) (by decide)]
theorem n169 {h : QH} {W : Nat → Nat} (M : MM h W) (d : Nat) : qcl (d + 1) 169 [qR (some 56)] h = some (some (qI (nZ (W 409))), h) := by
  rw [m169 M.1, M.at (by decide) (by decide)]
theorem n203 {h : QH} {W : Nat → Nat} (M : MM h W) (d : Nat) (x : Int32) : qcl (d + 2) 203 [qR (some 56), qI x] h = some (some (qI (bI (ltN x (W 408)))), h) := m203 M.1 d _ x (M.at (by decide) (by decide)) M.n8
theorem n200 {h : QH} {W : Nat → Nat} (M : MM h W) (d : Nat) (x : Int32) : qcl (d + 2) 200 [qR (some 56), qI x] h = some (some (qI (bI (ltN x (W 409)))), h) := m200 M.1 d _ x (M.at (by decide) (by decide)) M.n5
theorem n227 {h : QH} {W : Nat → Nat} (M : MM h W) (d : Nat) {p f : Nat} (hp : p < 8) (hf : f < 4) : qcl (d + 1) 227 [qR (some 56), qI (nZ p), qI (nZ f)] h = some (some (qI (nZ (W (4 * p + f)))), h) := by
  rw [m227 M.1 d p f hp hf, M.at (by omega) (by omega)]
theorem n168 {h : QH} {W : Nat → Nat} (M : MM h W) (d : Nat) {a f : Nat} (hp : a < 5) (hf : f < 4) : qcl (d + 1) 168 [qR (some 56), qI (nZ a), qI (nZ f)] h = some (some (qI (nZ (W (40 + 4 * a + f)))), h) := by
  rw [m168 M.1 d a f hp hf, M.at (by omega) (by omega)]
theorem n212 {h : QH} {W : Nat → Nat} (M : MM h W) (d : Nat) {p a : Nat} (hp : p < 8) (ha : a < 5) : qcl (d + 1) 212 [qR (some 56), qI (nZ p), qI (nZ a)] h = some (some (qI (nZ (W (60 + 5 * p + a)))), h) := by
  rw [m212 M.1 d p a hp ha, M.at (by omega) (by omega)]
theorem n250 {h : QH} {W : Nat → Nat} (M : MM h W) (d : Nat) {s f : Nat} (hp : s < 60) (ha : f < 5) : qcl (d + 1) 250 [qR (some 56), qI (nZ s), qI (nZ f)] h = some (some (qI (nZ (W (100 + 5 * s + f)))), h) := by
  rw [m250 M.1 d s f hp ha, M.at (by omega) (by omega)]
theorem n223 {h : QH} {W : Nat → Nat} (M : MM h W) (d : Nat) {p k : Nat} (hp : p < 8) (hk : k < 32) : qcl (d + 2) 223 [qR (some 56), qI (nZ p), qI (nZ k)] h = some (some (qI (bI ((W (32 + p)).testBit k = true))), h) := m223 M.1 d p k _ hp hk (M.at (by omega) (by omega)) (M.b (by omega) (by omega))
theorem n201 {h : QH} {W : Nat → Nat} (M : MM h W) (d : Nat) {p k : Nat} (hp : p < 8) (hk : k < 32) : qcl (d + 2) 201 [qR (some 56), qI (nZ p), qI (nZ k)] h = some (some (qI (bI ((W (4 * p + 3)).testBit k = true))), h) := m201 M.1 d p k _ hp hk (M.at (by omega) (by omega)) (M.b (by omega) (by omega))
theorem n245 {h : QH} {W : Nat → Nat} (M : MM h W) (d : Nat) {j : Nat} (v : Int32) (hj : j < 5220) (h4 : j ≠ 413) : qcl (d + 2) 245 [qR (some 56), qI (nZ j), qI v] h = some (some (qI (nZ (W j))), okM' (hsI h 58 j v)) := by
  rw [m245 M.1 d j v hj, M.at hj h4]
theorem k79 {h : QH} {W : Nat → Nat} {c : Nat} {T : Nat → Nat} (K : K0 h W c T) (d : Nat) : qcl (d + 1) 79 [qR (some 12)] h = some (some (qI (nZ (2 ^ W 408 - 1))), h) := c79 K.sh d _ K.c12 K.n8
theorem k80 {h : QH} {W : Nat → Nat} {c : Nat} {T : Nat → Nat} (K : K0 h W c T) (d : Nat) (x : Int32) : qcl (d + 1) 80 [qR (some 12), qI x] h = some (some (qI (bI (ltN x (W 408)))), h) := c80 K.sh d _ x K.c12 K.n8
theorem k72 {h : QH} {W : Nat → Nat} {c : Nat} {T : Nat → Nat} (K : K0 h W c T) (d : Nat) (x : Int32) : qcl (d + 1) 72 [qR (some 17), qI x] h = some (some (qI (bI (ltN x (W 409)))), h) := c72 K.sh d _ x K.c17 K.n5
theorem k128 {h : QH} {W : Nat → Nat} {c : Nat} {T : Nat → Nat} (K : K0 h W c T) (d : Nat) (x : Int32) : qcl (d + 1) 128 [qR (some 19), qI x] h = some (some (qI (bI (ltN x (W 410)))), h) := c128 K.sh d _ x K.c19 K.n60
theorem k161 {h : QH} {W : Nat → Nat} {c : Nat} {T : Nat → Nat} (K : K0 h W c T) (d : Nat) (x y : Int32) : qcl (d + 2) 161 [qR (some 11), qI x, qI y] h = some (some (qI (bI (ltN x (W 408) ∧ ltN y (W 409)))), h) := c161 K.sh d _ _ x y K.c12 K.n8 K.c17 K.n5
theorem k88 {h : QH} {W : Nat → Nat} {c : Nat} {T : Nat → Nat} (K : K0 h W c T) (d : Nat) {p f : Nat} (hp : p < 8) (hf : f < 4) : qcl (d + 1) 88 [qR (some 12), qI (nZ p), qI (nZ f)] h = some (some (qI (nZ (W (4 * p + f)))), h) := by
  rw [c88 K.sh d p f hp hf, K.tr hp hf]
theorem k71 {h : QH} {W : Nat → Nat} {c : Nat} {T : Nat → Nat} (K : K0 h W c T) (d : Nat) {a f : Nat} (hp : a < 5) (hf : f < 4) : qcl (d + 1) 71 [qR (some 17), qI (nZ a), qI (nZ f)] h = some (some (qI (nZ (W (40 + 4 * a + f)))), h) := by
  rw [c71 K.sh d a f hp hf, K.ru hp hf]
theorem k82 {h : QH} {W : Nat → Nat} {c : Nat} {T : Nat → Nat} (K : K0 h W c T) (d : Nat) {p a : Nat} (hp : p < 8) (ha : a < 5) : qcl (d + 2) 82 [qR (some 12), qI (nZ p), qI (nZ a)] h = some (some (qI (nZ (W (60 + 5 * p + a)))), h) := by
  rw [c82 K.sh d p a hp ha, K.kn (by omega), show 60 + (p * 5 + a) = 60 + 5 * p + a by omega]
theorem k76 {h : QH} {W : Nat → Nat} {c : Nat} {T : Nat → Nat} (K : K0 h W c T) (d : Nat) {p f : Nat} (v : Int32) (hp : p < 8) (hf : f < 4) : qcl (d + 2) 76 [qR (some 12), qI (nZ p), qI (nZ f), qI v] h = some (some (qI (nZ (W (4 * p + f)))), hsI h 13 (f * 8 + p) v) := by
  rw [c76 K.sh d p f v hp hf, K.tr hp hf]
theorem k67 {h : QH} {W : Nat → Nat} {c : Nat} {T : Nat → Nat} (K : K0 h W c T) (d : Nat) {a f : Nat} (v : Int32) (hp : a < 5) (hf : f < 4) : qcl (d + 2) 67 [qR (some 17), qI (nZ a), qI (nZ f), qI v] h = some (some (qI (nZ (W (40 + 4 * a + f)))), hsI h 18 (f * 5 + a) v) := by
  rw [c67 K.sh d a f v hp hf, K.ru hp hf]
theorem k85 {h : QH} {W : Nat → Nat} {c : Nat} {T : Nat → Nat} (K : K0 h W c T) (d : Nat) {p a : Nat} (v : Int32) (hp : p < 8) (ha : a < 5) : qcl (d + 3) 85 [qR (some 12), qI (nZ p), qI (nZ a), qI v] h = some (some (qI (nZ (W (60 + 5 * p + a)))), hsI h 16 (p * 5 + a) v) := by
  rw [c85 K.sh d p a v hp ha, K.kn (by omega), show 60 + (p * 5 + a) = 60 + 5 * p + a by omega]
/-- a number out of a range -/
theorem out_c {x : Int32} {lo hi : Nat} (h : ¬inR x lo hi) (h1 : lo < 2147483648) (h2 : hi < 2147483648) : (x < nZ lo) = True ∨ ((x < nZ lo) = False ∧ (nZ hi < x) = True) := by
  rw [lt_nZ h1, nZ_lt' h2]
  unfold inR at h
  by_cases e : x.toInt < (lo : Int)
  · exact Or.inl (eq_true e)
  · exact Or.inr ⟨eq_false e, eq_true (by omega)⟩
theorem out_ne {x : Int32} {lo hi : Nat} (h : ¬inR x lo hi) (k : Nat) (h1 : lo ≤ k) (h2 : k ≤ hi) (h3 : k < 2147483648) : (x = nZ k) = False := eq_false (by
  intro e
  rw [e] at h
  rw [inR_n h3] at h
  exact h ⟨h1, h2⟩)
theorem Sim_id {h : QH} {W : Nat → Nat} {c : Nat} {T : Nat → Nat} (K : K0 h W c T) : Sim h h W c T := ⟨W, c, T, K, Fr.refl, fun _ _ => rfl, rfl, Or.inl ⟨rfl, rfl⟩⟩
theorem Sim_mk {h k : QH} {W : Nat → Nat} {c : Nat} {T W' T' : Nat → Nat} (K : K0 h W c T) (F : Fr sC h k) (wi : WI W') (mk : MK k W') (cp : CP k 11 W') (ca : CA k 11 W') (cs : CS k 11 W') (cf : CF k 11 W') (ch : hI k 10 10 = nZ (c + 1)) (vs : hI k 56 1 = nZ (c + 1)) (km : KM k) (kt : KT k T') (hi : ∀ j, 414 ≤ j → W' j = W j) (h411 : W' 411 = W 411) : Sim h k W c T := ⟨W', c + 1, T', ⟨F.Sh K.sh, F.Ro sC_lo K.ro, wi, mk, ⟨cp, ca, cs, cf⟩, ⟨ch, vs⟩, km, kt⟩, F, hi, h411, Or.inr rfl⟩

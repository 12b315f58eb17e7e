/-! ===== the cells that the constructors make: 10 the object, 56 the reference ===== -/
def shT (k : Nat) : Nat × Nat := if k < 10 then qroS 0 k else ([(27, 14), (26, 6), (18, 6), (0, 32), (0, 8), (0, 8), (0, 40), (16, 2), (0, 20), (21, 6), (0, 60), (0, 60), (0, 60), (0, 60), (0, 60), (5, 6), (4, 2), (23, 2), (0, 400), (20, 15), (0, 0), (3, 90), (3, 12), (0, 12), (0, 12), (0, 412), (24, 3), (0, 9), (0, 52), (0, 4), (19, 5), (0, 1240), (0, 1240), (0, 240), (0, 60), (22, 13), (0, 31), (0, 8), (0, 30), (2, 256), (0, 256), (0, 256), (25, 5), (0, 64), (0, 5), (0, 10), (28, 45), (0, 7), (0, 5220), (0, 10440), (2, 2), (1, 90), (1, 400), (0, 5), (0, 401), (0, 401), (0, 401), (0, 9), (0, 40), (0, 40), (2, 40), (2, 40), (0, 8), (0, 60), (0, 7936), (2, 7936), (0, 256), (0, 10), (0, 56)] : List (Nat × Nat)).getD (k - 10) (0, 0)
def shR : List (Nat × Nat × Nat) := [(10, 0, 11), (10, 1, 26), (10, 2, 27), (10, 3, 29), (10, 4, 36), (10, 5, 40), (10, 6, 45), (10, 7, 52), (10, 8, 54), (10, 9, 55), (11, 0, 12), (11, 1, 17), (11, 2, 19), (11, 3, 25), (12, 2, 13), (12, 3, 14), (12, 4, 15), (12, 5, 16), (17, 1, 18), (19, 1, 20), (19, 2, 21), (19, 3, 22), (19, 4, 23), (19, 5, 24), (27, 1, 28), (29, 10, 31), (29, 11, 32), (29, 12, 33), (29, 13, 34), (29, 14, 35), (36, 0, 37), (36, 1, 38), (36, 2, 39), (40, 0, 41), (40, 1, 42), (40, 2, 43), (40, 3, 44), (45, 1, 46), (45, 8, 47), (45, 9, 48), (45, 10, 49), (45, 11, 50), (45, 12, 51), (52, 3, 53), (56, 2, 57), (56, 3, 58), (56, 4, 59), (56, 5, 60), (56, 7, 61), (56, 8, 62), (56, 9, 63), (56, 12, 64), (56, 13, 65), (56, 14, 66), (56, 22, 67), (56, 23, 68), (56, 24, 69), (56, 25, 70), (56, 26, 71), (56, 27, 72), (56, 32, 73), (56, 33, 74), (56, 34, 75), (56, 39, 76), (56, 40, 77), (56, 41, 78)]
def Sh (h : QH) : Prop := 79 ≤ hN h ∧ (∀ k, k < 79 → k ≠ 9 → h.2.2.1 k = shT k) ∧ ∀ q ∈ shR, hR h q.1 q.2.1 = some q.2.2
theorem Sh_si {h : QH} {a i : Nat} {v : Int32} : Sh (hsI h a i v) ↔ Sh h := Iff.rfl
theorem hI_si {h : QH} {a i : Nat} {v : Int32} {b j : Nat} : hI (hsI h a i v) b j = if b = a ∧ j = i then v else hI h b j := rfl
theorem hN_si {h : QH} {a i : Nat} {v : Int32} : hN (hsI h a i v) = hN h := rfl
theorem hS_si {h : QH} {a i : Nat} {v : Int32} : hS (hsI h a i v) = hS h := rfl
theorem hR_si {h : QH} {a i : Nat} {v : Int32} {b j : Nat} : hR (hsI h a i v) b j = hR h b j := rfl
theorem Sh.n {h : QH} (H : Sh h) {a : Nat} (ha : a < 79) : a < hN h := Nat.lt_of_lt_of_le ha H.1
theorem Sh.t {h : QH} (H : Sh h) {a t n : Nat} (ha : a < 79) (h9 : a ≠ 9) (e : shT a = (t, n)) : hT h a = t := by
  show (h.2.2.1 a).1 = t
  rw [H.2.1 a ha h9, e]
theorem Sh.l {h : QH} (H : Sh h) {a t n : Nat} (ha : a < 79) (h9 : a ≠ 9) (e : shT a = (t, n)) : hL h a = n := by
  show (h.2.2.1 a).2 = n
  rw [H.2.1 a ha h9, e]
theorem Sh.ck {h : QH} (H : Sh h) {a c n : Nat} (ha : a < 79) (h9 : a ≠ 9) (e : shT a = (16 + c, n)) : qck c a h = some () := if_pos ⟨H.n ha, Or.inr (H.t ha h9 e)⟩
theorem Sh.gr {h : QH} (H : Sh h) {a c n k b : Nat} (ha : a < 79) (h9 : a ≠ 9) (e : shT a = (16 + c, n)) (hk : k < n) (hr : (a, k, b) ∈ shR) : qgr c k a h = some (some b) := by
  have h1 := H.2.2 _ hr
  unfold qgr
  rw [if_pos ⟨H.n ha, H.t ha h9 e, by rw [H.l ha h9 e]; exact hk⟩]
  exact congrArg some h1
theorem Sh.gx {h : QH} (H : Sh h) {a c n k : Nat} (ha : a < 79) (h9 : a ≠ 9) (e : shT a = (16 + c, n)) (hk : k < n) : qgr c k a h = some (hR h a k) := if_pos ⟨H.n ha, H.t ha h9 e, by rw [H.l ha h9 e]; exact hk⟩
theorem Sh.gi {h : QH} (H : Sh h) {a c n k : Nat} (ha : a < 79) (h9 : a ≠ 9) (e : shT a = (16 + c, n)) (hk : k < n) : qgi c k a h = some (hI h a k) := if_pos ⟨H.n ha, H.t ha h9 e, by rw [H.l ha h9 e]; exact hk⟩
theorem Sh.pi {h : QH} (H : Sh h) {a c n k : Nat} (h10 : 10 ≤ a) (ha : a < 79) (h9 : a ≠ 9) (e : shT a = (16 + c, n)) (hk : k < n) (v : Int32) : qpi c k a v h = some (hsI h a k v) := if_pos ⟨⟨h10, H.n ha⟩, H.t ha h9 e, by rw [H.l ha h9 e]; exact hk⟩
theorem Sh.pz {h : QH} (H : Sh h) {a c n k : Nat} (h10 : 10 ≤ a) (ha : a < 79) (h9 : a ≠ 9) (e : shT a = (16 + c, n)) (hk : k < n) (v : Int32) : qpz c k a v h = if v = 0 ∨ v = 1 then some (hsI h a k v) else none := by
  unfold qpz
  by_cases hv : v = 0 ∨ v = 1
  · rw [if_pos ⟨⟨h10, H.n ha⟩, H.t ha h9 e, by rw [H.l ha h9 e]; exact hk, hv⟩, if_pos hv]
  · rw [if_neg (fun z => hv z.2.2.2), if_neg hv]
theorem Sh.ai {h : QH} (H : Sh h) {a t n : Nat} (ha : a < 79) (h9 : a ≠ 9) (e : shT a = (t, n)) (i : Int32) : qai t a i h = if 0 ≤ i ∧ i.toNatClampNeg < n then some (hI h a i.toNatClampNeg) else none := by
  unfold qai
  rw [H.t ha h9 e, H.l ha h9 e]
  by_cases hv : 0 ≤ i ∧ i.toNatClampNeg < n
  · rw [if_pos ⟨H.n ha, rfl, hv⟩, if_pos hv]
  · rw [if_neg (fun z => hv z.2.2), if_neg hv]
theorem Sh.ss {h : QH} (H : Sh h) {a t n : Nat} (h10 : 10 ≤ a) (ha : a < 79) (h9 : a ≠ 9) (e : shT a = (t, n)) (i v : Int32) : qsi t a i v h = if 0 ≤ i ∧ i.toNatClampNeg < n then some (hsI h a i.toNatClampNeg v) else none := by
  unfold qsi
  rw [H.t ha h9 e, H.l ha h9 e]
  by_cases hv : 0 ≤ i ∧ i.toNatClampNeg < n
  · rw [if_pos ⟨⟨h10, H.n ha⟩, rfl, hv⟩, if_pos hv]
  · rw [if_neg (fun z => hv z.2.2), if_neg hv]
theorem Sh.al {h : QH} (H : Sh h) {a t n : Nat} (ha : a < 79) (h9 : a ≠ 9) (e : shT a = (t, n)) (ht : t < 6) : qal a h = some (Int32.ofNat n) := by
  unfold qal
  rw [H.t ha h9 e, H.l ha h9 e, if_pos ⟨H.n ha, ht⟩]
theorem Sh.arr {h : QH} (H : Sh h) {a t n : Nat} (h10 : 10 ≤ a) (ha : a < 79) (h9 : a ≠ 9) (e : shT a = (t, n)) (ht : t = 4 ∨ t = 5) (i : Int32) : qar a i h = if 0 ≤ i ∧ i.toNatClampNeg < n then some (hR h a i.toNatClampNeg) else none := by
  unfold qar
  rw [H.t ha h9 e, H.l ha h9 e]
  by_cases hv : 0 ≤ i ∧ i.toNatClampNeg < n
  · rw [if_pos ⟨⟨h10, H.n ha⟩, ht, hv⟩, if_pos hv]
  · rw [if_neg (fun z => hv z.2.2), if_neg hv]
theorem a0 {h : QH} (H : Sh h) (i : Int32) : qai 0 0 i h = if 0 ≤ i ∧ i.toNatClampNeg < 4 then some (hI h 0 i.toNatClampNeg) else none := H.ai (by decide) (by decide) rfl i
theorem l0 {h : QH} (H : Sh h) : qal 0 h = some 4 := H.al (by decide) (by decide) rfl (by decide)
theorem a1 {h : QH} (H : Sh h) (i : Int32) : qai 0 1 i h = if 0 ≤ i ∧ i.toNatClampNeg < 4 then some (hI h 1 i.toNatClampNeg) else none := H.ai (by decide) (by decide) rfl i
theorem l1 {h : QH} (H : Sh h) : qal 1 h = some 4 := H.al (by decide) (by decide) rfl (by decide)
theorem a2 {h : QH} (H : Sh h) (i : Int32) : qai 0 2 i h = if 0 ≤ i ∧ i.toNatClampNeg < 4 then some (hI h 2 i.toNatClampNeg) else none := H.ai (by decide) (by decide) rfl i
theorem l2 {h : QH} (H : Sh h) : qal 2 h = some 4 := H.al (by decide) (by decide) rfl (by decide)
theorem a3 {h : QH} (H : Sh h) (i : Int32) : qai 0 3 i h = if 0 ≤ i ∧ i.toNatClampNeg < 4 then some (hI h 3 i.toNatClampNeg) else none := H.ai (by decide) (by decide) rfl i
theorem l3 {h : QH} (H : Sh h) : qal 3 h = some 4 := H.al (by decide) (by decide) rfl (by decide)
theorem a4 {h : QH} (H : Sh h) (i : Int32) : qai 0 4 i h = if 0 ≤ i ∧ i.toNatClampNeg < 4 then some (hI h 4 i.toNatClampNeg) else none := H.ai (by decide) (by decide) rfl i
theorem l4 {h : QH} (H : Sh h) : qal 4 h = some 4 := H.al (by decide) (by decide) rfl (by decide)
theorem a7 {h : QH} (H : Sh h) (i : Int32) : qai 1 7 i h = if 0 ≤ i ∧ i.toNatClampNeg < 90 then some (hI h 7 i.toNatClampNeg) else none := H.ai (by decide) (by decide) rfl i
theorem l7 {h : QH} (H : Sh h) : qal 7 h = some 90 := H.al (by decide) (by decide) rfl (by decide)
theorem a8 {h : QH} (H : Sh h) (i : Int32) : qai 1 8 i h = if 0 ≤ i ∧ i.toNatClampNeg < 12 then some (hI h 8 i.toNatClampNeg) else none := H.ai (by decide) (by decide) rfl i
theorem l8 {h : QH} (H : Sh h) : qal 8 h = some 12 := H.al (by decide) (by decide) rfl (by decide)
theorem ck10 {h : QH} (H : Sh h) : qck 11 10 h = some () := H.ck (by decide) (by decide) rfl
theorem g10_0 {h : QH} (H : Sh h) : qgr 11 0 10 h = some (some 11) := H.gr (by decide) (by decide) rfl (by decide) (by decide)
theorem g10_1 {h : QH} (H : Sh h) : qgr 11 1 10 h = some (some 26) := H.gr (by decide) (by decide) rfl (by decide) (by decide)
theorem g10_2 {h : QH} (H : Sh h) : qgr 11 2 10 h = some (some 27) := H.gr (by decide) (by decide) rfl (by decide) (by decide)
theorem g10_3 {h : QH} (H : Sh h) : qgr 11 3 10 h = some (some 29) := H.gr (by decide) (by decide) rfl (by decide) (by decide)
theorem g10_4 {h : QH} (H : Sh h) : qgr 11 4 10 h = some (some 36) := H.gr (by decide) (by decide) rfl (by decide) (by decide)
theorem g10_5 {h : QH} (H : Sh h) : qgr 11 5 10 h = some (some 40) := H.gr (by decide) (by decide) rfl (by decide) (by decide)
theorem g10_6 {h : QH} (H : Sh h) : qgr 11 6 10 h = some (some 45) := H.gr (by decide) (by decide) rfl (by decide) (by decide)
theorem g10_7 {h : QH} (H : Sh h) : qgr 11 7 10 h = some (some 52) := H.gr (by decide) (by decide) rfl (by decide) (by decide)
theorem g10_8 {h : QH} (H : Sh h) : qgr 11 8 10 h = some (some 54) := H.gr (by decide) (by decide) rfl (by decide) (by decide)
theorem g10_9 {h : QH} (H : Sh h) : qgr 11 9 10 h = some (some 55) := H.gr (by decide) (by decide) rfl (by decide) (by decide)
theorem g10_10 {h : QH} (H : Sh h) : qgi 11 10 10 h = some (hI h 10 10) := H.gi (by decide) (by decide) rfl (by decide)
theorem p10_10 {h : QH} (H : Sh h) (v : Int32) : qpi 11 10 10 v h = some (hsI h 10 10 v) := H.pi (by decide) (by decide) (by decide) rfl (by decide) v
theorem g10_11 {h : QH} (H : Sh h) : qgi 11 11 10 h = some (hI h 10 11) := H.gi (by decide) (by decide) rfl (by decide)
theorem p10_11 {h : QH} (H : Sh h) (v : Int32) : qpi 11 11 10 v h = some (hsI h 10 11 v) := H.pi (by decide) (by decide) (by decide) rfl (by decide) v
theorem g10_12 {h : QH} (H : Sh h) : qgi 11 12 10 h = some (hI h 10 12) := H.gi (by decide) (by decide) rfl (by decide)
theorem p10_12 {h : QH} (H : Sh h) (v : Int32) : qpi 11 12 10 v h = some (hsI h 10 12 v) := H.pi (by decide) (by decide) (by decide) rfl (by decide) v
theorem g10_13 {h : QH} (H : Sh h) : qgi 11 13 10 h = some (hI h 10 13) := H.gi (by decide) (by decide) rfl (by decide)
theorem p10_13 {h : QH} (H : Sh h) (v : Int32) : qpi 11 13 10 v h = some (hsI h 10 13 v) := H.pi (by decide) (by decide) (by decide) rfl (by decide) v
theorem ck11 {h : QH} (H : Sh h) : qck 10 11 h = some () := H.ck (by decide) (by decide) rfl
theorem g11_0 {h : QH} (H : Sh h) : qgr 10 0 11 h = some (some 12) := H.gr (by decide) (by decide) rfl (by decide) (by decide)
theorem g11_1 {h : QH} (H : Sh h) : qgr 10 1 11 h = some (some 17) := H.gr (by decide) (by decide) rfl (by decide) (by decide)
theorem g11_2 {h : QH} (H : Sh h) : qgr 10 2 11 h = some (some 19) := H.gr (by decide) (by decide) rfl (by decide) (by decide)
theorem g11_3 {h : QH} (H : Sh h) : qgr 10 3 11 h = some (some 25) := H.gr (by decide) (by decide) rfl (by decide) (by decide)
theorem g11_4 {h : QH} (H : Sh h) : qgi 10 4 11 h = some (hI h 11 4) := H.gi (by decide) (by decide) rfl (by decide)
theorem p11_4 {h : QH} (H : Sh h) (v : Int32) : qpi 10 4 11 v h = some (hsI h 11 4 v) := H.pi (by decide) (by decide) (by decide) rfl (by decide) v
theorem g11_5 {h : QH} (H : Sh h) : qgi 10 5 11 h = some (hI h 11 5) := H.gi (by decide) (by decide) rfl (by decide)
theorem p11_5 {h : QH} (H : Sh h) (v : Int32) : qpi 10 5 11 v h = some (hsI h 11 5 v) := H.pi (by decide) (by decide) (by decide) rfl (by decide) v
theorem ck12 {h : QH} (H : Sh h) : qck 2 12 h = some () := H.ck (by decide) (by decide) rfl
theorem g12_0 {h : QH} (H : Sh h) : qgi 2 0 12 h = some (hI h 12 0) := H.gi (by decide) (by decide) rfl (by decide)
theorem p12_0 {h : QH} (H : Sh h) (v : Int32) : qpi 2 0 12 v h = some (hsI h 12 0 v) := H.pi (by decide) (by decide) (by decide) rfl (by decide) v
theorem g12_1 {h : QH} (H : Sh h) : qgi 2 1 12 h = some (hI h 12 1) := H.gi (by decide) (by decide) rfl (by decide)
theorem p12_1 {h : QH} (H : Sh h) (v : Int32) : qpi 2 1 12 v h = some (hsI h 12 1 v) := H.pi (by decide) (by decide) (by decide) rfl (by decide) v
theorem g12_2 {h : QH} (H : Sh h) : qgr 2 2 12 h = some (some 13) := H.gr (by decide) (by decide) rfl (by decide) (by decide)
theorem g12_3 {h : QH} (H : Sh h) : qgr 2 3 12 h = some (some 14) := H.gr (by decide) (by decide) rfl (by decide) (by decide)
theorem g12_4 {h : QH} (H : Sh h) : qgr 2 4 12 h = some (some 15) := H.gr (by decide) (by decide) rfl (by decide) (by decide)
theorem g12_5 {h : QH} (H : Sh h) : qgr 2 5 12 h = some (some 16) := H.gr (by decide) (by decide) rfl (by decide) (by decide)
theorem a13 {h : QH} (H : Sh h) (i : Int32) : qai 0 13 i h = if 0 ≤ i ∧ i.toNatClampNeg < 32 then some (hI h 13 i.toNatClampNeg) else none := H.ai (by decide) (by decide) rfl i
theorem s13 {h : QH} (H : Sh h) (i v : Int32) : qsi 0 13 i v h = if 0 ≤ i ∧ i.toNatClampNeg < 32 then some (hsI h 13 i.toNatClampNeg v) else none := H.ss (by decide) (by decide) (by decide) rfl i v
theorem l13 {h : QH} (H : Sh h) : qal 13 h = some 32 := H.al (by decide) (by decide) rfl (by decide)
theorem a14 {h : QH} (H : Sh h) (i : Int32) : qai 0 14 i h = if 0 ≤ i ∧ i.toNatClampNeg < 8 then some (hI h 14 i.toNatClampNeg) else none := H.ai (by decide) (by decide) rfl i
theorem s14 {h : QH} (H : Sh h) (i v : Int32) : qsi 0 14 i v h = if 0 ≤ i ∧ i.toNatClampNeg < 8 then some (hsI h 14 i.toNatClampNeg v) else none := H.ss (by decide) (by decide) (by decide) rfl i v
theorem l14 {h : QH} (H : Sh h) : qal 14 h = some 8 := H.al (by decide) (by decide) rfl (by decide)
theorem a15 {h : QH} (H : Sh h) (i : Int32) : qai 0 15 i h = if 0 ≤ i ∧ i.toNatClampNeg < 8 then some (hI h 15 i.toNatClampNeg) else none := H.ai (by decide) (by decide) rfl i
theorem s15 {h : QH} (H : Sh h) (i v : Int32) : qsi 0 15 i v h = if 0 ≤ i ∧ i.toNatClampNeg < 8 then some (hsI h 15 i.toNatClampNeg v) else none := H.ss (by decide) (by decide) (by decide) rfl i v
theorem l15 {h : QH} (H : Sh h) : qal 15 h = some 8 := H.al (by decide) (by decide) rfl (by decide)
theorem a16 {h : QH} (H : Sh h) (i : Int32) : qai 0 16 i h = if 0 ≤ i ∧ i.toNatClampNeg < 40 then some (hI h 16 i.toNatClampNeg) else none := H.ai (by decide) (by decide) rfl i
theorem s16 {h : QH} (H : Sh h) (i v : Int32) : qsi 0 16 i v h = if 0 ≤ i ∧ i.toNatClampNeg < 40 then some (hsI h 16 i.toNatClampNeg v) else none := H.ss (by decide) (by decide) (by decide) rfl i v
theorem l16 {h : QH} (H : Sh h) : qal 16 h = some 40 := H.al (by decide) (by decide) rfl (by decide)
theorem ck17 {h : QH} (H : Sh h) : qck 0 17 h = some () := H.ck (by decide) (by decide) rfl
theorem g17_0 {h : QH} (H : Sh h) : qgi 0 0 17 h = some (hI h 17 0) := H.gi (by decide) (by decide) rfl (by decide)
theorem p17_0 {h : QH} (H : Sh h) (v : Int32) : qpi 0 0 17 v h = some (hsI h 17 0 v) := H.pi (by decide) (by decide) (by decide) rfl (by decide) v
theorem g17_1 {h : QH} (H : Sh h) : qgr 0 1 17 h = some (some 18) := H.gr (by decide) (by decide) rfl (by decide) (by decide)
theorem a18 {h : QH} (H : Sh h) (i : Int32) : qai 0 18 i h = if 0 ≤ i ∧ i.toNatClampNeg < 20 then some (hI h 18 i.toNatClampNeg) else none := H.ai (by decide) (by decide) rfl i
theorem s18 {h : QH} (H : Sh h) (i v : Int32) : qsi 0 18 i v h = if 0 ≤ i ∧ i.toNatClampNeg < 20 then some (hsI h 18 i.toNatClampNeg v) else none := H.ss (by decide) (by decide) (by decide) rfl i v
theorem l18 {h : QH} (H : Sh h) : qal 18 h = some 20 := H.al (by decide) (by decide) rfl (by decide)
theorem ck19 {h : QH} (H : Sh h) : qck 5 19 h = some () := H.ck (by decide) (by decide) rfl
theorem g19_0 {h : QH} (H : Sh h) : qgi 5 0 19 h = some (hI h 19 0) := H.gi (by decide) (by decide) rfl (by decide)
theorem p19_0 {h : QH} (H : Sh h) (v : Int32) : qpi 5 0 19 v h = some (hsI h 19 0 v) := H.pi (by decide) (by decide) (by decide) rfl (by decide) v
theorem g19_1 {h : QH} (H : Sh h) : qgr 5 1 19 h = some (some 20) := H.gr (by decide) (by decide) rfl (by decide) (by decide)
theorem g19_2 {h : QH} (H : Sh h) : qgr 5 2 19 h = some (some 21) := H.gr (by decide) (by decide) rfl (by decide) (by decide)
theorem g19_3 {h : QH} (H : Sh h) : qgr 5 3 19 h = some (some 22) := H.gr (by decide) (by decide) rfl (by decide) (by decide)
theorem g19_4 {h : QH} (H : Sh h) : qgr 5 4 19 h = some (some 23) := H.gr (by decide) (by decide) rfl (by decide) (by decide)
theorem g19_5 {h : QH} (H : Sh h) : qgr 5 5 19 h = some (some 24) := H.gr (by decide) (by decide) rfl (by decide) (by decide)
theorem a20 {h : QH} (H : Sh h) (i : Int32) : qai 0 20 i h = if 0 ≤ i ∧ i.toNatClampNeg < 60 then some (hI h 20 i.toNatClampNeg) else none := H.ai (by decide) (by decide) rfl i
theorem s20 {h : QH} (H : Sh h) (i v : Int32) : qsi 0 20 i v h = if 0 ≤ i ∧ i.toNatClampNeg < 60 then some (hsI h 20 i.toNatClampNeg v) else none := H.ss (by decide) (by decide) (by decide) rfl i v
theorem l20 {h : QH} (H : Sh h) : qal 20 h = some 60 := H.al (by decide) (by decide) rfl (by decide)
theorem a21 {h : QH} (H : Sh h) (i : Int32) : qai 0 21 i h = if 0 ≤ i ∧ i.toNatClampNeg < 60 then some (hI h 21 i.toNatClampNeg) else none := H.ai (by decide) (by decide) rfl i
theorem s21 {h : QH} (H : Sh h) (i v : Int32) : qsi 0 21 i v h = if 0 ≤ i ∧ i.toNatClampNeg < 60 then some (hsI h 21 i.toNatClampNeg v) else none := H.ss (by decide) (by decide) (by decide) rfl i v
theorem l21 {h : QH} (H : Sh h) : qal 21 h = some 60 := H.al (by decide) (by decide) rfl (by decide)
theorem a22 {h : QH} (H : Sh h) (i : Int32) : qai 0 22 i h = if 0 ≤ i ∧ i.toNatClampNeg < 60 then some (hI h 22 i.toNatClampNeg) else none := H.ai (by decide) (by decide) rfl i
theorem s22 {h : QH} (H : Sh h) (i v : Int32) : qsi 0 22 i v h = if 0 ≤ i ∧ i.toNatClampNeg < 60 then some (hsI h 22 i.toNatClampNeg v) else none := H.ss (by decide) (by decide) (by decide) rfl i v
theorem l22 {h : QH} (H : Sh h) : qal 22 h = some 60 := H.al (by decide) (by decide) rfl (by decide)
theorem a23 {h : QH} (H : Sh h) (i : Int32) : qai 0 23 i h = if 0 ≤ i ∧ i.toNatClampNeg < 60 then some (hI h 23 i.toNatClampNeg) else none := H.ai (by decide) (by decide) rfl i
theorem s23 {h : QH} (H : Sh h) (i v : Int32) : qsi 0 23 i v h = if 0 ≤ i ∧ i.toNatClampNeg < 60 then some (hsI h 23 i.toNatClampNeg v) else none := H.ss (by decide) (by decide) (by decide) rfl i v
theorem l23 {h : QH} (H : Sh h) : qal 23 h = some 60 := H.al (by decide) (by decide) rfl (by decide)
theorem a24 {h : QH} (H : Sh h) (i : Int32) : qai 0 24 i h = if 0 ≤ i ∧ i.toNatClampNeg < 60 then some (hI h 24 i.toNatClampNeg) else none := H.ai (by decide) (by decide) rfl i
theorem s24 {h : QH} (H : Sh h) (i v : Int32) : qsi 0 24 i v h = if 0 ≤ i ∧ i.toNatClampNeg < 60 then some (hsI h 24 i.toNatClampNeg v) else none := H.ss (by decide) (by decide) (by decide) rfl i v
theorem l24 {h : QH} (H : Sh h) : qal 24 h = some 60 := H.al (by decide) (by decide) rfl (by decide)
theorem r25 {h : QH} (H : Sh h) (i : Int32) : qar 25 i h = if 0 ≤ i ∧ i.toNatClampNeg < 6 then some (hR h 25 i.toNatClampNeg) else none := H.arr (by decide) (by decide) (by decide) rfl (by decide) i
theorem r26 {h : QH} (H : Sh h) (i : Int32) : qar 26 i h = if 0 ≤ i ∧ i.toNatClampNeg < 2 then some (hR h 26 i.toNatClampNeg) else none := H.arr (by decide) (by decide) (by decide) rfl (by decide) i
theorem ck27 {h : QH} (H : Sh h) : qck 7 27 h = some () := H.ck (by decide) (by decide) rfl
theorem g27_0 {h : QH} (H : Sh h) : qgi 7 0 27 h = some (hI h 27 0) := H.gi (by decide) (by decide) rfl (by decide)
theorem p27_0 {h : QH} (H : Sh h) (v : Int32) : qpi 7 0 27 v h = some (hsI h 27 0 v) := H.pi (by decide) (by decide) (by decide) rfl (by decide) v
theorem g27_1 {h : QH} (H : Sh h) : qgr 7 1 27 h = some (some 28) := H.gr (by decide) (by decide) rfl (by decide) (by decide)
theorem a28 {h : QH} (H : Sh h) (i : Int32) : qai 0 28 i h = if 0 ≤ i ∧ i.toNatClampNeg < 400 then some (hI h 28 i.toNatClampNeg) else none := H.ai (by decide) (by decide) rfl i
theorem s28 {h : QH} (H : Sh h) (i v : Int32) : qsi 0 28 i v h = if 0 ≤ i ∧ i.toNatClampNeg < 400 then some (hsI h 28 i.toNatClampNeg v) else none := H.ss (by decide) (by decide) (by decide) rfl i v
theorem l28 {h : QH} (H : Sh h) : qal 28 h = some 400 := H.al (by decide) (by decide) rfl (by decide)
theorem ck29 {h : QH} (H : Sh h) : qck 4 29 h = some () := H.ck (by decide) (by decide) rfl
theorem g29_0 {h : QH} (H : Sh h) : qgi 4 0 29 h = some (hI h 29 0) := H.gi (by decide) (by decide) rfl (by decide)
theorem p29_0 {h : QH} (H : Sh h) (v : Int32) : qpi 4 0 29 v h = some (hsI h 29 0 v) := H.pi (by decide) (by decide) (by decide) rfl (by decide) v
theorem g29_1 {h : QH} (H : Sh h) : qgr 4 1 29 h = some (hR h 29 1) := H.gx (by decide) (by decide) rfl (by decide)
theorem g29_2 {h : QH} (H : Sh h) : qgi 4 2 29 h = some (hI h 29 2) := H.gi (by decide) (by decide) rfl (by decide)
theorem p29_2 {h : QH} (H : Sh h) (v : Int32) : qpi 4 2 29 v h = some (hsI h 29 2 v) := H.pi (by decide) (by decide) (by decide) rfl (by decide) v
theorem g29_3 {h : QH} (H : Sh h) : qgi 4 3 29 h = some (hI h 29 3) := H.gi (by decide) (by decide) rfl (by decide)
theorem p29_3 {h : QH} (H : Sh h) (v : Int32) : qpi 4 3 29 v h = some (hsI h 29 3 v) := H.pi (by decide) (by decide) (by decide) rfl (by decide) v
theorem g29_4 {h : QH} (H : Sh h) : qgi 4 4 29 h = some (hI h 29 4) := H.gi (by decide) (by decide) rfl (by decide)
theorem p29_4 {h : QH} (H : Sh h) (v : Int32) : qpi 4 4 29 v h = some (hsI h 29 4 v) := H.pi (by decide) (by decide) (by decide) rfl (by decide) v
theorem g29_5 {h : QH} (H : Sh h) : qgi 4 5 29 h = some (hI h 29 5) := H.gi (by decide) (by decide) rfl (by decide)
theorem p29_5 {h : QH} (H : Sh h) (v : Int32) : qpi 4 5 29 v h = some (hsI h 29 5 v) := H.pi (by decide) (by decide) (by decide) rfl (by decide) v
theorem g29_6 {h : QH} (H : Sh h) : qgi 4 6 29 h = some (hI h 29 6) := H.gi (by decide) (by decide) rfl (by decide)
theorem p29_6 {h : QH} (H : Sh h) (v : Int32) : qpi 4 6 29 v h = some (hsI h 29 6 v) := H.pi (by decide) (by decide) (by decide) rfl (by decide) v
theorem g29_7 {h : QH} (H : Sh h) : qgi 4 7 29 h = some (hI h 29 7) := H.gi (by decide) (by decide) rfl (by decide)
theorem p29_7 {h : QH} (H : Sh h) (v : Int32) : qpi 4 7 29 v h = some (hsI h 29 7 v) := H.pi (by decide) (by decide) (by decide) rfl (by decide) v
theorem g29_8 {h : QH} (H : Sh h) : qgi 4 8 29 h = some (hI h 29 8) := H.gi (by decide) (by decide) rfl (by decide)
theorem p29_8 {h : QH} (H : Sh h) (v : Int32) : qpi 4 8 29 v h = some (hsI h 29 8 v) := H.pi (by decide) (by decide) (by decide) rfl (by decide) v
theorem g29_9 {h : QH} (H : Sh h) : qgi 4 9 29 h = some (hI h 29 9) := H.gi (by decide) (by decide) rfl (by decide)
theorem p29_9 {h : QH} (H : Sh h) (v : Int32) : qpi 4 9 29 v h = some (hsI h 29 9 v) := H.pi (by decide) (by decide) (by decide) rfl (by decide) v
theorem g29_10 {h : QH} (H : Sh h) : qgr 4 10 29 h = some (some 31) := H.gr (by decide) (by decide) rfl (by decide) (by decide)
theorem g29_11 {h : QH} (H : Sh h) : qgr 4 11 29 h = some (some 32) := H.gr (by decide) (by decide) rfl (by decide) (by decide)
theorem g29_12 {h : QH} (H : Sh h) : qgr 4 12 29 h = some (some 33) := H.gr (by decide) (by decide) rfl (by decide) (by decide)
theorem g29_13 {h : QH} (H : Sh h) : qgr 4 13 29 h = some (some 34) := H.gr (by decide) (by decide) rfl (by decide) (by decide)
theorem g29_14 {h : QH} (H : Sh h) : qgr 4 14 29 h = some (some 35) := H.gr (by decide) (by decide) rfl (by decide) (by decide)
theorem a30 {h : QH} (H : Sh h) (i : Int32) : qai 0 30 i h = if 0 ≤ i ∧ i.toNatClampNeg < 0 then some (hI h 30 i.toNatClampNeg) else none := H.ai (by decide) (by decide) rfl i
theorem s30 {h : QH} (H : Sh h) (i v : Int32) : qsi 0 30 i v h = if 0 ≤ i ∧ i.toNatClampNeg < 0 then some (hsI h 30 i.toNatClampNeg v) else none := H.ss (by decide) (by decide) (by decide) rfl i v
theorem l30 {h : QH} (H : Sh h) : qal 30 h = some 0 := H.al (by decide) (by decide) rfl (by decide)
theorem a31 {h : QH} (H : Sh h) (i : Int32) : qai 3 31 i h = if 0 ≤ i ∧ i.toNatClampNeg < 90 then some (hI h 31 i.toNatClampNeg) else none := H.ai (by decide) (by decide) rfl i
theorem s31 {h : QH} (H : Sh h) (i v : Int32) : qsi 3 31 i v h = if 0 ≤ i ∧ i.toNatClampNeg < 90 then some (hsI h 31 i.toNatClampNeg v) else none := H.ss (by decide) (by decide) (by decide) rfl i v
theorem l31 {h : QH} (H : Sh h) : qal 31 h = some 90 := H.al (by decide) (by decide) rfl (by decide)
theorem a32 {h : QH} (H : Sh h) (i : Int32) : qai 3 32 i h = if 0 ≤ i ∧ i.toNatClampNeg < 12 then some (hI h 32 i.toNatClampNeg) else none := H.ai (by decide) (by decide) rfl i
theorem s32 {h : QH} (H : Sh h) (i v : Int32) : qsi 3 32 i v h = if 0 ≤ i ∧ i.toNatClampNeg < 12 then some (hsI h 32 i.toNatClampNeg v) else none := H.ss (by decide) (by decide) (by decide) rfl i v
theorem l32 {h : QH} (H : Sh h) : qal 32 h = some 12 := H.al (by decide) (by decide) rfl (by decide)
theorem a33 {h : QH} (H : Sh h) (i : Int32) : qai 0 33 i h = if 0 ≤ i ∧ i.toNatClampNeg < 12 then some (hI h 33 i.toNatClampNeg) else none := H.ai (by decide) (by decide) rfl i
theorem s33 {h : QH} (H : Sh h) (i v : Int32) : qsi 0 33 i v h = if 0 ≤ i ∧ i.toNatClampNeg < 12 then some (hsI h 33 i.toNatClampNeg v) else none := H.ss (by decide) (by decide) (by decide) rfl i v
theorem l33 {h : QH} (H : Sh h) : qal 33 h = some 12 := H.al (by decide) (by decide) rfl (by decide)
theorem a34 {h : QH} (H : Sh h) (i : Int32) : qai 0 34 i h = if 0 ≤ i ∧ i.toNatClampNeg < 12 then some (hI h 34 i.toNatClampNeg) else none := H.ai (by decide) (by decide) rfl i
theorem s34 {h : QH} (H : Sh h) (i v : Int32) : qsi 0 34 i v h = if 0 ≤ i ∧ i.toNatClampNeg < 12 then some (hsI h 34 i.toNatClampNeg v) else none := H.ss (by decide) (by decide) (by decide) rfl i v
theorem l34 {h : QH} (H : Sh h) : qal 34 h = some 12 := H.al (by decide) (by decide) rfl (by decide)
theorem a35 {h : QH} (H : Sh h) (i : Int32) : qai 0 35 i h = if 0 ≤ i ∧ i.toNatClampNeg < 412 then some (hI h 35 i.toNatClampNeg) else none := H.ai (by decide) (by decide) rfl i
theorem s35 {h : QH} (H : Sh h) (i v : Int32) : qsi 0 35 i v h = if 0 ≤ i ∧ i.toNatClampNeg < 412 then some (hsI h 35 i.toNatClampNeg v) else none := H.ss (by decide) (by decide) (by decide) rfl i v
theorem l35 {h : QH} (H : Sh h) : qal 35 h = some 412 := H.al (by decide) (by decide) rfl (by decide)
theorem ck36 {h : QH} (H : Sh h) : qck 8 36 h = some () := H.ck (by decide) (by decide) rfl
theorem g36_0 {h : QH} (H : Sh h) : qgr 8 0 36 h = some (some 37) := H.gr (by decide) (by decide) rfl (by decide) (by decide)
theorem g36_1 {h : QH} (H : Sh h) : qgr 8 1 36 h = some (some 38) := H.gr (by decide) (by decide) rfl (by decide) (by decide)
theorem g36_2 {h : QH} (H : Sh h) : qgr 8 2 36 h = some (some 39) := H.gr (by decide) (by decide) rfl (by decide) (by decide)
theorem a37 {h : QH} (H : Sh h) (i : Int32) : qai 0 37 i h = if 0 ≤ i ∧ i.toNatClampNeg < 9 then some (hI h 37 i.toNatClampNeg) else none := H.ai (by decide) (by decide) rfl i
theorem s37 {h : QH} (H : Sh h) (i v : Int32) : qsi 0 37 i v h = if 0 ≤ i ∧ i.toNatClampNeg < 9 then some (hsI h 37 i.toNatClampNeg v) else none := H.ss (by decide) (by decide) (by decide) rfl i v
theorem l37 {h : QH} (H : Sh h) : qal 37 h = some 9 := H.al (by decide) (by decide) rfl (by decide)
theorem a38 {h : QH} (H : Sh h) (i : Int32) : qai 0 38 i h = if 0 ≤ i ∧ i.toNatClampNeg < 52 then some (hI h 38 i.toNatClampNeg) else none := H.ai (by decide) (by decide) rfl i
theorem s38 {h : QH} (H : Sh h) (i v : Int32) : qsi 0 38 i v h = if 0 ≤ i ∧ i.toNatClampNeg < 52 then some (hsI h 38 i.toNatClampNeg v) else none := H.ss (by decide) (by decide) (by decide) rfl i v
theorem l38 {h : QH} (H : Sh h) : qal 38 h = some 52 := H.al (by decide) (by decide) rfl (by decide)
theorem a39 {h : QH} (H : Sh h) (i : Int32) : qai 0 39 i h = if 0 ≤ i ∧ i.toNatClampNeg < 4 then some (hI h 39 i.toNatClampNeg) else none := H.ai (by decide) (by decide) rfl i
theorem s39 {h : QH} (H : Sh h) (i v : Int32) : qsi 0 39 i v h = if 0 ≤ i ∧ i.toNatClampNeg < 4 then some (hsI h 39 i.toNatClampNeg v) else none := H.ss (by decide) (by decide) (by decide) rfl i v
theorem l39 {h : QH} (H : Sh h) : qal 39 h = some 4 := H.al (by decide) (by decide) rfl (by decide)
theorem ck40 {h : QH} (H : Sh h) : qck 3 40 h = some () := H.ck (by decide) (by decide) rfl
theorem g40_0 {h : QH} (H : Sh h) : qgr 3 0 40 h = some (some 41) := H.gr (by decide) (by decide) rfl (by decide) (by decide)
theorem g40_1 {h : QH} (H : Sh h) : qgr 3 1 40 h = some (some 42) := H.gr (by decide) (by decide) rfl (by decide) (by decide)
theorem g40_2 {h : QH} (H : Sh h) : qgr 3 2 40 h = some (some 43) := H.gr (by decide) (by decide) rfl (by decide) (by decide)
theorem g40_3 {h : QH} (H : Sh h) : qgr 3 3 40 h = some (some 44) := H.gr (by decide) (by decide) rfl (by decide) (by decide)
theorem g40_4 {h : QH} (H : Sh h) : qgi 3 4 40 h = some (hI h 40 4) := H.gi (by decide) (by decide) rfl (by decide)
theorem p40_4 {h : QH} (H : Sh h) (v : Int32) : qpi 3 4 40 v h = some (hsI h 40 4 v) := H.pi (by decide) (by decide) (by decide) rfl (by decide) v
theorem a41 {h : QH} (H : Sh h) (i : Int32) : qai 0 41 i h = if 0 ≤ i ∧ i.toNatClampNeg < 1240 then some (hI h 41 i.toNatClampNeg) else none := H.ai (by decide) (by decide) rfl i
theorem s41 {h : QH} (H : Sh h) (i v : Int32) : qsi 0 41 i v h = if 0 ≤ i ∧ i.toNatClampNeg < 1240 then some (hsI h 41 i.toNatClampNeg v) else none := H.ss (by decide) (by decide) (by decide) rfl i v
theorem l41 {h : QH} (H : Sh h) : qal 41 h = some 1240 := H.al (by decide) (by decide) rfl (by decide)
theorem a42 {h : QH} (H : Sh h) (i : Int32) : qai 0 42 i h = if 0 ≤ i ∧ i.toNatClampNeg < 1240 then some (hI h 42 i.toNatClampNeg) else none := H.ai (by decide) (by decide) rfl i
theorem s42 {h : QH} (H : Sh h) (i v : Int32) : qsi 0 42 i v h = if 0 ≤ i ∧ i.toNatClampNeg < 1240 then some (hsI h 42 i.toNatClampNeg v) else none := H.ss (by decide) (by decide) (by decide) rfl i v
theorem l42 {h : QH} (H : Sh h) : qal 42 h = some 1240 := H.al (by decide) (by decide) rfl (by decide)
theorem a43 {h : QH} (H : Sh h) (i : Int32) : qai 0 43 i h = if 0 ≤ i ∧ i.toNatClampNeg < 240 then some (hI h 43 i.toNatClampNeg) else none := H.ai (by decide) (by decide) rfl i
theorem s43 {h : QH} (H : Sh h) (i v : Int32) : qsi 0 43 i v h = if 0 ≤ i ∧ i.toNatClampNeg < 240 then some (hsI h 43 i.toNatClampNeg v) else none := H.ss (by decide) (by decide) (by decide) rfl i v
theorem l43 {h : QH} (H : Sh h) : qal 43 h = some 240 := H.al (by decide) (by decide) rfl (by decide)
theorem a44 {h : QH} (H : Sh h) (i : Int32) : qai 0 44 i h = if 0 ≤ i ∧ i.toNatClampNeg < 60 then some (hI h 44 i.toNatClampNeg) else none := H.ai (by decide) (by decide) rfl i
theorem s44 {h : QH} (H : Sh h) (i v : Int32) : qsi 0 44 i v h = if 0 ≤ i ∧ i.toNatClampNeg < 60 then some (hsI h 44 i.toNatClampNeg v) else none := H.ss (by decide) (by decide) (by decide) rfl i v
theorem l44 {h : QH} (H : Sh h) : qal 44 h = some 60 := H.al (by decide) (by decide) rfl (by decide)
theorem ck45 {h : QH} (H : Sh h) : qck 6 45 h = some () := H.ck (by decide) (by decide) rfl
theorem g45_0 {h : QH} (H : Sh h) : qgi 6 0 45 h = some (hI h 45 0) := H.gi (by decide) (by decide) rfl (by decide)
theorem p45_0 {h : QH} (H : Sh h) (v : Int32) : qpi 6 0 45 v h = some (hsI h 45 0 v) := H.pi (by decide) (by decide) (by decide) rfl (by decide) v
theorem g45_1 {h : QH} (H : Sh h) : qgr 6 1 45 h = some (some 46) := H.gr (by decide) (by decide) rfl (by decide) (by decide)
theorem g45_2 {h : QH} (H : Sh h) : qgi 6 2 45 h = some (hI h 45 2) := H.gi (by decide) (by decide) rfl (by decide)
theorem p45_2 {h : QH} (H : Sh h) (v : Int32) : qpi 6 2 45 v h = some (hsI h 45 2 v) := H.pi (by decide) (by decide) (by decide) rfl (by decide) v
theorem g45_3 {h : QH} (H : Sh h) : qgi 6 3 45 h = some (hI h 45 3) := H.gi (by decide) (by decide) rfl (by decide)
theorem p45_3 {h : QH} (H : Sh h) (v : Int32) : qpi 6 3 45 v h = some (hsI h 45 3 v) := H.pi (by decide) (by decide) (by decide) rfl (by decide) v
theorem g45_4 {h : QH} (H : Sh h) : qgi 6 4 45 h = some (hI h 45 4) := H.gi (by decide) (by decide) rfl (by decide)
theorem p45_4 {h : QH} (H : Sh h) (v : Int32) : qpi 6 4 45 v h = some (hsI h 45 4 v) := H.pi (by decide) (by decide) (by decide) rfl (by decide) v
theorem g45_5 {h : QH} (H : Sh h) : qgi 6 5 45 h = some (hI h 45 5) := H.gi (by decide) (by decide) rfl (by decide)
theorem p45_5 {h : QH} (H : Sh h) (v : Int32) : qpi 6 5 45 v h = some (hsI h 45 5 v) := H.pi (by decide) (by decide) (by decide) rfl (by decide) v
theorem g45_6 {h : QH} (H : Sh h) : qgi 6 6 45 h = some (hI h 45 6) := H.gi (by decide) (by decide) rfl (by decide)
theorem p45_6 {h : QH} (H : Sh h) (v : Int32) : qpi 6 6 45 v h = some (hsI h 45 6 v) := H.pi (by decide) (by decide) (by decide) rfl (by decide) v
theorem g45_7 {h : QH} (H : Sh h) : qgi 6 7 45 h = some (hI h 45 7) := H.gi (by decide) (by decide) rfl (by decide)
theorem p45_7 {h : QH} (H : Sh h) (v : Int32) : qpi 6 7 45 v h = some (hsI h 45 7 v) := H.pi (by decide) (by decide) (by decide) rfl (by decide) v
theorem g45_8 {h : QH} (H : Sh h) : qgr 6 8 45 h = some (some 47) := H.gr (by decide) (by decide) rfl (by decide) (by decide)
theorem g45_9 {h : QH} (H : Sh h) : qgr 6 9 45 h = some (some 48) := H.gr (by decide) (by decide) rfl (by decide) (by decide)
theorem g45_10 {h : QH} (H : Sh h) : qgr 6 10 45 h = some (some 49) := H.gr (by decide) (by decide) rfl (by decide) (by decide)
theorem g45_11 {h : QH} (H : Sh h) : qgr 6 11 45 h = some (some 50) := H.gr (by decide) (by decide) rfl (by decide) (by decide)
theorem g45_12 {h : QH} (H : Sh h) : qgr 6 12 45 h = some (some 51) := H.gr (by decide) (by decide) rfl (by decide) (by decide)
theorem a46 {h : QH} (H : Sh h) (i : Int32) : qai 0 46 i h = if 0 ≤ i ∧ i.toNatClampNeg < 31 then some (hI h 46 i.toNatClampNeg) else none := H.ai (by decide) (by decide) rfl i
theorem s46 {h : QH} (H : Sh h) (i v : Int32) : qsi 0 46 i v h = if 0 ≤ i ∧ i.toNatClampNeg < 31 then some (hsI h 46 i.toNatClampNeg v) else none := H.ss (by decide) (by decide) (by decide) rfl i v
theorem l46 {h : QH} (H : Sh h) : qal 46 h = some 31 := H.al (by decide) (by decide) rfl (by decide)
theorem a47 {h : QH} (H : Sh h) (i : Int32) : qai 0 47 i h = if 0 ≤ i ∧ i.toNatClampNeg < 8 then some (hI h 47 i.toNatClampNeg) else none := H.ai (by decide) (by decide) rfl i
theorem s47 {h : QH} (H : Sh h) (i v : Int32) : qsi 0 47 i v h = if 0 ≤ i ∧ i.toNatClampNeg < 8 then some (hsI h 47 i.toNatClampNeg v) else none := H.ss (by decide) (by decide) (by decide) rfl i v
theorem l47 {h : QH} (H : Sh h) : qal 47 h = some 8 := H.al (by decide) (by decide) rfl (by decide)
theorem a48 {h : QH} (H : Sh h) (i : Int32) : qai 0 48 i h = if 0 ≤ i ∧ i.toNatClampNeg < 30 then some (hI h 48 i.toNatClampNeg) else none := H.ai (by decide) (by decide) rfl i
theorem s48 {h : QH} (H : Sh h) (i v : Int32) : qsi 0 48 i v h = if 0 ≤ i ∧ i.toNatClampNeg < 30 then some (hsI h 48 i.toNatClampNeg v) else none := H.ss (by decide) (by decide) (by decide) rfl i v
theorem l48 {h : QH} (H : Sh h) : qal 48 h = some 30 := H.al (by decide) (by decide) rfl (by decide)
theorem a49 {h : QH} (H : Sh h) (i : Int32) : qai 2 49 i h = if 0 ≤ i ∧ i.toNatClampNeg < 256 then some (hI h 49 i.toNatClampNeg) else none := H.ai (by decide) (by decide) rfl i
theorem s49 {h : QH} (H : Sh h) (i v : Int32) : qsi 2 49 i v h = if 0 ≤ i ∧ i.toNatClampNeg < 256 then some (hsI h 49 i.toNatClampNeg v) else none := H.ss (by decide) (by decide) (by decide) rfl i v
theorem l49 {h : QH} (H : Sh h) : qal 49 h = some 256 := H.al (by decide) (by decide) rfl (by decide)
theorem a50 {h : QH} (H : Sh h) (i : Int32) : qai 0 50 i h = if 0 ≤ i ∧ i.toNatClampNeg < 256 then some (hI h 50 i.toNatClampNeg) else none := H.ai (by decide) (by decide) rfl i
theorem s50 {h : QH} (H : Sh h) (i v : Int32) : qsi 0 50 i v h = if 0 ≤ i ∧ i.toNatClampNeg < 256 then some (hsI h 50 i.toNatClampNeg v) else none := H.ss (by decide) (by decide) (by decide) rfl i v
theorem l50 {h : QH} (H : Sh h) : qal 50 h = some 256 := H.al (by decide) (by decide) rfl (by decide)
theorem a51 {h : QH} (H : Sh h) (i : Int32) : qai 0 51 i h = if 0 ≤ i ∧ i.toNatClampNeg < 256 then some (hI h 51 i.toNatClampNeg) else none := H.ai (by decide) (by decide) rfl i
theorem s51 {h : QH} (H : Sh h) (i v : Int32) : qsi 0 51 i v h = if 0 ≤ i ∧ i.toNatClampNeg < 256 then some (hsI h 51 i.toNatClampNeg v) else none := H.ss (by decide) (by decide) (by decide) rfl i v
theorem l51 {h : QH} (H : Sh h) : qal 51 h = some 256 := H.al (by decide) (by decide) rfl (by decide)
theorem ck52 {h : QH} (H : Sh h) : qck 9 52 h = some () := H.ck (by decide) (by decide) rfl
theorem g52_0 {h : QH} (H : Sh h) : qgi 9 0 52 h = some (hI h 52 0) := H.gi (by decide) (by decide) rfl (by decide)
theorem p52_0 {h : QH} (H : Sh h) (v : Int32) : qpz 9 0 52 v h = if v = 0 ∨ v = 1 then some (hsI h 52 0 v) else none := H.pz (by decide) (by decide) (by decide) rfl (by decide) v
theorem g52_1 {h : QH} (H : Sh h) : qgi 9 1 52 h = some (hI h 52 1) := H.gi (by decide) (by decide) rfl (by decide)
theorem p52_1 {h : QH} (H : Sh h) (v : Int32) : qpi 9 1 52 v h = some (hsI h 52 1 v) := H.pi (by decide) (by decide) (by decide) rfl (by decide) v
theorem g52_2 {h : QH} (H : Sh h) : qgi 9 2 52 h = some (hI h 52 2) := H.gi (by decide) (by decide) rfl (by decide)
theorem p52_2 {h : QH} (H : Sh h) (v : Int32) : qpi 9 2 52 v h = some (hsI h 52 2 v) := H.pi (by decide) (by decide) (by decide) rfl (by decide) v
theorem g52_3 {h : QH} (H : Sh h) : qgr 9 3 52 h = some (some 53) := H.gr (by decide) (by decide) rfl (by decide) (by decide)
theorem g52_4 {h : QH} (H : Sh h) : qgi 9 4 52 h = some (hI h 52 4) := H.gi (by decide) (by decide) rfl (by decide)
theorem p52_4 {h : QH} (H : Sh h) (v : Int32) : qpi 9 4 52 v h = some (hsI h 52 4 v) := H.pi (by decide) (by decide) (by decide) rfl (by decide) v
theorem a53 {h : QH} (H : Sh h) (i : Int32) : qai 0 53 i h = if 0 ≤ i ∧ i.toNatClampNeg < 64 then some (hI h 53 i.toNatClampNeg) else none := H.ai (by decide) (by decide) rfl i
theorem s53 {h : QH} (H : Sh h) (i v : Int32) : qsi 0 53 i v h = if 0 ≤ i ∧ i.toNatClampNeg < 64 then some (hsI h 53 i.toNatClampNeg v) else none := H.ss (by decide) (by decide) (by decide) rfl i v
theorem l53 {h : QH} (H : Sh h) : qal 53 h = some 64 := H.al (by decide) (by decide) rfl (by decide)
theorem a54 {h : QH} (H : Sh h) (i : Int32) : qai 0 54 i h = if 0 ≤ i ∧ i.toNatClampNeg < 5 then some (hI h 54 i.toNatClampNeg) else none := H.ai (by decide) (by decide) rfl i
theorem s54 {h : QH} (H : Sh h) (i v : Int32) : qsi 0 54 i v h = if 0 ≤ i ∧ i.toNatClampNeg < 5 then some (hsI h 54 i.toNatClampNeg v) else none := H.ss (by decide) (by decide) (by decide) rfl i v
theorem l54 {h : QH} (H : Sh h) : qal 54 h = some 5 := H.al (by decide) (by decide) rfl (by decide)
theorem a55 {h : QH} (H : Sh h) (i : Int32) : qai 0 55 i h = if 0 ≤ i ∧ i.toNatClampNeg < 10 then some (hI h 55 i.toNatClampNeg) else none := H.ai (by decide) (by decide) rfl i
theorem s55 {h : QH} (H : Sh h) (i v : Int32) : qsi 0 55 i v h = if 0 ≤ i ∧ i.toNatClampNeg < 10 then some (hsI h 55 i.toNatClampNeg v) else none := H.ss (by decide) (by decide) (by decide) rfl i v
theorem l55 {h : QH} (H : Sh h) : qal 55 h = some 10 := H.al (by decide) (by decide) rfl (by decide)
theorem ck56 {h : QH} (H : Sh h) : qck 12 56 h = some () := H.ck (by decide) (by decide) rfl
theorem g56_0 {h : QH} (H : Sh h) : qgi 12 0 56 h = some (hI h 56 0) := H.gi (by decide) (by decide) rfl (by decide)
theorem p56_0 {h : QH} (H : Sh h) (v : Int32) : qpi 12 0 56 v h = some (hsI h 56 0 v) := H.pi (by decide) (by decide) (by decide) rfl (by decide) v
theorem g56_1 {h : QH} (H : Sh h) : qgi 12 1 56 h = some (hI h 56 1) := H.gi (by decide) (by decide) rfl (by decide)
theorem p56_1 {h : QH} (H : Sh h) (v : Int32) : qpi 12 1 56 v h = some (hsI h 56 1 v) := H.pi (by decide) (by decide) (by decide) rfl (by decide) v
theorem g56_2 {h : QH} (H : Sh h) : qgr 12 2 56 h = some (some 57) := H.gr (by decide) (by decide) rfl (by decide) (by decide)
theorem g56_3 {h : QH} (H : Sh h) : qgr 12 3 56 h = some (some 58) := H.gr (by decide) (by decide) rfl (by decide) (by decide)
theorem g56_4 {h : QH} (H : Sh h) : qgr 12 4 56 h = some (some 59) := H.gr (by decide) (by decide) rfl (by decide) (by decide)
theorem g56_5 {h : QH} (H : Sh h) : qgr 12 5 56 h = some (some 60) := H.gr (by decide) (by decide) rfl (by decide) (by decide)
theorem g56_6 {h : QH} (H : Sh h) : qgi 12 6 56 h = some (hI h 56 6) := H.gi (by decide) (by decide) rfl (by decide)
theorem p56_6 {h : QH} (H : Sh h) (v : Int32) : qpi 12 6 56 v h = some (hsI h 56 6 v) := H.pi (by decide) (by decide) (by decide) rfl (by decide) v
theorem g56_7 {h : QH} (H : Sh h) : qgr 12 7 56 h = some (some 61) := H.gr (by decide) (by decide) rfl (by decide) (by decide)
theorem g56_8 {h : QH} (H : Sh h) : qgr 12 8 56 h = some (some 62) := H.gr (by decide) (by decide) rfl (by decide) (by decide)
theorem g56_9 {h : QH} (H : Sh h) : qgr 12 9 56 h = some (some 63) := H.gr (by decide) (by decide) rfl (by decide) (by decide)
theorem g56_10 {h : QH} (H : Sh h) : qgi 12 10 56 h = some (hI h 56 10) := H.gi (by decide) (by decide) rfl (by decide)
theorem p56_10 {h : QH} (H : Sh h) (v : Int32) : qpi 12 10 56 v h = some (hsI h 56 10 v) := H.pi (by decide) (by decide) (by decide) rfl (by decide) v
theorem g56_11 {h : QH} (H : Sh h) : qgi 12 11 56 h = some (hI h 56 11) := H.gi (by decide) (by decide) rfl (by decide)
theorem p56_11 {h : QH} (H : Sh h) (v : Int32) : qpi 12 11 56 v h = some (hsI h 56 11 v) := H.pi (by decide) (by decide) (by decide) rfl (by decide) v
theorem g56_12 {h : QH} (H : Sh h) : qgr 12 12 56 h = some (some 64) := H.gr (by decide) (by decide) rfl (by decide) (by decide)
theorem g56_13 {h : QH} (H : Sh h) : qgr 12 13 56 h = some (some 65) := H.gr (by decide) (by decide) rfl (by decide) (by decide)
theorem g56_14 {h : QH} (H : Sh h) : qgr 12 14 56 h = some (some 66) := H.gr (by decide) (by decide) rfl (by decide) (by decide)
theorem g56_15 {h : QH} (H : Sh h) : qgi 12 15 56 h = some (hI h 56 15) := H.gi (by decide) (by decide) rfl (by decide)
theorem p56_15 {h : QH} (H : Sh h) (v : Int32) : qpi 12 15 56 v h = some (hsI h 56 15 v) := H.pi (by decide) (by decide) (by decide) rfl (by decide) v
theorem g56_16 {h : QH} (H : Sh h) : qgi 12 16 56 h = some (hI h 56 16) := H.gi (by decide) (by decide) rfl (by decide)
theorem p56_16 {h : QH} (H : Sh h) (v : Int32) : qpi 12 16 56 v h = some (hsI h 56 16 v) := H.pi (by decide) (by decide) (by decide) rfl (by decide) v
theorem g56_17 {h : QH} (H : Sh h) : qgi 12 17 56 h = some (hI h 56 17) := H.gi (by decide) (by decide) rfl (by decide)
theorem p56_17 {h : QH} (H : Sh h) (v : Int32) : qpi 12 17 56 v h = some (hsI h 56 17 v) := H.pi (by decide) (by decide) (by decide) rfl (by decide) v
theorem g56_18 {h : QH} (H : Sh h) : qgi 12 18 56 h = some (hI h 56 18) := H.gi (by decide) (by decide) rfl (by decide)
theorem p56_18 {h : QH} (H : Sh h) (v : Int32) : qpi 12 18 56 v h = some (hsI h 56 18 v) := H.pi (by decide) (by decide) (by decide) rfl (by decide) v
theorem g56_19 {h : QH} (H : Sh h) : qgi 12 19 56 h = some (hI h 56 19) := H.gi (by decide) (by decide) rfl (by decide)
theorem p56_19 {h : QH} (H : Sh h) (v : Int32) : qpi 12 19 56 v h = some (hsI h 56 19 v) := H.pi (by decide) (by decide) (by decide) rfl (by decide) v
theorem g56_20 {h : QH} (H : Sh h) : qgi 12 20 56 h = some (hI h 56 20) := H.gi (by decide) (by decide) rfl (by decide)
theorem p56_20 {h : QH} (H : Sh h) (v : Int32) : qpi 12 20 56 v h = some (hsI h 56 20 v) := H.pi (by decide) (by decide) (by decide) rfl (by decide) v
theorem g56_21 {h : QH} (H : Sh h) : qgi 12 21 56 h = some (hI h 56 21) := H.gi (by decide) (by decide) rfl (by decide)
theorem p56_21 {h : QH} (H : Sh h) (v : Int32) : qpz 12 21 56 v h = if v = 0 ∨ v = 1 then some (hsI h 56 21 v) else none := H.pz (by decide) (by decide) (by decide) rfl (by decide) v
theorem g56_22 {h : QH} (H : Sh h) : qgr 12 22 56 h = some (some 67) := H.gr (by decide) (by decide) rfl (by decide) (by decide)
theorem g56_23 {h : QH} (H : Sh h) : qgr 12 23 56 h = some (some 68) := H.gr (by decide) (by decide) rfl (by decide) (by decide)
theorem g56_24 {h : QH} (H : Sh h) : qgr 12 24 56 h = some (some 69) := H.gr (by decide) (by decide) rfl (by decide) (by decide)
theorem g56_25 {h : QH} (H : Sh h) : qgr 12 25 56 h = some (some 70) := H.gr (by decide) (by decide) rfl (by decide) (by decide)
theorem g56_26 {h : QH} (H : Sh h) : qgr 12 26 56 h = some (some 71) := H.gr (by decide) (by decide) rfl (by decide) (by decide)
theorem g56_27 {h : QH} (H : Sh h) : qgr 12 27 56 h = some (some 72) := H.gr (by decide) (by decide) rfl (by decide) (by decide)
theorem g56_28 {h : QH} (H : Sh h) : qgi 12 28 56 h = some (hI h 56 28) := H.gi (by decide) (by decide) rfl (by decide)
theorem p56_28 {h : QH} (H : Sh h) (v : Int32) : qpi 12 28 56 v h = some (hsI h 56 28 v) := H.pi (by decide) (by decide) (by decide) rfl (by decide) v
theorem g56_29 {h : QH} (H : Sh h) : qgi 12 29 56 h = some (hI h 56 29) := H.gi (by decide) (by decide) rfl (by decide)
theorem p56_29 {h : QH} (H : Sh h) (v : Int32) : qpi 12 29 56 v h = some (hsI h 56 29 v) := H.pi (by decide) (by decide) (by decide) rfl (by decide) v
theorem g56_30 {h : QH} (H : Sh h) : qgi 12 30 56 h = some (hI h 56 30) := H.gi (by decide) (by decide) rfl (by decide)
theorem p56_30 {h : QH} (H : Sh h) (v : Int32) : qpi 12 30 56 v h = some (hsI h 56 30 v) := H.pi (by decide) (by decide) (by decide) rfl (by decide) v
theorem g56_31 {h : QH} (H : Sh h) : qgi 12 31 56 h = some (hI h 56 31) := H.gi (by decide) (by decide) rfl (by decide)
theorem p56_31 {h : QH} (H : Sh h) (v : Int32) : qpi 12 31 56 v h = some (hsI h 56 31 v) := H.pi (by decide) (by decide) (by decide) rfl (by decide) v
theorem g56_32 {h : QH} (H : Sh h) : qgr 12 32 56 h = some (some 73) := H.gr (by decide) (by decide) rfl (by decide) (by decide)
theorem g56_33 {h : QH} (H : Sh h) : qgr 12 33 56 h = some (some 74) := H.gr (by decide) (by decide) rfl (by decide) (by decide)
theorem g56_34 {h : QH} (H : Sh h) : qgr 12 34 56 h = some (some 75) := H.gr (by decide) (by decide) rfl (by decide) (by decide)
theorem g56_35 {h : QH} (H : Sh h) : qgi 12 35 56 h = some (hI h 56 35) := H.gi (by decide) (by decide) rfl (by decide)
theorem p56_35 {h : QH} (H : Sh h) (v : Int32) : qpi 12 35 56 v h = some (hsI h 56 35 v) := H.pi (by decide) (by decide) (by decide) rfl (by decide) v
theorem g56_36 {h : QH} (H : Sh h) : qgi 12 36 56 h = some (hI h 56 36) := H.gi (by decide) (by decide) rfl (by decide)
theorem p56_36 {h : QH} (H : Sh h) (v : Int32) : qpi 12 36 56 v h = some (hsI h 56 36 v) := H.pi (by decide) (by decide) (by decide) rfl (by decide) v
theorem g56_37 {h : QH} (H : Sh h) : qgi 12 37 56 h = some (hI h 56 37) := H.gi (by decide) (by decide) rfl (by decide)
theorem p56_37 {h : QH} (H : Sh h) (v : Int32) : qpi 12 37 56 v h = some (hsI h 56 37 v) := H.pi (by decide) (by decide) (by decide) rfl (by decide) v
theorem g56_38 {h : QH} (H : Sh h) : qgi 12 38 56 h = some (hI h 56 38) := H.gi (by decide) (by decide) rfl (by decide)
theorem p56_38 {h : QH} (H : Sh h) (v : Int32) : qpi 12 38 56 v h = some (hsI h 56 38 v) := H.pi (by decide) (by decide) (by decide) rfl (by decide) v
theorem g56_39 {h : QH} (H : Sh h) : qgr 12 39 56 h = some (some 76) := H.gr (by decide) (by decide) rfl (by decide) (by decide)
theorem g56_40 {h : QH} (H : Sh h) : qgr 12 40 56 h = some (some 77) := H.gr (by decide) (by decide) rfl (by decide) (by decide)
theorem g56_41 {h : QH} (H : Sh h) : qgr 12 41 56 h = some (some 78) := H.gr (by decide) (by decide) rfl (by decide) (by decide)
theorem g56_42 {h : QH} (H : Sh h) : qgi 12 42 56 h = some (hI h 56 42) := H.gi (by decide) (by decide) rfl (by decide)
theorem p56_42 {h : QH} (H : Sh h) (v : Int32) : qpi 12 42 56 v h = some (hsI h 56 42 v) := H.pi (by decide) (by decide) (by decide) rfl (by decide) v
theorem g56_43 {h : QH} (H : Sh h) : qgi 12 43 56 h = some (hI h 56 43) := H.gi (by decide) (by decide) rfl (by decide)
theorem p56_43 {h : QH} (H : Sh h) (v : Int32) : qpi 12 43 56 v h = some (hsI h 56 43 v) := H.pi (by decide) (by decide) (by decide) rfl (by decide) v
theorem g56_44 {h : QH} (H : Sh h) : qgi 12 44 56 h = some (hI h 56 44) := H.gi (by decide) (by decide) rfl (by decide)
theorem p56_44 {h : QH} (H : Sh h) (v : Int32) : qpi 12 44 56 v h = some (hsI h 56 44 v) := H.pi (by decide) (by decide) (by decide) rfl (by decide) v
theorem a57 {h : QH} (H : Sh h) (i : Int32) : qai 0 57 i h = if 0 ≤ i ∧ i.toNatClampNeg < 7 then some (hI h 57 i.toNatClampNeg) else none := H.ai (by decide) (by decide) rfl i
theorem s57 {h : QH} (H : Sh h) (i v : Int32) : qsi 0 57 i v h = if 0 ≤ i ∧ i.toNatClampNeg < 7 then some (hsI h 57 i.toNatClampNeg v) else none := H.ss (by decide) (by decide) (by decide) rfl i v
theorem l57 {h : QH} (H : Sh h) : qal 57 h = some 7 := H.al (by decide) (by decide) rfl (by decide)
theorem a58 {h : QH} (H : Sh h) (i : Int32) : qai 0 58 i h = if 0 ≤ i ∧ i.toNatClampNeg < 5220 then some (hI h 58 i.toNatClampNeg) else none := H.ai (by decide) (by decide) rfl i
theorem s58 {h : QH} (H : Sh h) (i v : Int32) : qsi 0 58 i v h = if 0 ≤ i ∧ i.toNatClampNeg < 5220 then some (hsI h 58 i.toNatClampNeg v) else none := H.ss (by decide) (by decide) (by decide) rfl i v
theorem l58 {h : QH} (H : Sh h) : qal 58 h = some 5220 := H.al (by decide) (by decide) rfl (by decide)
theorem a59 {h : QH} (H : Sh h) (i : Int32) : qai 0 59 i h = if 0 ≤ i ∧ i.toNatClampNeg < 10440 then some (hI h 59 i.toNatClampNeg) else none := H.ai (by decide) (by decide) rfl i
theorem s59 {h : QH} (H : Sh h) (i v : Int32) : qsi 0 59 i v h = if 0 ≤ i ∧ i.toNatClampNeg < 10440 then some (hsI h 59 i.toNatClampNeg v) else none := H.ss (by decide) (by decide) (by decide) rfl i v
theorem l59 {h : QH} (H : Sh h) : qal 59 h = some 10440 := H.al (by decide) (by decide) rfl (by decide)
theorem a60 {h : QH} (H : Sh h) (i : Int32) : qai 2 60 i h = if 0 ≤ i ∧ i.toNatClampNeg < 2 then some (hI h 60 i.toNatClampNeg) else none := H.ai (by decide) (by decide) rfl i
theorem s60 {h : QH} (H : Sh h) (i v : Int32) : qsi 2 60 i v h = if 0 ≤ i ∧ i.toNatClampNeg < 2 then some (hsI h 60 i.toNatClampNeg v) else none := H.ss (by decide) (by decide) (by decide) rfl i v
theorem l60 {h : QH} (H : Sh h) : qal 60 h = some 2 := H.al (by decide) (by decide) rfl (by decide)
theorem a61 {h : QH} (H : Sh h) (i : Int32) : qai 1 61 i h = if 0 ≤ i ∧ i.toNatClampNeg < 90 then some (hI h 61 i.toNatClampNeg) else none := H.ai (by decide) (by decide) rfl i
theorem s61 {h : QH} (H : Sh h) (i v : Int32) : qsi 1 61 i v h = if 0 ≤ i ∧ i.toNatClampNeg < 90 then some (hsI h 61 i.toNatClampNeg v) else none := H.ss (by decide) (by decide) (by decide) rfl i v
theorem l61 {h : QH} (H : Sh h) : qal 61 h = some 90 := H.al (by decide) (by decide) rfl (by decide)
theorem a62 {h : QH} (H : Sh h) (i : Int32) : qai 1 62 i h = if 0 ≤ i ∧ i.toNatClampNeg < 400 then some (hI h 62 i.toNatClampNeg) else none := H.ai (by decide) (by decide) rfl i
theorem s62 {h : QH} (H : Sh h) (i v : Int32) : qsi 1 62 i v h = if 0 ≤ i ∧ i.toNatClampNeg < 400 then some (hsI h 62 i.toNatClampNeg v) else none := H.ss (by decide) (by decide) (by decide) rfl i v
theorem l62 {h : QH} (H : Sh h) : qal 62 h = some 400 := H.al (by decide) (by decide) rfl (by decide)
theorem a63 {h : QH} (H : Sh h) (i : Int32) : qai 0 63 i h = if 0 ≤ i ∧ i.toNatClampNeg < 5 then some (hI h 63 i.toNatClampNeg) else none := H.ai (by decide) (by decide) rfl i
theorem s63 {h : QH} (H : Sh h) (i v : Int32) : qsi 0 63 i v h = if 0 ≤ i ∧ i.toNatClampNeg < 5 then some (hsI h 63 i.toNatClampNeg v) else none := H.ss (by decide) (by decide) (by decide) rfl i v
theorem l63 {h : QH} (H : Sh h) : qal 63 h = some 5 := H.al (by decide) (by decide) rfl (by decide)
theorem a64 {h : QH} (H : Sh h) (i : Int32) : qai 0 64 i h = if 0 ≤ i ∧ i.toNatClampNeg < 401 then some (hI h 64 i.toNatClampNeg) else none := H.ai (by decide) (by decide) rfl i
theorem s64 {h : QH} (H : Sh h) (i v : Int32) : qsi 0 64 i v h = if 0 ≤ i ∧ i.toNatClampNeg < 401 then some (hsI h 64 i.toNatClampNeg v) else none := H.ss (by decide) (by decide) (by decide) rfl i v
theorem l64 {h : QH} (H : Sh h) : qal 64 h = some 401 := H.al (by decide) (by decide) rfl (by decide)
theorem a65 {h : QH} (H : Sh h) (i : Int32) : qai 0 65 i h = if 0 ≤ i ∧ i.toNatClampNeg < 401 then some (hI h 65 i.toNatClampNeg) else none := H.ai (by decide) (by decide) rfl i
theorem s65 {h : QH} (H : Sh h) (i v : Int32) : qsi 0 65 i v h = if 0 ≤ i ∧ i.toNatClampNeg < 401 then some (hsI h 65 i.toNatClampNeg v) else none := H.ss (by decide) (by decide) (by decide) rfl i v
theorem l65 {h : QH} (H : Sh h) : qal 65 h = some 401 := H.al (by decide) (by decide) rfl (by decide)
theorem a66 {h : QH} (H : Sh h) (i : Int32) : qai 0 66 i h = if 0 ≤ i ∧ i.toNatClampNeg < 401 then some (hI h 66 i.toNatClampNeg) else none := H.ai (by decide) (by decide) rfl i
theorem s66 {h : QH} (H : Sh h) (i v : Int32) : qsi 0 66 i v h = if 0 ≤ i ∧ i.toNatClampNeg < 401 then some (hsI h 66 i.toNatClampNeg v) else none := H.ss (by decide) (by decide) (by decide) rfl i v
theorem l66 {h : QH} (H : Sh h) : qal 66 h = some 401 := H.al (by decide) (by decide) rfl (by decide)
theorem a67 {h : QH} (H : Sh h) (i : Int32) : qai 0 67 i h = if 0 ≤ i ∧ i.toNatClampNeg < 9 then some (hI h 67 i.toNatClampNeg) else none := H.ai (by decide) (by decide) rfl i
theorem s67 {h : QH} (H : Sh h) (i v : Int32) : qsi 0 67 i v h = if 0 ≤ i ∧ i.toNatClampNeg < 9 then some (hsI h 67 i.toNatClampNeg v) else none := H.ss (by decide) (by decide) (by decide) rfl i v
theorem l67 {h : QH} (H : Sh h) : qal 67 h = some 9 := H.al (by decide) (by decide) rfl (by decide)
theorem a68 {h : QH} (H : Sh h) (i : Int32) : qai 0 68 i h = if 0 ≤ i ∧ i.toNatClampNeg < 40 then some (hI h 68 i.toNatClampNeg) else none := H.ai (by decide) (by decide) rfl i
theorem s68 {h : QH} (H : Sh h) (i v : Int32) : qsi 0 68 i v h = if 0 ≤ i ∧ i.toNatClampNeg < 40 then some (hsI h 68 i.toNatClampNeg v) else none := H.ss (by decide) (by decide) (by decide) rfl i v
theorem l68 {h : QH} (H : Sh h) : qal 68 h = some 40 := H.al (by decide) (by decide) rfl (by decide)
theorem a69 {h : QH} (H : Sh h) (i : Int32) : qai 0 69 i h = if 0 ≤ i ∧ i.toNatClampNeg < 40 then some (hI h 69 i.toNatClampNeg) else none := H.ai (by decide) (by decide) rfl i
theorem s69 {h : QH} (H : Sh h) (i v : Int32) : qsi 0 69 i v h = if 0 ≤ i ∧ i.toNatClampNeg < 40 then some (hsI h 69 i.toNatClampNeg v) else none := H.ss (by decide) (by decide) (by decide) rfl i v
theorem l69 {h : QH} (H : Sh h) : qal 69 h = some 40 := H.al (by decide) (by decide) rfl (by decide)
theorem a70 {h : QH} (H : Sh h) (i : Int32) : qai 2 70 i h = if 0 ≤ i ∧ i.toNatClampNeg < 40 then some (hI h 70 i.toNatClampNeg) else none := H.ai (by decide) (by decide) rfl i
theorem s70 {h : QH} (H : Sh h) (i v : Int32) : qsi 2 70 i v h = if 0 ≤ i ∧ i.toNatClampNeg < 40 then some (hsI h 70 i.toNatClampNeg v) else none := H.ss (by decide) (by decide) (by decide) rfl i v
theorem l70 {h : QH} (H : Sh h) : qal 70 h = some 40 := H.al (by decide) (by decide) rfl (by decide)
theorem a71 {h : QH} (H : Sh h) (i : Int32) : qai 2 71 i h = if 0 ≤ i ∧ i.toNatClampNeg < 40 then some (hI h 71 i.toNatClampNeg) else none := H.ai (by decide) (by decide) rfl i
theorem s71 {h : QH} (H : Sh h) (i v : Int32) : qsi 2 71 i v h = if 0 ≤ i ∧ i.toNatClampNeg < 40 then some (hsI h 71 i.toNatClampNeg v) else none := H.ss (by decide) (by decide) (by decide) rfl i v
theorem l71 {h : QH} (H : Sh h) : qal 71 h = some 40 := H.al (by decide) (by decide) rfl (by decide)
theorem a72 {h : QH} (H : Sh h) (i : Int32) : qai 0 72 i h = if 0 ≤ i ∧ i.toNatClampNeg < 8 then some (hI h 72 i.toNatClampNeg) else none := H.ai (by decide) (by decide) rfl i
theorem s72 {h : QH} (H : Sh h) (i v : Int32) : qsi 0 72 i v h = if 0 ≤ i ∧ i.toNatClampNeg < 8 then some (hsI h 72 i.toNatClampNeg v) else none := H.ss (by decide) (by decide) (by decide) rfl i v
theorem l72 {h : QH} (H : Sh h) : qal 72 h = some 8 := H.al (by decide) (by decide) rfl (by decide)
theorem a73 {h : QH} (H : Sh h) (i : Int32) : qai 0 73 i h = if 0 ≤ i ∧ i.toNatClampNeg < 60 then some (hI h 73 i.toNatClampNeg) else none := H.ai (by decide) (by decide) rfl i
theorem s73 {h : QH} (H : Sh h) (i v : Int32) : qsi 0 73 i v h = if 0 ≤ i ∧ i.toNatClampNeg < 60 then some (hsI h 73 i.toNatClampNeg v) else none := H.ss (by decide) (by decide) (by decide) rfl i v
theorem l73 {h : QH} (H : Sh h) : qal 73 h = some 60 := H.al (by decide) (by decide) rfl (by decide)
theorem a74 {h : QH} (H : Sh h) (i : Int32) : qai 0 74 i h = if 0 ≤ i ∧ i.toNatClampNeg < 7936 then some (hI h 74 i.toNatClampNeg) else none := H.ai (by decide) (by decide) rfl i
theorem s74 {h : QH} (H : Sh h) (i v : Int32) : qsi 0 74 i v h = if 0 ≤ i ∧ i.toNatClampNeg < 7936 then some (hsI h 74 i.toNatClampNeg v) else none := H.ss (by decide) (by decide) (by decide) rfl i v
theorem l74 {h : QH} (H : Sh h) : qal 74 h = some 7936 := H.al (by decide) (by decide) rfl (by decide)
theorem a75 {h : QH} (H : Sh h) (i : Int32) : qai 2 75 i h = if 0 ≤ i ∧ i.toNatClampNeg < 7936 then some (hI h 75 i.toNatClampNeg) else none := H.ai (by decide) (by decide) rfl i
theorem s75 {h : QH} (H : Sh h) (i v : Int32) : qsi 2 75 i v h = if 0 ≤ i ∧ i.toNatClampNeg < 7936 then some (hsI h 75 i.toNatClampNeg v) else none := H.ss (by decide) (by decide) (by decide) rfl i v
theorem l75 {h : QH} (H : Sh h) : qal 75 h = some 7936 := H.al (by decide) (by decide) rfl (by decide)
theorem a76 {h : QH} (H : Sh h) (i : Int32) : qai 0 76 i h = if 0 ≤ i ∧ i.toNatClampNeg < 256 then some (hI h 76 i.toNatClampNeg) else none := H.ai (by decide) (by decide) rfl i
theorem s76 {h : QH} (H : Sh h) (i v : Int32) : qsi 0 76 i v h = if 0 ≤ i ∧ i.toNatClampNeg < 256 then some (hsI h 76 i.toNatClampNeg v) else none := H.ss (by decide) (by decide) (by decide) rfl i v
theorem l76 {h : QH} (H : Sh h) : qal 76 h = some 256 := H.al (by decide) (by decide) rfl (by decide)
theorem a77 {h : QH} (H : Sh h) (i : Int32) : qai 0 77 i h = if 0 ≤ i ∧ i.toNatClampNeg < 10 then some (hI h 77 i.toNatClampNeg) else none := H.ai (by decide) (by decide) rfl i
theorem s77 {h : QH} (H : Sh h) (i v : Int32) : qsi 0 77 i v h = if 0 ≤ i ∧ i.toNatClampNeg < 10 then some (hsI h 77 i.toNatClampNeg v) else none := H.ss (by decide) (by decide) (by decide) rfl i v
theorem l77 {h : QH} (H : Sh h) : qal 77 h = some 10 := H.al (by decide) (by decide) rfl (by decide)
theorem a78 {h : QH} (H : Sh h) (i : Int32) : qai 0 78 i h = if 0 ≤ i ∧ i.toNatClampNeg < 56 then some (hI h 78 i.toNatClampNeg) else none := H.ai (by decide) (by decide) rfl i
theorem s78 {h : QH} (H : Sh h) (i v : Int32) : qsi 0 78 i v h = if 0 ≤ i ∧ i.toNatClampNeg < 56 then some (hsI h 78 i.toNatClampNeg v) else none := H.ss (by decide) (by decide) (by decide) rfl i v
theorem l78 {h : QH} (H : Sh h) : qal 78 h = some 56 := H.al (by decide) (by decide) rfl (by decide)

/-! ===== literals; arrays at numbers ===== -/
theorem L0 : (0 : Int32) = nZ 0 := rfl
theorem L1 : (1 : Int32) = nZ 1 := rfl
theorem L2 : (2 : Int32) = nZ 2 := rfl
theorem L3 : (3 : Int32) = nZ 3 := rfl
theorem L4 : (4 : Int32) = nZ 4 := rfl
theorem L5 : (5 : Int32) = nZ 5 := rfl
theorem L6 : (6 : Int32) = nZ 6 := rfl
theorem L7 : (7 : Int32) = nZ 7 := rfl
theorem L8 : (8 : Int32) = nZ 8 := rfl
theorem L9 : (9 : Int32) = nZ 9 := rfl
theorem L10 : (10 : Int32) = nZ 10 := rfl
theorem L11 : (11 : Int32) = nZ 11 := rfl
theorem L12 : (12 : Int32) = nZ 12 := rfl
theorem L13 : (13 : Int32) = nZ 13 := rfl
theorem L14 : (14 : Int32) = nZ 14 := rfl
theorem L15 : (15 : Int32) = nZ 15 := rfl
theorem L16 : (16 : Int32) = nZ 16 := rfl
theorem L17 : (17 : Int32) = nZ 17 := rfl
theorem L18 : (18 : Int32) = nZ 18 := rfl
theorem L19 : (19 : Int32) = nZ 19 := rfl
theorem L20 : (20 : Int32) = nZ 20 := rfl
theorem L21 : (21 : Int32) = nZ 21 := rfl
theorem L22 : (22 : Int32) = nZ 22 := rfl
theorem L23 : (23 : Int32) = nZ 23 := rfl
theorem L24 : (24 : Int32) = nZ 24 := rfl
theorem L25 : (25 : Int32) = nZ 25 := rfl
theorem L26 : (26 : Int32) = nZ 26 := rfl
theorem L27 : (27 : Int32) = nZ 27 := rfl
theorem L28 : (28 : Int32) = nZ 28 := rfl
theorem L29 : (29 : Int32) = nZ 29 := rfl
theorem L30 : (30 : Int32) = nZ 30 := rfl
theorem L31 : (31 : Int32) = nZ 31 := rfl
theorem L32 : (32 : Int32) = nZ 32 := rfl
theorem L33 : (33 : Int32) = nZ 33 := rfl
theorem L34 : (34 : Int32) = nZ 34 := rfl
theorem L35 : (35 : Int32) = nZ 35 := rfl
theorem L36 : (36 : Int32) = nZ 36 := rfl
theorem L37 : (37 : Int32) = nZ 37 := rfl
theorem L38 : (38 : Int32) = nZ 38 := rfl
theorem L39 : (39 : Int32) = nZ 39 := rfl
theorem L40 : (40 : Int32) = nZ 40 := rfl
theorem L41 : (41 : Int32) = nZ 41 := rfl
theorem L42 : (42 : Int32) = nZ 42 := rfl
theorem L43 : (43 : Int32) = nZ 43 := rfl
theorem L44 : (44 : Int32) = nZ 44 := rfl
theorem L45 : (45 : Int32) = nZ 45 := rfl
theorem L46 : (46 : Int32) = nZ 46 := rfl
theorem L47 : (47 : Int32) = nZ 47 := rfl
theorem L48 : (48 : Int32) = nZ 48 := rfl
theorem L49 : (49 : Int32) = nZ 49 := rfl
theorem L50 : (50 : Int32) = nZ 50 := rfl
theorem L52 : (52 : Int32) = nZ 52 := rfl
theorem L57 : (57 : Int32) = nZ 57 := rfl
theorem L60 : (60 : Int32) = nZ 60 := rfl
theorem L90 : (90 : Int32) = nZ 90 := rfl
theorem L91 : (91 : Int32) = nZ 91 := rfl
theorem L93 : (93 : Int32) = nZ 93 := rfl
theorem L97 : (97 : Int32) = nZ 97 := rfl
theorem L99 : (99 : Int32) = nZ 99 := rfl
theorem L100 : (100 : Int32) = nZ 100 := rfl
theorem L101 : (101 : Int32) = nZ 101 := rfl
theorem L122 : (122 : Int32) = nZ 122 := rfl
theorem L240 : (240 : Int32) = nZ 240 := rfl
theorem L255 : (255 : Int32) = nZ 255 := rfl
theorem L256 : (256 : Int32) = nZ 256 := rfl
theorem L400 : (400 : Int32) = nZ 400 := rfl
theorem L401 : (401 : Int32) = nZ 401 := rfl
theorem L408 : (408 : Int32) = nZ 408 := rfl
theorem L409 : (409 : Int32) = nZ 409 := rfl
theorem L410 : (410 : Int32) = nZ 410 := rfl
theorem L411 : (411 : Int32) = nZ 411 := rfl
theorem L412 : (412 : Int32) = nZ 412 := rfl
theorem L413 : (413 : Int32) = nZ 413 := rfl
theorem L414 : (414 : Int32) = nZ 414 := rfl
theorem L420 : (420 : Int32) = nZ 420 := rfl
theorem L1000 : (1000 : Int32) = nZ 1000 := rfl
theorem L1001 : (1001 : Int32) = nZ 1001 := rfl
theorem L1103 : (1103 : Int32) = nZ 1103 := rfl
theorem L1200 : (1200 : Int32) = nZ 1200 := rfl
theorem L1240 : (1240 : Int32) = nZ 1240 := rfl
theorem L2820 : (2820 : Int32) = nZ 2820 := rfl
theorem L5220 : (5220 : Int32) = nZ 5220 := rfl
theorem L7936 : (7936 : Int32) = nZ 7936 := rfl
theorem L10440 : (10440 : Int32) = nZ 10440 := rfl
theorem L12345 : (12345 : Int32) = nZ 12345 := rfl
theorem L1000000 : (1000000 : Int32) = nZ 1000000 := rfl
theorem L1000003 : (1000003 : Int32) = nZ 1000003 := rfl
theorem L1073741823 : (1073741823 : Int32) = nZ 1073741823 := rfl
theorem z_nn {i : Nat} (hi : i < 2147483648) : (0 : Int32) ≤ nZ i := Int32.zero_le_ofNat_of_lt hi
theorem Sh.aN {h : QH} (H : Sh h) {a t n i : Nat} (ha : a < 79) (h9 : a ≠ 9) (e : shT a = (t, n)) (hi : i < n) (hn : n < 2147483648) : qai t a (nZ i) h = some (hI h a i) := by
  have b : i < 2147483648 := Nat.lt_trans hi hn
  rw [H.ai ha h9 e, nZ_nat b, if_pos ⟨z_nn b, hi⟩]
theorem Sh.sN {h : QH} (H : Sh h) {a t n i : Nat} (h10 : 10 ≤ a) (ha : a < 79) (h9 : a ≠ 9) (e : shT a = (t, n)) (hi : i < n) (hn : n < 2147483648) (v : Int32) : qsi t a (nZ i) v h = some (hsI h a i v) := by
  have b : i < 2147483648 := Nat.lt_trans hi hn
  rw [H.ss h10 ha h9 e, nZ_nat b, if_pos ⟨z_nn b, hi⟩]
theorem Sh.rN {h : QH} (H : Sh h) {a t n i : Nat} (h10 : 10 ≤ a) (ha : a < 79) (h9 : a ≠ 9) (e : shT a = (t, n)) (ht : t = 4 ∨ t = 5) (hi : i < n) (hn : n < 2147483648) : qar a (nZ i) h = some (hR h a i) := by
  have b : i < 2147483648 := Nat.lt_trans hi hn
  rw [H.arr h10 ha h9 e ht, nZ_nat b, if_pos ⟨z_nn b, hi⟩]
theorem A0 {h : QH} (H : Sh h) {i : Nat} (hi : i < 4) : qai 0 0 (nZ i) h = some (hI h 0 i) := H.aN (by decide) (by decide) rfl hi (by decide)
theorem A1 {h : QH} (H : Sh h) {i : Nat} (hi : i < 4) : qai 0 1 (nZ i) h = some (hI h 1 i) := H.aN (by decide) (by decide) rfl hi (by decide)
theorem A2 {h : QH} (H : Sh h) {i : Nat} (hi : i < 4) : qai 0 2 (nZ i) h = some (hI h 2 i) := H.aN (by decide) (by decide) rfl hi (by decide)
theorem A3 {h : QH} (H : Sh h) {i : Nat} (hi : i < 4) : qai 0 3 (nZ i) h = some (hI h 3 i) := H.aN (by decide) (by decide) rfl hi (by decide)
theorem A4 {h : QH} (H : Sh h) {i : Nat} (hi : i < 4) : qai 0 4 (nZ i) h = some (hI h 4 i) := H.aN (by decide) (by decide) rfl hi (by decide)
theorem A7 {h : QH} (H : Sh h) {i : Nat} (hi : i < 90) : qai 1 7 (nZ i) h = some (hI h 7 i) := H.aN (by decide) (by decide) rfl hi (by decide)
theorem A8 {h : QH} (H : Sh h) {i : Nat} (hi : i < 12) : qai 1 8 (nZ i) h = some (hI h 8 i) := H.aN (by decide) (by decide) rfl hi (by decide)
theorem A13 {h : QH} (H : Sh h) {i : Nat} (hi : i < 32) : qai 0 13 (nZ i) h = some (hI h 13 i) := H.aN (by decide) (by decide) rfl hi (by decide)
theorem S13 {h : QH} (H : Sh h) {i : Nat} (hi : i < 32) (v : Int32) : qsi 0 13 (nZ i) v h = some (hsI h 13 i v) := H.sN (by decide) (by decide) (by decide) rfl hi (by decide) v
theorem A14 {h : QH} (H : Sh h) {i : Nat} (hi : i < 8) : qai 0 14 (nZ i) h = some (hI h 14 i) := H.aN (by decide) (by decide) rfl hi (by decide)
theorem S14 {h : QH} (H : Sh h) {i : Nat} (hi : i < 8) (v : Int32) : qsi 0 14 (nZ i) v h = some (hsI h 14 i v) := H.sN (by decide) (by decide) (by decide) rfl hi (by decide) v
theorem A15 {h : QH} (H : Sh h) {i : Nat} (hi : i < 8) : qai 0 15 (nZ i) h = some (hI h 15 i) := H.aN (by decide) (by decide) rfl hi (by decide)
theorem S15 {h : QH} (H : Sh h) {i : Nat} (hi : i < 8) (v : Int32) : qsi 0 15 (nZ i) v h = some (hsI h 15 i v) := H.sN (by decide) (by decide) (by decide) rfl hi (by decide) v
theorem A16 {h : QH} (H : Sh h) {i : Nat} (hi : i < 40) : qai 0 16 (nZ i) h = some (hI h 16 i) := H.aN (by decide) (by decide) rfl hi (by decide)
theorem S16 {h : QH} (H : Sh h) {i : Nat} (hi : i < 40) (v : Int32) : qsi 0 16 (nZ i) v h = some (hsI h 16 i v) := H.sN (by decide) (by decide) (by decide) rfl hi (by decide) v
theorem A18 {h : QH} (H : Sh h) {i : Nat} (hi : i < 20) : qai 0 18 (nZ i) h = some (hI h 18 i) := H.aN (by decide) (by decide) rfl hi (by decide)
theorem S18 {h : QH} (H : Sh h) {i : Nat} (hi : i < 20) (v : Int32) : qsi 0 18 (nZ i) v h = some (hsI h 18 i v) := H.sN (by decide) (by decide) (by decide) rfl hi (by decide) v
theorem A20 {h : QH} (H : Sh h) {i : Nat} (hi : i < 60) : qai 0 20 (nZ i) h = some (hI h 20 i) := H.aN (by decide) (by decide) rfl hi (by decide)
theorem S20 {h : QH} (H : Sh h) {i : Nat} (hi : i < 60) (v : Int32) : qsi 0 20 (nZ i) v h = some (hsI h 20 i v) := H.sN (by decide) (by decide) (by decide) rfl hi (by decide) v
theorem A21 {h : QH} (H : Sh h) {i : Nat} (hi : i < 60) : qai 0 21 (nZ i) h = some (hI h 21 i) := H.aN (by decide) (by decide) rfl hi (by decide)
theorem S21 {h : QH} (H : Sh h) {i : Nat} (hi : i < 60) (v : Int32) : qsi 0 21 (nZ i) v h = some (hsI h 21 i v) := H.sN (by decide) (by decide) (by decide) rfl hi (by decide) v
theorem A22 {h : QH} (H : Sh h) {i : Nat} (hi : i < 60) : qai 0 22 (nZ i) h = some (hI h 22 i) := H.aN (by decide) (by decide) rfl hi (by decide)
theorem S22 {h : QH} (H : Sh h) {i : Nat} (hi : i < 60) (v : Int32) : qsi 0 22 (nZ i) v h = some (hsI h 22 i v) := H.sN (by decide) (by decide) (by decide) rfl hi (by decide) v
theorem A23 {h : QH} (H : Sh h) {i : Nat} (hi : i < 60) : qai 0 23 (nZ i) h = some (hI h 23 i) := H.aN (by decide) (by decide) rfl hi (by decide)
theorem S23 {h : QH} (H : Sh h) {i : Nat} (hi : i < 60) (v : Int32) : qsi 0 23 (nZ i) v h = some (hsI h 23 i v) := H.sN (by decide) (by decide) (by decide) rfl hi (by decide) v
theorem A24 {h : QH} (H : Sh h) {i : Nat} (hi : i < 60) : qai 0 24 (nZ i) h = some (hI h 24 i) := H.aN (by decide) (by decide) rfl hi (by decide)
theorem S24 {h : QH} (H : Sh h) {i : Nat} (hi : i < 60) (v : Int32) : qsi 0 24 (nZ i) v h = some (hsI h 24 i v) := H.sN (by decide) (by decide) (by decide) rfl hi (by decide) v
theorem R25 {h : QH} (H : Sh h) {i : Nat} (hi : i < 6) : qar 25 (nZ i) h = some (hR h 25 i) := H.rN (by decide) (by decide) (by decide) rfl (by decide) hi (by decide)
theorem R26 {h : QH} (H : Sh h) {i : Nat} (hi : i < 2) : qar 26 (nZ i) h = some (hR h 26 i) := H.rN (by decide) (by decide) (by decide) rfl (by decide) hi (by decide)
theorem A28 {h : QH} (H : Sh h) {i : Nat} (hi : i < 400) : qai 0 28 (nZ i) h = some (hI h 28 i) := H.aN (by decide) (by decide) rfl hi (by decide)
theorem S28 {h : QH} (H : Sh h) {i : Nat} (hi : i < 400) (v : Int32) : qsi 0 28 (nZ i) v h = some (hsI h 28 i v) := H.sN (by decide) (by decide) (by decide) rfl hi (by decide) v
theorem A30 {h : QH} (H : Sh h) {i : Nat} (hi : i < 0) : qai 0 30 (nZ i) h = some (hI h 30 i) := H.aN (by decide) (by decide) rfl hi (by decide)
theorem S30 {h : QH} (H : Sh h) {i : Nat} (hi : i < 0) (v : Int32) : qsi 0 30 (nZ i) v h = some (hsI h 30 i v) := H.sN (by decide) (by decide) (by decide) rfl hi (by decide) v
theorem A31 {h : QH} (H : Sh h) {i : Nat} (hi : i < 90) : qai 3 31 (nZ i) h = some (hI h 31 i) := H.aN (by decide) (by decide) rfl hi (by decide)
theorem S31 {h : QH} (H : Sh h) {i : Nat} (hi : i < 90) (v : Int32) : qsi 3 31 (nZ i) v h = some (hsI h 31 i v) := H.sN (by decide) (by decide) (by decide) rfl hi (by decide) v
theorem A32 {h : QH} (H : Sh h) {i : Nat} (hi : i < 12) : qai 3 32 (nZ i) h = some (hI h 32 i) := H.aN (by decide) (by decide) rfl hi (by decide)
theorem S32 {h : QH} (H : Sh h) {i : Nat} (hi : i < 12) (v : Int32) : qsi 3 32 (nZ i) v h = some (hsI h 32 i v) := H.sN (by decide) (by decide) (by decide) rfl hi (by decide) v
theorem A33 {h : QH} (H : Sh h) {i : Nat} (hi : i < 12) : qai 0 33 (nZ i) h = some (hI h 33 i) := H.aN (by decide) (by decide) rfl hi (by decide)
theorem S33 {h : QH} (H : Sh h) {i : Nat} (hi : i < 12) (v : Int32) : qsi 0 33 (nZ i) v h = some (hsI h 33 i v) := H.sN (by decide) (by decide) (by decide) rfl hi (by decide) v
theorem A34 {h : QH} (H : Sh h) {i : Nat} (hi : i < 12) : qai 0 34 (nZ i) h = some (hI h 34 i) := H.aN (by decide) (by decide) rfl hi (by decide)
theorem S34 {h : QH} (H : Sh h) {i : Nat} (hi : i < 12) (v : Int32) : qsi 0 34 (nZ i) v h = some (hsI h 34 i v) := H.sN (by decide) (by decide) (by decide) rfl hi (by decide) v
theorem A35 {h : QH} (H : Sh h) {i : Nat} (hi : i < 412) : qai 0 35 (nZ i) h = some (hI h 35 i) := H.aN (by decide) (by decide) rfl hi (by decide)
theorem S35 {h : QH} (H : Sh h) {i : Nat} (hi : i < 412) (v : Int32) : qsi 0 35 (nZ i) v h = some (hsI h 35 i v) := H.sN (by decide) (by decide) (by decide) rfl hi (by decide) v
theorem A37 {h : QH} (H : Sh h) {i : Nat} (hi : i < 9) : qai 0 37 (nZ i) h = some (hI h 37 i) := H.aN (by decide) (by decide) rfl hi (by decide)
theorem S37 {h : QH} (H : Sh h) {i : Nat} (hi : i < 9) (v : Int32) : qsi 0 37 (nZ i) v h = some (hsI h 37 i v) := H.sN (by decide) (by decide) (by decide) rfl hi (by decide) v
theorem A38 {h : QH} (H : Sh h) {i : Nat} (hi : i < 52) : qai 0 38 (nZ i) h = some (hI h 38 i) := H.aN (by decide) (by decide) rfl hi (by decide)
theorem S38 {h : QH} (H : Sh h) {i : Nat} (hi : i < 52) (v : Int32) : qsi 0 38 (nZ i) v h = some (hsI h 38 i v) := H.sN (by decide) (by decide) (by decide) rfl hi (by decide) v
theorem A39 {h : QH} (H : Sh h) {i : Nat} (hi : i < 4) : qai 0 39 (nZ i) h = some (hI h 39 i) := H.aN (by decide) (by decide) rfl hi (by decide)
theorem S39 {h : QH} (H : Sh h) {i : Nat} (hi : i < 4) (v : Int32) : qsi 0 39 (nZ i) v h = some (hsI h 39 i v) := H.sN (by decide) (by decide) (by decide) rfl hi (by decide) v
theorem A41 {h : QH} (H : Sh h) {i : Nat} (hi : i < 1240) : qai 0 41 (nZ i) h = some (hI h 41 i) := H.aN (by decide) (by decide) rfl hi (by decide)
theorem S41 {h : QH} (H : Sh h) {i : Nat} (hi : i < 1240) (v : Int32) : qsi 0 41 (nZ i) v h = some (hsI h 41 i v) := H.sN (by decide) (by decide) (by decide) rfl hi (by decide) v
theorem A42 {h : QH} (H : Sh h) {i : Nat} (hi : i < 1240) : qai 0 42 (nZ i) h = some (hI h 42 i) := H.aN (by decide) (by decide) rfl hi (by decide)
theorem S42 {h : QH} (H : Sh h) {i : Nat} (hi : i < 1240) (v : Int32) : qsi 0 42 (nZ i) v h = some (hsI h 42 i v) := H.sN (by decide) (by decide) (by decide) rfl hi (by decide) v
theorem A43 {h : QH} (H : Sh h) {i : Nat} (hi : i < 240) : qai 0 43 (nZ i) h = some (hI h 43 i) := H.aN (by decide) (by decide) rfl hi (by decide)
theorem S43 {h : QH} (H : Sh h) {i : Nat} (hi : i < 240) (v : Int32) : qsi 0 43 (nZ i) v h = some (hsI h 43 i v) := H.sN (by decide) (by decide) (by decide) rfl hi (by decide) v
theorem A44 {h : QH} (H : Sh h) {i : Nat} (hi : i < 60) : qai 0 44 (nZ i) h = some (hI h 44 i) := H.aN (by decide) (by decide) rfl hi (by decide)
theorem S44 {h : QH} (H : Sh h) {i : Nat} (hi : i < 60) (v : Int32) : qsi 0 44 (nZ i) v h = some (hsI h 44 i v) := H.sN (by decide) (by decide) (by decide) rfl hi (by decide) v
theorem A46 {h : QH} (H : Sh h) {i : Nat} (hi : i < 31) : qai 0 46 (nZ i) h = some (hI h 46 i) := H.aN (by decide) (by decide) rfl hi (by decide)
theorem S46 {h : QH} (H : Sh h) {i : Nat} (hi : i < 31) (v : Int32) : qsi 0 46 (nZ i) v h = some (hsI h 46 i v) := H.sN (by decide) (by decide) (by decide) rfl hi (by decide) v
theorem A47 {h : QH} (H : Sh h) {i : Nat} (hi : i < 8) : qai 0 47 (nZ i) h = some (hI h 47 i) := H.aN (by decide) (by decide) rfl hi (by decide)
theorem S47 {h : QH} (H : Sh h) {i : Nat} (hi : i < 8) (v : Int32) : qsi 0 47 (nZ i) v h = some (hsI h 47 i v) := H.sN (by decide) (by decide) (by decide) rfl hi (by decide) v
theorem A48 {h : QH} (H : Sh h) {i : Nat} (hi : i < 30) : qai 0 48 (nZ i) h = some (hI h 48 i) := H.aN (by decide) (by decide) rfl hi (by decide)
theorem S48 {h : QH} (H : Sh h) {i : Nat} (hi : i < 30) (v : Int32) : qsi 0 48 (nZ i) v h = some (hsI h 48 i v) := H.sN (by decide) (by decide) (by decide) rfl hi (by decide) v
theorem A49 {h : QH} (H : Sh h) {i : Nat} (hi : i < 256) : qai 2 49 (nZ i) h = some (hI h 49 i) := H.aN (by decide) (by decide) rfl hi (by decide)
theorem S49 {h : QH} (H : Sh h) {i : Nat} (hi : i < 256) (v : Int32) : qsi 2 49 (nZ i) v h = some (hsI h 49 i v) := H.sN (by decide) (by decide) (by decide) rfl hi (by decide) v
theorem A50 {h : QH} (H : Sh h) {i : Nat} (hi : i < 256) : qai 0 50 (nZ i) h = some (hI h 50 i) := H.aN (by decide) (by decide) rfl hi (by decide)
theorem S50 {h : QH} (H : Sh h) {i : Nat} (hi : i < 256) (v : Int32) : qsi 0 50 (nZ i) v h = some (hsI h 50 i v) := H.sN (by decide) (by decide) (by decide) rfl hi (by decide) v
theorem A51 {h : QH} (H : Sh h) {i : Nat} (hi : i < 256) : qai 0 51 (nZ i) h = some (hI h 51 i) := H.aN (by decide) (by decide) rfl hi (by decide)
theorem S51 {h : QH} (H : Sh h) {i : Nat} (hi : i < 256) (v : Int32) : qsi 0 51 (nZ i) v h = some (hsI h 51 i v) := H.sN (by decide) (by decide) (by decide) rfl hi (by decide) v
theorem B52_0 {h : QH} (H : Sh h) {v : Nat} (hv : v < 2) : qpz 9 0 52 (nZ v) h = some (hsI h 52 0 (nZ v)) := by
  rw [p52_0 H, if_pos]
  have : v = 0 ∨ v = 1 := by omega
  rcases this with e | e <;> subst e
  · exact Or.inl rfl
  · exact Or.inr rfl
theorem A53 {h : QH} (H : Sh h) {i : Nat} (hi : i < 64) : qai 0 53 (nZ i) h = some (hI h 53 i) := H.aN (by decide) (by decide) rfl hi (by decide)
theorem S53 {h : QH} (H : Sh h) {i : Nat} (hi : i < 64) (v : Int32) : qsi 0 53 (nZ i) v h = some (hsI h 53 i v) := H.sN (by decide) (by decide) (by decide) rfl hi (by decide) v
theorem A54 {h : QH} (H : Sh h) {i : Nat} (hi : i < 5) : qai 0 54 (nZ i) h = some (hI h 54 i) := H.aN (by decide) (by decide) rfl hi (by decide)
theorem S54 {h : QH} (H : Sh h) {i : Nat} (hi : i < 5) (v : Int32) : qsi 0 54 (nZ i) v h = some (hsI h 54 i v) := H.sN (by decide) (by decide) (by decide) rfl hi (by decide) v
theorem A55 {h : QH} (H : Sh h) {i : Nat} (hi : i < 10) : qai 0 55 (nZ i) h = some (hI h 55 i) := H.aN (by decide) (by decide) rfl hi (by decide)
theorem S55 {h : QH} (H : Sh h) {i : Nat} (hi : i < 10) (v : Int32) : qsi 0 55 (nZ i) v h = some (hsI h 55 i v) := H.sN (by decide) (by decide) (by decide) rfl hi (by decide) v
theorem B56_21 {h : QH} (H : Sh h) {v : Nat} (hv : v < 2) : qpz 12 21 56 (nZ v) h = some (hsI h 56 21 (nZ v)) := by
  rw [p56_21 H, if_pos]
  have : v = 0 ∨ v = 1 := by omega
  rcases this with e | e <;> subst e
  · exact Or.inl rfl
  · exact Or.inr rfl
theorem A57 {h : QH} (H : Sh h) {i : Nat} (hi : i < 7) : qai 0 57 (nZ i) h = some (hI h 57 i) := H.aN (by decide) (by decide) rfl hi (by decide)
theorem S57 {h : QH} (H : Sh h) {i : Nat} (hi : i < 7) (v : Int32) : qsi 0 57 (nZ i) v h = some (hsI h 57 i v) := H.sN (by decide) (by decide) (by decide) rfl hi (by decide) v
theorem A58 {h : QH} (H : Sh h) {i : Nat} (hi : i < 5220) : qai 0 58 (nZ i) h = some (hI h 58 i) := H.aN (by decide) (by decide) rfl hi (by decide)
theorem S58 {h : QH} (H : Sh h) {i : Nat} (hi : i < 5220) (v : Int32) : qsi 0 58 (nZ i) v h = some (hsI h 58 i v) := H.sN (by decide) (by decide) (by decide) rfl hi (by decide) v
theorem A59 {h : QH} (H : Sh h) {i : Nat} (hi : i < 10440) : qai 0 59 (nZ i) h = some (hI h 59 i) := H.aN (by decide) (by decide) rfl hi (by decide)
theorem S59 {h : QH} (H : Sh h) {i : Nat} (hi : i < 10440) (v : Int32) : qsi 0 59 (nZ i) v h = some (hsI h 59 i v) := H.sN (by decide) (by decide) (by decide) rfl hi (by decide) v
theorem A60 {h : QH} (H : Sh h) {i : Nat} (hi : i < 2) : qai 2 60 (nZ i) h = some (hI h 60 i) := H.aN (by decide) (by decide) rfl hi (by decide)
theorem S60 {h : QH} (H : Sh h) {i : Nat} (hi : i < 2) (v : Int32) : qsi 2 60 (nZ i) v h = some (hsI h 60 i v) := H.sN (by decide) (by decide) (by decide) rfl hi (by decide) v
theorem A61 {h : QH} (H : Sh h) {i : Nat} (hi : i < 90) : qai 1 61 (nZ i) h = some (hI h 61 i) := H.aN (by decide) (by decide) rfl hi (by decide)
theorem S61 {h : QH} (H : Sh h) {i : Nat} (hi : i < 90) (v : Int32) : qsi 1 61 (nZ i) v h = some (hsI h 61 i v) := H.sN (by decide) (by decide) (by decide) rfl hi (by decide) v
theorem A62 {h : QH} (H : Sh h) {i : Nat} (hi : i < 400) : qai 1 62 (nZ i) h = some (hI h 62 i) := H.aN (by decide) (by decide) rfl hi (by decide)
theorem S62 {h : QH} (H : Sh h) {i : Nat} (hi : i < 400) (v : Int32) : qsi 1 62 (nZ i) v h = some (hsI h 62 i v) := H.sN (by decide) (by decide) (by decide) rfl hi (by decide) v
theorem A63 {h : QH} (H : Sh h) {i : Nat} (hi : i < 5) : qai 0 63 (nZ i) h = some (hI h 63 i) := H.aN (by decide) (by decide) rfl hi (by decide)
theorem S63 {h : QH} (H : Sh h) {i : Nat} (hi : i < 5) (v : Int32) : qsi 0 63 (nZ i) v h = some (hsI h 63 i v) := H.sN (by decide) (by decide) (by decide) rfl hi (by decide) v
theorem A64 {h : QH} (H : Sh h) {i : Nat} (hi : i < 401) : qai 0 64 (nZ i) h = some (hI h 64 i) := H.aN (by decide) (by decide) rfl hi (by decide)
theorem S64 {h : QH} (H : Sh h) {i : Nat} (hi : i < 401) (v : Int32) : qsi 0 64 (nZ i) v h = some (hsI h 64 i v) := H.sN (by decide) (by decide) (by decide) rfl hi (by decide) v
theorem A65 {h : QH} (H : Sh h) {i : Nat} (hi : i < 401) : qai 0 65 (nZ i) h = some (hI h 65 i) := H.aN (by decide) (by decide) rfl hi (by decide)
theorem S65 {h : QH} (H : Sh h) {i : Nat} (hi : i < 401) (v : Int32) : qsi 0 65 (nZ i) v h = some (hsI h 65 i v) := H.sN (by decide) (by decide) (by decide) rfl hi (by decide) v
theorem A66 {h : QH} (H : Sh h) {i : Nat} (hi : i < 401) : qai 0 66 (nZ i) h = some (hI h 66 i) := H.aN (by decide) (by decide) rfl hi (by decide)
theorem S66 {h : QH} (H : Sh h) {i : Nat} (hi : i < 401) (v : Int32) : qsi 0 66 (nZ i) v h = some (hsI h 66 i v) := H.sN (by decide) (by decide) (by decide) rfl hi (by decide) v
theorem A67 {h : QH} (H : Sh h) {i : Nat} (hi : i < 9) : qai 0 67 (nZ i) h = some (hI h 67 i) := H.aN (by decide) (by decide) rfl hi (by decide)
theorem S67 {h : QH} (H : Sh h) {i : Nat} (hi : i < 9) (v : Int32) : qsi 0 67 (nZ i) v h = some (hsI h 67 i v) := H.sN (by decide) (by decide) (by decide) rfl hi (by decide) v
theorem A68 {h : QH} (H : Sh h) {i : Nat} (hi : i < 40) : qai 0 68 (nZ i) h = some (hI h 68 i) := H.aN (by decide) (by decide) rfl hi (by decide)
theorem S68 {h : QH} (H : Sh h) {i : Nat} (hi : i < 40) (v : Int32) : qsi 0 68 (nZ i) v h = some (hsI h 68 i v) := H.sN (by decide) (by decide) (by decide) rfl hi (by decide) v
theorem A69 {h : QH} (H : Sh h) {i : Nat} (hi : i < 40) : qai 0 69 (nZ i) h = some (hI h 69 i) := H.aN (by decide) (by decide) rfl hi (by decide)
theorem S69 {h : QH} (H : Sh h) {i : Nat} (hi : i < 40) (v : Int32) : qsi 0 69 (nZ i) v h = some (hsI h 69 i v) := H.sN (by decide) (by decide) (by decide) rfl hi (by decide) v
theorem A70 {h : QH} (H : Sh h) {i : Nat} (hi : i < 40) : qai 2 70 (nZ i) h = some (hI h 70 i) := H.aN (by decide) (by decide) rfl hi (by decide)
theorem S70 {h : QH} (H : Sh h) {i : Nat} (hi : i < 40) (v : Int32) : qsi 2 70 (nZ i) v h = some (hsI h 70 i v) := H.sN (by decide) (by decide) (by decide) rfl hi (by decide) v
theorem A71 {h : QH} (H : Sh h) {i : Nat} (hi : i < 40) : qai 2 71 (nZ i) h = some (hI h 71 i) := H.aN (by decide) (by decide) rfl hi (by decide)
theorem S71 {h : QH} (H : Sh h) {i : Nat} (hi : i < 40) (v : Int32) : qsi 2 71 (nZ i) v h = some (hsI h 71 i v) := H.sN (by decide) (by decide) (by decide) rfl hi (by decide) v
theorem A72 {h : QH} (H : Sh h) {i : Nat} (hi : i < 8) : qai 0 72 (nZ i) h = some (hI h 72 i) := H.aN (by decide) (by decide) rfl hi (by decide)
theorem S72 {h : QH} (H : Sh h) {i : Nat} (hi : i < 8) (v : Int32) : qsi 0 72 (nZ i) v h = some (hsI h 72 i v) := H.sN (by decide) (by decide) (by decide) rfl hi (by decide) v
theorem A73 {h : QH} (H : Sh h) {i : Nat} (hi : i < 60) : qai 0 73 (nZ i) h = some (hI h 73 i) := H.aN (by decide) (by decide) rfl hi (by decide)
theorem S73 {h : QH} (H : Sh h) {i : Nat} (hi : i < 60) (v : Int32) : qsi 0 73 (nZ i) v h = some (hsI h 73 i v) := H.sN (by decide) (by decide) (by decide) rfl hi (by decide) v
theorem A74 {h : QH} (H : Sh h) {i : Nat} (hi : i < 7936) : qai 0 74 (nZ i) h = some (hI h 74 i) := H.aN (by decide) (by decide) rfl hi (by decide)
theorem S74 {h : QH} (H : Sh h) {i : Nat} (hi : i < 7936) (v : Int32) : qsi 0 74 (nZ i) v h = some (hsI h 74 i v) := H.sN (by decide) (by decide) (by decide) rfl hi (by decide) v
theorem A75 {h : QH} (H : Sh h) {i : Nat} (hi : i < 7936) : qai 2 75 (nZ i) h = some (hI h 75 i) := H.aN (by decide) (by decide) rfl hi (by decide)
theorem S75 {h : QH} (H : Sh h) {i : Nat} (hi : i < 7936) (v : Int32) : qsi 2 75 (nZ i) v h = some (hsI h 75 i v) := H.sN (by decide) (by decide) (by decide) rfl hi (by decide) v
theorem A76 {h : QH} (H : Sh h) {i : Nat} (hi : i < 256) : qai 0 76 (nZ i) h = some (hI h 76 i) := H.aN (by decide) (by decide) rfl hi (by decide)
theorem S76 {h : QH} (H : Sh h) {i : Nat} (hi : i < 256) (v : Int32) : qsi 0 76 (nZ i) v h = some (hsI h 76 i v) := H.sN (by decide) (by decide) (by decide) rfl hi (by decide) v
theorem A77 {h : QH} (H : Sh h) {i : Nat} (hi : i < 10) : qai 0 77 (nZ i) h = some (hI h 77 i) := H.aN (by decide) (by decide) rfl hi (by decide)
theorem S77 {h : QH} (H : Sh h) {i : Nat} (hi : i < 10) (v : Int32) : qsi 0 77 (nZ i) v h = some (hsI h 77 i v) := H.sN (by decide) (by decide) (by decide) rfl hi (by decide) v
theorem A78 {h : QH} (H : Sh h) {i : Nat} (hi : i < 56) : qai 0 78 (nZ i) h = some (hI h 78 i) := H.aN (by decide) (by decide) rfl hi (by decide)
theorem S78 {h : QH} (H : Sh h) {i : Nat} (hi : i < 56) (v : Int32) : qsi 0 78 (nZ i) v h = some (hsI h 78 i v) := H.sN (by decide) (by decide) (by decide) rfl hi (by decide) v
theorem rI0 {h : QH} : (if (nZ 0 : Int32) = nZ 0 ∨ (nZ 0 : Int32) = nZ 1 then some (some (qI (nZ 0)), h) else none : QO) = some (some (qI (nZ 0)), h) := rfl
theorem rI1 {h : QH} : (if (nZ 1 : Int32) = nZ 0 ∨ (nZ 1 : Int32) = nZ 1 then some (some (qI (nZ 1)), h) else none : QO) = some (some (qI (nZ 1)), h) := rfl
theorem rIv {h : QH} {v : Nat} (hv : v < 2) : (if (nZ v : Int32) = nZ 0 ∨ (nZ v : Int32) = nZ 1 then some (some (qI (nZ v)), h) else none : QO) = some (some (qI (nZ v)), h) := by
  have : v = 0 ∨ v = 1 := by omega
  rcases this with e | e <;> subst e <;> rfl

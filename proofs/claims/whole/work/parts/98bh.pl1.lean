/-! ===== the plan: bits ===== -/
def pc (m : Nat) : Nat := (m &&& 1) + (m >>> 1 &&& 1) + (m >>> 2 &&& 1) + (m >>> 3 &&& 1) + (m >>> 4 &&& 1) + (m >>> 5 &&& 1) + (m >>> 6 &&& 1) + (m >>> 7 &&& 1)
def tz (m : Nat) : Nat := if m.testBit 0 then 0 else if m.testBit 1 then 1 else if m.testBit 2 then 2 else if m.testBit 3 then 3 else if m.testBit 4 then 4 else if m.testBit 5 then 5 else if m.testBit 6 then 6 else 7
def pX1 (a0 : Int32) : Int32 := a0 - (((Int32.toUInt32 a0 >>> (Int32.toUInt32 1 &&& Int32.toUInt32 31)).toInt32) &&& 1431655765)
def pX2 (a0 : Int32) : Int32 := (a0 &&& 858993459) + (((Int32.toUInt32 a0 >>> (Int32.toUInt32 2 &&& Int32.toUInt32 31)).toInt32) &&& 858993459)
def pX3 (a0 : Int32) : Int32 := (a0 + ((Int32.toUInt32 a0 >>> (Int32.toUInt32 4 &&& Int32.toUInt32 31)).toInt32)) &&& 252645135
def pX4 (a0 : Int32) : Int32 := a0 + ((Int32.toUInt32 a0 >>> (Int32.toUInt32 8 &&& Int32.toUInt32 31)).toInt32)
def pX5 (a0 : Int32) : Int32 := a0 + ((Int32.toUInt32 a0 >>> (Int32.toUInt32 16 &&& Int32.toUInt32 31)).toInt32)
theorem pX_ok : ∀ m, m < 256 → (pX5 (pX4 (pX3 (pX2 (pX1 (nZ m))))) &&& 63) = nZ (pc m) := by decide +kernel
theorem pc_le : ∀ m, m < 256 → pc m ≤ 8 ∧ (1 ≤ m → 1 ≤ pc m) ∧ (m = 0 → pc m = 0) := by decide +kernel
theorem tz_ok : ∀ m, m < 256 → 1 ≤ m → tz m < 8 ∧ m.testBit (tz m) = true ∧ ∀ j, j < 8 → j < tz m → m.testBit j = false := by decide +kernel
theorem c1 (d m : Nat) (hm : m < 256) (h : QH) : qcl (d + 1) 1 [qI (nZ m)] h = some (some (qI (nZ (pc m))), h) := by
  rw [E1, E1_10, E1_24, E1_34, E1_41, E1_48, ← pX_ok m hm]
  rfl
def aX (m : Nat) : Int32 := (nZ m ^^^ (-1)) &&& (nZ m - 1)
def sX (a : Int32) (k : Int32) : Int32 := (Int32.toUInt32 a >>> (Int32.toUInt32 k &&& Int32.toUInt32 31)).toInt32
theorem aX_0 : ∀ m, m < 256 → 1 ≤ m → ¬(65536 < aX m) ∧ ¬(256 < aX m) ∧ (¬(0 < aX m) → (aX m &&& 32) = nZ (tz m)) := by decide +kernel
theorem aX_1 : ∀ m, m < 256 → 1 ≤ m → 0 < aX m → 16 < aX m → 4 < sX (aX m) 4 → 1 + 4 + 2 + sX (sX (sX (aX m) 4) 2) 1 = nZ (tz m) := by decide +kernel
theorem aX_2 : ∀ m, m < 256 → 1 ≤ m → 0 < aX m → 16 < aX m → ¬(4 < sX (aX m) 4) → 1 + 4 + sX (sX (aX m) 4) 1 = nZ (tz m) := by decide +kernel
theorem aX_3 : ∀ m, m < 256 → 1 ≤ m → 0 < aX m → ¬(16 < aX m) → 4 < aX m → 1 + 2 + sX (sX (aX m) 2) 1 = nZ (tz m) := by decide +kernel
theorem aX_4 : ∀ m, m < 256 → 1 ≤ m → 0 < aX m → ¬(16 < aX m) → ¬(4 < aX m) → 1 + sX (aX m) 1 = nZ (tz m) := by decide +kernel
theorem c2 (d m : Nat) (hm : m < 256) (h1 : 1 ≤ m) (h : QH) : qcl (d + 1) 2 [qI (nZ m)] h = some (some (qI (nZ (tz m))), h) := by
  have e0 : ((nZ m ^^^ (-1)) &&& (nZ m - 1)) = aX m := rfl
  have eS : ∀ a k : Int32, (Int32.toUInt32 a >>> (Int32.toUInt32 k &&& Int32.toUInt32 31)).toInt32 = sX a k := fun _ _ => rfl
  obtain ⟨a1, a2, a3⟩ := aX_0 m hm h1
  rw [E2, e0, E2_8]
  by_cases c0 : 0 < aX m
  · rw [if_pos c0, E2_19, if_neg a1, E2_34, if_neg a2, E2_49]
    by_cases c1 : 16 < aX m
    · rw [if_pos c1, eS, E2_62]
      by_cases c2 : 4 < sX (aX m) 4
      · rw [if_pos c2, eS, E2_74, eS, aX_1 m hm h1 c0 c1 c2]
      · rw [if_neg c2, E2_74, eS, aX_2 m hm h1 c0 c1 c2]
    · rw [if_neg c1, E2_62]
      by_cases c2 : 4 < aX m
      · rw [if_pos c2, eS, E2_74, eS, aX_3 m hm h1 c0 c1 c2]
      · rw [if_neg c2, E2_74, eS, aX_4 m hm h1 c0 c1 c2]
  · rw [if_neg c0, a3 c0]
def bX (m : Nat) (k : Int32) : Int32 := (nZ m >>> (k &&& 31)) &&& 1
theorem bX_ok : ∀ m, m < 256 → 0 + bX m 0 + bX m (0 + 1) + bX m (0 + 1 + 1) + bX m (0 + 1 + 1 + 1) + bX m (0 + 1 + 1 + 1 + 1) + bX m (0 + 1 + 1 + 1 + 1 + 1) + bX m (0 + 1 + 1 + 1 + 1 + 1 + 1) + bX m (0 + 1 + 1 + 1 + 1 + 1 + 1 + 1) = nZ (pc m) := by decide +kernel
theorem m228 (d m : Nat) (hm : m < 256) (h : QH) : qcl (d + 1) 228 [qI (nZ m)] h = some (some (qI (nZ (pc m))), h) := by
  rw [E228, E228_4, if_pos (by decide), E228_4, if_pos (by decide), E228_4, if_pos (by decide), E228_4, if_pos (by decide), E228_4, if_pos (by decide), E228_4, if_pos (by decide), E228_4, if_pos (by decide), E228_4, if_pos (by decide), E228_4, if_neg (by decide), ← bX_ok m hm]
  rfl

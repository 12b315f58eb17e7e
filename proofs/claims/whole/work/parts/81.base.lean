/-! ===== rules for closed forms ===== -/
theorem z0 {β : Type} (x y : β) : (if (0 : Int32) = 0 ∨ (0 : Int32) = 1 then x else y) = x := rfl
theorem z1 {β : Type} (x y : β) : (if (1 : Int32) = 0 ∨ (1 : Int32) = 1 then x else y) = x := rfl
theorem jI {x : Int32} {h : QH} {f : Int32 → QH → QO} : cI (some (some (qI x), h)) f = f x h := rfl
theorem jL {x : Int64} {h : QH} {f : Int64 → QH → QO} : cL (some (some (qL x), h)) f = f x h := rfl
theorem jR {x : Option Nat} {h : QH} {f : Option Nat → QH → QO} : cR (some (some (qR x), h)) f = f x h := rfl
theorem jV {h : QH} {f : QH → QO} : cV (some (none, h)) f = f h := rfl
theorem cI_ite {p : Prop} [Decidable p] {a b : QO} {f : Int32 → QH → QO} : cI (if p then a else b) f = if p then cI a f else cI b f := by split <;> rfl
theorem cV_ite {p : Prop} [Decidable p] {a b : QO} {f : QH → QO} : cV (if p then a else b) f = if p then cV a f else cV b f := by split <;> rfl
theorem ob_ite {α β : Type} {p : Prop} [Decidable p] {a b : Option α} {f : α → Option β} : (if p then a else b).bind f = if p then a.bind f else b.bind f := by split <;> rfl
theorem ob_some {α β : Type} {x : α} {f : α → Option β} : (some x).bind f = f x := rfl
def Ro (h : QH) : Prop := ∀ k, k < 9 → ∀ j, hI h k j = qroI (fun _ => 0) k j
theorem Ro_si {h : QH} {a i : Nat} {v : Int32} (ha : 10 ≤ a) (H : Ro h) : Ro (hsI h a i v) := fun k hk j => by
  rw [hI_si, if_neg (fun z => by omega)]
  exact H k hk j

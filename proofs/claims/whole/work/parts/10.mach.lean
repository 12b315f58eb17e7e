/-! ===== THE SMALL MACHINE: values, heap, one instruction, the program's run ===== -/
/-- a value: an int, a long, or a reference (a cell's number, or null) -/
abbrev QV : Type := Int32 ⊕ (Int64 ⊕ Option Nat)
abbrev qI (x : Int32) : QV := Sum.inl x
abbrev qL (x : Int64) : QV := Sum.inr (Sum.inl x)
abbrev qR (o : Option Nat) : QV := Sum.inr (Sum.inr o)
/-- a local: not known, or a value -/
abbrev QS : Type := Option QV
abbrev sI (x : Int32) : QS := some (Sum.inl x)
abbrev sL (x : Int64) : QS := some (Sum.inr (Sum.inl x))
abbrev sR (o : Option Nat) : QS := some (Sum.inr (Sum.inr o))
/-- the heap: how many cells, how many slots; of each cell its tag and length; its ints; its references -/
abbrev QH : Type := Nat × Nat × (Nat → Nat × Nat) × (Nat → Nat → Int32) × (Nat → Nat → Option Nat)
abbrev QO : Type := Option (Option QV × QH)
abbrev QF : Type := Nat → Nat → Nat → List QS → List QV → QH → QO
def hN (h : QH) : Nat := h.1
def hS (h : QH) : Nat := h.2.1
def hT (h : QH) (a : Nat) : Nat := (h.2.2.1 a).1
def hL (h : QH) (a : Nat) : Nat := (h.2.2.1 a).2
def hI (h : QH) : Nat → Nat → Int32 := h.2.2.2.1
def hR (h : QH) : Nat → Nat → Option Nat := h.2.2.2.2
def up2 {α : Type} (f : Nat → Nat → α) (a i : Nat) (v : α) : Nat → Nat → α := fun b j => if b = a ∧ j = i then v else f b j
def hsI (h : QH) (a i : Nat) (v : Int32) : QH := (h.1, h.2.1, h.2.2.1, up2 h.2.2.2.1 a i v, h.2.2.2.2)
def hsR (h : QH) (a i : Nat) (v : Option Nat) : QH := (h.1, h.2.1, h.2.2.1, h.2.2.2.1, up2 h.2.2.2.2 a i v)
def hPush (h : QH) (t n : Nat) : QH := (h.1 + 1, h.2.1 + n, fun b => if b = h.1 then (t, n) else h.2.2.1 b, fun b j => if b = h.1 then 0 else h.2.2.2.1 b j, fun b j => if b = h.1 then none else h.2.2.2.2 b j)
/-- fields: class c, slot k, of the object a -/
def qgi (c k a : Nat) (h : QH) : Option Int32 := if a < hN h ∧ hT h a = 16 + c ∧ k < hL h a then some (hI h a k) else none
def qgr (c k a : Nat) (h : QH) : Option (Option Nat) := if a < hN h ∧ hT h a = 16 + c ∧ k < hL h a then some (hR h a k) else none
def qpi (c k a : Nat) (v : Int32) (h : QH) : Option QH := if (10 ≤ a ∧ a < hN h) ∧ hT h a = 16 + c ∧ k < hL h a then some (hsI h a k v) else none
def qpz (c k a : Nat) (v : Int32) (h : QH) : Option QH := if (10 ≤ a ∧ a < hN h) ∧ hT h a = 16 + c ∧ k < hL h a ∧ (v = 0 ∨ v = 1) then some (hsI h a k v) else none
def qpr (c k a : Nat) (v : Option Nat) (h : QH) : Option QH := if (10 ≤ a ∧ a < hN h) ∧ hT h a = 16 + c ∧ k < hL h a then some (hsR h a k v) else none
/-- arrays: tags 0 int, 1 byte, 2 boolean, 3 char, 4 World, 5 Law -/
def qai (t a : Nat) (i : Int32) (h : QH) : Option Int32 := if a < hN h ∧ hT h a = t ∧ 0 ≤ i ∧ i.toNatClampNeg < hL h a then some (hI h a i.toNatClampNeg) else none
def qar (a : Nat) (i : Int32) (h : QH) : Option (Option Nat) := if (10 ≤ a ∧ a < hN h) ∧ (hT h a = 4 ∨ hT h a = 5) ∧ 0 ≤ i ∧ i.toNatClampNeg < hL h a then some (hR h a i.toNatClampNeg) else none
def qsi (t a : Nat) (i v : Int32) (h : QH) : Option QH := if (10 ≤ a ∧ a < hN h) ∧ hT h a = t ∧ 0 ≤ i ∧ i.toNatClampNeg < hL h a then some (hsI h a i.toNatClampNeg v) else none
/-- a reference that an array of tag t may hold -/
def qfit (t : Nat) (v : Option Nat) (h : QH) : Bool := match v with
  | none => true
  | some b => decide ((10 ≤ b ∧ b < hN h) ∧ ((t = 4 ∧ hT h b = 26) ∨ (t = 5 ∧ hT h b = 17)))
def qsr (a : Nat) (i : Int32) (v : Option Nat) (h : QH) : Option QH := if (10 ≤ a ∧ a < hN h) ∧ (hT h a = 4 ∨ hT h a = 5) ∧ 0 ≤ i ∧ i.toNatClampNeg < hL h a ∧ qfit (hT h a) v h = true then some (hsR h a i.toNatClampNeg v) else none
def qal (a : Nat) (h : QH) : Option Int32 := if a < hN h ∧ hT h a < 6 then some (Int32.ofNat (hL h a)) else none
def qna (t : Nat) (n : Int32) (h : QH) : Option QH := if 0 ≤ n ∧ n.toNatClampNeg ≤ 100000 then some (hPush h t n.toNatClampNeg) else none
def qno (c n : Nat) (h : QH) : QH := hPush h (16 + c) n
def qcp (s : Nat) (sp : Int32) (d : Nat) (dp n : Int32) (h : QH) : Option QH := if (10 ≤ s ∧ s < hN h) ∧ (10 ≤ d ∧ d < hN h) ∧ hT h s = 0 ∧ hT h d = 0 ∧ 0 ≤ sp ∧ 0 ≤ dp ∧ 0 ≤ n ∧ sp.toNatClampNeg + n.toNatClampNeg ≤ hL h s ∧ dp.toNatClampNeg + n.toNatClampNeg ≤ hL h d then some (h.1, h.2.1, h.2.2.1, fun b j => if b = d ∧ dp.toNatClampNeg ≤ j ∧ j < dp.toNatClampNeg + n.toNatClampNeg then hI h s (sp.toNatClampNeg + (j - dp.toNatClampNeg)) else hI h b j, h.2.2.2.2) else none
def qcn (a : Nat) (h : QH) : Option QH := if (10 ≤ a ∧ a < hN h) ∧ hT h a = 0 then some (h.1 + 1, h.2.1 + hL h a, fun b => if b = h.1 then (0, hL h a) else h.2.2.1 b, fun b j => if b = h.1 then hI h a j else h.2.2.2.1 b j, fun b j => if b = h.1 then none else h.2.2.2.2 b j) else none
def qca (a : Nat) (h : QH) : Option Unit := if (10 ≤ a ∧ a < hN h) ∧ hT h a = 0 then some () else none
/-- locals -/
def nthL : List QS → Nat → QS
  | [], _ => none
  | a :: _, 0 => a
  | _ :: l, n + 1 => nthL l n
def setL : List QS → Nat → QS → List QS
  | [], _, _ => []
  | _ :: l, 0, v => v :: l
  | a :: l, n + 1, v => a :: setL l n v
def isLng (s : QS) : Bool := match s with
  | some (.inr (.inl _)) => true
  | _ => false
/-- what is ahead of k is forgotten, if it is a long -/
def preL (ls : List QS) (k : Nat) : List QS := cond (isLng (nthL ls (k - 1))) (setL ls (k - 1) none) ls
def st1 (ls : List QS) (k : Nat) (v : QV) : List QS := setL (preL ls k) k (some v)
def st2 (ls : List QS) (k : Nat) (v : QV) : List QS := setL (setL (preL ls k) k (some v)) (k + 1) none
def kl : List Nat → List QS → List QS
  | [], ls => ls
  | k :: ks, ls => kl ks (setL ls k none)
def pad : Nat → List QS
  | 0 => []
  | n + 1 => none :: pad n
def argL : List QV → Nat → List QS
  | [], n => pad n
  | .inl x :: r, n => some (.inl x) :: argL r (n - 1)
  | .inr (.inr o) :: r, n => some (.inr (.inr o)) :: argL r (n - 1)
  | .inr (.inl x) :: r, n => some (.inr (.inl x)) :: none :: argL r (n - 2)
/-- an entry of the program: the instruction, where the next one is, numbers, a constant, a switch -/
abbrev QE : Type := Instr × Nat × Nat × Nat × Nat × Nat × Int32 × List (Int32 × Nat)
/-- what one instruction asks for: an end; to go on; a call -/
abbrev QN : Type := (Option QV × QH) ⊕ ((Nat × List QS × List QV × QH) ⊕ (Nat × List QV × Nat × Nat × List QS × List QV × QH))
abbrev nRet (v : Option QV) (h : QH) : QN := Sum.inl (v, h)
abbrev nGo (pc : Nat) (ls : List QS) (st : List QV) (h : QH) : QN := Sum.inr (Sum.inl (pc, ls, st, h))
abbrev nCall (k : Nat) (as : List QV) (rk nx : Nat) (ls : List QS) (st : List QV) (h : QH) : QN := Sum.inr (Sum.inr (k, as, rk, nx, ls, st, h))
def eI {β : Type} (w : QV) (f : Int32 → Option β) : Option β := match w with
  | .inl x => f x
  | _ => none
def eL {β : Type} (w : QV) (f : Int64 → Option β) : Option β := match w with
  | .inr (.inl x) => f x
  | _ => none
def eR {β : Type} (w : QV) (f : Option Nat → Option β) : Option β := match w with
  | .inr (.inr o) => f o
  | _ => none
/-- a value of one word -/
def eC {β : Type} (w : QV) (f : Option β) : Option β := match w with
  | .inr (.inl _) => none
  | _ => f
def eS {β : Type} (s : QS) (f : QV → Option β) : Option β := match s with
  | some v => f v
  | none => none
def e1 {β : Type} (st : List QV) (f : QV → List QV → Option β) : Option β := match st with
  | v :: r => f v r
  | [] => none
def e0 {β : Type} (st : List QV) (f : Option β) : Option β := match st with
  | [] => f
  | _ :: _ => none
/-- two ints on top: the lower one first -/
def e2I {β : Type} (st : List QV) (f : Int32 → Int32 → List QV → Option β) : Option β := e1 st fun y r => e1 r fun x r => eI y fun y => eI x fun x => f x y r
def e2L {β : Type} (st : List QV) (f : Int64 → Int64 → List QV → Option β) : Option β := e1 st fun y r => e1 r fun x r => eL y fun y => eL x fun x => f x y r
def qsw {β : Type} (x : Int32) (f : Nat → Option β) (d : Nat) : List (Int32 × Nat) → Option β
  | [] => f d
  | q :: l => if x = q.1 then f q.2 else qsw x f d l
def splitA : Nat → List QV → List QV → Option (List QV × List QV)
  | 0, as, st => some (as, st)
  | n + 1, as, v :: st => splitA n (v :: as) st
  | _ + 1, _, [] => none
/-- how many words stand on a stack -/
def catS : List QV → Nat
  | [] => 0
  | .inl _ :: r => 1 + catS r
  | .inr (.inr _) :: r => 1 + catS r
  | .inr (.inl _) :: r => 2 + catS r
def qexec {β : Type} (K : QN → Option β) (ls : List QS) (st : List QV) (h : QH) (i : Instr) (nx a b c : Nat) (v : Int32) (ts : List (Int32 × Nat)) : Option β :=
  match i with
  | .aconst_null => K (nGo nx ls (qR none :: st) h)
  | .iconst _ => K (nGo nx ls (qI v :: st) h)
  | .bipush _ => K (nGo nx ls (qI v :: st) h)
  | .sipush _ => K (nGo nx ls (qI v :: st) h)
  | .ldc_w _ => K (nGo nx ls (qI v :: st) h)
  | .ldc _ => cond (Nat.beq c 0) (K (nGo nx ls (qI v :: st) h)) (K (nGo nx ls (qR (some a) :: st) h))
  | .lconst _ => K (nGo nx ls (qL v.toInt64 :: st) h)
  | .ldc2_w _ => K (nGo nx ls (qL v.toInt64 :: st) h)
  | .iload _ => eS (nthL ls a) fun w => eI w fun x => K (nGo nx ls (qI x :: st) h)
  | .iload_n _ => eS (nthL ls a) fun w => eI w fun x => K (nGo nx ls (qI x :: st) h)
  | .lload _ => eS (nthL ls a) fun w => eL w fun x => K (nGo nx ls (qL x :: st) h)
  | .lload_n _ => eS (nthL ls a) fun w => eL w fun x => K (nGo nx ls (qL x :: st) h)
  | .aload _ => eS (nthL ls a) fun w => eR w fun x => K (nGo nx ls (qR x :: st) h)
  | .aload_n _ => eS (nthL ls a) fun w => eR w fun x => K (nGo nx ls (qR x :: st) h)
  | .istore _ => e1 st fun w r => eI w fun x => K (nGo nx (st1 ls a (qI x)) r h)
  | .istore_n _ => e1 st fun w r => eI w fun x => K (nGo nx (st1 ls a (qI x)) r h)
  | .astore _ => e1 st fun w r => eR w fun x => K (nGo nx (st1 ls a (qR x)) r h)
  | .astore_n _ => e1 st fun w r => eR w fun x => K (nGo nx (st1 ls a (qR x)) r h)
  | .lstore _ => e1 st fun w r => eL w fun x => K (nGo nx (st2 ls a (qL x)) r h)
  | .lstore_n _ => e1 st fun w r => eL w fun x => K (nGo nx (st2 ls a (qL x)) r h)
  | .iinc _ _ => eS (nthL ls a) fun w => eI w fun x => K (nGo nx (st1 ls a (qI (x + v))) st h)
  | .iadd => e2I st fun x y r => K (nGo nx ls (qI (x + y) :: r) h)
  | .isub => e2I st fun x y r => K (nGo nx ls (qI (x - y) :: r) h)
  | .imul => e2I st fun x y r => K (nGo nx ls (qI (x * y) :: r) h)
  | .iand => e2I st fun x y r => K (nGo nx ls (qI (x &&& y) :: r) h)
  | .ior => e2I st fun x y r => K (nGo nx ls (qI (x ||| y) :: r) h)
  | .ixor => e2I st fun x y r => K (nGo nx ls (qI (x ^^^ y) :: r) h)
  | .ishl => e2I st fun x y r => K (nGo nx ls (qI (x <<< (y &&& 31)) :: r) h)
  | .ishr => e2I st fun x y r => K (nGo nx ls (qI (x >>> (y &&& 31)) :: r) h)
  | .iushr => e2I st fun x y r => K (nGo nx ls (qI ((x.toUInt32 >>> (y.toUInt32 &&& Int32.toUInt32 31)).toInt32) :: r) h)
  | .idiv => e2I st fun x y r => if y = 0 then none else K (nGo nx ls (qI (x / y) :: r) h)
  | .irem => e2I st fun x y r => if y = 0 then none else K (nGo nx ls (qI (x - x / y * y) :: r) h)
  | .ineg => e1 st fun w r => eI w fun x => K (nGo nx ls (qI (-x) :: r) h)
  | .i2l => e1 st fun w r => eI w fun x => K (nGo nx ls (qL x.toInt64 :: r) h)
  | .i2b => e1 st fun w r => eI w fun x => K (nGo nx ls (qI x.toInt8.toInt32 :: r) h)
  | .i2c => e1 st fun w r => eI w fun x => K (nGo nx ls (qI (x.toUInt32 % 65536).toInt32 :: r) h)
  | .l2i => e1 st fun w r => eL w fun x => K (nGo nx ls (qI x.toInt32 :: r) h)
  | .ladd => e2L st fun x y r => K (nGo nx ls (qL (x + y) :: r) h)
  | .lsub => e2L st fun x y r => K (nGo nx ls (qL (x - y) :: r) h)
  | .lmul => e2L st fun x y r => K (nGo nx ls (qL (x * y) :: r) h)
  | .ldiv => e2L st fun x y r => if y = 0 then none else K (nGo nx ls (qL (x / y) :: r) h)
  | .lrem => e2L st fun x y r => if y = 0 then none else K (nGo nx ls (qL (x - x / y * y) :: r) h)
  | .lcmp => e2L st fun x y r => K (nGo nx ls (qI (lg_cmp x y) :: r) h)
  | .dup => e1 st fun w r => eC w (K (nGo nx ls (w :: w :: r) h))
  | .pop => e1 st fun w r => eC w (K (nGo nx ls r h))
  | .dup2 => e1 st fun w r => e1 r fun u r => eC w (eC u (K (nGo nx ls (w :: u :: w :: u :: r) h)))
  | .goto _ => K (nGo a ls st h)
  | .ifCond q _ => e1 st fun w r => eI w fun x => (match q with
      | .eq => if x = 0 then K (nGo a ls r h) else K (nGo nx ls r h)
      | .ne => if x = 0 then K (nGo nx ls r h) else K (nGo a ls r h)
      | .lt => if x < 0 then K (nGo a ls r h) else K (nGo nx ls r h)
      | .ge => if x < 0 then K (nGo nx ls r h) else K (nGo a ls r h)
      | .gt => if 0 < x then K (nGo a ls r h) else K (nGo nx ls r h)
      | .le => if 0 < x then K (nGo nx ls r h) else K (nGo a ls r h))
  | .if_icmp q _ => e2I st fun x y r => (match q with
      | .eq => if x = y then K (nGo a ls r h) else K (nGo nx ls r h)
      | .ne => if x = y then K (nGo nx ls r h) else K (nGo a ls r h)
      | .lt => if x < y then K (nGo a ls r h) else K (nGo nx ls r h)
      | .ge => if x < y then K (nGo nx ls r h) else K (nGo a ls r h)
      | .gt => if y < x then K (nGo a ls r h) else K (nGo nx ls r h)
      | .le => if y < x then K (nGo nx ls r h) else K (nGo a ls r h))
  | .ifnull _ => e1 st fun w r => eR w fun x => if x = none then K (nGo a ls r h) else K (nGo nx ls r h)
  | .ifnonnull _ => e1 st fun w r => eR w fun x => if x = none then K (nGo nx ls r h) else K (nGo a ls r h)
  | .tableswitch _ _ _ _ => e1 st fun w r => eI w fun x => qsw x (fun pc => K (nGo pc ls r h)) a ts
  | .ireturn => e1 st fun w r => e0 r (eI w fun x => cond (Nat.beq c 0) (K (nRet (some (qI x)) h)) (if x = 0 ∨ x = 1 then K (nRet (some (qI x)) h) else none))
  | .lreturn => e1 st fun w r => e0 r (eL w fun x => K (nRet (some (qL x)) h))
  | .areturn => e1 st fun w r => e0 r (eR w fun x => K (nRet (some (qR x)) h))
  | .return_ => e0 st (K (nRet none h))
  | .getfield _ => e1 st fun w r => eR w fun o => o.bind fun p => cond (Nat.beq c 1) ((qgr a b p h).bind fun x => K (nGo nx ls (qR x :: r) h)) ((qgi a b p h).bind fun x => K (nGo nx ls (qI x :: r) h))
  | .putfield _ => e1 st fun w r => e1 r fun u r => eR u fun o => o.bind fun p => cond (Nat.beq c 1) (eR w fun x => (qpr a b p x h).bind fun h => K (nGo nx ls r h)) (eI w fun x => cond (Nat.beq c 0) ((qpi a b p x h).bind fun h => K (nGo nx ls r h)) ((qpz a b p x h).bind fun h => K (nGo nx ls r h)))
  | .getstatic _ => cond (Nat.beq c 0) (K (nGo nx ls (qI v :: st) h)) (K (nGo nx ls (qR (some a) :: st) h))
  | .iaload => e1 st fun w r => eI w fun x => e1 r fun u r => eR u fun o => o.bind fun p => (qai 0 p x h).bind fun y => K (nGo nx ls (qI y :: r) h)
  | .baload => e1 st fun w r => eI w fun x => e1 r fun u r => eR u fun o => o.bind fun p => (qai c p x h).bind fun y => K (nGo nx ls (qI y :: r) h)
  | .caload => e1 st fun w r => eI w fun x => e1 r fun u r => eR u fun o => o.bind fun p => (qai 3 p x h).bind fun y => K (nGo nx ls (qI y :: r) h)
  | .aaload => e1 st fun w r => eI w fun x => e1 r fun u r => eR u fun o => o.bind fun p => (qar p x h).bind fun y => K (nGo nx ls (qR y :: r) h)
  | .iastore => e2I st fun x y r => e1 r fun u r => eR u fun o => o.bind fun p => (qsi 0 p x y h).bind fun h => K (nGo nx ls r h)
  | .bastore => e2I st fun x y r => e1 r fun u r => eR u fun o => o.bind fun p => cond (Nat.beq c 1) ((qsi 1 p x y.toInt8.toInt32 h).bind fun h => K (nGo nx ls r h)) ((qsi 2 p x (y &&& 1) h).bind fun h => K (nGo nx ls r h))
  | .castore => e2I st fun x y r => e1 r fun u r => eR u fun o => o.bind fun p => (qsi 3 p x y.toUInt32.toUInt16.toUInt32.toInt32 h).bind fun h => K (nGo nx ls r h)
  | .aastore => e1 st fun z r => eR z fun z => e1 r fun w r => eI w fun x => e1 r fun u r => eR u fun o => o.bind fun p => (qsr p x z h).bind fun h => K (nGo nx ls r h)
  | .arraylength => e1 st fun u r => eR u fun o => o.bind fun p => (qal p h).bind fun y => K (nGo nx ls (qI y :: r) h)
  | .newarray _ => e1 st fun w r => eI w fun x => (qna a x h).bind fun h1 => K (nGo nx ls (qR (some (hN h)) :: r) h1)
  | .anewarray _ => e1 st fun w r => eI w fun x => (qna a x h).bind fun h1 => K (nGo nx ls (qR (some (hN h)) :: r) h1)
  | .new _ => K (nGo nx ls (qR (some (hN h)) :: st) (qno a b h))
  | .checkcast _ => e1 st fun u r => eR u fun o => o.bind fun p => (qca p h).bind fun _ => K (nGo nx ls (qR (some p) :: r) h)
  | .invokevirtual _ => cond (Nat.beq c 8) (e1 st fun u r => eR u fun o => o.bind fun p => cond (Nat.ble (catS r) 8) ((qcn p h).bind fun h1 => K (nGo nx ls (qR (some (hN h)) :: r) h1)) none) ((splitA b [] st).bind fun q => cond (Nat.ble (catS q.2) 8) (K (nCall a q.1 c nx ls q.2 h)) none)
  | .invokespecial _ => cond (Nat.beq c 7) (e1 st fun u r => eR u fun o => o.bind fun _ => cond (Nat.ble (catS r) 8) (K (nGo nx ls r h)) none) <| (splitA b [] st).bind fun q => cond (Nat.ble (catS q.2) 8) (K (nCall a q.1 c nx ls q.2 h)) none
  | .invokestatic _ => cond (Nat.ble 5 c) (cond (Nat.beq c 9) (e2I st fun dp n r => e1 r fun u r => eR u fun od => e1 r fun w r => eI w fun sp => e1 r fun u2 r => eR u2 fun os => od.bind fun pd => os.bind fun ps => cond (Nat.ble (catS r) 8) ((qcp ps sp pd dp n h).bind fun h => K (nGo nx ls r h)) none) (e2I st fun x y r => cond (Nat.ble (catS r) 8) (K (nGo nx ls (qI (cond (Nat.beq c 5) (if x < y then y else x) (if y < x then y else x)) :: r) h)) none)) ((splitA b [] st).bind fun q => cond (Nat.ble (catS q.2) 8) (K (nCall a q.1 c nx ls q.2 h)) none)
  | _ => none
/-- an answer that is an int, a long, a reference, none -/
def cI (o : QO) (f : Int32 → QH → QO) : QO := match o with
  | some (some (.inl x), h) => f x h
  | _ => none
def cL (o : QO) (f : Int64 → QH → QO) : QO := match o with
  | some (some (.inr (.inl x)), h) => f x h
  | _ => none
def cR (o : QO) (f : Option Nat → QH → QO) : QO := match o with
  | some (some (.inr (.inr x)), h) => f x h
  | _ => none
def cV (o : QO) (f : QH → QO) : QO := match o with
  | some (none, h) => f h
  | _ => none
def cAny (rk : Nat) (o : QO) (f : List QV → QH → QO) : QO := cond (Nat.beq rk 0) (cV o fun h => f [] h) (cond (Nat.beq rk 1) (cI o fun x h => f [qI x] h) (cond (Nat.beq rk 2) (cL o fun x h => f [qL x] h) (cR o fun x h => f [qR x] h)))
def lkp {β : Type} (K : QE → Option β) (pc : Nat) : List (Nat × QE) → Option β
  | [] => none
  | q :: l => cond (Nat.beq pc q.1) (K q.2) (lkp K pc l)
def lkp2 {β : Type} (K : QE → Option β) (pc : Nat) : List (Nat × List (Nat × QE)) → Option β
  | [] => none
  | q :: l => cond (Nat.ble pc q.1) (lkp K pc q.2) (lkp2 K pc l)
def lkk (pc : Nat) : List (Nat × List Nat) → List Nat
  | [] => []
  | q :: l => cond (Nat.beq pc q.1) q.2 (lkk pc l)

/-- the texts that are looked into, their bytes -/
def hgStr : List (List Nat) := [[104, 111, 109, 101], [103, 117, 101, 115, 116], [105, 111, 116], [110, 101, 116], [97, 110, 121], [103, 97, 116, 101, 119, 97, 121], [100, 101, 118, 105, 99, 101], [97, 108, 108, 111, 119], [100, 101, 110, 121], [119, 97, 107, 101], [113, 117, 105, 101, 116], [108, 105, 109, 105, 116]]
/-! THE ABSTRACT MACHINE: rows of a method over a memory of numbered cells; calls by number, fuel for jumps and calls. A row: the instruction, its length, numbers that a program has looked up, handlers or a switch's targets. -/
abbrev hgRow : Type := Instr × Nat × List Nat × List (Nat × Nat × Nat)
abbrev hgL : Type := List (Option Value)
abbrev hgMem : Type := Nat × (Nat → Nat → Int32) × (Nat → Nat → Int64) × (Nat → Nat → Option Nat)
abbrev hgOut : Type := (Value ⊕ Nat) × hgMem
abbrev hgX : Type := Nat × (Nat → Int32)
abbrev hgK : Type := Nat × Nat
def hgI (M : hgMem) : Nat → Nat → Int32 := M.2.1
def hgJ (M : hgMem) : Nat → Nat → Int64 := M.2.2.1
def hgR (M : hgMem) : Nat → Nat → Option Nat := M.2.2.2
def hgU {α : Type} (f : Nat → Nat → α) (a k : Nat) (x : α) : Nat → Nat → α := fun b j => if b = a then (if j = k then x else f b j) else f b j
def hgSI (M : hgMem) (a k : Nat) (x : Int32) : hgMem := (M.1, hgU M.2.1 a k x, M.2.2.1, M.2.2.2)
def hgSJ (M : hgMem) (a k : Nat) (x : Int64) : hgMem := (M.1, M.2.1, hgU M.2.2.1 a k x, M.2.2.2)
def hgSR (M : hgMem) (a k : Nat) (x : Nat) : hgMem := (M.1, M.2.1, M.2.2.1, hgU M.2.2.2 a k (some x))
def hgZ {α : Type} (f : Nat → Nat → α) (a : Nat) (z : α) : Nat → Nat → α := fun b j => if b = a then z else f b j
def hgNew (M : hgMem) : hgMem := (M.1 + 1, hgZ M.2.1 M.1 0, hgZ M.2.2.1 M.1 0, hgZ M.2.2.2 M.1 none)
/-- n cells of one kind, one behind the other -/
def hgNews : Nat → hgMem → hgMem
  | 0, M => M
  | n + 1, M => hgNews n (hgNew M)
/-- the places of an array of arrays: its rows lie right behind it -/
def hgGrid (a : Nat) : Nat → hgMem → hgMem
  | 0, M => M
  | n + 1, M => hgSR (hgGrid a n M) a n (a + 1 + n)
/-- what a cell is: below 20 an object of that class with so many fields; 20 int[], 21 long[], 22 byte[], 23 boolean[], 24 Device[], 25 Rule[], 26 Gateway[], 27 int[][], 28 long[][], of that length -/
def hgGsh (j : Nat) : Nat × Nat := if j = 0 then (1, 16) else if j = 1 then (24, 10) else if j < 12 then (0, 15) else if j = 12 then (5, 2) else if j = 13 then (25, 12) else if j < 26 then (4, 5) else if j = 26 then (20, 8) else (20, 3)
def hgSh (a : Nat) : Nat × Nat :=
  if a = 0 then (7, 7) else if a = 1 then (3, 4) else if a < 5 then (20, 512) else if a = 5 then (22, 900) else if a < 64 then hgGsh ((a - 6) % 29) else if a = 64 then (2, 3) else if a = 65 then (26, 8) else if a < 298 then hgGsh ((a - 66) % 29) else if a = 298 then (6, 11) else if a = 299 then (23, 3) else
  if a = 300 then (8, 18) else if a = 301 then (20, 900) else if a < 305 then (20, 20187) else if a = 305 then (27, 8) else if a < 314 then (20, 20187) else if a < 316 then (21, 10) else if a = 316 then (28, 8) else if a < 325 then (21, 10) else if a = 325 then (21, 1) else (99, 0)
/-- an index that lies in an array of n places -/
def hgIn (i : Int32) (n : Nat) : Bool := decide (0 ≤ i.toInt) && decide (i.toInt < (n : Int))
def hgG : hgL → Nat → Option Value
  | [], _ => none
  | v :: _, 0 => v
  | _ :: L, n + 1 => hgG L n
def hgPut : hgL → Nat → Option Value → hgL
  | [], _, _ => []
  | _ :: L, 0, v => v :: L
  | w :: L, n + 1, v => w :: hgPut L n v
def hgWide (v : Option Value) : Bool := match v with
  | some (.long _) => true
  | some (.double _) => true
  | _ => false
/-- a value of one word goes to place i: one of two words that began ahead of it is gone -/
def hgS1 (L : hgL) (i : Nat) (v : Option Value) : hgL := match i with
  | 0 => hgPut L 0 v
  | j + 1 => if hgWide (hgG L j) = true then hgPut (hgPut L j none) (j + 1) v else hgPut L (j + 1) v
def hgS2 (L : hgL) (i : Nat) (v : Option Value) : hgL := hgPut (hgS1 L i v) (i + 1) none
def hgMask : List Bool → hgL → hgL
  | true :: b, v :: L => v :: hgMask b L
  | false :: b, _ :: L => none :: hgMask b L
  | [], L => L
  | _, [] => []
def hgEnt : List Value → hgL
  | [] => []
  | .long x :: r => some (.long x) :: none :: hgEnt r
  | .double x :: r => some (.double x) :: none :: hgEnt r
  | v :: r => some v :: hgEnt r
def hgPad (n : Nat) (L : hgL) : hgL := match n with
  | 0 => L
  | n + 1 => match L with
    | [] => none :: hgPad n []
    | v :: L => v :: hgPad n L
def hgTake : Nat → List Value → List Value → Option (List Value × List Value)
  | 0, acc, S => some (acc, S)
  | n + 1, acc, v :: S => hgTake n (v :: acc) S
  | _ + 1, _, [] => none
def hgHd (E : Nat) : List (Nat × Nat × Nat) → Option (Nat × Nat)
  | [] => none
  | (e, t, loc) :: r => if e = E then some (t, loc) else hgHd E r
section HGST
variable (X : hgX) (rm : hgK) (call : Nat → List Value → hgMem → Option hgOut) (jump : Nat → hgL → List Value → hgK → hgMem → Option hgOut)
def hgi1 (S : List Value) (f : Int32 → List Value → Option hgOut) : Option hgOut := match S with
  | .int x :: r => f x r
  | _ => none
def hgi2 (S : List Value) (f : Int32 → Int32 → List Value → Option hgOut) : Option hgOut := match S with
  | .int y :: .int x :: r => f x y r
  | _ => none
def hgj2 (S : List Value) (f : Int64 → Int64 → List Value → Option hgOut) : Option hgOut := match S with
  | .long y :: .long x :: r => f x y r
  | _ => none
def hgf1 (S : List Value) (f : UInt32 → List Value → Option hgOut) : Option hgOut := match S with
  | .float x :: r => f x r
  | _ => none
def hgf2 (S : List Value) (f : UInt32 → UInt32 → List Value → Option hgOut) : Option hgOut := match S with
  | .float y :: .float x :: r => f x y r
  | _ => none
def hgr1 (S : List Value) (f : Nat → List Value → Option hgOut) : Option hgOut := match S with
  | .ref a :: r => f a r
  | _ => none
def hgr2 (S : List Value) (f : Nat → Int32 → List Value → Option hgOut) : Option hgOut := match S with
  | .int i :: .ref a :: r => f a i r
  | _ => none
def hgld (L : hgL) (n : Nat) (t : Nat) (f : Value → Option hgOut) : Option hgOut := match t, hgG L n with
  | 0, some (.int x) => f (.int x)
  | 1, some (.long x) => f (.long x)
  | 2, some (.float x) => f (.float x)
  | 3, some (.ref x) => f (.ref x)
  | _, _ => none
def hgst (S : List Value) (t : Nat) (f : Value → List Value → Option hgOut) : Option hgOut := match t, S with
  | 0, .int x :: r => f (.int x) r
  | 1, .long x :: r => f (.long x) r
  | 2, .float x :: r => f (.float x) r
  | 3, .ref x :: r => f (.ref x) r
  | _, _ => none
def hgdup (S : List Value) (f : Value → List Value → Option hgOut) : Option hgOut := match S with
  | .int x :: r => f (.int x) r
  | .float x :: r => f (.float x) r
  | .ref x :: r => f (.ref x) r
  | _ => none
/-- getfield of kind kd (0 int, 1 long, 2 reference, 3 boolean) -/
def hgget (M : hgMem) (a ci k kd : Nat) (f : Value → Option hgOut) : Option hgOut :=
  if a < M.1 ∧ (hgSh a).1 = ci then
    match kd with
    | 1 => f (.long (hgJ M a k))
    | 2 => match hgR M a k with
      | some r => f (.ref r)
      | none => none
    | _ => f (.int (hgI M a k))
  else none
def hgput (M : hgMem) (S : List Value) (ci k kd : Nat) (f : List Value → hgMem → Option hgOut) : Option hgOut := match kd, S with
  | 0, .int x :: .ref a :: r => if a < M.1 ∧ (hgSh a).1 = ci then f r (hgSI M a k x) else none
  | 1, .long x :: .ref a :: r => if a < M.1 ∧ (hgSh a).1 = ci then f r (hgSJ M a k x) else none
  | 2, .ref x :: .ref a :: r => if a < M.1 ∧ x < M.1 ∧ (hgSh a).1 = ci then f r (hgSR M a k x) else none
  | 3, .int x :: .ref a :: r => if a < M.1 ∧ (hgSh a).1 = ci ∧ (x = 0 ∨ x = 1) then f r (hgSI M a k x) else none
  | _, _ => none
def hgPrim (p : Nat) (S : List Value) (M : hgMem) (f : List Value → Option hgOut) : Option hgOut := match p, S with
  | 1000, .int y :: .int x :: r => f (.int (if x < y then y else x) :: r)
  | 1001, .int y :: .int x :: r => f (.int (if y < x then y else x) :: r)
  | 1002, .long y :: .long x :: r => f (.long (if y < x then x else y) :: r)
  | 1003, .ref a :: r => if 1000 ≤ a ∧ a < 1000 + hgStr.length then f (.int (nI (hgStr.getD (a - 1000) []).length) :: r) else none
  | 1004, .int i :: .ref a :: r => if 1000 ≤ a ∧ a < 1000 + hgStr.length ∧ hgIn i (hgStr.getD (a - 1000) []).length = true then f (.int (nI ((hgStr.getD (a - 1000) []).getD i.toNatClampNeg 0)) :: r) else none
  | 1005, .ref a :: r => if a < M.1 then f r else none
  | _, _ => none
/-- an answer goes on the stack, if there is one -/
def hgPush (x : Value) (r : List Value) : List Value := match x with
  | .null => r
  | x => x :: r
/-- the receiver is an object of class ci (99: none is wanted) -/
def hgRecv (ci N : Nat) (as : List Value) : Bool := match as with
  | .ref a :: _ => decide (ci = 99) || (decide (a < N) && decide ((hgSh a).1 = ci))
  | _ => decide (ci = 99)
def hgcall (ps : List Nat) (hs : List (Nat × Nat × Nat)) (L : hgL) (S : List Value) (K : hgK) (M : hgMem) (k : hgL → List Value → hgK → hgMem → Option hgOut) : Option hgOut := match ps with
  | [p, n, _, _, mc, ms, ci] =>
    if 1000 ≤ p then hgPrim p S M (fun r => if r.length ≤ 5 then k L r K M else none) else
    match hgTake n [] S with
    | none => none
    | some (as, r) =>
      if (r.map (fun v => v.category)).sum ≤ 8 ∧ K.1 + mc ≤ rm.1 ∧ K.2 + ms ≤ rm.2 ∧ hgRecv ci M.1 as = true then
        match call p as M with
        | none => none
        | some (.inl x, M1) => k L (hgPush x r) (K.1 + mc, K.2 + ms) M1
        | some (.inr E, M1) => match hs with
          | [] => some (.inr E, M1)
          | _ => match hgHd E hs with
            | none => none
            | some (t, loc) => jump t (hgS1 L loc none) [] (K.1 + mc, K.2 + ms) M1
      else none
  | _ => none
/-- one row, then k -/
def hgStep (i : Instr) (ps : List Nat) (hs : List (Nat × Nat × Nat)) (L : hgL) (S : List Value) (K : hgK) (M : hgMem) (k : hgL → List Value → hgK → hgMem → Option hgOut) : Option hgOut := match i with
  | .iconst n => k L (.int (Int32.ofInt n) :: S) K M
  | .bipush n => k L (.int (Int8.ofInt n).toInt32 :: S) K M
  | .sipush n => k L (.int (Int16.ofInt n).toInt32 :: S) K M
  | .lconst n => k L (.long (Int64.ofNat n.val) :: S) K M
  | .fconst n => if n.val = 0 then k L (.float FP.fconst0 :: S) K M else if n.val = 1 then k L (.float FP.fconst1 :: S) K M else none
  | .iload n => hgld L n 0 fun v => k L (v :: S) K M
  | .iload_n n => hgld L n.val 0 fun v => k L (v :: S) K M
  | .lload n => hgld L n 1 fun v => k L (v :: S) K M
  | .lload_n n => hgld L n.val 1 fun v => k L (v :: S) K M
  | .fload n => hgld L n 2 fun v => k L (v :: S) K M
  | .fload_n n => hgld L n.val 2 fun v => k L (v :: S) K M
  | .aload n => hgld L n 3 fun v => k L (v :: S) K M
  | .aload_n n => hgld L n.val 3 fun v => k L (v :: S) K M
  | .istore n => hgst S 0 fun v r => k (hgS1 L n (some v)) r K M
  | .istore_n n => hgst S 0 fun v r => k (hgS1 L n.val (some v)) r K M
  | .lstore n => hgst S 1 fun v r => k (hgS2 L n (some v)) r K M
  | .lstore_n n => hgst S 1 fun v r => k (hgS2 L n.val (some v)) r K M
  | .fstore n => hgst S 2 fun v r => k (hgS1 L n (some v)) r K M
  | .fstore_n n => hgst S 2 fun v r => k (hgS1 L n.val (some v)) r K M
  | .astore n => hgst S 3 fun v r => k (hgS1 L n (some v)) r K M
  | .astore_n n => hgst S 3 fun v r => k (hgS1 L n.val (some v)) r K M
  | .iinc n d => match hgG L n with
    | some (.int x) => k (hgPut L n (some (.int (x + Int32.ofInt d)))) S K M
    | _ => none
  | .iadd => hgi2 S fun x y r => k L (.int (x + y) :: r) K M
  | .isub => hgi2 S fun x y r => k L (.int (x - y) :: r) K M
  | .imul => hgi2 S fun x y r => k L (.int (x * y) :: r) K M
  | .iand => hgi2 S fun x y r => k L (.int (x &&& y) :: r) K M
  | .ior => hgi2 S fun x y r => k L (.int (x ||| y) :: r) K M
  | .idiv => hgi2 S fun x y r => if y = 0 then none else k L (.int (x / y) :: r) K M
  | .irem => hgi2 S fun x y r => if y = 0 then none else k L (.int (x - x / y * y) :: r) K M
  | .ishl => hgi2 S fun x y r => k L (.int (x <<< (y &&& 31)) :: r) K M
  | .ishr => hgi2 S fun x y r => k L (.int (x >>> (y &&& 31)) :: r) K M
  | .iushr => hgi2 S fun x y r => k L (.int (x.toUInt32 >>> (y.toUInt32 &&& Int32.toUInt32 31)).toInt32 :: r) K M
  | .i2l => hgi1 S fun x r => k L (.long x.toInt64 :: r) K M
  | .i2b => hgi1 S fun x r => k L (.int x.toInt8.toInt32 :: r) K M
  | .i2f => hgi1 S fun x r => k L (.float (FP.i2f x) :: r) K M
  | .f2i => hgf1 S fun x r => k L (.int (FP.f2i x) :: r) K M
  | .ladd => hgj2 S fun x y r => k L (.long (x + y) :: r) K M
  | .lmul => hgj2 S fun x y r => k L (.long (x * y) :: r) K M
  | .lcmp => hgj2 S fun x y r => k L (.int (lg_cmp x y) :: r) K M
  | .fadd => hgf2 S fun x y r => if (FP.fadd x y) &&& 0x7fffffff ≤ 0x7f800000 then k L (.float (FP.fadd x y) :: r) K M else none
  | .fmul => hgf2 S fun x y r => if (FP.fmul x y) &&& 0x7fffffff ≤ 0x7f800000 then k L (.float (FP.fmul x y) :: r) K M else none
  | .fdiv => hgf2 S fun x y r => if (FP.fdiv x y) &&& 0x7fffffff ≤ 0x7f800000 then k L (.float (FP.fdiv x y) :: r) K M else none
  | .fcmp op => hgf2 S fun x y r => k L (.int (Op.cmpValue (FP.fcmp x y) op) :: r) K M
  | .dup => hgdup S fun v r => k L (v :: v :: r) K M
  | .pop => hgdup S fun _ r => k L r K M
  | .dup2 => hgr2 S fun a i r => k L (.int i :: .ref a :: .int i :: .ref a :: r) K M
  | .goto _ => match ps with
    | [t] => jump t L S K M
    | _ => none
  | .ifCond c _ => match ps with
    | [t] => hgi1 S fun x r => match c with
      | .eq => if x = 0 then jump t L r K M else k L r K M
      | .ne => if x = 0 then k L r K M else jump t L r K M
      | .lt => if x < 0 then jump t L r K M else k L r K M
      | .ge => if 0 ≤ x then jump t L r K M else k L r K M
      | .gt => if 0 < x then jump t L r K M else k L r K M
      | .le => if x ≤ 0 then jump t L r K M else k L r K M
    | _ => none
  | .if_icmp c _ => match ps with
    | [t] => hgi2 S fun x y r => match c with
      | .eq => if x = y then jump t L r K M else k L r K M
      | .ne => if x = y then k L r K M else jump t L r K M
      | .lt => if x < y then jump t L r K M else k L r K M
      | .ge => if y ≤ x then jump t L r K M else k L r K M
      | .gt => if y < x then jump t L r K M else k L r K M
      | .le => if x ≤ y then jump t L r K M else k L r K M
    | _ => none
  | .tableswitch _ _ _ _ => match ps with
    | [d] => hgi1 S fun x r => if hgIn x hs.length = true then jump (hs.getD x.toNatClampNeg (0, 0, 0)).1 L r K M else jump d L r K M
    | _ => none
  | .ldc _ => match ps with
    | [0, _, v] => k L (.int (nI v) :: S) K M
    | [1, _, v] => k L (.float (UInt32.ofNat v) :: S) K M
    | [2, _, v] => k L (.ref v :: S) K M
    | _ => none
  | .ldc_w _ => match ps with
    | [0, _, v] => k L (.int (nI v) :: S) K M
    | _ => none
  | .ldc2_w _ => match ps with
    | [0, _, v] => k L (.long (lN v) :: S) K M
    | [1, _, v] => k L (.long (-lN v) :: S) K M
    | _ => none
  | .getfield _ => match ps with
    | [ci, f, kd, _] => hgr1 S fun a r => hgget M a ci f kd fun v => k L (v :: r) K M
    | _ => none
  | .putfield _ => match ps with
    | [ci, f, kd, _, _] => hgput M S ci f kd fun r M1 => k L r K M1
    | _ => none
  | .iaload => hgr2 S fun a i r => if a = 2000 then (if hgIn i X.1 = true then k L (.int (X.2 i.toNatClampNeg) :: r) K M else none) else if a < M.1 ∧ (hgSh a).1 = 20 ∧ hgIn i (hgSh a).2 = true then k L (.int (hgI M a i.toNatClampNeg) :: r) K M else none
  | .baload => hgr2 S fun a i r => if a < M.1 ∧ ((hgSh a).1 = 22 ∨ (hgSh a).1 = 23) ∧ hgIn i (hgSh a).2 = true then k L (.int (hgI M a i.toNatClampNeg) :: r) K M else none
  | .laload => hgr2 S fun a i r => if a < M.1 ∧ (hgSh a).1 = 21 ∧ hgIn i (hgSh a).2 = true then k L (.long (hgJ M a i.toNatClampNeg) :: r) K M else none
  | .aaload => hgr2 S fun a i r => if a < M.1 ∧ 24 ≤ (hgSh a).1 ∧ (hgSh a).1 ≤ 28 ∧ hgIn i (hgSh a).2 = true then (match hgR M a i.toNatClampNeg with
      | some q => k L (.ref q :: r) K M
      | none => none) else none
  | .iastore => match S with
    | .int x :: .int i :: .ref a :: r => if a < M.1 ∧ (hgSh a).1 = 20 ∧ hgIn i (hgSh a).2 = true then k L r K (hgSI M a i.toNatClampNeg x) else none
    | _ => none
  | .bastore => match S with
    | .int x :: .int i :: .ref a :: r => if a < M.1 ∧ (hgSh a).1 = 22 ∧ hgIn i (hgSh a).2 = true then k L r K (hgSI M a i.toNatClampNeg (vp_nar .byte x)) else if a < M.1 ∧ (hgSh a).1 = 23 ∧ hgIn i (hgSh a).2 = true then k L r K (hgSI M a i.toNatClampNeg (vp_nar .boolean x)) else none
    | _ => none
  | .lastore => match S with
    | .long x :: .int i :: .ref a :: r => if a < M.1 ∧ (hgSh a).1 = 21 ∧ hgIn i (hgSh a).2 = true then k L r K (hgSJ M a i.toNatClampNeg x) else none
    | _ => none
  | .aastore => match S with
    | .ref q :: .int i :: .ref a :: r => if a < M.1 ∧ q < M.1 ∧ 24 ≤ (hgSh a).1 ∧ (hgSh a).1 ≤ 26 ∧ (hgSh q).1 = [0, 4, 1].getD ((hgSh a).1 - 24) 99 ∧ hgIn i (hgSh a).2 = true then k L r K (hgSR M a i.toNatClampNeg q) else none
    | _ => none
  | .arraylength => hgr1 S fun a r => if a = 2000 then k L (.int (nI X.1) :: r) K M else if a < M.1 ∧ 20 ≤ (hgSh a).1 ∧ (hgSh a).1 ≤ 23 then k L (.int (nI (hgSh a).2) :: r) K M else none
  | .new _ => match ps with
    | [1, ci, n, _] => if hgSh M.1 = (ci, n) ∧ K.1 + 1 ≤ rm.1 ∧ K.2 + n ≤ rm.2 then k L (.ref M.1 :: S) (K.1 + 1, K.2 + n) (hgNew M) else none
    | [2, E, _, _, _, _] => if S.length ≤ 4 ∧ K.1 + 1 ≤ rm.1 ∧ K.2 + 6 ≤ rm.2 then some (.inr E, M) else none
    | _ => none
  | .newarray _ => match ps with
    | [kd] => hgi1 S fun x r => if hgSh M.1 = (kd, x.toNatClampNeg) ∧ ¬ x < 0 ∧ K.1 + 1 ≤ rm.1 ∧ K.2 + x.toNatClampNeg ≤ rm.2 then k L (.ref M.1 :: r) (K.1 + 1, K.2 + x.toNatClampNeg) (hgNew M) else none
    | _ => none
  | .anewarray _ => match ps with
    | [kd, _] => hgi1 S fun x r => if hgSh M.1 = (kd, x.toNatClampNeg) ∧ ¬ x < 0 ∧ K.1 + 1 ≤ rm.1 ∧ K.2 + x.toNatClampNeg ≤ rm.2 then k L (.ref M.1 :: r) (K.1 + 1, K.2 + x.toNatClampNeg) (hgNew M) else none
    | _ => none
  | .multianewarray _ _ => match ps with
    | [kd, kr, n, w, _] => match S with
      | .int y :: .int x :: r => if x = nI n ∧ y = nI w ∧ hgSh M.1 = (kd, n) ∧ (List.range n).all (fun j => decide (hgSh (M.1 + 1 + j) = (kr, w))) = true ∧ K.1 + (1 + n) ≤ rm.1 ∧ K.2 + (n + n * w) ≤ rm.2 then k L (.ref M.1 :: r) (K.1 + (1 + n), K.2 + (n + n * w)) (hgGrid M.1 n (hgNews (1 + n) M)) else none
      | _ => none
    | _ => none
  | .invokevirtual _ => hgcall rm call jump ps hs L S K M k
  | .invokestatic _ => hgcall rm call jump ps hs L S K M k
  | .invokespecial _ => hgcall rm call jump ps hs L S K M k
  | .ireturn => match ps, S with
    | [3], [.int x] => if x = 0 ∨ x = 1 then some (.inl (.int x), M) else none
    | [1], [.int x] => some (.inl (.int x), M)
    | _, _ => none
  | .lreturn => match S with
    | [.long x] => some (.inl (.long x), M)
    | _ => none
  | .return_ => match S with
    | [] => some (.inl .null, M)
    | _ => none
  | _ => none
def hgEx : List hgRow → hgL → List Value → hgK → hgMem → Option hgOut
  | [], _, _, _, _ => none
  | (i, _, ps, hs) :: rs, L, S, K, M => hgStep X rm call jump i ps hs L S K M (fun L S K M => hgEx rs L S K M)
end HGST

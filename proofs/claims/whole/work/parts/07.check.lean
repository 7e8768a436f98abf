/-! WHAT A PROGRAM CHECKS of each row: the code has it, the tables have its words, its numbers fit. -/
def hgWt (w : Nat) : Option Cond := tables_1[w]?
def hgIl (i : Instr) : Nat := match i with
  | .bipush _ => 2 | .ldc _ => 2 | .iload _ => 2 | .lload _ => 2 | .fload _ => 2 | .aload _ => 2 | .istore _ => 2 | .lstore _ => 2 | .fstore _ => 2 | .astore _ => 2 | .newarray _ => 2
  | .sipush _ => 3 | .ldc_w _ => 3 | .ldc2_w _ => 3 | .iinc _ _ => 3 | .goto _ => 3 | .ifCond _ _ => 3 | .if_icmp _ _ => 3 | .getfield _ => 3 | .putfield _ => 3 | .new _ => 3 | .anewarray _ => 3 | .invokevirtual _ => 3 | .invokestatic _ => 3 | .invokespecial _ => 3
  | .multianewarray _ _ => 4
  | _ => 1
def hgFld (q idx ci f kd w : Nat) : Bool := match vwCl[ci]? with
  | some (C, T, N) => decide (f < N) && decide (hgFk ci f = kd) && decide ((T f).1 = C) && decide (hgWt w = some (.fieldLink (hgOwn q) idx C (T f).2.1 (T f).2.2.1))
  | none => false
def hgFin (ci f : Nat) : Option (String × Bool) := match vwCl[ci]? with
  | some (C, T, _) => some (C, (T f).2.2.2)
  | none => none
def hgPrm (p : Nat) : Option MethodName := if p = 1000 then some Lib.Math.max.name else if p = 1001 then some Lib.Math.min.name else if p = 1002 then some Lib.MathLoose.max_long.x else if p = 1003 then some yJ0_length_8abf5 else if p = 1004 then some yJ0_charAt_5068e else if p = 1005 then some objectInit else none
def hgPrmRoom (p : Nat) : Nat × Nat := if p = 1003 then (3, 120) else if p = 1004 then (6, 200) else (1, 40)
def hgArity (y : MethodName) : Nat := match parseMethodDescriptor y.desc with
  | some d => d.parameters.length
  | none => 99
def hgNames : List String := ["java/lang/RuntimeException", "java/lang/Exception"]
def hgIt (w : Cond) : Bool := decide (w ∈ lw_tbl) && goodWord w
/-- of each method, once -/
def hgIx (i : Nat) (w : Cond) : Bool := decide (lw_tbl[i]? = some w) && goodWord w
def hgMok (p : Nat) : Bool := match hgMx p with
  | [i0, i1, i2, i3] => hgIx i0 (hgHead p) && hgIx i1 (Cond.initialized (hgOwn p)) && decide ((hgY p).cls = hgOwn p) && decide (plainName (hgY p).cls = true) && decide ((hgY p).cls ≠ "java/lang/invoke/MethodHandle" ∧ (hgY p).cls ≠ "java/lang/invoke/VarHandle") && decide (parseMethodDescriptor (hgY p).desc ≠ none) &&
    (if hgKd p = 0 then hgIx i2 (Cond.instanceMethod (hgY p)) && hgIx i3 (Cond.selects (hgOwn p) (hgY p) (hgY p)) && decide (hgHh p = []) && decide ((hgY p).name ≠ "<init>") else if hgKd p = 1 then hgIx i2 (Cond.static (hgY p)) && decide ((hgY p).name ≠ "<init>") else hgIx i2 (Cond.instanceMethod (hgY p)) && decide ((hgY p).name = "<init>") && decide (hgHh p = []) && decide (hgRet p = none))
  | _ => false
def hgNcOk (E1 E2 : Nat) : Bool := decide (E1 ≤ 2) && decide (E2 ≤ 2) && decide (E1 ≠ E2)
/-- the row's handlers are the table's: they cover pc, their classes, where they go on -/
def hgHOk (q pc : Nat) : List (Nat × Nat × Nat) → List (Nat × Nat × Nat × Nat) → Bool
  | [], [] => true
  | (E, t, loc) :: r, (st, en, hp, ct) :: r2 => decide (st ≤ pc) && decide (pc < en) && decide (E ≤ 2) && decide (ct ≠ 0) && decide (loc < hgMl q) && ((decide (loc = 3) && decide (t = hp + 1) && decide (decode (hgCode q) hp = .ok (.astore_n 3, 1))) || (decide (t = hp + 2) && decide (decode (hgCode q) hp = .ok (.astore loc, 2)))) && hgIt (Cond.classLink (hgOwn q) ct (hgXn E)) && decide (Cond.castable (hgXn E) (hgXn E) ∈ lw_tbl) && r.all (fun z => hgNcOk z.1 E) && hgHOk q pc r r2
  | _, _ => false
def hgCallOk (q pc idx : Nat) (kind : Nat) (ps : List Nat) (hs : List (Nat × Nat × Nat)) : Bool := match ps with
  | [p, n, v, w, mc, ms, ci] =>
    if 1000 ≤ p then (match hgPrm p with
      | some y => decide (hgWt w = some (.methodLink (hgOwn q) idx y)) && decide ((hgPrmRoom p).1 ≤ hgFr q) && decide ((hgPrmRoom p).2 ≤ hgLo q) && decide (kind = if p = 1005 then 2 else if p < 1003 then 1 else 0)
      | none => false)
    else decide (p < 227) && decide (hgWt w = some (.methodLink (hgOwn q) idx (hgY p))) && decide (mc = (hgRm p).1) && decide (ms = (hgRm p).2) && decide (hgFr p + 1 ≤ hgFr q) && decide (8 + (hgMl p + 11) + hgLo p ≤ hgLo q) && decide (n = hgArity (hgY p) + if kind = 1 then 0 else 1) && decide (hgKd p = kind) && decide (v = if hgRet p = none then 1 else 0) && (if kind = 1 then decide (ci = 99) else (match vwCl[ci]? with
        | some (C, _, _) => decide (C = hgOwn p)
        | none => false)) && (match hs with
        | [] => (hgHh q).all (fun h => !(decide (h.1 ≤ pc) && decide (pc < h.2.1)))
        | _ => hgHOk q pc hs (hgHh q))
  | _ => false
/-- 'throw new E("text")' -/
def hgThr (q pc idx E w1 w2 is ic : Nat) : Bool := decide (E ≤ 2) && decide (hgWt w1 = some (.classLink (hgOwn q) idx (hgXn E))) && decide (6 ≤ hgFr q) && decide (90 ≤ hgLo q) && decide (decode (hgCode q) (pc + 3) = .ok (.dup, 1)) && decide (decode (hgCode q) (pc + 4) = .ok (.ldc is, 2)) && decide (decode (hgCode q) (pc + 6) = .ok (.invokespecial ic, 3)) && decide (decode (hgCode q) (pc + 9) = .ok (.athrow, 1)) && decide (hgHh q = []) && (match hgWt w2 with
      | some (.stringRef own k _) => decide (own = hgOwn q) && decide (k = is)
      | _ => false) && Bundle.fit (hgXn E) && hgNames.all (fun n => Bundle.fit n) && (Cond.classLink (hgOwn q) idx (hgXn E) :: Cond.initialized (hgXn E) :: vx_atS (hgOwn q) ic (hgXn E) hgNames).all (fun w => decide (w ∈ lw_tbl) && (goodWord w || hgDc w) && vx_ot w)
def hgChk (q pc : Nat) (i : Instr) (len : Nat) (ps : List Nat) (hs : List (Nat × Nat × Nat)) : Bool := match i with
  | .tableswitch d lo hi offs => match ps with
    | [t] => decide ((pc : Int) + d = (t : Int)) && decide (lo = 0) && decide (hi + 1 = (hs.length : Int)) && decide (hs.length < 1000) && (List.range hs.length).all (fun j => match offs[j]? with
      | some o => decide ((pc : Int) + o = ((hs.getD j (0, 0, 0)).1 : Int))
      | none => false)
    | _ => false
  | .goto off => decide (len = 3) && match ps with
    | [t] => decide ((pc : Int) + off = (t : Int))
    | _ => false
  | .ifCond _ off => decide (len = 3) && match ps with
    | [t] => decide ((pc : Int) + off = (t : Int))
    | _ => false
  | .if_icmp _ off => decide (len = 3) && match ps with
    | [t] => decide ((pc : Int) + off = (t : Int))
    | _ => false
  | .ldc idx => decide (len = 2) && match ps with
    | [0, w, v] => decide (hgWt w = some (.constant (hgOwn q) idx (nI v)))
    | [1, w, v] => decide (hgWt w = some (.constantFloat (hgOwn q) idx (UInt32.ofNat v)))
    | [2, w, v] => decide (1000 ≤ v) && (match hgTx[v - 1000]? with
      | some tx => decide (hgWt w = some (.stringRef (hgOwn q) idx tx))
      | none => false)
    | _ => false
  | .ldc_w idx => decide (len = 3) && match ps with
    | [0, w, v] => decide (hgWt w = some (.constant (hgOwn q) idx (nI v)))
    | _ => false
  | .ldc2_w idx => decide (len = 3) && match ps with
    | [0, w, v] => decide (hgWt w = some (.constantLong (hgOwn q) idx (lN v)))
    | [1, w, v] => decide (hgWt w = some (.constantLong (hgOwn q) idx (-lN v)))
    | _ => false
  | .getfield idx => decide (len = 3) && match ps with
    | [ci, f, kd, w] => hgFld q idx ci f kd w
    | _ => false
  | .putfield idx => decide (len = 3) && match ps with
    | [ci, f, kd, w, fin] => hgFld q idx ci f kd w && (match hgFin ci f with
      | some (C, b) => if fin = 1 then b && decide (C = hgOwn q) && decide ((hgY q).name = "<init>") else !b
      | none => false)
    | _ => false
  | .new idx => decide (len = 3) && match ps with
    | [1, ci, n, w] => (match vwCl[ci]? with
      | some (C, _, N) => decide (n = N) && decide (hgWt w = some (.classLink (hgOwn q) idx C))
      | none => false)
    | [2, E, w1, w2, is, ic] => hgThr q pc idx E w1 w2 is ic
    | _ => false
  | .newarray ty => decide (len = 2) && match ps with
    | [20] => decide (ty = .int)
    | [21] => decide (ty = .long)
    | [22] => decide (ty = .byte)
    | [23] => decide (ty = .boolean)
    | _ => false
  | .anewarray idx => decide (len = 3) && match ps with
    | [24, w] => decide (hgWt w = some (.classLink (hgOwn q) idx RX0))
    | [25, w] => decide (hgWt w = some (.classLink (hgOwn q) idx RX4))
    | [26, w] => decide (hgWt w = some (.classLink (hgOwn q) idx RX1))
    | _ => false
  | .multianewarray idx dim => decide (len = 4) && decide (dim = 2) && match ps with
    | [27, 20, n, k, w] => decide (hgWt w = some (.classLink (hgOwn q) idx "[[I")) && decide (n < 1000) && decide (k < 1000000)
    | [28, 21, n, k, w] => decide (hgWt w = some (.classLink (hgOwn q) idx "[[J")) && decide (n < 1000) && decide (k < 1000000)
    | _ => false
  | .invokevirtual idx => decide (len = 3) && hgCallOk q pc idx 0 ps hs
  | .invokestatic idx => decide (len = 3) && hgCallOk q pc idx 1 ps hs
  | .invokespecial idx => decide (len = 3) && hgCallOk q pc idx 2 ps hs
  | .ireturn => decide (len = 1) && match ps with
    | [3] => decide (hgRet q = some .boolean)
    | [1] => decide (hgRet q = some .int)
    | _ => false
  | .lreturn => decide (len = 1) && decide (hgRet q = some .long)
  | .return_ => decide (len = 1) && decide (hgRet q = none)
  | .istore n => decide (len = 2) && decide (n < hgMl q)
  | .fstore n => decide (len = 2) && decide (n < hgMl q)
  | .astore n => decide (len = 2) && decide (n < hgMl q)
  | .lstore n => decide (len = 2) && decide (n + 1 < hgMl q)
  | .istore_n n => decide (len = 1) && decide (n.val < hgMl q)
  | .fstore_n n => decide (len = 1) && decide (n.val < hgMl q)
  | .astore_n n => decide (len = 1) && decide (n.val < hgMl q)
  | .lstore_n n => decide (len = 1) && decide (n.val + 1 < hgMl q)
  | i => decide (len = hgIl i)
def hgOkB (q : Nat) : Nat → List hgRow → Bool
  | _, [] => true
  | pc, (i, len, ps, hs) :: rs => decide (decode (hgCode q) pc = .ok (i, len)) && hgChk q pc i len ps hs && hgOkB q (pc + len) rs

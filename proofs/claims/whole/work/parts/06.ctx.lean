def hgTx : List String := ["home", "guest", "iot", "net", "any", "gateway", "device", "allow", "deny", "wake", "quiet", "limit"]
/-! CONTRACTS over the abstract memory: what a call finds and leaves. -/
def hgA (B0 : Nat) : Nat → Prop := fun q => B0 ≤ q
def hgTys (cy : Nat → ClassId) : List (ClassId × FieldType) := [(cy 20, .int), (cy 21, .long), (cy 22, .byte), (cy 23, .boolean), (cy 24, .object RX0), (cy 25, .object RX4), (cy 26, .object RX1), (cy 27, .array .int), (cy 28, .array .long)]
def hgTexts (B0 : Nat) (ad : Nat → Nat) (U : State) (H : Heap) : Prop := ∀ i, i < 12 → ∃ av : Nat, va_O "java/lang/String" (ad (1000 + i)) (hgA B0) U H ∧ va_OF "java/lang/String" "coder" "B" (.int 0) (ad (1000 + i)) (hgA B0) U H ∧ va_OF "java/lang/String" "value" "[B" (.ref av) (ad (1000 + i)) (hgA B0) U H ∧ va_T .byte av (hgStr.getD i []).length (fun j => .int (nI ((hgStr.getD i []).getD j 0))) (hgA B0) U H
def hgXn (e : Nat) : String := if e = 0 then "java/lang/IllegalArgumentException" else if e = 1 then "java/lang/IllegalStateException" else "java/lang/IndexOutOfBoundsException"
def hgNc (U : State) : Prop := ∀ E1 E2, E1 ≤ 2 → E2 ≤ 2 → E1 ≠ E2 → va_Nc (hgXn E1) (hgXn E2) U
theorem va_AOA.moved {t : FieldType} {u U : State} (hvm : u.vm.Alike U.vm) (h : va_AOA t u) : va_AOA t U := by
  have h1 : (Cond.arrayOver (.array t)).before #[] (u.setVm U.vm) = true := by rw [Cond.arrayOver_setVmC hvm]; exact h
  exact h1
/-- two kinds of words that stay, though the kit's list of those that stay hasn't them -/
def hgDc (w : Cond) : Bool := match w with
  | .declares _ => true
  | .castable _ _ => true
  | _ => false
theorem hgDc_on {w : Cond} (h : hgDc w = true) : w.onTables = true := by
  cases w <;> first | rfl | cases h
theorem hgDc_moved {w : Cond} (h : hgDc w = true) {u U : State} (hvm : u.vm.Alike U.vm) (hz : va_Nw w u) : va_Nw w U := by
  cases w with
  | declares x => exact va_tabs rfl (rfl : (u.setVm U.vm).vm = U.vm) (show (Cond.declares x).before #[] (u.setVm U.vm) = true by rw [Cond.declares_setVm hvm]; exact hz)
  | castable a b => exact va_tabs rfl (rfl : (u.setVm U.vm).vm = U.vm) (show (Cond.castable a b).before #[] (u.setVm U.vm) = true by rw [Cond.castable_setVm hvm]; exact hz)
  | _ => cases h
def hgDcs (U : State) : Prop := ∀ w ∈ lw_tbl, hgDc w = true → va_Nw w U
def hgAov (U : State) : Prop := va_AO RX0 U ∧ va_AO RX4 U ∧ va_AO RX1 U ∧ va_AOA .int U ∧ va_AOA .long U ∧ hgNc U ∧ hgDcs U
theorem hgAov.moved {u U : State} (hvm : u.vm.Alike U.vm) (h : hgAov u) : hgAov U := ⟨va_AO.moved hvm h.1, va_AO.moved hvm h.2.1, va_AO.moved hvm h.2.2.1, va_AOA.moved hvm h.2.2.2.1, va_AOA.moved hvm h.2.2.2.2.1, fun a b h1 h2 h3 => (h.2.2.2.2.2.1 a b h1 h2 h3).moved hvm, fun w hw hd => hgDc_moved hd hvm (h.2.2.2.2.2.2 w hw hd)⟩
def hgRefs (ad : Nat → Nat) (U : State) : Prop := (∀ own k tx, Cond.stringRef own k tx ∈ tables_1 → ∃ sa : Nat, vk_R own k tx sa U ∧ ∀ i, hgTx[i]? = some tx → sa = ad (1000 + i)) ∧ hgAov U
def hgStat (B0 : Nat) (X : hgX) (ad : Nat → Nat) (U : State) (H : Heap) : Prop :=
  vx_Zq Bundle.tN "UNASSIGNED_STACK" Bundle.steD (hgA B0) U H ∧ vx_Zq Bundle.tN "SUPPRESSED_SENTINEL" Bundle.listD (hgA B0) U H ∧ hgTexts B0 ad U H ∧ hgRefs ad U ∧ va_Z "java/lang/String" "COMPACT_STRINGS" "Z" (.int 1) (hgA B0) U H ∧ va_Zq "jdk/internal/util/Preconditions" "SIOOBE_FORMATTER" "Ljava/util/function/BiFunction;" (hgA B0) U H ∧ va_X (ad 2000) X.1 X.2 U H ∧ ad 2000 < B0
theorem hgStat.kept {B0 : Nat} {X : hgX} {ad : Nat → Nat} {U : State} {H H1 : Heap} (h : hgStat B0 X ad U H) (hq : ∀ a : Nat, a < H.size → ¬ hgA B0 a → H1[a]? = H[a]?) : hgStat B0 X ad U H1 := by
  obtain ⟨h1, h2, h3, h4, h5, h6, h7, h8⟩ := h
  refine ⟨h1.kept hq, h2.kept hq, fun i hi => ?_, h4, h5.kept hq, h6.kept hq, ?_, h8⟩
  · obtain ⟨av, g1, g2, g3, g4⟩ := h3 i hi
    exact ⟨av, g1.kept hq, g2.kept hq, g3.kept hq, g4.kept hq⟩
  · obtain ⟨scr, g1, g2⟩ := id h7
    exact h7.kept (hq _ (Array.getElem?_eq_some_iff.mp g1).1 (Nat.not_le.mpr h8))
theorem hgStat.warm {B0 : Nat} {X : hgX} {ad : Nat → Nat} {s U : State} {H : Heap} (hW : s.WarmedH U.vm) (h : hgStat B0 X ad s H) : hgStat B0 X ad U H := by
  obtain ⟨h1, h2, h3, h4, h5, h6, h7, h8⟩ := h
  have hA := hW.alike
  refine ⟨h1.moved hA, h2.moved hA, fun i hi => ?_, ⟨fun own k tx hm => ?_, h4.2.moved hA⟩, h5.moved hA, h6.moved hA, h7.moved hA, h8⟩
  · obtain ⟨av, g1, g2, g3, g4⟩ := h3 i hi
    exact ⟨av, va_O.moved hA g1, va_OF.moved hA g2, va_OF.moved hA g3, va_T.moved hA g4⟩
  · obtain ⟨sa, g1, g2⟩ := h4.1 own k tx hm
    exact ⟨sa, g1.warm hW, g2⟩
theorem hgStat.ext {B0 N : Nat} {X : hgX} {ad ad1 : Nat → Nat} {U : State} {H : Heap} (he : hgExt N ad ad1) (h : hgStat B0 X ad U H) : hgStat B0 X ad1 U H := by
  obtain ⟨h1, h2, h3, h4, h5, h6, h7, h8⟩ := h
  have e : ∀ i, ad1 (1000 + i) = ad (1000 + i) := fun i => he _ (Or.inr (by omega))
  refine ⟨h1, h2, fun i hi => ?_, ⟨fun own k tx hm => ?_, h4.2⟩, h5, h6, ?_, ?_⟩
  · rw [e i]; exact h3 i hi
  · obtain ⟨sa, g1, g2⟩ := h4.1 own k tx hm
    exact ⟨sa, g1, fun i hi => by rw [e i]; exact g2 i hi⟩
  · rw [show ad1 2000 = ad 2000 from e 1000]; exact h7
  · rw [show ad1 2000 = ad 2000 from e 1000]; exact h8
def hgPre (B0 : Nat) (D : va_G) (cy : Nat → ClassId) (X : hgX) (ad : Nat → Nat) (M : hgMem) (U : State) : Prop := B0 ≤ U.heap.size ∧ va_P D vwCl (hgWs cy ad M) U.heap ∧ va_D (hgA B0) (hgWs cy ad M) ∧ va_K D vwCl (hgTys cy) U ∧ hgStat B0 X ad U U.heap ∧ hgRok M
def hgPost (B0 : Nat) (D : va_G) (cy : Nat → ClassId) (ad : Nat → Nat) (M : hgMem) (ad1 : Nat → Nat) (M1 : hgMem) (t : State) : Prop := va_P D vwCl (hgWs cy ad1 M1) t.heap ∧ va_D (hgA B0) (hgWs cy ad1 M1) ∧ hgRok M1 ∧ M.1 ≤ M1.1 ∧ hgExt M.1 ad ad1
/-- an answer: none, or a number -/
def hgRv (v : Value) : Option Value := match v with
  | .null => none
  | v => some v
def hgNum (v : Value) : Prop := ∀ a, v ≠ .ref a
def hgQc (B0 : Nat) (D : va_G) (cy : Nat → ClassId) (ad : Nat → Nat) (M : hgMem) (out : hgOut) : Array Value → State → Outcome → State → Prop := fun _ st oc t => ∃ (v : Value) (M1 : hgMem) (ad1 : Nat → Nat), out = (.inl v, M1) ∧ hgNum v ∧ oc = .returned (hgRv v) ∧ hgPost B0 D cy ad M ad1 M1 t ∧ va_F (hgA B0) st t
def hgXc (B0 : Nat) (D : va_G) (cy : Nat → ClassId) (ad : Nat → Nat) (M : hgMem) (out : hgOut) : String → State → State → Prop := fun E st t => ∃ (x : Nat) (M1 : hgMem) (ad1 : Nat → Nat), out = (.inr x, M1) ∧ E = hgXn x ∧ hgPost B0 D cy ad M ad1 M1 t ∧ va_F (hgA B0) st t
/-- the words: all of the tables that stay -/
def hgTb : List Cond := lw_tbl.filter goodWord
def hgHead (q : Nat) : Cond := if hgHh q = [] then .code (hgY q) (hgCode q) (hgMl q) (hgRet q) else .codeWith (hgY q) (hgCode q) (hgMl q) (hgRet q) (hgHh q)
def hgWd (q : Nat) : List Cond := hgHead q :: hgTb
def hgCt (l : Launch) (B0 : Nat) (D : va_G) (cy : Nat → ClassId) (X : hgX) (q : Nat) (as : List Value) (ad : Nat → Nat) (M : hgMem) (out : hgOut) : Prop :=
  vx_Met l (hgY q) (hgWd q) (hgRoom q) (va_Pc (as.map (hgPh ad)) (hgPre B0 D cy X ad M)) (hgQc B0 D cy ad M out) (hgXc B0 D cy ad M out) (hgRm q).1 (hgRm q).2 (hgA B0)
/-- values that name cells that are there -/
def hgVk (N : Nat) (v : Value) : Prop := ∀ a, v = .ref a → a < N ∨ 1000 ≤ a
def hgSk (N : Nat) (S : List Value) : Prop := ∀ v ∈ S, hgVk N v
theorem hgVk_i {N : Nat} {x : Int32} : hgVk N (.int x) := fun a h => by cases h
theorem hgVk_l {N : Nat} {x : Int64} : hgVk N (.long x) := fun a h => by cases h
theorem hgVk_f {N : Nat} {x : UInt32} : hgVk N (.float x) := fun a h => by cases h
theorem hgVk_r {N a : Nat} (h : a < N) : hgVk N (.ref a) := fun b e => by cases e; exact Or.inl h
theorem hgVk_t {N a : Nat} (h : 1000 ≤ a) : hgVk N (.ref a) := fun b e => by cases e; exact Or.inr h
theorem hgSk_n {N : Nat} : hgSk N [] := fun v h => by cases h
theorem hgSk_c {N : Nat} {v : Value} {r : List Value} (h : hgVk N v) (hr : hgSk N r) : hgSk N (v :: r) := fun w hw => by
  rcases List.mem_cons.mp hw with e | e
  · rw [e]; exact h
  · exact hr w e
theorem hgSk_t {N : Nat} {v : Value} {r : List Value} (h : hgSk N (v :: r)) : hgSk N r := fun w hw => h w (List.mem_cons_of_mem _ hw)
theorem hgSk_h {N : Nat} {v : Value} {r : List Value} (h : hgSk N (v :: r)) : hgVk N v := h v List.mem_cons_self
theorem hgVk_m {N N1 : Nat} {v : Value} (h : hgVk N v) (hN : N ≤ N1) : hgVk N1 v := fun a e => by
  rcases h a e with g | g
  · exact Or.inl (Nat.lt_of_lt_of_le g hN)
  · exact Or.inr g
theorem hgVk_num {N : Nat} {v : Value} (h : hgNum v) : hgVk N v := fun a e => absurd e (h a)
/-- the machine inside a method, as the abstract one has it -/
def hgNow (B0 : Nat) (D : va_G) (cy : Nat → ClassId) (s : State) (nL N0 : Nat) (ad0 ad : Nat → Nat) (L : hgL) (S : List Value) (M : hgMem) (H : Heap) (locs : List Loc) (ls : Array Slot) : Prop :=
  va_P D vwCl (hgWs cy ad M) H ∧ va_D (hgA B0) (hgWs cy ad M) ∧ va_S (hgA B0) s.heap H locs ∧ hgLH ls nL ad L ∧ (∀ i v, hgG L i = some v → hgVk M.1 v) ∧ hgSk M.1 S ∧ hgRok M ∧ N0 ≤ M.1 ∧ hgExt N0 ad0 ad
theorem hgNow.sk {B0 : Nat} {D : va_G} {cy : Nat → ClassId} {s : State} {nL N0 : Nat} {ad0 ad : Nat → Nat} {L : hgL} {S : List Value} {M : hgMem} {H : Heap} {locs : List Loc} {ls : Array Slot} (h : hgNow B0 D cy s nL N0 ad0 ad L S M H locs ls) : hgSk M.1 S := h.2.2.2.2.2.1
theorem hgNow.to {B0 : Nat} {D : va_G} {cy : Nat → ClassId} {s : State} {nL N0 : Nat} {ad0 ad : Nat → Nat} {L : hgL} {S S1 : List Value} {M : hgMem} {H : Heap} {locs : List Loc} {ls : Array Slot} (h : hgNow B0 D cy s nL N0 ad0 ad L S M H locs ls) (h1 : hgSk M.1 S1) : hgNow B0 D cy s nL N0 ad0 ad L S1 M H locs ls :=
  ⟨h.1, h.2.1, h.2.2.1, h.2.2.2.1, h.2.2.2.2.1, h1, h.2.2.2.2.2.2⟩

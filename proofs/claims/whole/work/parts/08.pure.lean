/-! THE ROWS: what the abstract machine does, the machine does. -/
def hgCx (p : Program) (l : Launch) (R : Room) (s : State) (m : MethodId) (args : Array Value) (meth : Method) (c : Code) (q B0 : Nat) (D : va_G) (cy : Nat → ClassId) (X : hgX) (ad0 : Nat → Nat) : Prop :=
  p.tables.exec = Jvm.exec ∧ c.code = hgCode q ∧ c.maxLocals = hgMl q ∧ s.vm.findClass (hgOwn q) = some m.cls ∧ (∀ w ∈ hgTb, w.before args s = true) ∧ B0 ≤ s.heap.size ∧ va_K D vwCl (hgTys cy) s ∧ hgStat B0 X ad0 s s.heap ∧ (hgFr q ≤ R.frames ∧ hgLo q ≤ R.locals ∧ R.cells = (hgRm q).1 ∧ R.slots = (hgRm q).2) ∧ (l.stackTraces = false ∧ (hgHh q ≠ [] → c.exceptionTable.toList = tableOf (hgHh q)) ∧ meth.locks = false) ∧ ((hgY q).name = "<init>" → meth.name = "<init>")
/-- the machine goes on from here to Q -/
def hgGo (p : Program) (l : Launch) (e : Env) (R : Room) (s : State) (m : MethodId) (args : Array Value) (below : List Frame) (meth : Method) (c : Code) (Q : State → Prop) (B0 : Nat) (D : va_G) (cy : Nat → ClassId) (nL N0 : Nat) (ad0 : Nat → Nat) (pc : Nat) (L : hgL) (S : List Value) (K : hgK) (M : hgMem) : Prop :=
  ∀ (ad : Nat → Nat) (H : Heap) (locs : List Loc) (ls : Array Slot), hgNow B0 D cy s nL N0 ad0 ad L S M H locs ls → K.1 ≤ R.cells → K.2 ≤ R.slots → W p l e R s m args below meth c H locs K.1 K.2 Q (F0 m pc ls (S.map (hgPh ad)))
theorem hgi1_some {S : List Value} {f : Int32 → List Value → Option hgOut} {o : hgOut} (h : hgi1 S f = some o) : ∃ x r, S = .int x :: r ∧ f x r = some o := by
  unfold hgi1 at h
  split at h
  · exact ⟨_, _, rfl, h⟩
  · cases h
theorem hgi2_some {S : List Value} {f : Int32 → Int32 → List Value → Option hgOut} {o : hgOut} (h : hgi2 S f = some o) : ∃ x y r, S = .int y :: .int x :: r ∧ f x y r = some o := by
  unfold hgi2 at h
  split at h
  · exact ⟨_, _, _, rfl, h⟩
  · cases h
theorem hgj2_some {S : List Value} {f : Int64 → Int64 → List Value → Option hgOut} {o : hgOut} (h : hgj2 S f = some o) : ∃ x y r, S = .long y :: .long x :: r ∧ f x y r = some o := by
  unfold hgj2 at h
  split at h
  · exact ⟨_, _, _, rfl, h⟩
  · cases h
theorem hgf1_some {S : List Value} {f : UInt32 → List Value → Option hgOut} {o : hgOut} (h : hgf1 S f = some o) : ∃ x r, S = .float x :: r ∧ f x r = some o := by
  unfold hgf1 at h
  split at h
  · exact ⟨_, _, rfl, h⟩
  · cases h
theorem hgf2_some {S : List Value} {f : UInt32 → UInt32 → List Value → Option hgOut} {o : hgOut} (h : hgf2 S f = some o) : ∃ x y r, S = .float y :: .float x :: r ∧ f x y r = some o := by
  unfold hgf2 at h
  split at h
  · exact ⟨_, _, _, rfl, h⟩
  · cases h
theorem hgr1_some {S : List Value} {f : Nat → List Value → Option hgOut} {o : hgOut} (h : hgr1 S f = some o) : ∃ a r, S = .ref a :: r ∧ f a r = some o := by
  unfold hgr1 at h
  split at h
  · exact ⟨_, _, rfl, h⟩
  · cases h
theorem hgr2_some {S : List Value} {f : Nat → Int32 → List Value → Option hgOut} {o : hgOut} (h : hgr2 S f = some o) : ∃ a i r, S = .int i :: .ref a :: r ∧ f a i r = some o := by
  unfold hgr2 at h
  split at h
  · exact ⟨_, _, _, rfl, h⟩
  · cases h
theorem hgld0_some {L : hgL} {n : Nat} {f : Value → Option hgOut} {o : hgOut} (h : hgld L n 0 f = some o) : ∃ x, hgG L n = some (.int x) ∧ f (.int x) = some o := by
  unfold hgld at h
  split at h <;> first | (next e => exact ⟨_, e, h⟩) | (next e1 e2 => cases e1) | cases h
theorem hgld1_some {L : hgL} {n : Nat} {f : Value → Option hgOut} {o : hgOut} (h : hgld L n 1 f = some o) : ∃ x, hgG L n = some (.long x) ∧ f (.long x) = some o := by
  unfold hgld at h
  split at h <;> first | (next e => exact ⟨_, e, h⟩) | (next e1 e2 => cases e1) | cases h
theorem hgld2_some {L : hgL} {n : Nat} {f : Value → Option hgOut} {o : hgOut} (h : hgld L n 2 f = some o) : ∃ x, hgG L n = some (.float x) ∧ f (.float x) = some o := by
  unfold hgld at h
  split at h <;> first | (next e => exact ⟨_, e, h⟩) | (next e1 e2 => cases e1) | cases h
theorem hgld3_some {L : hgL} {n : Nat} {f : Value → Option hgOut} {o : hgOut} (h : hgld L n 3 f = some o) : ∃ x, hgG L n = some (.ref x) ∧ f (.ref x) = some o := by
  unfold hgld at h
  split at h <;> first | (next e => exact ⟨_, e, h⟩) | (next e1 e2 => cases e1) | cases h
theorem hgst0_some {S : List Value} {f : Value → List Value → Option hgOut} {o : hgOut} (h : hgst S 0 f = some o) : ∃ x r, S = .int x :: r ∧ f (.int x) r = some o := by
  unfold hgst at h
  split at h <;> first | exact ⟨_, _, rfl, h⟩ | (next e1 e2 => cases e1) | (next e1 => cases e1) | cases h
theorem hgst1_some {S : List Value} {f : Value → List Value → Option hgOut} {o : hgOut} (h : hgst S 1 f = some o) : ∃ x r, S = .long x :: r ∧ f (.long x) r = some o := by
  unfold hgst at h
  split at h <;> first | exact ⟨_, _, rfl, h⟩ | (next e1 e2 => cases e1) | (next e1 => cases e1) | cases h
theorem hgst2_some {S : List Value} {f : Value → List Value → Option hgOut} {o : hgOut} (h : hgst S 2 f = some o) : ∃ x r, S = .float x :: r ∧ f (.float x) r = some o := by
  unfold hgst at h
  split at h <;> first | exact ⟨_, _, rfl, h⟩ | (next e1 e2 => cases e1) | (next e1 => cases e1) | cases h
theorem hgst3_some {S : List Value} {f : Value → List Value → Option hgOut} {o : hgOut} (h : hgst S 3 f = some o) : ∃ x r, S = .ref x :: r ∧ f (.ref x) r = some o := by
  unfold hgst at h
  split at h <;> first | exact ⟨_, _, rfl, h⟩ | (next e1 e2 => cases e1) | (next e1 => cases e1) | cases h
theorem hgdup_some {S : List Value} {f : Value → List Value → Option hgOut} {o : hgOut} (h : hgdup S f = some o) : ∃ v r, S = v :: r ∧ v.category = 1 ∧ f v r = some o := by
  unfold hgdup at h
  split at h <;> first | exact ⟨_, _, rfl, rfl, h⟩ | cases h
theorem hgIn_vp {i : Int32} {n : Nat} (h : hgIn i n = true) : vp_in i n := by
  simp only [hgIn, Bool.and_eq_true, decide_eq_true_eq] at h
  exact vp_in_iff.mpr h
section HGROW
variable {p : Program} {l : Launch} {e : Env} {R : Room} {s : State} {m : MethodId} {args : Array Value} {below : List Frame} {meth : Method} {c : Code} {Q : State → Prop} {q B0 nL N0 : Nat} {D : va_G} {cy : Nat → ClassId} {X : hgX} {ad0 : Nat → Nat}
theorem hgNow.st1 {ad : Nat → Nat} {L : hgL} {S S1 : List Value} {M : hgMem} {H : Heap} {locs : List Loc} {ls ls1 : Array Slot} (h : hgNow B0 D cy s nL N0 ad0 ad L S M H locs ls) {i : Nat} {v : Value} (hv : hgVk M.1 v) (hS : hgSk M.1 S1) (h1 : lv_has ls1 nL ((i, hgPh ad v) :: (hgAs ad 0 L).filter (fun q => !(q.1 == i) && !(q.1 + 1 == i && q.2.category == 2)))) : hgNow B0 D cy s nL N0 ad0 ad (hgS1 L i (some v)) S1 M H locs ls1 := by
  refine ⟨h.1, h.2.1, h.2.2.1, hgLH_st1 (ls := ls) h1, fun j w hw => ?_, hS, h.2.2.2.2.2.2⟩
  rcases hgG_S1 hw with ⟨_, g2⟩ | ⟨_, g2, _⟩
  · cases g2; exact hv
  · exact h.2.2.2.2.1 j w g2
theorem hgNow.st2 {ad : Nat → Nat} {L : hgL} {S S1 : List Value} {M : hgMem} {H : Heap} {locs : List Loc} {ls ls1 : Array Slot} (h : hgNow B0 D cy s nL N0 ad0 ad L S M H locs ls) {i : Nat} {v : Value} (hv : hgVk M.1 v) (hS : hgSk M.1 S1) (h1 : lv_has ls1 nL ((i, hgPh ad v) :: (hgAs ad 0 L).filter (fun q => !(q.1 == i) && (!(q.1 == i + 1) && !(q.1 + 1 == i && q.2.category == 2))))) : hgNow B0 D cy s nL N0 ad0 ad (hgS2 L i (some v)) S1 M H locs ls1 := by
  refine ⟨h.1, h.2.1, h.2.2.1, hgLH_st2 (ls := ls) h1, fun j w hw => ?_, hS, h.2.2.2.2.2.2⟩
  rcases hgG_put hw with ⟨_, g2⟩ | ⟨_, g2⟩
  · cases g2
  · rcases hgG_S1 g2 with ⟨_, g2⟩ | ⟨_, g2, _⟩
    · cases g2; exact hv
    · exact h.2.2.2.2.1 j w g2
/-- a place is written: is it there? (lv_has says the size) -/
theorem hgG_lt {ls : Array Slot} {ad : Nat → Nat} {L : hgL} (h : hgLH ls nL ad L) {i : Nat} {v : Value} (hv : hgG L i = some v) : i < nL := by
  have := hgLH_get h hv
  rw [← h.1]
  exact (Array.getElem?_eq_some_iff.mp this).1
end HGROW

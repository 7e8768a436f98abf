/-! CALLS of the JDK's own small methods, and all calls. -/
set_option maxRecDepth 100000 in
theorem hgPrimW : [Cond.static Lib.Math.max.name, Cond.static Lib.Math.min.name, Cond.static Lib.MathLoose.max_long.x, Cond.initialized "java/lang/Math", Cond.code Lib.Math.max.name Lib.Math.max.code 2 (some .int), Cond.code Lib.Math.min.name Lib.Math.min.code 2 (some .int), Cond.code Lib.MathLoose.max_long.x Lib.MathLoose.max_long.code 4 (some .long), Cond.instanceMethod Lib.objectInit, Cond.code Lib.objectInit ⟨#[0xb1]⟩ 1 none].all hgIt = true := by decide +kernel
theorem hgCat (ad : Nat → Nat) (r : List Value) : ((r.map (hgPh ad)).map fun v => v.category).sum ≤ 2 * r.length := by
  induction r with
  | nil => simp
  | cons v t ih =>
    have : (hgPh ad v).category ≤ 2 := by rw [hgPh_cat]; cases v <;> simp [Value.category]
    simp only [List.map_cons, List.sum_cons, List.length_cons]
    omega
section HGPRIM
variable {p : Program} {l : Launch} {e : Env} {R : Room} {s : State} {m : MethodId} {args : Array Value} {below : List Frame} {meth : Method} {c : Code} {Q : State → Prop} {q B0 nL N0 : Nat} {D : va_G} {cy : Nat → ClassId} {X : hgX} {ad0 : Nat → Nat}
variable {call : Nat → List Value → hgMem → Option hgOut} {jump : Nat → hgL → List Value → hgK → hgMem → Option hgOut} {len : Nat} {ps : List Nat} {hs : List (Nat × Nat × Nat)} {pc : Nat} {out : hgOut} {L : hgL} {S : List Value} {K : hgK} {M : hgMem} {k : hgL → List Value → hgK → hgMem → Option hgOut}
theorem hgPrim_some {z : Nat} {f : List Value → Option hgOut} (h : hgPrim z S M f = some out) :
    (z = 1000 ∧ ∃ x y r, S = .int y :: .int x :: r ∧ f (.int (if x < y then y else x) :: r) = some out) ∨ (z = 1001 ∧ ∃ x y r, S = .int y :: .int x :: r ∧ f (.int (if y < x then y else x) :: r) = some out) ∨ (z = 1002 ∧ ∃ x y r, S = .long y :: .long x :: r ∧ f (.long (if y < x then x else y) :: r) = some out) ∨
    (z = 1003 ∧ ∃ (a : Nat) (r : List Value), S = .ref a :: r ∧ (1000 ≤ a ∧ a < 1000 + hgStr.length) ∧ f (.int (nI (hgStr.getD (a - 1000) []).length) :: r) = some out) ∨ (z = 1004 ∧ ∃ (a : Nat) (i : Int32) (r : List Value), S = .int i :: .ref a :: r ∧ (1000 ≤ a ∧ a < 1000 + hgStr.length ∧ hgIn i (hgStr.getD (a - 1000) []).length = true) ∧ f (.int (nI ((hgStr.getD (a - 1000) []).getD i.toNatClampNeg 0)) :: r) = some out) ∨ (z = 1005 ∧ ∃ (a : Nat) (r : List Value), S = .ref a :: r ∧ a < M.1 ∧ f r = some out) := by
  unfold hgPrim at h
  split at h
  · exact Or.inl ⟨rfl, _, _, _, rfl, h⟩
  · exact Or.inr (Or.inl ⟨rfl, _, _, _, rfl, h⟩)
  · exact Or.inr (Or.inr (Or.inl ⟨rfl, _, _, _, rfl, h⟩))
  · split at h
    · next g => exact Or.inr (Or.inr (Or.inr (Or.inl ⟨rfl, _, _, rfl, g, h⟩)))
    · cases h
  · split at h
    · next g => exact Or.inr (Or.inr (Or.inr (Or.inr (Or.inl ⟨rfl, _, _, _, rfl, g, h⟩))))
    · cases h
  · split at h
    · next g => exact Or.inr (Or.inr (Or.inr (Or.inr (Or.inr ⟨rfl, _, _, rfl, g, h⟩))))
    · cases h
  · cases h
theorem hgIf5 {r : List Value} {f : Option hgOut} (h : (if r.length ≤ 5 then f else none) = some out) : r.length ≤ 5 ∧ f = some out := by
  by_cases hr : r.length ≤ 5
  · rw [if_pos hr] at h
    exact ⟨hr, h⟩
  · rw [if_neg hr] at h
    cases h
/-- String.length() of a text -/
def hgLenOk (l : Launch) : Prop := ∀ (p : Program) (e : Env) (R : Room) (s : State) (m : MethodId) (args : Array Value) (below : List Frame) (meth : Method) (c : Code) (Q : State → Prop) (q B0 N0 : Nat) (D : va_G) (cy : Nat → ClassId) (X : hgX) (ad0 ad : Nat → Nat) (L : hgL) (S r : List Value) (K : hgK) (M : hgMem) (H : Heap) (locs : List Loc) (ls : Array Slot) (pc idx w a : Nat), hgCx p l R s m args meth c q B0 D cy X ad0 → hgNow B0 D cy s (hgMl q) N0 ad0 ad L S M H locs ls → hgWt w = some (.methodLink (hgOwn q) idx yJ0_length_8abf5) → 3 ≤ R.frames → 120 ≤ R.locals → K.1 ≤ R.cells → K.2 ≤ R.slots → r.length ≤ 4 → decode (hgCode q) pc = .ok (.invokevirtual idx, 3) → a < 12 →
  W p l e R s m args below meth c H locs K.1 K.2 Q (F0 m (pc + 3) ls (.int (nI (hgStr.getD a []).length) :: r.map (hgPh ad))) → W p l e R s m args below meth c H locs K.1 K.2 Q (F0 m pc ls (.ref (ad (1000 + a)) :: r.map (hgPh ad)))
def hgChrOk (l : Launch) : Prop := ∀ (p : Program) (e : Env) (R : Room) (s : State) (m : MethodId) (args : Array Value) (below : List Frame) (meth : Method) (c : Code) (Q : State → Prop) (q B0 N0 : Nat) (D : va_G) (cy : Nat → ClassId) (X : hgX) (ad0 ad : Nat → Nat) (L : hgL) (S r : List Value) (K : hgK) (M : hgMem) (H : Heap) (locs : List Loc) (ls : Array Slot) (pc idx w a : Nat) (i : Int32), hgCx p l R s m args meth c q B0 D cy X ad0 → hgNow B0 D cy s (hgMl q) N0 ad0 ad L S M H locs ls → hgWt w = some (.methodLink (hgOwn q) idx yJ0_charAt_5068e) → 6 ≤ R.frames → 200 ≤ R.locals → K.1 ≤ R.cells → K.2 ≤ R.slots → r.length ≤ 4 → decode (hgCode q) pc = .ok (.invokevirtual idx, 3) → a < 12 → hgIn i (hgStr.getD a []).length = true →
  W p l e R s m args below meth c H locs K.1 K.2 Q (F0 m (pc + 3) ls (.int (nI ((hgStr.getD a []).getD i.toNatClampNeg 0)) :: r.map (hgPh ad))) → W p l e R s m args below meth c H locs K.1 K.2 Q (F0 m pc ls (.int i :: .ref (ad (1000 + a)) :: r.map (hgPh ad)))
set_option maxHeartbeats 4000000 in
set_option maxRecDepth 100000 in
theorem hg_prim (hLen : hgLenOk l) (hChr : hgChrOk l) (hC : hgCx p l R s m args meth c q B0 D cy X ad0) {z idx w kind : Nat} {y : MethodName} (hy : hgPrm z = some y) (hw : hgWt w = some (.methodLink (hgOwn q) idx y)) (hf : (hgPrmRoom z).1 ≤ hgFr q) (hl : (hgPrmRoom z).2 ≤ hgLo q) (hkind : kind = if z = 1005 then 2 else if z < 1003 then 1 else 0)
    (hd : (kind = 0 ∧ decode (hgCode q) pc = .ok (.invokevirtual idx, 3)) ∨ (kind = 1 ∧ decode (hgCode q) pc = .ok (.invokestatic idx, 3)) ∨ (kind = 2 ∧ decode (hgCode q) pc = .ok (.invokespecial idx, 3))) (h : hgPrim z S M (fun r => if r.length ≤ 5 then k L r K M else none) = some out)
    (kk : ∀ L S K M, k L S K M = some out → hgGo p l e R s m args below meth c Q B0 D cy (hgMl q) N0 ad0 (pc + 3) L S K M) : hgGo p l e R s m args below meth c Q B0 D cy (hgMl q) N0 ad0 pc L S K M := by
  have hC0 := hC
  obtain ⟨hx, hb, hml, hown, hts, -, hK, -, ⟨r1, r2, r3, r4⟩, -⟩ := hC
  have hpw := hgAll_mem hgPrimW
  have len : hgStr.length = 12 := rfl
  intro ad H locs ls hn kc ks
  have hsz : c.maxLocals = ls.size := by rw [hml, hn.2.2.2.1.1]
  rcases hgPrim_some h with ⟨rfl, x, y9, r, rfl, h9⟩ | ⟨rfl, x, y9, r, rfl, h9⟩ | ⟨rfl, x, y9, r, rfl, h9⟩ | ⟨rfl, a, r, rfl, ha, h9⟩ | ⟨rfl, a, i, r, rfl, ha, h9⟩ | ⟨rfl, a, r, rfl, ha, h9⟩
  · have hy : some Lib.Math.max.name = some y := hy
    cases hy
    have hk : kind = 1 := hkind
    have hd : decode (hgCode q) pc = .ok (.invokestatic idx, 3) := by rcases hd with h | h | h <;> first | exact h.2 | omega
    obtain ⟨hr, h9⟩ := hgIf5 h9
    have hcat := hgCat ad r
    have hr : r.length + 1 ≤ 5 := hr
    have hf : 1 ≤ hgFr q := hf
    have hl : 40 ≤ hgLo q := hl
    exact va_mmax hx hb hsz hown (hts _ (hgTb_of hw rfl)) (hts _ (hpw _ (by simp))) (hts _ (hpw _ (by simp))) (hts _ (hpw _ (by simp))) (by omega) (by omega) kc ks hd (kk _ _ _ _ h9 ad H locs ls (hn.to (hgSk_c hgVk_i (hgSk_t (hgSk_t hn.sk)))) kc ks)
  · have hy : some Lib.Math.min.name = some y := hy
    cases hy
    have hk : kind = 1 := hkind
    have hd : decode (hgCode q) pc = .ok (.invokestatic idx, 3) := by rcases hd with h | h | h <;> first | exact h.2 | omega
    obtain ⟨hr, h9⟩ := hgIf5 h9
    have hcat := hgCat ad r
    have hr : r.length + 1 ≤ 5 := hr
    have hf : 1 ≤ hgFr q := hf
    have hl : 40 ≤ hgLo q := hl
    exact va_mmin hx hb hsz hown (hts _ (hgTb_of hw rfl)) (hts _ (hpw _ (by simp))) (hts _ (hpw _ (by simp))) (hts _ (hpw _ (by simp))) (by omega) (by omega) kc ks hd (kk _ _ _ _ h9 ad H locs ls (hn.to (hgSk_c hgVk_i (hgSk_t (hgSk_t hn.sk)))) kc ks)
  · have hy : some Lib.MathLoose.max_long.x = some y := hy
    cases hy
    have hk : kind = 1 := hkind
    have hd : decode (hgCode q) pc = .ok (.invokestatic idx, 3) := by rcases hd with h | h | h <;> first | exact h.2 | omega
    obtain ⟨hr, h9⟩ := hgIf5 h9
    have hcat := hgCat ad r
    have hr : r.length + 1 ≤ 5 := hr
    have hf : 1 ≤ hgFr q := hf
    have hl : 40 ≤ hgLo q := hl
    exact va_mmax_long hx hb hsz hown (hts _ (hgTb_of hw rfl)) (hts _ (hpw _ (by simp))) (hts _ (hpw _ (by simp))) (hts _ (hpw _ (by simp))) (by omega) (by omega) kc ks hd (kk _ _ _ _ h9 ad H locs ls (hn.to (hgSk_c hgVk_l (hgSk_t (hgSk_t hn.sk)))) kc ks)
  · have hy : some yJ0_length_8abf5 = some y := hy
    cases hy
    have hk : kind = 0 := hkind
    have hd : decode (hgCode q) pc = .ok (.invokevirtual idx, 3) := by rcases hd with h | h | h <;> first | exact h.2 | omega
    obtain ⟨hr, h9⟩ := hgIf5 h9
    have hr : r.length + 1 ≤ 5 := hr
    have hf : 3 ≤ hgFr q := hf
    have ha1 := ha.1
    have ha2 : a < 1012 := ha.2
    have hl : 120 ≤ hgLo q := hl
    have e9 : a = 1000 + (a - 1000) := by omega
    have go := hLen p e R s m args below meth c Q q B0 N0 D cy X ad0 ad L _ r K M H locs ls pc idx w (a - 1000) hC0 hn hw (by omega) (by omega) kc ks (by omega) hd (by omega) (kk _ _ _ _ h9 ad H locs ls (hn.to (hgSk_c hgVk_i (hgSk_t hn.sk))) kc ks)
    rw [← e9] at go
    exact go
  · have hy : some yJ0_charAt_5068e = some y := hy
    cases hy
    have hk : kind = 0 := hkind
    have hd : decode (hgCode q) pc = .ok (.invokevirtual idx, 3) := by rcases hd with h | h | h <;> first | exact h.2 | omega
    obtain ⟨hr, h9⟩ := hgIf5 h9
    have hr : r.length + 1 ≤ 5 := hr
    have hf : 6 ≤ hgFr q := hf
    have ha1 := ha.1
    have ha2 : a < 1012 := ha.2.1
    have hl : 200 ≤ hgLo q := hl
    have e9 : a = 1000 + (a - 1000) := by omega
    have go := hChr p e R s m args below meth c Q q B0 N0 D cy X ad0 ad L _ r K M H locs ls pc idx w (a - 1000) i hC0 hn hw (by omega) (by omega) kc ks (by omega) hd (by omega) ha.2.2 (kk _ _ _ _ h9 ad H locs ls (hn.to (hgSk_c hgVk_i (hgSk_t (hgSk_t hn.sk)))) kc ks)
    rw [← e9] at go
    exact go
  · have hy : some Lib.objectInit = some y := hy
    cases hy
    have hk : kind = 2 := hkind
    have hd : decode (hgCode q) pc = .ok (.invokespecial idx, 3) := by rcases hd with h | h | h <;> first | exact h.2 | omega
    obtain ⟨hr, h9⟩ := hgIf5 h9
    have hcat := hgCat ad r
    have hf : 1 ≤ hgFr q := hf
    have hl : 40 ≤ hgLo q := hl
    refine W.objInit hx hb hown (hts _ (hgTb_of hw rfl)) (hts _ (hpw _ (by simp))) (hts _ (hpw _ (by simp))) rfl hsz.symm rfl hd (by omega) (by show 2 * 0 + _ + 12 ≤ _; omega) ?_
    exact kk _ _ _ _ h9 ad H locs ls (hn.to (hgSk_t hn.sk)) kc ks
end HGPRIM

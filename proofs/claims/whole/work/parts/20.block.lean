/-! A BLOCK of rows. -/
section HGBLK
variable {p : Program} {l : Launch} {e : Env} {R : Room} {s : State} {m : MethodId} {args : Array Value} {below : List Frame} {meth : Method} {c : Code} {Q : State → Prop} {q B0 nL N0 : Nat} {D : va_G} {cy : Nat → ClassId} {X : hgX} {ad0 : Nat → Nat}
variable {call : Nat → List Value → hgMem → Option hgOut} {jump : Nat → hgL → List Value → hgK → hgMem → Option hgOut} {len : Nat} {ps : List Nat} {hs : List (Nat × Nat × Nat)} {pc : Nat} {out : hgOut} {L : hgL} {S : List Value} {K : hgK} {M : hgMem} {k : hgL → List Value → hgK → hgMem → Option hgOut}
theorem hgLH_st1n {ls1 : Array Slot} {ad : Nat → Nat} {i : Nat} {w : Value} (h1 : lv_has ls1 nL ((i, w) :: (hgAs ad 0 L).filter (fun q => !(q.1 == i) && !(q.1 + 1 == i && q.2.category == 2)))) : hgLH ls1 nL ad (hgS1 L i none) := by
  refine hgLH_mono h1 (fun j w hw => ?_)
  rcases hgG_S1 hw with ⟨g1, g2⟩ | ⟨g1, g2, g3⟩
  · cases g2
  · refine List.mem_cons_of_mem _ (List.mem_filter.mpr ⟨hgAs_mem.mpr ⟨j, w, (Nat.zero_add j).symm, g2, rfl⟩, ?_⟩)
    simp only [Bool.and_eq_true, Bool.not_eq_true', beq_eq_false_iff_ne, ne_eq, Bool.and_eq_false_iff, hgPh_cat]
    refine ⟨g1, ?_⟩
    by_cases e : j + 1 = i
    · exact Or.inr (fun q => g3 ⟨e, q⟩)
    · exact Or.inl e
theorem hgNow.st1n {ad : Nat → Nat} {H : Heap} {locs : List Loc} {ls ls1 : Array Slot} (h : hgNow B0 D cy s nL N0 ad0 ad L S M H locs ls) {i : Nat} {w : Value} (h1 : lv_has ls1 nL ((i, w) :: (hgAs ad 0 L).filter (fun q => !(q.1 == i) && !(q.1 + 1 == i && q.2.category == 2)))) : hgNow B0 D cy s nL N0 ad0 ad (hgS1 L i none) [] M H locs ls1 := by
  refine ⟨h.1, h.2.1, h.2.2.1, hgLH_st1n h1, fun j w hw => ?_, hgSk_n, h.2.2.2.2.2.2⟩
  rcases hgG_S1 hw with ⟨_, g2⟩ | ⟨_, g2, _⟩
  · cases g2
  · exact h.2.2.2.2.1 j w g2
theorem hgHd_le : ∀ {E : Nat} {hs : List (Nat × Nat × Nat)} {hh : List (Nat × Nat × Nat × Nat)} {t loc : Nat}, hgHOk q pc hs hh = true → hgHd E hs = some (t, loc) → E ≤ 2
  | E, [], hh, t, loc, _, h => by cases h
  | E, (e1, t1, l1) :: r, [], t, loc, h0, h => by cases h0
  | E, (e1, t1, l1) :: r, (st, en, hp, ct) :: r2, t, loc, h0, h => by
    unfold hgHOk at h0
    simp only [Bool.and_eq_true, decide_eq_true_eq] at h0
    obtain ⟨⟨⟨⟨⟨⟨⟨⟨⟨a1, a2⟩, a3⟩, a4⟩, a5⟩, a6⟩, a7⟩, a8⟩, a9⟩, a10⟩ := h0
    unfold hgHd at h
    split at h
    · next g => omega
    · exact hgHd_le a10 h
set_option maxHeartbeats 4000000 in
/-- an exception that one of the rows takes -/
theorem hg_catch (hC : hgCx p l R s m args meth c q B0 D cy X ad0) {E : Nat} {ce : Cell} {q9 : Addr} {ad : Nat → Nat} {H : Heap} {locs : List Loc} {ls : Array Slot} {rest : List Value} (hn : hgNow B0 D cy s (hgMl q) N0 ad0 ad L [] M H locs ls) (kc : K.1 ≤ R.cells) (ks : K.2 ≤ R.slots) (hcell : H[q9]? = some ce) (hv : ce.vm = .none) (hcl : s.vm.findClass (hgXn E) = some ce.cls) (hE : E ≤ 2) :
    ∀ (hs : List (Nat × Nat × Nat)) (hh pre : List (Nat × Nat × Nat × Nat)) (t loc : Nat), hgHOk q pc hs hh = true → hgHd E hs = some (t, loc) → hgHh q = pre ++ hh → (∀ z ∈ tableOf pre, covers z pc = false ∨ (z.catchType ≠ 0 ∧ ∃ nm : String, (Cond.classLink (hgOwn q) z.catchType nm).before args s = true ∧ va_Nc (hgXn E) nm s)) →
    hgGo p l e R s m args below meth c Q B0 D cy (hgMl q) N0 ad0 t (hgS1 L loc none) [] K M → vx_W p l e R s m args below meth c H locs K.1 K.2 Q (F0 m pc ls rest) q9 := by
  intro hs
  induction hs with
  | nil => intro hh pre t loc _ h; cases h
  | cons hd9 r ih =>
    obtain ⟨e1, t1, l1⟩ := hd9
    intro hh pre t loc h0 h hsp hpass go
    obtain ⟨hx, hb, hml, hown, hts, -, hK, hst, -, ⟨-, htab, -⟩, -⟩ := id hC
    cases hh with
    | nil => cases h0
    | cons z9 r2 =>
      obtain ⟨st, en, hp, ct⟩ := z9
      unfold hgHOk at h0
      simp only [Bool.and_eq_true, Bool.or_eq_true, decide_eq_true_eq] at h0
      obtain ⟨⟨⟨⟨⟨⟨⟨⟨⟨a1, a2⟩, a3⟩, a4⟩, a5⟩, a6⟩, a7⟩, a8⟩, a9⟩, a10⟩ := h0
      have hlink := hts _ (hgIt_mem a7)
      unfold hgHd at h
      split at h
      · next g =>
        subst g
        cases h
        refine vx_catch hown (tableOf pre) ⟨st, en, hp, ct⟩ (tableOf r2) (by rw [htab (by rw [hsp]; simp), hsp]; simp [tableOf]) hpass (by simp [covers, a1, a2]) a4 hlink (va_Nw.use rfl (hst.2.2.2.1.2.2.2.2.2.2.2 _ a8 rfl)) hcell hv hcl ?_
        rcases a6 with ⟨⟨b1, b2⟩, b3⟩ | ⟨b1, b2⟩
        · subst b1; subst b2
          exact lv_astore_n hx hb b3 rfl hn.2.2.2.1 a5 rfl (fun ls1 hl1 => go ad H locs ls1 (hn.st1n hl1) kc ks)
        · subst b1
          exact lv_astore hx hb b2 hn.2.2.2.1 a5 rfl (fun ls1 hl1 => go ad H locs ls1 (hn.st1n hl1) kc ks)
      · next g =>
        refine ih r2 (pre ++ [(st, en, hp, ct)]) t loc a10 h (by rw [hsp]; simp) (fun z hz => ?_) go
        unfold tableOf at hz
        rw [List.map_append] at hz
        rcases List.mem_append.mp hz with hz | hz
        · exact hpass z hz
        · rw [List.mem_singleton.mp hz]
          exact Or.inr ⟨a4, hgXn e1, hlink, hst.2.2.2.1.2.2.2.2.2.2.1 E e1 hE a3 (fun z => g z.symm)⟩
/-- how the block ends: it returns, throws, lets an exception pass -/
def hgRetOk (q : Nat) (i : Instr) (v : Value) : Prop := (i = .ireturn ∧ ∃ x, v = .int x ∧ (hgRet q = some .int ∨ (hgRet q = some .boolean ∧ (x = 0 ∨ x = 1)))) ∨ (i = .lreturn ∧ ∃ x, v = .long x ∧ hgRet q = some .long) ∨ (i = .return_ ∧ v = .null ∧ hgRet q = none)
def hgEndR (p : Program) (l : Launch) (e : Env) (R : Room) (s : State) (m : MethodId) (args : Array Value) (below : List Frame) (meth : Method) (c : Code) (Q : State → Prop) (q B0 N0 : Nat) (D : va_G) (cy : Nat → ClassId) (ad0 : Nat → Nat) (out : hgOut) : Prop := ∀ (v : Value) (L : hgL) (S : List Value) (K : hgK) (M : hgMem) (ad : Nat → Nat) (H : Heap) (locs : List Loc) (ls : Array Slot) (pc : Nat) (i : Instr), out = (.inl v, M) → decode (hgCode q) pc = .ok (i, 1) → hgRetOk q i v → hgNow B0 D cy s (hgMl q) N0 ad0 ad L S M H locs ls → K.1 ≤ R.cells → K.2 ≤ R.slots → W p l e R s m args below meth c H locs K.1 K.2 Q (F0 m pc ls (hgRv v).toList)
def hgEndT (p : Program) (l : Launch) (e : Env) (R : Room) (s : State) (m : MethodId) (args : Array Value) (below : List Frame) (meth : Method) (c : Code) (Q : State → Prop) (q B0 N0 : Nat) (D : va_G) (cy : Nat → ClassId) (ad0 : Nat → Nat) (out : hgOut) : Prop := ∀ (E : Nat) (L : hgL) (S : List Value) (K : hgK) (M : hgMem) (ad : Nat → Nat) (H : Heap) (locs : List Loc) (ls : Array Slot) (pc idx w1 w2 w3 w4 : Nat) (hs : List (Nat × Nat × Nat)), out = (.inr E, M) → decode (hgCode q) pc = .ok (.new idx, 3) → hgChk q pc (.new idx) 3 [2, E, w1, w2, w3, w4] hs = true → S.length ≤ 4 → hgNow B0 D cy s (hgMl q) N0 ad0 ad L S M H locs ls → K.1 + 1 ≤ R.cells → K.2 + 6 ≤ R.slots → W p l e R s m args below meth c H locs K.1 K.2 Q (F0 m pc ls (S.map (hgPh ad)))
def hgEndO (p : Program) (l : Launch) (e : Env) (R : Room) (s : State) (m : MethodId) (args : Array Value) (below : List Frame) (meth : Method) (c : Code) (Q : State → Prop) (q B0 N0 : Nat) (D : va_G) (cy : Nat → ClassId) (ad0 : Nat → Nat) (out : hgOut) : Prop := ∀ (E : Nat) (L : hgL) (S : List Value) (K : hgK) (M : hgMem) (ad : Nat → Nat) (H : Heap) (locs : List Loc) (ls : Array Slot) (pc : Nat) (rest : List Value) (ce : Cell) (q9 : Addr), out = (.inr E, M) → (∀ z ∈ tableOf (hgHh q), covers z pc = false) → hgNow B0 D cy s (hgMl q) N0 ad0 ad L S M H locs ls → K.1 ≤ R.cells → K.2 ≤ R.slots → H[q9]? = some ce → ce.vm = .none → s.vm.findClass (hgXn E) = some ce.cls → vx_W p l e R s m args below meth c H locs K.1 K.2 Q (F0 m pc ls rest) q9
theorem hgRecv_spec {ci N : Nat} {as : List Value} (h : hgRecv ci N as = true) (hc : ci ≠ 99) : ∃ b as1, as = .ref b :: as1 ∧ b < N ∧ (hgSh b).1 = ci := by
  unfold hgRecv at h
  split at h
  · simp only [Bool.or_eq_true, Bool.and_eq_true, decide_eq_true_eq] at h
    rcases h with h | h
    · exact absurd h hc
    · exact ⟨_, _, rfl, h.1, h.2⟩
  · exact absurd (of_decide_eq_true h) hc
theorem hgcall_some {rm : hgK} (h : hgcall rm call jump ps hs L S K M k = some out) : ∃ z n v w mc ms ci, ps = [z, n, v, w, mc, ms, ci] ∧ ((1000 ≤ z ∧ hgPrim z S M (fun r => if r.length ≤ 5 then k L r K M else none) = some out) ∨ (¬ 1000 ≤ z ∧ ∃ as r o1, hgTake n [] S = some (as, r) ∧ (r.map (fun v => v.category)).sum ≤ 8 ∧ K.1 + mc ≤ rm.1 ∧ K.2 + ms ≤ rm.2 ∧ hgRecv ci M.1 as = true ∧ call z as M = some o1 ∧ ((∃ x M1, o1 = (.inl x, M1) ∧ k L (hgPush x r) (K.1 + mc, K.2 + ms) M1 = some out) ∨ (∃ E M1, o1 = (.inr E, M1) ∧ ((hs = [] ∧ out = (.inr E, M1)) ∨ (hs ≠ [] ∧ ∃ t loc, hgHd E hs = some (t, loc) ∧ jump t (hgS1 L loc none) [] (K.1 + mc, K.2 + ms) M1 = some out)))))) := by
  unfold hgcall at h
  split at h
  · next z n v w mc ms ci =>
    refine ⟨z, n, v, w, mc, ms, ci, rfl, ?_⟩
    split at h
    · next g => exact Or.inl ⟨g, h⟩
    · next g =>
      refine Or.inr ⟨g, ?_⟩
      split at h
      · cases h
      · next as r ht =>
        split at h
        · next hc =>
          split at h
          · cases h
          · next x M1 ho => exact ⟨as, r, _, ht, hc.1, hc.2.1, hc.2.2.1, hc.2.2.2, ho, Or.inl ⟨x, M1, rfl, h⟩⟩
          · next E M1 ho =>
            refine ⟨as, r, _, ht, hc.1, hc.2.1, hc.2.2.1, hc.2.2.2, ho, Or.inr ⟨E, M1, rfl, ?_⟩⟩
            split at h
            · cases h
              exact Or.inl ⟨rfl, rfl⟩
            · next hne =>
              split at h
              · cases h
              · next t loc hh => exact Or.inr ⟨fun z => hne z, t, loc, hh, h⟩
        · cases h
  · cases h
end HGBLK

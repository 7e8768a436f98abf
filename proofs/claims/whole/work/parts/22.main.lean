/-! EVERY METHOD keeps the contract that the abstract machine computes. -/
theorem hgEnt_len : ∀ (as : List Value) (ad : Nat → Nat), (lg_sl (as.map (hgPh ad))).length = (hgEnt as).length
  | [], ad => rfl
  | v :: r, ad => by
    have ih := hgEnt_len r ad
    have e1 : lg_sl ((v :: r).map (hgPh ad)) = (if (hgPh ad v).category = 2 then [.val (hgPh ad v), .second] else [.val (hgPh ad v)]) ++ lg_sl (r.map (hgPh ad)) := by simp [lg_sl]
    rw [e1, List.length_append, ih, hgPh_cat]
    cases v <;> simp [hgEnt, Value.category] <;> omega
theorem hgG_pad : ∀ (n : Nat) (L : hgL) {i : Nat} {v : Value}, hgG (hgPad n L) i = some v → hgG L i = some v
  | 0, L, i, v, h => h
  | n + 1, [], i, v, h => by
    unfold hgPad at h
    dsimp only at h
    cases i with
    | zero => cases h
    | succ i =>
      have := hgG_pad n [] (i := i) h
      cases this
  | n + 1, w :: L, i, v, h => by
    unfold hgPad at h
    dsimp only at h
    cases i with
    | zero => exact h
    | succ i => exact hgG_pad n L (i := i) h
theorem hgG_ent (ad : Nat → Nat) : ∀ (as : List Value) (j : Nat) {i : Nat} {v : Value}, hgG (hgEnt as) i = some v → (j + i, hgPh ad v) ∈ lv_args j (as.map (hgPh ad)) ∧ v ∈ as
  | [], j, i, v, h => by cases i <;> cases h
  | w :: r, j, i, v, h => by
    rw [List.map_cons, lv_args]
    by_cases hw : w.category = 2
    · have e1 : hgEnt (w :: r) = some w :: none :: hgEnt r := by
        cases w <;> first | rfl | (simp [Value.category] at hw)
      rw [e1] at h
      match i, h with
      | 0, h =>
        cases h
        exact ⟨List.mem_cons_self, List.mem_cons_self⟩
      | 1, h => cases h
      | i + 2, h =>
        obtain ⟨g1, g2⟩ := hgG_ent ad r (j + 2) (i := i) h
        rw [if_pos (by rw [hgPh_cat]; exact hw)]
        exact ⟨List.mem_cons_of_mem _ (by rw [show j + (i + 2) = j + 2 + i by omega]; exact g1), List.mem_cons_of_mem _ g2⟩
    · have e1 : hgEnt (w :: r) = some w :: hgEnt r := by
        cases w <;> first | rfl | (simp [Value.category] at hw)
      rw [e1] at h
      match i, h with
      | 0, h =>
        cases h
        exact ⟨List.mem_cons_self, List.mem_cons_self⟩
      | i + 1, h =>
        obtain ⟨g1, g2⟩ := hgG_ent ad r (j + 1) (i := i) h
        rw [if_neg (by rw [hgPh_cat]; exact hw)]
        exact ⟨List.mem_cons_of_mem _ (by rw [show j + (i + 1) = j + 1 + i by omega]; exact g1), List.mem_cons_of_mem _ g2⟩
theorem hgLk_mem : ∀ (pc : Nat) (t : List (Nat × List Bool × List hgRow)), (hgLk pc t).2 = [] ∨ ∃ b ∈ t, b.1 = pc ∧ b.2.2 = (hgLk pc t).2
  | pc, [] => Or.inl rfl
  | pc, (q, b, r) :: t => by
    unfold hgLk
    split
    · next h => exact Or.inr ⟨_, List.mem_cons_self, h, rfl⟩
    · rcases hgLk_mem pc t with h | ⟨b, h1, h2⟩
      · exact Or.inl h
      · exact Or.inr ⟨b, List.mem_cons_of_mem _ h1, h2⟩
section HGMAIN
variable {p : Program} {l : Launch} {e : Env} {R : Room} {s : State} {m : MethodId} {args : Array Value} {below : List Frame} {meth : Method} {c : Code} {q B0 N0 : Nat} {D : va_G} {cy : Nat → ClassId} {X : hgX} {ad0 : Nat → Nat} {M0 : hgMem} {out : hgOut}
theorem hg_post {L : hgL} {S : List Value} {M : hgMem} {ad : Nat → Nat} {H : Heap} {locs : List Loc} {ls : Array Slot} (hn : hgNow B0 D cy s (hgMl q) M0.1 ad0 ad L S M H locs ls) {t : State} (ht : t.heap = H) : hgPost B0 D cy ad0 M0 ad M t ∧ va_F (hgA B0) s t :=
  ⟨⟨by rw [ht]; exact hn.1, hn.2.1, hn.2.2.2.2.2.2.1, hn.2.2.2.2.2.2.2.1, hn.2.2.2.2.2.2.2.2⟩, hn.2.2.1.F ht⟩
set_option maxHeartbeats 4000000 in
theorem hg_endR (hx : p.tables.exec = Jvm.exec) (hb : c.code = hgCode q) (hr : meth.sig.returnType = hgRet q) (hlocks : meth.locks = false) (hRm : R.cells = (hgRm q).1 ∧ R.slots = (hgRm q).2) :
    hgEndR p l e R s m args below meth c (vx_MQ below (hgQc B0 D cy ad0 M0 out) (hgXc B0 D cy ad0 M0 out) args s (hgRm q).1 (hgRm q).2 (hgA B0)) q B0 M0.1 D cy ad0 out := by
  intro v L S K M ad H locs ls pc i ho hd hok hn kc ks
  refine W.widen (k := (hgRm q).1) (n := (hgRm q).2) (by omega) (by omega) (vx_ret ?_)
  have hf : ∀ z ∈ locs, hgA B0 z.base := hn.2.2.1.2.2
  rcases hok with ⟨hi, x, hv, ht⟩ | ⟨hi, x, hv, ht⟩ | ⟨hi, hv, ht⟩
  · subst hi; subst hv
    rcases ht with ht | ⟨ht, hx9⟩
    · refine W.zret (v := x) (ty := .int) hx hb (by rw [hr, ht]) rfl (fun t e1 _ => ?_) hf hd hlocks
      exact ⟨.int x, M, ad, ho, (fun a h => by cases h), rfl, hg_post hn e1⟩
    · refine W.zret (v := x) (ty := .boolean) hx hb (by rw [hr, ht]) (by rcases hx9 with h | h <;> subst h <;> decide) (fun t e1 _ => ?_) hf hd hlocks
      exact ⟨.int x, M, ad, ho, (fun a h => by cases h), rfl, hg_post hn e1⟩
  · subst hi; subst hv
    refine W.lret (v := x) hx hb (by rw [hr, ht]) (fun t e1 _ => ?_) hf hd hlocks
    exact ⟨.long x, M, ad, ho, (fun a h => by cases h), rfl, hg_post hn e1⟩
  · subst hi; subst hv
    refine W.vret hx hb (by rw [hr, ht]) (fun t e1 _ => ?_) hf hd hlocks
    exact ⟨.null, M, ad, ho, (fun a h => by cases h), rfl, hg_post hn e1⟩
set_option maxHeartbeats 4000000 in
theorem hg_endO (hlocks : meth.locks = false) (htab : c.exceptionTable.toList = tableOf (hgHh q)) (hRm : R.cells = (hgRm q).1 ∧ R.slots = (hgRm q).2) :
    hgEndO p l e R s m args below meth c (vx_MQ below (hgQc B0 D cy ad0 M0 out) (hgXc B0 D cy ad0 M0 out) args s (hgRm q).1 (hgRm q).2 (hgA B0)) q B0 M0.1 D cy ad0 out := by
  intro E L S K M ad H locs ls pc rest ce q9 ho hcov hn kc ks hce hcv hcl
  refine vx_out (by rw [htab]; exact hcov) hlocks hce hcv hcl (fun t e1 _ => ?_) hn.2.2.1.2.2 (by omega) (by omega)
  exact ⟨E, M, ad, ho, rfl, hg_post hn e1⟩
set_option maxHeartbeats 4000000 in
set_option maxRecDepth 100000 in
theorem hg_endT (hC : hgCx p l R s m args meth c q B0 D cy X ad0) (htab : c.exceptionTable.toList = tableOf (hgHh q)) :
    hgEndT p l e R s m args below meth c (vx_MQ below (hgQc B0 D cy ad0 M0 out) (hgXc B0 D cy ad0 M0 out) args s (hgRm q).1 (hgRm q).2 (hgA B0)) q B0 M0.1 D cy ad0 out := by
  intro E L S K M ad H locs ls pc idx w1 w2 w3 w4 hs ho hd hk hS4 hn kc ks
  obtain ⟨hx, hb, hml, hown, hts, -, hK, hst, ⟨r1, r2, r3, r4⟩, ⟨htr, -, hlocks⟩, -⟩ := hC
  have hk2 : (decide (3 = 3) && hgThr q pc idx E w1 w2 w3 w4) = true := hk
  rw [Bool.and_eq_true] at hk2
  have hk3 := hk2.2
  unfold hgThr at hk3
  simp only [Bool.and_eq_true, decide_eq_true_eq] at hk3
  obtain ⟨⟨⟨⟨⟨⟨⟨⟨⟨⟨⟨⟨a1, a2⟩, a3⟩, a4⟩, a5⟩, a6⟩, a7⟩, a8⟩, a9⟩, a10⟩, a11⟩, a12⟩, a13⟩ := hk3
  have hall := List.all_eq_true.mp a13
  have hw : ∀ w ∈ (Cond.classLink (hgOwn q) idx (hgXn E) :: Cond.initialized (hgXn E) :: vx_atS (hgOwn q) w4 (hgXn E) hgNames), w.before args s = true ∧ vx_ot w = true := fun w hw9 => by
    have := hall w hw9
    rw [Bool.and_eq_true, Bool.and_eq_true, decide_eq_true_eq, Bool.or_eq_true] at this
    obtain ⟨⟨g1, g2⟩, g3⟩ := this
    refine ⟨?_, g3⟩
    rcases g2 with g2 | g2
    · exact hts _ (List.mem_filter.mpr ⟨g1, g2⟩)
    · exact va_Nw.use (hgDc_on g2) (hst.2.2.2.1.2.2.2.2.2.2.2 w g1 g2)
  obtain ⟨tx, hstr⟩ : ∃ tx, hgWt w2 = some (.stringRef (hgOwn q) w3 tx) := by
    split at a10
    · next own k tx hw2 =>
      rw [Bool.and_eq_true, decide_eq_true_eq, decide_eq_true_eq] at a10
      obtain ⟨g1, g2⟩ := a10
      subst g1; subst g2
      exact ⟨tx, hw2⟩
    · cases a10
  obtain ⟨sa, hsa, -⟩ := hst.2.2.2.1.1 _ _ _ (List.mem_of_getElem? hstr)
  have hcat := hgCat ad S
  have hst9 := hst
  refine vx_throwS (own := hgOwn q) (cls := hgXn E) (text := tx) (names := hgNames) (ik := idx) (is := w3) (ic := w4) (sa := sa) (A := hgA B0) hx hb htr hown a11 (fun n hn9 => List.all_eq_true.mp a12 n hn9) (hw _ List.mem_cons_self).1 (hw _ (List.mem_cons_of_mem _ List.mem_cons_self)).1 hsa (fun w hw9 => (hw w (List.mem_cons_of_mem _ (List.mem_cons_of_mem _ hw9))).1) (fun w hw9 => (hw w hw9).2) hst.1 hst.2.1 hn.2.2.1 (by rw [hml]; exact hn.2.2.2.1.1) hd a5 a6 a7 a8 (by rw [htab, a9]; intro x h9; cases h9) ?_ ?_ (by omega) (by omega) hlocks (fun t e1 e2 e3 => ?_) hn.2.2.1.2.2 (by omega) (by omega)
  · show 2 + 3 < R.frames
    omega
  · show _ + (13 * (2 + 1) + 43) ≤ R.locals
    omega
  · refine ⟨E, M, ad, ho, rfl, ⟨fun k x9 h9 => (hn.1 k x9 h9).kept (e3 _ (hn.1 k x9 h9).lt), hn.2.1, hn.2.2.2.2.2.2.1, hn.2.2.2.2.2.2.2.1, hn.2.2.2.2.2.2.2.2⟩, Nat.le_trans hn.2.2.1.1 e2, fun z h1 h2 => ?_⟩
    rw [e3 z (Nat.lt_of_lt_of_le h1 hn.2.2.1.1)]
    exact hn.2.2.1.2.1 z h1 h2
theorem hgC_some {n z : Nat} {as : List Value} {M : hgMem} {o : hgOut} (h : hgC X n z as M = some o) : (hgEnt as).length ≤ hgMl z ∧ hgRun X n z 0 (hgPad (hgMl z) (hgEnt as)) [] (0, 0) M = some o := by
  unfold hgC at h
  split at h
  · next g => exact ⟨g, h⟩
  · cases h
/-- from the entry, and from every label, within a body: by the fuel -/
theorem hg_labels (hLen : hgLenOk l) (hChr : hgChrOk l) (hM : ∀ z, z < 227 → hgMfact z) (hOk : ∀ b ∈ hgBs q, hgOkB q b.1 b.2.2 = true) (hC : hgCx p l R s m args meth c q B0 D cy X ad0) {Q : State → Prop}
    (hR : hgEndR p l e R s m args below meth c Q q B0 N0 D cy ad0 out) (hT : hgEndT p l e R s m args below meth c Q q B0 N0 D cy ad0 out) (hO : hgEndO p l e R s m args below meth c Q q B0 N0 D cy ad0 out) :
    ∀ (n : Nat), (∀ k, k < n → ∀ z as M o ad, hgC X k z as M = some o → z < 227 → hgSk M.1 as → hgCt l B0 D cy X z as ad M o) → ∀ (pc : Nat) (L : hgL) (S : List Value) (K : hgK) (M : hgMem), hgRun X n q pc L S K M = some out → hgGo p l e R s m args below meth c Q B0 D cy (hgMl q) N0 ad0 pc L S K M := by
  intro n
  induction n with
  | zero => intro _ pc L S K M h; cases h
  | succ n ih =>
    intro hcall pc L S K M h
    rw [hgRun_succ] at h
    have kj : ∀ t L S K M, hgJp X n q t L S K M = some out → hgGo p l e R s m args below meth c Q B0 D cy (hgMl q) N0 ad0 t L S K M := by
      intro t L S K M hj ad H locs ls hn kc ks
      refine ih (fun k hk => hcall k (Nat.lt_succ_of_lt hk)) t _ S K M hj ad H locs ls ?_ kc ks
      exact ⟨hn.1, hn.2.1, hn.2.2.1, hgLH_mask _ hn.2.2.2.1, fun i v hv => hn.2.2.2.2.1 i v (hgG_mask hv), hn.2.2.2.2.2⟩
    rcases hgLk_mem pc (hgBs q) with h0 | ⟨b, h1, h2, h3⟩
    · rw [h0] at h
      cases h
    · have hok := hOk b h1
      rw [h2, h3] at hok
      exact hg_block hLen hChr hM hC (hcall n (Nat.lt_succ_self n)) kj hR hT hO _ pc hok L S K M h
set_option maxHeartbeats 4000000 in
theorem hg_sound (hLen : hgLenOk l) (hChr : hgChrOk l) (hM : ∀ z, z < 227 → hgMfact z) (hOk : ∀ z, z < 227 → ∀ b ∈ hgBs z, hgOkB z b.1 b.2.2 = true) (htr : l.stackTraces = false) :
    ∀ (n : Nat), ∀ z as M o ad, hgC X n z as M = some o → z < 227 → hgSk M.1 as → hgCt l B0 D cy X z as ad M o := by
  intro n
  induction n using Nat.strongRecOn with
  | ind n ih =>
    intro z as M o ad h hz hsk
    obtain ⟨hlen, hrun⟩ := hgC_some h
    have hm := hM z hz
    have body : ∀ (p : Program) (e : Env) (s : State) (m : MethodId) (args : Array Value) (below : List Frame) (meth : Method) (c : Code) (s₁ : State), BodyLoose p l (hgY z) (headSpec (hgWd z) (hgRoom z)) (hgCode z) (hgMl z) (hgRet z) e s m args below meth c s₁ → c.maxLocals = hgMl z → c.exceptionTable.toList = tableOf (hgHh z) → va_Pc (as.map (hgPh ad)) (hgPre B0 D cy X ad M) args s →
        W p l e (headSpec (hgWd z) (hgRoom z)).room s m args below meth c s.heap [] 0 0 (vx_MQ below (hgQc B0 D cy ad M o) (hgXc B0 D cy ad M o) args s (hgRm z).1 (hgRm z).2 (hgA B0)) (entryFrame m args (hgMl z)) := by
      intro p e s m args below meth c s₁ B hml htab hv
      obtain ⟨rfl, hB, hP, hD, hK, hst, hRk⟩ := hv
      have hts0 := atoms_spec (ws := hgWd z) B.pre
      have hown : s.vm.findClass (hgOwn z) = some m.cls := by
        have := findClass_of_methodNamed B.named
        rw [hm.2.2.1] at this
        exact this
      have hC : hgCx p l (hgRoom z) s m (as.map (hgPh ad)).toArray meth c z B0 D cy X ad := ⟨B.exec, B.bytes, hml, hown, fun w hw => hts0 w (List.mem_cons_of_mem _ hw), hB, hK, hst, ⟨Nat.le_refl _, Nat.le_refl _, rfl, rfl⟩, ⟨htr, fun _ => htab, B.notSynchronized⟩, fun hi => by rw [(name_of_methodNamed B.named B.method).1]; exact hi⟩
      have hl := lv_entry (as.map (hgPh ad)) (n := hgMl z) (by rw [hgEnt_len]; exact hlen)
      rw [lg_entry_eq]
      generalize (lg_sl (as.map (hgPh ad)) ++ List.replicate (hgMl z - (lg_sl (as.map (hgPh ad))).length) Slot.unset).toArray = ls at hl ⊢
      have go := hg_labels (e := e) (below := below) (N0 := M.1) hLen hChr hM (hOk z hz) hC (hg_endR B.exec B.bytes B.returns B.notSynchronized ⟨rfl, rfl⟩) (hg_endT hC htab) (hg_endO B.notSynchronized htab ⟨rfl, rfl⟩) n (fun k hk z as M o ad => ih k hk z as M o ad) 0 _ [] (0, 0) M hrun ad s.heap [] ls ?_ (Nat.zero_le _) (Nat.zero_le _)
      · exact go
      · refine ⟨hP, hD, va_S.rf, hgLH_mono hl (fun i v hv => ?_), fun i v hv => ?_, hgSk_n, hRk, Nat.le_refl _, hgExt.rf⟩
        · have := (hgG_ent ad as 0 (hgG_pad _ _ hv)).1
          rw [Nat.zero_add] at this
          exact this
        · exact hsk v (hgG_ent ad as 0 (hgG_pad _ _ hv)).2
    by_cases hh : hgHh z = []
    · refine vx_ofW (cc := hgCode z) (maxL := hgMl z) (ret := hgRet z) (ws' := hgTb) hm.2.2.2.1 (by unfold hgWd; rw [hgHead_code hh]) ?_
      intro p e s m args below meth c s₁ B hml ht hv
      exact body p e s m args below meth c s₁ B hml (by
        rw [hh]
        cases he : c.exceptionTable.toList with
        | nil => rfl
        | cons x r => exact absurd (ht x (by rw [he]; exact List.mem_cons_self)) id) hv
    · refine vx_ofWH (cc := hgCode z) (maxL := hgMl z) (ret := hgRet z) (hh := hgHh z) (ws' := hgTb) hm.2.2.2.1 (by unfold hgWd; rw [hgHead_with hh]) ?_
      intro p e s m args below meth c s₁ B hml hv
      have hts0 := atoms_spec (ws := hgWd z) B.pre
      exact body p e s m args below meth c s₁ B hml (vx_table (x := hgY z) (bytes := hgCode z) (maxL' := hgMl z) (ret' := hgRet z) B (by rw [← hgHead_with hh]; exact hts0 _ List.mem_cons_self)) hv
end HGMAIN

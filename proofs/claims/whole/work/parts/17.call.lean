/-! CALLS of the program's own methods, by their contracts. -/
theorem hgTake_spec : ∀ {n : Nat} {acc S as r : List Value}, hgTake n acc S = some (as, r) → ∃ xs, as = xs ++ acc ∧ S = xs.reverse ++ r ∧ xs.length = n
  | 0, acc, S, as, r, h => by
    cases h
    exact ⟨[], rfl, rfl, rfl⟩
  | n + 1, acc, [], as, r, h => by cases h
  | n + 1, acc, v :: S, as, r, h => by
    obtain ⟨xs, h1, h2, h3⟩ := hgTake_spec (n := n) (acc := v :: acc) (S := S) h
    refine ⟨xs ++ [v], ?_, ?_, by simp [h3]⟩
    · rw [h1]; simp
    · rw [h2]; simp
theorem hgIx_mem {i : Nat} {w : Cond} (h : hgIx i w = true) : w ∈ hgTb := by
  simp only [hgIx, Bool.and_eq_true, decide_eq_true_eq] at h
  exact List.mem_filter.mpr ⟨List.mem_of_getElem? h.1, h.2⟩
def hgMfact (p : Nat) : Prop := hgHead p ∈ hgTb ∧ Cond.initialized (hgOwn p) ∈ hgTb ∧ (hgY p).cls = hgOwn p ∧ plainName (hgY p).cls = true ∧ ((hgY p).cls ≠ "java/lang/invoke/MethodHandle" ∧ (hgY p).cls ≠ "java/lang/invoke/VarHandle") ∧ parseMethodDescriptor (hgY p).desc ≠ none ∧ (hgKd p = 0 → Cond.instanceMethod (hgY p) ∈ hgTb ∧ Cond.selects (hgOwn p) (hgY p) (hgY p) ∈ hgTb ∧ hgHh p = [] ∧ (hgY p).name ≠ "<init>") ∧ (hgKd p = 1 → Cond.static (hgY p) ∈ hgTb ∧ (hgY p).name ≠ "<init>") ∧ (hgKd p ≠ 0 → hgKd p ≠ 1 → Cond.instanceMethod (hgY p) ∈ hgTb ∧ (hgY p).name = "<init>" ∧ hgHh p = [] ∧ hgRet p = none)
theorem hgMok_spec {p : Nat} (h : hgMok p = true) : hgMfact p := by
  unfold hgMok at h
  split at h
  · simp only [Bool.and_eq_true] at h
    obtain ⟨⟨⟨⟨⟨⟨h1, h2⟩, h3⟩, h4⟩, h5⟩, h6⟩, h7⟩ := h
    refine ⟨hgIx_mem h1, hgIx_mem h2, of_decide_eq_true h3, of_decide_eq_true h4, of_decide_eq_true h5, of_decide_eq_true h6, fun k => ?_, fun k => ?_, fun k1 k2 => ?_⟩
    · rw [if_pos k] at h7
      simp only [Bool.and_eq_true] at h7
      exact ⟨hgIx_mem h7.1.1.1, hgIx_mem h7.1.1.2, of_decide_eq_true h7.1.2, of_decide_eq_true h7.2⟩
    · rw [if_neg (by omega), if_pos k] at h7
      simp only [Bool.and_eq_true] at h7
      exact ⟨hgIx_mem h7.1, of_decide_eq_true h7.2⟩
    · rw [if_neg k1, if_neg k2] at h7
      simp only [Bool.and_eq_true] at h7
      exact ⟨hgIx_mem h7.1.1.1, of_decide_eq_true h7.1.1.2, of_decide_eq_true h7.1.2, of_decide_eq_true h7.2⟩
  · cases h
section HGCALL
variable {p : Program} {l : Launch} {e : Env} {R : Room} {s : State} {m : MethodId} {args : Array Value} {below : List Frame} {meth : Method} {c : Code} {Q : State → Prop} {q B0 nL N0 : Nat} {D : va_G} {cy : Nat → ClassId} {X : hgX} {ad0 : Nat → Nat}
theorem hg_blind {av : List Value} {ad : Nat → Nat} {M : hgMem} : FrameBlind (va_Pc av (hgPre B0 D cy X ad M)) := fun a U g mk h => by
  obtain ⟨q0, q1, qP, qD, qK, qS, qR⟩ := h
  exact ⟨q0, q1, qP, qD, va_K.moved (u := U) (U := U.calling g mk a) (Vm.Alike.refl U.vm) qK, hgStat.warm (s := U) (U := U.calling g mk a) (State.WarmedH.refl U) qS, qR⟩
theorem hg_pre (hC : hgCx p l R s m args meth c q B0 D cy X ad0) {ad : Nat → Nat} {L : hgL} {S : List Value} {M : hgMem} {H : Heap} {locs : List Loc} {ls : Array Slot} (hn : hgNow B0 D cy s nL N0 ad0 ad L S M H locs ls) {U : State} (hU : U.heap = H) (hW : s.WarmedH U.vm) : hgPre B0 D cy X ad M U := by
  obtain ⟨-, -, -, -, -, hB, hK, hst, -⟩ := hC
  obtain ⟨h1, h2, h3, h4, h5, h6, h7, h8, h9⟩ := hn
  refine ⟨by rw [hU]; exact Nat.le_trans hB h3.1, by rw [hU]; exact h1, h2, va_K.moved hW.alike hK, ?_, h7⟩
  rw [hU]
  exact ((hst.kept h3.2.1).ext h9).warm hW
theorem hg_words (hts : ∀ w ∈ hgTb, w.before args s = true) {z : Nat} (hm : hgMfact z) : ∀ w ∈ hgWd z, ∀ (a' : Array Value) (U : State), s.WarmedH U.vm → w.before a' U = true := by
  intro w hw a' U hW
  have hin : w ∈ hgTb := by
    rcases List.mem_cons.mp hw with h | h
    · rw [h]; exact hm.1
    · exact h
  exact word_at hW (good_of_word (List.mem_filter.mp hin).2) (hts w hin)
theorem hg_arity {y : MethodName} (h : parseMethodDescriptor y.desc ≠ none) : ∀ sig, parseMethodDescriptor y.desc = some sig → hgArity y = sig.parameters.length := by
  intro sig hs
  unfold hgArity
  rw [hs]
theorem hgHead_code {z : Nat} (h : hgHh z = []) : hgHead z = .code (hgY z) (hgCode z) (hgMl z) (hgRet z) := if_pos h
theorem hgHead_with {z : Nat} (h : hgHh z ≠ []) : hgHead z = .codeWith (hgY z) (hgCode z) (hgMl z) (hgRet z) (hgHh z) := if_neg h
theorem hg_callB (hts : ∀ w ∈ hgTb, w.before args s = true) {z idx w : Nat} (hm : hgMfact z) (hh : hgHh z = []) (hw : hgWt w = some (.methodLink (hgOwn q) idx (hgY z))) (hf : hgFr z + 1 ≤ R.frames) (hl : 8 + (hgMl z + 11) + hgLo z ≤ R.locals) :
    CallB R s args (hgOwn q) idx (hgY z) (hgCode z) (hgMl z) (hgRet z) (hgWd z) (hgRoom z) (hgRm z).1 (hgRm z).2 (hgArity (hgY z)) := by
  have hd := hm.1
  rw [hgHead_code hh] at hd
  refine ⟨rfl, rfl, hf, hl, hg_words hts hm, ?_, hts _ hd, ?_, hm.2.2.2.2.1, hg_arity hm.2.2.2.2.2.1, hts _ (hgTb_of hw rfl)⟩
  · rw [← hgHead_code hh]; exact List.mem_cons_self
  · rw [hm.2.2.1]; exact hts _ hm.2.1
set_option maxHeartbeats 4000000 in
/-- the call itself -/
theorem hg_run (hC : hgCx p l R s m args meth c q B0 D cy X ad0) {z idx w kind ci : Nat} {len : Nat} {pc : Nat} {L : hgL} {as r : List Value} {K : hgK} {M : hgMem} {ad : Nat → Nat} {H : Heap} {locs : List Loc} {ls : Array Slot} {out1 : hgOut}
    (hn : hgNow B0 D cy s (hgMl q) N0 ad0 ad L (as.reverse ++ r) M H locs ls) (hm : hgMfact z) (hct : hgCt l B0 D cy X z as ad M out1) (hw : hgWt w = some (.methodLink (hgOwn q) idx (hgY z))) (hf : hgFr z + 1 ≤ hgFr q) (hl : 8 + (hgMl z + 11) + hgLo z ≤ hgLo q) (hkd : hgKd z = kind) (hna : as.length = hgArity (hgY z) + if kind = 1 then 0 else 1)
    (hci : kind ≠ 1 → ∃ T N, vwCl[ci]? = some (hgOwn z, T, N)) (hrecv : kind ≠ 1 → ∃ b as1, as = .ref b :: as1 ∧ b < M.1 ∧ (hgSh b).1 = ci) (hd : (kind = 0 ∧ decode (hgCode q) pc = .ok (.invokevirtual idx, 3)) ∨ (kind = 1 ∧ decode (hgCode q) pc = .ok (.invokestatic idx, 3)) ∨ (kind = 2 ∧ decode (hgCode q) pc = .ok (.invokespecial idx, 3)))
    (hr4 : (r.map (fun v => v.category)).sum ≤ 8) (k1 : K.1 + (hgRm z).1 ≤ (hgRm q).1) (k2 : K.2 + (hgRm z).2 ≤ (hgRm q).2) :
    vx_Run p l e R s m args below meth c H locs K.1 K.2 (hgRm z).1 (hgRm z).2 (F0 m pc ls ((as.reverse ++ r).map (hgPh ad))) (r.map (hgPh ad)) (hgQc B0 D cy ad M out1 (as.map (hgPh ad)).toArray) (hgXc B0 D cy ad M out1) (hgA B0) := by
  have hpre : ∀ U : State, U.heap = H → s.WarmedH U.vm → va_Pc (as.map (hgPh ad)) (hgPre B0 D cy X ad M) (as.map (hgPh ad)).toArray U := fun U hU hW => ⟨rfl, hg_pre hC hn hU hW⟩
  obtain ⟨hx, hb, hml, hown, hts, -, hK, -, ⟨r1, r2, r3, r4⟩, -⟩ := hC
  have hf1 : hgFr z + 1 ≤ R.frames := by omega
  have hl1 : 8 + (hgMl z + 11) + hgLo z ≤ R.locals := by omega
  have hsz : ls.size = hgMl q := hn.2.2.2.1.1
  have hcat : ((r.map (hgPh ad)).map fun v => v.category).sum ≤ 8 := by
    simp only [List.map_map, Function.comp_def, hgPh_cat]
    exact hr4
  have hcd : K.1 + (hgRm z).1 ≤ R.cells ∧ K.2 + (hgRm z).2 ≤ R.slots := by omega
  have hstk : (as.reverse ++ r).map (hgPh ad) = (as.map (hgPh ad)).reverse ++ r.map (hgPh ad) := by simp
  rcases hd with ⟨hk0, hd⟩ | ⟨hk1, hd⟩ | ⟨hk2, hd⟩
  · obtain ⟨b, as1, rfl, hb1, hb2⟩ := hrecv (by omega)
    obtain ⟨T, N, hcl⟩ := hci (by omega)
    obtain ⟨g1, g2, g3, -⟩ := hm.2.2.2.2.2.2.1 (by omega)
    have hre := va_recv hK hn.1 hcl (show (hgWs cy ad M)[b]? = some (ad b, .inr (ci, _)) by rw [hgWs_at cy ad M hb1, hgEn_obj cy ad M hb2 (by have := (hgCls hcl).2.2.2.2.1; omega)])
    refine vx_runV (cc := hgCode q) (nL := hgMl q) (Ts := hgTb) (b := ad b) (As := as1.map (hgPh ad)) ⟨hx, hb, hml, hown, hts⟩ hct ⟨hg_callB hts hm g3 hw hf1 hl1, hts _ g1, hts _ g2⟩ ⟨hg_blind, hre, hpre⟩ rfl ?_ hsz ?_ (lv_room hcat) hd hcd
    · rw [List.length_map]
      rw [List.length_cons, if_neg (by omega)] at hna
      omega
    · show List.map (hgPh ad) ((.ref b :: as1).reverse ++ r) = _
      rw [hstk, List.map_cons, List.reverse_cons, List.append_assoc]
      rfl
  · have hst := (hm.2.2.2.2.2.2.2.1 (by omega)).1
    rw [if_pos hk1, Nat.add_zero] at hna
    by_cases hh : hgHh z = []
    · refine vx_runS (cc := hgCode q) (nL := hgMl q) (Ts := hgTb) (As := as.map (hgPh ad)) ⟨hx, hb, hml, hown, hts⟩ hct ⟨hg_callB hts hm hh hw hf1 hl1, hts _ hst⟩ ⟨hg_blind, hpre⟩ rfl (by rw [List.length_map]; exact hna) hsz hstk (lv_room hcat) hd hcd
    · have hhd := hm.1
      rw [hgHead_with hh] at hhd
      refine vx_runSX (cc := hgCode q) (nL := hgMl q) (Ts := hgTb) (As := as.map (hgPh ad)) (hh := hgHh z) (bytes := hgCode z) (maxL := hgMl z) (ret := hgRet z) ⟨hx, hb, hml, hown, hts⟩ hct ⟨⟨rfl, rfl, hf1, hl1, hg_words hts hm, by rw [← hgHead_with hh]; exact List.mem_cons_self⟩, hts _ hhd, by rw [hm.2.2.1]; exact hts _ hm.2.1, hm.2.2.2.2.1, hg_arity hm.2.2.2.2.2.1, hts _ (hgTb_of hw rfl), hts _ hst⟩ ⟨hg_blind, hpre⟩ rfl (by rw [List.length_map]; exact hna) hsz hstk (lv_room hcat) hd hcd
  · obtain ⟨b, as1, rfl, hb1, hb2⟩ := hrecv (by omega)
    obtain ⟨g1, g2, g3, g4⟩ := hm.2.2.2.2.2.2.2.2 (by omega) (by omega)
    have hcb := hg_callB (R := R) hts hm g3 hw hf1 hl1
    rw [g4] at hcb
    refine vx_runI (cc := hgCode q) (nL := hgMl q) (Ts := hgTb) (b := ad b) (As := as1.map (hgPh ad)) ⟨hx, hb, hml, hown, hts⟩ hct ⟨hcb, g2, hts _ g1⟩ ⟨hg_blind, hpre⟩ rfl ?_ hsz ?_ (lv_room hcat) hd hcd
    · rw [List.length_map]
      rw [List.length_cons, if_neg (by omega)] at hna
      omega
    · show List.map (hgPh ad) ((.ref b :: as1).reverse ++ r) = _
      rw [hstk, List.map_cons, List.reverse_cons, List.append_assoc]
      rfl
/-- behind the call: it has returned, or thrown -/
theorem hg_after {pc mc ms : Nat} {K : hgK} {M : hgMem} {ad : Nat → Nat} {H : Heap} {locs : List Loc} {ls : Array Slot} {st0 rest : List Value} {out1 : hgOut} {a : Array Value}
    (hr : vx_Run p l e R s m args below meth c H locs K.1 K.2 mc ms (F0 m pc ls st0) rest (hgQc B0 D cy ad M out1 a) (hgXc B0 D cy ad M out1) (hgA B0)) (hS : va_S (hgA B0) s.heap H locs)
    (kk : ∀ (v : Value) (M1 : hgMem) (ad1 : Nat → Nat) (H1 : Heap) (locs1 : List Loc), out1 = (.inl v, M1) → hgNum v → va_P D vwCl (hgWs cy ad1 M1) H1 → va_D (hgA B0) (hgWs cy ad1 M1) → hgRok M1 → M.1 ≤ M1.1 → hgExt M.1 ad ad1 → va_S (hgA B0) s.heap H1 locs1 → W p l e R s m args below meth c H1 locs1 (K.1 + mc) (K.2 + ms) Q (F0 m (pc + 3) ls ((hgRv v).toList ++ rest)))
    (kx : ∀ (x : Nat) (M1 : hgMem) (ad1 : Nat → Nat) (H1 : Heap) (locs1 : List Loc) (ce : Cell) (q9 : Addr), out1 = (.inr x, M1) → va_P D vwCl (hgWs cy ad1 M1) H1 → va_D (hgA B0) (hgWs cy ad1 M1) → hgRok M1 → M.1 ≤ M1.1 → hgExt M.1 ad ad1 → va_S (hgA B0) s.heap H1 locs1 → H1[q9]? = some ce → ce.vm = .none → s.vm.findClass (hgXn x) = some ce.cls → vx_W p l e R s m args below meth c H1 locs1 (K.1 + mc) (K.2 + ms) Q (F0 m pc ls rest) q9) :
    W p l e R s m args below meth c H locs K.1 K.2 Q (F0 m pc ls st0) := by
  intro T hT Xs
  rcases hr T hT Xs with ⟨v, st₀, t, T', Lc, h0, X', hL, e1, e2, ⟨v9, M1, ad1, ho, hnum, hv, ⟨b1, b2, b3, b4, b5⟩, hF⟩, st⟩ | ⟨q9, st₀, t, T', Lc, E, ce, h0, X', hL, e1, e2, ⟨x, M1, ad1, ho, hE, ⟨b1, b2, b3, b4, b5⟩, hF⟩, hce, hcv, hcl, st⟩
  · cases hv
    obtain ⟨k1, k2, k3⟩ := vx_keep h0 e1 hS (fun z _ hz => hz) (fun z hz => hz) hL hF
    obtain ⟨t2, a1, c1⟩ := kk v9 M1 ad1 T'.heap (locs ++ Lc) ho hnum (by rw [e1]; exact b1) b2 b3 b4 b5 k3 T' rfl X'
    exact ⟨t2, st t2 a1, c1⟩
  · subst hE
    obtain ⟨k1, k2, k3⟩ := vx_keep h0 e1 hS (fun z _ hz => hz) (fun z hz => hz) hL hF
    obtain ⟨t2, a1, c1⟩ := kx x M1 ad1 T'.heap (locs ++ Lc) ce q9 ho (by rw [e1]; exact b1) b2 b3 b4 b5 k3 (by rw [e1]; exact hce) hcv hcl T' rfl X'
    exact ⟨t2, st.trans a1, c1⟩
/-- what the caller's own things are, behind the call -/
theorem hgNow.back {ad ad1 : Nat → Nat} {L : hgL} {S r : List Value} {M M1 : hgMem} {H H1 : Heap} {locs locs1 : List Loc} {ls : Array Slot} (h : hgNow B0 D cy s nL N0 ad0 ad L S M H locs ls) (hr : hgSk M.1 r) (hP : va_P D vwCl (hgWs cy ad1 M1) H1) (hD : va_D (hgA B0) (hgWs cy ad1 M1)) (hR : hgRok M1) (hN : M.1 ≤ M1.1) (hx : hgExt M.1 ad ad1) (hS : va_S (hgA B0) s.heap H1 locs1) : hgNow B0 D cy s nL N0 ad0 ad1 L r M1 H1 locs1 ls ∧ r.map (hgPh ad1) = r.map (hgPh ad) := by
  obtain ⟨h1, h2, h3, h4, h5, h6, h7, h8, h9⟩ := h
  refine ⟨⟨hP, hD, hS, hgLH_mono h4 (fun i v hv => ?_), fun i v hv => hgVk_m (h5 i v hv) hN, fun v hv => hgVk_m (hr v hv) hN, hR, Nat.le_trans h8 hN, h9.tr h8 hx⟩, List.map_congr_left (fun v hv => hgPh_ext hx (hr v hv))⟩
  rw [hgPh_ext hx (h5 i v hv)]
  exact hgAs_mem.mpr ⟨i, v, (Nat.zero_add i).symm, hv, rfl⟩
end HGCALL

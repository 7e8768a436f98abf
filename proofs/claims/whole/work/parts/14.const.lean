/-! Constants, new cells. -/
section HGCST
variable {p : Program} {l : Launch} {e : Env} {R : Room} {s : State} {m : MethodId} {args : Array Value} {below : List Frame} {meth : Method} {c : Code} {Q : State → Prop} {q B0 nL N0 : Nat} {D : va_G} {cy : Nat → ClassId} {X : hgX} {ad0 : Nat → Nat}
variable {call : Nat → List Value → hgMem → Option hgOut} {jump : Nat → hgL → List Value → hgK → hgMem → Option hgOut} {len : Nat} {ps : List Nat} {hs : List (Nat × Nat × Nat)} {pc : Nat} {out : hgOut} {L : hgL} {S : List Value} {K : hgK} {M : hgMem} {k : hgL → List Value → hgK → hgMem → Option hgOut}
theorem hgldc_some {f0 f1 f2 : Nat → Nat → Option hgOut} (h : (match ps with
    | [0, w, v] => f0 w v
    | [1, w, v] => f1 w v
    | [2, w, v] => f2 w v
    | _ => none) = some out) : ∃ w v, (ps = [0, w, v] ∧ f0 w v = some out) ∨ (ps = [1, w, v] ∧ f1 w v = some out) ∨ (ps = [2, w, v] ∧ f2 w v = some out) := by
  split at h
  · exact ⟨_, _, Or.inl ⟨rfl, h⟩⟩
  · exact ⟨_, _, Or.inr (Or.inl ⟨rfl, h⟩)⟩
  · exact ⟨_, _, Or.inr (Or.inr ⟨rfl, h⟩)⟩
  · cases h
set_option maxRecDepth 100000 in
set_option maxHeartbeats 4000000 in
theorem hg_ldc (hC : hgCx p l R s m args meth c q B0 D cy X ad0) {idx : Nat} (hd : decode (hgCode q) pc = .ok (.ldc idx, len)) (hk : hgChk q pc (.ldc idx) len ps hs = true) (h : hgStep X (hgRm q) call jump (.ldc idx) ps hs L S K M k = some out)
    (kk : ∀ L S K M, k L S K M = some out → hgGo p l e R s m args below meth c Q B0 D cy (hgMl q) N0 ad0 (pc + len) L S K M) : hgGo p l e R s m args below meth c Q B0 D cy (hgMl q) N0 ad0 pc L S K M := by
  obtain ⟨hx, hb, -, hown, hts, -, -, hst, -⟩ := hC
  obtain ⟨w, v, g⟩ := hgldc_some (f0 := fun _ v => k L (.int (nI v) :: S) K M) (f1 := fun _ v => k L (.float (UInt32.ofNat v) :: S) K M) (f2 := fun _ v => k L (.ref v :: S) K M) h
  clear h
  rcases g with ⟨rfl, h9⟩ | ⟨rfl, h9⟩ | ⟨rfl, h9⟩
  · have hk2 : (decide (len = 2) && decide (hgWt w = some (.constant (hgOwn q) idx (nI v)))) = true := hk
    rw [Bool.and_eq_true, decide_eq_true_eq, decide_eq_true_eq] at hk2
    obtain ⟨hl, hw⟩ := hk2
    subst hl
    intro ad H locs ls hn kc ks
    exact lv_ldc hx hb hown (hts _ (hgTb_of hw rfl)) hd (kk _ _ _ _ h9 ad H locs ls (hn.to (hgSk_c hgVk_i hn.sk)) kc ks)
  · have hk2 : (decide (len = 2) && decide (hgWt w = some (.constantFloat (hgOwn q) idx (UInt32.ofNat v)))) = true := hk
    rw [Bool.and_eq_true, decide_eq_true_eq, decide_eq_true_eq] at hk2
    obtain ⟨hl, hw⟩ := hk2
    subst hl
    intro ad H locs ls hn kc ks
    exact lv_ldcf hx hb hown (hts _ (hgTb_of hw rfl)) hd (kk _ _ _ _ h9 ad H locs ls (hn.to (hgSk_c hgVk_f hn.sk)) kc ks)
  · have hk2 : (decide (len = 2) && (decide (1000 ≤ v) && (match hgTx[v - 1000]? with
      | some tx => decide (hgWt w = some (.stringRef (hgOwn q) idx tx))
      | none => false))) = true := hk
    rw [Bool.and_eq_true, Bool.and_eq_true, decide_eq_true_eq, decide_eq_true_eq] at hk2
    obtain ⟨hl, hv, hm⟩ := hk2
    subst hl
    cases ht : hgTx[v - 1000]? with
    | none => rw [ht] at hm; cases hm
    | some tx =>
      rw [ht] at hm
      have hw : hgWt w = some (.stringRef (hgOwn q) idx tx) := of_decide_eq_true hm
      obtain ⟨sa, g1, g2⟩ := hst.2.2.2.1.1 (hgOwn q) idx tx (List.mem_of_getElem? hw)
      intro ad H locs ls hn kc ks
      have e9 : ad v = sa := by
        rw [hn.2.2.2.2.2.2.2.2 v (Or.inr hv), g2 _ ht]
        congr 1
        omega
      refine va_ldcS hx hb hown g1 hd ?_
      rw [← e9]
      exact kk _ _ _ _ h9 ad H locs ls (hn.to (hgSk_c (hgVk_t hv) hn.sk)) kc ks
theorem hgldw_some {f0 : Nat → Nat → Option hgOut} (h : (match ps with
    | [0, w, v] => f0 w v
    | _ => none) = some out) : ∃ w v, ps = [0, w, v] ∧ f0 w v = some out := by
  split at h
  · exact ⟨_, _, rfl, h⟩
  · cases h
theorem hgld2w_some {f0 f1 : Nat → Nat → Option hgOut} (h : (match ps with
    | [0, w, v] => f0 w v
    | [1, w, v] => f1 w v
    | _ => none) = some out) : ∃ w v, (ps = [0, w, v] ∧ f0 w v = some out) ∨ (ps = [1, w, v] ∧ f1 w v = some out) := by
  split at h
  · exact ⟨_, _, Or.inl ⟨rfl, h⟩⟩
  · exact ⟨_, _, Or.inr ⟨rfl, h⟩⟩
  · cases h
set_option maxHeartbeats 4000000 in
theorem hg_ldcw (hC : hgCx p l R s m args meth c q B0 D cy X ad0) {idx : Nat} (hd : decode (hgCode q) pc = .ok (.ldc_w idx, len)) (hk : hgChk q pc (.ldc_w idx) len ps hs = true) (h : hgStep X (hgRm q) call jump (.ldc_w idx) ps hs L S K M k = some out)
    (kk : ∀ L S K M, k L S K M = some out → hgGo p l e R s m args below meth c Q B0 D cy (hgMl q) N0 ad0 (pc + len) L S K M) : hgGo p l e R s m args below meth c Q B0 D cy (hgMl q) N0 ad0 pc L S K M := by
  obtain ⟨hx, hb, -, hown, hts, -⟩ := hC
  obtain ⟨w, v, rfl, h9⟩ := hgldw_some (f0 := fun _ v => k L (.int (nI v) :: S) K M) h
  have hk2 : (decide (len = 3) && decide (hgWt w = some (.constant (hgOwn q) idx (nI v)))) = true := hk
  rw [Bool.and_eq_true, decide_eq_true_eq, decide_eq_true_eq] at hk2
  obtain ⟨hl, hw⟩ := hk2
  subst hl
  intro ad H locs ls hn kc ks
  exact lv_ldcw hx hb hown (hts _ (hgTb_of hw rfl)) hd (kk _ _ _ _ h9 ad H locs ls (hn.to (hgSk_c hgVk_i hn.sk)) kc ks)
set_option maxHeartbeats 4000000 in
theorem hg_ldc2 (hC : hgCx p l R s m args meth c q B0 D cy X ad0) {idx : Nat} (hd : decode (hgCode q) pc = .ok (.ldc2_w idx, len)) (hk : hgChk q pc (.ldc2_w idx) len ps hs = true) (h : hgStep X (hgRm q) call jump (.ldc2_w idx) ps hs L S K M k = some out)
    (kk : ∀ L S K M, k L S K M = some out → hgGo p l e R s m args below meth c Q B0 D cy (hgMl q) N0 ad0 (pc + len) L S K M) : hgGo p l e R s m args below meth c Q B0 D cy (hgMl q) N0 ad0 pc L S K M := by
  obtain ⟨hx, hb, -, hown, hts, -⟩ := hC
  obtain ⟨w, v, g⟩ := hgld2w_some (f0 := fun _ v => k L (.long (lN v) :: S) K M) (f1 := fun _ v => k L (.long (-lN v) :: S) K M) h
  clear h
  rcases g with ⟨rfl, h9⟩ | ⟨rfl, h9⟩
  · have hk2 : (decide (len = 3) && decide (hgWt w = some (.constantLong (hgOwn q) idx (lN v)))) = true := hk
    rw [Bool.and_eq_true, decide_eq_true_eq, decide_eq_true_eq] at hk2
    obtain ⟨hl, hw⟩ := hk2
    subst hl
    intro ad H locs ls hn kc ks
    exact lv_ldc2 hx hb hown (hts _ (hgTb_of hw rfl)) hd (kk _ _ _ _ h9 ad H locs ls (hn.to (hgSk_c hgVk_l hn.sk)) kc ks)
  · have hk2 : (decide (len = 3) && decide (hgWt w = some (.constantLong (hgOwn q) idx (-lN v)))) = true := hk
    rw [Bool.and_eq_true, decide_eq_true_eq, decide_eq_true_eq] at hk2
    obtain ⟨hl, hw⟩ := hk2
    subst hl
    intro ad H locs ls hn kc ks
    exact lv_ldc2 hx hb hown (hts _ (hgTb_of hw rfl)) hd (kk _ _ _ _ h9 ad H locs ls (hn.to (hgSk_c hgVk_l hn.sk)) kc ks)
/-! a cell more -/
theorem hgRok_new (h : hgRok M) : hgRok (hgNew M) := by
  intro a j r hr
  have hr : (if a = M.1 then none else hgR M a j) = some r := hr
  split at hr
  · cases hr
  · exact Nat.lt_succ_of_lt (h a j r hr)
theorem hgI_new (M : hgMem) {a : Nat} (h : a ≠ M.1) : hgI (hgNew M) a = hgI M a := by
  funext j
  show (if a = M.1 then 0 else hgI M a j) = _
  rw [if_neg h]
theorem hgJ_new (M : hgMem) {a : Nat} (h : a ≠ M.1) : hgJ (hgNew M) a = hgJ M a := by
  funext j
  show (if a = M.1 then 0 else hgJ M a j) = _
  rw [if_neg h]
theorem hgR_new (M : hgMem) {a : Nat} (h : a ≠ M.1) : hgR (hgNew M) a = hgR M a := by
  funext j
  show (if a = M.1 then none else hgR M a j) = _
  rw [if_neg h]
theorem hgI_new_at (M : hgMem) : hgI (hgNew M) M.1 = fun _ => 0 := by
  funext j
  show (if M.1 = M.1 then 0 else hgI M M.1 j) = _
  rw [if_pos rfl]
theorem hgJ_new_at (M : hgMem) : hgJ (hgNew M) M.1 = fun _ => 0 := by
  funext j
  show (if M.1 = M.1 then 0 else hgJ M M.1 j) = _
  rw [if_pos rfl]
theorem hgR_new_at (M : hgMem) : hgR (hgNew M) M.1 = fun _ => none := by
  funext j
  show (if M.1 = M.1 then none else hgR M M.1 j) = _
  rw [if_pos rfl]
/-- an entry's references are named alike by both -/
theorem hgEn_ad (cy : Nat → ClassId) {ad ad1 : Nat → Nat} {M M1 : hgMem} {a : Nat} (hI : hgI M1 a = hgI M a) (hJ : hgJ M1 a = hgJ M a) (hR : hgR M1 a = hgR M a) (hr : ∀ j r, hgR M a j = some r → ad1 r = ad r) : hgEn cy ad1 M1 a = hgEn cy ad M a := by
  have e1 : ∀ j, (hgR M a j).map ad1 = (hgR M a j).map ad := fun j => by
    cases h : hgR M a j with
    | none => rfl
    | some r => exact congrArg some (hr j r h)
  have e2 : ∀ ci k, hgFv ad1 M1 a ci k = hgFv ad M a ci k := fun ci k => by
    unfold hgFv
    rw [hI, hJ, hR, e1]
  unfold hgEn
  simp only [hI, hJ, hR, e1, e2]
theorem hgWs_new (cy : Nat → ClassId) (ad : Nat → Nat) (M : hgMem) (b : Nat) {e : va_E} (hr : hgRok M) (he : hgEn cy (va_up ad M.1 b) (hgNew M) M.1 = e) : hgWs cy ad M ++ [(b, e)] = hgWs cy (va_up ad M.1 b) (hgNew M) := by
  show _ = (List.range (M.1 + 1)).map (fun a => (va_up ad M.1 b a, hgEn cy (va_up ad M.1 b) (hgNew M) a))
  rw [List.range_succ, List.map_append]
  congr 1
  · refine List.map_congr_left (fun a ha => ?_)
    have ha : a < M.1 := List.mem_range.mp ha
    have hne : a ≠ M.1 := by omega
    refine Prod.ext_iff.mpr ⟨?_, ?_⟩
    · simp [va_up, hne]
    · refine (hgEn_ad cy (hgI_new M hne) (hgJ_new M hne) (hgR_new M hne) (fun j r h => ?_)).symm
      have := hr a j r h
      simp [va_up, show r ≠ M.1 by omega]
  · simp [va_up, he]
theorem hgNow.new {ad : Nat → Nat} {S1 : List Value} {H H1 : Heap} {locs : List Loc} {ls : Array Slot} {b : Nat} (h : hgNow B0 D cy s nL N0 ad0 ad L S M H locs ls) (hM : M.1 < 1000) (hP : va_P D vwCl (hgWs cy (va_up ad M.1 b) (hgNew M)) H1) (hD : va_D (hgA B0) (hgWs cy (va_up ad M.1 b) (hgNew M))) (hS : va_S (hgA B0) s.heap H1 locs) (hk : hgSk M.1 S1) : hgNow B0 D cy s nL N0 ad0 (va_up ad M.1 b) L (.ref M.1 :: S1) (hgNew M) H1 locs ls ∧ (S1.map (hgPh (va_up ad M.1 b)) = S1.map (hgPh ad)) := by
  have hx : hgExt M.1 ad (va_up ad M.1 b) := fun a ha => by
    show (if a = M.1 then b else ad a) = ad a
    rw [if_neg (by omega)]
  obtain ⟨h1, h2, h3, h4, h5, h6, h7, h8, h9⟩ := h
  refine ⟨⟨hP, hD, hS, hgLH_mono h4 (fun i v hv => ?_), fun i v hv => hgVk_m (h5 i v hv) (Nat.le_succ _), hgSk_c (hgVk_r (Nat.lt_succ_self _)) (fun v hv => hgVk_m (hk v hv) (Nat.le_succ _)), hgRok_new h7, Nat.le_succ_of_le h8, h9.tr h8 hx⟩, ?_⟩
  · rw [hgPh_ext hx (h5 i v hv)]
    exact hgAs_mem.mpr ⟨i, v, (Nat.zero_add i).symm, hv, rfl⟩
  · exact List.map_congr_left (fun v hv => hgPh_ext hx (hk v hv))
end HGCST

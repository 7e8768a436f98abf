/-! Writes to fields, arrays, constants. -/
section HGM2
variable {p : Program} {l : Launch} {e : Env} {R : Room} {s : State} {m : MethodId} {args : Array Value} {below : List Frame} {meth : Method} {c : Code} {Q : State → Prop} {q B0 nL N0 : Nat} {D : va_G} {cy : Nat → ClassId} {X : hgX} {ad0 : Nat → Nat}
variable {call : Nat → List Value → hgMem → Option hgOut} {jump : Nat → hgL → List Value → hgK → hgMem → Option hgOut} {len : Nat} {ps : List Nat} {hs : List (Nat × Nat × Nat)} {pc : Nat} {out : hgOut} {L : hgL} {S : List Value} {K : hgK} {M : hgMem} {k : hgL → List Value → hgK → hgMem → Option hgOut}
theorem hgFv_SI (ad : Nat → Nat) (M : hgMem) (a ci f : Nat) (x : Int32) (h1 : ¬ hgFk ci f = 1) (h2 : ¬ hgFk ci f = 2) : hgFv ad (hgSI M a f x) a ci f = .int x := by
  unfold hgFv
  rw [if_neg h1, if_neg h2]
  show Value.int (hgU M.2.1 a f x a f) = _
  simp [hgU]
theorem hgFv_SI_ne (ad : Nat → Nat) (M : hgMem) (a ci f : Nat) (x : Int32) {j : Nat} (h : j ≠ f) : hgFv ad (hgSI M a f x) a ci j = hgFv ad M a ci j := by
  have e1 : hgI (hgSI M a f x) a j = hgI M a j := by show hgU M.2.1 a f x a j = _; simp [hgU, h, hgI]
  unfold hgFv
  rw [e1]
  rfl
theorem hgFv_SJ (ad : Nat → Nat) (M : hgMem) (a ci f : Nat) (x : Int64) (h1 : hgFk ci f = 1) : hgFv ad (hgSJ M a f x) a ci f = .long x := by
  unfold hgFv
  rw [if_pos h1]
  show Value.long (hgU M.2.2.1 a f x a f) = _
  simp [hgU]
theorem hgFv_SJ_ne (ad : Nat → Nat) (M : hgMem) (a ci f : Nat) (x : Int64) {j : Nat} (h : j ≠ f) : hgFv ad (hgSJ M a f x) a ci j = hgFv ad M a ci j := by
  have e1 : hgJ (hgSJ M a f x) a j = hgJ M a j := by show hgU M.2.2.1 a f x a j = _; simp [hgU, h, hgJ]
  unfold hgFv
  rw [e1]
  rfl
theorem hgFv_SR (ad : Nat → Nat) (M : hgMem) (a ci f x : Nat) (h1 : hgFk ci f = 2) : hgFv ad (hgSR M a f x) a ci f = .ref (ad x) := by
  unfold hgFv
  rw [if_neg (by omega), if_pos h1]
  show va_rf ((hgU M.2.2.2 a f (some x) a f).map ad) = _
  simp [hgU, va_rf]
theorem hgFv_SR_ne (ad : Nat → Nat) (M : hgMem) (a ci f x : Nat) {j : Nat} (h : j ≠ f) : hgFv ad (hgSR M a f x) a ci j = hgFv ad M a ci j := by
  have e1 : hgR (hgSR M a f x) a j = hgR M a j := by show hgU M.2.2.2 a f (some x) a j = _; simp [hgU, h, hgR]
  unfold hgFv
  rw [e1]
  rfl
set_option maxHeartbeats 4000000 in
/-- the machine's part of a putfield, for any value -/
theorem hg_putW (hC : hgCx p l R s m args meth c q B0 D cy X ad0) {idx ci f kd w fin : Nat} (hd : decode (hgCode q) pc = .ok (.putfield idx, 3)) (hk : hgFld q idx ci f kd w = true) (hfn : (match hgFin ci f with
      | some (C, b) => if fin = 1 then b && decide (C = hgOwn q) && decide ((hgY q).name = "<init>") else !b
      | none => false) = true)
    {ad : Nat → Nat} {H : Heap} {locs : List Loc} {ls : Array Slot} {a : Nat} {r : List Value} {M1 : hgMem} (hn : hgNow B0 D cy s (hgMl q) N0 ad0 ad L S M H locs ls) (ha : a < M.1) (hci : (hgSh a).1 = ci) {v : Value}
    (hv : ∀ ty, hgTyOk kd ty = true → narrow ty v = v ∧ fits ty v = true) (hN : M1.1 = M.1) (he1 : hgFv ad M1 a ci f = v) (he2 : ∀ j, j ≠ f → hgFv ad M1 a ci j = hgFv ad M a ci j) (ho : ∀ b, b ≠ a → hgEn cy ad M1 b = hgEn cy ad M b) (hR : hgRok M1) (hr : hgSk M.1 r)
    (kk : ∀ H1 locs1, hgNow B0 D cy s (hgMl q) N0 ad0 ad L r M1 H1 locs1 ls → W p l e R s m args below meth c H1 locs1 K.1 K.2 Q (F0 m (pc + 3) ls (r.map (hgPh ad)))) :
    W p l e R s m args below meth c H locs K.1 K.2 Q (F0 m pc ls (v :: .ref (ad a) :: r.map (hgPh ad))) := by
  obtain ⟨hx, hb, -, hown, hts, -, hK, -, -, -, hini⟩ := hC
  obtain ⟨C, T, N, hc, hf, hkd, hT, hw⟩ := hgFld_spec hk
  obtain ⟨g1, ⟨ty, t1, t2⟩, g3, g4, g5, -⟩ := hgCls hc
  have hn2 : (hgSh a).2 = N := by rw [hgSh_nf hci g5, g4]
  have he : (hgWs cy ad M)[a]? = some (ad a, .inr (ci, (List.range (hgSh a).2).map (fun k => hgFv ad M a ci k))) := by rw [hgWs_at cy ad M ha, hgEn_obj cy ad M hci (by omega)]
  have hty := t2 f hf
  rw [hkd] at hty
  obtain ⟨v1, v2⟩ := hv (ty f) hty
  have hset : (hgWs cy ad M).set a (ad a, .inr (ci, ((List.range (hgSh a).2).map (fun k => hgFv ad M a ci k)).set f v)) = hgWs cy ad M1 := by
    refine hgWs_set cy ad M M1 hN ?_ ho
    rw [hgEn_obj cy ad M1 hci (by omega), hgFs_set ad M M1 a ci _ f he1 he2]
  have hfl : f < ((List.range (hgSh a).2).map (fun k => hgFv ad M a ci k)).length := by simp; omega
  unfold hgFin at hfn
  rw [hc] at hfn
  dsimp only at hfn
  by_cases hf1 : fin = 1
  · rw [if_pos hf1] at hfn
    simp only [Bool.and_eq_true, decide_eq_true_eq] at hfn
    refine va_putF hx hb hts g1 ty t1 g3 hown hK hn.1 hn.2.1 hn.2.2.1 a he hc f hf (hts _ (hgTb_of hw rfl)) (fun x hx9 => by rw [hT] at hx9; exact hx9) hfn.1.1 (hini hfn.2) (by rw [hT]; exact hfn.1.2) (t1 f hf) v1 v2 hfl hd (fun H1 locs1 hP hD hS => ?_)
    rw [hset] at hP hD
    exact kk H1 locs1 (hn.mem hN hP hD hS hR hr)
  · rw [if_neg hf1] at hfn
    refine va_put hx hb hts g1 ty t1 g3 hown hK hn.1 hn.2.1 hn.2.2.1 a he hc f hf (hts _ (hgTb_of hw rfl)) (fun x hx9 => by rw [hT] at hx9; exact hx9) (by simpa using hfn) (t1 f hf) v1 v2 hfl hd (fun H1 locs1 hP hD hS => ?_)
    rw [hset] at hP hD
    exact kk H1 locs1 (hn.mem hN hP hD hS hR hr)
theorem hgTy0 {x : Int32} {ty : FieldType} (h : hgTyOk 0 ty = true) : narrow ty (.int x) = .int x ∧ fits ty (.int x) = true := by
  cases ty <;> first | exact ⟨rfl, rfl⟩ | cases h
theorem hgTy1 {x : Int64} {ty : FieldType} (h : hgTyOk 1 ty = true) : narrow ty (.long x) = .long x ∧ fits ty (.long x) = true := by
  cases ty <;> first | exact ⟨rfl, rfl⟩ | cases h
theorem hgTy2 {x : Nat} {ty : FieldType} (h : hgTyOk 2 ty = true) : narrow ty (.ref x) = .ref x ∧ fits ty (.ref x) = true := by
  cases ty <;> first | exact ⟨rfl, rfl⟩ | cases h
theorem hgTy3 {x : Int32} {ty : FieldType} (hx : x = 0 ∨ x = 1) (h : hgTyOk 3 ty = true) : narrow ty (.int x) = .int x ∧ fits ty (.int x) = true := by
  cases ty <;> first | (rcases hx with rfl | rfl <;> exact ⟨by decide, by decide⟩) | cases h
theorem hgput_some {ci f kd : Nat} {g : List Value → hgMem → Option hgOut} (h : hgput M S ci f kd g = some out) : ∃ (a : Nat) (r : List Value), a < M.1 ∧ (hgSh a).1 = ci ∧ ((kd = 0 ∧ ∃ x, S = .int x :: .ref a :: r ∧ g r (hgSI M a f x) = some out) ∨ (kd = 1 ∧ ∃ x, S = .long x :: .ref a :: r ∧ g r (hgSJ M a f x) = some out) ∨ (kd = 2 ∧ ∃ x, x < M.1 ∧ S = .ref x :: .ref a :: r ∧ g r (hgSR M a f x) = some out) ∨ (kd = 3 ∧ ∃ x, (x = 0 ∨ x = 1) ∧ S = .int x :: .ref a :: r ∧ g r (hgSI M a f x) = some out)) := by
  unfold hgput at h
  split at h
  · split at h
    · next ha => exact ⟨_, _, ha.1, ha.2, Or.inl ⟨rfl, _, rfl, h⟩⟩
    · cases h
  · split at h
    · next ha => exact ⟨_, _, ha.1, ha.2, Or.inr (Or.inl ⟨rfl, _, rfl, h⟩)⟩
    · cases h
  · split at h
    · next ha => exact ⟨_, _, ha.1, ha.2.2, Or.inr (Or.inr (Or.inl ⟨rfl, _, ha.2.1, rfl, h⟩))⟩
    · cases h
  · split at h
    · next ha => exact ⟨_, _, ha.1, ha.2.1, Or.inr (Or.inr (Or.inr ⟨rfl, _, ha.2.2, rfl, h⟩))⟩
    · cases h
  · cases h
set_option maxHeartbeats 4000000 in
theorem hg_putfield (hC : hgCx p l R s m args meth c q B0 D cy X ad0) {idx : Nat} (hd : decode (hgCode q) pc = .ok (.putfield idx, len)) (hk : hgChk q pc (.putfield idx) len ps hs = true) (h : hgStep X (hgRm q) call jump (.putfield idx) ps hs L S K M k = some out)
    (kk : ∀ L S K M, k L S K M = some out → hgGo p l e R s m args below meth c Q B0 D cy (hgMl q) N0 ad0 (pc + len) L S K M) : hgGo p l e R s m args below meth c Q B0 D cy (hgMl q) N0 ad0 pc L S K M := by
  match ps, hk, h with
  | [ci, f, kd, w, fin], hk, h =>
    have hk2 : (decide (len = 3) && (hgFld q idx ci f kd w && (match hgFin ci f with
      | some (C, b) => if fin = 1 then b && decide (C = hgOwn q) && decide ((hgY q).name = "<init>") else !b
      | none => false))) = true := hk
    rw [Bool.and_eq_true, Bool.and_eq_true, decide_eq_true_eq] at hk2
    obtain ⟨hl, hk3, hfn⟩ := hk2
    subst hl
    obtain ⟨C, T, N, hc, hf, hkd, hT, hw⟩ := hgFld_spec hk3
    have h2 : (hgput M S ci f kd fun r M1 => k L r K M1) = some out := h
    obtain ⟨a, r, ha, hci, g⟩ := hgput_some h2
    intro ad H locs ls hn kc ks
    have hr := hn.2.2.2.2.2.2.1
    rcases g with ⟨rfl, x, rfl, h9⟩ | ⟨rfl, x, rfl, h9⟩ | ⟨rfl, x, hx9, rfl, h9⟩ | ⟨rfl, x, hx9, rfl, h9⟩
    · exact hg_putW (M1 := hgSI M a f x) (v := .int x) hC hd hk3 hfn hn ha hci (fun ty => hgTy0) rfl (hgFv_SI ad M a ci f x (by omega) (by omega)) (fun j hj => hgFv_SI_ne ad M a ci f x hj) (fun b hb => hgEn_SI_ne cy ad M a f x hb) (hgRok_SI hr a f x) (hgSk_t (hgSk_t hn.sk)) (fun H1 locs1 hn1 => kk _ _ _ _ h9 ad H1 locs1 ls hn1 kc ks)
    · exact hg_putW (M1 := hgSJ M a f x) (v := .long x) hC hd hk3 hfn hn ha hci (fun ty => hgTy1) rfl (hgFv_SJ ad M a ci f x (by omega)) (fun j hj => hgFv_SJ_ne ad M a ci f x hj) (fun b hb => hgEn_SJ_ne cy ad M a f x hb) (hgRok_SJ hr a f x) (hgSk_t (hgSk_t hn.sk)) (fun H1 locs1 hn1 => kk _ _ _ _ h9 ad H1 locs1 ls hn1 kc ks)
    · exact hg_putW (M1 := hgSR M a f x) (v := .ref (ad x)) hC hd hk3 hfn hn ha hci (fun ty => hgTy2) rfl (hgFv_SR ad M a ci f x (by omega)) (fun j hj => hgFv_SR_ne ad M a ci f x hj) (fun b hb => hgEn_SR_ne cy ad M a f x hb) (hgRok_SR hr a f hx9) (hgSk_t (hgSk_t hn.sk)) (fun H1 locs1 hn1 => kk _ _ _ _ h9 ad H1 locs1 ls hn1 kc ks)
    · exact hg_putW (M1 := hgSI M a f x) (v := .int x) hC hd hk3 hfn hn ha hci (fun ty => hgTy3 hx9) rfl (hgFv_SI ad M a ci f x (by omega) (by omega)) (fun j hj => hgFv_SI_ne ad M a ci f x hj) (fun b hb => hgEn_SI_ne cy ad M a f x hb) (hgRok_SI hr a f x) (hgSk_t (hgSk_t hn.sk)) (fun H1 locs1 hn1 => kk _ _ _ _ h9 ad H1 locs1 ls hn1 kc ks)
  | [], hk, h => cases h
  | [_], hk, h => cases h
  | [_, _], hk, h => cases h
  | [_, _, _], hk, h => cases h
  | [_, _, _, _], hk, h => cases h
  | _ :: _ :: _ :: _ :: _ :: _ :: _, hk, h => cases h
end HGM2

/-! New objects and arrays. -/
section HGNEW
variable {p : Program} {l : Launch} {e : Env} {R : Room} {s : State} {m : MethodId} {args : Array Value} {below : List Frame} {meth : Method} {c : Code} {Q : State → Prop} {q B0 nL N0 : Nat} {D : va_G} {cy : Nat → ClassId} {X : hgX} {ad0 : Nat → Nat}
variable {call : Nat → List Value → hgMem → Option hgOut} {jump : Nat → hgL → List Value → hgK → hgMem → Option hgOut} {len : Nat} {ps : List Nat} {hs : List (Nat × Nat × Nat)} {pc : Nat} {out : hgOut} {L : hgL} {S : List Value} {K : hgK} {M : hgMem} {k : hgL → List Value → hgK → hgMem → Option hgOut}
theorem hgDef0 {ty : FieldType} {kd : Nat} (h : hgTyOk kd ty = true) : defaultValue ty = if kd = 1 then .long 0 else if kd = 2 then va_rf none else .int 0 := by
  unfold hgTyOk at h
  split at h <;> first | rfl | cases h
theorem hg_hA (hC : hgCx p l R s m args meth c q B0 D cy X ad0) : ∀ z, s.heap.size ≤ z → hgA B0 z := fun z hz => Nat.le_trans hC.2.2.2.2.2.1 hz
set_option maxHeartbeats 4000000 in
/-- new C, one of the classes of the memory -/
theorem hg_new1 (hC : hgCx p l R s m args meth c q B0 D cy X ad0) {idx ci n w : Nat} (hd : decode (hgCode q) pc = .ok (.new idx, 3)) (hk : (match vwCl[ci]? with
      | some (C, _, N) => decide (n = N) && decide (hgWt w = some (.classLink (hgOwn q) idx C))
      | none => false) = true) (hsh : hgSh M.1 = (ci, n)) (hc1 : K.1 + 1 ≤ (hgRm q).1) (hc2 : K.2 + n ≤ (hgRm q).2) (h : k L (.ref M.1 :: S) (K.1 + 1, K.2 + n) (hgNew M) = some out)
    (kk : ∀ L S K M, k L S K M = some out → hgGo p l e R s m args below meth c Q B0 D cy (hgMl q) N0 ad0 (pc + 3) L S K M) : hgGo p l e R s m args below meth c Q B0 D cy (hgMl q) N0 ad0 pc L S K M := by
  have hA := hg_hA hC
  obtain ⟨hx, hb, -, hown, hts, -, hK, -, ⟨-, -, hr1, hr2⟩, -⟩ := hC
  cases hcl : vwCl[ci]? with
  | none => rw [hcl] at hk; cases hk
  | some v =>
    obtain ⟨C, T, N⟩ := v
    rw [hcl] at hk
    have hk : (decide (n = N) && decide (hgWt w = some (.classLink (hgOwn q) idx C))) = true := hk
    rw [Bool.and_eq_true, decide_eq_true_eq, decide_eq_true_eq] at hk
    obtain ⟨hN, hw⟩ := hk
    subst hN
    obtain ⟨g1, ⟨ty, t1, t2⟩, g3, g4, g5, g6, g7⟩ := hgCls hcl
    intro ad H locs ls hn kc ks
    have hM : M.1 < 326 := hgSh_lt (by rw [hsh]; show ci ≠ 99; omega)
    have hfs : ∀ j, j < n → defaultValue (ty j) = vp_V ((List.range n).map (fun j => hgFv ad (hgNew M) M.1 ci j)) j := by
      intro j hj
      have e1 : vp_V ((List.range n).map (fun j => hgFv ad (hgNew M) M.1 ci j)) j = hgFv ad (hgNew M) M.1 ci j := by simp [vp_V, hj]
      rw [e1, hgDef0 (t2 j hj)]
      unfold hgFv
      rw [hgI_new_at, hgJ_new_at, hgR_new_at]
      rfl
    refine va_new (fs := (List.range n).map (fun j => hgFv ad (hgNew M) M.1 ci j)) hx hb hts g1 ty t1 hown (hts _ (hgTb_of hw rfl)) (hts _ g6) (hts _ g7) hK hn.1 hn.2.1 hn.2.2.1 hA hcl hfs (by omega) (by omega) hd (fun b H1 hP hD hS => ?_)
    have he : hgEn cy (va_up ad M.1 b) (hgNew M) M.1 = .inr (ci, (List.range n).map (fun j => hgFv ad (hgNew M) M.1 ci j)) := by
      rw [hgEn_obj cy _ _ (by rw [hsh]) (show ci < 20 by omega), hsh]
      have e2 : ∀ j, hgFv (va_up ad M.1 b) (hgNew M) M.1 ci j = hgFv ad (hgNew M) M.1 ci j := fun j => by
        unfold hgFv
        rw [hgR_new_at]
        rfl
      simp only [e2]
    rw [hgWs_new cy ad M b hn.2.2.2.2.2.2.1 he] at hP hD
    obtain ⟨hn1, e3⟩ := hn.new (by omega) hP hD hS hn.sk
    have e4 : (F0 m (pc + 3) ls (.ref b :: S.map (hgPh ad))) = F0 m (pc + 3) ls ((.ref M.1 :: S).map (hgPh (va_up ad M.1 b))) := by
      rw [List.map_cons, e3]
      show _ = F0 m (pc + 3) ls (.ref (va_up ad M.1 b M.1) :: _)
      rw [show va_up ad M.1 b M.1 = b from if_pos rfl]
    rw [e4]
    exact kk _ _ _ _ h (va_up ad M.1 b) H1 locs ls hn1 (by show K.1 + 1 ≤ _; omega) (by show K.2 + n ≤ _; omega)
/-- the array's class is the one of its kind -/
theorem hg_cA {t0 kd : Nat} {ty : FieldType} {cA : ClassId} (hK : va_K D vwCl (hgTys cy) s) (ht : (hgTys cy)[t0]? = some (cy kd, ty)) (h1 : va_K D vwCl (hgTys cy ++ [(cA, ty)]) s) : cA = cy kd := by
  have a := (hK.2 t0 _ ht).2
  have b := (h1.2 9 (cA, ty) (by simp [hgTys])).2
  cases ty with
  | object C =>
    obtain ⟨_, _, _, _, _, a4⟩ := a
    obtain ⟨_, _, _, _, _, b4⟩ := b
    exact Option.some.inj (b4.symm.trans a4)
  | _ => exact Option.some.inj ((show s.vm.findClass _ = some cA from b).symm.trans (show s.vm.findClass _ = some (cy kd) from a))
/-- behind the making of an array -/
theorem hg_made (hR : R.cells = (hgRm q).1 ∧ R.slots = (hgRm q).2) {ad : Nat → Nat} {H H1 : Heap} {locs : List Loc} {ls : Array Slot} {b n pc2 : Nat} {en : va_E} {x : Int32} {r : List Value} (hn : hgNow B0 D cy s (hgMl q) N0 ad0 ad L (.int x :: r) M H locs ls) (hM : M.1 < 1000) (he : hgEn cy (va_up ad M.1 b) (hgNew M) M.1 = en) (hP : va_P D vwCl (hgWs cy ad M ++ [(b, en)]) H1) (hD : va_D (hgA B0) (hgWs cy ad M ++ [(b, en)])) (hS : va_S (hgA B0) s.heap H1 locs) (k1 : K.1 + 1 ≤ (hgRm q).1) (k2 : K.2 + n ≤ (hgRm q).2)
    (go : hgGo p l e R s m args below meth c Q B0 D cy (hgMl q) N0 ad0 pc2 L (.ref M.1 :: r) (K.1 + 1, K.2 + n) (hgNew M)) : W p l e R s m args below meth c H1 locs (K.1 + 1) (K.2 + n) Q (F0 m pc2 ls (.ref b :: r.map (hgPh ad))) := by
  rw [hgWs_new cy ad M b hn.2.2.2.2.2.2.1 he] at hP hD
  obtain ⟨hn1, e3⟩ := hn.new hM hP hD hS (hgSk_t hn.sk)
  have e4 : (F0 m pc2 ls (.ref b :: r.map (hgPh ad))) = F0 m pc2 ls ((.ref M.1 :: r).map (hgPh (va_up ad M.1 b))) := by
    rw [List.map_cons, e3]
    show _ = F0 m pc2 ls (.ref (va_up ad M.1 b M.1) :: _)
    rw [show va_up ad M.1 b M.1 = b from if_pos rfl]
  rw [e4]
  exact go (va_up ad M.1 b) H1 locs ls hn1 (by show K.1 + 1 ≤ _; omega) (by show K.2 + n ≤ _; omega)
set_option maxRecDepth 100000 in
theorem hgSh_max : ∀ a, a < 326 → (hgSh a).2 ≤ 20187 := by decide +kernel
set_option maxRecDepth 100000 in
theorem hgAc : [Cond.arrayClass .int, Cond.arrayClass .long, Cond.arrayClass .byte, Cond.arrayClass .boolean].all hgIt = true := by decide +kernel
theorem hgna_some {f : Nat → Int32 → List Value → Option hgOut} (h : (match ps with
    | [kd] => hgi1 S fun x r => f kd x r
    | _ => none) = some out) : ∃ kd x r, ps = [kd] ∧ S = .int x :: r ∧ f kd x r = some out := by
  split at h
  · obtain ⟨x, r, hS, h9⟩ := hgi1_some h
    exact ⟨_, x, r, rfl, hS, h9⟩
  · cases h
theorem hgaa_some {f : Nat → Nat → Int32 → List Value → Option hgOut} (h : (match ps with
    | [kd, w] => hgi1 S fun x r => f kd w x r
    | _ => none) = some out) : ∃ kd w x r, ps = [kd, w] ∧ S = .int x :: r ∧ f kd w x r = some out := by
  split at h
  · obtain ⟨x, r, hS, h9⟩ := hgi1_some h
    exact ⟨_, _, x, r, rfl, hS, h9⟩
  · cases h
set_option maxHeartbeats 4000000 in
theorem hg_newarray (hC : hgCx p l R s m args meth c q B0 D cy X ad0) {at9 : ArrayType} (hd : decode (hgCode q) pc = .ok (.newarray at9, len)) (hk : hgChk q pc (.newarray at9) len ps hs = true) (h : hgStep X (hgRm q) call jump (.newarray at9) ps hs L S K M k = some out)
    (kk : ∀ L S K M, k L S K M = some out → hgGo p l e R s m args below meth c Q B0 D cy (hgMl q) N0 ad0 (pc + len) L S K M) : hgGo p l e R s m args below meth c Q B0 D cy (hgMl q) N0 ad0 pc L S K M := by
  have hA := hg_hA hC
  obtain ⟨hx, hb, -, hown, hts, -, hK, -, ⟨-, -, hr1, hr2⟩, -⟩ := hC
  obtain ⟨kd, x, r, rfl, rfl, h9⟩ := hgna_some (f := fun kd x r => if hgSh M.1 = (kd, x.toNatClampNeg) ∧ ¬ x < 0 ∧ K.1 + 1 ≤ (hgRm q).1 ∧ K.2 + x.toNatClampNeg ≤ (hgRm q).2 then k L (.ref M.1 :: r) (K.1 + 1, K.2 + x.toNatClampNeg) (hgNew M) else none) h
  clear h
  split at h9
  · next hc =>
    obtain ⟨hsh, h0, k1, k2⟩ := hc
    have hac := hgAll_mem hgAc
    have go : ∀ (hl : len = 2), hgGo p l e R s m args below meth c Q B0 D cy (hgMl q) N0 ad0 (pc + 2) L (.ref M.1 :: r) (K.1 + 1, K.2 + x.toNatClampNeg) (hgNew M) := fun hl => by subst hl; exact kk _ _ _ _ h9
    intro ad H locs ls hn kc ks
    have big : ∀ kd, kd ≠ 99 → hgSh M.1 = (kd, x.toNatClampNeg) → M.1 < 326 ∧ x.toNatClampNeg ≤ 20187 := fun kd h1 h2 => by
      have hM : M.1 < 326 := hgSh_lt (by rw [h2]; exact h1)
      have := hgSh_max M.1 hM
      rw [h2] at this
      exact ⟨hM, this⟩
    have hk2 : (decide (len = 2) && (match [kd] with
      | [20] => decide (at9 = .int)
      | [21] => decide (at9 = .long)
      | [22] => decide (at9 = .byte)
      | [23] => decide (at9 = .boolean)
      | _ => false)) = true := hk
    clear hk
    rw [Bool.and_eq_true, decide_eq_true_eq] at hk2
    obtain ⟨hl, hk3⟩ := hk2
    have go2 := go hl
    clear go kk
    subst hl
    split at hk3
    · next e9 =>
      injection e9 with e1 _
      subst e1
      have e2 : at9 = .int := of_decide_eq_true hk3
      subst e2
      obtain ⟨hM, hmx⟩ := big 20 (by omega) hsh
      refine va_newa (atype := .int) (ty := .int) (N' := x.toNatClampNeg) (a0 := (x.toNatClampNeg, .inl (fun _ => 0))) hx hb (hts (.arrayClass .int) (hac _ (by simp))) rfl hK hn.1 hn.2.1 hn.2.2.1 hA (fun cA => rfl) h0 rfl (by show _ * 4 ≤ _; omega) (by omega) (by omega) hd (fun b cA H1 hK1 hP hD hS => ?_)
      have ec := hg_cA hK (t0 := 0) rfl hK1
      subst ec
      exact hg_made ⟨hr1, hr2⟩ hn (by omega) (by rw [hgEn_int cy _ _ (by rw [hsh]) (Or.inl rfl), hsh, hgI_new_at]) hP hD hS k1 k2 go2
    · next e9 =>
      injection e9 with e1 _
      subst e1
      have e2 : at9 = .long := of_decide_eq_true hk3
      subst e2
      obtain ⟨hM, hmx⟩ := big 21 (by omega) hsh
      refine va_newa (atype := .long) (ty := .long) (N' := x.toNatClampNeg) (a0 := (x.toNatClampNeg, .inr (.inl (fun _ => 0)))) hx hb (hts (.arrayClass .long) (hac _ (by simp))) rfl hK hn.1 hn.2.1 hn.2.2.1 hA (fun cA => rfl) h0 rfl (by show _ * 8 ≤ _; omega) (by omega) (by omega) hd (fun b cA H1 hK1 hP hD hS => ?_)
      have ec := hg_cA hK (t0 := 1) rfl hK1
      subst ec
      exact hg_made ⟨hr1, hr2⟩ hn (by omega) (by rw [hgEn_long cy _ _ (by rw [hsh]), hsh, hgJ_new_at]) hP hD hS k1 k2 go2
    · next e9 =>
      injection e9 with e1 _
      subst e1
      have e2 : at9 = .byte := of_decide_eq_true hk3
      subst e2
      obtain ⟨hM, hmx⟩ := big 22 (by omega) hsh
      refine va_newa (atype := .byte) (ty := .byte) (N' := x.toNatClampNeg) (a0 := (x.toNatClampNeg, .inl (fun _ => 0))) hx hb (hts (.arrayClass .byte) (hac _ (by simp))) rfl hK hn.1 hn.2.1 hn.2.2.1 hA (fun cA => rfl) h0 rfl (by show _ * 1 ≤ _; omega) (by omega) (by omega) hd (fun b cA H1 hK1 hP hD hS => ?_)
      have ec := hg_cA hK (t0 := 2) rfl hK1
      subst ec
      exact hg_made ⟨hr1, hr2⟩ hn (by omega) (by rw [hgEn_int cy _ _ (by rw [hsh]) (Or.inr (Or.inl rfl)), hsh, hgI_new_at]) hP hD hS k1 k2 go2
    · next e9 =>
      injection e9 with e1 _
      subst e1
      have e2 : at9 = .boolean := of_decide_eq_true hk3
      subst e2
      obtain ⟨hM, hmx⟩ := big 23 (by omega) hsh
      refine va_newa (atype := .boolean) (ty := .boolean) (N' := x.toNatClampNeg) (a0 := (x.toNatClampNeg, .inl (fun _ => 0))) hx hb (hts (.arrayClass .boolean) (hac _ (by simp))) rfl hK hn.1 hn.2.1 hn.2.2.1 hA (fun cA => rfl) h0 rfl (by show _ * 1 ≤ _; omega) (by omega) (by omega) hd (fun b cA H1 hK1 hP hD hS => ?_)
      have ec := hg_cA hK (t0 := 3) rfl hK1
      subst ec
      exact hg_made ⟨hr1, hr2⟩ hn (by omega) (by rw [hgEn_int cy _ _ (by rw [hsh]) (Or.inr (Or.inr rfl)), hsh, hgI_new_at]) hP hD hS k1 k2 go2
    · cases hk3
  · cases h9
set_option maxHeartbeats 4000000 in
theorem hg_anewarray (hC : hgCx p l R s m args meth c q B0 D cy X ad0) {idx : Nat} (hd : decode (hgCode q) pc = .ok (.anewarray idx, len)) (hk : hgChk q pc (.anewarray idx) len ps hs = true) (h : hgStep X (hgRm q) call jump (.anewarray idx) ps hs L S K M k = some out)
    (kk : ∀ L S K M, k L S K M = some out → hgGo p l e R s m args below meth c Q B0 D cy (hgMl q) N0 ad0 (pc + len) L S K M) : hgGo p l e R s m args below meth c Q B0 D cy (hgMl q) N0 ad0 pc L S K M := by
  have hA := hg_hA hC
  obtain ⟨hx, hb, -, hown, hts, -, hK, hst, ⟨-, -, hr1, hr2⟩, -⟩ := hC
  obtain ⟨kd, w, x, r, rfl, rfl, h9⟩ := hgaa_some (f := fun kd w x r => if hgSh M.1 = (kd, x.toNatClampNeg) ∧ ¬ x < 0 ∧ K.1 + 1 ≤ (hgRm q).1 ∧ K.2 + x.toNatClampNeg ≤ (hgRm q).2 then k L (.ref M.1 :: r) (K.1 + 1, K.2 + x.toNatClampNeg) (hgNew M) else none) h
  clear h
  split at h9
  · next hc =>
    obtain ⟨hsh, h0, k1, k2⟩ := hc
    have hao := hst.2.2.2.1.2
    intro ad H locs ls hn kc ks
    have key : ∀ (C : String) (t0 : Nat), len = 3 → 24 ≤ kd → kd ≠ 99 → hgWt w = some (.classLink (hgOwn q) idx C) → va_AO C s → (hgTys cy)[t0]? = some (cy kd, .object C) → W p l e R s m args below meth c H locs K.1 K.2 Q (F0 m pc ls ((.int x :: r).map (hgPh ad))) := by
      intro C t0 hl h24 h99 hw hov ht
      subst hl
      have hM : M.1 < 326 := hgSh_lt (by rw [hsh]; exact h99)
      have hmx := hgSh_max M.1 hM
      rw [hsh] at hmx
      have hmx : x.toNatClampNeg ≤ 20187 := hmx
      refine va_newq (C := C) hx hb hown (hts _ (hgTb_of hw rfl)) hov hK hn.1 hn.2.1 hn.2.2.1 hA h0 rfl (by omega) (by omega) (by omega) hd (fun b cA H1 hK1 hP hD hS => ?_)
      have ec := hg_cA hK ht hK1
      subst ec
      exact hg_made ⟨hr1, hr2⟩ hn (by omega) (by rw [hgEn_ref cy _ _ (by rw [hsh]) h24, hsh, hgR_new_at]; rfl) hP hD hS k1 k2 (kk _ _ _ _ h9)
    have hk2 : (decide (len = 3) && (match [kd, w] with
      | [24, w] => decide (hgWt w = some (.classLink (hgOwn q) idx RX0))
      | [25, w] => decide (hgWt w = some (.classLink (hgOwn q) idx RX4))
      | [26, w] => decide (hgWt w = some (.classLink (hgOwn q) idx RX1))
      | _ => false)) = true := hk
    rw [Bool.and_eq_true, decide_eq_true_eq] at hk2
    obtain ⟨hl, hk3⟩ := hk2
    split at hk3
    · next e9 =>
      injection e9 with e1 e2
      injection e2 with e2 _
      subst e1; subst e2
      exact key RX0 4 hl (by omega) (by omega) (of_decide_eq_true hk3) hao.1 rfl
    · next e9 =>
      injection e9 with e1 e2
      injection e2 with e2 _
      subst e1; subst e2
      exact key RX4 5 hl (by omega) (by omega) (of_decide_eq_true hk3) hao.2.1 rfl
    · next e9 =>
      injection e9 with e1 e2
      injection e2 with e2 _
      subst e1; subst e2
      exact key RX1 6 hl (by omega) (by omega) (of_decide_eq_true hk3) hao.2.2.1 rfl
    · cases hk3
  · cases h9
end HGNEW

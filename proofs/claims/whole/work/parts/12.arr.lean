/-! Arrays and constants. -/
section HGARR
variable {p : Program} {l : Launch} {e : Env} {R : Room} {s : State} {m : MethodId} {args : Array Value} {below : List Frame} {meth : Method} {c : Code} {Q : State → Prop} {q B0 nL N0 : Nat} {D : va_G} {cy : Nat → ClassId} {X : hgX} {ad0 : Nat → Nat}
variable {call : Nat → List Value → hgMem → Option hgOut} {jump : Nat → hgL → List Value → hgK → hgMem → Option hgOut} {len : Nat} {ps : List Nat} {hs : List (Nat × Nat × Nat)} {pc : Nat} {out : hgOut} {L : hgL} {S : List Value} {K : hgK} {M : hgMem} {k : hgL → List Value → hgK → hgMem → Option hgOut}
theorem hgEn_SI_at (cy : Nat → ClassId) (ad : Nat → Nat) (M : hgMem) {a kd : Nat} (i : Nat) (x : Int32) (h : (hgSh a).1 = kd) (hc : kd = 20 ∨ kd = 22 ∨ kd = 23) : hgEn cy ad (hgSI M a i x) a = .inl (cy kd, (hgSh a).2, .inl (upd (hgI M a) i x)) := by
  rw [hgEn_int cy ad _ h hc]
  have : hgI (hgSI M a i x) a = upd (hgI M a) i x := by
    show hgU M.2.1 a i x a = _
    rw [hgU_at]
    rfl
  rw [this]
theorem hgEn_SJ_at (cy : Nat → ClassId) (ad : Nat → Nat) (M : hgMem) {a : Nat} (i : Nat) (x : Int64) (h : (hgSh a).1 = 21) : hgEn cy ad (hgSJ M a i x) a = .inl (cy 21, (hgSh a).2, .inr (.inl (vp_updL (hgJ M a) i x))) := by
  rw [hgEn_long cy ad _ h]
  have : hgJ (hgSJ M a i x) a = vp_updL (hgJ M a) i x := by
    show hgU M.2.2.1 a i x a = _
    rw [hgU_at]
    rfl
  rw [this]
theorem hgEn_SR_at (cy : Nat → ClassId) (ad : Nat → Nat) (M : hgMem) {a kd : Nat} (i x : Nat) (h : (hgSh a).1 = kd) (hc : 24 ≤ kd) : hgEn cy ad (hgSR M a i x) a = .inl (cy kd, (hgSh a).2, .inr (.inr (.inr (.inr (va_up (fun i => (hgR M a i).map ad) i (some (ad x))))))) := by
  rw [hgEn_ref cy ad _ h hc]
  have : (fun j => (hgR (hgSR M a i x) a j).map ad) = va_up (fun i => (hgR M a i).map ad) i (some (ad x)) := by
    funext j
    show (hgU M.2.2.2 a i (some x) a j).map ad = _
    by_cases hj : j = i <;> simp [hgU, va_up, hj, hgR]
  rw [this]
/-- the script's own address -/
theorem hg_scr (hC : hgCx p l R s m args meth c q B0 D cy X ad0) {ad : Nat → Nat} {H : Heap} {locs : List Loc} {ls : Array Slot} (hn : hgNow B0 D cy s nL N0 ad0 ad L S M H locs ls) : va_X (ad 2000) X.1 X.2 s s.heap ∧ ad 2000 < s.heap.size ∧ ¬ hgA B0 (ad 2000) := by
  obtain ⟨-, -, -, -, -, hB, -, hst, -⟩ := hC
  obtain ⟨-, -, -, -, -, -, hX, hlt⟩ := hst
  have e9 : ad 2000 = ad0 2000 := hn.2.2.2.2.2.2.2.2 2000 (Or.inr (by omega))
  rw [e9]
  exact ⟨hX, by omega, Nat.not_le.mpr hlt⟩
set_option maxHeartbeats 4000000 in
theorem hg_iaload (hC : hgCx p l R s m args meth c q B0 D cy X ad0) (hd : decode (hgCode q) pc = .ok (.iaload, len)) (hk : hgChk q pc .iaload len ps hs = true) (h : hgStep X (hgRm q) call jump .iaload ps hs L S K M k = some out)
    (kk : ∀ L S K M, k L S K M = some out → hgGo p l e R s m args below meth c Q B0 D cy (hgMl q) N0 ad0 (pc + len) L S K M) : hgGo p l e R s m args below meth c Q B0 D cy (hgMl q) N0 ad0 pc L S K M := by
  have hl : len = 1 := of_decide_eq_true (show decide (len = 1) = true from hk)
  subst hl
  have h2 : (hgr2 S fun a i r => if a = 2000 then (if hgIn i X.1 = true then k L (.int (X.2 i.toNatClampNeg) :: r) K M else none) else if a < M.1 ∧ (hgSh a).1 = 20 ∧ hgIn i (hgSh a).2 = true then k L (.int (hgI M a i.toNatClampNeg) :: r) K M else none) = some out := h
  obtain ⟨a, i, r, hS, h9⟩ := hgr2_some h2
  clear h h2
  subst hS
  intro ad H locs ls hn kc ks
  have hsk := hgSk_c (v := .int (0 : Int32)) hgVk_i (hgSk_t (hgSk_t hn.sk))
  split at h9
  · next ha =>
    subst ha
    split at h9
    · next hi =>
      obtain ⟨g1, g2, g3⟩ := hg_scr hC hn
      exact va_sld hC.1 hC.2.1 g1 g2 g3 hn.2.2.1 (hgIn_vp hi) hd (kk _ _ _ _ h9 ad H locs ls (hn.to (hgSk_c hgVk_i (hgSk_t (hgSk_t hn.sk)))) kc ks)
    · cases h9
  · split at h9
    · next ha =>
      exact va_iald hC.1 hC.2.1 hC.2.2.2.2.2.2.1 hn.1 a 0 (by rw [hgWs_at cy ad M ha.1, hgEn_int cy ad M ha.2.1 (Or.inl rfl)]) rfl (hgIn_vp ha.2.2) hd (kk _ _ _ _ h9 ad H locs ls (hn.to (hgSk_c hgVk_i (hgSk_t (hgSk_t hn.sk)))) kc ks)
    · cases h9
set_option maxHeartbeats 4000000 in
theorem hg_baload (hC : hgCx p l R s m args meth c q B0 D cy X ad0) (hd : decode (hgCode q) pc = .ok (.baload, len)) (hk : hgChk q pc .baload len ps hs = true) (h : hgStep X (hgRm q) call jump .baload ps hs L S K M k = some out)
    (kk : ∀ L S K M, k L S K M = some out → hgGo p l e R s m args below meth c Q B0 D cy (hgMl q) N0 ad0 (pc + len) L S K M) : hgGo p l e R s m args below meth c Q B0 D cy (hgMl q) N0 ad0 pc L S K M := by
  have hl : len = 1 := of_decide_eq_true (show decide (len = 1) = true from hk)
  subst hl
  have h2 : (hgr2 S fun a i r => if a < M.1 ∧ ((hgSh a).1 = 22 ∨ (hgSh a).1 = 23) ∧ hgIn i (hgSh a).2 = true then k L (.int (hgI M a i.toNatClampNeg) :: r) K M else none) = some out := h
  obtain ⟨a, i, r, hS, h9⟩ := hgr2_some h2
  clear h h2
  subst hS
  intro ad H locs ls hn kc ks
  split at h9
  · next ha =>
    rcases ha.2.1 with hb | hb
    · exact va_bald hC.1 hC.2.1 hC.2.2.2.2.2.2.1 hn.1 a 2 (by rw [hgWs_at cy ad M ha.1, hgEn_int cy ad M hb (Or.inr (Or.inl rfl))]) rfl (hgIn_vp ha.2.2) hd (kk _ _ _ _ h9 ad H locs ls (hn.to (hgSk_c hgVk_i (hgSk_t (hgSk_t hn.sk)))) kc ks)
    · exact va_zald hC.1 hC.2.1 hC.2.2.2.2.2.2.1 hn.1 a 3 (by rw [hgWs_at cy ad M ha.1, hgEn_int cy ad M hb (Or.inr (Or.inr rfl))]) rfl (hgIn_vp ha.2.2) hd (kk _ _ _ _ h9 ad H locs ls (hn.to (hgSk_c hgVk_i (hgSk_t (hgSk_t hn.sk)))) kc ks)
  · cases h9
set_option maxHeartbeats 4000000 in
theorem hg_laload (hC : hgCx p l R s m args meth c q B0 D cy X ad0) (hd : decode (hgCode q) pc = .ok (.laload, len)) (hk : hgChk q pc .laload len ps hs = true) (h : hgStep X (hgRm q) call jump .laload ps hs L S K M k = some out)
    (kk : ∀ L S K M, k L S K M = some out → hgGo p l e R s m args below meth c Q B0 D cy (hgMl q) N0 ad0 (pc + len) L S K M) : hgGo p l e R s m args below meth c Q B0 D cy (hgMl q) N0 ad0 pc L S K M := by
  have hl : len = 1 := of_decide_eq_true (show decide (len = 1) = true from hk)
  subst hl
  have h2 : (hgr2 S fun a i r => if a < M.1 ∧ (hgSh a).1 = 21 ∧ hgIn i (hgSh a).2 = true then k L (.long (hgJ M a i.toNatClampNeg) :: r) K M else none) = some out := h
  obtain ⟨a, i, r, hS, h9⟩ := hgr2_some h2
  clear h h2
  subst hS
  intro ad H locs ls hn kc ks
  split at h9
  · next ha =>
    exact va_lald hC.1 hC.2.1 hC.2.2.2.2.2.2.1 hn.1 a 1 (by rw [hgWs_at cy ad M ha.1, hgEn_long cy ad M ha.2.1]) rfl (hgIn_vp ha.2.2) hd (kk _ _ _ _ h9 ad H locs ls (hn.to (hgSk_c hgVk_l (hgSk_t (hgSk_t hn.sk)))) kc ks)
  · cases h9
/-- aaload, of any reference type -/
theorem hg_aald {cc : ByteArray} {H : Heap} {locs : List Loc} {cells slots : Nat} {ls : Array Slot} {rest : List Value} {cl : List vw_C} {tys : List (ClassId × FieldType)} {ws : va_W} {a : Nat} (hexec : p.tables.exec = Jvm.exec) (hb : c.code = cc) (hK : va_K D cl tys s) (hP : va_P D cl ws H) (q0 t0 : Nat) {cA : ClassId} {ty : FieldType} (hty : ty.isReference = true) {n : Nat} {f : Nat → Option Nat} (ha : ws[q0]? = some (a, .inl (cA, n, .inr (.inr (.inr (.inr f)))))) (ht : tys[t0]? = some (cA, ty)) {i : Int32} (hin : vp_in i n) (hdg : decode cc pc = .ok (.aaload, 1))
    (kk : W p l e R s m args below meth c H locs cells slots Q (F0 m (pc + 1) ls (va_rf (f i.toNatClampNeg) :: rest))) : W p l e R s m args below meth c H locs cells slots Q (F0 m pc ls (.int i :: .ref a :: rest)) := by
  have hlt : i.toNatClampNeg < n := Nat.not_le.mp fun q => hin (Or.inr q)
  exact W.aald (v := va_rf (f i.toNatClampNeg)) (ty := ty) hexec hb (hP q0 _ ha) ((hK.2 t0 _ ht).1 n (fun j => va_rf (f j))) hty (fun q => by cases q) (by show ¬ (i < 0 ∨ (arrV _ _ _).slots.size ≤ _); rw [arrV_size]; exact hin) (by show (arrV _ _ _).slots[_]? = _; rw [arrV_read _ _ hlt]) rfl rfl hdg kk
theorem hg_kd5 {kd : Nat} (h1 : 24 ≤ kd) (h2 : kd ≤ 28) : ∃ (t0 : Nat) (ty : FieldType), (hgTys cy)[t0]? = some (cy kd, ty) ∧ FieldType.isReference ty = true := by
  have : kd = 24 ∨ kd = 25 ∨ kd = 26 ∨ kd = 27 ∨ kd = 28 := by omega
  rcases this with rfl | rfl | rfl | rfl | rfl
  · exact ⟨4, _, rfl, rfl⟩
  · exact ⟨5, _, rfl, rfl⟩
  · exact ⟨6, _, rfl, rfl⟩
  · exact ⟨7, _, rfl, rfl⟩
  · exact ⟨8, _, rfl, rfl⟩
set_option maxHeartbeats 4000000 in
theorem hg_aaload (hC : hgCx p l R s m args meth c q B0 D cy X ad0) (hd : decode (hgCode q) pc = .ok (.aaload, len)) (hk : hgChk q pc .aaload len ps hs = true) (h : hgStep X (hgRm q) call jump .aaload ps hs L S K M k = some out)
    (kk : ∀ L S K M, k L S K M = some out → hgGo p l e R s m args below meth c Q B0 D cy (hgMl q) N0 ad0 (pc + len) L S K M) : hgGo p l e R s m args below meth c Q B0 D cy (hgMl q) N0 ad0 pc L S K M := by
  have hl : len = 1 := of_decide_eq_true (show decide (len = 1) = true from hk)
  subst hl
  have h2 : (hgr2 S fun a i r => if a < M.1 ∧ 24 ≤ (hgSh a).1 ∧ (hgSh a).1 ≤ 28 ∧ hgIn i (hgSh a).2 = true then (match hgR M a i.toNatClampNeg with
      | some q => k L (.ref q :: r) K M
      | none => none) else none) = some out := h
  obtain ⟨a, i, r, hS, h9⟩ := hgr2_some h2
  clear h h2
  subst hS
  intro ad H locs ls hn kc ks
  split at h9
  · next ha =>
    obtain ⟨t0, ty, ht, hty⟩ := hg_kd5 (cy := cy) ha.2.1 ha.2.2.1
    split at h9
    · next b hb =>
      refine hg_aald hC.1 hC.2.1 hC.2.2.2.2.2.2.1 hn.1 a t0 hty (by rw [hgWs_at cy ad M ha.1, hgEn_ref cy ad M rfl ha.2.1]) ht (hgIn_vp ha.2.2.2) hd ?_
      rw [hb]
      exact kk _ _ _ _ h9 ad H locs ls (hn.to (hgSk_c (hgVk_r (hn.2.2.2.2.2.2.1 _ _ _ hb)) (hgSk_t (hgSk_t hn.sk)))) kc ks
    · cases h9
  · cases h9
end HGARR

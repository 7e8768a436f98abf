/-! Stores into arrays, lengths, constants. -/
section HGAR2
variable {p : Program} {l : Launch} {e : Env} {R : Room} {s : State} {m : MethodId} {args : Array Value} {below : List Frame} {meth : Method} {c : Code} {Q : State → Prop} {q B0 nL N0 : Nat} {D : va_G} {cy : Nat → ClassId} {X : hgX} {ad0 : Nat → Nat}
variable {call : Nat → List Value → hgMem → Option hgOut} {jump : Nat → hgL → List Value → hgK → hgMem → Option hgOut} {len : Nat} {ps : List Nat} {hs : List (Nat × Nat × Nat)} {pc : Nat} {out : hgOut} {L : hgL} {S : List Value} {K : hgK} {M : hgMem} {k : hgL → List Value → hgK → hgMem → Option hgOut}
theorem hgias_some {f : Int32 → Int32 → Nat → List Value → Option hgOut} (h : (match S with
    | .int x :: .int i :: .ref a :: r => f x i a r
    | _ => none) = some out) : ∃ x i a r, S = .int x :: .int i :: .ref a :: r ∧ f x i a r = some out := by
  split at h
  · exact ⟨_, _, _, _, rfl, h⟩
  · cases h
theorem hglas_some {f : Int64 → Int32 → Nat → List Value → Option hgOut} (h : (match S with
    | .long x :: .int i :: .ref a :: r => f x i a r
    | _ => none) = some out) : ∃ x i a r, S = .long x :: .int i :: .ref a :: r ∧ f x i a r = some out := by
  split at h
  · exact ⟨_, _, _, _, rfl, h⟩
  · cases h
theorem hgaas_some {f : Nat → Int32 → Nat → List Value → Option hgOut} (h : (match S with
    | .ref x :: .int i :: .ref a :: r => f x i a r
    | _ => none) = some out) : ∃ x i a r, S = .ref x :: .int i :: .ref a :: r ∧ f x i a r = some out := by
  split at h
  · exact ⟨_, _, _, _, rfl, h⟩
  · cases h
set_option maxHeartbeats 4000000 in
theorem hg_iastore (hC : hgCx p l R s m args meth c q B0 D cy X ad0) (hd : decode (hgCode q) pc = .ok (.iastore, len)) (hk : hgChk q pc .iastore len ps hs = true) (h : hgStep X (hgRm q) call jump .iastore ps hs L S K M k = some out)
    (kk : ∀ L S K M, k L S K M = some out → hgGo p l e R s m args below meth c Q B0 D cy (hgMl q) N0 ad0 (pc + len) L S K M) : hgGo p l e R s m args below meth c Q B0 D cy (hgMl q) N0 ad0 pc L S K M := by
  have hl : len = 1 := of_decide_eq_true (show decide (len = 1) = true from hk)
  subst hl
  obtain ⟨x, i, a, r, hS, h9⟩ := hgias_some (f := fun x i a r => if a < M.1 ∧ (hgSh a).1 = 20 ∧ hgIn i (hgSh a).2 = true then k L r K (hgSI M a i.toNatClampNeg x) else none) h
  clear h
  subst hS
  intro ad H locs ls hn kc ks
  split at h9
  · next ha =>
    refine va_iast hC.1 hC.2.1 hC.2.2.2.2.2.2.1 hn.1 hn.2.1 hn.2.2.1 a 0 (by rw [hgWs_at cy ad M ha.1, hgEn_int cy ad M ha.2.1 (Or.inl rfl)]) rfl (hgIn_vp ha.2.2) hd (fun H1 locs1 hP hD hS => ?_)
    rw [hgWs_set cy ad M (hgSI M a i.toNatClampNeg x) rfl (hgEn_SI_at cy ad M _ x ha.2.1 (Or.inl rfl)) (fun b hb => hgEn_SI_ne cy ad M a _ x hb)] at hP hD
    exact kk _ _ _ _ h9 ad H1 locs1 ls (hn.mem (M1 := hgSI M a i.toNatClampNeg x) rfl hP hD hS (hgRok_SI hn.2.2.2.2.2.2.1 a _ x) (hgSk_t (hgSk_t (hgSk_t hn.sk)))) kc ks
  · cases h9
set_option maxHeartbeats 4000000 in
theorem hg_lastore (hC : hgCx p l R s m args meth c q B0 D cy X ad0) (hd : decode (hgCode q) pc = .ok (.lastore, len)) (hk : hgChk q pc .lastore len ps hs = true) (h : hgStep X (hgRm q) call jump .lastore ps hs L S K M k = some out)
    (kk : ∀ L S K M, k L S K M = some out → hgGo p l e R s m args below meth c Q B0 D cy (hgMl q) N0 ad0 (pc + len) L S K M) : hgGo p l e R s m args below meth c Q B0 D cy (hgMl q) N0 ad0 pc L S K M := by
  have hl : len = 1 := of_decide_eq_true (show decide (len = 1) = true from hk)
  subst hl
  obtain ⟨x, i, a, r, hS, h9⟩ := hglas_some (f := fun x i a r => if a < M.1 ∧ (hgSh a).1 = 21 ∧ hgIn i (hgSh a).2 = true then k L r K (hgSJ M a i.toNatClampNeg x) else none) h
  clear h
  subst hS
  intro ad H locs ls hn kc ks
  split at h9
  · next ha =>
    refine va_last hC.1 hC.2.1 hC.2.2.2.2.2.2.1 hn.1 hn.2.1 hn.2.2.1 a 1 (by rw [hgWs_at cy ad M ha.1, hgEn_long cy ad M ha.2.1]) rfl (hgIn_vp ha.2.2) hd (fun H1 locs1 hP hD hS => ?_)
    rw [hgWs_set cy ad M (hgSJ M a i.toNatClampNeg x) rfl (hgEn_SJ_at cy ad M _ x ha.2.1) (fun b hb => hgEn_SJ_ne cy ad M a _ x hb)] at hP hD
    exact kk _ _ _ _ h9 ad H1 locs1 ls (hn.mem (M1 := hgSJ M a i.toNatClampNeg x) rfl hP hD hS (hgRok_SJ hn.2.2.2.2.2.2.1 a _ x) (hgSk_t (hgSk_t (hgSk_t hn.sk)))) kc ks
  · cases h9
set_option maxHeartbeats 4000000 in
theorem hg_bastore (hC : hgCx p l R s m args meth c q B0 D cy X ad0) (hd : decode (hgCode q) pc = .ok (.bastore, len)) (hk : hgChk q pc .bastore len ps hs = true) (h : hgStep X (hgRm q) call jump .bastore ps hs L S K M k = some out)
    (kk : ∀ L S K M, k L S K M = some out → hgGo p l e R s m args below meth c Q B0 D cy (hgMl q) N0 ad0 (pc + len) L S K M) : hgGo p l e R s m args below meth c Q B0 D cy (hgMl q) N0 ad0 pc L S K M := by
  have hl : len = 1 := of_decide_eq_true (show decide (len = 1) = true from hk)
  subst hl
  obtain ⟨x, i, a, r, hS, h9⟩ := hgias_some (f := fun x i a r => if a < M.1 ∧ (hgSh a).1 = 22 ∧ hgIn i (hgSh a).2 = true then k L r K (hgSI M a i.toNatClampNeg (vp_nar .byte x)) else if a < M.1 ∧ (hgSh a).1 = 23 ∧ hgIn i (hgSh a).2 = true then k L r K (hgSI M a i.toNatClampNeg (vp_nar .boolean x)) else none) h
  clear h
  subst hS
  intro ad H locs ls hn kc ks
  split at h9
  · next ha =>
    refine va_bast hC.1 hC.2.1 hC.2.2.2.2.2.2.1 hn.1 hn.2.1 hn.2.2.1 a 2 (by rw [hgWs_at cy ad M ha.1, hgEn_int cy ad M ha.2.1 (Or.inr (Or.inl rfl))]) rfl (hgIn_vp ha.2.2) hd (fun H1 locs1 hP hD hS => ?_)
    rw [hgWs_set cy ad M (hgSI M a i.toNatClampNeg (vp_nar .byte x)) rfl (hgEn_SI_at cy ad M _ _ ha.2.1 (Or.inr (Or.inl rfl))) (fun b hb => hgEn_SI_ne cy ad M a _ _ hb)] at hP hD
    exact kk _ _ _ _ h9 ad H1 locs1 ls (hn.mem (M1 := hgSI M a i.toNatClampNeg (vp_nar .byte x)) rfl hP hD hS (hgRok_SI hn.2.2.2.2.2.2.1 a _ _) (hgSk_t (hgSk_t (hgSk_t hn.sk)))) kc ks
  · split at h9
    · next ha =>
      refine va_zast hC.1 hC.2.1 hC.2.2.2.2.2.2.1 hn.1 hn.2.1 hn.2.2.1 a 3 (by rw [hgWs_at cy ad M ha.1, hgEn_int cy ad M ha.2.1 (Or.inr (Or.inr rfl))]) rfl (hgIn_vp ha.2.2) hd (fun H1 locs1 hP hD hS => ?_)
      rw [hgWs_set cy ad M (hgSI M a i.toNatClampNeg (vp_nar .boolean x)) rfl (hgEn_SI_at cy ad M _ _ ha.2.1 (Or.inr (Or.inr rfl))) (fun b hb => hgEn_SI_ne cy ad M a _ _ hb)] at hP hD
      exact kk _ _ _ _ h9 ad H1 locs1 ls (hn.mem (M1 := hgSI M a i.toNatClampNeg (vp_nar .boolean x)) rfl hP hD hS (hgRok_SI hn.2.2.2.2.2.2.1 a _ _) (hgSk_t (hgSk_t (hgSk_t hn.sk)))) kc ks
    · cases h9
set_option maxHeartbeats 4000000 in
theorem hg_aastore (hC : hgCx p l R s m args meth c q B0 D cy X ad0) (hd : decode (hgCode q) pc = .ok (.aastore, len)) (hk : hgChk q pc .aastore len ps hs = true) (h : hgStep X (hgRm q) call jump .aastore ps hs L S K M k = some out)
    (kk : ∀ L S K M, k L S K M = some out → hgGo p l e R s m args below meth c Q B0 D cy (hgMl q) N0 ad0 (pc + len) L S K M) : hgGo p l e R s m args below meth c Q B0 D cy (hgMl q) N0 ad0 pc L S K M := by
  have hl : len = 1 := of_decide_eq_true (show decide (len = 1) = true from hk)
  subst hl
  obtain ⟨x, i, a, r, hS, h9⟩ := hgaas_some (f := fun q i a r => if a < M.1 ∧ q < M.1 ∧ 24 ≤ (hgSh a).1 ∧ (hgSh a).1 ≤ 26 ∧ (hgSh q).1 = [0, 4, 1].getD ((hgSh a).1 - 24) 99 ∧ hgIn i (hgSh a).2 = true then k L r K (hgSR M a i.toNatClampNeg q) else none) h
  clear h
  subst hS
  intro ad H locs ls hn kc ks
  split at h9
  · next ha =>
    obtain ⟨h1, h2, h3, h4, h5, h6⟩ := ha
    have hset := hgWs_set cy ad M (hgSR M a i.toNatClampNeg x) rfl (hgEn_SR_at cy ad M i.toNatClampNeg x rfl h3) (fun b hb => hgEn_SR_ne cy ad M a _ x hb)
    have fin : ∀ (H1 : Heap) (locs1 : List Loc), va_P D vwCl ((hgWs cy ad M).set a (ad a, .inl (cy (hgSh a).1, (hgSh a).2, .inr (.inr (.inr (.inr (va_up (fun i => (hgR M a i).map ad) i.toNatClampNeg (some (ad x))))))))) H1 → va_D (hgA B0) ((hgWs cy ad M).set a (ad a, .inl (cy (hgSh a).1, (hgSh a).2, .inr (.inr (.inr (.inr (va_up (fun i => (hgR M a i).map ad) i.toNatClampNeg (some (ad x))))))))) → va_S (hgA B0) s.heap H1 locs1 → W p l e R s m args below meth c H1 locs1 K.1 K.2 Q (F0 m (pc + 1) ls (r.map (hgPh ad))) := by
      intro H1 locs1 hP hD hS
      rw [hset] at hP hD
      exact kk _ _ _ _ h9 ad H1 locs1 ls (hn.mem (M1 := hgSR M a i.toNatClampNeg x) rfl hP hD hS (hgRok_SR hn.2.2.2.2.2.2.1 a _ h2) (hgSk_t (hgSk_t (hgSk_t hn.sk)))) kc ks
    have hat : (hgWs cy ad M)[a]? = some (ad a, .inl (cy (hgSh a).1, (hgSh a).2, .inr (.inr (.inr (.inr (fun i => (hgR M a i).map ad)))))) := by rw [hgWs_at cy ad M h1, hgEn_ref cy ad M rfl h3]
    have hK := hC.2.2.2.2.2.2.1
    have h3 : (hgSh a).1 = 24 ∨ (hgSh a).1 = 25 ∨ (hgSh a).1 = 26 := by omega
    rcases h3 with g | g | g
    · have hq : (hgSh x).1 = 0 := by rw [h5, g]; rfl
      exact va_astq hC.1 hC.2.1 hK hn.1 hn.2.1 hn.2.2.1 a 4 x 0 (r := (RX0, TX0, 15)) hat (by rw [g]; rfl) (by rw [hgWs_at cy ad M h2, hgEn_obj cy ad M hq (by omega)]) rfl (hgIn_vp h6) hd fin
    · have hq : (hgSh x).1 = 4 := by rw [h5, g]; rfl
      exact va_astq hC.1 hC.2.1 hK hn.1 hn.2.1 hn.2.2.1 a 5 x 4 (r := (RX4, TX4, 5)) hat (by rw [g]; rfl) (by rw [hgWs_at cy ad M h2, hgEn_obj cy ad M hq (by omega)]) rfl (hgIn_vp h6) hd fin
    · have hq : (hgSh x).1 = 1 := by rw [h5, g]; rfl
      exact va_astq hC.1 hC.2.1 hK hn.1 hn.2.1 hn.2.2.1 a 6 x 1 (r := (RX1, TX1, 16)) hat (by rw [g]; rfl) (by rw [hgWs_at cy ad M h2, hgEn_obj cy ad M hq (by omega)]) rfl (hgIn_vp h6) hd fin
  · cases h9
set_option maxHeartbeats 4000000 in
theorem hg_alen (hC : hgCx p l R s m args meth c q B0 D cy X ad0) (hd : decode (hgCode q) pc = .ok (.arraylength, len)) (hk : hgChk q pc .arraylength len ps hs = true) (h : hgStep X (hgRm q) call jump .arraylength ps hs L S K M k = some out)
    (kk : ∀ L S K M, k L S K M = some out → hgGo p l e R s m args below meth c Q B0 D cy (hgMl q) N0 ad0 (pc + len) L S K M) : hgGo p l e R s m args below meth c Q B0 D cy (hgMl q) N0 ad0 pc L S K M := by
  have hl : len = 1 := of_decide_eq_true (show decide (len = 1) = true from hk)
  subst hl
  have h2 : (hgr1 S fun a r => if a = 2000 then k L (.int (nI X.1) :: r) K M else if a < M.1 ∧ 20 ≤ (hgSh a).1 ∧ (hgSh a).1 ≤ 23 then k L (.int (nI (hgSh a).2) :: r) K M else none) = some out := h
  obtain ⟨a, r, hS, h9⟩ := hgr1_some h2
  clear h h2
  subst hS
  intro ad H locs ls hn kc ks
  split at h9
  · next ha =>
    subst ha
    obtain ⟨g1, g2, g3⟩ := hg_scr hC hn
    exact va_slen hC.1 hC.2.1 g1 g2 g3 hn.2.2.1 hd (kk _ _ _ _ h9 ad H locs ls (hn.to (hgSk_c hgVk_i (hgSk_t hn.sk))) kc ks)
  · split at h9
    · next ha =>
      have hK := hC.2.2.2.2.2.2.1
      have h3 : (hgSh a).1 = 20 ∨ (hgSh a).1 = 21 ∨ (hgSh a).1 = 22 ∨ (hgSh a).1 = 23 := by omega
      have go := kk _ _ _ _ h9 ad H locs ls (hn.to (hgSk_c hgVk_i (hgSk_t hn.sk))) kc ks
      rcases h3 with g | g | g | g
      · exact va_alen (x := ((hgSh a).2, .inl (hgI M a))) hC.1 hC.2.1 hK hn.1 a 0 (by rw [hgWs_at cy ad M ha.1, hgEn_int cy ad M g (Or.inl rfl)]) rfl rfl hd go
      · exact va_alen (x := ((hgSh a).2, .inr (.inl (hgJ M a)))) hC.1 hC.2.1 hK hn.1 a 1 (by rw [hgWs_at cy ad M ha.1, hgEn_long cy ad M g]) rfl rfl hd go
      · exact va_alen (x := ((hgSh a).2, .inl (hgI M a))) hC.1 hC.2.1 hK hn.1 a 2 (by rw [hgWs_at cy ad M ha.1, hgEn_int cy ad M g (Or.inr (Or.inl rfl))]) rfl rfl hd go
      · exact va_alen (x := ((hgSh a).2, .inl (hgI M a))) hC.1 hC.2.1 hK hn.1 a 3 (by rw [hgWs_at cy ad M ha.1, hgEn_int cy ad M g (Or.inr (Or.inr rfl))]) rfl rfl hd go
    · cases h9
end HGAR2

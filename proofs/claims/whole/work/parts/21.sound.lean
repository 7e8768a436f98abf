/-! SOUNDNESS: what the abstract machine answers, the machine does. -/
section HGSND
variable {p : Program} {l : Launch} {e : Env} {R : Room} {s : State} {m : MethodId} {args : Array Value} {below : List Frame} {meth : Method} {c : Code} {Q : State → Prop} {q B0 nL N0 : Nat} {D : va_G} {cy : Nat → ClassId} {X : hgX} {ad0 : Nat → Nat}
variable {call : Nat → List Value → hgMem → Option hgOut} {jump : Nat → hgL → List Value → hgK → hgMem → Option hgOut} {len : Nat} {ps : List Nat} {hs : List (Nat × Nat × Nat)} {pc : Nat} {out : hgOut} {L : hgL} {S : List Value} {K : hgK} {M : hgMem} {k : hgL → List Value → hgK → hgMem → Option hgOut}
set_option maxHeartbeats 4000000 in
set_option maxRecDepth 100000 in
theorem hg_callrow (hLen : hgLenOk l) (hChr : hgChrOk l) (hM : ∀ z, z < 227 → hgMfact z) (hC : hgCx p l R s m args meth c q B0 D cy X ad0) {idx kind : Nat} (hk : hgCallOk q pc idx kind ps hs = true)
    (hd : (kind = 0 ∧ decode (hgCode q) pc = .ok (.invokevirtual idx, 3)) ∨ (kind = 1 ∧ decode (hgCode q) pc = .ok (.invokestatic idx, 3)) ∨ (kind = 2 ∧ decode (hgCode q) pc = .ok (.invokespecial idx, 3))) (h : hgcall (hgRm q) call jump ps hs L S K M k = some out)
    (IHc : ∀ z as M o ad, call z as M = some o → z < 227 → hgSk M.1 as → hgCt l B0 D cy X z as ad M o)
    (kk : ∀ L S K M, k L S K M = some out → hgGo p l e R s m args below meth c Q B0 D cy (hgMl q) N0 ad0 (pc + 3) L S K M)
    (kj : ∀ t L S K M, jump t L S K M = some out → hgGo p l e R s m args below meth c Q B0 D cy (hgMl q) N0 ad0 t L S K M)
    (hO : hgEndO p l e R s m args below meth c Q q B0 N0 D cy ad0 out) : hgGo p l e R s m args below meth c Q B0 D cy (hgMl q) N0 ad0 pc L S K M := by
  obtain ⟨z, n, v, w, mc, ms, ci, rfl, hcs⟩ := hgcall_some h
  clear h
  unfold hgCallOk at hk
  dsimp only at hk
  rcases hcs with ⟨hz, hp⟩ | ⟨hz, as, r, o1, ht, hr4, k1, k2, hrecv, hcall, hcs⟩
  · rw [if_pos hz] at hk
    split at hk
    · next y hy =>
      simp only [Bool.and_eq_true, decide_eq_true_eq] at hk
      exact hg_prim hLen hChr hC hy hk.1.1.1 hk.1.1.2 hk.1.2 hk.2 hd hp kk
    · cases hk
  · rw [if_neg hz] at hk
    simp only [Bool.and_eq_true, decide_eq_true_eq] at hk
    obtain ⟨⟨⟨⟨⟨⟨⟨⟨⟨⟨a1, a2⟩, a3⟩, a4⟩, a5⟩, a6⟩, a7⟩, a8⟩, a9⟩, a10⟩, a11⟩ := hk
    subst a3; subst a4
    obtain ⟨xs, e1, e2, e3⟩ := hgTake_spec ht
    rw [List.append_nil] at e1
    subst e1
    subst e2
    intro ad H locs ls hn kc ks
    have hsk : hgSk M.1 as := fun x hx9 => hn.sk x (List.mem_append_left _ (List.mem_reverse.mpr hx9))
    have hskr : hgSk M.1 r := fun x hx9 => hn.sk x (List.mem_append_right _ hx9)
    have hct := IHc z as M o1 ad hcall a1 hsk
    have hRm : R.cells = (hgRm q).1 ∧ R.slots = (hgRm q).2 := hC.2.2.2.2.2.2.2.2.1.2.2
    have hci : kind ≠ 1 → ∃ T N, vwCl[ci]? = some (hgOwn z, T, N) := fun hk1 => by
      rw [if_neg hk1] at a10
      cases hcl : vwCl[ci]? with
      | none => rw [hcl] at a10; cases a10
      | some C9 =>
        obtain ⟨C, T, N⟩ := C9
        rw [hcl] at a10
        have : C = hgOwn z := of_decide_eq_true a10
        subst this
        exact ⟨T, N, rfl⟩
    have hrv : kind ≠ 1 → ∃ b as1, as = .ref b :: as1 ∧ b < M.1 ∧ (hgSh b).1 = ci := fun hk1 => by
      obtain ⟨T, N, hcl⟩ := hci hk1
      exact hgRecv_spec hrecv (by have := (hgCls hcl).2.2.2.2.1; omega)
    have hrun := hg_run (len := 0) (e := e) (below := below) (K := K) hC hn (hM z a1) hct a2 a5 a6 a8 (by rw [e3, a7]) hci hrv hd hr4 k1 k2
    refine hg_after hrun hn.2.2.1 (fun v9 M1 ad1 H1 locs1 ho hnum hP hD hR hN hx9 hS => ?_) (fun x9 M1 ad1 H1 locs1 ce q9 ho hP hD hR hN hx9 hS hce hcv hcl => ?_)
    · obtain ⟨hn1, em⟩ := hn.back hskr hP hD hR hN hx9 hS
      rcases hcs with ⟨x, M2, ho2, hk9⟩ | ⟨E, M2, ho2, _⟩
      · rw [ho] at ho2
        cases ho2
        have go := kk _ _ _ _ hk9 ad1 H1 locs1 ls
        have es : (hgRv v9).toList ++ r.map (hgPh ad) = (hgPush v9 r).map (hgPh ad1) := by
          rw [← em]
          cases v9 <;> first | rfl | exact absurd rfl (hnum _)
        have hk0 : hgSk M1.1 (hgPush v9 r) := by
          cases v9 <;> first | exact hn1.sk | exact hgSk_c (hgVk_num hnum) hn1.sk
        rw [es]
        exact go (hn1.to hk0) (by show K.1 + _ ≤ _; omega) (by show K.2 + _ ≤ _; omega)
      · rw [ho] at ho2
        cases ho2
    · obtain ⟨hn1, em⟩ := hn.back hgSk_n hP hD hR hN hx9 hS
      rcases hcs with ⟨x, M2, ho2, _⟩ | ⟨E, M2, ho2, hcs⟩
      · rw [ho] at ho2
        cases ho2
      · rw [ho] at ho2
        cases ho2
        rcases hcs with ⟨hs0, hout⟩ | ⟨hs0, t, loc, hh, hj⟩
        · subst hs0
          refine hO x9 L [] (K.1 + (hgRm z).1, K.2 + (hgRm z).2) M1 ad1 H1 locs1 ls pc _ ce q9 hout (fun z9 hz9 => ?_) hn1 (by show K.1 + _ ≤ _; omega) (by show K.2 + _ ≤ _; omega) hce hcv hcl
          have a11 : (hgHh q).all (fun h => !(decide (h.1 ≤ pc) && decide (pc < h.2.1))) = true := a11
          obtain ⟨h9, g1, g2⟩ := List.mem_map.mp hz9
          have := List.all_eq_true.mp a11 h9 g1
          rw [← g2]
          show (decide (h9.1 ≤ pc) && decide (pc < h9.2.1)) = false
          cases hb9 : (decide (h9.1 ≤ pc) && decide (pc < h9.2.1)) with
          | false => rfl
          | true =>
            have this : (!(decide (h9.1 ≤ pc) && decide (pc < h9.2.1))) = true := this
            rw [hb9] at this
            cases this
        · have a12 : hgHOk q pc hs (hgHh q) = true := by
            cases hs with
            | nil => exact absurd rfl hs0
            | cons _ _ => exact a11
          exact hg_catch (K := (K.1 + (hgRm z).1, K.2 + (hgRm z).2)) hC hn1 (by show K.1 + _ ≤ _; omega) (by show K.2 + _ ≤ _; omega) hce hcv hcl (hgHd_le a12 hh) hs (hgHh q) [] t loc a12 hh rfl (fun z9 hz9 => by cases hz9) (kj _ _ _ _ _ hj)
theorem hgir_some (h : (match ps, S with
    | [3], [.int x] => if x = 0 ∨ x = 1 then some (.inl (.int x), M) else none
    | [1], [.int x] => some (.inl (.int x), M)
    | _, _ => none) = some out) : ∃ x, S = [.int x] ∧ out = (.inl (.int x), M) ∧ ((ps = [3] ∧ (x = 0 ∨ x = 1)) ∨ ps = [1]) := by
  split at h
  · split at h
    · next hx => cases h; exact ⟨_, rfl, rfl, Or.inl ⟨rfl, hx⟩⟩
    · cases h
  · cases h; exact ⟨_, rfl, rfl, Or.inr rfl⟩
  · cases h
theorem hglr_some (h : (match S with
    | [.long x] => some (.inl (.long x), M)
    | _ => none) = some out) : ∃ x, S = [.long x] ∧ out = (.inl (.long x), M) := by
  split at h
  · cases h; exact ⟨_, rfl, rfl⟩
  · cases h
theorem hgvr_some (h : (match S with
    | [] => some (.inl .null, M)
    | _ => none) = some out) : S = [] ∧ out = (.inl .null, M) := by
  split at h
  · cases h; exact ⟨rfl, rfl⟩
  · cases h
theorem hgnw_some {rm : hgK} (h : (match ps with
    | [1, ci, n, _] => if hgSh M.1 = (ci, n) ∧ K.1 + 1 ≤ rm.1 ∧ K.2 + n ≤ rm.2 then k L (.ref M.1 :: S) (K.1 + 1, K.2 + n) (hgNew M) else none
    | [2, E, _, _, _, _] => if S.length ≤ 4 ∧ K.1 + 1 ≤ rm.1 ∧ K.2 + 6 ≤ rm.2 then some (.inr E, M) else none
    | _ => none) = some out) : (∃ ci n w, ps = [1, ci, n, w] ∧ hgSh M.1 = (ci, n) ∧ K.1 + 1 ≤ rm.1 ∧ K.2 + n ≤ rm.2 ∧ k L (.ref M.1 :: S) (K.1 + 1, K.2 + n) (hgNew M) = some out) ∨ (∃ E w1 w2 w3 w4, ps = [2, E, w1, w2, w3, w4] ∧ S.length ≤ 4 ∧ K.1 + 1 ≤ rm.1 ∧ K.2 + 6 ≤ rm.2 ∧ out = (.inr E, M)) := by
  split at h
  · split at h
    · next g => exact Or.inl ⟨_, _, _, rfl, g.1, g.2.1, g.2.2, h⟩
    · cases h
  · split at h
    · next g => cases h; exact Or.inr ⟨_, _, _, _, _, rfl, g.1, g.2.1, g.2.2, rfl⟩
    · cases h
  · cases h
set_option maxHeartbeats 4000000 in
set_option maxRecDepth 100000 in
theorem hg_block (hLen : hgLenOk l) (hChr : hgChrOk l) (hM : ∀ z, z < 227 → hgMfact z) (hC : hgCx p l R s m args meth c q B0 D cy X ad0)
    (IHc : ∀ z as M o ad, call z as M = some o → z < 227 → hgSk M.1 as → hgCt l B0 D cy X z as ad M o)
    (kj : ∀ t L S K M, jump t L S K M = some out → hgGo p l e R s m args below meth c Q B0 D cy (hgMl q) N0 ad0 t L S K M)
    (hR : hgEndR p l e R s m args below meth c Q q B0 N0 D cy ad0 out) (hT : hgEndT p l e R s m args below meth c Q q B0 N0 D cy ad0 out) (hO : hgEndO p l e R s m args below meth c Q q B0 N0 D cy ad0 out) :
    ∀ (rows : List hgRow) (pc : Nat), hgOkB q pc rows = true → ∀ (L : hgL) (S : List Value) (K : hgK) (M : hgMem), hgEx X (hgRm q) call jump rows L S K M = some out → hgGo p l e R s m args below meth c Q B0 D cy (hgMl q) N0 ad0 pc L S K M := by
  intro rows
  induction rows with
  | nil => intro pc _ L S K M h; cases h
  | cons row rs ih =>
    obtain ⟨i, len, ps, hs⟩ := row
    intro pc hok L S K M h
    unfold hgOkB at hok
    simp only [Bool.and_eq_true, decide_eq_true_eq] at hok
    obtain ⟨⟨hd, hk⟩, hok2⟩ := hok
    have h : hgStep X (hgRm q) call jump i ps hs L S K M (fun L S K M => hgEx X (hgRm q) call jump rs L S K M) = some out := h
    have kk : ∀ L S K M, hgEx X (hgRm q) call jump rs L S K M = some out → hgGo p l e R s m args below meth c Q B0 D cy (hgMl q) N0 ad0 (pc + len) L S K M := fun L S K M h => ih (pc + len) hok2 L S K M h
    have hRm : R.cells = (hgRm q).1 ∧ R.slots = (hgRm q).2 := hC.2.2.2.2.2.2.2.2.1.2.2
    refine hg_easy hC hd hk h kk kj (fun hhard => ?_)
    cases i with
    | ldc idx => exact hg_ldc hC hd hk h kk
    | ldc_w idx => exact hg_ldcw hC hd hk h kk
    | ldc2_w idx => exact hg_ldc2 hC hd hk h kk
    | getfield idx => exact hg_getfield hC hd hk h kk
    | putfield idx => exact hg_putfield hC hd hk h kk
    | iaload => exact hg_iaload hC hd hk h kk
    | baload => exact hg_baload hC hd hk h kk
    | laload => exact hg_laload hC hd hk h kk
    | aaload => exact hg_aaload hC hd hk h kk
    | iastore => exact hg_iastore hC hd hk h kk
    | bastore => exact hg_bastore hC hd hk h kk
    | lastore => exact hg_lastore hC hd hk h kk
    | aastore => exact hg_aastore hC hd hk h kk
    | arraylength => exact hg_alen hC hd hk h kk
    | newarray t => exact hg_newarray hC hd hk h kk
    | anewarray idx => exact hg_anewarray hC hd hk h kk
    | multianewarray idx dim => exact hg_multi hC hd hk h kk
    | new idx =>
      have hl : len = 3 := by
        simp only [hgChk, Bool.and_eq_true, decide_eq_true_eq] at hk
        exact hk.1
      subst hl
      rcases hgnw_some (rm := hgRm q) h with ⟨ci, n, w, rfl, g1, g2, g3, g4⟩ | ⟨E, w1, w2, w3, w4, rfl, g1, g2, g3, g4⟩
      · have hk2 : (decide (3 = 3) && (match vwCl[ci]? with
          | some (C, _, N) => decide (n = N) && decide (hgWt w = some (.classLink (hgOwn q) idx C))
          | none => false)) = true := hk
        rw [Bool.and_eq_true] at hk2
        exact hg_new1 hC hd hk2.2 g1 g2 g3 g4 kk
      · intro ad H locs ls hn kc ks
        exact hT E L S K M ad H locs ls pc idx w1 w2 w3 w4 hs g4 hd hk g1 hn (by omega) (by omega)
    | invokevirtual idx =>
      have hk2 : (decide (len = 3) && hgCallOk q pc idx 0 ps hs) = true := hk
      rw [Bool.and_eq_true, decide_eq_true_eq] at hk2
      obtain ⟨hl, hk3⟩ := hk2
      subst hl
      exact hg_callrow hLen hChr hM hC hk3 (Or.inl ⟨rfl, hd⟩) h IHc kk kj hO
    | invokestatic idx =>
      have hk2 : (decide (len = 3) && hgCallOk q pc idx 1 ps hs) = true := hk
      rw [Bool.and_eq_true, decide_eq_true_eq] at hk2
      obtain ⟨hl, hk3⟩ := hk2
      subst hl
      exact hg_callrow hLen hChr hM hC hk3 (Or.inr (Or.inl ⟨rfl, hd⟩)) h IHc kk kj hO
    | invokespecial idx =>
      have hk2 : (decide (len = 3) && hgCallOk q pc idx 2 ps hs) = true := hk
      rw [Bool.and_eq_true, decide_eq_true_eq] at hk2
      obtain ⟨hl, hk3⟩ := hk2
      subst hl
      exact hg_callrow hLen hChr hM hC hk3 (Or.inr (Or.inr ⟨rfl, hd⟩)) h IHc kk kj hO
    | ireturn =>
      obtain ⟨x, hS, ho, hps⟩ := hgir_some h
      have hfin : len = 1 ∧ hgRetOk q .ireturn (.int x) := by
        rcases hps with ⟨hp, hx⟩ | hp
        · subst hp
          have hk2 : (decide (len = 1) && decide (hgRet q = some .boolean)) = true := hk
          rw [Bool.and_eq_true, decide_eq_true_eq, decide_eq_true_eq] at hk2
          exact ⟨hk2.1, Or.inl ⟨rfl, x, rfl, Or.inr ⟨hk2.2, hx⟩⟩⟩
        · subst hp
          have hk2 : (decide (len = 1) && decide (hgRet q = some .int)) = true := hk
          rw [Bool.and_eq_true, decide_eq_true_eq, decide_eq_true_eq] at hk2
          exact ⟨hk2.1, Or.inl ⟨rfl, x, rfl, Or.inl hk2.2⟩⟩
      obtain ⟨hl, hok⟩ := hfin
      subst hl
      intro ad H locs ls hn kc ks
      have go := hR (.int x) L S K M ad H locs ls pc _ ho hd hok hn kc ks
      rw [hS]
      exact go
    | lreturn =>
      have hk2 : (decide (len = 1) && decide (hgRet q = some .long)) = true := hk
      rw [Bool.and_eq_true, decide_eq_true_eq, decide_eq_true_eq] at hk2
      obtain ⟨hl, hk3⟩ := hk2
      subst hl
      obtain ⟨x, hS, ho⟩ := hglr_some h
      intro ad H locs ls hn kc ks
      have go := hR (.long x) L S K M ad H locs ls pc _ ho hd (Or.inr (Or.inl ⟨rfl, x, rfl, hk3⟩)) hn kc ks
      rw [hS]
      exact go
    | return_ =>
      have hk2 : (decide (len = 1) && decide (hgRet q = none)) = true := hk
      rw [Bool.and_eq_true, decide_eq_true_eq, decide_eq_true_eq] at hk2
      obtain ⟨hl, hk3⟩ := hk2
      subst hl
      obtain ⟨hS, ho⟩ := hgvr_some h
      intro ad H locs ls hn kc ks
      have go := hR .null L S K M ad H locs ls pc _ ho hd (Or.inr (Or.inr ⟨rfl, rfl, hk3⟩)) hn kc ks
      rw [hS]
      exact go
    | _ => cases hhard
end HGSND

/-! THE START: the reference is made, and both sides begin alike. -/
section HGST4
variable {X : hgX} {M M' M1 M2 : hgMem} {a b c n g i j k : Nat}
set_option maxRecDepth 100000 in
theorem hgk_122 (hN : M.1 = 301) (hz : ∀ k, hgI M 300 k = nI 0) : ∃ M', hgWC X 122 [.ref 300] M = some (.inl .null, M') ∧ M'.1 = 325 ∧ hgBw 300 M M' ∧ hgR M' 300 1 = some 301 ∧ hgR M' 300 8 = some 302 ∧ hgR M' 300 9 = some 303 ∧ hgR M' 300 10 = some 304 ∧ hgR M' 300 11 = some 305 ∧ hgR M' 300 12 = some 314 ∧ hgR M' 300 13 = some 315 ∧ hgR M' 300 14 = some 316 ∧ (∀ j, j < 8 → hgR M' 305 j = some (306 + j)) ∧ (∀ j, j < 8 → hgR M' 316 j = some (317 + j)) ∧ (∀ k, k ≠ 7 → hgI M' 300 k = nI 0) ∧ hgI M' 300 7 = -1 ∧ (∀ k, hgI M' 302 k = nI 0) := by
  have oa : ∀ Q : hgMem, 300 < Q.1 → hgO Q 300 8 := fun Q h => ⟨h, rfl⟩
  have sh0 : hgSh M.1 = (20, 900) := by rw [hN]; rfl
  have o0 := oa (hgNew M) (by rw [hgNw_1]; omega)
  have l0 : 301 < (hgNew M).1 := by rw [hgNw_1]; omega
  obtain ⟨Ma, hMa⟩ : ∃ Ma, Ma = hgSI (hgSR (hgNew M) 300 1 301) 300 7 (-1) := ⟨_, rfl⟩
  have o0' : hgO (hgSR (hgNew M) 300 1 301) 300 8 := o0
  have Na : Ma.1 = 302 := by rw [hMa]; show (hgNew M).1 = _; rw [hgNw_1]; omega
  have sha : hgSh Ma.1 = (20, 20187) := by rw [Na]; rfl
  have o1 := oa (hgNew Ma) (by rw [hgNw_1]; omega)
  have l1 : 302 < (hgNew Ma).1 := by rw [hgNw_1]; omega
  obtain ⟨Mb, hMb⟩ : ∃ Mb, Mb = hgSR (hgNew Ma) 300 8 302 := ⟨_, rfl⟩
  have Nb : Mb.1 = 303 := by rw [hMb]; show (hgNew Ma).1 = _; rw [hgNw_1]; omega
  have shb : hgSh Mb.1 = (20, 20187) := by rw [Nb]; rfl
  have o2 := oa (hgNew Mb) (by rw [hgNw_1]; omega)
  have l2 : 303 < (hgNew Mb).1 := by rw [hgNw_1]; omega
  obtain ⟨Mc, hMc⟩ : ∃ Mc, Mc = hgSR (hgNew Mb) 300 9 303 := ⟨_, rfl⟩
  have Nc : Mc.1 = 304 := by rw [hMc]; show (hgNew Mb).1 = _; rw [hgNw_1]; omega
  have shc : hgSh Mc.1 = (20, 20187) := by rw [Nc]; rfl
  have o3 := oa (hgNew Mc) (by rw [hgNw_1]; omega)
  have l3 : 304 < (hgNew Mc).1 := by rw [hgNw_1]; omega
  obtain ⟨Md, hMd⟩ : ∃ Md, Md = hgSR (hgNew Mc) 300 10 304 := ⟨_, rfl⟩
  have Nd : Md.1 = 305 := by rw [hMd]; show (hgNew Mc).1 = _; rw [hgNw_1]; omega
  have shd : hgSh Md.1 = (27, 8) := by rw [Nd]; rfl
  have shd2 : (List.range 8).all (fun j => decide (hgSh (Md.1 + 1 + j) = (20, 20187))) = true := by rw [Nd]; rfl
  obtain ⟨w1, w2, w3⟩ := hgNews_f 9 Md
  obtain ⟨x1, x2, x3, x4⟩ := hgGrid_f (a := 305) 8 (hgNews 9 Md)
  obtain ⟨Me, hMe⟩ : ∃ Me, Me = hgGrid 305 8 (hgNews 9 Md) := ⟨_, rfl⟩
  rw [← hMe] at x1 x2 x3 x4
  have Ne : Me.1 = 314 := by rw [x1, w1, Nd]
  have o4 := oa Me (by omega)
  have l4 : 305 < Me.1 := by omega
  obtain ⟨Mf, hMf⟩ : ∃ Mf, Mf = hgSR Me 300 11 305 := ⟨_, rfl⟩
  have Nf : Mf.1 = 314 := by rw [hMf]; exact Ne
  have shf : hgSh Mf.1 = (21, 10) := by rw [Nf]; rfl
  have o5 := oa (hgNew Mf) (by rw [hgNw_1]; omega)
  have l5 : 314 < (hgNew Mf).1 := by rw [hgNw_1]; omega
  obtain ⟨Mg, hMg⟩ : ∃ Mg, Mg = hgSR (hgNew Mf) 300 12 314 := ⟨_, rfl⟩
  have Ng : Mg.1 = 315 := by rw [hMg]; show (hgNew Mf).1 = _; rw [hgNw_1]; omega
  have shg : hgSh Mg.1 = (21, 10) := by rw [Ng]; rfl
  have o6 := oa (hgNew Mg) (by rw [hgNw_1]; omega)
  have l6 : 315 < (hgNew Mg).1 := by rw [hgNw_1]; omega
  obtain ⟨Mh, hMh⟩ : ∃ Mh, Mh = hgSR (hgNew Mg) 300 13 315 := ⟨_, rfl⟩
  have Nh : Mh.1 = 316 := by rw [hMh]; show (hgNew Mg).1 = _; rw [hgNw_1]; omega
  have shh : hgSh Mh.1 = (28, 8) := by rw [Nh]; rfl
  have shh2 : (List.range 8).all (fun j => decide (hgSh (Mh.1 + 1 + j) = (21, 10))) = true := by rw [Nh]; rfl
  obtain ⟨y1, y2, y3⟩ := hgNews_f 9 Mh
  obtain ⟨z1, z2, z3, z4⟩ := hgGrid_f (a := 316) 8 (hgNews 9 Mh)
  obtain ⟨Mi, hMi⟩ : ∃ Mi, Mi = hgGrid 316 8 (hgNews 9 Mh) := ⟨_, rfl⟩
  rw [← hMi] at z1 z2 z3 z4
  have Ni : Mi.1 = 325 := by rw [z1, y1, Nh]
  have o7 := oa Mi (by omega)
  have l7 : 316 < Mi.1 := by omega
  have Da : ∀ b, b < 301 → ∀ k, hgJ Ma b k = hgJ M b k ∧ hgR Ma b k = (if b = 300 ∧ k = 1 then some 301 else hgR M b k) := fun b hb k => by
    rw [hMa]
    refine ⟨?_, ?_⟩
    · show hgJ (hgNew M) b k = _
      rw [hgNw_J, if_neg (by omega)]
    · show hgR (hgSR (hgNew M) 300 1 301) b k = _
      rw [hgR_SR, hgNw_R, if_neg (show b ≠ M.1 by omega)]
      by_cases e : b = 300 <;> by_cases e2 : k = 1 <;> simp [e, e2]
  have Ia : ∀ b, b < 301 → ∀ k, hgI Ma b k = if b = 300 ∧ k = 7 then -1 else hgI M b k := fun b hb k => by
    rw [hMa, hgI_SI]
    have e9 : hgI (hgSR (hgNew M) 300 1 301) b k = hgI M b k := by
      show hgI (hgNew M) b k = _
      rw [hgNw_I, if_neg (by omega)]
    rw [e9]
    by_cases e : b = 300 <;> by_cases e2 : k = 7 <;> simp [e, e2]
  have st : ∀ (P : hgMem) (kk v n : Nat), P.1 = n → ∀ b, b < n → ∀ k, hgI (hgSR (hgNew P) 300 kk v) b k = hgI P b k ∧ hgJ (hgSR (hgNew P) 300 kk v) b k = hgJ P b k ∧ hgR (hgSR (hgNew P) 300 kk v) b k = (if b = 300 ∧ k = kk then some v else hgR P b k) := fun P kk v n hn b hb k => by
    refine ⟨?_, ?_, ?_⟩
    · show hgI (hgNew P) b k = _
      rw [hgNw_I, if_neg (by omega)]
    · show hgJ (hgNew P) b k = _
      rw [hgNw_J, if_neg (by omega)]
    · rw [hgR_SR, hgNw_R, if_neg (show b ≠ P.1 by omega)]
      by_cases e : b = 300 <;> by_cases e2 : k = kk <;> simp [e, e2]
  have Db := st Ma 8 302 302 Na
  have Dc := st Mb 9 303 303 Nb
  have Dd := st Mc 10 304 304 Nc
  rw [← hMb] at Db
  rw [← hMc] at Dc
  rw [← hMd] at Dd
  have De : ∀ b, b < 305 → ∀ k, hgI Mf b k = hgI Md b k ∧ hgJ Mf b k = hgJ Md b k ∧ hgR Mf b k = (if b = 300 ∧ k = 11 then some 305 else hgR Md b k) := fun b hb k => by
    have w := w2 b (by omega) k
    rw [hMf]
    refine ⟨(x2 b k).trans w.1, (x3 b k).trans w.2.1, ?_⟩
    rw [hgR_SR, x4, if_neg (show ¬ (b = 305 ∧ k < 8) by omega), w.2.2]
    by_cases e : b = 300 <;> by_cases e2 : k = 11 <;> simp [e, e2]
  have Dg := st Mf 12 314 314 Nf
  have Dh := st Mg 13 315 315 Ng
  rw [← hMg] at Dg
  rw [← hMh] at Dh
  have Di : ∀ b, b < 316 → ∀ k, hgI (hgSR Mi 300 14 316) b k = hgI Mh b k ∧ hgJ (hgSR Mi 300 14 316) b k = hgJ Mh b k ∧ hgR (hgSR Mi 300 14 316) b k = (if b = 300 ∧ k = 14 then some 316 else hgR Mh b k) := fun b hb k => by
    have w := y2 b (by omega) k
    refine ⟨(z2 b k).trans w.1, (z3 b k).trans w.2.1, ?_⟩
    rw [hgR_SR, z4, if_neg (show ¬ (b = 316 ∧ k < 8) by omega), w.2.2]
    by_cases e : b = 300 <;> by_cases e2 : k = 14 <;> simp [e, e2]
  have I300 : ∀ b, b < 301 → ∀ k, hgI (hgSR Mi 300 14 316) b k = if b = 300 ∧ k = 7 then -1 else hgI M b k := fun b hb k => by
    rw [(Di b (by omega) k).1, (Dh b (by omega) k).1, (Dg b (by omega) k).1, (De b (by omega) k).1, (Dd b (by omega) k).1, (Dc b (by omega) k).1, (Db b (by omega) k).1, Ia b hb k]
  have R300 : ∀ b, b < 301 → ∀ k, hgR (hgSR Mi 300 14 316) b k = if b = 300 ∧ k = 14 then some 316 else if b = 300 ∧ k = 13 then some 315 else if b = 300 ∧ k = 12 then some 314 else if b = 300 ∧ k = 11 then some 305 else if b = 300 ∧ k = 10 then some 304 else if b = 300 ∧ k = 9 then some 303 else if b = 300 ∧ k = 8 then some 302 else if b = 300 ∧ k = 1 then some 301 else hgR M b k := fun b hb k => by
    rw [(Di b (by omega) k).2.2, (Dh b (by omega) k).2.2, (Dg b (by omega) k).2.2, (De b (by omega) k).2.2, (Dd b (by omega) k).2.2, (Dc b (by omega) k).2.2, (Db b (by omega) k).2.2, (Da b hb k).2]
  have J300 : ∀ b, b < 301 → ∀ k, hgJ (hgSR Mi 300 14 316) b k = hgJ M b k := fun b hb k => by
    rw [(Di b (by omega) k).2.1, (Dh b (by omega) k).2.1, (Dg b (by omega) k).2.1, (De b (by omega) k).2.1, (Dd b (by omega) k).2.1, (Dc b (by omega) k).2.1, (Db b (by omega) k).2.1, (Da b hb k).1]
  have rr : ∀ k, hgR (hgSR Mi 300 14 316) 300 k = if k = 14 then some 316 else if k = 13 then some 315 else if k = 12 then some 314 else if k = 11 then some 305 else if k = 10 then some 304 else if k = 9 then some 303 else if k = 8 then some 302 else if k = 1 then some 301 else hgR M 300 k := fun k => by
    rw [R300 300 (by omega) k]
    simp only [true_and]
  refine ⟨hgSR Mi 300 14 316, ?_, Ni, fun b hb k => ⟨by rw [I300 b (by omega), if_neg (by omega)], J300 b (by omega) k, by rw [R300 b (by omega), if_neg (by omega), if_neg (by omega), if_neg (by omega), if_neg (by omega), if_neg (by omega), if_neg (by omega), if_neg (by omega), if_neg (by omega)]⟩, by rw [rr]; rfl, by rw [rr]; rfl, by rw [rr]; rfl, by rw [rr]; rfl, by rw [rr]; rfl, by rw [rr]; rfl, by rw [rr]; rfl, by rw [rr]; rfl, fun j hj => ?_, fun j hj => ?_, fun k hk => by rw [I300 300 (by omega), if_neg (by omega)]; exact hz k, by rw [I300 300 (by omega), if_pos ⟨rfl, rfl⟩], fun k => ?_⟩
  · simp (maxDischargeDepth := 7) only [hgc122, hgM_t, hgM_f, hgM_n, hgx_aload_n_0, hgx_sipush_900, hgx_iconst_m1, hgx_put0, hgx_sipush_20187, hgx_bipush_8, hgx_bipush_10, hgx_vret, hgv122_0, hgr122_0, hgu122_0, hgx_1005, hgx_newa sh0, hgx_put2, hgI_SI, hgI_SJ, hgJ_SI, hgJ_SJ, if_true, if_false, reduceIte, Nat.reduceEqDiff, hgWf_SI, hgWf_SJ, hgO_SI, hgO_SJ, hgAr_SI, hgAr_SJ, hgRp_SI, hgRp_SJ, hgN_SI, hgN_SJ, hgO_g, hgO_d, hgO_rl, hgO_r, hgO_0, hgO_1, hgO_64, hgO_298, hgO_300, hgCd_0, hgCd_1, hgCd_2, hgCd_3, hgCd_4, hgCd_5, hgRecv_O, hgRecv_99, List.length_cons, List.length_nil, Nat.zero_add, Nat.add_zero, Nat.le_refl, Nat.zero_le, and_self, or_true, true_or, true_and, and_true, ne_eq, not_false_eq_true, Nat.reduceLT, Nat.reduceLeDiff, Nat.reduceAdd, Nat.reduceEqDiff, hgn_eq, hgn_lt, hgn_le, if_true, if_false, reduceIte, Nat.not_lt_zero, hgn_add, hgn_mul, hN, o0, o0', l0]
    rw [← hMa]
    simp (maxDischargeDepth := 7) only [hgM_t, hgM_f, hgM_n, hgx_aload_n_0, hgx_sipush_900, hgx_iconst_m1, hgx_put0, hgx_sipush_20187, hgx_bipush_8, hgx_bipush_10, hgx_vret, hgv122_0, hgr122_0, hgu122_0, hgx_newa sha, hgx_put2, hgI_SI, hgI_SJ, hgJ_SI, hgJ_SJ, if_true, if_false, reduceIte, Nat.reduceEqDiff, hgWf_SI, hgWf_SJ, hgO_SI, hgO_SJ, hgAr_SI, hgAr_SJ, hgRp_SI, hgRp_SJ, hgN_SI, hgN_SJ, hgO_g, hgO_d, hgO_rl, hgO_r, hgO_0, hgO_1, hgO_64, hgO_298, hgO_300, hgCd_0, hgCd_1, hgCd_2, hgCd_3, hgCd_4, hgCd_5, hgRecv_O, hgRecv_99, List.length_cons, List.length_nil, Nat.zero_add, Nat.add_zero, Nat.le_refl, Nat.zero_le, and_self, or_true, true_or, true_and, and_true, ne_eq, not_false_eq_true, Nat.reduceLT, Nat.reduceLeDiff, Nat.reduceAdd, Nat.reduceEqDiff, hgn_eq, hgn_lt, hgn_le, if_true, if_false, reduceIte, Nat.not_lt_zero, hgn_add, hgn_mul, Na, o1, l1]
    rw [← hMb]
    simp (maxDischargeDepth := 7) only [hgM_t, hgM_f, hgM_n, hgx_aload_n_0, hgx_sipush_900, hgx_iconst_m1, hgx_put0, hgx_sipush_20187, hgx_bipush_8, hgx_bipush_10, hgx_vret, hgv122_0, hgr122_0, hgu122_0, hgx_newa shb, hgx_put2, hgI_SI, hgI_SJ, hgJ_SI, hgJ_SJ, if_true, if_false, reduceIte, Nat.reduceEqDiff, hgWf_SI, hgWf_SJ, hgO_SI, hgO_SJ, hgAr_SI, hgAr_SJ, hgRp_SI, hgRp_SJ, hgN_SI, hgN_SJ, hgO_g, hgO_d, hgO_rl, hgO_r, hgO_0, hgO_1, hgO_64, hgO_298, hgO_300, hgCd_0, hgCd_1, hgCd_2, hgCd_3, hgCd_4, hgCd_5, hgRecv_O, hgRecv_99, List.length_cons, List.length_nil, Nat.zero_add, Nat.add_zero, Nat.le_refl, Nat.zero_le, and_self, or_true, true_or, true_and, and_true, ne_eq, not_false_eq_true, Nat.reduceLT, Nat.reduceLeDiff, Nat.reduceAdd, Nat.reduceEqDiff, hgn_eq, hgn_lt, hgn_le, if_true, if_false, reduceIte, Nat.not_lt_zero, hgn_add, hgn_mul, Nb, o2, l2]
    rw [← hMc]
    simp (maxDischargeDepth := 7) only [hgM_t, hgM_f, hgM_n, hgx_aload_n_0, hgx_sipush_900, hgx_iconst_m1, hgx_put0, hgx_sipush_20187, hgx_bipush_8, hgx_bipush_10, hgx_vret, hgv122_0, hgr122_0, hgu122_0, hgx_newa shc, hgx_put2, hgI_SI, hgI_SJ, hgJ_SI, hgJ_SJ, if_true, if_false, reduceIte, Nat.reduceEqDiff, hgWf_SI, hgWf_SJ, hgO_SI, hgO_SJ, hgAr_SI, hgAr_SJ, hgRp_SI, hgRp_SJ, hgN_SI, hgN_SJ, hgO_g, hgO_d, hgO_rl, hgO_r, hgO_0, hgO_1, hgO_64, hgO_298, hgO_300, hgCd_0, hgCd_1, hgCd_2, hgCd_3, hgCd_4, hgCd_5, hgRecv_O, hgRecv_99, List.length_cons, List.length_nil, Nat.zero_add, Nat.add_zero, Nat.le_refl, Nat.zero_le, and_self, or_true, true_or, true_and, and_true, ne_eq, not_false_eq_true, Nat.reduceLT, Nat.reduceLeDiff, Nat.reduceAdd, Nat.reduceEqDiff, hgn_eq, hgn_lt, hgn_le, if_true, if_false, reduceIte, Nat.not_lt_zero, hgn_add, hgn_mul, Nc, o3, l3]
    rw [← hMd]
    simp (maxDischargeDepth := 7) only [hgM_t, hgM_f, hgM_n, hgx_aload_n_0, hgx_sipush_900, hgx_iconst_m1, hgx_put0, hgx_sipush_20187, hgx_bipush_8, hgx_bipush_10, hgx_vret, hgv122_0, hgr122_0, hgu122_0, hgx_multi shd shd2, hgx_put2, hgI_SI, hgI_SJ, hgJ_SI, hgJ_SJ, if_true, if_false, reduceIte, Nat.reduceEqDiff, hgWf_SI, hgWf_SJ, hgO_SI, hgO_SJ, hgAr_SI, hgAr_SJ, hgRp_SI, hgRp_SJ, hgN_SI, hgN_SJ, hgO_g, hgO_d, hgO_rl, hgO_r, hgO_0, hgO_1, hgO_64, hgO_298, hgO_300, hgCd_0, hgCd_1, hgCd_2, hgCd_3, hgCd_4, hgCd_5, hgRecv_O, hgRecv_99, List.length_cons, List.length_nil, Nat.zero_add, Nat.add_zero, Nat.le_refl, Nat.zero_le, and_self, or_true, true_or, true_and, and_true, ne_eq, not_false_eq_true, Nat.reduceLT, Nat.reduceLeDiff, Nat.reduceAdd, Nat.reduceEqDiff, hgn_eq, hgn_lt, hgn_le, if_true, if_false, reduceIte, Nat.not_lt_zero, hgn_add, hgn_mul, Nat.reduceMul, Nd]
    rw [← hMe]
    simp (maxDischargeDepth := 7) only [hgM_t, hgM_f, hgM_n, hgx_aload_n_0, hgx_sipush_900, hgx_iconst_m1, hgx_put0, hgx_sipush_20187, hgx_bipush_8, hgx_bipush_10, hgx_vret, hgv122_0, hgr122_0, hgu122_0, hgx_put2, hgI_SI, hgI_SJ, hgJ_SI, hgJ_SJ, if_true, if_false, reduceIte, Nat.reduceEqDiff, hgWf_SI, hgWf_SJ, hgO_SI, hgO_SJ, hgAr_SI, hgAr_SJ, hgRp_SI, hgRp_SJ, hgN_SI, hgN_SJ, hgO_g, hgO_d, hgO_rl, hgO_r, hgO_0, hgO_1, hgO_64, hgO_298, hgO_300, hgCd_0, hgCd_1, hgCd_2, hgCd_3, hgCd_4, hgCd_5, hgRecv_O, hgRecv_99, List.length_cons, List.length_nil, Nat.zero_add, Nat.add_zero, Nat.le_refl, Nat.zero_le, and_self, or_true, true_or, true_and, and_true, ne_eq, not_false_eq_true, Nat.reduceLT, Nat.reduceLeDiff, Nat.reduceAdd, Nat.reduceEqDiff, hgn_eq, hgn_lt, hgn_le, if_true, if_false, reduceIte, Nat.not_lt_zero, hgn_add, hgn_mul, Ne, o4, l4]
    rw [← hMf]
    simp (maxDischargeDepth := 7) only [hgM_t, hgM_f, hgM_n, hgx_aload_n_0, hgx_sipush_900, hgx_iconst_m1, hgx_put0, hgx_sipush_20187, hgx_bipush_8, hgx_bipush_10, hgx_vret, hgv122_0, hgr122_0, hgu122_0, hgx_newa shf, hgx_put2, hgI_SI, hgI_SJ, hgJ_SI, hgJ_SJ, if_true, if_false, reduceIte, Nat.reduceEqDiff, hgWf_SI, hgWf_SJ, hgO_SI, hgO_SJ, hgAr_SI, hgAr_SJ, hgRp_SI, hgRp_SJ, hgN_SI, hgN_SJ, hgO_g, hgO_d, hgO_rl, hgO_r, hgO_0, hgO_1, hgO_64, hgO_298, hgO_300, hgCd_0, hgCd_1, hgCd_2, hgCd_3, hgCd_4, hgCd_5, hgRecv_O, hgRecv_99, List.length_cons, List.length_nil, Nat.zero_add, Nat.add_zero, Nat.le_refl, Nat.zero_le, and_self, or_true, true_or, true_and, and_true, ne_eq, not_false_eq_true, Nat.reduceLT, Nat.reduceLeDiff, Nat.reduceAdd, Nat.reduceEqDiff, hgn_eq, hgn_lt, hgn_le, if_true, if_false, reduceIte, Nat.not_lt_zero, hgn_add, hgn_mul, Nf, o5, l5]
    rw [← hMg]
    simp (maxDischargeDepth := 7) only [hgM_t, hgM_f, hgM_n, hgx_aload_n_0, hgx_sipush_900, hgx_iconst_m1, hgx_put0, hgx_sipush_20187, hgx_bipush_8, hgx_bipush_10, hgx_vret, hgv122_0, hgr122_0, hgu122_0, hgx_newa shg, hgx_put2, hgI_SI, hgI_SJ, hgJ_SI, hgJ_SJ, if_true, if_false, reduceIte, Nat.reduceEqDiff, hgWf_SI, hgWf_SJ, hgO_SI, hgO_SJ, hgAr_SI, hgAr_SJ, hgRp_SI, hgRp_SJ, hgN_SI, hgN_SJ, hgO_g, hgO_d, hgO_rl, hgO_r, hgO_0, hgO_1, hgO_64, hgO_298, hgO_300, hgCd_0, hgCd_1, hgCd_2, hgCd_3, hgCd_4, hgCd_5, hgRecv_O, hgRecv_99, List.length_cons, List.length_nil, Nat.zero_add, Nat.add_zero, Nat.le_refl, Nat.zero_le, and_self, or_true, true_or, true_and, and_true, ne_eq, not_false_eq_true, Nat.reduceLT, Nat.reduceLeDiff, Nat.reduceAdd, Nat.reduceEqDiff, hgn_eq, hgn_lt, hgn_le, if_true, if_false, reduceIte, Nat.not_lt_zero, hgn_add, hgn_mul, Ng, o6, l6]
    rw [← hMh]
    simp (maxDischargeDepth := 7) only [hgM_t, hgM_f, hgM_n, hgx_aload_n_0, hgx_sipush_900, hgx_iconst_m1, hgx_put0, hgx_sipush_20187, hgx_bipush_8, hgx_bipush_10, hgx_vret, hgv122_0, hgr122_0, hgu122_0, hgx_multi shh shh2, hgx_put2, hgI_SI, hgI_SJ, hgJ_SI, hgJ_SJ, if_true, if_false, reduceIte, Nat.reduceEqDiff, hgWf_SI, hgWf_SJ, hgO_SI, hgO_SJ, hgAr_SI, hgAr_SJ, hgRp_SI, hgRp_SJ, hgN_SI, hgN_SJ, hgO_g, hgO_d, hgO_rl, hgO_r, hgO_0, hgO_1, hgO_64, hgO_298, hgO_300, hgCd_0, hgCd_1, hgCd_2, hgCd_3, hgCd_4, hgCd_5, hgRecv_O, hgRecv_99, List.length_cons, List.length_nil, Nat.zero_add, Nat.add_zero, Nat.le_refl, Nat.zero_le, and_self, or_true, true_or, true_and, and_true, ne_eq, not_false_eq_true, Nat.reduceLT, Nat.reduceLeDiff, Nat.reduceAdd, Nat.reduceEqDiff, hgn_eq, hgn_lt, hgn_le, if_true, if_false, reduceIte, Nat.not_lt_zero, hgn_add, hgn_mul, Nat.reduceMul, Nh]
    rw [← hMi]
    simp (maxDischargeDepth := 7) only [hgM_t, hgM_f, hgM_n, hgx_aload_n_0, hgx_sipush_900, hgx_iconst_m1, hgx_put0, hgx_sipush_20187, hgx_bipush_8, hgx_bipush_10, hgx_vret, hgv122_0, hgr122_0, hgu122_0, hgx_put2, hgI_SI, hgI_SJ, hgJ_SI, hgJ_SJ, if_true, if_false, reduceIte, Nat.reduceEqDiff, hgWf_SI, hgWf_SJ, hgO_SI, hgO_SJ, hgAr_SI, hgAr_SJ, hgRp_SI, hgRp_SJ, hgN_SI, hgN_SJ, hgO_g, hgO_d, hgO_rl, hgO_r, hgO_0, hgO_1, hgO_64, hgO_298, hgO_300, hgCd_0, hgCd_1, hgCd_2, hgCd_3, hgCd_4, hgCd_5, hgRecv_O, hgRecv_99, List.length_cons, List.length_nil, Nat.zero_add, Nat.add_zero, Nat.le_refl, Nat.zero_le, and_self, or_true, true_or, true_and, and_true, ne_eq, not_false_eq_true, Nat.reduceLT, Nat.reduceLeDiff, Nat.reduceAdd, Nat.reduceEqDiff, hgn_eq, hgn_lt, hgn_le, if_true, if_false, reduceIte, Nat.not_lt_zero, hgn_add, hgn_mul, Ni, o7, l7]
  · rw [(Di 305 (by omega) j).2.2, if_neg (by omega), (Dh 305 (by omega) j).2.2, if_neg (by omega), (Dg 305 (by omega) j).2.2, if_neg (by omega), hMf, hgR_SR, if_neg (by omega), x4, if_pos ⟨rfl, hj⟩]
  · rw [hgR_SR, if_neg (by omega), z4, if_pos ⟨rfl, hj⟩]
  · rw [(Di 302 (by omega) k).1, (Dh 302 (by omega) k).1, (Dg 302 (by omega) k).1, (De 302 (by omega) k).1, (Dd 302 (by omega) k).1, (Dc 302 (by omega) k).1, hMb]
    show hgI (hgNew Ma) 302 k = _
    rw [hgNw_I, if_pos (by omega)]
set_option maxRecDepth 100000 in
/-- the law's beginning: from nothing to the loop's head -/
theorem hg_begin : ∃ M k1 k2, hgW X 227 0 [some (.ref 2000), none, none, none, none, none, none, none] [] (0, 0) hgM0 = hgW X 227 23 [some (.ref 2000), some (.ref 0), some (.ref 300), some (.ref 325), some (.int (nI (6 * 0))), none, none, none] [] (k1, k2) M ∧ hgInv M 0 ∧ k1 ≤ 400 + 4 * 0 ∧ k2 ≤ 300000 + 24 * 0 := by
  have N0 : hgM0.1 = 0 := rfl
  have sh0 : hgSh hgM0.1 = (7, 7) := rfl
  have o0 : hgO (hgNew hgM0) 0 7 := ⟨by rw [hgNw_1, N0]; omega, rfl⟩
  obtain ⟨M1, e1, n1, r00, r03, r04, r05, r06, i01, i02, r10, r11, r12, i13, g6, g35, r640, h8, i641, i642, r2980, r2985, r2988⟩ := hgk_82 (X := X) (M := hgNew hgM0) (by rw [hgNw_1, N0]) (fun k => by rw [hgNw_I, N0]; rfl)
  have sh1 : hgSh M1.1 = (8, 18) := by rw [n1]; rfl
  have o1 : hgO (hgNew M1) 300 8 := ⟨by rw [hgNw_1]; omega, rfl⟩
  obtain ⟨M2, e2, n2, b2, s1, s8, s9, s10, s11, s12, s13, s14, t5, t6, z300, z7, z302⟩ := hgk_122 (X := X) (M := hgNew M1) (by rw [hgNw_1]; omega) (fun k => by rw [hgNw_I, if_pos (by omega)])
  have sh2 : hgSh M2.1 = (21, 1) := by rw [n2]; rfl
  have B1 : hgBw 300 M1 M2 := hgBw_t (hgBw_new (by omega)) b2
  have B2 : hgBw 325 M2 (hgNew M2) := hgBw_new (by omega)
  have low : ∀ b, b < 300 → ∀ k, hgI (hgNew M2) b k = hgI M1 b k ∧ hgR (hgNew M2) b k = hgR M1 b k := fun b hb k => ⟨(B2 b (by omega) k).1.trans (B1 b hb k).1, (B2 b (by omega) k).2.2.trans (B1 b hb k).2.2⟩
  have mid : ∀ b, b < 325 → ∀ k, hgI (hgNew M2) b k = hgI M2 b k ∧ hgR (hgNew M2) b k = hgR M2 b k := fun b hb k => ⟨(B2 b hb k).1, (B2 b hb k).2.2⟩
  have gk : ∀ g, hgGw g → hgGk M1 g := fun g hg => by
    rcases hg with e | e | ⟨q1, q2, q3⟩
    · rw [e]; exact g6
    · rw [e]; exact g35
    · obtain ⟨j, hj, e⟩ : ∃ j, j < 8 ∧ g = 66 + 29 * j := ⟨(g - 66) / 29, by omega, by omega⟩
      rw [e]
      exact (h8 j hj).2
  have wf : hgWf (hgNew M2) := by
    refine ⟨by rw [hgNw_1]; omega, fun g hg => ?_, ⟨?_, ?_, ?_, ?_, ?_⟩, ⟨?_, ?_, ?_⟩, ⟨?_, fun j hj => ?_⟩, ⟨?_, ?_, ?_⟩, ⟨?_, ?_, ?_, ?_, ?_, ?_, ?_, ?_⟩, fun j hj => ?_, fun j hj => ?_, fun g hg i j hi hj hij => ?_⟩
    · obtain ⟨a1, a2, a3, a4, a5, a6, a7, a8, a9, a10, a11, a12⟩ := gk g hg
      have hg2 := hgGw_le hg
      have hg3 := hg
      unfold hgGw at hg3
      exact ⟨by rw [(low _ (by omega) _).2]; exact a1, by rw [(low _ (by omega) _).2]; exact a2, by rw [(low _ (by omega) _).2]; exact a3, by rw [(low _ (by omega) _).2]; exact a4, by rw [(low _ (by omega) _).2]; exact a5, by rw [(low _ (by omega) _).2]; exact a6, by rw [(low _ (by omega) _).2]; exact a7, fun j hj => by rw [(low _ (by omega) _).2]; exact a8 j hj, fun j hj => ⟨g + 14 + j, by rw [(low _ (by omega) _).2]; exact a9 j hj, by omega, by omega⟩⟩
    · rw [(low _ (by omega) _).2]; exact r00
    · rw [(low _ (by omega) _).2]; exact r03
    · rw [(low _ (by omega) _).2]; exact r04
    · rw [(low _ (by omega) _).2]; exact r05
    · rw [(low _ (by omega) _).2]; exact r06
    · rw [(low _ (by omega) _).2]; exact r10
    · rw [(low _ (by omega) _).2]; exact r11
    · rw [(low _ (by omega) _).2]; exact r12
    · rw [(low _ (by omega) _).2]; exact r640
    · rw [(low _ (by omega) _).2]; exact (h8 j hj).1
    · rw [(low _ (by omega) _).2]; exact r2980
    · rw [(low _ (by omega) _).2]; exact r2985
    · rw [(low _ (by omega) _).2]; exact r2988
    · rw [(mid _ (by omega) _).2]; exact s1
    · rw [(mid _ (by omega) _).2]; exact s8
    · rw [(mid _ (by omega) _).2]; exact s9
    · rw [(mid _ (by omega) _).2]; exact s10
    · rw [(mid _ (by omega) _).2]; exact s11
    · rw [(mid _ (by omega) _).2]; exact s12
    · rw [(mid _ (by omega) _).2]; exact s13
    · rw [(mid _ (by omega) _).2]; exact s14
    · rw [(mid _ (by omega) _).2]; exact t5 j hj
    · rw [(mid _ (by omega) _).2]; exact t6 j hj
    · obtain ⟨a1, a2, a3, a4, a5, a6, a7, a8, a9, a10, a11, a12⟩ := gk g hg
      have hg2 := hgGw_le hg
      rw [(low _ (by omega) _).2, (low _ (by omega) _).2, a9 i hi, a9 j hj] at hij
      have : g + 14 + i = g + 14 + j := by injection hij
      omega
  have vk : hgVok hgV0 0 := ⟨Nat.zero_le _, Nat.zero_le _, Nat.zero_le _, fun i hi => absurd hi (Nat.not_lt_zero _), fun j hj => absurd hj (Nat.not_lt_zero _), fun _ q _ => ⟨rfl, rfl⟩, ⟨0, by omega, rfl⟩, fun j hj => absurd hj (Nat.not_lt_zero _), by omega⟩
  obtain ⟨a1, a2, a3, a4, a5, a6, a7, a8, a9, a10, a11, a12⟩ := g6
  have cv : hgCV (hgNew M2) 6 hgV0 := by
    have e : ∀ k, hgI (hgNew M2) 6 k = nI 0 := fun k => by rw [(low _ (by omega) _).1]; exact a10 k
    refine ⟨Or.inl rfl, e 6, by rw [(low _ (by omega) _).1]; exact a11 1, e 9, e 12, e 2, e 3, e 4, e 13, e 14, e 15, fun i hi => absurd hi (Nat.not_lt_zero _), fun j hj => absurd hj (Nat.not_lt_zero _), fun j hj => absurd hj (Nat.not_lt_zero _), fun q hq => ⟨?_, ?_⟩, Or.inl (e 1), ⟨fun _ => rfl, fun _ => e 1⟩⟩
    · rw [(low _ (by omega) _).1]; exact (a12 q).1
    · rw [(low _ (by omega) _).1]; exact (a12 q).2
  have rv : hgRV (hgNew M2) 302 314 hgV0 := by
    have e : ∀ k, hgI (hgNew M2) 302 k = nI 0 := fun k => by rw [(mid _ (by omega) _).1]; exact z302 k
    exact ⟨hgAr_302 wf, by omega, hgAr_314 wf, e 0, e 1, e 2, fun k _ _ => e k, fun i hi => absurd hi (Nat.not_lt_zero _), fun j hj => absurd hj (Nat.not_lt_zero _), fun j hj => absurd hj (Nat.not_lt_zero _), fun q hq => Or.inl ⟨e _, rfl, rfl⟩⟩
  refine ⟨hgNew M2, 326, 228204, ?_, ⟨hgV0, [], 0, by omega, ⟨wf, by rw [(low _ (by omega) _).1]; exact i13, cv, by simp, vk, (fun W hW => by cases hW), 0, by omega, by rw [(low _ (by omega) _).1]; exact i641, by rw [(low _ (by omega) _).1]; exact i642, fun k hk => absurd hk (Nat.not_lt_zero _)⟩, ⟨wf, rv, by simp, vk, (fun W hW => by cases hW), by rw [(mid _ (by omega) _).1]; exact z300 15 (by omega), fun j hj => absurd hj (Nat.not_lt_zero _)⟩, ⟨fun a ha => absurd ha (Nat.not_lt_zero _), fun a ha => absurd ha (Nat.not_lt_zero _), 0, by omega, rfl⟩, 0, by omega, by rw [(low _ (by omega) _).1]; exact i01, by rw [(mid _ (by omega) _).1]; exact z300 2 (by omega), by rw [(low _ (by omega) _).1, (mid _ (by omega) _).1, i02, z7], fun j hj => absurd hj (Nat.not_lt_zero _)⟩, by omega, by omega⟩
  rw [hgu227_0]
  simp (maxDischargeDepth := 7) only [hgr227_0, hgx_dup_r, hgx_invspecial_1, hgx_aft_v, hgx_astore_n_1r, hgx_astore_n_1n, hgx_astore_n_2r, hgx_astore_n_2n, hgx_astore_n_3r, hgx_astore_n_3n, hgx_iconst_1, hgx_iconst_0, hgx_istore_4r, hgx_istore_4n, ← hgu227_23, hgx_new sh0, hgx_new sh1, hgx_newa sh2, hgI_SI, hgI_SJ, hgJ_SI, hgJ_SJ, if_true, if_false, reduceIte, Nat.reduceEqDiff, hgWf_SI, hgWf_SJ, hgO_SI, hgO_SJ, hgAr_SI, hgAr_SJ, hgRp_SI, hgRp_SJ, hgN_SI, hgN_SJ, hgO_g, hgO_d, hgO_rl, hgO_r, hgO_0, hgO_1, hgO_64, hgO_298, hgO_300, hgCd_0, hgCd_1, hgCd_2, hgCd_3, hgCd_4, hgCd_5, hgRecv_O, hgRecv_99, List.length_cons, List.length_nil, Nat.zero_add, Nat.add_zero, Nat.le_refl, Nat.zero_le, and_self, or_true, true_or, true_and, and_true, ne_eq, not_false_eq_true, Nat.reduceLT, Nat.reduceLeDiff, Nat.reduceAdd, Nat.reduceEqDiff, hgn_eq, hgn_lt, hgn_le, if_true, if_false, reduceIte, Nat.not_lt_zero, N0, o0, e1, n1, o1, e2, n2]
end HGST4
/-- all that is left: load and fairness -/
theorem hg_pure2 (hld : ∀ X, hgLd X) (hfa : ∀ X, hgFa X) : hgPure := by
  intro L xs hL
  obtain ⟨M, k1, k2, e, inv, b1, b2⟩ := hg_begin (X := (L, xs))
  obtain ⟨M1, e1⟩ := hgLoop (X := (L, xs)) (hld _) (hfa _) hL L 0 M k1 k2 (by omega) (by omega) inv b1 b2
  rw [e1] at e
  obtain ⟨n, hn⟩ := hgW_iff.mp e
  exact ⟨n, M1, hn⟩

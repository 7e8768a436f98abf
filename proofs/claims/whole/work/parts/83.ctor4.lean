/-! THE START: both objects are made. -/
section HGCT4
variable {X : hgX} {M M' M1 M2 : hgMem} {a b c n g i j k : Nat}
set_option maxRecDepth 100000 in
theorem hgk_82 (hN : M.1 = 1) (hz : ∀ k, hgI M 0 k = nI 0) : ∃ M', hgWC X 82 [.ref 0] M = some (.inl .null, M') ∧ M'.1 = 300 ∧ hgR M' 0 0 = some 5 ∧ hgR M' 0 3 = some 6 ∧ hgR M' 0 4 = some 35 ∧ hgR M' 0 5 = some 64 ∧ hgR M' 0 6 = some 298 ∧ hgI M' 0 1 = nI 0 ∧ hgI M' 0 2 = -1 ∧ hgR M' 1 0 = some 2 ∧ hgR M' 1 1 = some 3 ∧ hgR M' 1 2 = some 4 ∧ hgI M' 1 3 = nI 0 ∧ hgGk M' 6 ∧ hgGk M' 35 ∧ hgR M' 64 0 = some 65 ∧ (∀ j, j < 8 → hgR M' 65 j = some (66 + 29 * j) ∧ hgGk M' (66 + 29 * j)) ∧ hgI M' 64 1 = nI 0 ∧ hgI M' 64 2 = nI 0 ∧ hgR M' 298 0 = some 5 ∧ hgR M' 298 5 = some 35 ∧ hgR M' 298 8 = some 299 := by
  have sh0 : hgSh M.1 = (3, 4) := by rw [hN]; rfl
  have o1 : hgO (hgNew M) 1 3 := ⟨by rw [hgNw_1]; omega, rfl⟩
  obtain ⟨M1, e1, n1, b1, r10, r11, r12, z1⟩ := hgk_34 (X := X) (M := hgNew M) (by rw [hgNw_1]; omega)
  have sh1 : hgSh M1.1 = (22, 900) := by rw [n1]; rfl
  have oa : ∀ Q : hgMem, 0 < Q.1 → hgO Q 0 7 := fun Q h => ⟨h, rfl⟩
  have o0a := oa (hgNew M1) (by rw [hgNw_1]; omega)
  have l5 : 5 < (hgNew M1).1 := by rw [hgNw_1]; omega
  obtain ⟨Mb, hMb⟩ : ∃ Mb, Mb = hgSI (hgSI (hgSR (hgNew M1) 0 0 5) 0 1 (nI 0)) 0 2 (-1) := ⟨_, rfl⟩
  have o0b : hgO (hgSR (hgNew M1) 0 0 5) 0 7 := o0a
  have Nb : Mb.1 = 6 := by rw [hMb]; show (hgNew M1).1 = _; rw [hgNw_1]; omega
  have g6 : hgGw 6 := Or.inl rfl
  have g35 : hgGw 35 := Or.inr (Or.inl rfl)
  have shb : hgSh Mb.1 = (1, 16) := by rw [Nb]; rfl
  have o6 : hgO (hgNew Mb) 6 1 := ⟨by rw [hgNw_1]; omega, rfl⟩
  obtain ⟨M2, e2, n2, b2, k2⟩ := hgk_8 (X := X) (M := hgNew Mb) g6 (by rw [hgNw_1]; omega) (fun k => by rw [hgNw_I, if_pos Nb.symm])
  have o02 := oa M2 (by omega)
  have l6 : 6 < M2.1 := by omega
  obtain ⟨Md, hMd⟩ : ∃ Md, Md = hgSR M2 0 3 6 := ⟨_, rfl⟩
  have Nd : Md.1 = 35 := by rw [hMd]; exact n2
  have shd : hgSh Md.1 = (1, 16) := by rw [Nd]; rfl
  have o35 : hgO (hgNew Md) 35 1 := ⟨by rw [hgNw_1]; omega, rfl⟩
  obtain ⟨M3, e3, n3, b3, k3⟩ := hgk_8 (X := X) (M := hgNew Md) g35 (by rw [hgNw_1]; omega) (fun k => by rw [hgNw_I, if_pos Nd.symm])
  have o03 := oa M3 (by omega)
  have l35 : 35 < M3.1 := by omega
  obtain ⟨Mf, hMf⟩ : ∃ Mf, Mf = hgSR M3 0 4 35 := ⟨_, rfl⟩
  have Nf : Mf.1 = 64 := by rw [hMf]; exact n3
  have shf : hgSh Mf.1 = (2, 3) := by rw [Nf]; rfl
  have o64 : hgO (hgNew Mf) 64 2 := ⟨by rw [hgNw_1]; omega, rfl⟩
  obtain ⟨M4, e4, n4, b4, r4, h4, z4⟩ := hgk_31 (X := X) (M := hgNew Mf) (by rw [hgNw_1]; omega)
  have o04 := oa M4 (by omega)
  have l64 : 64 < M4.1 := by omega
  obtain ⟨Mh, hMh⟩ : ∃ Mh, Mh = hgSR M4 0 5 64 := ⟨_, rfl⟩
  have Nh : Mh.1 = 298 := by rw [hMh]; exact n4
  have shh : hgSh Mh.1 = (6, 11) := by rw [Nh]; rfl
  have o298 : hgO (hgNew Mh) 298 6 := ⟨by rw [hgNw_1]; omega, rfl⟩
  obtain ⟨M5, e5, n5, b5, r50, r55, r58⟩ := hgk_60 (X := X) (M := hgNew Mh) (by rw [hgNw_1]; omega)
  have o05 := oa M5 (by omega)
  have l298 : 298 < M5.1 := by omega
  have D2 : ∀ b, b < 6 → ∀ k, hgI M2 b k = hgI Mb b k ∧ hgR M2 b k = hgR Mb b k := fun b hb k => ⟨(b2 b hb k).1.trans (by rw [hgNw_I, if_neg (by omega)]), (b2 b hb k).2.2.trans (by rw [hgNw_R, if_neg (by omega)])⟩
  have D3 : ∀ b, b < 35 → ∀ k, hgI M3 b k = hgI M2 b k ∧ hgR M3 b k = (if b = 0 ∧ k = 3 then some 6 else hgR M2 b k) := fun b hb k => by
    refine ⟨(b3 b hb k).1.trans (by rw [hgNw_I, if_neg (by omega), hMd]; rfl), (b3 b hb k).2.2.trans ?_⟩
    rw [hgNw_R, if_neg (by omega), hMd, hgR_SR]
    by_cases e : b = 0
    · by_cases e2 : k = 3
      · rw [if_pos e, if_pos e2, if_pos ⟨e, e2⟩]
      · rw [if_pos e, if_neg e2, if_neg (fun w => e2 w.2)]
    · rw [if_neg e, if_neg (fun w => e w.1)]
  have D4 : ∀ b, b < 64 → ∀ k, hgI M4 b k = hgI M3 b k ∧ hgR M4 b k = (if b = 0 ∧ k = 4 then some 35 else hgR M3 b k) := fun b hb k => by
    refine ⟨(b4 b hb k).1.trans (by rw [hgNw_I, if_neg (by omega), hMf]; rfl), (b4 b hb k).2.2.trans ?_⟩
    rw [hgNw_R, if_neg (by omega), hMf, hgR_SR]
    by_cases e : b = 0
    · by_cases e2 : k = 4
      · rw [if_pos e, if_pos e2, if_pos ⟨e, e2⟩]
      · rw [if_pos e, if_neg e2, if_neg (fun w => e2 w.2)]
    · rw [if_neg e, if_neg (fun w => e w.1)]
  have D5 : ∀ b, b < 298 → ∀ k, hgI (hgSR M5 0 6 298) b k = hgI M4 b k ∧ hgR (hgSR M5 0 6 298) b k = (if b = 0 ∧ k = 6 then some 298 else if b = 0 ∧ k = 5 then some 64 else hgR M4 b k) := fun b hb k => by
    refine ⟨(b5 b hb k).1.trans (by rw [hgNw_I, if_neg (by omega), hMh]; rfl), ?_⟩
    rw [hgR_SR, (b5 b hb k).2.2, hgNw_R, if_neg (show b ≠ Mh.1 by omega), hMh, hgR_SR]
    by_cases e : b = 0 <;> by_cases e2 : k = 6 <;> by_cases e3 : k = 5 <;> simp [e, e2, e3]
  have R0 : ∀ k, hgR (hgSR M5 0 6 298) 0 k = if k = 6 then some 298 else if k = 5 then some 64 else if k = 4 then some 35 else if k = 3 then some 6 else hgR Mb 0 k := fun k => by
    rw [(D5 0 (by omega) k).2, (D4 0 (by omega) k).2, (D3 0 (by omega) k).2, (D2 0 (by omega) k).2]
    simp only [true_and]
  have Rb : hgR Mb 0 0 = some 5 := by
    rw [hMb]
    show hgR (hgSR (hgNew M1) 0 0 5) 0 0 = _
    rw [hgR_SR, if_pos rfl, if_pos rfl]
  have L1 : ∀ k, hgI (hgSR M5 0 6 298) 1 k = hgI M1 1 k ∧ hgR (hgSR M5 0 6 298) 1 k = hgR M1 1 k := fun k => by
    rw [(D5 1 (by omega) k).1, (D4 1 (by omega) k).1, (D3 1 (by omega) k).1, (D2 1 (by omega) k).1, (D5 1 (by omega) k).2, if_neg (by omega), if_neg (by omega), (D4 1 (by omega) k).2, if_neg (by omega), (D3 1 (by omega) k).2, if_neg (by omega), (D2 1 (by omega) k).2, hMb]
    refine ⟨?_, ?_⟩
    · rw [hgI_na (by omega), hgI_na (by omega)]
      show hgI (hgNew M1) 1 k = _
      rw [hgNw_I, if_neg (by omega)]
    · show hgR (hgSR (hgNew M1) 0 0 5) 1 k = _
      rw [hgR_SR, if_neg (by omega), hgNw_R, if_neg (by omega)]
  have oh := oa (hgNew Mh) (by rw [hgNw_1]; omega)
  have q0 : hgR (hgNew Mh) 0 0 = some 5 := by
    rw [hgNw_R, if_neg (show 0 ≠ Mh.1 by omega), hMh, hgR_SR, if_pos rfl, if_neg (by omega), (D4 0 (by omega) 0).2, if_neg (by omega), (D3 0 (by omega) 0).2, if_neg (by omega), (D2 0 (by omega) 0).2]
    exact Rb
  have q4 : hgR (hgNew Mh) 0 4 = some 35 := by
    rw [hgNw_R, if_neg (show 0 ≠ Mh.1 by omega), hMh, hgR_SR, if_pos rfl, if_neg (by omega), (D4 0 (by omega) 4).2, if_pos ⟨rfl, rfl⟩]
  have gk : ∀ (P Q : hgMem) (g : Nat), 1 ≤ g → (∀ b, g ≤ b → b < g + 29 → ∀ k, hgI Q b k = hgI P b k ∧ hgR Q b k = hgR P b k) → hgGk P g → hgGk Q g := fun P Q g hg1 o h => by
    obtain ⟨a1, a2, a3, a4, a5, a6, a7, a8, a9, a10, a11, a12⟩ := h
    exact ⟨by rw [(o _ (by omega) (by omega) 0).2]; exact a1, by rw [(o _ (by omega) (by omega) 5).2]; exact a2, by rw [(o _ (by omega) (by omega) 7).2]; exact a3, by rw [(o _ (by omega) (by omega) 8).2]; exact a4, by rw [(o _ (by omega) (by omega) 10).2]; exact a5, by rw [(o _ (by omega) (by omega) 11).2]; exact a6, by rw [(o _ (by omega) (by omega) 0).2]; exact a7, fun j2 hj => by rw [(o _ (by omega) (by omega) j2).2]; exact a8 j2 hj, fun j2 hj => by rw [(o _ (by omega) (by omega) j2).2]; exact a9 j2 hj, fun k => by rw [(o _ (by omega) (by omega) k).1]; exact a10 k, fun k => by rw [(o _ (by omega) (by omega) k).1]; exact a11 k, fun k => by rw [(o _ (by omega) (by omega) k).1, (o _ (by omega) (by omega) k).1]; exact a12 k⟩
  refine ⟨hgSR M5 0 6 298, ?_, n5, by rw [R0]; exact Rb, by rw [R0]; rfl, by rw [R0]; rfl, by rw [R0]; rfl, by rw [R0]; rfl, ?_, ?_, by rw [(L1 0).2]; exact r10, by rw [(L1 1).2]; exact r11, by rw [(L1 2).2]; exact r12, ?_, ?_, ?_, ?_, fun j hj => ⟨?_, ?_⟩, ?_, ?_, ?_, ?_, ?_⟩
  · simp (maxDischargeDepth := 7) only [hgc82, hgM_t, hgM_f, hgM_n, hgx_aload_n_0, hgx_dup_i, hgx_dup_f, hgx_dup_r, hgx_invspecial_1, hgx_aft_e, hgx_aft_i, hgx_aft_l, hgx_aft_v, hgx_astore_n_1i, hgx_astore_n_1r, hgx_astore_n_1f, hgx_astore_n_1n, hgx_astore_n_1l, hgx_sipush_900, hgx_iconst_0, hgx_put0, hgx_iconst_m1, hgx_aload_n_1, hgx_invspecial_2, hgs_get_7_0, hgs_get_7_4, hgx_invspecial_3, hgx_vret, hgv82_0, hgr82_0, hgu82_0, hgx_1005, hgx_new sh0, hgx_put2, hgI_SI, hgI_SJ, hgJ_SI, hgJ_SJ, if_true, if_false, reduceIte, Nat.reduceEqDiff, hgWf_SI, hgWf_SJ, hgO_SI, hgO_SJ, hgAr_SI, hgAr_SJ, hgRp_SI, hgRp_SJ, hgN_SI, hgN_SJ, hgO_g, hgO_d, hgO_rl, hgO_r, hgO_0, hgO_1, hgO_64, hgO_298, hgO_300, hgCd_0, hgCd_1, hgCd_2, hgCd_3, hgCd_4, hgCd_5, hgRecv_O, hgRecv_99, List.length_cons, List.length_nil, Nat.zero_add, Nat.add_zero, Nat.le_refl, Nat.zero_le, and_self, or_true, true_or, true_and, and_true, ne_eq, not_false_eq_true, Nat.reduceLT, Nat.reduceLeDiff, Nat.reduceAdd, Nat.reduceEqDiff, hgn_eq, hgn_lt, hgn_le, if_true, if_false, reduceIte, Nat.not_lt_zero, hgn_add, hgn_mul, hN, o1, e1]
    simp (maxDischargeDepth := 7) only [hgM_t, hgM_f, hgM_n, hgx_aload_n_0, hgx_dup_i, hgx_dup_f, hgx_dup_r, hgx_invspecial_1, hgx_aft_e, hgx_aft_i, hgx_aft_l, hgx_aft_v, hgx_astore_n_1i, hgx_astore_n_1r, hgx_astore_n_1f, hgx_astore_n_1n, hgx_astore_n_1l, hgx_sipush_900, hgx_iconst_0, hgx_put0, hgx_iconst_m1, hgx_aload_n_1, hgx_invspecial_2, hgs_get_7_0, hgs_get_7_4, hgx_invspecial_3, hgx_vret, hgv82_0, hgr82_0, hgu82_0, hgx_newa sh1, hgx_put2, hgI_SI, hgI_SJ, hgJ_SI, hgJ_SJ, if_true, if_false, reduceIte, Nat.reduceEqDiff, hgWf_SI, hgWf_SJ, hgO_SI, hgO_SJ, hgAr_SI, hgAr_SJ, hgRp_SI, hgRp_SJ, hgN_SI, hgN_SJ, hgO_g, hgO_d, hgO_rl, hgO_r, hgO_0, hgO_1, hgO_64, hgO_298, hgO_300, hgCd_0, hgCd_1, hgCd_2, hgCd_3, hgCd_4, hgCd_5, hgRecv_O, hgRecv_99, List.length_cons, List.length_nil, Nat.zero_add, Nat.add_zero, Nat.le_refl, Nat.zero_le, and_self, or_true, true_or, true_and, and_true, ne_eq, not_false_eq_true, Nat.reduceLT, Nat.reduceLeDiff, Nat.reduceAdd, Nat.reduceEqDiff, hgn_eq, hgn_lt, hgn_le, if_true, if_false, reduceIte, Nat.not_lt_zero, hgn_add, hgn_mul, n1, o0a, o0b, l5]
    rw [← hMb]
    simp (maxDischargeDepth := 7) only [hgM_t, hgM_f, hgM_n, hgx_aload_n_0, hgx_dup_i, hgx_dup_f, hgx_dup_r, hgx_invspecial_1, hgx_aft_e, hgx_aft_i, hgx_aft_l, hgx_aft_v, hgx_astore_n_1i, hgx_astore_n_1r, hgx_astore_n_1f, hgx_astore_n_1n, hgx_astore_n_1l, hgx_sipush_900, hgx_iconst_0, hgx_put0, hgx_iconst_m1, hgx_aload_n_1, hgx_invspecial_2, hgs_get_7_0, hgs_get_7_4, hgx_invspecial_3, hgx_vret, hgv82_0, hgr82_0, hgu82_0, hgx_new shb, hgx_put2, hgI_SI, hgI_SJ, hgJ_SI, hgJ_SJ, if_true, if_false, reduceIte, Nat.reduceEqDiff, hgWf_SI, hgWf_SJ, hgO_SI, hgO_SJ, hgAr_SI, hgAr_SJ, hgRp_SI, hgRp_SJ, hgN_SI, hgN_SJ, hgO_g, hgO_d, hgO_rl, hgO_r, hgO_0, hgO_1, hgO_64, hgO_298, hgO_300, hgCd_0, hgCd_1, hgCd_2, hgCd_3, hgCd_4, hgCd_5, hgRecv_O, hgRecv_99, List.length_cons, List.length_nil, Nat.zero_add, Nat.add_zero, Nat.le_refl, Nat.zero_le, and_self, or_true, true_or, true_and, and_true, ne_eq, not_false_eq_true, Nat.reduceLT, Nat.reduceLeDiff, Nat.reduceAdd, Nat.reduceEqDiff, hgn_eq, hgn_lt, hgn_le, if_true, if_false, reduceIte, Nat.not_lt_zero, hgn_add, hgn_mul, Nb, o6, e2, n2, o02, l6]
    rw [← hMd]
    simp (maxDischargeDepth := 7) only [hgM_t, hgM_f, hgM_n, hgx_aload_n_0, hgx_dup_i, hgx_dup_f, hgx_dup_r, hgx_invspecial_1, hgx_aft_e, hgx_aft_i, hgx_aft_l, hgx_aft_v, hgx_astore_n_1i, hgx_astore_n_1r, hgx_astore_n_1f, hgx_astore_n_1n, hgx_astore_n_1l, hgx_sipush_900, hgx_iconst_0, hgx_put0, hgx_iconst_m1, hgx_aload_n_1, hgx_invspecial_2, hgs_get_7_0, hgs_get_7_4, hgx_invspecial_3, hgx_vret, hgv82_0, hgr82_0, hgu82_0, hgx_new shd, hgx_put2, hgI_SI, hgI_SJ, hgJ_SI, hgJ_SJ, if_true, if_false, reduceIte, Nat.reduceEqDiff, hgWf_SI, hgWf_SJ, hgO_SI, hgO_SJ, hgAr_SI, hgAr_SJ, hgRp_SI, hgRp_SJ, hgN_SI, hgN_SJ, hgO_g, hgO_d, hgO_rl, hgO_r, hgO_0, hgO_1, hgO_64, hgO_298, hgO_300, hgCd_0, hgCd_1, hgCd_2, hgCd_3, hgCd_4, hgCd_5, hgRecv_O, hgRecv_99, List.length_cons, List.length_nil, Nat.zero_add, Nat.add_zero, Nat.le_refl, Nat.zero_le, and_self, or_true, true_or, true_and, and_true, ne_eq, not_false_eq_true, Nat.reduceLT, Nat.reduceLeDiff, Nat.reduceAdd, Nat.reduceEqDiff, hgn_eq, hgn_lt, hgn_le, if_true, if_false, reduceIte, Nat.not_lt_zero, hgn_add, hgn_mul, Nd, o35, e3, n3, o03, l35]
    rw [← hMf]
    simp (maxDischargeDepth := 7) only [hgM_t, hgM_f, hgM_n, hgx_aload_n_0, hgx_dup_i, hgx_dup_f, hgx_dup_r, hgx_invspecial_1, hgx_aft_e, hgx_aft_i, hgx_aft_l, hgx_aft_v, hgx_astore_n_1i, hgx_astore_n_1r, hgx_astore_n_1f, hgx_astore_n_1n, hgx_astore_n_1l, hgx_sipush_900, hgx_iconst_0, hgx_put0, hgx_iconst_m1, hgx_aload_n_1, hgx_invspecial_2, hgs_get_7_0, hgs_get_7_4, hgx_invspecial_3, hgx_vret, hgv82_0, hgr82_0, hgu82_0, hgx_new shf, hgx_put2, hgI_SI, hgI_SJ, hgJ_SI, hgJ_SJ, if_true, if_false, reduceIte, Nat.reduceEqDiff, hgWf_SI, hgWf_SJ, hgO_SI, hgO_SJ, hgAr_SI, hgAr_SJ, hgRp_SI, hgRp_SJ, hgN_SI, hgN_SJ, hgO_g, hgO_d, hgO_rl, hgO_r, hgO_0, hgO_1, hgO_64, hgO_298, hgO_300, hgCd_0, hgCd_1, hgCd_2, hgCd_3, hgCd_4, hgCd_5, hgRecv_O, hgRecv_99, List.length_cons, List.length_nil, Nat.zero_add, Nat.add_zero, Nat.le_refl, Nat.zero_le, and_self, or_true, true_or, true_and, and_true, ne_eq, not_false_eq_true, Nat.reduceLT, Nat.reduceLeDiff, Nat.reduceAdd, Nat.reduceEqDiff, hgn_eq, hgn_lt, hgn_le, if_true, if_false, reduceIte, Nat.not_lt_zero, hgn_add, hgn_mul, Nf, o64, e4, n4, o04, l64]
    rw [← hMh]
    simp (maxDischargeDepth := 7) only [hgM_t, hgM_f, hgM_n, hgx_aload_n_0, hgx_dup_i, hgx_dup_f, hgx_dup_r, hgx_invspecial_1, hgx_aft_e, hgx_aft_i, hgx_aft_l, hgx_aft_v, hgx_astore_n_1i, hgx_astore_n_1r, hgx_astore_n_1f, hgx_astore_n_1n, hgx_astore_n_1l, hgx_sipush_900, hgx_iconst_0, hgx_put0, hgx_iconst_m1, hgx_aload_n_1, hgx_invspecial_2, hgs_get_7_0, hgs_get_7_4, hgx_invspecial_3, hgx_vret, hgv82_0, hgr82_0, hgu82_0, hgx_new shh, hgx_put2, hgI_SI, hgI_SJ, hgJ_SI, hgJ_SJ, if_true, if_false, reduceIte, Nat.reduceEqDiff, hgWf_SI, hgWf_SJ, hgO_SI, hgO_SJ, hgAr_SI, hgAr_SJ, hgRp_SI, hgRp_SJ, hgN_SI, hgN_SJ, hgO_g, hgO_d, hgO_rl, hgO_r, hgO_0, hgO_1, hgO_64, hgO_298, hgO_300, hgCd_0, hgCd_1, hgCd_2, hgCd_3, hgCd_4, hgCd_5, hgRecv_O, hgRecv_99, List.length_cons, List.length_nil, Nat.zero_add, Nat.add_zero, Nat.le_refl, Nat.zero_le, and_self, or_true, true_or, true_and, and_true, ne_eq, not_false_eq_true, Nat.reduceLT, Nat.reduceLeDiff, Nat.reduceAdd, Nat.reduceEqDiff, hgn_eq, hgn_lt, hgn_le, if_true, if_false, reduceIte, Nat.not_lt_zero, hgn_add, hgn_mul, Nh, o298, hgx_get2 (b := 5) oh q0, hgx_get2 (b := 35) oh q4, e5, n5, o05, l298]
  · rw [(D5 0 (by omega) 1).1, (D4 0 (by omega) 1).1, (D3 0 (by omega) 1).1, (D2 0 (by omega) 1).1, hMb, hgI_nk (by omega), hgI_at]
  · rw [(D5 0 (by omega) 2).1, (D4 0 (by omega) 2).1, (D3 0 (by omega) 2).1, (D2 0 (by omega) 2).1, hMb, hgI_at]
  · rw [(L1 3).1, z1, hgNw_I, if_pos hN.symm]
  · exact gk M2 _ 6 (by omega) (fun b q1 q2 k => by
      rw [(D5 b (by omega) k).1, (D4 b (by omega) k).1, (D3 b (by omega) k).1, (D5 b (by omega) k).2, if_neg (by omega), if_neg (by omega), (D4 b (by omega) k).2, if_neg (by omega), (D3 b (by omega) k).2, if_neg (by omega)]
      exact ⟨rfl, rfl⟩) k2
  · exact gk M3 _ 35 (by omega) (fun b q1 q2 k => by
      rw [(D5 b (by omega) k).1, (D4 b (by omega) k).1, (D5 b (by omega) k).2, if_neg (by omega), if_neg (by omega), (D4 b (by omega) k).2, if_neg (by omega)]
      exact ⟨rfl, rfl⟩) k3
  · rw [(D5 64 (by omega) 0).2, if_neg (by omega), if_neg (by omega)]; exact r4
  · rw [(D5 65 (by omega) j).2, if_neg (by omega), if_neg (by omega)]; exact (h4 j hj).1
  · exact gk M4 _ (66 + 29 * j) (by omega) (fun b q1 q2 k => by
      rw [(D5 b (by omega) k).1, (D5 b (by omega) k).2, if_neg (by omega), if_neg (by omega)]
      exact ⟨rfl, rfl⟩) (h4 j hj).2
  · rw [(D5 64 (by omega) 1).1, z4, hgNw_I, if_pos Nf.symm]
  · rw [(D5 64 (by omega) 2).1, z4, hgNw_I, if_pos Nf.symm]
  · rw [hgR_SR, if_neg (by omega)]; exact r50
  · rw [hgR_SR, if_neg (by omega)]; exact r55
  · rw [hgR_SR, if_neg (by omega)]; exact r58
end HGCT4

/-! CONSTRUCTORS of gateways. -/
/-- a gateway as it is made -/
def hgGk (M : hgMem) (g : Nat) : Prop := hgR M g 0 = some 1 ∧ hgR M g 5 = some (g + 1) ∧ hgR M g 7 = some (g + 12) ∧ hgR M g 8 = some (g + 26) ∧ hgR M g 10 = some (g + 27) ∧ hgR M g 11 = some (g + 28) ∧ hgR M (g + 12) 0 = some (g + 13) ∧ (∀ j, j < 10 → hgR M (g + 1) j = some (g + 2 + j)) ∧ (∀ j, j < 12 → hgR M (g + 13) j = some (g + 14 + j)) ∧ (∀ k, hgI M g k = nI 0) ∧ (∀ k, hgI M (g + 12) k = nI 0) ∧ ∀ k, hgI M (g + 27) k = nI 0 ∧ hgI M (g + 28) k = nI 0
section HGCT2
variable {X : hgX} {L : hgL} {S : List Value} {K : hgK} {M M' M1 M2 : hgMem} {x y : Int32} {a b c ci n w idx g i j k kr N : Nat} {v1 : Option Value}
theorem hgGk_b (h : hgGk M g) (hb : hgBw (g + 29) M M') : hgGk M' g := by
  obtain ⟨a1, a2, a3, a4, a5, a6, a7, a8, a9, a10, a11, a12⟩ := h
  refine ⟨by rw [(hb g (by omega) 0).2.2]; exact a1, by rw [(hb g (by omega) 5).2.2]; exact a2, by rw [(hb g (by omega) 7).2.2]; exact a3, by rw [(hb g (by omega) 8).2.2]; exact a4, by rw [(hb g (by omega) 10).2.2]; exact a5, by rw [(hb g (by omega) 11).2.2]; exact a6, by rw [(hb (g + 12) (by omega) 0).2.2]; exact a7, fun j hj => by rw [(hb (g + 1) (by omega) j).2.2]; exact a8 j hj, fun j hj => by rw [(hb (g + 13) (by omega) j).2.2]; exact a9 j hj, fun k => by rw [(hb g (by omega) k).1]; exact a10 k, fun k => by rw [(hb (g + 12) (by omega) k).1]; exact a11 k, fun k => by rw [(hb (g + 27) (by omega) k).1, (hb (g + 28) (by omega) k).1]; exact a12 k⟩
theorem hgk_47 (hg : hgGw g) (hN : M.1 = g + 13) : ∃ M', hgWC X 47 [.ref (g + 12)] M = some (.inl .null, M') ∧ M'.1 = g + 26 ∧ hgBw (g + 12) M M' ∧ hgR M' (g + 12) 0 = some (g + 13) ∧ (∀ j, j < 12 → hgR M' (g + 13) j = some (g + 14 + j)) ∧ ∀ k, hgI M' (g + 12) k = hgI M (g + 12) k := by
  have hg2 := hgGw_le hg
  have sh : hgSh M.1 = (25, 12) := by rw [hN, hgSh_g hg (by omega)]; rfl
  have o12 : hgO (hgNew M) (g + 12) 5 := ⟨by rw [hgNw_1]; omega, by rw [hgSh_g hg (by omega)]; rfl⟩
  have l13 : g + 13 < (hgNew M).1 := by rw [hgNw_1]; omega
  have l12 : g + 12 < g + 13 := by omega
  obtain ⟨M', e, n1, n2, n3, n4⟩ := hgk_47l (X := X) hg 12 0 (hgSR (hgNew M) (g + 12) 0 (g + 13)) 1 12 (by omega) (by show (hgNew M).1 = _; rw [hgNw_1]; omega) (by rw [hgR_SR, if_pos rfl, if_pos rfl]) (by omega) (by omega)
  refine ⟨M', ?_, n1, hgBw_t (hgBw_t (hgBw_new (by omega)) (hgBw_SR (by omega))) (hgBw_m n2 (by omega)), ?_, fun j hj => n3 j (by omega) hj, fun k => ?_⟩
  · simp (maxDischargeDepth := 7) only [hgc47, hgM_t, hgM_f, hgM_n, hgx_aload_n_0, hgx_bipush_12, hgx_iconst_0, hgx_istore_n_1i, hgx_istore_n_1r, hgx_istore_n_1f, hgx_istore_n_1n, hgx_istore_n_1l, hgx_iload_n_1, hgx_ic_ge, hgs_get_5_0, hgx_dup_i, hgx_dup_f, hgx_dup_r, hgx_invspecial_1, hgx_aft_e, hgx_aft_i, hgx_aft_l, hgx_aft_v, hgx_iinc_1_1, hgx_goto, hgx_vret, hgv47_0, hgr47_0, hgu47_0, hgv47_15, ← hgu47_15, hgv47_40, hgr47_40, hgu47_40, hgx_1005, hgx_anew sh, hgx_put2, hgI_SI, hgI_SJ, hgJ_SI, hgJ_SJ, if_true, if_false, reduceIte, Nat.reduceEqDiff, hgWf_SI, hgWf_SJ, hgO_SI, hgO_SJ, hgAr_SI, hgAr_SJ, hgRp_SI, hgRp_SJ, hgN_SI, hgN_SJ, hgO_g, hgO_d, hgO_rl, hgO_r, hgO_0, hgO_1, hgO_64, hgO_298, hgO_300, hgCd_0, hgCd_1, hgCd_2, hgCd_3, hgCd_4, hgCd_5, hgRecv_O, hgRecv_99, List.length_cons, List.length_nil, Nat.zero_add, Nat.add_zero, Nat.le_refl, Nat.zero_le, and_self, or_true, true_or, true_and, and_true, ne_eq, not_false_eq_true, Nat.reduceLT, Nat.reduceLeDiff, Nat.reduceAdd, Nat.reduceEqDiff, hgn_eq, hgn_lt, hgn_le, if_true, if_false, reduceIte, Nat.not_lt_zero, hgn_add, hgn_mul, l12, hN, o12, l13]
    exact e
  · rw [(n2 (g + 12) (by omega) 0).2.2, hgR_SR, if_pos rfl, if_pos rfl]
  · rw [(n2 (g + 12) (by omega) k).1]
    show hgI (hgNew M) (g + 12) k = _
    rw [hgNw_I, if_neg (by omega)]
theorem hgk_8l (hg : hgGw g) : ∀ (q i : Nat) (M : hgMem) (K1 K2 : Nat) (v1 : Option Value), i + q = 10 → M.1 = g + 2 + i → hgR M g 5 = some (g + 1) → K1 + q ≤ 11 → K2 + 15 * q ≤ 160 → ∃ M', hgW X 8 20 [some (.ref g), v1, some (.int (nI i))] [] (K1, K2) M = hgW X 8 45 [some (.ref g), none, none] [] (K1 + q, K2 + 15 * q) M' ∧ M'.1 = g + 12 ∧ hgBw (g + 1) M M' ∧ (∀ j, i ≤ j → j < 10 → hgR M' (g + 1) j = some (g + 2 + j)) ∧ ∀ j, j < i → hgR M' (g + 1) j = hgR M (g + 1) j := by
  intro q
  have hg2 := hgGw_le hg
  induction q with
  | zero =>
    intro i M K1 K2 v1 hi hN hR h1 h2
    have h3 : i < 2147483648 := by omega
    have h4 : 10 ≤ i := by omega
    refine ⟨M, ?_, by omega, hgBw_r, fun j j1 j2 => by omega, fun _ _ => rfl⟩
    rw [hgu8_20]
    simp (maxDischargeDepth := 7) only [hgx_iload_n_2, hgx_bipush_10, hgx_ic_ge, hgr8_20, hgv8_45, hgM_t, hgM_f, hgM_n, hgI_SI, hgI_SJ, hgJ_SI, hgJ_SJ, if_true, if_false, reduceIte, Nat.reduceEqDiff, hgWf_SI, hgWf_SJ, hgO_SI, hgO_SJ, hgAr_SI, hgAr_SJ, hgRp_SI, hgRp_SJ, hgN_SI, hgN_SJ, hgO_g, hgO_d, hgO_rl, hgO_r, hgO_0, hgO_1, hgO_64, hgO_298, hgO_300, hgCd_0, hgCd_1, hgCd_2, hgCd_3, hgCd_4, hgCd_5, hgRecv_O, hgRecv_99, List.length_cons, List.length_nil, Nat.zero_add, Nat.add_zero, Nat.le_refl, Nat.zero_le, and_self, or_true, true_or, true_and, and_true, ne_eq, not_false_eq_true, Nat.reduceLT, Nat.reduceLeDiff, Nat.reduceAdd, Nat.reduceEqDiff, hgn_eq, hgn_lt, hgn_le, if_true, if_false, reduceIte, Nat.not_lt_zero, h3, h4, Nat.mul_zero]
  | succ q ih =>
    intro i M K1 K2 v1 hi hN hR h1 h2
    have h3 : i < 2147483648 := by omega
    have h4 : ¬ 10 ≤ i := by omega
    have h5 : i < 10 := by omega
    have sh : hgSh M.1 = (0, 15) := by
      rw [hN, Nat.add_assoc, hgSh_g hg (by omega)]
      unfold hgGsh
      rw [if_neg (by omega), if_neg (by omega), if_pos (by omega)]
    have sh2 : (hgSh (g + 2 + i)).1 = 0 := by rw [← hN, sh]
    have og : hgO M g 1 := ⟨by omega, by rw [show g = g + 0 from rfl, hgSh_g hg (by omega)]; rfl⟩
    have on : hgO (hgNew M) (g + 2 + i) 0 := ⟨by rw [hgNw_1]; omega, sh2⟩
    have k0 := hgk_0 (X := X) on
    have ar : hgAr (hgSI (hgSI (hgNew M) (g + 2 + i) 1 (nI 1)) (g + 2 + i) 9 (-1)) (g + 1) 24 10 := ⟨by show g + 1 < (hgNew M).1; rw [hgNw_1]; omega, by rw [hgSh_g hg (by omega)]; rfl⟩
    have on2 : hgO (hgSI (hgSI (hgNew M) (g + 2 + i) 1 (nI 1)) (g + 2 + i) 9 (-1)) (g + 2 + i) 0 := on
    obtain ⟨M', e, n1, n2, n3, n4⟩ := ih (i + 1) (hgSR (hgSI (hgSI (hgNew M) (g + 2 + i) 1 (nI 1)) (g + 2 + i) 9 (-1)) (g + 1) i (g + 2 + i)) (K1 + 1) (K2 + 15) none (by omega) (by show (hgNew M).1 = _; rw [hgNw_1]; omega) (by
      rw [hgR_SR, if_neg (by omega)]
      show hgR (hgNew M) g 5 = _
      rw [hgNw_R, if_neg (by omega)]
      exact hR) (by omega) (by omega)
    have c1 : K1 + 1 ≤ 28 := by omega
    have c2 : K2 + 15 ≤ 248 := by omega
    rw [show K1 + 1 + q = K1 + (q + 1) by omega, show K2 + 15 + 15 * q = K2 + 15 * (q + 1) by omega] at e
    refine ⟨M', ?_, n1, hgBw_t (hgBw_t (hgBw_t (hgBw_t (hgBw_new (by omega)) (hgBw_SI (by omega))) (hgBw_SI (by omega))) (hgBw_SR (by omega))) n2, fun j j1 j2 => ?_, fun j hj => ?_⟩
    · refine Eq.trans ?_ e
      rw [hgu8_20]
      simp (maxDischargeDepth := 7) only [hgM_t, hgM_f, hgM_n, hgx_aload_n_0, hgx_aload_n_1, hgx_bipush_10, hgx_iconst_0, hgx_istore_n_2i, hgx_istore_n_2r, hgx_istore_n_2f, hgx_istore_n_2n, hgx_istore_n_2l, hgx_iload_n_2, hgx_ic_ge, hgs_get_1_5, hgx_dup_i, hgx_dup_f, hgx_dup_r, hgx_invspecial_1, hgx_aft_e, hgx_aft_i, hgx_aft_l, hgx_aft_v, hgx_iinc_2_1, hgx_goto, hgx_bipush_8, hgx_iconst_3, hgx_vret, hgv8_0, hgr8_0, hgu8_0, hgv8_20, ← hgu8_20, hgv8_45, ← hgu8_45, hgr8_20, hgx_new sh, hgI_SI, hgI_SJ, hgJ_SI, hgJ_SJ, if_true, if_false, reduceIte, Nat.reduceEqDiff, hgWf_SI, hgWf_SJ, hgO_SI, hgO_SJ, hgAr_SI, hgAr_SJ, hgRp_SI, hgRp_SJ, hgN_SI, hgN_SJ, hgO_g, hgO_d, hgO_rl, hgO_r, hgO_0, hgO_1, hgO_64, hgO_298, hgO_300, hgCd_0, hgCd_1, hgCd_2, hgCd_3, hgCd_4, hgCd_5, hgRecv_O, hgRecv_99, List.length_cons, List.length_nil, Nat.zero_add, Nat.add_zero, Nat.le_refl, Nat.zero_le, and_self, or_true, true_or, true_and, and_true, ne_eq, not_false_eq_true, Nat.reduceLT, Nat.reduceLeDiff, Nat.reduceAdd, Nat.reduceEqDiff, hgn_eq, hgn_lt, hgn_le, if_true, if_false, reduceIte, Nat.not_lt_zero, hgn_add, hgn_mul, h3, h4, hgx_get2 (b := g + 1) og hR, hN, k0, c1, c2, on, hgx_aastore (n := 10) (ci := 24) (d := 0) ar (by omega) on2 rfl h5 (by omega)]
    · by_cases hji : j = i
      · rw [hji, n4 i (by omega), hgR_SR, if_pos rfl, if_pos rfl]
      · exact n3 j (by omega) j2
    · rw [n4 j (by omega), hgR_SR, if_pos rfl, if_neg (by omega)]
      show hgR (hgNew M) (g + 1) j = _
      rw [hgNw_R, if_neg (by omega)]
/-- a gateway is made -/
theorem hgk_8 (hg : hgGw g) (hN : M.1 = g + 1) (hz : ∀ k, hgI M g k = nI 0) : ∃ M', hgWC X 8 [.ref g, .ref 1] M = some (.inl .null, M') ∧ M'.1 = g + 29 ∧ hgBw g M M' ∧ hgGk M' g := by
  have hg2 := hgGw_le hg
  have og : (hgSh g).1 = 1 := by rw [show g = g + 0 from rfl, hgSh_g hg (by omega)]; rfl
  have og0 : hgO M g 1 := ⟨by omega, og⟩
  have l1 : 1 < M.1 := by omega
  have l1' : 1 < g + 1 := by omega
  have lg : g < M.1 := by omega
  have lg' : g < g + 1 := by omega
  obtain ⟨Ma, hMa⟩ : ∃ Ma, Ma = hgSR M g 0 1 := ⟨_, rfl⟩
  have Na : Ma.1 = g + 1 := by rw [hMa]; exact hN
  have sha : hgSh Ma.1 = (24, 10) := by rw [Na, hgSh_g hg (by omega)]; rfl
  have oga : hgO (hgNew Ma) g 1 := ⟨by rw [hgNw_1]; omega, og⟩
  have lga : g + 1 < (hgNew Ma).1 := by rw [hgNw_1]; omega
  obtain ⟨M1, e1, n1, b1, r1, _⟩ := hgk_8l (X := X) hg 10 0 (hgSR (hgNew Ma) g 5 (g + 1)) 1 10 (some (.ref 1)) (by omega) (by show (hgNew Ma).1 = _; rw [hgNw_1]; omega) (by rw [hgR_SR, if_pos rfl, if_pos rfl]) (by omega) (by omega)
  have sh1 : hgSh M1.1 = (5, 2) := by rw [n1, hgSh_g hg (by omega)]; rfl
  obtain ⟨M2, e2, n2, b2, r2, r3, z2⟩ := hgk_47 (X := X) (M := hgNew M1) hg (by rw [hgNw_1]; omega)
  have o12 : hgO (hgNew M1) (g + 12) 5 := ⟨by rw [hgNw_1]; omega, by rw [hgSh_g hg (by omega)]; rfl⟩
  have og2 : hgO M2 g 1 := ⟨by omega, og⟩
  have l12 : g + 12 < M2.1 := by omega
  have l12' : g + 12 < g + 26 := by omega
  obtain ⟨M3, hM3⟩ : ∃ M3, M3 = hgSR M2 g 7 (g + 12) := ⟨_, rfl⟩
  have N3 : M3.1 = g + 26 := by rw [hM3]; exact n2
  have sh3 : hgSh M3.1 = (20, 8) := by rw [N3, hgSh_g hg (by omega)]; rfl
  have og3 : hgO (hgNew M3) g 1 := ⟨by rw [hgNw_1]; omega, og⟩
  have l26 : g + 26 < (hgNew M3).1 := by rw [hgNw_1]; omega
  obtain ⟨M4, hM4⟩ : ∃ M4, M4 = hgSR (hgNew M3) g 8 (g + 26) := ⟨_, rfl⟩
  have N4 : M4.1 = g + 27 := by rw [hM4]; show (hgNew M3).1 = _; rw [hgNw_1]; omega
  have sh4 : hgSh M4.1 = (20, 3) := by rw [N4, hgSh_g hg (by omega)]; rfl
  have og4 : hgO (hgNew M4) g 1 := ⟨by rw [hgNw_1]; omega, og⟩
  have l27 : g + 27 < (hgNew M4).1 := by rw [hgNw_1]; omega
  obtain ⟨M5, hM5⟩ : ∃ M5, M5 = hgSR (hgNew M4) g 10 (g + 27) := ⟨_, rfl⟩
  have N5 : M5.1 = g + 28 := by rw [hM5]; show (hgNew M4).1 = _; rw [hgNw_1]; omega
  have sh5 : hgSh M5.1 = (20, 3) := by rw [N5, hgSh_g hg (by omega)]; rfl
  have og5 : hgO (hgNew M5) g 1 := ⟨by rw [hgNw_1]; omega, og⟩
  have l28 : g + 28 < (hgNew M5).1 := by rw [hgNw_1]; omega
  have B3 : hgBw g M M3 := hgBw_t (hgBw_t (hgBw_t (hgBw_t (hgBw_t (hgBw_t (by rw [hMa]; exact hgBw_SR (Nat.le_refl _)) (hgBw_new (by omega))) (hgBw_SR (Nat.le_refl _))) (hgBw_m b1 (by omega))) (hgBw_new (by omega))) (hgBw_m b2 (by omega))) (by rw [hM3]; exact hgBw_SR (Nat.le_refl _))
  have B34 : hgBw g M3 M4 := by rw [hM4]; exact hgBw_t (hgBw_new (by omega)) (hgBw_SR (Nat.le_refl _))
  have B45 : hgBw g M4 M5 := by rw [hM5]; exact hgBw_t (hgBw_new (by omega)) (hgBw_SR (Nat.le_refl _))
  have B56 : hgBw g M5 (hgSR (hgNew M5) g 11 (g + 28)) := hgBw_t (hgBw_new (by omega)) (hgBw_SR (Nat.le_refl _))
  have B4 : hgBw g M3 (hgSR (hgNew M5) g 11 (g + 28)) := hgBw_t (hgBw_t B34 B45) B56
  rw [show 10 + 15 * 10 = 160 from rfl, show 1 + 10 = 11 from rfl] at e1
  refine ⟨hgSR (hgNew M5) g 11 (g + 28), ?_, by show (hgNew M5).1 = _; rw [hgNw_1]; omega, hgBw_t B3 B4, ?_⟩
  · simp (maxDischargeDepth := 7) only [hgc8, hgM_t, hgM_f, hgM_n, hgx_aload_n_0, hgx_aload_n_1, hgx_bipush_10, hgx_iconst_0, hgx_istore_n_2i, hgx_istore_n_2r, hgx_istore_n_2f, hgx_istore_n_2n, hgx_istore_n_2l, hgx_iload_n_2, hgx_ic_ge, hgs_get_1_5, hgx_dup_i, hgx_dup_f, hgx_dup_r, hgx_invspecial_1, hgx_aft_e, hgx_aft_i, hgx_aft_l, hgx_aft_v, hgx_iinc_2_1, hgx_goto, hgx_bipush_8, hgx_iconst_3, hgx_vret, hgv8_0, hgr8_0, hgu8_0, hgv8_20, ← hgu8_20, hgv8_45, ← hgu8_45, hgx_1005, hgx_put2, hgI_SI, hgI_SJ, hgJ_SI, hgJ_SJ, if_true, if_false, reduceIte, Nat.reduceEqDiff, hgWf_SI, hgWf_SJ, hgO_SI, hgO_SJ, hgAr_SI, hgAr_SJ, hgRp_SI, hgRp_SJ, hgN_SI, hgN_SJ, hgO_g, hgO_d, hgO_rl, hgO_r, hgO_0, hgO_1, hgO_64, hgO_298, hgO_300, hgCd_0, hgCd_1, hgCd_2, hgCd_3, hgCd_4, hgCd_5, hgRecv_O, hgRecv_99, List.length_cons, List.length_nil, Nat.zero_add, Nat.add_zero, Nat.le_refl, Nat.zero_le, and_self, or_true, true_or, true_and, and_true, ne_eq, not_false_eq_true, Nat.reduceLT, Nat.reduceLeDiff, Nat.reduceAdd, Nat.reduceEqDiff, hgn_eq, hgn_lt, hgn_le, if_true, if_false, reduceIte, Nat.not_lt_zero, hgn_add, hgn_mul, hN, og0, l1', lg']
    rw [← hMa]
    simp (maxDischargeDepth := 7) only [hgx_anew sha, hgx_put2, hgx_aload_n_0, hgx_iconst_0, hgx_istore_n_2i, hgx_istore_n_2r, hgx_istore_n_2n, ← hgu8_20, hgI_SI, hgI_SJ, hgJ_SI, hgJ_SJ, if_true, if_false, reduceIte, Nat.reduceEqDiff, hgWf_SI, hgWf_SJ, hgO_SI, hgO_SJ, hgAr_SI, hgAr_SJ, hgRp_SI, hgRp_SJ, hgN_SI, hgN_SJ, hgO_g, hgO_d, hgO_rl, hgO_r, hgO_0, hgO_1, hgO_64, hgO_298, hgO_300, hgCd_0, hgCd_1, hgCd_2, hgCd_3, hgCd_4, hgCd_5, hgRecv_O, hgRecv_99, List.length_cons, List.length_nil, Nat.zero_add, Nat.add_zero, Nat.le_refl, Nat.zero_le, and_self, or_true, true_or, true_and, and_true, ne_eq, not_false_eq_true, Nat.reduceLT, Nat.reduceLeDiff, Nat.reduceAdd, Nat.reduceEqDiff, hgn_eq, hgn_lt, hgn_le, if_true, if_false, reduceIte, Nat.not_lt_zero, hgn_add, hgn_mul, Na, oga, lga]
    refine Eq.trans e1 ?_
    rw [hgu8_45]
    simp (maxDischargeDepth := 7) only [hgM_t, hgM_f, hgM_n, hgx_aload_n_0, hgx_aload_n_1, hgx_bipush_10, hgx_iconst_0, hgx_istore_n_2i, hgx_istore_n_2r, hgx_istore_n_2f, hgx_istore_n_2n, hgx_istore_n_2l, hgx_iload_n_2, hgx_ic_ge, hgs_get_1_5, hgx_dup_i, hgx_dup_f, hgx_dup_r, hgx_invspecial_1, hgx_aft_e, hgx_aft_i, hgx_aft_l, hgx_aft_v, hgx_iinc_2_1, hgx_goto, hgx_bipush_8, hgx_iconst_3, hgx_vret, hgv8_0, hgr8_0, hgu8_0, hgv8_20, ← hgu8_20, hgv8_45, hgr8_45, hgu8_45, hgx_new sh1, hgx_put2, hgI_SI, hgI_SJ, hgJ_SI, hgJ_SJ, if_true, if_false, reduceIte, Nat.reduceEqDiff, hgWf_SI, hgWf_SJ, hgO_SI, hgO_SJ, hgAr_SI, hgAr_SJ, hgRp_SI, hgRp_SJ, hgN_SI, hgN_SJ, hgO_g, hgO_d, hgO_rl, hgO_r, hgO_0, hgO_1, hgO_64, hgO_298, hgO_300, hgCd_0, hgCd_1, hgCd_2, hgCd_3, hgCd_4, hgCd_5, hgRecv_O, hgRecv_99, List.length_cons, List.length_nil, Nat.zero_add, Nat.add_zero, Nat.le_refl, Nat.zero_le, and_self, or_true, true_or, true_and, and_true, ne_eq, not_false_eq_true, Nat.reduceLT, Nat.reduceLeDiff, Nat.reduceAdd, Nat.reduceEqDiff, hgn_eq, hgn_lt, hgn_le, if_true, if_false, reduceIte, Nat.not_lt_zero, hgn_add, hgn_mul, n1, e2, o12, og2, l12', n2]
    rw [← hM3]
    simp (maxDischargeDepth := 7) only [hgM_t, hgM_f, hgM_n, hgx_aload_n_0, hgx_aload_n_1, hgx_bipush_10, hgx_iconst_0, hgx_istore_n_2i, hgx_istore_n_2r, hgx_istore_n_2f, hgx_istore_n_2n, hgx_istore_n_2l, hgx_iload_n_2, hgx_ic_ge, hgs_get_1_5, hgx_dup_i, hgx_dup_f, hgx_dup_r, hgx_invspecial_1, hgx_aft_e, hgx_aft_i, hgx_aft_l, hgx_aft_v, hgx_iinc_2_1, hgx_goto, hgx_bipush_8, hgx_iconst_3, hgx_vret, hgv8_0, hgr8_0, hgu8_0, hgv8_20, ← hgu8_20, hgv8_45, hgr8_45, hgu8_45, hgx_newa sh3, hgx_put2, hgI_SI, hgI_SJ, hgJ_SI, hgJ_SJ, if_true, if_false, reduceIte, Nat.reduceEqDiff, hgWf_SI, hgWf_SJ, hgO_SI, hgO_SJ, hgAr_SI, hgAr_SJ, hgRp_SI, hgRp_SJ, hgN_SI, hgN_SJ, hgO_g, hgO_d, hgO_rl, hgO_r, hgO_0, hgO_1, hgO_64, hgO_298, hgO_300, hgCd_0, hgCd_1, hgCd_2, hgCd_3, hgCd_4, hgCd_5, hgRecv_O, hgRecv_99, List.length_cons, List.length_nil, Nat.zero_add, Nat.add_zero, Nat.le_refl, Nat.zero_le, and_self, or_true, true_or, true_and, and_true, ne_eq, not_false_eq_true, Nat.reduceLT, Nat.reduceLeDiff, Nat.reduceAdd, Nat.reduceEqDiff, hgn_eq, hgn_lt, hgn_le, if_true, if_false, reduceIte, Nat.not_lt_zero, hgn_add, hgn_mul, N3, og3, l26]
    rw [← hM4]
    simp (maxDischargeDepth := 7) only [hgM_t, hgM_f, hgM_n, hgx_aload_n_0, hgx_aload_n_1, hgx_bipush_10, hgx_iconst_0, hgx_istore_n_2i, hgx_istore_n_2r, hgx_istore_n_2f, hgx_istore_n_2n, hgx_istore_n_2l, hgx_iload_n_2, hgx_ic_ge, hgs_get_1_5, hgx_dup_i, hgx_dup_f, hgx_dup_r, hgx_invspecial_1, hgx_aft_e, hgx_aft_i, hgx_aft_l, hgx_aft_v, hgx_iinc_2_1, hgx_goto, hgx_bipush_8, hgx_iconst_3, hgx_vret, hgv8_0, hgr8_0, hgu8_0, hgv8_20, ← hgu8_20, hgv8_45, hgr8_45, hgu8_45, hgx_newa sh4, hgx_put2, hgI_SI, hgI_SJ, hgJ_SI, hgJ_SJ, if_true, if_false, reduceIte, Nat.reduceEqDiff, hgWf_SI, hgWf_SJ, hgO_SI, hgO_SJ, hgAr_SI, hgAr_SJ, hgRp_SI, hgRp_SJ, hgN_SI, hgN_SJ, hgO_g, hgO_d, hgO_rl, hgO_r, hgO_0, hgO_1, hgO_64, hgO_298, hgO_300, hgCd_0, hgCd_1, hgCd_2, hgCd_3, hgCd_4, hgCd_5, hgRecv_O, hgRecv_99, List.length_cons, List.length_nil, Nat.zero_add, Nat.add_zero, Nat.le_refl, Nat.zero_le, and_self, or_true, true_or, true_and, and_true, ne_eq, not_false_eq_true, Nat.reduceLT, Nat.reduceLeDiff, Nat.reduceAdd, Nat.reduceEqDiff, hgn_eq, hgn_lt, hgn_le, if_true, if_false, reduceIte, Nat.not_lt_zero, hgn_add, hgn_mul, N4, og4, l27]
    rw [← hM5]
    simp (maxDischargeDepth := 7) only [hgM_t, hgM_f, hgM_n, hgx_aload_n_0, hgx_aload_n_1, hgx_bipush_10, hgx_iconst_0, hgx_istore_n_2i, hgx_istore_n_2r, hgx_istore_n_2f, hgx_istore_n_2n, hgx_istore_n_2l, hgx_iload_n_2, hgx_ic_ge, hgs_get_1_5, hgx_dup_i, hgx_dup_f, hgx_dup_r, hgx_invspecial_1, hgx_aft_e, hgx_aft_i, hgx_aft_l, hgx_aft_v, hgx_iinc_2_1, hgx_goto, hgx_bipush_8, hgx_iconst_3, hgx_vret, hgv8_0, hgr8_0, hgu8_0, hgv8_20, ← hgu8_20, hgv8_45, hgr8_45, hgu8_45, hgx_newa sh5, hgx_put2, hgI_SI, hgI_SJ, hgJ_SI, hgJ_SJ, if_true, if_false, reduceIte, Nat.reduceEqDiff, hgWf_SI, hgWf_SJ, hgO_SI, hgO_SJ, hgAr_SI, hgAr_SJ, hgRp_SI, hgRp_SJ, hgN_SI, hgN_SJ, hgO_g, hgO_d, hgO_rl, hgO_r, hgO_0, hgO_1, hgO_64, hgO_298, hgO_300, hgCd_0, hgCd_1, hgCd_2, hgCd_3, hgCd_4, hgCd_5, hgRecv_O, hgRecv_99, List.length_cons, List.length_nil, Nat.zero_add, Nat.add_zero, Nat.le_refl, Nat.zero_le, and_self, or_true, true_or, true_and, and_true, ne_eq, not_false_eq_true, Nat.reduceLT, Nat.reduceLeDiff, Nat.reduceAdd, Nat.reduceEqDiff, hgn_eq, hgn_lt, hgn_le, if_true, if_false, reduceIte, Nat.not_lt_zero, hgn_add, hgn_mul, N5, og5, l28]
  · have I6 : ∀ b k, b < g + 26 → hgI (hgSR (hgNew M5) g 11 (g + 28)) b k = hgI M2 b k := fun b k hb => by
      show hgI (hgNew M5) b k = _
      rw [hgNw_I, if_neg (by omega), hM5]
      show hgI (hgNew M4) b k = _
      rw [hgNw_I, if_neg (by omega), hM4]
      show hgI (hgNew M3) b k = _
      rw [hgNw_I, if_neg (by omega), hM3]
      rfl
    have R6 : ∀ b k, b < g + 26 → hgR (hgSR (hgNew M5) g 11 (g + 28)) b k = if b = g then (if k = 11 then some (g + 28) else if k = 10 then some (g + 27) else if k = 8 then some (g + 26) else if k = 7 then some (g + 12) else hgR M2 b k) else hgR M2 b k := fun b k hb => by
      rw [hgR_SR, hgNw_R, if_neg (show b ≠ M5.1 by omega), hM5, hgR_SR, hgNw_R, if_neg (show b ≠ M4.1 by omega), hM4, hgR_SR, hgNw_R, if_neg (show b ≠ M3.1 by omega), hM3, hgR_SR]
      by_cases e : b = g
      · simp only [e, if_true, reduceIte]
      · simp only [e, if_false, reduceIte]
    have G2 : ∀ k, hgR M2 g k = if k = 5 then some (g + 1) else if k = 0 then some 1 else hgR M g k := fun k => by
      rw [(b2 g (by omega) k).2.2, hgNw_R, if_neg (by omega), (b1 g (by omega) k).2.2, hgR_SR, if_pos rfl, hgNw_R, if_neg (show g ≠ Ma.1 by omega), hMa, hgR_SR, if_pos rfl]
    have I2 : ∀ k, hgI M2 g k = nI 0 := fun k => by
      rw [(b2 g (by omega) k).1, hgNw_I, if_neg (by omega), (b1 g (by omega) k).1]
      show hgI (hgNew Ma) g k = _
      rw [hgNw_I, if_neg (by omega), hMa]
      exact hz k
    refine ⟨?_, ?_, ?_, ?_, ?_, ?_, ?_, fun j hj => ?_, fun j hj => ?_, fun k => ?_, fun k => ?_, fun k => ⟨?_, ?_⟩⟩
    · rw [R6 g 0 (by omega), if_pos rfl, if_neg (by omega), if_neg (by omega), if_neg (by omega), if_neg (by omega), G2, if_neg (by omega), if_pos rfl]
    · rw [R6 g 5 (by omega), if_pos rfl, if_neg (by omega), if_neg (by omega), if_neg (by omega), if_neg (by omega), G2, if_pos rfl]
    · rw [R6 g 7 (by omega), if_pos rfl, if_neg (by omega), if_neg (by omega), if_neg (by omega), if_pos rfl]
    · rw [R6 g 8 (by omega), if_pos rfl, if_neg (by omega), if_neg (by omega), if_pos rfl]
    · rw [R6 g 10 (by omega), if_pos rfl, if_neg (by omega), if_pos rfl]
    · rw [R6 g 11 (by omega), if_pos rfl, if_pos rfl]
    · rw [R6 _ 0 (by omega), if_neg (by omega)]
      exact r2
    · rw [R6 _ j (by omega), if_neg (by omega), (b2 _ (by omega) j).2.2, hgNw_R, if_neg (by omega)]
      exact r1 j (by omega) hj
    · rw [R6 _ j (by omega), if_neg (by omega)]
      exact r3 j hj
    · rw [I6 _ _ (by omega)]
      exact I2 k
    · rw [I6 _ _ (by omega), z2, hgNw_I, if_pos (by omega)]
    · show hgI (hgNew M5) (g + 27) k = _
      rw [hgNw_I, if_neg (by omega), hM5]
      show hgI (hgNew M4) (g + 27) k = _
      rw [hgNw_I, if_pos (by omega)]
    · show hgI (hgNew M5) (g + 28) k = _
      rw [hgNw_I, if_pos (by omega)]
end HGCT2

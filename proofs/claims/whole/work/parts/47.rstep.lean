/-! THE REFERENCE'S TICK. -/
section HGRST
variable {X : hgX} {M M' : hgMem} {d t g i j q c k a b n p : Nat} {V V' : hgV} {x y : Int32} {z : Int32 × Int32} {u : Int64} {Q : List (Int32 × Int32)} {B : List Nat} {S : Nat → Bool} {P : Nat → Prop} {v3 v6 : Option Value}
theorem hgk_164a : ∀ (k i : Nat) (M : hgMem) (V : hgV), i + k = vN V → hgRV M d t V → hgWf M → hgVok V c → ∃ M', hgW X 164 12 [some (.ref d), some (.ref t), some (.int x), some (.int (nI 0)), some (.int (nI 0)), some (.int (nI i)), v6] [] (0, 0) M = hgW X 164 83 [some (.ref d), some (.ref t), some (.int x), some (.int (nI 0)), some (.int (nI 0)), none, none] [] (0, 0) M' ∧ hgWf M' ∧ hgRV M' d t (vBg i k V) ∧ hgFm (fun b => b = d ∨ b = t) M M' := by
  intro k
  induction k generalizing v6 with
  | zero =>
    intro i M V hi h hw hk
    have hN := hk.1
    have h1 : i < 2147483648 := by omega
    have h2 : vN V < 2147483648 := by omega
    have h3 : vN V ≤ i := by omega
    have hD := h.1
    have hd2 := h.2.1
    have hn := h.2.2.2.1
    refine ⟨M, ?_, hw, h, hgFm_r⟩
    rw [hgu164_12]
    simp (maxDischargeDepth := 7) only [hgx_iload_5, hgx_aload_n_0, hgx_iconst_0, hgx_ic_ge, hgr164_12, hgv164_83, hgM_t, hgM_f, hgM_n, hgI_SI, hgI_SJ, hgJ_SI, hgJ_SJ, if_true, if_false, reduceIte, Nat.reduceEqDiff, hgWf_SI, hgWf_SJ, hgO_SI, hgO_SJ, hgAr_SI, hgAr_SJ, hgRp_SI, hgRp_SJ, hgN_SI, hgN_SJ, hgO_g, hgO_d, hgO_rl, hgO_r, hgO_0, hgO_1, hgO_64, hgO_298, hgO_300, hgCd_0, hgCd_1, hgCd_2, hgCd_3, hgCd_4, hgCd_5, hgRecv_O, hgRecv_99, List.length_cons, List.length_nil, Nat.zero_add, Nat.add_zero, Nat.le_refl, Nat.zero_le, and_self, or_true, true_or, true_and, and_true, ne_eq, not_false_eq_true, Nat.reduceLT, Nat.reduceLeDiff, Nat.reduceAdd, Nat.reduceEqDiff, hgn_eq, hgn_lt, hgn_le, if_true, if_false, reduceIte, Nat.not_lt_zero, hgs_aa_d, hgs_aa_r, hgs_aa_h, hgs_aa_m, hgs_aa_t, hgs_ld_wp, hgs_st_wp, hgs_ld_qf, hgs_st_qf, hgs_ld_qt, hgs_st_qt, hgs_ld_2, hgs_st_2, hgs_ld_3, hgs_st_3, hgs_ld_4, hgs_st_4, hgs_ld_301, hgs_st_301, hgs_ld_D, hgs_st_D, hgs_ld_s, hgs_ld_T, hgs_st_T, hgs_ld_o, hgs_st_o, hgs_ld_b, hgs_st_b, hgs_ld_z, hgs_st_z, hgs_al_b, hgx_alen_s, hgn_add, hgn_mul, hD, hd2, hn, h1, h2, h3]
  | succ k ih =>
    intro i M V hi h hw hk
    have hN := hk.1
    have h1 : i < 2147483648 := by omega
    have h2 : vN V < 2147483648 := by omega
    have h3 : ¬ vN V ≤ i := by omega
    have h4 : i < 10 := by omega
    have b4 : 27 + 10 * i + 4 < 20187 := by omega
    have b5 : 27 + 10 * i + 5 < 20187 := by omega
    have b6 : 27 + 10 * i + 6 < 20187 := by omega
    have hD := h.1
    have hd2 := h.2.1
    have hn := h.2.2.2.1
    have hm := hgSm_ok hk
    have hd := h.2.2.2.2.2.2.2.1 i (by omega)
    have e4 := hd.1 4 (by omega)
    have e5 := hd.1 5 (by omega)
    obtain ⟨w, w1, w2⟩ := (hk.2.2.2.1 i (by omega)).2.2.2.2.2.1
    have w3 : w < 2147483648 := by omega
    have hk2 : hgVok (vBt V i) c := hgVok_bt hk
    have nn : i + 1 + k = vN (vBt V i) := by rw [hgLi_N hgLi_bt]; omega
    by_cases c4 : vD V i 4 = nI 1
    · by_cases c5 : w ≤ 0
      · have ev : vBt V i = vSd (vSd V i 4 (nI 0)) i 6 (nI 0) := by
          unfold vBt
          rw [if_pos c4, if_pos (by rw [w2]; congr 1; omega)]
        have hr : hgRV (hgSI (hgSI M d (27 + 10 * i + 4) (nI 0)) d (27 + 10 * i + 6) (nI 0)) d t (vBt V i) := by
          rw [ev]
          exact hgRV_sd hm h4 (by omega) (hgRV_sd hm h4 (by omega) h)
        obtain ⟨M', e, y1, y2, y3⟩ := ih (v6 := none) (i + 1) _ (vBt V i) nn hr hw hk2
        refine ⟨M', ?_, y1, y2, hgFm_t (hgFm_SI (hgFm_SI hgFm_r (Or.inl rfl)) (Or.inl rfl)) y3⟩
        refine Eq.trans ?_ e
        rw [hgu164_12]
        simp (maxDischargeDepth := 7) only [hgM_t, hgM_f, hgM_n, hgx_aload_n_0, hgx_iconst_4, hgx_istore_n_2i, hgx_istore_n_2r, hgx_istore_n_2f, hgx_istore_n_2n, hgx_istore_n_2l, hgx_iconst_0, hgx_istore_n_3i, hgx_istore_n_3r, hgx_istore_n_3f, hgx_istore_n_3n, hgx_istore_n_3l, hgx_istore_4i, hgx_istore_4r, hgx_istore_4f, hgx_istore_4n, hgx_istore_4l, hgx_istore_5i, hgx_istore_5r, hgx_istore_5f, hgx_istore_5n, hgx_istore_5l, hgx_iload_5, hgx_ic_ge, hgx_invstatic_1, hgx_aft_e, hgx_aft_i, hgx_aft_l, hgx_aft_v, hgx_istore_6i, hgx_istore_6r, hgx_istore_6f, hgx_istore_6n, hgx_istore_6l, hgx_iload_6, hgx_iadd, hgx_iconst_1, hgx_ic_eq, hgx_goto, hgx_iconst_5, hgx_if_le, hgx_dup2, hgx_isub, hgx_bipush_6, hgx_iinc_5_1, hgx_iconst_m1, hgx_invstatic_2, hgx_if_eq, hgx_aload_n_1, hgx_lcmp, hgx_if_ge, hgx_iinc_6_1, hgx_iload_n_2, hgx_ic_le, hgx_invstatic_3, hgx_iload_4, hgx_ishl, hgx_ior, hgx_iinc_3_1, hgx_ishr, hgx_iand, hgx_bipush_9, hgx_iconst_3, hgx_ic_ne, hgx_iconst_2, hgx_iload_n_3, hgx_ret1, hgv164_0, hgr164_0, hgu164_0, hgv164_12, hgr164_12, hgv164_40, hgr164_40, hgu164_40, hgv164_62, hgr164_62, hgu164_62, hgv164_77, hgr164_77, hgu164_77, hgv164_83, ← hgu164_83, hgv164_89, ← hgu164_89, hgv164_124, hgr164_124, hgu164_124, hgv164_128, hgr164_128, hgu164_128, hgv164_134, hgr164_134, hgu164_134, hgv164_155, hgr164_155, hgu164_155, hgv164_188, hgr164_188, hgu164_188, hgv164_191, ← hgu164_191, hgv164_218, hgr164_218, hgu164_218, hgv164_239, hgr164_239, hgu164_239, hgv164_250, hgr164_250, hgu164_250, hgv164_284, hgr164_284, hgu164_284, hgv164_290, hgr164_290, hgu164_290, hgI_SI, hgI_SJ, hgJ_SI, hgJ_SJ, if_true, if_false, reduceIte, Nat.reduceEqDiff, hgWf_SI, hgWf_SJ, hgO_SI, hgO_SJ, hgAr_SI, hgAr_SJ, hgRp_SI, hgRp_SJ, hgN_SI, hgN_SJ, hgO_g, hgO_d, hgO_rl, hgO_r, hgO_0, hgO_1, hgO_64, hgO_298, hgO_300, hgCd_0, hgCd_1, hgCd_2, hgCd_3, hgCd_4, hgCd_5, hgRecv_O, hgRecv_99, List.length_cons, List.length_nil, Nat.zero_add, Nat.add_zero, Nat.le_refl, Nat.zero_le, and_self, or_true, true_or, true_and, and_true, ne_eq, not_false_eq_true, Nat.reduceLT, Nat.reduceLeDiff, Nat.reduceAdd, Nat.reduceEqDiff, hgn_eq, hgn_lt, hgn_le, if_true, if_false, reduceIte, Nat.not_lt_zero, hgs_aa_d, hgs_aa_r, hgs_aa_h, hgs_aa_m, hgs_aa_t, hgs_ld_wp, hgs_st_wp, hgs_ld_qf, hgs_st_qf, hgs_ld_qt, hgs_st_qt, hgs_ld_2, hgs_st_2, hgs_ld_3, hgs_st_3, hgs_ld_4, hgs_st_4, hgs_ld_301, hgs_st_301, hgs_ld_D, hgs_st_D, hgs_ld_s, hgs_ld_T, hgs_st_T, hgs_ld_o, hgs_st_o, hgs_ld_b, hgs_st_b, hgs_ld_z, hgs_st_z, hgs_al_b, hgx_alen_s, hgn_add, hgn_mul, hD, hd2, hn, h1, h2, h3, hgk_128, e4, c4, b4, b5, b6, e5, w2, w3, c5]
      · have ev : vBt V i = vSd V i 5 (nI w - nI 1) := by
          unfold vBt
          rw [if_pos c4, if_neg (by rw [w2, hgn_eq (by omega) (by omega)]; omega), w2]
        have hr : hgRV (hgSI M d (27 + 10 * i + 5) (nI w - nI 1)) d t (vBt V i) := by
          rw [ev]
          exact hgRV_sd hm h4 (by omega) h
        obtain ⟨M', e, y1, y2, y3⟩ := ih (v6 := none) (i + 1) _ (vBt V i) nn hr hw hk2
        refine ⟨M', ?_, y1, y2, hgFm_t (hgFm_SI hgFm_r (Or.inl rfl)) y3⟩
        refine Eq.trans ?_ e
        rw [hgu164_12]
        simp (maxDischargeDepth := 7) only [hgM_t, hgM_f, hgM_n, hgx_aload_n_0, hgx_iconst_4, hgx_istore_n_2i, hgx_istore_n_2r, hgx_istore_n_2f, hgx_istore_n_2n, hgx_istore_n_2l, hgx_iconst_0, hgx_istore_n_3i, hgx_istore_n_3r, hgx_istore_n_3f, hgx_istore_n_3n, hgx_istore_n_3l, hgx_istore_4i, hgx_istore_4r, hgx_istore_4f, hgx_istore_4n, hgx_istore_4l, hgx_istore_5i, hgx_istore_5r, hgx_istore_5f, hgx_istore_5n, hgx_istore_5l, hgx_iload_5, hgx_ic_ge, hgx_invstatic_1, hgx_aft_e, hgx_aft_i, hgx_aft_l, hgx_aft_v, hgx_istore_6i, hgx_istore_6r, hgx_istore_6f, hgx_istore_6n, hgx_istore_6l, hgx_iload_6, hgx_iadd, hgx_iconst_1, hgx_ic_eq, hgx_goto, hgx_iconst_5, hgx_if_le, hgx_dup2, hgx_isub, hgx_bipush_6, hgx_iinc_5_1, hgx_iconst_m1, hgx_invstatic_2, hgx_if_eq, hgx_aload_n_1, hgx_lcmp, hgx_if_ge, hgx_iinc_6_1, hgx_iload_n_2, hgx_ic_le, hgx_invstatic_3, hgx_iload_4, hgx_ishl, hgx_ior, hgx_iinc_3_1, hgx_ishr, hgx_iand, hgx_bipush_9, hgx_iconst_3, hgx_ic_ne, hgx_iconst_2, hgx_iload_n_3, hgx_ret1, hgv164_0, hgr164_0, hgu164_0, hgv164_12, hgr164_12, hgv164_40, hgr164_40, hgu164_40, hgv164_62, hgr164_62, hgu164_62, hgv164_77, hgr164_77, hgu164_77, hgv164_83, ← hgu164_83, hgv164_89, ← hgu164_89, hgv164_124, hgr164_124, hgu164_124, hgv164_128, hgr164_128, hgu164_128, hgv164_134, hgr164_134, hgu164_134, hgv164_155, hgr164_155, hgu164_155, hgv164_188, hgr164_188, hgu164_188, hgv164_191, ← hgu164_191, hgv164_218, hgr164_218, hgu164_218, hgv164_239, hgr164_239, hgu164_239, hgv164_250, hgr164_250, hgu164_250, hgv164_284, hgr164_284, hgu164_284, hgv164_290, hgr164_290, hgu164_290, hgI_SI, hgI_SJ, hgJ_SI, hgJ_SJ, if_true, if_false, reduceIte, Nat.reduceEqDiff, hgWf_SI, hgWf_SJ, hgO_SI, hgO_SJ, hgAr_SI, hgAr_SJ, hgRp_SI, hgRp_SJ, hgN_SI, hgN_SJ, hgO_g, hgO_d, hgO_rl, hgO_r, hgO_0, hgO_1, hgO_64, hgO_298, hgO_300, hgCd_0, hgCd_1, hgCd_2, hgCd_3, hgCd_4, hgCd_5, hgRecv_O, hgRecv_99, List.length_cons, List.length_nil, Nat.zero_add, Nat.add_zero, Nat.le_refl, Nat.zero_le, and_self, or_true, true_or, true_and, and_true, ne_eq, not_false_eq_true, Nat.reduceLT, Nat.reduceLeDiff, Nat.reduceAdd, Nat.reduceEqDiff, hgn_eq, hgn_lt, hgn_le, if_true, if_false, reduceIte, Nat.not_lt_zero, hgs_aa_d, hgs_aa_r, hgs_aa_h, hgs_aa_m, hgs_aa_t, hgs_ld_wp, hgs_st_wp, hgs_ld_qf, hgs_st_qf, hgs_ld_qt, hgs_st_qt, hgs_ld_2, hgs_st_2, hgs_ld_3, hgs_st_3, hgs_ld_4, hgs_st_4, hgs_ld_301, hgs_st_301, hgs_ld_D, hgs_st_D, hgs_ld_s, hgs_ld_T, hgs_st_T, hgs_ld_o, hgs_st_o, hgs_ld_b, hgs_st_b, hgs_ld_z, hgs_st_z, hgs_al_b, hgx_alen_s, hgn_add, hgn_mul, hD, hd2, hn, h1, h2, h3, hgk_128, e4, c4, b4, b5, b6, e5, w2, w3, c5]
    · have ev : vBt V i = V := by
        unfold vBt
        rw [if_neg c4]
      have hr : hgRV M d t (vBt V i) := by rw [ev]; exact h
      obtain ⟨M', e, y1, y2, y3⟩ := ih (v6 := none) (i + 1) M (vBt V i) nn hr hw hk2
      refine ⟨M', ?_, y1, y2, y3⟩
      refine Eq.trans ?_ e
      rw [hgu164_12]
      simp (maxDischargeDepth := 7) only [hgM_t, hgM_f, hgM_n, hgx_aload_n_0, hgx_iconst_4, hgx_istore_n_2i, hgx_istore_n_2r, hgx_istore_n_2f, hgx_istore_n_2n, hgx_istore_n_2l, hgx_iconst_0, hgx_istore_n_3i, hgx_istore_n_3r, hgx_istore_n_3f, hgx_istore_n_3n, hgx_istore_n_3l, hgx_istore_4i, hgx_istore_4r, hgx_istore_4f, hgx_istore_4n, hgx_istore_4l, hgx_istore_5i, hgx_istore_5r, hgx_istore_5f, hgx_istore_5n, hgx_istore_5l, hgx_iload_5, hgx_ic_ge, hgx_invstatic_1, hgx_aft_e, hgx_aft_i, hgx_aft_l, hgx_aft_v, hgx_istore_6i, hgx_istore_6r, hgx_istore_6f, hgx_istore_6n, hgx_istore_6l, hgx_iload_6, hgx_iadd, hgx_iconst_1, hgx_ic_eq, hgx_goto, hgx_iconst_5, hgx_if_le, hgx_dup2, hgx_isub, hgx_bipush_6, hgx_iinc_5_1, hgx_iconst_m1, hgx_invstatic_2, hgx_if_eq, hgx_aload_n_1, hgx_lcmp, hgx_if_ge, hgx_iinc_6_1, hgx_iload_n_2, hgx_ic_le, hgx_invstatic_3, hgx_iload_4, hgx_ishl, hgx_ior, hgx_iinc_3_1, hgx_ishr, hgx_iand, hgx_bipush_9, hgx_iconst_3, hgx_ic_ne, hgx_iconst_2, hgx_iload_n_3, hgx_ret1, hgv164_0, hgr164_0, hgu164_0, hgv164_12, hgr164_12, hgv164_40, hgr164_40, hgu164_40, hgv164_62, hgr164_62, hgu164_62, hgv164_77, hgr164_77, hgu164_77, hgv164_83, ← hgu164_83, hgv164_89, ← hgu164_89, hgv164_124, hgr164_124, hgu164_124, hgv164_128, hgr164_128, hgu164_128, hgv164_134, hgr164_134, hgu164_134, hgv164_155, hgr164_155, hgu164_155, hgv164_188, hgr164_188, hgu164_188, hgv164_191, ← hgu164_191, hgv164_218, hgr164_218, hgu164_218, hgv164_239, hgr164_239, hgu164_239, hgv164_250, hgr164_250, hgu164_250, hgv164_284, hgr164_284, hgu164_284, hgv164_290, hgr164_290, hgu164_290, hgI_SI, hgI_SJ, hgJ_SI, hgJ_SJ, if_true, if_false, reduceIte, Nat.reduceEqDiff, hgWf_SI, hgWf_SJ, hgO_SI, hgO_SJ, hgAr_SI, hgAr_SJ, hgRp_SI, hgRp_SJ, hgN_SI, hgN_SJ, hgO_g, hgO_d, hgO_rl, hgO_r, hgO_0, hgO_1, hgO_64, hgO_298, hgO_300, hgCd_0, hgCd_1, hgCd_2, hgCd_3, hgCd_4, hgCd_5, hgRecv_O, hgRecv_99, List.length_cons, List.length_nil, Nat.zero_add, Nat.add_zero, Nat.le_refl, Nat.zero_le, and_self, or_true, true_or, true_and, and_true, ne_eq, not_false_eq_true, Nat.reduceLT, Nat.reduceLeDiff, Nat.reduceAdd, Nat.reduceEqDiff, hgn_eq, hgn_lt, hgn_le, if_true, if_false, reduceIte, Nat.not_lt_zero, hgs_aa_d, hgs_aa_r, hgs_aa_h, hgs_aa_m, hgs_aa_t, hgs_ld_wp, hgs_st_wp, hgs_ld_qf, hgs_st_qf, hgs_ld_qt, hgs_st_qt, hgs_ld_2, hgs_st_2, hgs_ld_3, hgs_st_3, hgs_ld_4, hgs_st_4, hgs_ld_301, hgs_st_301, hgs_ld_D, hgs_st_D, hgs_ld_s, hgs_ld_T, hgs_st_T, hgs_ld_o, hgs_st_o, hgs_ld_b, hgs_st_b, hgs_ld_z, hgs_st_z, hgs_al_b, hgx_alen_s, hgn_add, hgn_mul, hD, hd2, hn, h1, h2, h3, hgk_128, e4, c4, b4]
theorem hgk_164b {b0 n0 m0 : Int32} (hk : hgVok V c) (h : hgRV M d t V) : ∀ (k i : Nat) (o : Option Nat), i + k = vN V → (∀ c, o = some c → c < vN V) → hgW X 164 89 [some (.ref d), some (.ref t), some (.int b0), some (.int n0), some (.int m0), some (.int (hgOi o)), some (.int (nI i))] [] (0, 0) M = hgW X 164 134 [some (.ref d), some (.ref t), some (.int b0), some (.int n0), some (.int m0), some (.int (hgOi (hgBest (vCan V) (vT V) o i k))), none] [] (0, 0) M := by
  intro k
  have hN := hk.1
  have hD := h.1
  have hd2 := h.2.1
  have hT := h.2.2.1
  have hn := h.2.2.2.1
  induction k with
  | zero =>
    intro i o hi ho
    have h1 : i < 2147483648 := by omega
    have h2 : vN V < 2147483648 := by omega
    have h3 : vN V ≤ i := by omega
    rw [hgu164_89]
    simp (maxDischargeDepth := 7) only [hgx_iload_6, hgx_aload_n_0, hgx_iconst_0, hgx_ic_ge, hgr164_89, hgv164_134, hgM_t, hgM_f, hgM_n, hgI_SI, hgI_SJ, hgJ_SI, hgJ_SJ, if_true, if_false, reduceIte, Nat.reduceEqDiff, hgWf_SI, hgWf_SJ, hgO_SI, hgO_SJ, hgAr_SI, hgAr_SJ, hgRp_SI, hgRp_SJ, hgN_SI, hgN_SJ, hgO_g, hgO_d, hgO_rl, hgO_r, hgO_0, hgO_1, hgO_64, hgO_298, hgO_300, hgCd_0, hgCd_1, hgCd_2, hgCd_3, hgCd_4, hgCd_5, hgRecv_O, hgRecv_99, List.length_cons, List.length_nil, Nat.zero_add, Nat.add_zero, Nat.le_refl, Nat.zero_le, and_self, or_true, true_or, true_and, and_true, ne_eq, not_false_eq_true, Nat.reduceLT, Nat.reduceLeDiff, Nat.reduceAdd, Nat.reduceEqDiff, hgn_eq, hgn_lt, hgn_le, if_true, if_false, reduceIte, Nat.not_lt_zero, hgs_aa_d, hgs_aa_r, hgs_aa_h, hgs_aa_m, hgs_aa_t, hgs_ld_wp, hgs_st_wp, hgs_ld_qf, hgs_st_qf, hgs_ld_qt, hgs_st_qt, hgs_ld_2, hgs_st_2, hgs_ld_3, hgs_st_3, hgs_ld_4, hgs_st_4, hgs_ld_301, hgs_st_301, hgs_ld_D, hgs_st_D, hgs_ld_s, hgs_ld_T, hgs_st_T, hgs_ld_o, hgs_st_o, hgs_ld_b, hgs_st_b, hgs_ld_z, hgs_st_z, hgs_al_b, hgx_alen_s, hgn_add, hgn_mul, hD, hd2, hn, h1, h2, h3, hgBest]
  | succ k ih =>
    intro i o hi ho
    have h1 : i < 2147483648 := by omega
    have h2 : vN V < 2147483648 := by omega
    have h3 : ¬ vN V ≤ i := by omega
    have h4 : i < 10 := by omega
    have k162 := hgRV_162 (X := X) h hk (show i < vN V by omega)
    have ei := (h.2.2.2.2.2.2.2.1 i (by omega)).2.2.1
    rw [hgu164_89]
    unfold hgBest
    cases hc : vCan V i with
    | false =>
      have ih' := ih (i + 1) o (by omega) ho
      have e : (if false = true ∧ (∀ c, o = some c → vT V i < vT V c) then some i else o) = o := if_neg (fun q => by cases q.1)
      rw [e]
      refine Eq.trans ?_ ih'
      simp (maxDischargeDepth := 7) only [hgM_t, hgM_f, hgM_n, hgx_aload_n_0, hgx_iconst_4, hgx_istore_n_2i, hgx_istore_n_2r, hgx_istore_n_2f, hgx_istore_n_2n, hgx_istore_n_2l, hgx_iconst_0, hgx_istore_n_3i, hgx_istore_n_3r, hgx_istore_n_3f, hgx_istore_n_3n, hgx_istore_n_3l, hgx_istore_4i, hgx_istore_4r, hgx_istore_4f, hgx_istore_4n, hgx_istore_4l, hgx_istore_5i, hgx_istore_5r, hgx_istore_5f, hgx_istore_5n, hgx_istore_5l, hgx_iload_5, hgx_ic_ge, hgx_invstatic_1, hgx_aft_e, hgx_aft_i, hgx_aft_l, hgx_aft_v, hgx_istore_6i, hgx_istore_6r, hgx_istore_6f, hgx_istore_6n, hgx_istore_6l, hgx_iload_6, hgx_iadd, hgx_iconst_1, hgx_ic_eq, hgx_goto, hgx_iconst_5, hgx_if_le, hgx_dup2, hgx_isub, hgx_bipush_6, hgx_iinc_5_1, hgx_iconst_m1, hgx_invstatic_2, hgx_if_eq, hgx_aload_n_1, hgx_lcmp, hgx_if_ge, hgx_iinc_6_1, hgx_iload_n_2, hgx_ic_le, hgx_invstatic_3, hgx_iload_4, hgx_ishl, hgx_ior, hgx_iinc_3_1, hgx_ishr, hgx_iand, hgx_bipush_9, hgx_iconst_3, hgx_ic_ne, hgx_iconst_2, hgx_iload_n_3, hgx_ret1, hgv164_0, hgr164_0, hgu164_0, hgv164_12, ← hgu164_12, hgv164_40, hgr164_40, hgu164_40, hgv164_62, hgr164_62, hgu164_62, hgv164_77, hgr164_77, hgu164_77, hgv164_83, ← hgu164_83, hgv164_89, hgr164_89, hgv164_124, hgr164_124, hgu164_124, hgv164_128, hgr164_128, hgu164_128, hgv164_134, hgr164_134, hgu164_134, hgv164_155, hgr164_155, hgu164_155, hgv164_188, hgr164_188, hgu164_188, hgv164_191, ← hgu164_191, hgv164_218, hgr164_218, hgu164_218, hgv164_239, hgr164_239, hgu164_239, hgv164_250, hgr164_250, hgu164_250, hgv164_284, hgr164_284, hgu164_284, hgv164_290, hgr164_290, hgu164_290, hgI_SI, hgI_SJ, hgJ_SI, hgJ_SJ, if_true, if_false, reduceIte, Nat.reduceEqDiff, hgWf_SI, hgWf_SJ, hgO_SI, hgO_SJ, hgAr_SI, hgAr_SJ, hgRp_SI, hgRp_SJ, hgN_SI, hgN_SJ, hgO_g, hgO_d, hgO_rl, hgO_r, hgO_0, hgO_1, hgO_64, hgO_298, hgO_300, hgCd_0, hgCd_1, hgCd_2, hgCd_3, hgCd_4, hgCd_5, hgRecv_O, hgRecv_99, List.length_cons, List.length_nil, Nat.zero_add, Nat.add_zero, Nat.le_refl, Nat.zero_le, and_self, or_true, true_or, true_and, and_true, ne_eq, not_false_eq_true, Nat.reduceLT, Nat.reduceLeDiff, Nat.reduceAdd, Nat.reduceEqDiff, hgn_eq, hgn_lt, hgn_le, if_true, if_false, reduceIte, Nat.not_lt_zero, hgs_aa_d, hgs_aa_r, hgs_aa_h, hgs_aa_m, hgs_aa_t, hgs_ld_wp, hgs_st_wp, hgs_ld_qf, hgs_st_qf, hgs_ld_qt, hgs_st_qt, hgs_ld_2, hgs_st_2, hgs_ld_3, hgs_st_3, hgs_ld_4, hgs_st_4, hgs_ld_301, hgs_st_301, hgs_ld_D, hgs_st_D, hgs_ld_s, hgs_ld_T, hgs_st_T, hgs_ld_o, hgs_st_o, hgs_ld_b, hgs_st_b, hgs_ld_z, hgs_st_z, hgs_al_b, hgx_alen_s, hgn_add, hgn_mul, hD, hd2, hn, h1, h2, h3, h4, k162, hc, hgB_f]
    | true =>
      cases o with
      | none =>
        have ih' := ih (i + 1) (some i) (by omega) (fun c h => by cases h; omega)
        have e : (if true = true ∧ (∀ c, (none : Option Nat) = some c → vT V i < vT V c) then some i else none) = some i := if_pos ⟨rfl, fun c h => by cases h⟩
        rw [e]
        refine Eq.trans ?_ ih'
        simp (maxDischargeDepth := 7) only [hgM_t, hgM_f, hgM_n, hgx_aload_n_0, hgx_iconst_4, hgx_istore_n_2i, hgx_istore_n_2r, hgx_istore_n_2f, hgx_istore_n_2n, hgx_istore_n_2l, hgx_iconst_0, hgx_istore_n_3i, hgx_istore_n_3r, hgx_istore_n_3f, hgx_istore_n_3n, hgx_istore_n_3l, hgx_istore_4i, hgx_istore_4r, hgx_istore_4f, hgx_istore_4n, hgx_istore_4l, hgx_istore_5i, hgx_istore_5r, hgx_istore_5f, hgx_istore_5n, hgx_istore_5l, hgx_iload_5, hgx_ic_ge, hgx_invstatic_1, hgx_aft_e, hgx_aft_i, hgx_aft_l, hgx_aft_v, hgx_istore_6i, hgx_istore_6r, hgx_istore_6f, hgx_istore_6n, hgx_istore_6l, hgx_iload_6, hgx_iadd, hgx_iconst_1, hgx_ic_eq, hgx_goto, hgx_iconst_5, hgx_if_le, hgx_dup2, hgx_isub, hgx_bipush_6, hgx_iinc_5_1, hgx_iconst_m1, hgx_invstatic_2, hgx_if_eq, hgx_aload_n_1, hgx_lcmp, hgx_if_ge, hgx_iinc_6_1, hgx_iload_n_2, hgx_ic_le, hgx_invstatic_3, hgx_iload_4, hgx_ishl, hgx_ior, hgx_iinc_3_1, hgx_ishr, hgx_iand, hgx_bipush_9, hgx_iconst_3, hgx_ic_ne, hgx_iconst_2, hgx_iload_n_3, hgx_ret1, hgv164_0, hgr164_0, hgu164_0, hgv164_12, ← hgu164_12, hgv164_40, hgr164_40, hgu164_40, hgv164_62, hgr164_62, hgu164_62, hgv164_77, hgr164_77, hgu164_77, hgv164_83, ← hgu164_83, hgv164_89, hgr164_89, hgv164_124, hgr164_124, hgu164_124, hgv164_128, hgr164_128, hgu164_128, hgv164_134, hgr164_134, hgu164_134, hgv164_155, hgr164_155, hgu164_155, hgv164_188, hgr164_188, hgu164_188, hgv164_191, ← hgu164_191, hgv164_218, hgr164_218, hgu164_218, hgv164_239, hgr164_239, hgu164_239, hgv164_250, hgr164_250, hgu164_250, hgv164_284, hgr164_284, hgu164_284, hgv164_290, hgr164_290, hgu164_290, hgI_SI, hgI_SJ, hgJ_SI, hgJ_SJ, if_true, if_false, reduceIte, Nat.reduceEqDiff, hgWf_SI, hgWf_SJ, hgO_SI, hgO_SJ, hgAr_SI, hgAr_SJ, hgRp_SI, hgRp_SJ, hgN_SI, hgN_SJ, hgO_g, hgO_d, hgO_rl, hgO_r, hgO_0, hgO_1, hgO_64, hgO_298, hgO_300, hgCd_0, hgCd_1, hgCd_2, hgCd_3, hgCd_4, hgCd_5, hgRecv_O, hgRecv_99, List.length_cons, List.length_nil, Nat.zero_add, Nat.add_zero, Nat.le_refl, Nat.zero_le, and_self, or_true, true_or, true_and, and_true, ne_eq, not_false_eq_true, Nat.reduceLT, Nat.reduceLeDiff, Nat.reduceAdd, Nat.reduceEqDiff, hgn_eq, hgn_lt, hgn_le, if_true, if_false, reduceIte, Nat.not_lt_zero, hgs_aa_d, hgs_aa_r, hgs_aa_h, hgs_aa_m, hgs_aa_t, hgs_ld_wp, hgs_st_wp, hgs_ld_qf, hgs_st_qf, hgs_ld_qt, hgs_st_qt, hgs_ld_2, hgs_st_2, hgs_ld_3, hgs_st_3, hgs_ld_4, hgs_st_4, hgs_ld_301, hgs_st_301, hgs_ld_D, hgs_st_D, hgs_ld_s, hgs_ld_T, hgs_st_T, hgs_ld_o, hgs_st_o, hgs_ld_b, hgs_st_b, hgs_ld_z, hgs_st_z, hgs_al_b, hgx_alen_s, hgn_add, hgn_mul, hD, hd2, hn, h1, h2, h3, h4, k162, hc, hgB_t, hgOi_n, hgOi_s, hgm1_m1]
      | some o =>
        have hcn := ho o rfl
        have h5 : o < 1000 := by omega
        have h6 : o < 10 := by omega
        have eo := (h.2.2.2.2.2.2.2.1 o hcn).2.2.1
        by_cases ht : vT V i < vT V o
        · have ih' := ih (i + 1) (some i) (by omega) (fun c h => by cases h; omega)
          have e : (if true = true ∧ (∀ c9, some o = some c9 → vT V i < vT V c9) then some i else some o) = some i := if_pos ⟨rfl, fun c9 h => by cases h; exact ht⟩
          rw [e]
          refine Eq.trans ?_ ih'
          simp (maxDischargeDepth := 7) only [hgM_t, hgM_f, hgM_n, hgx_aload_n_0, hgx_iconst_4, hgx_istore_n_2i, hgx_istore_n_2r, hgx_istore_n_2f, hgx_istore_n_2n, hgx_istore_n_2l, hgx_iconst_0, hgx_istore_n_3i, hgx_istore_n_3r, hgx_istore_n_3f, hgx_istore_n_3n, hgx_istore_n_3l, hgx_istore_4i, hgx_istore_4r, hgx_istore_4f, hgx_istore_4n, hgx_istore_4l, hgx_istore_5i, hgx_istore_5r, hgx_istore_5f, hgx_istore_5n, hgx_istore_5l, hgx_iload_5, hgx_ic_ge, hgx_invstatic_1, hgx_aft_e, hgx_aft_i, hgx_aft_l, hgx_aft_v, hgx_istore_6i, hgx_istore_6r, hgx_istore_6f, hgx_istore_6n, hgx_istore_6l, hgx_iload_6, hgx_iadd, hgx_iconst_1, hgx_ic_eq, hgx_goto, hgx_iconst_5, hgx_if_le, hgx_dup2, hgx_isub, hgx_bipush_6, hgx_iinc_5_1, hgx_iconst_m1, hgx_invstatic_2, hgx_if_eq, hgx_aload_n_1, hgx_lcmp, hgx_if_ge, hgx_iinc_6_1, hgx_iload_n_2, hgx_ic_le, hgx_invstatic_3, hgx_iload_4, hgx_ishl, hgx_ior, hgx_iinc_3_1, hgx_ishr, hgx_iand, hgx_bipush_9, hgx_iconst_3, hgx_ic_ne, hgx_iconst_2, hgx_iload_n_3, hgx_ret1, hgv164_0, hgr164_0, hgu164_0, hgv164_12, ← hgu164_12, hgv164_40, hgr164_40, hgu164_40, hgv164_62, hgr164_62, hgu164_62, hgv164_77, hgr164_77, hgu164_77, hgv164_83, ← hgu164_83, hgv164_89, hgr164_89, hgv164_124, hgr164_124, hgu164_124, hgv164_128, hgr164_128, hgu164_128, hgv164_134, hgr164_134, hgu164_134, hgv164_155, hgr164_155, hgu164_155, hgv164_188, hgr164_188, hgu164_188, hgv164_191, ← hgu164_191, hgv164_218, hgr164_218, hgu164_218, hgv164_239, hgr164_239, hgu164_239, hgv164_250, hgr164_250, hgu164_250, hgv164_284, hgr164_284, hgu164_284, hgv164_290, hgr164_290, hgu164_290, hgI_SI, hgI_SJ, hgJ_SI, hgJ_SJ, if_true, if_false, reduceIte, Nat.reduceEqDiff, hgWf_SI, hgWf_SJ, hgO_SI, hgO_SJ, hgAr_SI, hgAr_SJ, hgRp_SI, hgRp_SJ, hgN_SI, hgN_SJ, hgO_g, hgO_d, hgO_rl, hgO_r, hgO_0, hgO_1, hgO_64, hgO_298, hgO_300, hgCd_0, hgCd_1, hgCd_2, hgCd_3, hgCd_4, hgCd_5, hgRecv_O, hgRecv_99, List.length_cons, List.length_nil, Nat.zero_add, Nat.add_zero, Nat.le_refl, Nat.zero_le, and_self, or_true, true_or, true_and, and_true, ne_eq, not_false_eq_true, Nat.reduceLT, Nat.reduceLeDiff, Nat.reduceAdd, Nat.reduceEqDiff, hgn_eq, hgn_lt, hgn_le, if_true, if_false, reduceIte, Nat.not_lt_zero, hgs_aa_d, hgs_aa_r, hgs_aa_h, hgs_aa_m, hgs_aa_t, hgs_ld_wp, hgs_st_wp, hgs_ld_qf, hgs_st_qf, hgs_ld_qt, hgs_st_qt, hgs_ld_2, hgs_st_2, hgs_ld_3, hgs_st_3, hgs_ld_4, hgs_st_4, hgs_ld_301, hgs_st_301, hgs_ld_D, hgs_st_D, hgs_ld_s, hgs_ld_T, hgs_st_T, hgs_ld_o, hgs_st_o, hgs_ld_b, hgs_st_b, hgs_ld_z, hgs_st_z, hgs_al_b, hgx_alen_s, hgn_add, hgn_mul, hD, hd2, hT, hn, h1, h2, h3, h4, k162, hc, hgB_t, hgOi_s, hgm1_nI, h5, h6, ei, eo, hglt_cmp, hgge_cmp, ht, not_true]
        · have ih' := ih (i + 1) (some o) (by omega) (fun c h => by cases h; omega)
          have e : (if true = true ∧ (∀ c9, some o = some c9 → vT V i < vT V c9) then some i else some o) = some o := if_neg (fun q => ht (q.2 o rfl))
          rw [e]
          refine Eq.trans ?_ ih'
          simp (maxDischargeDepth := 7) only [hgM_t, hgM_f, hgM_n, hgx_aload_n_0, hgx_iconst_4, hgx_istore_n_2i, hgx_istore_n_2r, hgx_istore_n_2f, hgx_istore_n_2n, hgx_istore_n_2l, hgx_iconst_0, hgx_istore_n_3i, hgx_istore_n_3r, hgx_istore_n_3f, hgx_istore_n_3n, hgx_istore_n_3l, hgx_istore_4i, hgx_istore_4r, hgx_istore_4f, hgx_istore_4n, hgx_istore_4l, hgx_istore_5i, hgx_istore_5r, hgx_istore_5f, hgx_istore_5n, hgx_istore_5l, hgx_iload_5, hgx_ic_ge, hgx_invstatic_1, hgx_aft_e, hgx_aft_i, hgx_aft_l, hgx_aft_v, hgx_istore_6i, hgx_istore_6r, hgx_istore_6f, hgx_istore_6n, hgx_istore_6l, hgx_iload_6, hgx_iadd, hgx_iconst_1, hgx_ic_eq, hgx_goto, hgx_iconst_5, hgx_if_le, hgx_dup2, hgx_isub, hgx_bipush_6, hgx_iinc_5_1, hgx_iconst_m1, hgx_invstatic_2, hgx_if_eq, hgx_aload_n_1, hgx_lcmp, hgx_if_ge, hgx_iinc_6_1, hgx_iload_n_2, hgx_ic_le, hgx_invstatic_3, hgx_iload_4, hgx_ishl, hgx_ior, hgx_iinc_3_1, hgx_ishr, hgx_iand, hgx_bipush_9, hgx_iconst_3, hgx_ic_ne, hgx_iconst_2, hgx_iload_n_3, hgx_ret1, hgv164_0, hgr164_0, hgu164_0, hgv164_12, ← hgu164_12, hgv164_40, hgr164_40, hgu164_40, hgv164_62, hgr164_62, hgu164_62, hgv164_77, hgr164_77, hgu164_77, hgv164_83, ← hgu164_83, hgv164_89, hgr164_89, hgv164_124, hgr164_124, hgu164_124, hgv164_128, hgr164_128, hgu164_128, hgv164_134, hgr164_134, hgu164_134, hgv164_155, hgr164_155, hgu164_155, hgv164_188, hgr164_188, hgu164_188, hgv164_191, ← hgu164_191, hgv164_218, hgr164_218, hgu164_218, hgv164_239, hgr164_239, hgu164_239, hgv164_250, hgr164_250, hgu164_250, hgv164_284, hgr164_284, hgu164_284, hgv164_290, hgr164_290, hgu164_290, hgI_SI, hgI_SJ, hgJ_SI, hgJ_SJ, if_true, if_false, reduceIte, Nat.reduceEqDiff, hgWf_SI, hgWf_SJ, hgO_SI, hgO_SJ, hgAr_SI, hgAr_SJ, hgRp_SI, hgRp_SJ, hgN_SI, hgN_SJ, hgO_g, hgO_d, hgO_rl, hgO_r, hgO_0, hgO_1, hgO_64, hgO_298, hgO_300, hgCd_0, hgCd_1, hgCd_2, hgCd_3, hgCd_4, hgCd_5, hgRecv_O, hgRecv_99, List.length_cons, List.length_nil, Nat.zero_add, Nat.add_zero, Nat.le_refl, Nat.zero_le, and_self, or_true, true_or, true_and, and_true, ne_eq, not_false_eq_true, Nat.reduceLT, Nat.reduceLeDiff, Nat.reduceAdd, Nat.reduceEqDiff, hgn_eq, hgn_lt, hgn_le, if_true, if_false, reduceIte, Nat.not_lt_zero, hgs_aa_d, hgs_aa_r, hgs_aa_h, hgs_aa_m, hgs_aa_t, hgs_ld_wp, hgs_st_wp, hgs_ld_qf, hgs_st_qf, hgs_ld_qt, hgs_st_qt, hgs_ld_2, hgs_st_2, hgs_ld_3, hgs_st_3, hgs_ld_4, hgs_st_4, hgs_ld_301, hgs_st_301, hgs_ld_D, hgs_st_D, hgs_ld_s, hgs_ld_T, hgs_st_T, hgs_ld_o, hgs_st_o, hgs_ld_b, hgs_st_b, hgs_ld_z, hgs_st_z, hgs_al_b, hgx_alen_s, hgn_add, hgn_mul, hD, hd2, hT, hn, h1, h2, h3, h4, k162, hc, hgB_t, hgOi_s, hgm1_nI, h5, h6, ei, eo, hglt_cmp, hgge_cmp, ht, not_false_eq_true]
theorem hgk_164n {mk : Int32} (hn : n ≤ 999) (hb : b ≤ 999) (hk : hgVok V c) (h : hgRV M d t V) (hs : ∀ i, vBest V = some i → ∃ z Q s, vQ V i = z :: Q ∧ z.1 = nI s ∧ b < s ∧ s ≤ 99) : hgW X 164 83 [some (.ref d), some (.ref t), some (.int (nI b)), some (.int (nI n)), some (.int mk), none, none] [] (0, 0) M = hgW X 164 191 [some (.ref d), none, none, some (.int (nI n)), some (.int mk), some (.int (nI 0)), none] [] (0, 0) M := by
  have hD := h.1
  have hd2 := h.2.1
  have hN := hk.1
  have kb := hgk_164b (X := X) (b0 := nI b) (n0 := nI n) (m0 := mk) hk h (vN V) 0 none (by omega) (fun c hc => by cases hc)
  have kb' : hgBest (vCan V) (vT V) none 0 (vN V) = vBest V := rfl
  rw [kb', hgOi_n] at kb
  rw [hgu164_83]
  cases hbest : vBest V with
  | none =>
    rw [hbest, hgOi_n] at kb
    simp (maxDischargeDepth := 7) only [hgM_t, hgM_f, hgM_n, hgx_aload_n_0, hgx_iconst_4, hgx_istore_n_2i, hgx_istore_n_2r, hgx_istore_n_2f, hgx_istore_n_2n, hgx_istore_n_2l, hgx_iconst_0, hgx_istore_n_3i, hgx_istore_n_3r, hgx_istore_n_3f, hgx_istore_n_3n, hgx_istore_n_3l, hgx_istore_4i, hgx_istore_4r, hgx_istore_4f, hgx_istore_4n, hgx_istore_4l, hgx_istore_5i, hgx_istore_5r, hgx_istore_5f, hgx_istore_5n, hgx_istore_5l, hgx_iload_5, hgx_ic_ge, hgx_invstatic_1, hgx_aft_e, hgx_aft_i, hgx_aft_l, hgx_aft_v, hgx_istore_6i, hgx_istore_6r, hgx_istore_6f, hgx_istore_6n, hgx_istore_6l, hgx_iload_6, hgx_iadd, hgx_iconst_1, hgx_ic_eq, hgx_goto, hgx_iconst_5, hgx_if_le, hgx_dup2, hgx_isub, hgx_bipush_6, hgx_iinc_5_1, hgx_iconst_m1, hgx_invstatic_2, hgx_if_eq, hgx_aload_n_1, hgx_lcmp, hgx_if_ge, hgx_iinc_6_1, hgx_iload_n_2, hgx_ic_le, hgx_invstatic_3, hgx_iload_4, hgx_ishl, hgx_ior, hgx_iinc_3_1, hgx_ishr, hgx_iand, hgx_bipush_9, hgx_iconst_3, hgx_ic_ne, hgx_iconst_2, hgx_iload_n_3, hgx_ret1, hgv164_0, hgr164_0, hgu164_0, hgv164_12, ← hgu164_12, hgv164_40, hgr164_40, hgu164_40, hgv164_62, hgr164_62, hgu164_62, hgv164_77, hgr164_77, hgu164_77, hgv164_83, hgr164_83, hgv164_89, ← hgu164_89, hgv164_124, hgr164_124, hgu164_124, hgv164_128, hgr164_128, hgu164_128, hgv164_134, hgr164_134, hgu164_134, hgv164_155, hgr164_155, hgu164_155, hgv164_188, hgr164_188, hgu164_188, hgv164_191, ← hgu164_191, hgv164_218, hgr164_218, hgu164_218, hgv164_239, hgr164_239, hgu164_239, hgv164_250, hgr164_250, hgu164_250, hgv164_284, hgr164_284, hgu164_284, hgv164_290, hgr164_290, hgu164_290, hgI_SI, hgI_SJ, hgJ_SI, hgJ_SJ, if_true, if_false, reduceIte, Nat.reduceEqDiff, hgWf_SI, hgWf_SJ, hgO_SI, hgO_SJ, hgAr_SI, hgAr_SJ, hgRp_SI, hgRp_SJ, hgN_SI, hgN_SJ, hgO_g, hgO_d, hgO_rl, hgO_r, hgO_0, hgO_1, hgO_64, hgO_298, hgO_300, hgCd_0, hgCd_1, hgCd_2, hgCd_3, hgCd_4, hgCd_5, hgRecv_O, hgRecv_99, List.length_cons, List.length_nil, Nat.zero_add, Nat.add_zero, Nat.le_refl, Nat.zero_le, and_self, or_true, true_or, true_and, and_true, ne_eq, not_false_eq_true, Nat.reduceLT, Nat.reduceLeDiff, Nat.reduceAdd, Nat.reduceEqDiff, hgn_eq, hgn_lt, hgn_le, if_true, if_false, reduceIte, Nat.not_lt_zero, hgs_aa_d, hgs_aa_r, hgs_aa_h, hgs_aa_m, hgs_aa_t, hgs_ld_wp, hgs_st_wp, hgs_ld_qf, hgs_st_qf, hgs_ld_qt, hgs_st_qt, hgs_ld_2, hgs_st_2, hgs_ld_3, hgs_st_3, hgs_ld_4, hgs_st_4, hgs_ld_301, hgs_st_301, hgs_ld_D, hgs_st_D, hgs_ld_s, hgs_ld_T, hgs_st_T, hgs_ld_o, hgs_st_o, hgs_ld_b, hgs_st_b, hgs_ld_z, hgs_st_z, hgs_al_b, hgx_alen_s, hgn_add, hgn_mul, hD, hd2, kb, hgm1_m1]
  | some i =>
    obtain ⟨hi, _⟩ := vBest_lt hbest
    obtain ⟨z, Q, s, q1, q2, q3, q4⟩ := hs i hbest
    have ez := ((h.2.2.2.2.2.2.2.1 i hi).2.2.2 0 z (by rw [q1]; rfl)).1
    rw [q2, show 1000 * i + 0 = 1000 * i from rfl] at ez
    rw [hbest, hgOi_s] at kb
    have i1 : i < 1000 := by omega
    have b1 : 187 + 2 * (1000 * i) < 20187 := by omega
    have b2 : b < 2147483648 := by omega
    have b3 : s < 2147483648 := by omega
    have b4 : ¬ s ≤ b := by omega
    simp (maxDischargeDepth := 7) only [hgM_t, hgM_f, hgM_n, hgx_aload_n_0, hgx_iconst_4, hgx_istore_n_2i, hgx_istore_n_2r, hgx_istore_n_2f, hgx_istore_n_2n, hgx_istore_n_2l, hgx_iconst_0, hgx_istore_n_3i, hgx_istore_n_3r, hgx_istore_n_3f, hgx_istore_n_3n, hgx_istore_n_3l, hgx_istore_4i, hgx_istore_4r, hgx_istore_4f, hgx_istore_4n, hgx_istore_4l, hgx_istore_5i, hgx_istore_5r, hgx_istore_5f, hgx_istore_5n, hgx_istore_5l, hgx_iload_5, hgx_ic_ge, hgx_invstatic_1, hgx_aft_e, hgx_aft_i, hgx_aft_l, hgx_aft_v, hgx_istore_6i, hgx_istore_6r, hgx_istore_6f, hgx_istore_6n, hgx_istore_6l, hgx_iload_6, hgx_iadd, hgx_iconst_1, hgx_ic_eq, hgx_goto, hgx_iconst_5, hgx_if_le, hgx_dup2, hgx_isub, hgx_bipush_6, hgx_iinc_5_1, hgx_iconst_m1, hgx_invstatic_2, hgx_if_eq, hgx_aload_n_1, hgx_lcmp, hgx_if_ge, hgx_iinc_6_1, hgx_iload_n_2, hgx_ic_le, hgx_invstatic_3, hgx_iload_4, hgx_ishl, hgx_ior, hgx_iinc_3_1, hgx_ishr, hgx_iand, hgx_bipush_9, hgx_iconst_3, hgx_ic_ne, hgx_iconst_2, hgx_iload_n_3, hgx_ret1, hgv164_0, hgr164_0, hgu164_0, hgv164_12, ← hgu164_12, hgv164_40, hgr164_40, hgu164_40, hgv164_62, hgr164_62, hgu164_62, hgv164_77, hgr164_77, hgu164_77, hgv164_83, hgr164_83, hgv164_89, ← hgu164_89, hgv164_124, hgr164_124, hgu164_124, hgv164_128, hgr164_128, hgu164_128, hgv164_134, hgr164_134, hgu164_134, hgv164_155, hgr164_155, hgu164_155, hgv164_188, hgr164_188, hgu164_188, hgv164_191, ← hgu164_191, hgv164_218, hgr164_218, hgu164_218, hgv164_239, hgr164_239, hgu164_239, hgv164_250, hgr164_250, hgu164_250, hgv164_284, hgr164_284, hgu164_284, hgv164_290, hgr164_290, hgu164_290, hgI_SI, hgI_SJ, hgJ_SI, hgJ_SJ, if_true, if_false, reduceIte, Nat.reduceEqDiff, hgWf_SI, hgWf_SJ, hgO_SI, hgO_SJ, hgAr_SI, hgAr_SJ, hgRp_SI, hgRp_SJ, hgN_SI, hgN_SJ, hgO_g, hgO_d, hgO_rl, hgO_r, hgO_0, hgO_1, hgO_64, hgO_298, hgO_300, hgCd_0, hgCd_1, hgCd_2, hgCd_3, hgCd_4, hgCd_5, hgRecv_O, hgRecv_99, List.length_cons, List.length_nil, Nat.zero_add, Nat.add_zero, Nat.le_refl, Nat.zero_le, and_self, or_true, true_or, true_and, and_true, ne_eq, not_false_eq_true, Nat.reduceLT, Nat.reduceLeDiff, Nat.reduceAdd, Nat.reduceEqDiff, hgn_eq, hgn_lt, hgn_le, if_true, if_false, reduceIte, Nat.not_lt_zero, hgs_aa_d, hgs_aa_r, hgs_aa_h, hgs_aa_m, hgs_aa_t, hgs_ld_wp, hgs_st_wp, hgs_ld_qf, hgs_st_qf, hgs_ld_qt, hgs_st_qt, hgs_ld_2, hgs_st_2, hgs_ld_3, hgs_st_3, hgs_ld_4, hgs_st_4, hgs_ld_301, hgs_st_301, hgs_ld_D, hgs_st_D, hgs_ld_s, hgs_ld_T, hgs_st_T, hgs_ld_o, hgs_st_o, hgs_ld_b, hgs_st_b, hgs_ld_z, hgs_st_z, hgs_al_b, hgx_alen_s, hgn_add, hgn_mul, hD, hd2, kb, hgm1_nI, i1, hgk_130, ez, b1, b2, b3, b4]
theorem hgk_164c : ∀ (F n b : Nat) (M : hgMem) (V : hgV) (S : Nat → Bool) (mk : Int32), n + F ≤ 999 → b ≤ F → hgWf M → hgVok V c → hgRV M d t V → hgMk mk S → ∃ M' mk', hgW X 164 83 [some (.ref d), some (.ref t), some (.int (nI b)), some (.int (nI n)), some (.int mk), none, none] [] (0, 0) M = hgW X 164 191 [some (.ref d), none, none, some (.int (nI (n + (vLine F b V S).2.2))), some (.int mk'), some (.int (nI 0)), none] [] (0, 0) M' ∧ hgWf M' ∧ hgRV M' d t (vLine F b V S).1 ∧ hgFm (fun b => b = d ∨ b = t) M M' ∧ hgMk mk' (vLine F b V S).2.1 := by
  intro F
  induction F with
  | zero =>
    intro n b M V S mk hn hb hw hk h hS
    refine ⟨M, mk, hgk_164n (by omega) (by omega) hk h (fun i hbest => ?_), hw, h, hgFm_r, hS⟩
    obtain ⟨hi, z, Q, hq⟩ := vBest_lt hbest
    obtain ⟨s, s1, s2, s3⟩ := (hk.2.2.2.1 i hi).2.2.2.1 z (by rw [hq]; simp)
    exact ⟨z, Q, s, hq, s3, by omega, s2⟩
  | succ F ih =>
    intro n b M V S mk hn hb hw hk h hS
    cases hbest : vBest V with
    | none =>
      refine ⟨M, mk, ?_, hw, ?_, hgFm_r, ?_⟩
      · rw [hgk_164n (by omega) (by omega) hk h (fun i hb2 => by rw [hbest] at hb2; cases hb2)]
        simp only [vLine, hbest, Nat.add_zero]
      · simp only [vLine, hbest]; exact h
      · simp only [vLine, hbest]; exact hS
    | some i =>
      obtain ⟨hi, z, Q, hq⟩ := vBest_lt hbest
      obtain ⟨s, s1, s2, s3⟩ := (hk.2.2.2.1 i hi).2.2.2.1 z (by rw [hq]; simp)
      have b2 : b < 2147483648 := by omega
      have b3 : s < 2147483648 := by omega
      by_cases hsb : s ≤ b
      · have z1 : z.1 ≤ nI b := by rw [s3, hgn_le b3 b2]; exact hsb
        have hcl : z.1.toNatClampNeg = s := by rw [s3]; exact hgn_cl b3
        have hN := hk.1
        have i10 : i < 10 := by omega
        obtain ⟨k163, r163⟩ := hgRV_163 (X := X) hk hi hq h
        obtain ⟨M', mk', e, w1, w2, w3, w4⟩ := ih (n + 1) (b - s) (hgDl M d t i Q.length) (vServe V i z Q) (fun j => if j = i then true else S j) (mk ||| (nI 1 <<< (nI i &&& 31))) (by omega) (by omega) (hgWf_Dl hw) (hgVok_serve hk hi hq) r163 (hgMk_s i10 hS)
        have el : vLine (F + 1) b V S = ((vLine F (b - s) (vServe V i z Q) (fun j => if j = i then true else S j)).1, (vLine F (b - s) (vServe V i z Q) (fun j => if j = i then true else S j)).2.1, (vLine F (b - s) (vServe V i z Q) (fun j => if j = i then true else S j)).2.2 + 1) := by
          simp only [vLine, hbest, hq, if_pos z1, hcl]
        rw [el]
        refine ⟨M', mk', ?_, w1, w2, hgFm_t hgDl_fr w3, w4⟩
        have hD := h.1
        have hd2 := h.2.1
        have kb := hgk_164b (X := X) (b0 := nI b) (n0 := nI n) (m0 := mk) hk h (vN V) 0 none (by omega) (fun c hc => by cases hc)
        have kb' : hgBest (vCan V) (vT V) none 0 (vN V) = vBest V := rfl
        rw [kb', hgOi_n, hbest, hgOi_s] at kb
        have ez := ((h.2.2.2.2.2.2.2.1 i hi).2.2.2 0 z (by rw [hq]; rfl)).1
        rw [s3, show 1000 * i + 0 = 1000 * i from rfl] at ez
        have i1 : i < 1000 := by omega
        have b1 : 187 + 2 * (1000 * i) < 20187 := by omega
        rw [hgu164_83]
        simp (maxDischargeDepth := 7) only [hgM_t, hgM_f, hgM_n, hgx_aload_n_0, hgx_iconst_4, hgx_istore_n_2i, hgx_istore_n_2r, hgx_istore_n_2f, hgx_istore_n_2n, hgx_istore_n_2l, hgx_iconst_0, hgx_istore_n_3i, hgx_istore_n_3r, hgx_istore_n_3f, hgx_istore_n_3n, hgx_istore_n_3l, hgx_istore_4i, hgx_istore_4r, hgx_istore_4f, hgx_istore_4n, hgx_istore_4l, hgx_istore_5i, hgx_istore_5r, hgx_istore_5f, hgx_istore_5n, hgx_istore_5l, hgx_iload_5, hgx_ic_ge, hgx_invstatic_1, hgx_aft_e, hgx_aft_i, hgx_aft_l, hgx_aft_v, hgx_istore_6i, hgx_istore_6r, hgx_istore_6f, hgx_istore_6n, hgx_istore_6l, hgx_iload_6, hgx_iadd, hgx_iconst_1, hgx_ic_eq, hgx_goto, hgx_iconst_5, hgx_if_le, hgx_dup2, hgx_isub, hgx_bipush_6, hgx_iinc_5_1, hgx_iconst_m1, hgx_invstatic_2, hgx_if_eq, hgx_aload_n_1, hgx_lcmp, hgx_if_ge, hgx_iinc_6_1, hgx_iload_n_2, hgx_ic_le, hgx_invstatic_3, hgx_iload_4, hgx_ishl, hgx_ior, hgx_iinc_3_1, hgx_ishr, hgx_iand, hgx_bipush_9, hgx_iconst_3, hgx_ic_ne, hgx_iconst_2, hgx_iload_n_3, hgx_ret1, hgv164_0, hgr164_0, hgu164_0, hgv164_12, ← hgu164_12, hgv164_40, hgr164_40, hgu164_40, hgv164_62, hgr164_62, hgu164_62, hgv164_77, hgr164_77, hgu164_77, hgv164_83, hgr164_83, hgv164_89, ← hgu164_89, hgv164_124, hgr164_124, hgu164_124, hgv164_128, hgr164_128, hgu164_128, hgv164_134, hgr164_134, hgu164_134, hgv164_155, hgr164_155, hgu164_155, hgv164_188, hgr164_188, hgu164_188, hgv164_191, ← hgu164_191, hgv164_218, hgr164_218, hgu164_218, hgv164_239, hgr164_239, hgu164_239, hgv164_250, hgr164_250, hgu164_250, hgv164_284, hgr164_284, hgu164_284, hgv164_290, hgr164_290, hgu164_290, hgI_SI, hgI_SJ, hgJ_SI, hgJ_SJ, if_true, if_false, reduceIte, Nat.reduceEqDiff, hgWf_SI, hgWf_SJ, hgO_SI, hgO_SJ, hgAr_SI, hgAr_SJ, hgRp_SI, hgRp_SJ, hgN_SI, hgN_SJ, hgO_g, hgO_d, hgO_rl, hgO_r, hgO_0, hgO_1, hgO_64, hgO_298, hgO_300, hgCd_0, hgCd_1, hgCd_2, hgCd_3, hgCd_4, hgCd_5, hgRecv_O, hgRecv_99, List.length_cons, List.length_nil, Nat.zero_add, Nat.add_zero, Nat.le_refl, Nat.zero_le, and_self, or_true, true_or, true_and, and_true, ne_eq, not_false_eq_true, Nat.reduceLT, Nat.reduceLeDiff, Nat.reduceAdd, Nat.reduceEqDiff, hgn_eq, hgn_lt, hgn_le, if_true, if_false, reduceIte, Nat.not_lt_zero, hgs_aa_d, hgs_aa_r, hgs_aa_h, hgs_aa_m, hgs_aa_t, hgs_ld_wp, hgs_st_wp, hgs_ld_qf, hgs_st_qf, hgs_ld_qt, hgs_st_qt, hgs_ld_2, hgs_st_2, hgs_ld_3, hgs_st_3, hgs_ld_4, hgs_st_4, hgs_ld_301, hgs_st_301, hgs_ld_D, hgs_st_D, hgs_ld_s, hgs_ld_T, hgs_st_T, hgs_ld_o, hgs_st_o, hgs_ld_b, hgs_st_b, hgs_ld_z, hgs_st_z, hgs_al_b, hgx_alen_s, hgn_add, hgn_mul, hD, hd2, kb, hgm1_nI, i1, hgk_130, ez, b1, b2, b3, hsb, k163, hgn_sub]
        rw [show n + ((vLine F (b - s) (vServe V i z Q) (fun j => if j = i then true else S j)).2.2 + 1) = n + 1 + (vLine F (b - s) (vServe V i z Q) (fun j => if j = i then true else S j)).2.2 by omega]
        exact e
      · have z1 : ¬ z.1 ≤ nI b := by rw [s3, hgn_le b3 b2]; exact hsb
        refine ⟨M, mk, ?_, hw, ?_, hgFm_r, ?_⟩
        · rw [hgk_164n (by omega) (by omega) hk h (fun i2 hb2 => by
            rw [hbest] at hb2
            cases hb2
            exact ⟨z, Q, s, hq, s3, by omega, s2⟩)]
          simp only [vLine, hbest, hq, if_neg z1, Nat.add_zero]
        · simp only [vLine, hbest, hq, if_neg z1]; exact h
        · simp only [vLine, hbest, hq, if_neg z1]; exact hS
theorem hgk_164e {mk : Int32} : ∀ (k i : Nat) (M : hgMem) (V : hgV), i + k = vN V → hgRV M d t V → hgWf M → hgSm V → hgMk mk S → ∃ M', hgW X 164 191 [some (.ref d), none, none, some (.int x), some (.int mk), some (.int (nI i)), none] [] (0, 0) M = hgW X 164 290 [some (.ref d), none, none, some (.int x), none, none, none] [] (0, 0) M' ∧ hgWf M' ∧ hgRV M' d t (vEn S i k V) ∧ hgFm (fun b => b = d ∨ b = t) M M' := by
  intro k
  induction k with
  | zero =>
    intro i M V hi h hw hm hS
    have hN := hm.1
    have h1 : i < 2147483648 := by omega
    have h2 : vN V < 2147483648 := by omega
    have h3 : vN V ≤ i := by omega
    have hD := h.1
    have hd2 := h.2.1
    have hn := h.2.2.2.1
    refine ⟨M, ?_, hw, h, hgFm_r⟩
    rw [hgu164_191]
    simp (maxDischargeDepth := 7) only [hgx_iload_5, hgx_aload_n_0, hgx_iconst_0, hgx_ic_ge, hgr164_191, hgv164_290, hgM_t, hgM_f, hgM_n, hgI_SI, hgI_SJ, hgJ_SI, hgJ_SJ, if_true, if_false, reduceIte, Nat.reduceEqDiff, hgWf_SI, hgWf_SJ, hgO_SI, hgO_SJ, hgAr_SI, hgAr_SJ, hgRp_SI, hgRp_SJ, hgN_SI, hgN_SJ, hgO_g, hgO_d, hgO_rl, hgO_r, hgO_0, hgO_1, hgO_64, hgO_298, hgO_300, hgCd_0, hgCd_1, hgCd_2, hgCd_3, hgCd_4, hgCd_5, hgRecv_O, hgRecv_99, List.length_cons, List.length_nil, Nat.zero_add, Nat.add_zero, Nat.le_refl, Nat.zero_le, and_self, or_true, true_or, true_and, and_true, ne_eq, not_false_eq_true, Nat.reduceLT, Nat.reduceLeDiff, Nat.reduceAdd, Nat.reduceEqDiff, hgn_eq, hgn_lt, hgn_le, if_true, if_false, reduceIte, Nat.not_lt_zero, hgs_aa_d, hgs_aa_r, hgs_aa_h, hgs_aa_m, hgs_aa_t, hgs_ld_wp, hgs_st_wp, hgs_ld_qf, hgs_st_qf, hgs_ld_qt, hgs_st_qt, hgs_ld_2, hgs_st_2, hgs_ld_3, hgs_st_3, hgs_ld_4, hgs_st_4, hgs_ld_301, hgs_st_301, hgs_ld_D, hgs_st_D, hgs_ld_s, hgs_ld_T, hgs_st_T, hgs_ld_o, hgs_st_o, hgs_ld_b, hgs_st_b, hgs_ld_z, hgs_st_z, hgs_al_b, hgx_alen_s, hgn_add, hgn_mul, hD, hd2, hn, h1, h2, h3]
  | succ k ih =>
    intro i M V hi h hw hm hS
    have hN := hm.1
    have h1 : i < 2147483648 := by omega
    have h2 : vN V < 2147483648 := by omega
    have h3 : ¬ vN V ≤ i := by omega
    have h4 : i < 10 := by omega
    have b3 : 27 + 10 * i + 3 < 20187 := by omega
    have b4 : 27 + 10 * i + 4 < 20187 := by omega
    have b6 : 27 + 10 * i + 6 < 20187 := by omega
    have b9 : 27 + 10 * i + 9 < 20187 := by omega
    have hD := h.1
    have hd2 := h.2.1
    have hn := h.2.2.2.1
    have hd := h.2.2.2.2.2.2.2.1 i (by omega)
    have e3 := hd.1 3 (by omega)
    have e4 := hd.1 4 (by omega)
    have e6 := hd.1 6 (by omega)
    have e9 := hd.2.1
    have hl := hm.2.2.2 i (by omega)
    have l1 : (vQ V i).length < 2147483648 := by omega
    have hk9 := hS i h4
    have nn : i + 1 + k = vN (vEt S V i) := by rw [hgLi_N hgLi_et]; omega
    have hm2 : hgSm (vEt S V i) := hgLi_sm hgLi_et hm
    by_cases c4 : vD V i 4 = nI 0
    · by_cases c5 : S i = false ∧ (vQ V i).length ≤ 0
      · have c5a : ¬ ((mk >>> (nI i &&& 31)) &&& nI 1 = nI 1) := fun q => by
          have := hk9.mp q
          rw [c5.1] at this
          cases this
        have c5b := c5.2
        have c73 : ¬ 27 + 10 * i = 27 + 10 * i + 3 := by omega
        by_cases c6 : vD V i 6 + nI 1 = vD V i 3
        · have ev : vEt S V i = vSd (vSd V i 6 (vD V i 6 + nI 1)) i 4 (nI 2) := by
            unfold vEt
            rw [if_pos c4, if_pos c5.1, if_pos c5.2, if_pos c6]
          have hr : hgRV (hgSI (hgSI M d (27 + 10 * i + 6) (vD V i 6 + nI 1)) d (27 + 10 * i + 4) (nI 2)) d t (vEt S V i) := by
            rw [ev]
            exact hgRV_sd hm h4 (by omega) (hgRV_sd hm h4 (by omega) h)
          obtain ⟨M', e, y1, y2, y3⟩ := ih (i + 1) _ (vEt S V i) nn hr hw hm2 hS
          refine ⟨M', ?_, y1, y2, hgFm_t (hgFm_SI (hgFm_SI hgFm_r (Or.inl rfl)) (Or.inl rfl)) y3⟩
          refine Eq.trans ?_ e
          rw [hgu164_191]
          simp (maxDischargeDepth := 7) only [hgM_t, hgM_f, hgM_n, hgx_aload_n_0, hgx_iconst_4, hgx_istore_n_2i, hgx_istore_n_2r, hgx_istore_n_2f, hgx_istore_n_2n, hgx_istore_n_2l, hgx_iconst_0, hgx_istore_n_3i, hgx_istore_n_3r, hgx_istore_n_3f, hgx_istore_n_3n, hgx_istore_n_3l, hgx_istore_4i, hgx_istore_4r, hgx_istore_4f, hgx_istore_4n, hgx_istore_4l, hgx_istore_5i, hgx_istore_5r, hgx_istore_5f, hgx_istore_5n, hgx_istore_5l, hgx_iload_5, hgx_ic_ge, hgx_invstatic_1, hgx_aft_e, hgx_aft_i, hgx_aft_l, hgx_aft_v, hgx_istore_6i, hgx_istore_6r, hgx_istore_6f, hgx_istore_6n, hgx_istore_6l, hgx_iload_6, hgx_iadd, hgx_iconst_1, hgx_ic_eq, hgx_goto, hgx_iconst_5, hgx_if_le, hgx_dup2, hgx_isub, hgx_bipush_6, hgx_iinc_5_1, hgx_iconst_m1, hgx_invstatic_2, hgx_if_eq, hgx_aload_n_1, hgx_lcmp, hgx_if_ge, hgx_iinc_6_1, hgx_iload_n_2, hgx_ic_le, hgx_invstatic_3, hgx_iload_4, hgx_ishl, hgx_ior, hgx_iinc_3_1, hgx_ishr, hgx_iand, hgx_bipush_9, hgx_iconst_3, hgx_ic_ne, hgx_iconst_2, hgx_iload_n_3, hgx_ret1, hgv164_0, hgr164_0, hgu164_0, hgv164_12, ← hgu164_12, hgv164_40, hgr164_40, hgu164_40, hgv164_62, hgr164_62, hgu164_62, hgv164_77, hgr164_77, hgu164_77, hgv164_83, ← hgu164_83, hgv164_89, ← hgu164_89, hgv164_124, hgr164_124, hgu164_124, hgv164_128, hgr164_128, hgu164_128, hgv164_134, hgr164_134, hgu164_134, hgv164_155, hgr164_155, hgu164_155, hgv164_188, hgr164_188, hgu164_188, hgv164_191, hgr164_191, hgv164_218, hgr164_218, hgu164_218, hgv164_239, hgr164_239, hgu164_239, hgv164_250, hgr164_250, hgu164_250, hgv164_284, hgr164_284, hgu164_284, hgv164_290, hgr164_290, hgu164_290, hgI_SI, hgI_SJ, hgJ_SI, hgJ_SJ, if_true, if_false, reduceIte, Nat.reduceEqDiff, hgWf_SI, hgWf_SJ, hgO_SI, hgO_SJ, hgAr_SI, hgAr_SJ, hgRp_SI, hgRp_SJ, hgN_SI, hgN_SJ, hgO_g, hgO_d, hgO_rl, hgO_r, hgO_0, hgO_1, hgO_64, hgO_298, hgO_300, hgCd_0, hgCd_1, hgCd_2, hgCd_3, hgCd_4, hgCd_5, hgRecv_O, hgRecv_99, List.length_cons, List.length_nil, Nat.zero_add, Nat.add_zero, Nat.le_refl, Nat.zero_le, and_self, or_true, true_or, true_and, and_true, ne_eq, not_false_eq_true, Nat.reduceLT, Nat.reduceLeDiff, Nat.reduceAdd, Nat.reduceEqDiff, hgn_eq, hgn_lt, hgn_le, if_true, if_false, reduceIte, Nat.not_lt_zero, hgs_aa_d, hgs_aa_r, hgs_aa_h, hgs_aa_m, hgs_aa_t, hgs_ld_wp, hgs_st_wp, hgs_ld_qf, hgs_st_qf, hgs_ld_qt, hgs_st_qt, hgs_ld_2, hgs_st_2, hgs_ld_3, hgs_st_3, hgs_ld_4, hgs_st_4, hgs_ld_301, hgs_st_301, hgs_ld_D, hgs_st_D, hgs_ld_s, hgs_ld_T, hgs_st_T, hgs_ld_o, hgs_st_o, hgs_ld_b, hgs_st_b, hgs_ld_z, hgs_st_z, hgs_al_b, hgx_alen_s, hgn_add, hgn_mul, hD, hd2, hn, h1, h2, h3, hgk_128, e3, e4, e6, e9, c4, b3, b4, b6, b9, l1, c5a, c5b, c6, c73]
        · have ev : vEt S V i = vSd V i 6 (vD V i 6 + nI 1) := by
            unfold vEt
            rw [if_pos c4, if_pos c5.1, if_pos c5.2, if_neg c6]
          have hr : hgRV (hgSI M d (27 + 10 * i + 6) (vD V i 6 + nI 1)) d t (vEt S V i) := by
            rw [ev]
            exact hgRV_sd hm h4 (by omega) h
          obtain ⟨M', e, y1, y2, y3⟩ := ih (i + 1) _ (vEt S V i) nn hr hw hm2 hS
          refine ⟨M', ?_, y1, y2, hgFm_t (hgFm_SI hgFm_r (Or.inl rfl)) y3⟩
          refine Eq.trans ?_ e
          rw [hgu164_191]
          simp (maxDischargeDepth := 7) only [hgM_t, hgM_f, hgM_n, hgx_aload_n_0, hgx_iconst_4, hgx_istore_n_2i, hgx_istore_n_2r, hgx_istore_n_2f, hgx_istore_n_2n, hgx_istore_n_2l, hgx_iconst_0, hgx_istore_n_3i, hgx_istore_n_3r, hgx_istore_n_3f, hgx_istore_n_3n, hgx_istore_n_3l, hgx_istore_4i, hgx_istore_4r, hgx_istore_4f, hgx_istore_4n, hgx_istore_4l, hgx_istore_5i, hgx_istore_5r, hgx_istore_5f, hgx_istore_5n, hgx_istore_5l, hgx_iload_5, hgx_ic_ge, hgx_invstatic_1, hgx_aft_e, hgx_aft_i, hgx_aft_l, hgx_aft_v, hgx_istore_6i, hgx_istore_6r, hgx_istore_6f, hgx_istore_6n, hgx_istore_6l, hgx_iload_6, hgx_iadd, hgx_iconst_1, hgx_ic_eq, hgx_goto, hgx_iconst_5, hgx_if_le, hgx_dup2, hgx_isub, hgx_bipush_6, hgx_iinc_5_1, hgx_iconst_m1, hgx_invstatic_2, hgx_if_eq, hgx_aload_n_1, hgx_lcmp, hgx_if_ge, hgx_iinc_6_1, hgx_iload_n_2, hgx_ic_le, hgx_invstatic_3, hgx_iload_4, hgx_ishl, hgx_ior, hgx_iinc_3_1, hgx_ishr, hgx_iand, hgx_bipush_9, hgx_iconst_3, hgx_ic_ne, hgx_iconst_2, hgx_iload_n_3, hgx_ret1, hgv164_0, hgr164_0, hgu164_0, hgv164_12, ← hgu164_12, hgv164_40, hgr164_40, hgu164_40, hgv164_62, hgr164_62, hgu164_62, hgv164_77, hgr164_77, hgu164_77, hgv164_83, ← hgu164_83, hgv164_89, ← hgu164_89, hgv164_124, hgr164_124, hgu164_124, hgv164_128, hgr164_128, hgu164_128, hgv164_134, hgr164_134, hgu164_134, hgv164_155, hgr164_155, hgu164_155, hgv164_188, hgr164_188, hgu164_188, hgv164_191, hgr164_191, hgv164_218, hgr164_218, hgu164_218, hgv164_239, hgr164_239, hgu164_239, hgv164_250, hgr164_250, hgu164_250, hgv164_284, hgr164_284, hgu164_284, hgv164_290, hgr164_290, hgu164_290, hgI_SI, hgI_SJ, hgJ_SI, hgJ_SJ, if_true, if_false, reduceIte, Nat.reduceEqDiff, hgWf_SI, hgWf_SJ, hgO_SI, hgO_SJ, hgAr_SI, hgAr_SJ, hgRp_SI, hgRp_SJ, hgN_SI, hgN_SJ, hgO_g, hgO_d, hgO_rl, hgO_r, hgO_0, hgO_1, hgO_64, hgO_298, hgO_300, hgCd_0, hgCd_1, hgCd_2, hgCd_3, hgCd_4, hgCd_5, hgRecv_O, hgRecv_99, List.length_cons, List.length_nil, Nat.zero_add, Nat.add_zero, Nat.le_refl, Nat.zero_le, and_self, or_true, true_or, true_and, and_true, ne_eq, not_false_eq_true, Nat.reduceLT, Nat.reduceLeDiff, Nat.reduceAdd, Nat.reduceEqDiff, hgn_eq, hgn_lt, hgn_le, if_true, if_false, reduceIte, Nat.not_lt_zero, hgs_aa_d, hgs_aa_r, hgs_aa_h, hgs_aa_m, hgs_aa_t, hgs_ld_wp, hgs_st_wp, hgs_ld_qf, hgs_st_qf, hgs_ld_qt, hgs_st_qt, hgs_ld_2, hgs_st_2, hgs_ld_3, hgs_st_3, hgs_ld_4, hgs_st_4, hgs_ld_301, hgs_st_301, hgs_ld_D, hgs_st_D, hgs_ld_s, hgs_ld_T, hgs_st_T, hgs_ld_o, hgs_st_o, hgs_ld_b, hgs_st_b, hgs_ld_z, hgs_st_z, hgs_al_b, hgx_alen_s, hgn_add, hgn_mul, hD, hd2, hn, h1, h2, h3, hgk_128, e3, e4, e6, e9, c4, b3, b4, b6, b9, l1, c5a, c5b, c6, c73]
      · have ev : vEt S V i = vSd V i 6 (nI 0) := by
          unfold vEt
          rw [if_pos c4]
          by_cases q : S i = false
          · rw [if_pos q, if_neg (fun w => c5 ⟨q, w⟩)]
          · rw [if_neg q]
        have hr : hgRV (hgSI M d (27 + 10 * i + 6) (nI 0)) d t (vEt S V i) := by
          rw [ev]
          exact hgRV_sd hm h4 (by omega) h
        obtain ⟨M', e, y1, y2, y3⟩ := ih (i + 1) _ (vEt S V i) nn hr hw hm2 hS
        refine ⟨M', ?_, y1, y2, hgFm_t (hgFm_SI hgFm_r (Or.inl rfl)) y3⟩
        refine Eq.trans ?_ e
        rw [hgu164_191]
        by_cases c6 : (mk >>> (nI i &&& 31)) &&& nI 1 = nI 1
        · simp (maxDischargeDepth := 7) only [hgM_t, hgM_f, hgM_n, hgx_aload_n_0, hgx_iconst_4, hgx_istore_n_2i, hgx_istore_n_2r, hgx_istore_n_2f, hgx_istore_n_2n, hgx_istore_n_2l, hgx_iconst_0, hgx_istore_n_3i, hgx_istore_n_3r, hgx_istore_n_3f, hgx_istore_n_3n, hgx_istore_n_3l, hgx_istore_4i, hgx_istore_4r, hgx_istore_4f, hgx_istore_4n, hgx_istore_4l, hgx_istore_5i, hgx_istore_5r, hgx_istore_5f, hgx_istore_5n, hgx_istore_5l, hgx_iload_5, hgx_ic_ge, hgx_invstatic_1, hgx_aft_e, hgx_aft_i, hgx_aft_l, hgx_aft_v, hgx_istore_6i, hgx_istore_6r, hgx_istore_6f, hgx_istore_6n, hgx_istore_6l, hgx_iload_6, hgx_iadd, hgx_iconst_1, hgx_ic_eq, hgx_goto, hgx_iconst_5, hgx_if_le, hgx_dup2, hgx_isub, hgx_bipush_6, hgx_iinc_5_1, hgx_iconst_m1, hgx_invstatic_2, hgx_if_eq, hgx_aload_n_1, hgx_lcmp, hgx_if_ge, hgx_iinc_6_1, hgx_iload_n_2, hgx_ic_le, hgx_invstatic_3, hgx_iload_4, hgx_ishl, hgx_ior, hgx_iinc_3_1, hgx_ishr, hgx_iand, hgx_bipush_9, hgx_iconst_3, hgx_ic_ne, hgx_iconst_2, hgx_iload_n_3, hgx_ret1, hgv164_0, hgr164_0, hgu164_0, hgv164_12, ← hgu164_12, hgv164_40, hgr164_40, hgu164_40, hgv164_62, hgr164_62, hgu164_62, hgv164_77, hgr164_77, hgu164_77, hgv164_83, ← hgu164_83, hgv164_89, ← hgu164_89, hgv164_124, hgr164_124, hgu164_124, hgv164_128, hgr164_128, hgu164_128, hgv164_134, hgr164_134, hgu164_134, hgv164_155, hgr164_155, hgu164_155, hgv164_188, hgr164_188, hgu164_188, hgv164_191, hgr164_191, hgv164_218, hgr164_218, hgu164_218, hgv164_239, hgr164_239, hgu164_239, hgv164_250, hgr164_250, hgu164_250, hgv164_284, hgr164_284, hgu164_284, hgv164_290, hgr164_290, hgu164_290, hgI_SI, hgI_SJ, hgJ_SI, hgJ_SJ, if_true, if_false, reduceIte, Nat.reduceEqDiff, hgWf_SI, hgWf_SJ, hgO_SI, hgO_SJ, hgAr_SI, hgAr_SJ, hgRp_SI, hgRp_SJ, hgN_SI, hgN_SJ, hgO_g, hgO_d, hgO_rl, hgO_r, hgO_0, hgO_1, hgO_64, hgO_298, hgO_300, hgCd_0, hgCd_1, hgCd_2, hgCd_3, hgCd_4, hgCd_5, hgRecv_O, hgRecv_99, List.length_cons, List.length_nil, Nat.zero_add, Nat.add_zero, Nat.le_refl, Nat.zero_le, and_self, or_true, true_or, true_and, and_true, ne_eq, not_false_eq_true, Nat.reduceLT, Nat.reduceLeDiff, Nat.reduceAdd, Nat.reduceEqDiff, hgn_eq, hgn_lt, hgn_le, if_true, if_false, reduceIte, Nat.not_lt_zero, hgs_aa_d, hgs_aa_r, hgs_aa_h, hgs_aa_m, hgs_aa_t, hgs_ld_wp, hgs_st_wp, hgs_ld_qf, hgs_st_qf, hgs_ld_qt, hgs_st_qt, hgs_ld_2, hgs_st_2, hgs_ld_3, hgs_st_3, hgs_ld_4, hgs_st_4, hgs_ld_301, hgs_st_301, hgs_ld_D, hgs_st_D, hgs_ld_s, hgs_ld_T, hgs_st_T, hgs_ld_o, hgs_st_o, hgs_ld_b, hgs_st_b, hgs_ld_z, hgs_st_z, hgs_al_b, hgx_alen_s, hgn_add, hgn_mul, hD, hd2, hn, h1, h2, h3, hgk_128, e3, e4, e6, e9, c4, b3, b4, b6, b9, l1, c6]
        · have c7 : ¬ (vQ V i).length ≤ 0 := fun q => c5 ⟨by
            cases hh : S i with
            | false => rfl
            | true => exact absurd (hk9.mpr hh) c6, q⟩
          simp (maxDischargeDepth := 7) only [hgM_t, hgM_f, hgM_n, hgx_aload_n_0, hgx_iconst_4, hgx_istore_n_2i, hgx_istore_n_2r, hgx_istore_n_2f, hgx_istore_n_2n, hgx_istore_n_2l, hgx_iconst_0, hgx_istore_n_3i, hgx_istore_n_3r, hgx_istore_n_3f, hgx_istore_n_3n, hgx_istore_n_3l, hgx_istore_4i, hgx_istore_4r, hgx_istore_4f, hgx_istore_4n, hgx_istore_4l, hgx_istore_5i, hgx_istore_5r, hgx_istore_5f, hgx_istore_5n, hgx_istore_5l, hgx_iload_5, hgx_ic_ge, hgx_invstatic_1, hgx_aft_e, hgx_aft_i, hgx_aft_l, hgx_aft_v, hgx_istore_6i, hgx_istore_6r, hgx_istore_6f, hgx_istore_6n, hgx_istore_6l, hgx_iload_6, hgx_iadd, hgx_iconst_1, hgx_ic_eq, hgx_goto, hgx_iconst_5, hgx_if_le, hgx_dup2, hgx_isub, hgx_bipush_6, hgx_iinc_5_1, hgx_iconst_m1, hgx_invstatic_2, hgx_if_eq, hgx_aload_n_1, hgx_lcmp, hgx_if_ge, hgx_iinc_6_1, hgx_iload_n_2, hgx_ic_le, hgx_invstatic_3, hgx_iload_4, hgx_ishl, hgx_ior, hgx_iinc_3_1, hgx_ishr, hgx_iand, hgx_bipush_9, hgx_iconst_3, hgx_ic_ne, hgx_iconst_2, hgx_iload_n_3, hgx_ret1, hgv164_0, hgr164_0, hgu164_0, hgv164_12, ← hgu164_12, hgv164_40, hgr164_40, hgu164_40, hgv164_62, hgr164_62, hgu164_62, hgv164_77, hgr164_77, hgu164_77, hgv164_83, ← hgu164_83, hgv164_89, ← hgu164_89, hgv164_124, hgr164_124, hgu164_124, hgv164_128, hgr164_128, hgu164_128, hgv164_134, hgr164_134, hgu164_134, hgv164_155, hgr164_155, hgu164_155, hgv164_188, hgr164_188, hgu164_188, hgv164_191, hgr164_191, hgv164_218, hgr164_218, hgu164_218, hgv164_239, hgr164_239, hgu164_239, hgv164_250, hgr164_250, hgu164_250, hgv164_284, hgr164_284, hgu164_284, hgv164_290, hgr164_290, hgu164_290, hgI_SI, hgI_SJ, hgJ_SI, hgJ_SJ, if_true, if_false, reduceIte, Nat.reduceEqDiff, hgWf_SI, hgWf_SJ, hgO_SI, hgO_SJ, hgAr_SI, hgAr_SJ, hgRp_SI, hgRp_SJ, hgN_SI, hgN_SJ, hgO_g, hgO_d, hgO_rl, hgO_r, hgO_0, hgO_1, hgO_64, hgO_298, hgO_300, hgCd_0, hgCd_1, hgCd_2, hgCd_3, hgCd_4, hgCd_5, hgRecv_O, hgRecv_99, List.length_cons, List.length_nil, Nat.zero_add, Nat.add_zero, Nat.le_refl, Nat.zero_le, and_self, or_true, true_or, true_and, and_true, ne_eq, not_false_eq_true, Nat.reduceLT, Nat.reduceLeDiff, Nat.reduceAdd, Nat.reduceEqDiff, hgn_eq, hgn_lt, hgn_le, if_true, if_false, reduceIte, Nat.not_lt_zero, hgs_aa_d, hgs_aa_r, hgs_aa_h, hgs_aa_m, hgs_aa_t, hgs_ld_wp, hgs_st_wp, hgs_ld_qf, hgs_st_qf, hgs_ld_qt, hgs_st_qt, hgs_ld_2, hgs_st_2, hgs_ld_3, hgs_st_3, hgs_ld_4, hgs_st_4, hgs_ld_301, hgs_st_301, hgs_ld_D, hgs_st_D, hgs_ld_s, hgs_ld_T, hgs_st_T, hgs_ld_o, hgs_st_o, hgs_ld_b, hgs_st_b, hgs_ld_z, hgs_st_z, hgs_al_b, hgx_alen_s, hgn_add, hgn_mul, hD, hd2, hn, h1, h2, h3, hgk_128, e3, e4, e6, e9, c4, b3, b4, b6, b9, l1, c6, c7]
    · have ev : vEt S V i = V := by
        unfold vEt
        rw [if_neg c4]
      have hr : hgRV M d t (vEt S V i) := by rw [ev]; exact h
      obtain ⟨M', e, y1, y2, y3⟩ := ih (i + 1) M (vEt S V i) nn hr hw hm2 hS
      refine ⟨M', ?_, y1, y2, y3⟩
      refine Eq.trans ?_ e
      rw [hgu164_191]
      simp (maxDischargeDepth := 7) only [hgM_t, hgM_f, hgM_n, hgx_aload_n_0, hgx_iconst_4, hgx_istore_n_2i, hgx_istore_n_2r, hgx_istore_n_2f, hgx_istore_n_2n, hgx_istore_n_2l, hgx_iconst_0, hgx_istore_n_3i, hgx_istore_n_3r, hgx_istore_n_3f, hgx_istore_n_3n, hgx_istore_n_3l, hgx_istore_4i, hgx_istore_4r, hgx_istore_4f, hgx_istore_4n, hgx_istore_4l, hgx_istore_5i, hgx_istore_5r, hgx_istore_5f, hgx_istore_5n, hgx_istore_5l, hgx_iload_5, hgx_ic_ge, hgx_invstatic_1, hgx_aft_e, hgx_aft_i, hgx_aft_l, hgx_aft_v, hgx_istore_6i, hgx_istore_6r, hgx_istore_6f, hgx_istore_6n, hgx_istore_6l, hgx_iload_6, hgx_iadd, hgx_iconst_1, hgx_ic_eq, hgx_goto, hgx_iconst_5, hgx_if_le, hgx_dup2, hgx_isub, hgx_bipush_6, hgx_iinc_5_1, hgx_iconst_m1, hgx_invstatic_2, hgx_if_eq, hgx_aload_n_1, hgx_lcmp, hgx_if_ge, hgx_iinc_6_1, hgx_iload_n_2, hgx_ic_le, hgx_invstatic_3, hgx_iload_4, hgx_ishl, hgx_ior, hgx_iinc_3_1, hgx_ishr, hgx_iand, hgx_bipush_9, hgx_iconst_3, hgx_ic_ne, hgx_iconst_2, hgx_iload_n_3, hgx_ret1, hgv164_0, hgr164_0, hgu164_0, hgv164_12, ← hgu164_12, hgv164_40, hgr164_40, hgu164_40, hgv164_62, hgr164_62, hgu164_62, hgv164_77, hgr164_77, hgu164_77, hgv164_83, ← hgu164_83, hgv164_89, ← hgu164_89, hgv164_124, hgr164_124, hgu164_124, hgv164_128, hgr164_128, hgu164_128, hgv164_134, hgr164_134, hgu164_134, hgv164_155, hgr164_155, hgu164_155, hgv164_188, hgr164_188, hgu164_188, hgv164_191, hgr164_191, hgv164_218, hgr164_218, hgu164_218, hgv164_239, hgr164_239, hgu164_239, hgv164_250, hgr164_250, hgu164_250, hgv164_284, hgr164_284, hgu164_284, hgv164_290, hgr164_290, hgu164_290, hgI_SI, hgI_SJ, hgJ_SI, hgJ_SJ, if_true, if_false, reduceIte, Nat.reduceEqDiff, hgWf_SI, hgWf_SJ, hgO_SI, hgO_SJ, hgAr_SI, hgAr_SJ, hgRp_SI, hgRp_SJ, hgN_SI, hgN_SJ, hgO_g, hgO_d, hgO_rl, hgO_r, hgO_0, hgO_1, hgO_64, hgO_298, hgO_300, hgCd_0, hgCd_1, hgCd_2, hgCd_3, hgCd_4, hgCd_5, hgRecv_O, hgRecv_99, List.length_cons, List.length_nil, Nat.zero_add, Nat.add_zero, Nat.le_refl, Nat.zero_le, and_self, or_true, true_or, true_and, and_true, ne_eq, not_false_eq_true, Nat.reduceLT, Nat.reduceLeDiff, Nat.reduceAdd, Nat.reduceEqDiff, hgn_eq, hgn_lt, hgn_le, if_true, if_false, reduceIte, Nat.not_lt_zero, hgs_aa_d, hgs_aa_r, hgs_aa_h, hgs_aa_m, hgs_aa_t, hgs_ld_wp, hgs_st_wp, hgs_ld_qf, hgs_st_qf, hgs_ld_qt, hgs_st_qt, hgs_ld_2, hgs_st_2, hgs_ld_3, hgs_st_3, hgs_ld_4, hgs_st_4, hgs_ld_301, hgs_st_301, hgs_ld_D, hgs_st_D, hgs_ld_s, hgs_ld_T, hgs_st_T, hgs_ld_o, hgs_st_o, hgs_ld_b, hgs_st_b, hgs_ld_z, hgs_st_z, hgs_al_b, hgx_alen_s, hgn_add, hgn_mul, hD, hd2, hn, h1, h2, h3, hgk_128, e4, c4, b4]
theorem hgVok_line : ∀ (F b : Nat) (V : hgV) (S : Nat → Bool), hgVok V c → hgVok (vLine F b V S).1 c
  | 0, _, _, _, h => h
  | F + 1, b, V, S, h => by
    unfold vLine
    split
    · exact h
    · next i hb =>
      obtain ⟨hi, _⟩ := vBest_lt hb
      split
      · exact h
      · next z Q hq =>
        split
        · exact hgVok_line F (b - z.1.toNatClampNeg) (vServe V i z Q) (fun j => if j = i then true else S j) (hgVok_serve h hi hq)
        · exact h
/-- the reference's tick -/
theorem hgk_164 (hw : hgWf M) (hk : hgVok V c) (h : hgRV M d t V) : ∃ M', hgWC X 164 [.ref d, .ref t] M = some (.inl (.int (nI (vTickN V))), M') ∧ hgWf M' ∧ hgRV M' d t (vTick V) ∧ hgFm (fun b => b = d ∨ b = t) M M' := by
  have hD := h.1
  have hd2 := h.2.1
  obtain ⟨r1, r2⟩ := vRt_e hk
  obtain ⟨M1, e1, w1, w2, w3⟩ := hgk_164a (X := X) (x := nI (vRt V)) (v6 := none) (vN V) 0 M V (by omega) h hw hk
  have l1 := hgLi_bg (vN V) 0 V
  have nb : vN (vBg 0 (vN V) V) = vN V := hgLi_N l1
  have sb : vS (vBg 0 (vN V) V) = vS V := by unfold vS; rw [l1.2.1]
  have hk1 : hgVok (vBg 0 (vN V) V) c := hgVok_bg (vN V) 0 V hk
  obtain ⟨M2, mk, e2, u1, u2, u3, u4⟩ := hgk_164c (X := X) (vRt V) 0 (vRt V) M1 (vBg 0 (vN V) V) (fun _ => false) (nI 0) (by omega) (by omega) w1 hk1 w2 hgMk_0
  have l2 := vLine_1 (vRt V) (vRt V) (vBg 0 (vN V) V) (fun _ => false)
  have n2 : vN (vLine (vRt V) (vRt V) (vBg 0 (vN V) V) (fun _ => false)).1 = vN V := (show vN (vLine (vRt V) (vRt V) (vBg 0 (vN V) V) (fun _ => false)).1 = vN (vBg 0 (vN V) V) from congrArg (fun q => q.1) l2.1).trans nb
  have hk2 : hgVok (vLine (vRt V) (vRt V) (vBg 0 (vN V) V) (fun _ => false)).1 c := hgVok_line _ _ _ _ hk1
  obtain ⟨M3, e3, y1, y2, y3⟩ := hgk_164e (X := X) (x := nI (0 + vTickN V)) (mk := mk) (S := (vLine (vRt V) (vRt V) (vBg 0 (vN V) V) (fun _ => false)).2.1) (vN V) 0 M2 (vLine (vRt V) (vRt V) (vBg 0 (vN V) V) (fun _ => false)).1 (by omega) u2 u1 (hgSm_ok hk2) u4
  have hk3 : hgVok (vEn (vLine (vRt V) (vRt V) (vBg 0 (vN V) V) (fun _ => false)).2.1 0 (vN V) (vLine (vRt V) (vRt V) (vBg 0 (vN V) V) (fun _ => false)).1) c := hgVok_en _ _ _ hk2
  have s3 : hgI M3 d 3 = vS V 3 := by
    have l3 := hgLi_en (S := (vLine (vRt V) (vRt V) (vBg 0 (vN V) V) (fun _ => false)).2.1) (vN V) 0 (vLine (vRt V) (vRt V) (vBg 0 (vN V) V) (fun _ => false)).1
    rw [y2.2.2.2.2.2.2.1 3 (by omega) (by omega), ← sb, ← l2.2.1]
    unfold vS
    rw [l3.2.1]
  refine ⟨hgSI M3 d 3 (vS V 3 + nI 1), ?_, y1, hgRV_ss (hgSm_ok hk3) (by omega) (by omega) (by omega) y2, hgFm_SI (hgFm_t (hgFm_t w3 u3) y3) (Or.inl rfl)⟩
  have r4 := (h.2.2.2.2.2.2.1 4 (by omega) (by omega)).trans r2
  have hD3 := y2.1
  simp (maxDischargeDepth := 7) only [hgc164, hgM_t, hgM_f, hgM_n, hgx_aload_n_0, hgx_iconst_4, hgx_istore_n_2i, hgx_istore_n_2r, hgx_istore_n_2f, hgx_istore_n_2n, hgx_istore_n_2l, hgx_iconst_0, hgx_istore_n_3i, hgx_istore_n_3r, hgx_istore_n_3f, hgx_istore_n_3n, hgx_istore_n_3l, hgx_istore_4i, hgx_istore_4r, hgx_istore_4f, hgx_istore_4n, hgx_istore_4l, hgx_istore_5i, hgx_istore_5r, hgx_istore_5f, hgx_istore_5n, hgx_istore_5l, hgx_iload_5, hgx_ic_ge, hgx_invstatic_1, hgx_aft_e, hgx_aft_i, hgx_aft_l, hgx_aft_v, hgx_istore_6i, hgx_istore_6r, hgx_istore_6f, hgx_istore_6n, hgx_istore_6l, hgx_iload_6, hgx_iadd, hgx_iconst_1, hgx_ic_eq, hgx_goto, hgx_iconst_5, hgx_if_le, hgx_dup2, hgx_isub, hgx_bipush_6, hgx_iinc_5_1, hgx_iconst_m1, hgx_invstatic_2, hgx_if_eq, hgx_aload_n_1, hgx_lcmp, hgx_if_ge, hgx_iinc_6_1, hgx_iload_n_2, hgx_ic_le, hgx_invstatic_3, hgx_iload_4, hgx_ishl, hgx_ior, hgx_iinc_3_1, hgx_ishr, hgx_iand, hgx_bipush_9, hgx_iconst_3, hgx_ic_ne, hgx_iconst_2, hgx_iload_n_3, hgx_ret1, hgv164_0, hgr164_0, hgu164_0, hgv164_12, ← hgu164_12, hgv164_40, hgr164_40, hgu164_40, hgv164_62, hgr164_62, hgu164_62, hgv164_77, hgr164_77, hgu164_77, hgv164_83, ← hgu164_83, hgv164_89, ← hgu164_89, hgv164_124, hgr164_124, hgu164_124, hgv164_128, hgr164_128, hgu164_128, hgv164_134, hgr164_134, hgu164_134, hgv164_155, hgr164_155, hgu164_155, hgv164_188, hgr164_188, hgu164_188, hgv164_191, ← hgu164_191, hgv164_218, hgr164_218, hgu164_218, hgv164_239, hgr164_239, hgu164_239, hgv164_250, hgr164_250, hgu164_250, hgv164_284, hgr164_284, hgu164_284, hgv164_290, hgr164_290, hgu164_290, hgI_SI, hgI_SJ, hgJ_SI, hgJ_SJ, if_true, if_false, reduceIte, Nat.reduceEqDiff, hgWf_SI, hgWf_SJ, hgO_SI, hgO_SJ, hgAr_SI, hgAr_SJ, hgRp_SI, hgRp_SJ, hgN_SI, hgN_SJ, hgO_g, hgO_d, hgO_rl, hgO_r, hgO_0, hgO_1, hgO_64, hgO_298, hgO_300, hgCd_0, hgCd_1, hgCd_2, hgCd_3, hgCd_4, hgCd_5, hgRecv_O, hgRecv_99, List.length_cons, List.length_nil, Nat.zero_add, Nat.add_zero, Nat.le_refl, Nat.zero_le, and_self, or_true, true_or, true_and, and_true, ne_eq, not_false_eq_true, Nat.reduceLT, Nat.reduceLeDiff, Nat.reduceAdd, Nat.reduceEqDiff, hgn_eq, hgn_lt, hgn_le, if_true, if_false, reduceIte, Nat.not_lt_zero, hgs_aa_d, hgs_aa_r, hgs_aa_h, hgs_aa_m, hgs_aa_t, hgs_ld_wp, hgs_st_wp, hgs_ld_qf, hgs_st_qf, hgs_ld_qt, hgs_st_qt, hgs_ld_2, hgs_st_2, hgs_ld_3, hgs_st_3, hgs_ld_4, hgs_st_4, hgs_ld_301, hgs_st_301, hgs_ld_D, hgs_st_D, hgs_ld_s, hgs_ld_T, hgs_st_T, hgs_ld_o, hgs_st_o, hgs_ld_b, hgs_st_b, hgs_ld_z, hgs_st_z, hgs_al_b, hgx_alen_s, hgn_add, hgn_mul, hD, hd2, r4]
  rw [e1, e2]
  unfold vTickN at e3
  rw [e3, hgu164_290]
  simp (maxDischargeDepth := 7) only [hgM_t, hgM_f, hgM_n, hgx_aload_n_0, hgx_iconst_4, hgx_istore_n_2i, hgx_istore_n_2r, hgx_istore_n_2f, hgx_istore_n_2n, hgx_istore_n_2l, hgx_iconst_0, hgx_istore_n_3i, hgx_istore_n_3r, hgx_istore_n_3f, hgx_istore_n_3n, hgx_istore_n_3l, hgx_istore_4i, hgx_istore_4r, hgx_istore_4f, hgx_istore_4n, hgx_istore_4l, hgx_istore_5i, hgx_istore_5r, hgx_istore_5f, hgx_istore_5n, hgx_istore_5l, hgx_iload_5, hgx_ic_ge, hgx_invstatic_1, hgx_aft_e, hgx_aft_i, hgx_aft_l, hgx_aft_v, hgx_istore_6i, hgx_istore_6r, hgx_istore_6f, hgx_istore_6n, hgx_istore_6l, hgx_iload_6, hgx_iadd, hgx_iconst_1, hgx_ic_eq, hgx_goto, hgx_iconst_5, hgx_if_le, hgx_dup2, hgx_isub, hgx_bipush_6, hgx_iinc_5_1, hgx_iconst_m1, hgx_invstatic_2, hgx_if_eq, hgx_aload_n_1, hgx_lcmp, hgx_if_ge, hgx_iinc_6_1, hgx_iload_n_2, hgx_ic_le, hgx_invstatic_3, hgx_iload_4, hgx_ishl, hgx_ior, hgx_iinc_3_1, hgx_ishr, hgx_iand, hgx_bipush_9, hgx_iconst_3, hgx_ic_ne, hgx_iconst_2, hgx_iload_n_3, hgx_ret1, hgv164_0, hgr164_0, hgu164_0, hgv164_12, ← hgu164_12, hgv164_40, hgr164_40, hgu164_40, hgv164_62, hgr164_62, hgu164_62, hgv164_77, hgr164_77, hgu164_77, hgv164_83, ← hgu164_83, hgv164_89, ← hgu164_89, hgv164_124, hgr164_124, hgu164_124, hgv164_128, hgr164_128, hgu164_128, hgv164_134, hgr164_134, hgu164_134, hgv164_155, hgr164_155, hgu164_155, hgv164_188, hgr164_188, hgu164_188, hgv164_191, ← hgu164_191, hgv164_218, hgr164_218, hgu164_218, hgv164_239, hgr164_239, hgu164_239, hgv164_250, hgr164_250, hgu164_250, hgv164_284, hgr164_284, hgu164_284, hgv164_290, hgr164_290, hgu164_290, hgI_SI, hgI_SJ, hgJ_SI, hgJ_SJ, if_true, if_false, reduceIte, Nat.reduceEqDiff, hgWf_SI, hgWf_SJ, hgO_SI, hgO_SJ, hgAr_SI, hgAr_SJ, hgRp_SI, hgRp_SJ, hgN_SI, hgN_SJ, hgO_g, hgO_d, hgO_rl, hgO_r, hgO_0, hgO_1, hgO_64, hgO_298, hgO_300, hgCd_0, hgCd_1, hgCd_2, hgCd_3, hgCd_4, hgCd_5, hgRecv_O, hgRecv_99, List.length_cons, List.length_nil, Nat.zero_add, Nat.add_zero, Nat.le_refl, Nat.zero_le, and_self, or_true, true_or, true_and, and_true, ne_eq, not_false_eq_true, Nat.reduceLT, Nat.reduceLeDiff, Nat.reduceAdd, Nat.reduceEqDiff, hgn_eq, hgn_lt, hgn_le, if_true, if_false, reduceIte, Nat.not_lt_zero, hgs_aa_d, hgs_aa_r, hgs_aa_h, hgs_aa_m, hgs_aa_t, hgs_ld_wp, hgs_st_wp, hgs_ld_qf, hgs_st_qf, hgs_ld_qt, hgs_st_qt, hgs_ld_2, hgs_st_2, hgs_ld_3, hgs_st_3, hgs_ld_4, hgs_st_4, hgs_ld_301, hgs_st_301, hgs_ld_D, hgs_st_D, hgs_ld_s, hgs_ld_T, hgs_st_T, hgs_ld_o, hgs_st_o, hgs_ld_b, hgs_st_b, hgs_ld_z, hgs_st_z, hgs_al_b, hgx_alen_s, hgn_add, hgn_mul, hD3, hd2, s3]
  rfl
end HGRST

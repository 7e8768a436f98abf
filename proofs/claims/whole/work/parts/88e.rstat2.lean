/-! STATEMENTS, the reference's: wake ports, quiet hours; a whole statement. -/
section HGRS2
variable {X : hgX} {M M' M0 M1 M2 M3 Mo : hgMem} {t : hgTxt} {i j k a b n p q N l s lo hi g w d c m : Nat} {x y x1 x2 x3 x4 x5 : Int32} {D V : hgV} {f f' : Nat → Bool} {A : List Value} {z : hgPt} {e : Int32 × Nat} {r : hgQt} {u u2 : Option Value}
theorem hgk_151f (h : hgEm M e) : hgW X 151 37 [some (.ref 300), some (.int x)] [] (0, 0) M = some (.inl .null, M) := by
  have hw := h.1
  have a0 := hgAr_303 hw
  have k136 := hgk_136e (X := X) h
  have k137 := hgk_137e (X := X) (x := -4) (y := hgI M 300 16) h
  rw [hgu151_37]
  by_cases q : hgI M 303 2 = nI 8
  · simp (maxDischargeDepth := 7) only [hgM_t, hgM_f, hgM_n, hgx_aload_n_0, hgx_iconst_0, hgx_sipush_999, hgx_invvirtual_3, hgx_aft_e, hgx_aft_i, hgx_aft_l, hgx_aft_v, hgx_istore_n_1i, hgx_istore_n_1r, hgx_istore_n_1f, hgx_istore_n_1n, hgx_istore_n_1l, hgx_invvirtual_1, hgx_if_eq, hgs_get_8_9, hgx_iload_n_1, hgx_invstatic_2, hgx_bipush_m3, hgx_get0, hgx_iconst_2, hgx_bipush_8, hgx_ic_ne, hgx_bipush_m4, hgx_if_ne, hgx_vret, hgx_bipush_10, hgx_iadd, hgx_dup2, hgx_iconst_1, hgx_invstatic_1, hgv151_0, ← hgu151_0, hgv151_37, hgr151_37, hgu151_37, hgv151_58, hgr151_58, hgu151_58, hgv151_66, hgr151_66, hgu151_66, hgI_SI, hgI_SJ, hgJ_SI, hgJ_SJ, if_true, if_false, reduceIte, Nat.reduceEqDiff, hgWf_SI, hgWf_SJ, hgO_SI, hgO_SJ, hgAr_SI, hgAr_SJ, hgRp_SI, hgRp_SJ, hgN_SI, hgN_SJ, hgO_g, hgO_d, hgO_rl, hgO_r, hgO_0, hgO_1, hgO_64, hgO_298, hgO_300, hgCd_0, hgCd_1, hgCd_2, hgCd_3, hgCd_4, hgCd_5, hgRecv_O, hgRecv_99, List.length_cons, List.length_nil, Nat.zero_add, Nat.add_zero, Nat.le_refl, Nat.zero_le, and_self, or_true, true_or, true_and, and_true, ne_eq, not_false_eq_true, Nat.reduceLT, Nat.reduceLeDiff, Nat.reduceAdd, Nat.reduceEqDiff, hgn_eq, hgn_lt, hgn_le, if_true, if_false, reduceIte, Nat.not_lt_zero, hgs_aa_d, hgs_aa_r, hgs_aa_h, hgs_aa_m, hgs_aa_t, hgs_ld_wp, hgs_st_wp, hgs_ld_qf, hgs_st_qf, hgs_ld_qt, hgs_st_qt, hgs_ld_2, hgs_st_2, hgs_ld_3, hgs_st_3, hgs_ld_4, hgs_st_4, hgs_ld_301, hgs_st_301, hgs_ld_D, hgs_st_D, hgs_ld_s, hgs_ld_T, hgs_st_T, hgs_ld_o, hgs_st_o, hgs_ld_b, hgs_st_b, hgs_ld_z, hgs_st_z, hgs_al_b, hgx_alen_s, hw, a0, q, k137, k136]
  · simp (maxDischargeDepth := 7) only [hgM_t, hgM_f, hgM_n, hgx_aload_n_0, hgx_iconst_0, hgx_sipush_999, hgx_invvirtual_3, hgx_aft_e, hgx_aft_i, hgx_aft_l, hgx_aft_v, hgx_istore_n_1i, hgx_istore_n_1r, hgx_istore_n_1f, hgx_istore_n_1n, hgx_istore_n_1l, hgx_invvirtual_1, hgx_if_eq, hgs_get_8_9, hgx_iload_n_1, hgx_invstatic_2, hgx_bipush_m3, hgx_get0, hgx_iconst_2, hgx_bipush_8, hgx_ic_ne, hgx_bipush_m4, hgx_if_ne, hgx_vret, hgx_bipush_10, hgx_iadd, hgx_dup2, hgx_iconst_1, hgx_invstatic_1, hgv151_0, ← hgu151_0, hgv151_37, hgr151_37, hgu151_37, hgv151_58, hgr151_58, hgu151_58, hgv151_66, hgr151_66, hgu151_66, hgI_SI, hgI_SJ, hgJ_SI, hgJ_SJ, if_true, if_false, reduceIte, Nat.reduceEqDiff, hgWf_SI, hgWf_SJ, hgO_SI, hgO_SJ, hgAr_SI, hgAr_SJ, hgRp_SI, hgRp_SJ, hgN_SI, hgN_SJ, hgO_g, hgO_d, hgO_rl, hgO_r, hgO_0, hgO_1, hgO_64, hgO_298, hgO_300, hgCd_0, hgCd_1, hgCd_2, hgCd_3, hgCd_4, hgCd_5, hgRecv_O, hgRecv_99, List.length_cons, List.length_nil, Nat.zero_add, Nat.add_zero, Nat.le_refl, Nat.zero_le, and_self, or_true, true_or, true_and, and_true, ne_eq, not_false_eq_true, Nat.reduceLT, Nat.reduceLeDiff, Nat.reduceAdd, Nat.reduceEqDiff, hgn_eq, hgn_lt, hgn_le, if_true, if_false, reduceIte, Nat.not_lt_zero, hgs_aa_d, hgs_aa_r, hgs_aa_h, hgs_aa_m, hgs_aa_t, hgs_ld_wp, hgs_st_wp, hgs_ld_qf, hgs_st_qf, hgs_ld_qt, hgs_st_qt, hgs_ld_2, hgs_st_2, hgs_ld_3, hgs_st_3, hgs_ld_4, hgs_st_4, hgs_ld_301, hgs_st_301, hgs_ld_D, hgs_st_D, hgs_ld_s, hgs_ld_T, hgs_st_T, hgs_ld_o, hgs_st_o, hgs_ld_b, hgs_st_b, hgs_ld_z, hgs_st_z, hgs_al_b, hgx_alen_s, hw, a0, q, k136]
theorem hgk_151e (h : hgEm M e) : hgWC X 151 [.ref 300] M = some (.inl .null, M) := by
  have hw := h.1
  have k136 := hgk_136e (X := X) h
  have k143 := hgk_143e (X := X) (x := nI 0) (y := nI 999) h
  have kf := hgk_151f (X := X) (x := nI 0) h
  rw [hgc151, hgu151_0]
  simp (maxDischargeDepth := 7) only [hgM_t, hgM_f, hgM_n, hgx_aload_n_0, hgx_iconst_0, hgx_sipush_999, hgx_invvirtual_3, hgx_aft_e, hgx_aft_i, hgx_aft_l, hgx_aft_v, hgx_istore_n_1i, hgx_istore_n_1r, hgx_istore_n_1f, hgx_istore_n_1n, hgx_istore_n_1l, hgx_invvirtual_1, hgx_if_eq, hgs_get_8_9, hgx_iload_n_1, hgx_invstatic_2, hgx_bipush_m3, hgx_get0, hgv151_0, hgr151_0, hgu151_0, hgv151_37, hgu151_37, hgI_SI, hgI_SJ, hgJ_SI, hgJ_SJ, if_true, if_false, reduceIte, Nat.reduceEqDiff, hgWf_SI, hgWf_SJ, hgO_SI, hgO_SJ, hgAr_SI, hgAr_SJ, hgRp_SI, hgRp_SJ, hgN_SI, hgN_SJ, hgO_g, hgO_d, hgO_rl, hgO_r, hgO_0, hgO_1, hgO_64, hgO_298, hgO_300, hgCd_0, hgCd_1, hgCd_2, hgCd_3, hgCd_4, hgCd_5, hgRecv_O, hgRecv_99, List.length_cons, List.length_nil, Nat.zero_add, Nat.add_zero, Nat.le_refl, Nat.zero_le, and_self, or_true, true_or, true_and, and_true, ne_eq, not_false_eq_true, Nat.reduceLT, Nat.reduceLeDiff, Nat.reduceAdd, Nat.reduceEqDiff, hgn_eq, hgn_lt, hgn_le, if_true, if_false, reduceIte, Nat.not_lt_zero, hgs_aa_d, hgs_aa_r, hgs_aa_h, hgs_aa_m, hgs_aa_t, hgs_ld_wp, hgs_st_wp, hgs_ld_qf, hgs_st_qf, hgs_ld_qt, hgs_st_qt, hgs_ld_2, hgs_st_2, hgs_ld_3, hgs_st_3, hgs_ld_4, hgs_st_4, hgs_ld_301, hgs_st_301, hgs_ld_D, hgs_st_D, hgs_ld_s, hgs_ld_T, hgs_st_T, hgs_ld_o, hgs_st_o, hgs_ld_b, hgs_st_b, hgs_ld_z, hgs_st_z, hgs_al_b, hgx_alen_s, hw, k143, k136]
  rw [hgu151_37] at kf
  exact kf
theorem hgk_151l : ∀ (k : Nat) (M : hgMem) (p : Nat) (D : hgV) (u : Option Value), vW D + k = 8 → hgOkr M t (p, D, f) → hgDk D → ∃ M', hgW X 151 0 [some (.ref 300), u] [] (0, 0) M = some (.inl .null, M') ∧ hgOur M' t (sB (sWk1 t p D f) (fun z => sWkL t (9 - vW z.2.1) z)) ∧ hgFh M M' := by
  intro k
  induction k with
  | zero =>
    intro M p D u hW h hk
    have hr := h.1
    have hw := hr.1
    unfold sWk1
    cases hn1 : sNum t p 0 999 with
    | inr e =>
      obtain ⟨y1, M1, e1, em, f1⟩ := hgk_143b (X := X) hr (by omega) (by omega) hn1
      have w1 := em.1
      have k136 := hgk_136e (X := X) em
      have kf := hgk_151f (X := X) (x := y1) em
      refine ⟨M1, ?_, em, f1⟩
      rw [hgu151_0]
      simp (maxDischargeDepth := 7) only [hgM_t, hgM_f, hgM_n, hgx_aload_n_0, hgx_iconst_0, hgx_sipush_999, hgx_invvirtual_3, hgx_aft_e, hgx_aft_i, hgx_aft_l, hgx_aft_v, hgx_istore_n_1i, hgx_istore_n_1r, hgx_istore_n_1f, hgx_istore_n_1n, hgx_istore_n_1l, hgx_invvirtual_1, hgx_if_eq, hgs_get_8_9, hgx_iload_n_1, hgx_invstatic_2, hgx_bipush_m3, hgx_get0, hgv151_0, hgr151_0, hgu151_0, hgv151_37, hgI_SI, hgI_SJ, hgJ_SI, hgJ_SJ, if_true, if_false, reduceIte, Nat.reduceEqDiff, hgWf_SI, hgWf_SJ, hgO_SI, hgO_SJ, hgAr_SI, hgAr_SJ, hgRp_SI, hgRp_SJ, hgN_SI, hgN_SJ, hgO_g, hgO_d, hgO_rl, hgO_r, hgO_0, hgO_1, hgO_64, hgO_298, hgO_300, hgCd_0, hgCd_1, hgCd_2, hgCd_3, hgCd_4, hgCd_5, hgRecv_O, hgRecv_99, List.length_cons, List.length_nil, Nat.zero_add, Nat.add_zero, Nat.le_refl, Nat.zero_le, and_self, or_true, true_or, true_and, and_true, ne_eq, not_false_eq_true, Nat.reduceLT, Nat.reduceLeDiff, Nat.reduceAdd, Nat.reduceEqDiff, hgn_eq, hgn_lt, hgn_le, if_true, if_false, reduceIte, Nat.not_lt_zero, hgs_aa_d, hgs_aa_r, hgs_aa_h, hgs_aa_m, hgs_aa_t, hgs_ld_wp, hgs_st_wp, hgs_ld_qf, hgs_st_qf, hgs_ld_qt, hgs_st_qt, hgs_ld_2, hgs_st_2, hgs_ld_3, hgs_st_3, hgs_ld_4, hgs_st_4, hgs_ld_301, hgs_st_301, hgs_ld_D, hgs_st_D, hgs_ld_s, hgs_ld_T, hgs_st_T, hgs_ld_o, hgs_st_o, hgs_ld_b, hgs_st_b, hgs_ld_z, hgs_st_z, hgs_al_b, hgx_alen_s, hw, e1, w1, k136]
      exact kf
    | inl v =>
      obtain ⟨M1, e1, r1, s1, l1, l2, f1⟩ := hgk_143a (X := X) hr (by omega) (by omega) hn1
      have ok1 := hgOkr_g h f1 r1
      have w1 := r1.1
      have a1 := hgAr_303 w1
      have k136 := hgk_136g (X := X) r1
      have k150 := hgRD_150 (X := X) (x := nI v.1) w1 (hgDk_sm hk) ok1.2.1
      have n2 : hgI M1 303 2 = nI 8 := by rw [show (8 : Nat) = vW D by omega]; exact ok1.2.1.2.2.1
      show ∃ M', _ ∧ hgOur M' t (sB (if vWk D (nI v.1) = true then .inr (-3, tSk t p) else if vW D = 8 then .inr (-4, tSk t p) else .inl (v.2, vAw D v.1, f)) _) ∧ _
      by_cases q : vWk D (nI v.1) = true
      · rw [if_pos q]
        rw [q, hgB_t] at k150
        have k137 := hgk_137 (X := X) (x := -3) (y := nI (tSk t p)) r1
        have em : hgEm (hgSI (hgSI M1 300 5 (-3)) 300 6 (nI (tSk t p))) (-3, tSk t p) := hgEm_i r1 (Or.inr (Or.inl rfl))
        have kf := hgk_151f (X := X) (x := nI v.1) em
        refine ⟨_, ?_, em, hgFh_s (hgFh_s (hgFh_g f1) (by omega)) (by omega)⟩
        rw [hgu151_37] at kf
        rw [hgu151_0]
        simp (maxDischargeDepth := 7) only [hgM_t, hgM_f, hgM_n, hgx_aload_n_0, hgx_iconst_0, hgx_sipush_999, hgx_invvirtual_3, hgx_aft_e, hgx_aft_i, hgx_aft_l, hgx_aft_v, hgx_istore_n_1i, hgx_istore_n_1r, hgx_istore_n_1f, hgx_istore_n_1n, hgx_istore_n_1l, hgx_invvirtual_1, hgx_if_eq, hgs_get_8_9, hgx_iload_n_1, hgx_invstatic_2, hgx_bipush_m3, hgx_get0, hgv151_0, hgr151_0, hgu151_0, hgv151_37, hgu151_37, hgI_SI, hgI_SJ, hgJ_SI, hgJ_SJ, if_true, if_false, reduceIte, Nat.reduceEqDiff, hgWf_SI, hgWf_SJ, hgO_SI, hgO_SJ, hgAr_SI, hgAr_SJ, hgRp_SI, hgRp_SJ, hgN_SI, hgN_SJ, hgO_g, hgO_d, hgO_rl, hgO_r, hgO_0, hgO_1, hgO_64, hgO_298, hgO_300, hgCd_0, hgCd_1, hgCd_2, hgCd_3, hgCd_4, hgCd_5, hgRecv_O, hgRecv_99, List.length_cons, List.length_nil, Nat.zero_add, Nat.add_zero, Nat.le_refl, Nat.zero_le, and_self, or_true, true_or, true_and, and_true, ne_eq, not_false_eq_true, Nat.reduceLT, Nat.reduceLeDiff, Nat.reduceAdd, Nat.reduceEqDiff, hgn_eq, hgn_lt, hgn_le, if_true, if_false, reduceIte, Nat.not_lt_zero, hgs_aa_d, hgs_aa_r, hgs_aa_h, hgs_aa_m, hgs_aa_t, hgs_ld_wp, hgs_st_wp, hgs_ld_qf, hgs_st_qf, hgs_ld_qt, hgs_st_qt, hgs_ld_2, hgs_st_2, hgs_ld_3, hgs_st_3, hgs_ld_4, hgs_st_4, hgs_ld_301, hgs_st_301, hgs_ld_D, hgs_st_D, hgs_ld_s, hgs_ld_T, hgs_st_T, hgs_ld_o, hgs_st_o, hgs_ld_b, hgs_st_b, hgs_ld_z, hgs_st_z, hgs_al_b, hgx_alen_s, hw, e1, w1, a1, k136, k150, s1, k137]
        exact kf
      · rw [if_neg q, if_pos (by omega)]
        rw [Bool.eq_false_iff.mpr q, hgB_f] at k150
        have k137 := hgk_137 (X := X) (x := -4) (y := nI (tSk t p)) r1
        have em : hgEm (hgSI (hgSI M1 300 5 (-4)) 300 6 (nI (tSk t p))) (-4, tSk t p) := hgEm_i r1 (Or.inr (Or.inr rfl))
        have k136e := hgk_136e (X := X) em
        refine ⟨_, ?_, em, hgFh_s (hgFh_s (hgFh_g f1) (by omega)) (by omega)⟩
        rw [hgu151_0]
        simp (maxDischargeDepth := 7) only [hgM_t, hgM_f, hgM_n, hgx_aload_n_0, hgx_iconst_0, hgx_sipush_999, hgx_invvirtual_3, hgx_aft_e, hgx_aft_i, hgx_aft_l, hgx_aft_v, hgx_istore_n_1i, hgx_istore_n_1r, hgx_istore_n_1f, hgx_istore_n_1n, hgx_istore_n_1l, hgx_invvirtual_1, hgx_if_eq, hgs_get_8_9, hgx_iload_n_1, hgx_invstatic_2, hgx_bipush_m3, hgx_get0, hgx_iconst_2, hgx_bipush_8, hgx_ic_ne, hgx_bipush_m4, hgx_if_ne, hgx_vret, hgx_bipush_10, hgx_iadd, hgx_dup2, hgx_iconst_1, hgx_invstatic_1, hgv151_0, ← hgu151_0, hgv151_37, hgr151_37, hgu151_37, hgv151_58, hgr151_58, hgu151_58, hgv151_66, hgr151_66, hgu151_66, hgr151_0, hgI_SI, hgI_SJ, hgJ_SI, hgJ_SJ, if_true, if_false, reduceIte, Nat.reduceEqDiff, hgWf_SI, hgWf_SJ, hgO_SI, hgO_SJ, hgAr_SI, hgAr_SJ, hgRp_SI, hgRp_SJ, hgN_SI, hgN_SJ, hgO_g, hgO_d, hgO_rl, hgO_r, hgO_0, hgO_1, hgO_64, hgO_298, hgO_300, hgCd_0, hgCd_1, hgCd_2, hgCd_3, hgCd_4, hgCd_5, hgRecv_O, hgRecv_99, List.length_cons, List.length_nil, Nat.zero_add, Nat.add_zero, Nat.le_refl, Nat.zero_le, and_self, or_true, true_or, true_and, and_true, ne_eq, not_false_eq_true, Nat.reduceLT, Nat.reduceLeDiff, Nat.reduceAdd, Nat.reduceEqDiff, hgn_eq, hgn_lt, hgn_le, if_true, if_false, reduceIte, Nat.not_lt_zero, hgs_aa_d, hgs_aa_r, hgs_aa_h, hgs_aa_m, hgs_aa_t, hgs_ld_wp, hgs_st_wp, hgs_ld_qf, hgs_st_qf, hgs_ld_qt, hgs_st_qt, hgs_ld_2, hgs_st_2, hgs_ld_3, hgs_st_3, hgs_ld_4, hgs_st_4, hgs_ld_301, hgs_st_301, hgs_ld_D, hgs_st_D, hgs_ld_s, hgs_ld_T, hgs_st_T, hgs_ld_o, hgs_st_o, hgs_ld_b, hgs_st_b, hgs_ld_z, hgs_st_z, hgs_al_b, hgx_alen_s, hw, e1, w1, a1, k136, k150, n2, s1, k137, k136e]
  | succ k ih =>
    intro M p D u hW h hk
    have hr := h.1
    have hw := hr.1
    unfold sWk1
    cases hn1 : sNum t p 0 999 with
    | inr e =>
      obtain ⟨y1, M1, e1, em, f1⟩ := hgk_143b (X := X) hr (by omega) (by omega) hn1
      have w1 := em.1
      have k136 := hgk_136e (X := X) em
      have kf := hgk_151f (X := X) (x := y1) em
      refine ⟨M1, ?_, em, f1⟩
      rw [hgu151_0]
      simp (maxDischargeDepth := 7) only [hgM_t, hgM_f, hgM_n, hgx_aload_n_0, hgx_iconst_0, hgx_sipush_999, hgx_invvirtual_3, hgx_aft_e, hgx_aft_i, hgx_aft_l, hgx_aft_v, hgx_istore_n_1i, hgx_istore_n_1r, hgx_istore_n_1f, hgx_istore_n_1n, hgx_istore_n_1l, hgx_invvirtual_1, hgx_if_eq, hgs_get_8_9, hgx_iload_n_1, hgx_invstatic_2, hgx_bipush_m3, hgx_get0, hgv151_0, hgr151_0, hgu151_0, hgv151_37, hgI_SI, hgI_SJ, hgJ_SI, hgJ_SJ, if_true, if_false, reduceIte, Nat.reduceEqDiff, hgWf_SI, hgWf_SJ, hgO_SI, hgO_SJ, hgAr_SI, hgAr_SJ, hgRp_SI, hgRp_SJ, hgN_SI, hgN_SJ, hgO_g, hgO_d, hgO_rl, hgO_r, hgO_0, hgO_1, hgO_64, hgO_298, hgO_300, hgCd_0, hgCd_1, hgCd_2, hgCd_3, hgCd_4, hgCd_5, hgRecv_O, hgRecv_99, List.length_cons, List.length_nil, Nat.zero_add, Nat.add_zero, Nat.le_refl, Nat.zero_le, and_self, or_true, true_or, true_and, and_true, ne_eq, not_false_eq_true, Nat.reduceLT, Nat.reduceLeDiff, Nat.reduceAdd, Nat.reduceEqDiff, hgn_eq, hgn_lt, hgn_le, if_true, if_false, reduceIte, Nat.not_lt_zero, hgs_aa_d, hgs_aa_r, hgs_aa_h, hgs_aa_m, hgs_aa_t, hgs_ld_wp, hgs_st_wp, hgs_ld_qf, hgs_st_qf, hgs_ld_qt, hgs_st_qt, hgs_ld_2, hgs_st_2, hgs_ld_3, hgs_st_3, hgs_ld_4, hgs_st_4, hgs_ld_301, hgs_st_301, hgs_ld_D, hgs_st_D, hgs_ld_s, hgs_ld_T, hgs_st_T, hgs_ld_o, hgs_st_o, hgs_ld_b, hgs_st_b, hgs_ld_z, hgs_st_z, hgs_al_b, hgx_alen_s, hw, e1, w1, k136]
      exact kf
    | inl v =>
      obtain ⟨M1, e1, r1, s1, l1, l2, f1⟩ := hgk_143a (X := X) hr (by omega) (by omega) hn1
      have ok1 := hgOkr_g h f1 r1
      have w1 := r1.1
      have a1 := hgAr_303 w1
      have k136 := hgk_136g (X := X) r1
      have k150 := hgRD_150 (X := X) (x := nI v.1) w1 (hgDk_sm hk) ok1.2.1
      have n2 : hgI M1 303 2 = nI (vW D) := ok1.2.1.2.2.1
      show ∃ M', _ ∧ hgOur M' t (sB (if vWk D (nI v.1) = true then .inr (-3, tSk t p) else if vW D = 8 then .inr (-4, tSk t p) else .inl (v.2, vAw D v.1, f)) _) ∧ _
      by_cases q : vWk D (nI v.1) = true
      · rw [if_pos q]
        rw [q, hgB_t] at k150
        have k137 := hgk_137 (X := X) (x := -3) (y := nI (tSk t p)) r1
        have em : hgEm (hgSI (hgSI M1 300 5 (-3)) 300 6 (nI (tSk t p))) (-3, tSk t p) := hgEm_i r1 (Or.inr (Or.inl rfl))
        have kf := hgk_151f (X := X) (x := nI v.1) em
        refine ⟨_, ?_, em, hgFh_s (hgFh_s (hgFh_g f1) (by omega)) (by omega)⟩
        rw [hgu151_37] at kf
        rw [hgu151_0]
        simp (maxDischargeDepth := 7) only [hgM_t, hgM_f, hgM_n, hgx_aload_n_0, hgx_iconst_0, hgx_sipush_999, hgx_invvirtual_3, hgx_aft_e, hgx_aft_i, hgx_aft_l, hgx_aft_v, hgx_istore_n_1i, hgx_istore_n_1r, hgx_istore_n_1f, hgx_istore_n_1n, hgx_istore_n_1l, hgx_invvirtual_1, hgx_if_eq, hgs_get_8_9, hgx_iload_n_1, hgx_invstatic_2, hgx_bipush_m3, hgx_get0, hgv151_0, hgr151_0, hgu151_0, hgv151_37, hgu151_37, hgI_SI, hgI_SJ, hgJ_SI, hgJ_SJ, if_true, if_false, reduceIte, Nat.reduceEqDiff, hgWf_SI, hgWf_SJ, hgO_SI, hgO_SJ, hgAr_SI, hgAr_SJ, hgRp_SI, hgRp_SJ, hgN_SI, hgN_SJ, hgO_g, hgO_d, hgO_rl, hgO_r, hgO_0, hgO_1, hgO_64, hgO_298, hgO_300, hgCd_0, hgCd_1, hgCd_2, hgCd_3, hgCd_4, hgCd_5, hgRecv_O, hgRecv_99, List.length_cons, List.length_nil, Nat.zero_add, Nat.add_zero, Nat.le_refl, Nat.zero_le, and_self, or_true, true_or, true_and, and_true, ne_eq, not_false_eq_true, Nat.reduceLT, Nat.reduceLeDiff, Nat.reduceAdd, Nat.reduceEqDiff, hgn_eq, hgn_lt, hgn_le, if_true, if_false, reduceIte, Nat.not_lt_zero, hgs_aa_d, hgs_aa_r, hgs_aa_h, hgs_aa_m, hgs_aa_t, hgs_ld_wp, hgs_st_wp, hgs_ld_qf, hgs_st_qf, hgs_ld_qt, hgs_st_qt, hgs_ld_2, hgs_st_2, hgs_ld_3, hgs_st_3, hgs_ld_4, hgs_st_4, hgs_ld_301, hgs_st_301, hgs_ld_D, hgs_st_D, hgs_ld_s, hgs_ld_T, hgs_st_T, hgs_ld_o, hgs_st_o, hgs_ld_b, hgs_st_b, hgs_ld_z, hgs_st_z, hgs_al_b, hgx_alen_s, hw, e1, w1, a1, k136, k150, s1, k137]
        exact kf
      · rw [if_neg q, if_neg (by omega)]
        rw [Bool.eq_false_iff.mpr q, hgB_f] at k150
        have w8 : vW D < 8 := by omega
        have ne8 : ¬ vW D = 8 := by omega
        have b8 : vW D < 2147483648 := by omega
        have vd := hgRD_aw (p := v.1) (hgDk_sm hk) w8 ok1.2.1
        have fd : hgFn (fun b => b = 303) M1 (hgSI (hgSI M1 303 (10 + vW D) (nI v.1)) 303 2 (nI (vW D + 1))) := hgFn_SI (hgFn_SI hgFn_r rfl) rfl
        have ok2 := hgOkr_d ok1 vd fd
        have d0 : 10 + vW D < 20187 := by omega
        have c0 : ¬ 2 = 10 + vW D := by omega
        have c1 : ¬ 10 + vW D = 2 := by omega
        obtain ⟨M3, e3, r3, f3⟩ := hgk_138 (X := X) ok2.1
        have ok3 := hgOkr_g ok2 f3 r3
        have w3 := r3.1
        have k140 := hgk_140 (X := X) (M := M3) (x := tBy t (tSk t v.2))
        rw [tBy_d r3] at k140
        show ∃ M', _ ∧ hgOur M' t (sWkL t (9 - (vW D + 1)) (v.2, vAw D v.1, f)) ∧ _
        rw [show 9 - (vW D + 1) = k + 1 by omega]
        unfold sWkL
        dsimp only
        by_cases dg : tDg t (tSk t v.2) = true
        · rw [if_pos dg]
          rw [dg, hgB_t] at k140
          obtain ⟨M4, e4, o4, f4⟩ := ih M3 (tSk t v.2) (vAw D v.1) none (by show vW D + 1 + k = 8; omega) ok3 (hgDk_aw hk w8)
          rw [sWk1_k r1.2.2.2.1] at o4
          have es : sB (sWk1 t v.2 (vAw D v.1) f) (sWkL t k) = sB (sWk1 t v.2 (vAw D v.1) f) (fun z => sWkL t (9 - vW z.2.1) z) := by
            cases hz : sWk1 t v.2 (vAw D v.1) f with
            | inr e => rfl
            | inl z =>
              have vz : vW z.2.1 = vW D + 1 + 1 := sWk1_w hz
              show sWkL t k z = sWkL t (9 - vW z.2.1) z
              rw [show 9 - vW z.2.1 = k by omega]
          rw [es]
          refine ⟨M4, ?_, o4, hgFh_t (hgFh_t (hgFh_t (hgFh_g f1) (hgFh_n fd)) (hgFh_g f3)) f4⟩
          refine Eq.trans ?_ e4
          rw [hgu151_0]
          simp (maxDischargeDepth := 7) only [hgM_t, hgM_f, hgM_n, hgx_aload_n_0, hgx_iconst_0, hgx_sipush_999, hgx_invvirtual_3, hgx_aft_e, hgx_aft_i, hgx_aft_l, hgx_aft_v, hgx_istore_n_1i, hgx_istore_n_1r, hgx_istore_n_1f, hgx_istore_n_1n, hgx_istore_n_1l, hgx_invvirtual_1, hgx_if_eq, hgs_get_8_9, hgx_iload_n_1, hgx_invstatic_2, hgx_bipush_m3, hgx_get0, hgx_iconst_2, hgx_bipush_8, hgx_ic_ne, hgx_bipush_m4, hgx_if_ne, hgx_vret, hgx_bipush_10, hgx_iadd, hgx_dup2, hgx_iconst_1, hgx_invstatic_1, hgv151_0, ← hgu151_0, hgv151_37, hgr151_37, hgu151_37, hgv151_58, hgr151_58, hgu151_58, hgv151_66, hgr151_66, hgu151_66, hgr151_0, hgI_SI, hgI_SJ, hgJ_SI, hgJ_SJ, if_true, if_false, reduceIte, Nat.reduceEqDiff, hgWf_SI, hgWf_SJ, hgO_SI, hgO_SJ, hgAr_SI, hgAr_SJ, hgRp_SI, hgRp_SJ, hgN_SI, hgN_SJ, hgO_g, hgO_d, hgO_rl, hgO_r, hgO_0, hgO_1, hgO_64, hgO_298, hgO_300, hgCd_0, hgCd_1, hgCd_2, hgCd_3, hgCd_4, hgCd_5, hgRecv_O, hgRecv_99, List.length_cons, List.length_nil, Nat.zero_add, Nat.add_zero, Nat.le_refl, Nat.zero_le, and_self, or_true, true_or, true_and, and_true, ne_eq, not_false_eq_true, Nat.reduceLT, Nat.reduceLeDiff, Nat.reduceAdd, Nat.reduceEqDiff, hgn_eq, hgn_lt, hgn_le, if_true, if_false, reduceIte, Nat.not_lt_zero, hgs_aa_d, hgs_aa_r, hgs_aa_h, hgs_aa_m, hgs_aa_t, hgs_ld_wp, hgs_st_wp, hgs_ld_qf, hgs_st_qf, hgs_ld_qt, hgs_st_qt, hgs_ld_2, hgs_st_2, hgs_ld_3, hgs_st_3, hgs_ld_4, hgs_st_4, hgs_ld_301, hgs_st_301, hgs_ld_D, hgs_st_D, hgs_ld_s, hgs_ld_T, hgs_st_T, hgs_ld_o, hgs_st_o, hgs_ld_b, hgs_st_b, hgs_ld_z, hgs_st_z, hgs_al_b, hgx_alen_s, hgn_add, hgn_mul, hw, e1, w1, a1, k136, k150, n2, b8, ne8, d0, c0, c1, e3, w3, k140]
        · rw [if_neg dg]
          rw [Bool.eq_false_iff.mpr dg, hgB_f] at k140
          refine ⟨M3, ?_, ok3, hgFh_t (hgFh_t (hgFh_g f1) (hgFh_n fd)) (hgFh_g f3)⟩
          rw [hgu151_0]
          simp (maxDischargeDepth := 7) only [hgM_t, hgM_f, hgM_n, hgx_aload_n_0, hgx_iconst_0, hgx_sipush_999, hgx_invvirtual_3, hgx_aft_e, hgx_aft_i, hgx_aft_l, hgx_aft_v, hgx_istore_n_1i, hgx_istore_n_1r, hgx_istore_n_1f, hgx_istore_n_1n, hgx_istore_n_1l, hgx_invvirtual_1, hgx_if_eq, hgs_get_8_9, hgx_iload_n_1, hgx_invstatic_2, hgx_bipush_m3, hgx_get0, hgx_iconst_2, hgx_bipush_8, hgx_ic_ne, hgx_bipush_m4, hgx_if_ne, hgx_vret, hgx_bipush_10, hgx_iadd, hgx_dup2, hgx_iconst_1, hgx_invstatic_1, hgv151_0, ← hgu151_0, hgv151_37, hgr151_37, hgu151_37, hgv151_58, hgr151_58, hgu151_58, hgv151_66, hgr151_66, hgu151_66, hgr151_0, hgI_SI, hgI_SJ, hgJ_SI, hgJ_SJ, if_true, if_false, reduceIte, Nat.reduceEqDiff, hgWf_SI, hgWf_SJ, hgO_SI, hgO_SJ, hgAr_SI, hgAr_SJ, hgRp_SI, hgRp_SJ, hgN_SI, hgN_SJ, hgO_g, hgO_d, hgO_rl, hgO_r, hgO_0, hgO_1, hgO_64, hgO_298, hgO_300, hgCd_0, hgCd_1, hgCd_2, hgCd_3, hgCd_4, hgCd_5, hgRecv_O, hgRecv_99, List.length_cons, List.length_nil, Nat.zero_add, Nat.add_zero, Nat.le_refl, Nat.zero_le, and_self, or_true, true_or, true_and, and_true, ne_eq, not_false_eq_true, Nat.reduceLT, Nat.reduceLeDiff, Nat.reduceAdd, Nat.reduceEqDiff, hgn_eq, hgn_lt, hgn_le, if_true, if_false, reduceIte, Nat.not_lt_zero, hgs_aa_d, hgs_aa_r, hgs_aa_h, hgs_aa_m, hgs_aa_t, hgs_ld_wp, hgs_st_wp, hgs_ld_qf, hgs_st_qf, hgs_ld_qt, hgs_st_qt, hgs_ld_2, hgs_st_2, hgs_ld_3, hgs_st_3, hgs_ld_4, hgs_st_4, hgs_ld_301, hgs_st_301, hgs_ld_D, hgs_st_D, hgs_ld_s, hgs_ld_T, hgs_st_T, hgs_ld_o, hgs_st_o, hgs_ld_b, hgs_st_b, hgs_ld_z, hgs_st_z, hgs_al_b, hgx_alen_s, hgn_add, hgn_mul, hw, e1, w1, a1, k136, k150, n2, b8, ne8, d0, c0, c1, e3, w3, k140]
theorem hgOkr_17 (h : hgOkr M t (p, D, f)) (hk : k < 10) : hgOkr (hgSI M 300 17 (hgI M 300 17 ||| (nI 1 <<< (nI k &&& 31)))) t (p, D, fS f k) := ⟨hgRr_s h.1 (by omega), hgRD_to h.2.1 (fun k => hgI_na (by omega)), by rw [hgI_at]; exact hgMk_s hk h.2.2.1, by rw [hgI_nk (by omega)]; exact h.2.2.2⟩
theorem hgk_152 (h : hgOkr M t (p, D, f)) (hk : hgDk D) : hgDr X 152 [.ref 300] M t (sQut t p D f) := by
  have hr := h.1
  have hw := hr.1
  have hp := hr.2.2.2.1
  have q1 := tSk_i hp
  obtain ⟨d1, d2, d3⟩ := hgDk_dy hk
  obtain ⟨M1, e1, r1, f1⟩ := hgk_138 (X := X) hr
  have ok1 := hgOkr_g h f1 r1
  have w1 := r1.1
  have p1 := r1.2.2.1
  unfold sQut
  cases hg : sGrp t p with
  | none =>
    obtain ⟨M2, e2, em, f2⟩ := hgk_145b (X := X) r1 hp q1 hg
    have w2 := em.1
    have k136 := hgk_136e (X := X) em
    have kk : hgWC X 152 [.ref 300] M = some (.inl .null, M2) := by
      simp (maxDischargeDepth := 7) only [hgc152, hgM_t, hgM_f, hgM_n, hgx_aload_n_0, hgx_invvirtual_1, hgx_aft_e, hgx_aft_i, hgx_aft_l, hgx_aft_v, hgx_pop_i, hgx_pop_f, hgx_pop_r, hgx_get0, hgx_istore_n_1i, hgx_istore_n_1r, hgx_istore_n_1f, hgx_istore_n_1n, hgx_istore_n_1l, hgx_istore_n_2i, hgx_istore_n_2r, hgx_istore_n_2f, hgx_istore_n_2n, hgx_istore_n_2l, hgx_if_ne, hgx_vret, hgx_iconst_2, hgx_iload_n_2, hgx_iadd, hgx_iload_n_1, hgx_invvirtual_3, hgx_iconst_0, hgs_get_8_9, hgx_iconst_5, hgx_iconst_1, hgx_isub, hgx_istore_n_3i, hgx_istore_n_3r, hgx_istore_n_3f, hgx_istore_n_3n, hgx_istore_n_3l, hgx_istore_4i, hgx_istore_4r, hgx_istore_4f, hgx_istore_4n, hgx_istore_4l, hgx_invstatic_1, hgx_iload_n_3, hgx_iload_4, hgv152_0, hgr152_0, hgu152_0, hgv152_23, hgr152_23, hgu152_23, hgI_SI, hgI_SJ, hgJ_SI, hgJ_SJ, if_true, if_false, reduceIte, Nat.reduceEqDiff, hgWf_SI, hgWf_SJ, hgO_SI, hgO_SJ, hgAr_SI, hgAr_SJ, hgRp_SI, hgRp_SJ, hgN_SI, hgN_SJ, hgO_g, hgO_d, hgO_rl, hgO_r, hgO_0, hgO_1, hgO_64, hgO_298, hgO_300, hgCd_0, hgCd_1, hgCd_2, hgCd_3, hgCd_4, hgCd_5, hgRecv_O, hgRecv_99, List.length_cons, List.length_nil, Nat.zero_add, Nat.add_zero, Nat.le_refl, Nat.zero_le, and_self, or_true, true_or, true_and, and_true, ne_eq, not_false_eq_true, Nat.reduceLT, Nat.reduceLeDiff, Nat.reduceAdd, Nat.reduceEqDiff, hgn_eq, hgn_lt, hgn_le, if_true, if_false, reduceIte, Nat.not_lt_zero, hgs_aa_d, hgs_aa_r, hgs_aa_h, hgs_aa_m, hgs_aa_t, hgs_ld_wp, hgs_st_wp, hgs_ld_qf, hgs_st_qf, hgs_ld_qt, hgs_st_qt, hgs_ld_2, hgs_st_2, hgs_ld_3, hgs_st_3, hgs_ld_4, hgs_st_4, hgs_ld_301, hgs_st_301, hgs_ld_D, hgs_st_D, hgs_ld_s, hgs_ld_T, hgs_st_T, hgs_ld_o, hgs_st_o, hgs_ld_b, hgs_st_b, hgs_ld_z, hgs_st_z, hgs_al_b, hgx_alen_s, hw, e1, w1, p1, e2, w2, k136]
    have fh := hgFh_t (hgFh_g f1) f2
    rcases sGrp_o hg with hs | ⟨g, g3, hs⟩
    · rw [hs]
      exact hgDr_e kk em fh
    · rw [hs]
      dsimp only
      rw [if_neg (by omega)]
      exact hgDr_e kk em fh
  | some g =>
    obtain ⟨g3, hs⟩ := sGrp_s hg
    rw [hs]
    dsimp only
    obtain ⟨M2, e2, r2, f2⟩ := hgk_145a (X := X) r1 hp q1 hg
    have ok2 := hgOkr_g ok1 f2 r2
    have w2 := r2.1
    have k136 := hgk_136g (X := X) r2
    have b0 : 18 + 3 * g < 20187 := by omega
    have b1 : 18 + 3 * g + 1 < 20187 := by omega
    have b2 : 18 + 3 * g + 2 < 20187 := by omega
    cases hf : f (2 + g) with
    | true =>
      rw [if_neg (by simp)]
      obtain ⟨M3, e3, em, f3⟩ := hgk_144b (X := X) (n := tSk t p) r2 ok2.2.2.1 (show 2 + g < 10 by omega) hf
      have w3 := em.1
      have a3 := hgAr_303 w3
      have k143 := hgk_143e (X := X) (x := nI 0) (y := hgI M3 303 5 - nI 1) em
      refine hgDr_e ?_ (hgEm_d (k := 18 + 3 * g + 2) (x := nI 0) (hgEm_d (k := 18 + 3 * g + 1) (x := nI 0) (hgEm_d (k := 18 + 3 * g) (x := nI 1) em))) (hgFh_d (hgFh_d (hgFh_d (hgFh_t (hgFh_t (hgFh_g f1) (hgFh_g f2)) f3))))
      simp (maxDischargeDepth := 7) only [hgc152, hgM_t, hgM_f, hgM_n, hgx_aload_n_0, hgx_invvirtual_1, hgx_aft_e, hgx_aft_i, hgx_aft_l, hgx_aft_v, hgx_pop_i, hgx_pop_f, hgx_pop_r, hgx_get0, hgx_istore_n_1i, hgx_istore_n_1r, hgx_istore_n_1f, hgx_istore_n_1n, hgx_istore_n_1l, hgx_istore_n_2i, hgx_istore_n_2r, hgx_istore_n_2f, hgx_istore_n_2n, hgx_istore_n_2l, hgx_if_ne, hgx_vret, hgx_iconst_2, hgx_iload_n_2, hgx_iadd, hgx_iload_n_1, hgx_invvirtual_3, hgx_iconst_0, hgs_get_8_9, hgx_iconst_5, hgx_iconst_1, hgx_isub, hgx_istore_n_3i, hgx_istore_n_3r, hgx_istore_n_3f, hgx_istore_n_3n, hgx_istore_n_3l, hgx_istore_4i, hgx_istore_4r, hgx_istore_4f, hgx_istore_4n, hgx_istore_4l, hgx_invstatic_1, hgx_iload_n_3, hgx_iload_4, hgv152_0, hgr152_0, hgu152_0, hgv152_23, hgr152_23, hgu152_23, hgI_SI, hgI_SJ, hgJ_SI, hgJ_SJ, if_true, if_false, reduceIte, Nat.reduceEqDiff, hgWf_SI, hgWf_SJ, hgO_SI, hgO_SJ, hgAr_SI, hgAr_SJ, hgRp_SI, hgRp_SJ, hgN_SI, hgN_SJ, hgO_g, hgO_d, hgO_rl, hgO_r, hgO_0, hgO_1, hgO_64, hgO_298, hgO_300, hgCd_0, hgCd_1, hgCd_2, hgCd_3, hgCd_4, hgCd_5, hgRecv_O, hgRecv_99, List.length_cons, List.length_nil, Nat.zero_add, Nat.add_zero, Nat.le_refl, Nat.zero_le, and_self, or_true, true_or, true_and, and_true, ne_eq, not_false_eq_true, Nat.reduceLT, Nat.reduceLeDiff, Nat.reduceAdd, Nat.reduceEqDiff, hgn_eq, hgn_lt, hgn_le, if_true, if_false, reduceIte, Nat.not_lt_zero, hgs_aa_d, hgs_aa_r, hgs_aa_h, hgs_aa_m, hgs_aa_t, hgs_ld_wp, hgs_st_wp, hgs_ld_qf, hgs_st_qf, hgs_ld_qt, hgs_st_qt, hgs_ld_2, hgs_st_2, hgs_ld_3, hgs_st_3, hgs_ld_4, hgs_st_4, hgs_ld_301, hgs_st_301, hgs_ld_D, hgs_st_D, hgs_ld_s, hgs_ld_T, hgs_st_T, hgs_ld_o, hgs_st_o, hgs_ld_b, hgs_st_b, hgs_ld_z, hgs_st_z, hgs_al_b, hgx_alen_s, hgn_add, hgn_mul, hw, e1, w1, p1, e2, w2, k136, e3, w3, a3, k143, hgk_131, b0, b1, b2]
    | false =>
      rw [if_pos ⟨g3, rfl⟩]
      have k144 := hgk_144a (X := X) (y := nI (tSk t p)) r2 ok2.2.2.1 (show 2 + g < 10 by omega) hf
      have ok3 := hgOkr_17 ok2 (show 2 + g < 10 by omega)
      have f3 : hgFh M2 (hgSI M2 300 17 (hgI M2 300 17 ||| (nI 1 <<< (nI (2 + g) &&& 31)))) := hgFh_s hgFh_r (by omega)
      generalize hgSI M2 300 17 (hgI M2 300 17 ||| (nI 1 <<< (nI (2 + g) &&& 31))) = M3 at *
      have r3 := ok3.1
      have w3 := r3.1
      have a3 := hgAr_303 w3
      have y3 : hgI M3 303 5 = nI (vDy D) := (ok3.2.1.2.2.2.1 5 (by omega) (by omega)).trans d3
      cases hn1 : sNum t (tWe t (tSk t p)) 0 (vDy D - 1) with
      | inr e =>
        obtain ⟨y1, M4, e4, em, f4⟩ := hgk_143b (X := X) r3 (by omega) (by omega) hn1
        have w4 := em.1
        have a4 := hgAr_303 w4
        have k143 := hgk_143e (X := X) (x := nI 0) (y := hgI M4 303 5 - nI 1) em
        refine hgDr_e ?_ (hgEm_d (k := 18 + 3 * g + 2) (x := nI 0) (hgEm_d (k := 18 + 3 * g + 1) (x := y1) (hgEm_d (k := 18 + 3 * g) (x := nI 1) em))) (hgFh_d (hgFh_d (hgFh_d (hgFh_t (hgFh_t (hgFh_t (hgFh_g f1) (hgFh_g f2)) f3) f4))))
        simp (maxDischargeDepth := 7) only [hgc152, hgM_t, hgM_f, hgM_n, hgx_aload_n_0, hgx_invvirtual_1, hgx_aft_e, hgx_aft_i, hgx_aft_l, hgx_aft_v, hgx_pop_i, hgx_pop_f, hgx_pop_r, hgx_get0, hgx_istore_n_1i, hgx_istore_n_1r, hgx_istore_n_1f, hgx_istore_n_1n, hgx_istore_n_1l, hgx_istore_n_2i, hgx_istore_n_2r, hgx_istore_n_2f, hgx_istore_n_2n, hgx_istore_n_2l, hgx_if_ne, hgx_vret, hgx_iconst_2, hgx_iload_n_2, hgx_iadd, hgx_iload_n_1, hgx_invvirtual_3, hgx_iconst_0, hgs_get_8_9, hgx_iconst_5, hgx_iconst_1, hgx_isub, hgx_istore_n_3i, hgx_istore_n_3r, hgx_istore_n_3f, hgx_istore_n_3n, hgx_istore_n_3l, hgx_istore_4i, hgx_istore_4r, hgx_istore_4f, hgx_istore_4n, hgx_istore_4l, hgx_invstatic_1, hgx_iload_n_3, hgx_iload_4, hgv152_0, hgr152_0, hgu152_0, hgv152_23, hgr152_23, hgu152_23, hgI_SI, hgI_SJ, hgJ_SI, hgJ_SJ, if_true, if_false, reduceIte, Nat.reduceEqDiff, hgWf_SI, hgWf_SJ, hgO_SI, hgO_SJ, hgAr_SI, hgAr_SJ, hgRp_SI, hgRp_SJ, hgN_SI, hgN_SJ, hgO_g, hgO_d, hgO_rl, hgO_r, hgO_0, hgO_1, hgO_64, hgO_298, hgO_300, hgCd_0, hgCd_1, hgCd_2, hgCd_3, hgCd_4, hgCd_5, hgRecv_O, hgRecv_99, List.length_cons, List.length_nil, Nat.zero_add, Nat.add_zero, Nat.le_refl, Nat.zero_le, and_self, or_true, true_or, true_and, and_true, ne_eq, not_false_eq_true, Nat.reduceLT, Nat.reduceLeDiff, Nat.reduceAdd, Nat.reduceEqDiff, hgn_eq, hgn_lt, hgn_le, if_true, if_false, reduceIte, Nat.not_lt_zero, hgs_aa_d, hgs_aa_r, hgs_aa_h, hgs_aa_m, hgs_aa_t, hgs_ld_wp, hgs_st_wp, hgs_ld_qf, hgs_st_qf, hgs_ld_qt, hgs_st_qt, hgs_ld_2, hgs_st_2, hgs_ld_3, hgs_st_3, hgs_ld_4, hgs_st_4, hgs_ld_301, hgs_st_301, hgs_ld_D, hgs_st_D, hgs_ld_s, hgs_ld_T, hgs_st_T, hgs_ld_o, hgs_st_o, hgs_ld_b, hgs_st_b, hgs_ld_z, hgs_st_z, hgs_al_b, hgx_alen_s, hgn_add, hgn_mul, hw, e1, w1, p1, e2, w2, k136, k144, w3, a3, y3, hgn_sub, d1, e4, w4, a4, k143, hgk_131, b0, b1, b2]
      | inl v =>
        obtain ⟨M4, e4, r4, s4, l1, l2, f4⟩ := hgk_143a (X := X) r3 (by omega) (by omega) hn1
        have ok4 := hgOkr_g ok3 f4 r4
        have w4 := r4.1
        have a4 := hgAr_303 w4
        have y4 : hgI M4 303 5 = nI (vDy D) := (ok4.2.1.2.2.2.1 5 (by omega) (by omega)).trans d3
        show hgDr X 152 _ M t (sB (sNum t v.2 0 (vDy D - 1)) (fun b => .inl (b.2, vAh D g v.1 b.1, fS f (2 + g))))
        cases hn2 : sNum t v.2 0 (vDy D - 1) with
        | inr e =>
          obtain ⟨y1, M5, e5, em, f5⟩ := hgk_143b (X := X) r4 (by omega) (by omega) hn2
          have w5 := em.1
          have a5 := hgAr_303 w5
          refine hgDr_e ?_ (hgEm_d (k := 18 + 3 * g + 2) (x := y1) (hgEm_d (k := 18 + 3 * g + 1) (x := nI v.1) (hgEm_d (k := 18 + 3 * g) (x := nI 1) em))) (hgFh_d (hgFh_d (hgFh_d (hgFh_t (hgFh_t (hgFh_t (hgFh_t (hgFh_g f1) (hgFh_g f2)) f3) (hgFh_g f4)) f5))))
          simp (maxDischargeDepth := 7) only [hgc152, hgM_t, hgM_f, hgM_n, hgx_aload_n_0, hgx_invvirtual_1, hgx_aft_e, hgx_aft_i, hgx_aft_l, hgx_aft_v, hgx_pop_i, hgx_pop_f, hgx_pop_r, hgx_get0, hgx_istore_n_1i, hgx_istore_n_1r, hgx_istore_n_1f, hgx_istore_n_1n, hgx_istore_n_1l, hgx_istore_n_2i, hgx_istore_n_2r, hgx_istore_n_2f, hgx_istore_n_2n, hgx_istore_n_2l, hgx_if_ne, hgx_vret, hgx_iconst_2, hgx_iload_n_2, hgx_iadd, hgx_iload_n_1, hgx_invvirtual_3, hgx_iconst_0, hgs_get_8_9, hgx_iconst_5, hgx_iconst_1, hgx_isub, hgx_istore_n_3i, hgx_istore_n_3r, hgx_istore_n_3f, hgx_istore_n_3n, hgx_istore_n_3l, hgx_istore_4i, hgx_istore_4r, hgx_istore_4f, hgx_istore_4n, hgx_istore_4l, hgx_invstatic_1, hgx_iload_n_3, hgx_iload_4, hgv152_0, hgr152_0, hgu152_0, hgv152_23, hgr152_23, hgu152_23, hgI_SI, hgI_SJ, hgJ_SI, hgJ_SJ, if_true, if_false, reduceIte, Nat.reduceEqDiff, hgWf_SI, hgWf_SJ, hgO_SI, hgO_SJ, hgAr_SI, hgAr_SJ, hgRp_SI, hgRp_SJ, hgN_SI, hgN_SJ, hgO_g, hgO_d, hgO_rl, hgO_r, hgO_0, hgO_1, hgO_64, hgO_298, hgO_300, hgCd_0, hgCd_1, hgCd_2, hgCd_3, hgCd_4, hgCd_5, hgRecv_O, hgRecv_99, List.length_cons, List.length_nil, Nat.zero_add, Nat.add_zero, Nat.le_refl, Nat.zero_le, and_self, or_true, true_or, true_and, and_true, ne_eq, not_false_eq_true, Nat.reduceLT, Nat.reduceLeDiff, Nat.reduceAdd, Nat.reduceEqDiff, hgn_eq, hgn_lt, hgn_le, if_true, if_false, reduceIte, Nat.not_lt_zero, hgs_aa_d, hgs_aa_r, hgs_aa_h, hgs_aa_m, hgs_aa_t, hgs_ld_wp, hgs_st_wp, hgs_ld_qf, hgs_st_qf, hgs_ld_qt, hgs_st_qt, hgs_ld_2, hgs_st_2, hgs_ld_3, hgs_st_3, hgs_ld_4, hgs_st_4, hgs_ld_301, hgs_st_301, hgs_ld_D, hgs_st_D, hgs_ld_s, hgs_ld_T, hgs_st_T, hgs_ld_o, hgs_st_o, hgs_ld_b, hgs_st_b, hgs_ld_z, hgs_st_z, hgs_al_b, hgx_alen_s, hgn_add, hgn_mul, hw, e1, w1, p1, e2, w2, k136, k144, w3, a3, y3, hgn_sub, d1, e4, w4, a4, y4, e5, w5, a5, hgk_131, b0, b1, b2]
        | inl c =>
          obtain ⟨M5, e5, r5, s5, l3, l4, f5⟩ := hgk_143a (X := X) r4 (by omega) (by omega) hn2
          have ok5 := hgOkr_g ok4 f5 r5
          have w5 := r5.1
          have a5 := hgAr_303 w5
          have z5 : nI 0 < vS D 5 := by rw [d3, hgn_lt (by omega) (by omega)]; omega
          have vd := hgRD_ah (a := v.1) (b := c.1) (hgDk_sm hk) g3 z5 ok5.2.1
          have fd : hgFn (fun b => b = 303) M5 (hgSI (hgSI (hgSI M5 303 (18 + 3 * g) (nI 1)) 303 (18 + 3 * g + 1) (nI v.1)) 303 (18 + 3 * g + 2) (nI c.1)) := hgFn_SI (hgFn_SI (hgFn_SI hgFn_r rfl) rfl) rfl
          refine hgDr_l ?_ (hgOkr_d ok5 vd fd) (hgFh_t (hgFh_t (hgFh_t (hgFh_t (hgFh_t (hgFh_g f1) (hgFh_g f2)) f3) (hgFh_g f4)) (hgFh_g f5)) (hgFh_n fd))
          simp (maxDischargeDepth := 7) only [hgc152, hgM_t, hgM_f, hgM_n, hgx_aload_n_0, hgx_invvirtual_1, hgx_aft_e, hgx_aft_i, hgx_aft_l, hgx_aft_v, hgx_pop_i, hgx_pop_f, hgx_pop_r, hgx_get0, hgx_istore_n_1i, hgx_istore_n_1r, hgx_istore_n_1f, hgx_istore_n_1n, hgx_istore_n_1l, hgx_istore_n_2i, hgx_istore_n_2r, hgx_istore_n_2f, hgx_istore_n_2n, hgx_istore_n_2l, hgx_if_ne, hgx_vret, hgx_iconst_2, hgx_iload_n_2, hgx_iadd, hgx_iload_n_1, hgx_invvirtual_3, hgx_iconst_0, hgs_get_8_9, hgx_iconst_5, hgx_iconst_1, hgx_isub, hgx_istore_n_3i, hgx_istore_n_3r, hgx_istore_n_3f, hgx_istore_n_3n, hgx_istore_n_3l, hgx_istore_4i, hgx_istore_4r, hgx_istore_4f, hgx_istore_4n, hgx_istore_4l, hgx_invstatic_1, hgx_iload_n_3, hgx_iload_4, hgv152_0, hgr152_0, hgu152_0, hgv152_23, hgr152_23, hgu152_23, hgI_SI, hgI_SJ, hgJ_SI, hgJ_SJ, if_true, if_false, reduceIte, Nat.reduceEqDiff, hgWf_SI, hgWf_SJ, hgO_SI, hgO_SJ, hgAr_SI, hgAr_SJ, hgRp_SI, hgRp_SJ, hgN_SI, hgN_SJ, hgO_g, hgO_d, hgO_rl, hgO_r, hgO_0, hgO_1, hgO_64, hgO_298, hgO_300, hgCd_0, hgCd_1, hgCd_2, hgCd_3, hgCd_4, hgCd_5, hgRecv_O, hgRecv_99, List.length_cons, List.length_nil, Nat.zero_add, Nat.add_zero, Nat.le_refl, Nat.zero_le, and_self, or_true, true_or, true_and, and_true, ne_eq, not_false_eq_true, Nat.reduceLT, Nat.reduceLeDiff, Nat.reduceAdd, Nat.reduceEqDiff, hgn_eq, hgn_lt, hgn_le, if_true, if_false, reduceIte, Nat.not_lt_zero, hgs_aa_d, hgs_aa_r, hgs_aa_h, hgs_aa_m, hgs_aa_t, hgs_ld_wp, hgs_st_wp, hgs_ld_qf, hgs_st_qf, hgs_ld_qt, hgs_st_qt, hgs_ld_2, hgs_st_2, hgs_ld_3, hgs_st_3, hgs_ld_4, hgs_st_4, hgs_ld_301, hgs_st_301, hgs_ld_D, hgs_st_D, hgs_ld_s, hgs_ld_T, hgs_st_T, hgs_ld_o, hgs_st_o, hgs_ld_b, hgs_st_b, hgs_ld_z, hgs_st_z, hgs_al_b, hgx_alen_s, hgn_add, hgn_mul, hw, e1, w1, p1, e2, w2, k136, k144, w3, a3, y3, hgn_sub, d1, e4, w4, a4, y4, e5, w5, a5, hgk_131, b0, b1, b2]
/-- the semicolon -/
theorem hgk_142r (h : hgOur M t r) : ∃ M', hgWC X 142 [.ref 300, .int (nI 59)] M = some (.inl .null, M') ∧ hgOur M' t (sB r (sSem t)) ∧ hgFh M M' := by
  cases r with
  | inr e => exact ⟨M, hgk_142e h, h, hgFh_r⟩
  | inl z =>
    have h0 : hgOkr M t (z.1, z.2.1, z.2.2) := h
    show ∃ M', _ ∧ hgOur M' t (sSem t z) ∧ _
    unfold sSem
    by_cases q : tSc t z.1 = true
    · rw [if_pos q]
      obtain ⟨M1, e1, r1, f1⟩ := hgk_142a (X := X) h0.1 q
      exact ⟨M1, e1, hgOkr_g h0 f1 r1, hgFh_g f1⟩
    · rw [if_neg q]
      obtain ⟨M1, e1, em, f1⟩ := hgk_142b (X := X) h0.1 (Bool.eq_false_iff.mpr q)
      exact ⟨M1, e1, em, f1⟩
theorem hgOur_w (h : hgOur M t r) : hgWf M := by
  cases r with
  | inr e => exact h.1
  | inl z => exact h.1.1
end HGRS2

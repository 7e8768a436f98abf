/-! OPERATIONS THAT READ: isQuiet, verdict, matching; and undo. -/
theorem hgn10 : nI 1 ≠ nI 0 := by decide
theorem hgn20 : nI 2 ≠ nI 0 := by decide
section HGREA
variable {X : hgX} {M M' M1 M2 : hgMem} {d t g h i j q c k a b n p N l r : Nat} {V V' W : hgV} {Hs Hs' : List hgV} {x y z x1 x2 x3 x4 x5 ans : Int32} {u : Int64} {P : Nat → Prop} {o : Option Nat}
theorem hgk_99a (h : hgSC M V Hs c) (hq : q < 3) : hgWC X 99 [.ref 0, .int (nI q)] M = some (.inl (.int (hgB (vQuiet V q))), M) := by
  obtain ⟨hw, g6, _, _, _, _⟩ := hgSC_6 h
  have k := hgk_15 (X := X) hw g6 hq
  rw [hgCV_qg h.2.2.1 hq] at k
  have h1 : q < 2147483648 := by omega
  simp (maxDischargeDepth := 7) only [hgc99, hgM_t, hgM_f, hgM_n, hgx_iload_n_1, hgx_if_lt, hgx_iconst_3, hgx_ic_lt, hgx_throw, hgx_aload_n_0, hgs_get_7_3, hgx_invvirtual_2, hgx_aft_e, hgx_aft_i, hgx_aft_l, hgx_aft_v, hgx_ret3, hgv99_0, hgr99_0, hgu99_0, hgv99_9, hgr99_9, hgu99_9, hgv99_19, hgr99_19, hgu99_19, hgI_SI, hgI_SJ, hgJ_SI, hgJ_SJ, if_true, if_false, reduceIte, Nat.reduceEqDiff, hgWf_SI, hgWf_SJ, hgO_SI, hgO_SJ, hgAr_SI, hgAr_SJ, hgRp_SI, hgRp_SJ, hgN_SI, hgN_SJ, hgO_g, hgO_d, hgO_rl, hgO_r, hgO_0, hgO_1, hgO_64, hgO_298, hgO_300, hgCd_0, hgCd_1, hgCd_2, hgCd_3, hgCd_4, hgCd_5, hgRecv_O, hgRecv_99, List.length_cons, List.length_nil, Nat.zero_add, Nat.add_zero, Nat.le_refl, Nat.zero_le, and_self, or_true, true_or, true_and, and_true, ne_eq, not_false_eq_true, Nat.reduceLT, Nat.reduceLeDiff, Nat.reduceAdd, Nat.reduceEqDiff, hgn_eq, hgn_lt, hgn_le, if_true, if_false, reduceIte, Nat.not_lt_zero, hw, g6, k, h1, hq, hgB_o]
theorem hgk_99b (h : hgSC M V Hs c) (hx : ¬ ∃ i, i < 3 ∧ x = nI i) : hgWC X 99 [.ref 0, .int x] M = some (.inr 0, M) := by
  have hw := h.1
  by_cases q : x < nI 0
  · simp (maxDischargeDepth := 7) only [hgc99, hgM_t, hgM_f, hgM_n, hgx_iload_n_1, hgx_if_lt, hgx_iconst_3, hgx_ic_lt, hgx_throw, hgx_aload_n_0, hgs_get_7_3, hgx_invvirtual_2, hgx_aft_e, hgx_aft_i, hgx_aft_l, hgx_aft_v, hgx_ret3, hgv99_0, hgr99_0, hgu99_0, hgv99_9, hgr99_9, hgu99_9, hgv99_19, hgr99_19, hgu99_19, hgx_throw, hgI_SI, hgI_SJ, hgJ_SI, hgJ_SJ, if_true, if_false, reduceIte, Nat.reduceEqDiff, hgWf_SI, hgWf_SJ, hgO_SI, hgO_SJ, hgAr_SI, hgAr_SJ, hgRp_SI, hgRp_SJ, hgN_SI, hgN_SJ, hgO_g, hgO_d, hgO_rl, hgO_r, hgO_0, hgO_1, hgO_64, hgO_298, hgO_300, hgCd_0, hgCd_1, hgCd_2, hgCd_3, hgCd_4, hgCd_5, hgRecv_O, hgRecv_99, List.length_cons, List.length_nil, Nat.zero_add, Nat.add_zero, Nat.le_refl, Nat.zero_le, and_self, or_true, true_or, true_and, and_true, ne_eq, not_false_eq_true, Nat.reduceLT, Nat.reduceLeDiff, Nat.reduceAdd, Nat.reduceEqDiff, hgn_eq, hgn_lt, hgn_le, if_true, if_false, reduceIte, Nat.not_lt_zero, hw, q]
  · have q2 := hgout_i hx (by omega) q
    simp (maxDischargeDepth := 7) only [hgc99, hgM_t, hgM_f, hgM_n, hgx_iload_n_1, hgx_if_lt, hgx_iconst_3, hgx_ic_lt, hgx_throw, hgx_aload_n_0, hgs_get_7_3, hgx_invvirtual_2, hgx_aft_e, hgx_aft_i, hgx_aft_l, hgx_aft_v, hgx_ret3, hgv99_0, hgr99_0, hgu99_0, hgv99_9, hgr99_9, hgu99_9, hgv99_19, hgr99_19, hgu99_19, hgx_throw, hgI_SI, hgI_SJ, hgJ_SI, hgJ_SJ, if_true, if_false, reduceIte, Nat.reduceEqDiff, hgWf_SI, hgWf_SJ, hgO_SI, hgO_SJ, hgAr_SI, hgAr_SJ, hgRp_SI, hgRp_SJ, hgN_SI, hgN_SJ, hgO_g, hgO_d, hgO_rl, hgO_r, hgO_0, hgO_1, hgO_64, hgO_298, hgO_300, hgCd_0, hgCd_1, hgCd_2, hgCd_3, hgCd_4, hgCd_5, hgRecv_O, hgRecv_99, List.length_cons, List.length_nil, Nat.zero_add, Nat.add_zero, Nat.le_refl, Nat.zero_le, and_self, or_true, true_or, true_and, and_true, ne_eq, not_false_eq_true, Nat.reduceLT, Nat.reduceLeDiff, Nat.reduceAdd, Nat.reduceEqDiff, hgn_eq, hgn_lt, hgn_le, if_true, if_false, reduceIte, Nat.not_lt_zero, hw, q, q2]
theorem hgk_182a (h : hgSM M V Hs c) (hq : q < 3) : hgWC X 182 [.ref 300, .int (nI q)] M = some (.inl (.int (hgB (vQuiet V q))), hgSI M 300 0 (nI 0)) := by
  have h2 : hgSM (hgSI M 300 0 (nI 0)) V Hs c := hgSM_0 h
  have hw := h.1
  have k0 := hgk_124a (X := X) (M := hgSI M 300 0 (nI 0)) (y := nI 1) hw hgI_at
  have b := (hgBtw_c (x := nI q) (n := 3) (m := 2) (by omega) (by omega)).mpr ⟨q, hq, rfl⟩
  have qm := hgRV_qm h2.2.1 hq
  have k := hgk_161 (X := X) h2.2.1.1 h2.2.1.2.1 hq qm.2
  rw [qm.1] at k
  simp (maxDischargeDepth := 7) only [hgc182, hgM_t, hgM_f, hgM_n, hgx_aload_n_0, hgx_iconst_0, hgx_put0, hgx_iload_n_1, hgx_iconst_2, hgx_invstatic_3, hgx_aft_e, hgx_aft_i, hgx_aft_l, hgx_aft_v, hgx_if_ne, hgx_iconst_1, hgx_goto, hgx_invvirtual_3, hgs_get_8_8, hgx_invstatic_2, hgx_if_eq, hgx_ret3, hgv182_0, hgr182_0, hgu182_0, hgv182_19, hgr182_19, hgu182_19, hgv182_20, hgr182_20, hgu182_20, hgv182_42, hgr182_42, hgu182_42, hgv182_43, hgr182_43, hgu182_43, hgWf_SI, hgWf_SJ, hgO_SI, hgO_SJ, hgAr_SI, hgAr_SJ, hgRp_SI, hgRp_SJ, hgN_SI, hgN_SJ, hgO_g, hgO_d, hgO_rl, hgO_r, hgO_0, hgO_1, hgO_64, hgO_298, hgO_300, hgCd_0, hgCd_1, hgCd_2, hgCd_3, hgCd_4, hgCd_5, hgRecv_O, hgRecv_99, List.length_cons, List.length_nil, Nat.zero_add, Nat.add_zero, Nat.le_refl, Nat.zero_le, and_self, or_true, true_or, true_and, and_true, ne_eq, not_false_eq_true, Nat.reduceLT, Nat.reduceLeDiff, Nat.reduceAdd, Nat.reduceEqDiff, hgn_eq, hgn_lt, hgn_le, if_true, if_false, reduceIte, Nat.not_lt_zero, hw, hgk_125, b, hgB_t, k0, k, hgB_0]
  cases vQuiet V q <;> rfl
theorem hgk_182b (h : hgSM M V Hs c) (hx : ¬ ∃ i, i < 3 ∧ x = nI i) : hgWC X 182 [.ref 300, .int x] M = some (.inl (.int (hgB false)), hgSI (hgSI M 300 0 (nI 0)) 300 0 (nI 1)) := by
  have hw := h.1
  have k0 := hgk_124b (X := X) (M := hgSI M 300 0 (nI 0)) (y := nI 1) hw hgI_at hgn10
  have b : hgBtw x (nI 0) (nI 2) = false := Bool.eq_false_iff.mpr (fun z => hx ((hgBtw_c (by omega) (by omega)).mp z))
  simp (maxDischargeDepth := 7) only [hgc182, hgM_t, hgM_f, hgM_n, hgx_aload_n_0, hgx_iconst_0, hgx_put0, hgx_iload_n_1, hgx_iconst_2, hgx_invstatic_3, hgx_aft_e, hgx_aft_i, hgx_aft_l, hgx_aft_v, hgx_if_ne, hgx_iconst_1, hgx_goto, hgx_invvirtual_3, hgs_get_8_8, hgx_invstatic_2, hgx_if_eq, hgx_ret3, hgv182_0, hgr182_0, hgu182_0, hgv182_19, hgr182_19, hgu182_19, hgv182_20, hgr182_20, hgu182_20, hgv182_42, hgr182_42, hgu182_42, hgv182_43, hgr182_43, hgu182_43, hgWf_SI, hgWf_SJ, hgO_SI, hgO_SJ, hgAr_SI, hgAr_SJ, hgRp_SI, hgRp_SJ, hgN_SI, hgN_SJ, hgO_g, hgO_d, hgO_rl, hgO_r, hgO_0, hgO_1, hgO_64, hgO_298, hgO_300, hgCd_0, hgCd_1, hgCd_2, hgCd_3, hgCd_4, hgCd_5, hgRecv_O, hgRecv_99, List.length_cons, List.length_nil, Nat.zero_add, Nat.add_zero, Nat.le_refl, Nat.zero_le, and_self, or_true, true_or, true_and, and_true, ne_eq, not_false_eq_true, Nat.reduceLT, Nat.reduceLeDiff, Nat.reduceAdd, Nat.reduceEqDiff, hgn_eq, hgn_lt, hgn_le, if_true, if_false, reduceIte, Nat.not_lt_zero, hw, hgk_125, b, hgB_f, k0]
theorem hgOp_213 (h : hgInv M N) : hgBb X 213 [.ref 0, .int x, .ref 325] 182 [.ref 300, .int x] M N := by
  obtain ⟨V, Hs, c, hc, hC, hR, hH, hb⟩ := h
  by_cases hx : ∃ i, i < 3 ∧ x = nI i
  · obtain ⟨i, hi, rfl⟩ := hx
    exact hgBb_ok hb (hgL_213 hC.1 hC.1 (hgk_99a hC hi)) hC hgFC_r ⟨_, hgk_182a (hgSM_o hR) hi, hgSM_0 (hgSM_o hR), hgFR_0, hgI_at⟩ hH (by omega)
  · exact hgBb_no hb hgn10 (hgL_213_0 hC.1 (hgk_99b hC hx)) (hgk_182b hR hx) hC hR hH (by omega)
/-- verdict -/
theorem hgk_100 (h : hgSC M V Hs c) : (∀ o i, (∀ i, o = some i → i < vN V) → i < vN V → (∃ i, i < 1000 ∧ x3 = nI i) → hgWC X 100 [.ref 0, .int (hgOi o), .int (nI i), .int x3] M = some (.inl (.int (vJudge V o i x3)), M)) ∧ (∀ o i, (∀ i, o = some i → i < vN V) → i < vN V → (¬ ∃ i, i < 1000 ∧ x3 = nI i) → hgWC X 100 [.ref 0, .int (hgOi o), .int (nI i), .int x3] M = some (.inr 0, M)) ∧ (∀ o, (∀ i, o = some i → i < vN V) → (¬ ∃ i, i < vN V ∧ x2 = nI i) → hgWC X 100 [.ref 0, .int (hgOi o), .int x2, .int x3] M = some (.inr 2, M)) ∧ ((¬ ∃ o : Option Nat, (∀ i, o = some i → i < vN V) ∧ x1 = hgOi o) → hgWC X 100 [.ref 0, .int x1, .int x2, .int x3] M = some (.inr 2, M)) := by
  obtain ⟨hw, g6, _, _, _, _⟩ := hgSC_6 h
  refine ⟨fun o i o1 i1 q3 => ?_, fun o i o1 i1 q3 => ?_, fun o o1 q2 => ?_, fun q1 => ?_⟩
  · have k1 := hgk_118a (X := X) h o1
    have k2 := hgk_117a (X := X) h i1
    have k3 := hgk_120a (X := X) (M := M) q3
    have k20 := hgCV_20 (X := X) (z := x3) hw h.2.2.1 h.2.2.2.2.1 o1 i1
    simp (maxDischargeDepth := 7) only [hgc100, hgM_t, hgM_f, hgM_n, hgx_aload_n_0, hgx_iload_n_1, hgx_invvirtual_2, hgx_aft_e, hgx_aft_i, hgx_aft_l, hgx_aft_v, hgx_iload_n_2, hgx_iload_n_3, hgx_invstatic_1, hgs_get_7_3, hgx_invvirtual_4, hgx_ret1, hgv100_0, hgr100_0, hgu100_0, hgI_SI, hgI_SJ, hgJ_SI, hgJ_SJ, if_true, if_false, reduceIte, Nat.reduceEqDiff, hgWf_SI, hgWf_SJ, hgO_SI, hgO_SJ, hgAr_SI, hgAr_SJ, hgRp_SI, hgRp_SJ, hgN_SI, hgN_SJ, hgO_g, hgO_d, hgO_rl, hgO_r, hgO_0, hgO_1, hgO_64, hgO_298, hgO_300, hgCd_0, hgCd_1, hgCd_2, hgCd_3, hgCd_4, hgCd_5, hgRecv_O, hgRecv_99, List.length_cons, List.length_nil, Nat.zero_add, Nat.add_zero, Nat.le_refl, Nat.zero_le, and_self, or_true, true_or, true_and, and_true, ne_eq, not_false_eq_true, Nat.reduceLT, Nat.reduceLeDiff, Nat.reduceAdd, Nat.reduceEqDiff, hgn_eq, hgn_lt, hgn_le, if_true, if_false, reduceIte, Nat.not_lt_zero, hw, g6, k1, k2, k3, k20]
  · have k1 := hgk_118a (X := X) h o1
    have k2 := hgk_117a (X := X) h i1
    have k3 := hgk_120b (X := X) (M := M) q3
    simp (maxDischargeDepth := 7) only [hgc100, hgM_t, hgM_f, hgM_n, hgx_aload_n_0, hgx_iload_n_1, hgx_invvirtual_2, hgx_aft_e, hgx_aft_i, hgx_aft_l, hgx_aft_v, hgx_iload_n_2, hgx_iload_n_3, hgx_invstatic_1, hgs_get_7_3, hgx_invvirtual_4, hgx_ret1, hgv100_0, hgr100_0, hgu100_0, hgI_SI, hgI_SJ, hgJ_SI, hgJ_SJ, if_true, if_false, reduceIte, Nat.reduceEqDiff, hgWf_SI, hgWf_SJ, hgO_SI, hgO_SJ, hgAr_SI, hgAr_SJ, hgRp_SI, hgRp_SJ, hgN_SI, hgN_SJ, hgO_g, hgO_d, hgO_rl, hgO_r, hgO_0, hgO_1, hgO_64, hgO_298, hgO_300, hgCd_0, hgCd_1, hgCd_2, hgCd_3, hgCd_4, hgCd_5, hgRecv_O, hgRecv_99, List.length_cons, List.length_nil, Nat.zero_add, Nat.add_zero, Nat.le_refl, Nat.zero_le, and_self, or_true, true_or, true_and, and_true, ne_eq, not_false_eq_true, Nat.reduceLT, Nat.reduceLeDiff, Nat.reduceAdd, Nat.reduceEqDiff, hgn_eq, hgn_lt, hgn_le, if_true, if_false, reduceIte, Nat.not_lt_zero, hw, g6, k1, k2, k3]
  · have k1 := hgk_118a (X := X) h o1
    have k2 := hgk_117b (X := X) h q2
    simp (maxDischargeDepth := 7) only [hgc100, hgM_t, hgM_f, hgM_n, hgx_aload_n_0, hgx_iload_n_1, hgx_invvirtual_2, hgx_aft_e, hgx_aft_i, hgx_aft_l, hgx_aft_v, hgx_iload_n_2, hgx_iload_n_3, hgx_invstatic_1, hgs_get_7_3, hgx_invvirtual_4, hgx_ret1, hgv100_0, hgr100_0, hgu100_0, hgI_SI, hgI_SJ, hgJ_SI, hgJ_SJ, if_true, if_false, reduceIte, Nat.reduceEqDiff, hgWf_SI, hgWf_SJ, hgO_SI, hgO_SJ, hgAr_SI, hgAr_SJ, hgRp_SI, hgRp_SJ, hgN_SI, hgN_SJ, hgO_g, hgO_d, hgO_rl, hgO_r, hgO_0, hgO_1, hgO_64, hgO_298, hgO_300, hgCd_0, hgCd_1, hgCd_2, hgCd_3, hgCd_4, hgCd_5, hgRecv_O, hgRecv_99, List.length_cons, List.length_nil, Nat.zero_add, Nat.add_zero, Nat.le_refl, Nat.zero_le, and_self, or_true, true_or, true_and, and_true, ne_eq, not_false_eq_true, Nat.reduceLT, Nat.reduceLeDiff, Nat.reduceAdd, Nat.reduceEqDiff, hgn_eq, hgn_lt, hgn_le, if_true, if_false, reduceIte, Nat.not_lt_zero, hw, g6, k1, k2]
  · have k1 := hgk_118b (X := X) h q1
    simp (maxDischargeDepth := 7) only [hgc100, hgM_t, hgM_f, hgM_n, hgx_aload_n_0, hgx_iload_n_1, hgx_invvirtual_2, hgx_aft_e, hgx_aft_i, hgx_aft_l, hgx_aft_v, hgx_iload_n_2, hgx_iload_n_3, hgx_invstatic_1, hgs_get_7_3, hgx_invvirtual_4, hgx_ret1, hgv100_0, hgr100_0, hgu100_0, hgI_SI, hgI_SJ, hgJ_SI, hgJ_SJ, if_true, if_false, reduceIte, Nat.reduceEqDiff, hgWf_SI, hgWf_SJ, hgO_SI, hgO_SJ, hgAr_SI, hgAr_SJ, hgRp_SI, hgRp_SJ, hgN_SI, hgN_SJ, hgO_g, hgO_d, hgO_rl, hgO_r, hgO_0, hgO_1, hgO_64, hgO_298, hgO_300, hgCd_0, hgCd_1, hgCd_2, hgCd_3, hgCd_4, hgCd_5, hgRecv_O, hgRecv_99, List.length_cons, List.length_nil, Nat.zero_add, Nat.add_zero, Nat.le_refl, Nat.zero_le, and_self, or_true, true_or, true_and, and_true, ne_eq, not_false_eq_true, Nat.reduceLT, Nat.reduceLeDiff, Nat.reduceAdd, Nat.reduceEqDiff, hgn_eq, hgn_lt, hgn_le, if_true, if_false, reduceIte, Nat.not_lt_zero, hw, g6, k1]
theorem hgOp_214 (h : hgInv M N) : hgBi X 214 [.ref 0, .int x1, .int x2, .int x3, .ref 325] 183 [.ref 300, .int x1, .int x2, .int x3] M N := by
  obtain ⟨V, Hs, c, hc, hC, hR, hH, hb⟩ := h
  have kc := hgk_100 (X := X) (x1 := x1) (x2 := x2) (x3 := x3) hC
  have hw := hC.1
  have h2 : hgSM (hgSI M 300 0 (nI 0)) V Hs c := hgSM_0 hR
  by_cases q1 : ∃ o : Option Nat, (∀ i, o = some i → i < vN V) ∧ x1 = hgOi o
  · have r1 := hgk_166a (X := X) h2 hgI_at q1
    by_cases q2 : ∃ i, i < vN V ∧ x2 = nI i
    · have r2 := hgk_165a (X := X) h2 hgI_at q2
      by_cases q3 : ∃ i, i < 1000 ∧ x3 = nI i
      · have b : hgBtw x3 (nI 0) (nI 999) = true := by
          rw [hgBtw_i, hgn_0, hgn_int (by omega), decide_eq_true_iff]
          have := (hgin_i (by omega)).mp q3
          omega
        obtain ⟨o, o1, o2⟩ := q1
        obtain ⟨i, i1, i2⟩ := q2
        have kc := kc.1 o i o1 i1 q3
        rw [← o2, ← i2] at kc
        refine hgBi_ok hb (hgL_214 hw hw kc) hC hgFC_r ⟨hgSI (hgSJ M 325 0 (vJudge V o i x3).toInt64) 300 0 (nI 0), ?_, hgSM_0 (hgSM_o hR), hgFR_0, hgI_at⟩ hH (by omega)
        have h3 : hgSM (hgSI (hgSJ M 325 0 (vJudge V o i x3).toInt64) 300 0 (nI 0)) V Hs c := hgSM_0 (hgSM_o hR)
        have r1' := hgk_166a (X := X) h3 hgI_at ⟨o, o1, o2⟩
        have r2' := hgk_165a (X := X) h3 hgI_at ⟨i, i1, i2⟩
        have k0 := hgk_124a (X := X) (M := hgSI (hgSJ M 325 0 (vJudge V o i x3).toInt64) 300 0 (nI 0)) (y := nI 2) hw hgI_at
        have k9 := hgRV_159 (X := X) (z := x3) h3.1 h3.2.1 h3.2.2.2.1 o1 i1
        rw [← o2, ← i2] at k9
        simp (maxDischargeDepth := 7) only [hgc183, hgM_t, hgM_f, hgM_n, hgx_aload_n_0, hgx_iconst_0, hgx_put0, hgx_iload_n_1, hgx_invvirtual_2, hgx_aft_e, hgx_aft_i, hgx_aft_l, hgx_aft_v, hgx_if_ne, hgx_iload_n_2, hgx_iload_n_3, hgx_invstatic_1, hgx_iconst_1, hgx_goto, hgx_iconst_2, hgx_invvirtual_3, hgx_if_eq, hgx_invvirtual_4, hgx_ret1, hgv183_0, hgr183_0, hgu183_0, hgv183_33, hgr183_33, hgu183_33, hgv183_34, hgr183_34, hgu183_34, hgv183_41, hgr183_41, hgu183_41, hgv183_45, hgr183_45, hgu183_45, hgv183_52, hgr183_52, hgu183_52, hgWf_SI, hgWf_SJ, hgO_SI, hgO_SJ, hgAr_SI, hgAr_SJ, hgRp_SI, hgRp_SJ, hgN_SI, hgN_SJ, hgO_g, hgO_d, hgO_rl, hgO_r, hgO_0, hgO_1, hgO_64, hgO_298, hgO_300, hgCd_0, hgCd_1, hgCd_2, hgCd_3, hgCd_4, hgCd_5, hgRecv_O, hgRecv_99, List.length_cons, List.length_nil, Nat.zero_add, Nat.add_zero, Nat.le_refl, Nat.zero_le, and_self, or_true, true_or, true_and, and_true, ne_eq, not_false_eq_true, Nat.reduceLT, Nat.reduceLeDiff, Nat.reduceAdd, Nat.reduceEqDiff, hgn_eq, hgn_lt, hgn_le, if_true, if_false, reduceIte, Nat.not_lt_zero, hw, r1', r2', hgk_160, b, hgB_t, k0, k9]
      · obtain ⟨o, o1, o2⟩ := q1
        obtain ⟨i, i1, i2⟩ := q2
        have kc := kc.2.1 o i o1 i1 q3
        rw [← o2, ← i2] at kc
        have b : hgBtw x3 (nI 0) (nI 999) = false := by
          rw [hgBtw_i, hgn_0, hgn_int (by omega), decide_eq_false_iff_not]
          rw [hgin_i (by omega)] at q3
          omega
        have k0 := hgk_124b (X := X) (M := hgSI M 300 0 (nI 0)) (y := nI 2) hw hgI_at hgn20
        refine hgBi_no hb hgn20 (hgL_214_0 hw kc) ⟨nI 0, ?_⟩ hC hR hH (by omega)
        simp (maxDischargeDepth := 7) only [hgc183, hgM_t, hgM_f, hgM_n, hgx_aload_n_0, hgx_iconst_0, hgx_put0, hgx_iload_n_1, hgx_invvirtual_2, hgx_aft_e, hgx_aft_i, hgx_aft_l, hgx_aft_v, hgx_if_ne, hgx_iload_n_2, hgx_iload_n_3, hgx_invstatic_1, hgx_iconst_1, hgx_goto, hgx_iconst_2, hgx_invvirtual_3, hgx_if_eq, hgx_invvirtual_4, hgx_ret1, hgv183_0, hgr183_0, hgu183_0, hgv183_33, hgr183_33, hgu183_33, hgv183_34, hgr183_34, hgu183_34, hgv183_41, hgr183_41, hgu183_41, hgv183_45, hgr183_45, hgu183_45, hgv183_52, hgr183_52, hgu183_52, hgWf_SI, hgWf_SJ, hgO_SI, hgO_SJ, hgAr_SI, hgAr_SJ, hgRp_SI, hgRp_SJ, hgN_SI, hgN_SJ, hgO_g, hgO_d, hgO_rl, hgO_r, hgO_0, hgO_1, hgO_64, hgO_298, hgO_300, hgCd_0, hgCd_1, hgCd_2, hgCd_3, hgCd_4, hgCd_5, hgRecv_O, hgRecv_99, List.length_cons, List.length_nil, Nat.zero_add, Nat.add_zero, Nat.le_refl, Nat.zero_le, and_self, or_true, true_or, true_and, and_true, ne_eq, not_false_eq_true, Nat.reduceLT, Nat.reduceLeDiff, Nat.reduceAdd, Nat.reduceEqDiff, hgn_eq, hgn_lt, hgn_le, if_true, if_false, reduceIte, Nat.not_lt_zero, hw, r1, r2, hgk_160, b, hgB_f, k0]
    · obtain ⟨o, o1, o2⟩ := q1
      have kc := kc.2.2.1 o o1 q2
      rw [← o2] at kc
      have r2 := hgk_165b (X := X) h2 hgI_at q2
      refine hgBi_no hb hgn10 (hgL_214_2 hw kc) ⟨nI 0, ?_⟩ hC hR hH (by omega)
      simp (maxDischargeDepth := 7) only [hgc183, hgM_t, hgM_f, hgM_n, hgx_aload_n_0, hgx_iconst_0, hgx_put0, hgx_iload_n_1, hgx_invvirtual_2, hgx_aft_e, hgx_aft_i, hgx_aft_l, hgx_aft_v, hgx_if_ne, hgx_iload_n_2, hgx_iload_n_3, hgx_invstatic_1, hgx_iconst_1, hgx_goto, hgx_iconst_2, hgx_invvirtual_3, hgx_if_eq, hgx_invvirtual_4, hgx_ret1, hgv183_0, hgr183_0, hgu183_0, hgv183_33, hgr183_33, hgu183_33, hgv183_34, hgr183_34, hgu183_34, hgv183_41, hgr183_41, hgu183_41, hgv183_45, hgr183_45, hgu183_45, hgv183_52, hgr183_52, hgu183_52, hgWf_SI, hgWf_SJ, hgO_SI, hgO_SJ, hgAr_SI, hgAr_SJ, hgRp_SI, hgRp_SJ, hgN_SI, hgN_SJ, hgO_g, hgO_d, hgO_rl, hgO_r, hgO_0, hgO_1, hgO_64, hgO_298, hgO_300, hgCd_0, hgCd_1, hgCd_2, hgCd_3, hgCd_4, hgCd_5, hgRecv_O, hgRecv_99, List.length_cons, List.length_nil, Nat.zero_add, Nat.add_zero, Nat.le_refl, Nat.zero_le, and_self, or_true, true_or, true_and, and_true, ne_eq, not_false_eq_true, Nat.reduceLT, Nat.reduceLeDiff, Nat.reduceAdd, Nat.reduceEqDiff, hgn_eq, hgn_lt, hgn_le, if_true, if_false, reduceIte, Nat.not_lt_zero, hw, r1, r2]
  · have kc := kc.2.2.2 q1
    have r1 := hgk_166b (X := X) h2 hgI_at q1
    refine hgBi_no hb hgn10 (hgL_214_2 hw kc) ⟨nI 0, ?_⟩ hC hR hH (by omega)
    simp (maxDischargeDepth := 7) only [hgc183, hgM_t, hgM_f, hgM_n, hgx_aload_n_0, hgx_iconst_0, hgx_put0, hgx_iload_n_1, hgx_invvirtual_2, hgx_aft_e, hgx_aft_i, hgx_aft_l, hgx_aft_v, hgx_if_ne, hgx_iload_n_2, hgx_iload_n_3, hgx_invstatic_1, hgx_iconst_1, hgx_goto, hgx_iconst_2, hgx_invvirtual_3, hgx_if_eq, hgx_invvirtual_4, hgx_ret1, hgv183_0, hgr183_0, hgu183_0, hgv183_33, hgr183_33, hgu183_33, hgv183_34, hgr183_34, hgu183_34, hgv183_41, hgr183_41, hgu183_41, hgv183_45, hgr183_45, hgu183_45, hgv183_52, hgr183_52, hgu183_52, hgWf_SI, hgWf_SJ, hgO_SI, hgO_SJ, hgAr_SI, hgAr_SJ, hgRp_SI, hgRp_SJ, hgN_SI, hgN_SJ, hgO_g, hgO_d, hgO_rl, hgO_r, hgO_0, hgO_1, hgO_64, hgO_298, hgO_300, hgCd_0, hgCd_1, hgCd_2, hgCd_3, hgCd_4, hgCd_5, hgRecv_O, hgRecv_99, List.length_cons, List.length_nil, Nat.zero_add, Nat.add_zero, Nat.le_refl, Nat.zero_le, and_self, or_true, true_or, true_and, and_true, ne_eq, not_false_eq_true, Nat.reduceLT, Nat.reduceLeDiff, Nat.reduceAdd, Nat.reduceEqDiff, hgn_eq, hgn_lt, hgn_le, if_true, if_false, reduceIte, Nat.not_lt_zero, hw, r1]
/-- matching -/
theorem hgOp_215 (h : hgInv M N) : hgBi X 215 [.ref 0, .int x1, .int x2, .int x3, .ref 325] 184 [.ref 300, .int x1, .int x2, .int x3] M N := by
  obtain ⟨V, Hs, c, hc, hC, hR, hH, hb⟩ := h
  obtain ⟨hw, g6, _, _, hn, hN⟩ := hgSC_6 hC
  by_cases q1 : ∃ i, i < 4 ∧ x1 = nI i
  · have b1 : hgBtw x1 (nI 0) (nI 3) = true := (hgBtw_c (by omega) (by omega)).mpr q1
    have c1 : ¬ x1 < nI 0 ∧ ¬ nI 3 < x1 := by
      have := (hgin_i (by omega)).mp q1
      rw [hglt_i, hglt_i, hgn_0, hgn_int (by omega)]
      omega
    by_cases q2 : ∃ i, i < 3 ∧ x2 = nI i
    · have b2 : hgBtw x2 (nI 0) (nI 2) = true := (hgBtw_c (by omega) (by omega)).mpr q2
      have c2 := hgnot_lt0 q2 (by omega)
      by_cases q3 : ∃ i, i < 1000 ∧ x3 = nI i
      · have b3 : hgBtw x3 (nI 0) (nI 999) = true := by
          rw [hgBtw_i, hgn_0, hgn_int (by omega), decide_eq_true_iff]
          have := (hgin_i (by omega)).mp q3
          omega
        have k3 := hgk_120a (X := X) (M := M) q3
        have k53 : hgWC X 53 [.ref 18, .int x1, .int x2, .int x3] M = some (.inl (.int (hgOi (vFst V x1 x2 x3))), M) := by
          have := hgk_53 (X := X) (g := 6) (x := x1) (y := x2) (z := x3) hw g6 hn hN
          rw [hgCV_fst hC.2.2.1] at this
          exact this
        have o18 : hgO M 18 5 := hgO_rl hw g6
        have kc : hgWC X 101 [.ref 0, .int x1, .int x2, .int x3] M = some (.inl (.int (hgOi (vFst V x1 x2 x3))), M) := by
          simp (maxDischargeDepth := 7) only [hgc101, hgM_t, hgM_f, hgM_n, hgx_iload_n_1, hgx_if_lt, hgx_iconst_3, hgx_ic_gt, hgx_iload_n_2, hgx_ic_lt, hgx_throw, hgx_iload_n_3, hgx_invstatic_1, hgx_aft_e, hgx_aft_i, hgx_aft_l, hgx_aft_v, hgx_aload_n_0, hgs_get_7_3, hgs_get_1_7, hgx_invvirtual_4, hgx_ret1, hgv101_0, hgr101_0, hgu101_0, hgv101_18, hgr101_18, hgu101_18, hgv101_28, hgr101_28, hgu101_28, hgI_SI, hgI_SJ, hgJ_SI, hgJ_SJ, if_true, if_false, reduceIte, Nat.reduceEqDiff, hgWf_SI, hgWf_SJ, hgO_SI, hgO_SJ, hgAr_SI, hgAr_SJ, hgRp_SI, hgRp_SJ, hgN_SI, hgN_SJ, hgO_g, hgO_d, hgO_rl, hgO_r, hgO_0, hgO_1, hgO_64, hgO_298, hgO_300, hgCd_0, hgCd_1, hgCd_2, hgCd_3, hgCd_4, hgCd_5, hgRecv_O, hgRecv_99, List.length_cons, List.length_nil, Nat.zero_add, Nat.add_zero, Nat.le_refl, Nat.zero_le, and_self, or_true, true_or, true_and, and_true, ne_eq, not_false_eq_true, Nat.reduceLT, Nat.reduceLeDiff, Nat.reduceAdd, Nat.reduceEqDiff, hgn_eq, hgn_lt, hgn_le, if_true, if_false, reduceIte, Nat.not_lt_zero, hw, g6, c1.1, c1.2, c2.1, c2.2, k3, k53, o18]
        refine hgBi_ok hb (hgL_215 hw hw kc) hC hgFC_r ⟨hgSI (hgSJ M 325 0 (hgOi (vFst V x1 x2 x3)).toInt64) 300 0 (nI 0), ?_, hgSM_0 (hgSM_o hR), hgFR_0, hgI_at⟩ hH (by omega)
        have h3 : hgSM (hgSI (hgSJ M 325 0 (hgOi (vFst V x1 x2 x3)).toInt64) 300 0 (nI 0)) V Hs c := hgSM_0 (hgSM_o hR)
        have k0 := hgk_124a (X := X) (M := hgSI (hgSJ M 325 0 (hgOi (vFst V x1 x2 x3)).toInt64) 300 0 (nI 0)) (y := nI 1) hw hgI_at
        have k9 := hgk_157 (X := X) (x := x1) (y := x2) (z := x3) h3.1 hN
        rw [hgRV_fst h3.2.1] at k9
        have e1 := h3.2.1.2.2.2.2.1
        simp (maxDischargeDepth := 7) only [hgc184, hgM_t, hgM_f, hgM_n, hgx_aload_n_0, hgx_iconst_0, hgx_put0, hgx_iload_n_1, hgx_iconst_3, hgx_invstatic_3, hgx_aft_e, hgx_aft_i, hgx_aft_l, hgx_aft_v, hgx_if_eq, hgx_iload_n_2, hgx_iconst_2, hgx_iload_n_3, hgx_invstatic_1, hgx_if_ne, hgx_iconst_1, hgx_goto, hgx_invvirtual_3, hgs_get_8_8, hgx_invvirtual_5, hgx_ret1, hgv184_0, hgr184_0, hgu184_0, hgv184_31, hgr184_31, hgu184_31, hgv184_35, hgr184_35, hgu184_35, hgv184_36, hgr184_36, hgu184_36, hgv184_47, hgr184_47, hgu184_47, hgv184_60, hgr184_60, hgu184_60, hgs_aa_d, hgs_aa_r, hgs_aa_h, hgs_aa_m, hgs_aa_t, hgs_ld_wp, hgs_st_wp, hgs_ld_qf, hgs_st_qf, hgs_ld_qt, hgs_st_qt, hgs_ld_2, hgs_st_2, hgs_ld_3, hgs_st_3, hgs_ld_4, hgs_st_4, hgs_ld_301, hgs_st_301, hgs_ld_D, hgs_st_D, hgs_ld_s, hgs_ld_T, hgs_st_T, hgs_ld_o, hgs_st_o, hgs_ld_b, hgs_st_b, hgs_ld_z, hgs_st_z, hgs_al_b, hgx_alen_s, hgWf_SI, hgWf_SJ, hgO_SI, hgO_SJ, hgAr_SI, hgAr_SJ, hgRp_SI, hgRp_SJ, hgN_SI, hgN_SJ, hgO_g, hgO_d, hgO_rl, hgO_r, hgO_0, hgO_1, hgO_64, hgO_298, hgO_300, hgCd_0, hgCd_1, hgCd_2, hgCd_3, hgCd_4, hgCd_5, hgRecv_O, hgRecv_99, List.length_cons, List.length_nil, Nat.zero_add, Nat.add_zero, Nat.le_refl, Nat.zero_le, and_self, or_true, true_or, true_and, and_true, ne_eq, not_false_eq_true, Nat.reduceLT, Nat.reduceLeDiff, Nat.reduceAdd, Nat.reduceEqDiff, hgn_eq, hgn_lt, hgn_le, if_true, if_false, reduceIte, Nat.not_lt_zero, hw, hgAr_302 hw, hgk_125, hgk_160, b1, b2, b3, hgB_t, k0, k9, e1]
      · have b3 : hgBtw x3 (nI 0) (nI 999) = false := by
          rw [hgBtw_i, hgn_0, hgn_int (by omega), decide_eq_false_iff_not]
          rw [hgin_i (by omega)] at q3
          omega
        have k3 := hgk_120b (X := X) (M := M) q3
        have kc : hgWC X 101 [.ref 0, .int x1, .int x2, .int x3] M = some (.inr 0, M) := by
          simp (maxDischargeDepth := 7) only [hgc101, hgM_t, hgM_f, hgM_n, hgx_iload_n_1, hgx_if_lt, hgx_iconst_3, hgx_ic_gt, hgx_iload_n_2, hgx_ic_lt, hgx_throw, hgx_iload_n_3, hgx_invstatic_1, hgx_aft_e, hgx_aft_i, hgx_aft_l, hgx_aft_v, hgx_aload_n_0, hgs_get_7_3, hgs_get_1_7, hgx_invvirtual_4, hgx_ret1, hgv101_0, hgr101_0, hgu101_0, hgv101_18, hgr101_18, hgu101_18, hgv101_28, hgr101_28, hgu101_28, hgI_SI, hgI_SJ, hgJ_SI, hgJ_SJ, if_true, if_false, reduceIte, Nat.reduceEqDiff, hgWf_SI, hgWf_SJ, hgO_SI, hgO_SJ, hgAr_SI, hgAr_SJ, hgRp_SI, hgRp_SJ, hgN_SI, hgN_SJ, hgO_g, hgO_d, hgO_rl, hgO_r, hgO_0, hgO_1, hgO_64, hgO_298, hgO_300, hgCd_0, hgCd_1, hgCd_2, hgCd_3, hgCd_4, hgCd_5, hgRecv_O, hgRecv_99, List.length_cons, List.length_nil, Nat.zero_add, Nat.add_zero, Nat.le_refl, Nat.zero_le, and_self, or_true, true_or, true_and, and_true, ne_eq, not_false_eq_true, Nat.reduceLT, Nat.reduceLeDiff, Nat.reduceAdd, Nat.reduceEqDiff, hgn_eq, hgn_lt, hgn_le, if_true, if_false, reduceIte, Nat.not_lt_zero, hw, g6, c1.1, c1.2, c2.1, c2.2, k3]
        have k0 := hgk_124b (X := X) (M := hgSI M 300 0 (nI 0)) (y := nI 1) hw hgI_at hgn10
        refine hgBi_no hb hgn10 (hgL_215_0 hw kc) ⟨nI 0, ?_⟩ hC hR hH (by omega)
        simp (maxDischargeDepth := 7) only [hgc184, hgM_t, hgM_f, hgM_n, hgx_aload_n_0, hgx_iconst_0, hgx_put0, hgx_iload_n_1, hgx_iconst_3, hgx_invstatic_3, hgx_aft_e, hgx_aft_i, hgx_aft_l, hgx_aft_v, hgx_if_eq, hgx_iload_n_2, hgx_iconst_2, hgx_iload_n_3, hgx_invstatic_1, hgx_if_ne, hgx_iconst_1, hgx_goto, hgx_invvirtual_3, hgs_get_8_8, hgx_invvirtual_5, hgx_ret1, hgv184_0, hgr184_0, hgu184_0, hgv184_31, hgr184_31, hgu184_31, hgv184_35, hgr184_35, hgu184_35, hgv184_36, hgr184_36, hgu184_36, hgv184_47, hgr184_47, hgu184_47, hgv184_60, hgr184_60, hgu184_60, hgWf_SI, hgWf_SJ, hgO_SI, hgO_SJ, hgAr_SI, hgAr_SJ, hgRp_SI, hgRp_SJ, hgN_SI, hgN_SJ, hgO_g, hgO_d, hgO_rl, hgO_r, hgO_0, hgO_1, hgO_64, hgO_298, hgO_300, hgCd_0, hgCd_1, hgCd_2, hgCd_3, hgCd_4, hgCd_5, hgRecv_O, hgRecv_99, List.length_cons, List.length_nil, Nat.zero_add, Nat.add_zero, Nat.le_refl, Nat.zero_le, and_self, or_true, true_or, true_and, and_true, ne_eq, not_false_eq_true, Nat.reduceLT, Nat.reduceLeDiff, Nat.reduceAdd, Nat.reduceEqDiff, hgn_eq, hgn_lt, hgn_le, if_true, if_false, reduceIte, Nat.not_lt_zero, hw, hgk_125, hgk_160, b1, b2, b3, hgB_t, hgB_f, k0]
    · have b2 : hgBtw x2 (nI 0) (nI 2) = false := Bool.eq_false_iff.mpr (fun z => q2 ((hgBtw_c (by omega) (by omega)).mp z))
      have kc : hgWC X 101 [.ref 0, .int x1, .int x2, .int x3] M = some (.inr 0, M) := by
        by_cases q : x2 < nI 0
        · simp (maxDischargeDepth := 7) only [hgc101, hgM_t, hgM_f, hgM_n, hgx_iload_n_1, hgx_if_lt, hgx_iconst_3, hgx_ic_gt, hgx_iload_n_2, hgx_ic_lt, hgx_throw, hgx_iload_n_3, hgx_invstatic_1, hgx_aft_e, hgx_aft_i, hgx_aft_l, hgx_aft_v, hgx_aload_n_0, hgs_get_7_3, hgs_get_1_7, hgx_invvirtual_4, hgx_ret1, hgv101_0, hgr101_0, hgu101_0, hgv101_18, hgr101_18, hgu101_18, hgv101_28, hgr101_28, hgu101_28, hgx_throw, hgI_SI, hgI_SJ, hgJ_SI, hgJ_SJ, if_true, if_false, reduceIte, Nat.reduceEqDiff, hgWf_SI, hgWf_SJ, hgO_SI, hgO_SJ, hgAr_SI, hgAr_SJ, hgRp_SI, hgRp_SJ, hgN_SI, hgN_SJ, hgO_g, hgO_d, hgO_rl, hgO_r, hgO_0, hgO_1, hgO_64, hgO_298, hgO_300, hgCd_0, hgCd_1, hgCd_2, hgCd_3, hgCd_4, hgCd_5, hgRecv_O, hgRecv_99, List.length_cons, List.length_nil, Nat.zero_add, Nat.add_zero, Nat.le_refl, Nat.zero_le, and_self, or_true, true_or, true_and, and_true, ne_eq, not_false_eq_true, Nat.reduceLT, Nat.reduceLeDiff, Nat.reduceAdd, Nat.reduceEqDiff, hgn_eq, hgn_lt, hgn_le, if_true, if_false, reduceIte, Nat.not_lt_zero, hw, g6, c1.1, c1.2, q]
        · have q9 := hgout_i q2 (by omega) q
          simp (maxDischargeDepth := 7) only [hgc101, hgM_t, hgM_f, hgM_n, hgx_iload_n_1, hgx_if_lt, hgx_iconst_3, hgx_ic_gt, hgx_iload_n_2, hgx_ic_lt, hgx_throw, hgx_iload_n_3, hgx_invstatic_1, hgx_aft_e, hgx_aft_i, hgx_aft_l, hgx_aft_v, hgx_aload_n_0, hgs_get_7_3, hgs_get_1_7, hgx_invvirtual_4, hgx_ret1, hgv101_0, hgr101_0, hgu101_0, hgv101_18, hgr101_18, hgu101_18, hgv101_28, hgr101_28, hgu101_28, hgx_throw, hgI_SI, hgI_SJ, hgJ_SI, hgJ_SJ, if_true, if_false, reduceIte, Nat.reduceEqDiff, hgWf_SI, hgWf_SJ, hgO_SI, hgO_SJ, hgAr_SI, hgAr_SJ, hgRp_SI, hgRp_SJ, hgN_SI, hgN_SJ, hgO_g, hgO_d, hgO_rl, hgO_r, hgO_0, hgO_1, hgO_64, hgO_298, hgO_300, hgCd_0, hgCd_1, hgCd_2, hgCd_3, hgCd_4, hgCd_5, hgRecv_O, hgRecv_99, List.length_cons, List.length_nil, Nat.zero_add, Nat.add_zero, Nat.le_refl, Nat.zero_le, and_self, or_true, true_or, true_and, and_true, ne_eq, not_false_eq_true, Nat.reduceLT, Nat.reduceLeDiff, Nat.reduceAdd, Nat.reduceEqDiff, hgn_eq, hgn_lt, hgn_le, if_true, if_false, reduceIte, Nat.not_lt_zero, hw, g6, c1.1, c1.2, q, q9]
      have k0 := hgk_124b (X := X) (M := hgSI M 300 0 (nI 0)) (y := nI 1) hw hgI_at hgn10
      refine hgBi_no hb hgn10 (hgL_215_0 hw kc) ⟨nI 0, ?_⟩ hC hR hH (by omega)
      simp (maxDischargeDepth := 7) only [hgc184, hgM_t, hgM_f, hgM_n, hgx_aload_n_0, hgx_iconst_0, hgx_put0, hgx_iload_n_1, hgx_iconst_3, hgx_invstatic_3, hgx_aft_e, hgx_aft_i, hgx_aft_l, hgx_aft_v, hgx_if_eq, hgx_iload_n_2, hgx_iconst_2, hgx_iload_n_3, hgx_invstatic_1, hgx_if_ne, hgx_iconst_1, hgx_goto, hgx_invvirtual_3, hgs_get_8_8, hgx_invvirtual_5, hgx_ret1, hgv184_0, hgr184_0, hgu184_0, hgv184_31, hgr184_31, hgu184_31, hgv184_35, hgr184_35, hgu184_35, hgv184_36, hgr184_36, hgu184_36, hgv184_47, hgr184_47, hgu184_47, hgv184_60, hgr184_60, hgu184_60, hgWf_SI, hgWf_SJ, hgO_SI, hgO_SJ, hgAr_SI, hgAr_SJ, hgRp_SI, hgRp_SJ, hgN_SI, hgN_SJ, hgO_g, hgO_d, hgO_rl, hgO_r, hgO_0, hgO_1, hgO_64, hgO_298, hgO_300, hgCd_0, hgCd_1, hgCd_2, hgCd_3, hgCd_4, hgCd_5, hgRecv_O, hgRecv_99, List.length_cons, List.length_nil, Nat.zero_add, Nat.add_zero, Nat.le_refl, Nat.zero_le, and_self, or_true, true_or, true_and, and_true, ne_eq, not_false_eq_true, Nat.reduceLT, Nat.reduceLeDiff, Nat.reduceAdd, Nat.reduceEqDiff, hgn_eq, hgn_lt, hgn_le, if_true, if_false, reduceIte, Nat.not_lt_zero, hw, hgk_125, b1, b2, hgB_t, hgB_f, k0]
  · have b1 : hgBtw x1 (nI 0) (nI 3) = false := Bool.eq_false_iff.mpr (fun z => q1 ((hgBtw_c (by omega) (by omega)).mp z))
    have kc : hgWC X 101 [.ref 0, .int x1, .int x2, .int x3] M = some (.inr 0, M) := by
      by_cases q : x1 < nI 0
      · simp (maxDischargeDepth := 7) only [hgc101, hgM_t, hgM_f, hgM_n, hgx_iload_n_1, hgx_if_lt, hgx_iconst_3, hgx_ic_gt, hgx_iload_n_2, hgx_ic_lt, hgx_throw, hgx_iload_n_3, hgx_invstatic_1, hgx_aft_e, hgx_aft_i, hgx_aft_l, hgx_aft_v, hgx_aload_n_0, hgs_get_7_3, hgs_get_1_7, hgx_invvirtual_4, hgx_ret1, hgv101_0, hgr101_0, hgu101_0, hgv101_18, hgr101_18, hgu101_18, hgv101_28, hgr101_28, hgu101_28, hgx_throw, hgI_SI, hgI_SJ, hgJ_SI, hgJ_SJ, if_true, if_false, reduceIte, Nat.reduceEqDiff, hgWf_SI, hgWf_SJ, hgO_SI, hgO_SJ, hgAr_SI, hgAr_SJ, hgRp_SI, hgRp_SJ, hgN_SI, hgN_SJ, hgO_g, hgO_d, hgO_rl, hgO_r, hgO_0, hgO_1, hgO_64, hgO_298, hgO_300, hgCd_0, hgCd_1, hgCd_2, hgCd_3, hgCd_4, hgCd_5, hgRecv_O, hgRecv_99, List.length_cons, List.length_nil, Nat.zero_add, Nat.add_zero, Nat.le_refl, Nat.zero_le, and_self, or_true, true_or, true_and, and_true, ne_eq, not_false_eq_true, Nat.reduceLT, Nat.reduceLeDiff, Nat.reduceAdd, Nat.reduceEqDiff, hgn_eq, hgn_lt, hgn_le, if_true, if_false, reduceIte, Nat.not_lt_zero, hw, g6, q]
      · have q9 : nI 3 < x1 := by
          rw [hgin_i (by omega)] at q1
          rw [hglt_i, hgn_0] at q
          rw [hglt_i, hgn_int (by omega)]
          omega
        simp (maxDischargeDepth := 7) only [hgc101, hgM_t, hgM_f, hgM_n, hgx_iload_n_1, hgx_if_lt, hgx_iconst_3, hgx_ic_gt, hgx_iload_n_2, hgx_ic_lt, hgx_throw, hgx_iload_n_3, hgx_invstatic_1, hgx_aft_e, hgx_aft_i, hgx_aft_l, hgx_aft_v, hgx_aload_n_0, hgs_get_7_3, hgs_get_1_7, hgx_invvirtual_4, hgx_ret1, hgv101_0, hgr101_0, hgu101_0, hgv101_18, hgr101_18, hgu101_18, hgv101_28, hgr101_28, hgu101_28, hgx_throw, hgI_SI, hgI_SJ, hgJ_SI, hgJ_SJ, if_true, if_false, reduceIte, Nat.reduceEqDiff, hgWf_SI, hgWf_SJ, hgO_SI, hgO_SJ, hgAr_SI, hgAr_SJ, hgRp_SI, hgRp_SJ, hgN_SI, hgN_SJ, hgO_g, hgO_d, hgO_rl, hgO_r, hgO_0, hgO_1, hgO_64, hgO_298, hgO_300, hgCd_0, hgCd_1, hgCd_2, hgCd_3, hgCd_4, hgCd_5, hgRecv_O, hgRecv_99, List.length_cons, List.length_nil, Nat.zero_add, Nat.add_zero, Nat.le_refl, Nat.zero_le, and_self, or_true, true_or, true_and, and_true, ne_eq, not_false_eq_true, Nat.reduceLT, Nat.reduceLeDiff, Nat.reduceAdd, Nat.reduceEqDiff, hgn_eq, hgn_lt, hgn_le, if_true, if_false, reduceIte, Nat.not_lt_zero, hw, g6, q, q9]
    have k0 := hgk_124b (X := X) (M := hgSI M 300 0 (nI 0)) (y := nI 1) hw hgI_at hgn10
    refine hgBi_no hb hgn10 (hgL_215_0 hw kc) ⟨nI 0, ?_⟩ hC hR hH (by omega)
    simp (maxDischargeDepth := 7) only [hgc184, hgM_t, hgM_f, hgM_n, hgx_aload_n_0, hgx_iconst_0, hgx_put0, hgx_iload_n_1, hgx_iconst_3, hgx_invstatic_3, hgx_aft_e, hgx_aft_i, hgx_aft_l, hgx_aft_v, hgx_if_eq, hgx_iload_n_2, hgx_iconst_2, hgx_iload_n_3, hgx_invstatic_1, hgx_if_ne, hgx_iconst_1, hgx_goto, hgx_invvirtual_3, hgs_get_8_8, hgx_invvirtual_5, hgx_ret1, hgv184_0, hgr184_0, hgu184_0, hgv184_31, hgr184_31, hgu184_31, hgv184_35, hgr184_35, hgu184_35, hgv184_36, hgr184_36, hgu184_36, hgv184_47, hgr184_47, hgu184_47, hgv184_60, hgr184_60, hgu184_60, hgWf_SI, hgWf_SJ, hgO_SI, hgO_SJ, hgAr_SI, hgAr_SJ, hgRp_SI, hgRp_SJ, hgN_SI, hgN_SJ, hgO_g, hgO_d, hgO_rl, hgO_r, hgO_0, hgO_1, hgO_64, hgO_298, hgO_300, hgCd_0, hgCd_1, hgCd_2, hgCd_3, hgCd_4, hgCd_5, hgRecv_O, hgRecv_99, List.length_cons, List.length_nil, Nat.zero_add, Nat.add_zero, Nat.le_refl, Nat.zero_le, and_self, or_true, true_or, true_and, and_true, ne_eq, not_false_eq_true, Nat.reduceLT, Nat.reduceLeDiff, Nat.reduceAdd, Nat.reduceEqDiff, hgn_eq, hgn_lt, hgn_le, if_true, if_false, reduceIte, Nat.not_lt_zero, hw, hgk_125, b1, hgB_f, k0]
/-- undo -/
theorem hgOp_114 (h : hgInv M N) : hgAi X 114 [.ref 0] 203 [.ref 300] M N := by
  obtain ⟨V, Hs, c, hc, hC, hR, hH, hb⟩ := h
  cases Hs with
  | nil => exact ⟨_, _, _, hgk_114n hC, hgk_203n hR, hC.1, hgInv_2 hb hC hgFC_r (hgSM_0 hR) hgFR_0 hH (by omega)⟩
  | cons W Hs =>
    obtain ⟨M1, e1, h1, f1⟩ := hgk_114 (X := X) hC
    obtain ⟨M2, e2, h2, f2, _⟩ := hgk_203 (X := X) (hgSM_C f1 h1.1 hR)
    exact ⟨_, _, _, e1, e2, h1.1, hgInv_2 hb h1 f1 h2 f2 hH.2.2.2.2 (by omega)⟩
end HGREA

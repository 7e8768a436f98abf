/-! DEVICES AND PACKETS, the component's. -/
section HGDEV
variable {X : hgX} {M : hgMem} {a b g i j : Nat} {x y z w : Int32}
theorem hgk_3 (h : hgO M a 0) : hgWC X 3 [.ref a] M = some (.inl .null, hgSI (hgSI M a 4 (nI 1)) a 5 (hgI M a 2)) := by
  simp only [hgc3, hgM_t, hgM_f, hgM_n, hgx_aload_n_0, hgx_iconst_1, hgx_put0, hgx_get0, hgx_vret, hgr3_0, hgv3_0, hgu3_0, hgI_SI, hgI_SJ, hgJ_SI, hgJ_SJ, if_true, if_false, reduceIte, Nat.reduceEqDiff, hgWf_SI, hgWf_SJ, hgO_SI, hgO_SJ, hgAr_SI, hgAr_SJ, hgRp_SI, hgRp_SJ, hgN_SI, hgN_SJ, hgO_g, hgO_d, hgO_rl, hgO_r, hgO_0, hgO_1, hgO_64, hgO_298, hgO_300, hgCd, hgRecv_O, hgRecv_99, List.length_cons, List.length_nil, Nat.zero_add, Nat.add_zero, Nat.le_refl, Nat.zero_le, and_self, or_true, true_or, true_and, and_true, ne_eq, not_false_eq_true, h]
/-- beginTick -/
def hgBt (M : hgMem) (a : Nat) : hgMem := let M := hgSI M a 14 (nI 0); if hgI M a 4 = nI 1 then (if hgI M a 5 = nI 0 then hgSI (hgSI M a 4 (nI 0)) a 6 (nI 0) else hgSI M a 5 (hgI M a 5 - nI 1)) else M
theorem hgk_4 (h : hgO M a 0) : hgWC X 4 [.ref a] M = some (.inl .null, hgBt M a) := by
  simp only [hgc4, hgM_t, hgM_f, hgM_n, hgx_aload_n_0, hgx_iconst_0, hgx_put3, hgx_get0, hgx_iconst_1, hgx_ic_eq, hgx_vret, hgx_if_ne, hgx_put0, hgx_goto, hgx_dup_i, hgx_dup_f, hgx_dup_r, hgx_isub, hgr4_0, hgv4_0, hgu4_0, hgr4_14, hgv4_14, hgu4_14, hgr4_34, hgv4_34, hgu4_34, hgr4_44, hgv4_44, hgu4_44, hgBt, hgWf_SI, hgWf_SJ, hgO_SI, hgO_SJ, hgAr_SI, hgAr_SJ, hgRp_SI, hgRp_SJ, hgN_SI, hgN_SJ, hgO_g, hgO_d, hgO_rl, hgO_r, hgO_0, hgO_1, hgO_64, hgO_298, hgO_300, hgCd, hgRecv_O, hgRecv_99, List.length_cons, List.length_nil, Nat.zero_add, Nat.add_zero, Nat.le_refl, Nat.zero_le, and_self, or_true, true_or, true_and, and_true, ne_eq, not_false_eq_true, h]
  split
  · split <;> rfl
  · rfl
/-- endTick -/
def hgEt (M : hgMem) (a : Nat) : hgMem := if hgI M a 4 = nI 0 then (if hgI M a 14 = nI 0 ∧ ¬ nI 0 < hgI M a 12 then (if hgI M a 6 + nI 1 = hgI M a 3 then hgSI (hgSI M a 6 (hgI M a 6 + nI 1)) a 4 (nI 2) else hgSI M a 6 (hgI M a 6 + nI 1)) else hgSI M a 6 (nI 0)) else M
theorem hgk_5 (h : hgO M a 0) : hgWC X 5 [.ref a] M = some (.inl .null, hgEt M a) := by
  simp only [hgc5, hgM_t, hgM_f, hgM_n, hgx_aload_n_0, hgx_get0, hgx_if_eq, hgx_vret, hgx_get3, hgx_if_ne, hgx_if_le, hgx_iconst_0, hgx_put0, hgx_dup_i, hgx_dup_f, hgx_dup_r, hgx_iconst_1, hgx_iadd, hgx_ic_ne, hgx_iconst_2, hgr5_0, hgv5_0, hgu5_0, hgr5_8, hgv5_8, hgu5_8, hgr5_22, hgv5_22, hgu5_22, hgr5_28, hgv5_28, hgu5_28, hgr5_54, hgv5_54, hgu5_54, hgEt, hgI_SI, hgI_SJ, hgJ_SI, hgJ_SJ, if_true, if_false, reduceIte, Nat.reduceEqDiff, hgWf_SI, hgWf_SJ, hgO_SI, hgO_SJ, hgAr_SI, hgAr_SJ, hgRp_SI, hgRp_SJ, hgN_SI, hgN_SJ, hgO_g, hgO_d, hgO_rl, hgO_r, hgO_0, hgO_1, hgO_64, hgO_298, hgO_300, hgCd, hgRecv_O, hgRecv_99, List.length_cons, List.length_nil, Nat.zero_add, Nat.add_zero, Nat.le_refl, Nat.zero_le, and_self, or_true, true_or, true_and, and_true, ne_eq, not_false_eq_true, h]
  trace_state
  sorry
theorem hgk_35 (hw : hgWf M) : hgWC X 35 [.ref 1] M = some (.inl (.int (if nI 512 ≤ hgI M 1 3 then nI 1 else nI 0)), M) := by
  simp only [hgc35, hgM_t, hgM_f, hgM_n, hgx_aload_n_0, hgx_get0, hgx_sipush_512, hgx_ic_lt, hgx_iconst_1, hgx_goto, hgx_iconst_0, hgx_ret3, hgr35_0, hgv35_0, hgu35_0, hgr35_14, hgv35_14, hgu35_14, hgr35_15, hgv35_15, hgu35_15, hgWf_SI, hgWf_SJ, hgO_SI, hgO_SJ, hgAr_SI, hgAr_SJ, hgRp_SI, hgRp_SJ, hgN_SI, hgN_SJ, hgO_g, hgO_d, hgO_rl, hgO_r, hgO_0, hgO_1, hgO_64, hgO_298, hgO_300, hgCd, hgRecv_O, hgRecv_99, List.length_cons, List.length_nil, Nat.zero_add, Nat.add_zero, Nat.le_refl, Nat.zero_le, and_self, or_true, true_or, true_and, and_true, ne_eq, not_false_eq_true, hw]
  trace_state
  sorry
theorem hgk_36 (hw : hgWf M) : hgWC X 36 [.ref 1, .int x] M = some (.inl (.int (if nI 0 ≤ x ∧ x < hgI M 1 3 then nI 1 else nI 0)), M) := by
  simp only [hgc36, hgM_t, hgM_f, hgM_n, hgx_iload_n_1, hgx_if_lt, hgx_aload_n_0, hgx_get0, hgx_ic_ge, hgx_iconst_1, hgx_goto, hgx_iconst_0, hgx_ret3, hgr36_0, hgv36_0, hgu36_0, hgr36_16, hgv36_16, hgu36_16, hgr36_17, hgv36_17, hgu36_17, hgWf_SI, hgWf_SJ, hgO_SI, hgO_SJ, hgAr_SI, hgAr_SJ, hgRp_SI, hgRp_SJ, hgN_SI, hgN_SJ, hgO_g, hgO_d, hgO_rl, hgO_r, hgO_0, hgO_1, hgO_64, hgO_298, hgO_300, hgCd, hgRecv_O, hgRecv_99, List.length_cons, List.length_nil, Nat.zero_add, Nat.add_zero, Nat.le_refl, Nat.zero_le, and_self, or_true, true_or, true_and, and_true, ne_eq, not_false_eq_true, hw]
  trace_state
  sorry
end HGDEV

/-! LOOPS that only read, on both sides. -/
def hgAny (f : Nat → Bool) : Nat → Nat → Bool
  | _, 0 => false
  | i, k + 1 => if f i = true then true else hgAny f (i + 1) k
/-- the least of the times of devices that f takes; f0: found, t0: so far -/
def hgLeast (f : Nat → Bool) (t : Nat → Int64) (b : Option Int64) : Nat → Nat → Option Int64
  | _, 0 => b
  | i, k + 1 => hgLeast f t (if f i = true ∧ (∀ c, b = some c → t i < c) then some (t i) else b) (i + 1) k
def hgSumN (f : Nat → Int32) (s : Int32) : Nat → Nat → Int32
  | _, 0 => s
  | i, k + 1 => hgSumN f (s + f i) (i + 1) k
section HGLOO
variable {X : hgX} {M : hgMem} {a b d g i j c p n m q : Nat} {x y z w v : Int32} {o : Option Nat}
theorem hgk_13l (hw : hgWf M) (hg : hgGw g) (hn : hgI M g 9 = nI n) (hn2 : n ≤ 8) : ∀ (k i : Nat), i + k = n → hgW X 13 2 [some (.ref g), some (.int x), some (.int (nI i))] [] (0, 0) M = some (.inl (.int (hgB (hgAny (fun j => decide (hgI M (g + 26) j = x)) i k))), M) := by
  intro k
  induction k with
  | zero =>
    intro i hi
    have h1 : i < 2147483648 := by omega
    have h2 : n < 2147483648 := by omega
    have h3 : n ≤ i := by omega
    rw [hgu13_2]
    simp (maxDischargeDepth := 7) only [hgM_t, hgM_f, hgM_n, hgx_iconst_0, hgx_istore_n_2i, hgx_istore_n_2r, hgx_istore_n_2f, hgx_istore_n_2n, hgx_istore_n_2l, hgx_iload_n_2, hgx_aload_n_0, hgx_get0, hgx_ic_ge, hgs_get_1_8, hgx_iload_n_1, hgx_ic_ne, hgx_iconst_1, hgx_ret3, hgx_iinc_2_1, hgx_goto, hgv13_0, hgr13_0, hgu13_0, hgv13_2, hgr13_2, hgv13_22, hgr13_22, hgu13_22, hgv13_28, hgr13_28, hgu13_28, hgI_SI, hgI_SJ, hgJ_SI, hgJ_SJ, if_true, if_false, reduceIte, Nat.reduceEqDiff, hgWf_SI, hgWf_SJ, hgO_SI, hgO_SJ, hgAr_SI, hgAr_SJ, hgRp_SI, hgRp_SJ, hgN_SI, hgN_SJ, hgO_g, hgO_d, hgO_rl, hgO_r, hgO_0, hgO_1, hgO_64, hgO_298, hgO_300, hgCd_0, hgCd_1, hgCd_2, hgCd_3, hgCd_4, hgCd_5, hgRecv_O, hgRecv_99, List.length_cons, List.length_nil, Nat.zero_add, Nat.add_zero, Nat.le_refl, Nat.zero_le, and_self, or_true, true_or, true_and, and_true, ne_eq, not_false_eq_true, Nat.reduceLT, Nat.reduceLeDiff, Nat.reduceAdd, Nat.reduceEqDiff, hgn_eq, hgn_lt, hgn_le, if_true, if_false, reduceIte, Nat.not_lt_zero, hw, hg, hn, h1, h2, h3, hgAny, hgB_f]
  | succ k ih =>
    intro i hi
    have h1 : i < 2147483648 := by omega
    have h2 : n < 2147483648 := by omega
    have h3 : ¬ n ≤ i := by omega
    have h4 : i < 8 := by omega
    have ih' := ih (i + 1) (by omega)
    rw [hgu13_2]
    simp (maxDischargeDepth := 7) only [hgM_t, hgM_f, hgM_n, hgx_iconst_0, hgx_istore_n_2i, hgx_istore_n_2r, hgx_istore_n_2f, hgx_istore_n_2n, hgx_istore_n_2l, hgx_iload_n_2, hgx_aload_n_0, hgx_get0, hgx_ic_ge, hgs_get_1_8, hgx_iload_n_1, hgx_ic_ne, hgx_iconst_1, hgx_ret3, hgx_iinc_2_1, hgx_goto, hgv13_0, hgr13_0, hgu13_0, hgv13_2, hgr13_2, hgv13_22, hgr13_22, hgu13_22, hgv13_28, hgr13_28, hgu13_28, hgI_SI, hgI_SJ, hgJ_SI, hgJ_SJ, if_true, if_false, reduceIte, Nat.reduceEqDiff, hgWf_SI, hgWf_SJ, hgO_SI, hgO_SJ, hgAr_SI, hgAr_SJ, hgRp_SI, hgRp_SJ, hgN_SI, hgN_SJ, hgO_g, hgO_d, hgO_rl, hgO_r, hgO_0, hgO_1, hgO_64, hgO_298, hgO_300, hgCd_0, hgCd_1, hgCd_2, hgCd_3, hgCd_4, hgCd_5, hgRecv_O, hgRecv_99, List.length_cons, List.length_nil, Nat.zero_add, Nat.add_zero, Nat.le_refl, Nat.zero_le, and_self, or_true, true_or, true_and, and_true, ne_eq, not_false_eq_true, Nat.reduceLT, Nat.reduceLeDiff, Nat.reduceAdd, Nat.reduceEqDiff, hgn_eq, hgn_lt, hgn_le, if_true, if_false, reduceIte, Nat.not_lt_zero, hgs_aa_d, hgs_aa_r, hgs_aa_h, hgs_aa_m, hgs_aa_t, hgs_ld_wp, hgs_st_wp, hgs_ld_qf, hgs_st_qf, hgs_ld_qt, hgs_st_qt, hgs_ld_2, hgs_st_2, hgs_ld_3, hgs_st_3, hgs_ld_4, hgs_st_4, hgs_ld_301, hgs_st_301, hgs_ld_D, hgs_st_D, hgs_ld_s, hgs_ld_T, hgs_st_T, hgs_ld_o, hgs_st_o, hgs_ld_b, hgs_st_b, hgs_ld_z, hgs_st_z, hgs_al_b, hgx_alen_s, hgn_add, hgn_mul, hw, hg, hn, h1, h2, h3, h4, ih', hgAny]
    by_cases h : hgI M (g + 26) i = x <;> simp [h, hgB]
theorem hgk_13 (hw : hgWf M) (hg : hgGw g) (hn : hgI M g 9 = nI n) (hn2 : n ≤ 8) : hgWC X 13 [.ref g, .int x] M = some (.inl (.int (hgB (hgAny (fun j => decide (hgI M (g + 26) j = x)) 0 n))), M) := by
  have k := hgk_13l (X := X) (x := x) hw hg hn hn2 n 0 (by omega)
  simp (maxDischargeDepth := 7) only [hgc13, hgM_t, hgM_f, hgM_n, hgx_iconst_0, hgx_istore_n_2i, hgx_istore_n_2r, hgx_istore_n_2f, hgx_istore_n_2n, hgx_istore_n_2l, hgx_iload_n_2, hgx_aload_n_0, hgx_get0, hgx_ic_ge, hgs_get_1_8, hgx_iload_n_1, hgx_ic_ne, hgx_iconst_1, hgx_ret3, hgx_iinc_2_1, hgx_goto, hgv13_0, hgr13_0, hgu13_0, hgv13_2, ← hgu13_2, hgv13_22, hgr13_22, hgu13_22, hgv13_28, hgr13_28, hgu13_28, hgI_SI, hgI_SJ, hgJ_SI, hgJ_SJ, if_true, if_false, reduceIte, Nat.reduceEqDiff, hgWf_SI, hgWf_SJ, hgO_SI, hgO_SJ, hgAr_SI, hgAr_SJ, hgRp_SI, hgRp_SJ, hgN_SI, hgN_SJ, hgO_g, hgO_d, hgO_rl, hgO_r, hgO_0, hgO_1, hgO_64, hgO_298, hgO_300, hgCd_0, hgCd_1, hgCd_2, hgCd_3, hgCd_4, hgCd_5, hgRecv_O, hgRecv_99, List.length_cons, List.length_nil, Nat.zero_add, Nat.add_zero, Nat.le_refl, Nat.zero_le, and_self, or_true, true_or, true_and, and_true, ne_eq, not_false_eq_true, Nat.reduceLT, Nat.reduceLeDiff, Nat.reduceAdd, Nat.reduceEqDiff, hgn_eq, hgn_lt, hgn_le, if_true, if_false, reduceIte, Nat.not_lt_zero]
  exact k
theorem hgk_150l (hD : hgAr M d 20 20187) (hd2 : d ≠ 2000) (hn : hgI M d 2 = nI n) (hn2 : n ≤ 8) : ∀ (k i : Nat), i + k = n → hgW X 150 2 [some (.ref d), some (.int x), some (.int (nI i))] [] (0, 0) M = some (.inl (.int (hgB (hgAny (fun j => decide (hgI M d (10 + j) = x)) i k))), M) := by
  intro k
  induction k with
  | zero =>
    intro i hi
    have h1 : i < 2147483648 := by omega
    have h2 : n < 2147483648 := by omega
    have h3 : n ≤ i := by omega
    rw [hgu150_2]
    simp (maxDischargeDepth := 7) only [hgM_t, hgM_f, hgM_n, hgx_iconst_0, hgx_istore_n_2i, hgx_istore_n_2r, hgx_istore_n_2f, hgx_istore_n_2n, hgx_istore_n_2l, hgx_iload_n_2, hgx_aload_n_0, hgx_iconst_2, hgx_ic_ge, hgx_bipush_10, hgx_iadd, hgx_iload_n_1, hgx_ic_ne, hgx_iconst_1, hgx_ret3, hgx_iinc_2_1, hgx_goto, hgv150_0, hgr150_0, hgu150_0, hgv150_2, hgr150_2, hgv150_21, hgr150_21, hgu150_21, hgv150_27, hgr150_27, hgu150_27, hgI_SI, hgI_SJ, hgJ_SI, hgJ_SJ, if_true, if_false, reduceIte, Nat.reduceEqDiff, hgWf_SI, hgWf_SJ, hgO_SI, hgO_SJ, hgAr_SI, hgAr_SJ, hgRp_SI, hgRp_SJ, hgN_SI, hgN_SJ, hgO_g, hgO_d, hgO_rl, hgO_r, hgO_0, hgO_1, hgO_64, hgO_298, hgO_300, hgCd_0, hgCd_1, hgCd_2, hgCd_3, hgCd_4, hgCd_5, hgRecv_O, hgRecv_99, List.length_cons, List.length_nil, Nat.zero_add, Nat.add_zero, Nat.le_refl, Nat.zero_le, and_self, or_true, true_or, true_and, and_true, ne_eq, not_false_eq_true, Nat.reduceLT, Nat.reduceLeDiff, Nat.reduceAdd, Nat.reduceEqDiff, hgn_eq, hgn_lt, hgn_le, if_true, if_false, reduceIte, Nat.not_lt_zero, hgs_aa_d, hgs_aa_r, hgs_aa_h, hgs_aa_m, hgs_aa_t, hgs_ld_wp, hgs_st_wp, hgs_ld_qf, hgs_st_qf, hgs_ld_qt, hgs_st_qt, hgs_ld_2, hgs_st_2, hgs_ld_3, hgs_st_3, hgs_ld_4, hgs_st_4, hgs_ld_301, hgs_st_301, hgs_ld_D, hgs_st_D, hgs_ld_s, hgs_ld_T, hgs_st_T, hgs_ld_o, hgs_st_o, hgs_ld_b, hgs_st_b, hgs_ld_z, hgs_st_z, hgs_al_b, hgx_alen_s, hgn_add, hgn_mul, hD, hd2, hn, h1, h2, h3, hgAny, hgB_f]
  | succ k ih =>
    intro i hi
    have h1 : i < 2147483648 := by omega
    have h2 : n < 2147483648 := by omega
    have h3 : ¬ n ≤ i := by omega
    have h4 : 10 + i < 20187 := by omega
    have ih' := ih (i + 1) (by omega)
    rw [hgu150_2]
    simp (maxDischargeDepth := 7) only [hgM_t, hgM_f, hgM_n, hgx_iconst_0, hgx_istore_n_2i, hgx_istore_n_2r, hgx_istore_n_2f, hgx_istore_n_2n, hgx_istore_n_2l, hgx_iload_n_2, hgx_aload_n_0, hgx_iconst_2, hgx_ic_ge, hgx_bipush_10, hgx_iadd, hgx_iload_n_1, hgx_ic_ne, hgx_iconst_1, hgx_ret3, hgx_iinc_2_1, hgx_goto, hgv150_0, hgr150_0, hgu150_0, hgv150_2, hgr150_2, hgv150_21, hgr150_21, hgu150_21, hgv150_27, hgr150_27, hgu150_27, hgI_SI, hgI_SJ, hgJ_SI, hgJ_SJ, if_true, if_false, reduceIte, Nat.reduceEqDiff, hgWf_SI, hgWf_SJ, hgO_SI, hgO_SJ, hgAr_SI, hgAr_SJ, hgRp_SI, hgRp_SJ, hgN_SI, hgN_SJ, hgO_g, hgO_d, hgO_rl, hgO_r, hgO_0, hgO_1, hgO_64, hgO_298, hgO_300, hgCd_0, hgCd_1, hgCd_2, hgCd_3, hgCd_4, hgCd_5, hgRecv_O, hgRecv_99, List.length_cons, List.length_nil, Nat.zero_add, Nat.add_zero, Nat.le_refl, Nat.zero_le, and_self, or_true, true_or, true_and, and_true, ne_eq, not_false_eq_true, Nat.reduceLT, Nat.reduceLeDiff, Nat.reduceAdd, Nat.reduceEqDiff, hgn_eq, hgn_lt, hgn_le, if_true, if_false, reduceIte, Nat.not_lt_zero, hgs_aa_d, hgs_aa_r, hgs_aa_h, hgs_aa_m, hgs_aa_t, hgs_ld_wp, hgs_st_wp, hgs_ld_qf, hgs_st_qf, hgs_ld_qt, hgs_st_qt, hgs_ld_2, hgs_st_2, hgs_ld_3, hgs_st_3, hgs_ld_4, hgs_st_4, hgs_ld_301, hgs_st_301, hgs_ld_D, hgs_st_D, hgs_ld_s, hgs_ld_T, hgs_st_T, hgs_ld_o, hgs_st_o, hgs_ld_b, hgs_st_b, hgs_ld_z, hgs_st_z, hgs_al_b, hgx_alen_s, hgn_add, hgn_mul, hD, hd2, hn, h1, h2, h3, h4, ih', hgAny]
    by_cases h : hgI M d (10 + i) = x <;> simp [h, hgB]
theorem hgk_150 (hD : hgAr M d 20 20187) (hd2 : d ≠ 2000) (hn : hgI M d 2 = nI n) (hn2 : n ≤ 8) : hgWC X 150 [.ref d, .int x] M = some (.inl (.int (hgB (hgAny (fun j => decide (hgI M d (10 + j) = x)) 0 n))), M) := by
  have k := hgk_150l (X := X) (x := x) hD hd2 hn hn2 n 0 (by omega)
  simp (maxDischargeDepth := 7) only [hgc150, hgM_t, hgM_f, hgM_n, hgx_iconst_0, hgx_istore_n_2i, hgx_istore_n_2r, hgx_istore_n_2f, hgx_istore_n_2n, hgx_istore_n_2l, hgx_iload_n_2, hgx_aload_n_0, hgx_iconst_2, hgx_ic_ge, hgx_bipush_10, hgx_iadd, hgx_iload_n_1, hgx_ic_ne, hgx_iconst_1, hgx_ret3, hgx_iinc_2_1, hgx_goto, hgv150_0, hgr150_0, hgu150_0, hgv150_2, ← hgu150_2, hgv150_21, hgr150_21, hgu150_21, hgv150_27, hgr150_27, hgu150_27, hgI_SI, hgI_SJ, hgJ_SI, hgJ_SJ, if_true, if_false, reduceIte, Nat.reduceEqDiff, hgWf_SI, hgWf_SJ, hgO_SI, hgO_SJ, hgAr_SI, hgAr_SJ, hgRp_SI, hgRp_SJ, hgN_SI, hgN_SJ, hgO_g, hgO_d, hgO_rl, hgO_r, hgO_0, hgO_1, hgO_64, hgO_298, hgO_300, hgCd_0, hgCd_1, hgCd_2, hgCd_3, hgCd_4, hgCd_5, hgRecv_O, hgRecv_99, List.length_cons, List.length_nil, Nat.zero_add, Nat.add_zero, Nat.le_refl, Nat.zero_le, and_self, or_true, true_or, true_and, and_true, ne_eq, not_false_eq_true, Nat.reduceLT, Nat.reduceLeDiff, Nat.reduceAdd, Nat.reduceEqDiff, hgn_eq, hgn_lt, hgn_le, if_true, if_false, reduceIte, Nat.not_lt_zero]
  exact k
theorem hgk_25l (hw : hgWf M) (hg : hgGw g) (hn : hgI M g 6 = nI n) (hn2 : n ≤ 10) : ∀ (k i : Nat), i + k = n → hgW X 25 2 [some (.ref g), some (.int (nI i))] [] (0, 0) M = some (.inl (.int (hgB (!hgAny (fun j => decide (nI 0 < hgI M (g + 2 + j) 12)) i k))), M) := by
  intro k
  induction k with
  | zero =>
    intro i hi
    have h1 : i < 2147483648 := by omega
    have h2 : n < 2147483648 := by omega
    have h3 : n ≤ i := by omega
    rw [hgu25_2]
    simp (maxDischargeDepth := 7) only [hgM_t, hgM_f, hgM_n, hgx_iconst_0, hgx_istore_n_1i, hgx_istore_n_1r, hgx_istore_n_1f, hgx_istore_n_1n, hgx_istore_n_1l, hgx_iload_n_1, hgx_aload_n_0, hgx_get0, hgx_ic_ge, hgs_get_1_5, hgx_if_le, hgx_ret3, hgx_iinc_1_1, hgx_goto, hgx_iconst_1, hgv25_0, hgr25_0, hgu25_0, hgv25_2, hgr25_2, hgv25_24, hgr25_24, hgu25_24, hgv25_30, hgr25_30, hgu25_30, hgI_SI, hgI_SJ, hgJ_SI, hgJ_SJ, if_true, if_false, reduceIte, Nat.reduceEqDiff, hgWf_SI, hgWf_SJ, hgO_SI, hgO_SJ, hgAr_SI, hgAr_SJ, hgRp_SI, hgRp_SJ, hgN_SI, hgN_SJ, hgO_g, hgO_d, hgO_rl, hgO_r, hgO_0, hgO_1, hgO_64, hgO_298, hgO_300, hgCd_0, hgCd_1, hgCd_2, hgCd_3, hgCd_4, hgCd_5, hgRecv_O, hgRecv_99, List.length_cons, List.length_nil, Nat.zero_add, Nat.add_zero, Nat.le_refl, Nat.zero_le, and_self, or_true, true_or, true_and, and_true, ne_eq, not_false_eq_true, Nat.reduceLT, Nat.reduceLeDiff, Nat.reduceAdd, Nat.reduceEqDiff, hgn_eq, hgn_lt, hgn_le, if_true, if_false, reduceIte, Nat.not_lt_zero, hw, hg, hn, h1, h2, h3, hgAny, Bool.not_false, hgB_t]
  | succ k ih =>
    intro i hi
    have h1 : i < 2147483648 := by omega
    have h2 : n < 2147483648 := by omega
    have h3 : ¬ n ≤ i := by omega
    have h4 : i < 10 := by omega
    have ih' := ih (i + 1) (by omega)
    rw [hgu25_2]
    simp (maxDischargeDepth := 7) only [hgM_t, hgM_f, hgM_n, hgx_iconst_0, hgx_istore_n_1i, hgx_istore_n_1r, hgx_istore_n_1f, hgx_istore_n_1n, hgx_istore_n_1l, hgx_iload_n_1, hgx_aload_n_0, hgx_get0, hgx_ic_ge, hgs_get_1_5, hgx_if_le, hgx_ret3, hgx_iinc_1_1, hgx_goto, hgx_iconst_1, hgv25_0, hgr25_0, hgu25_0, hgv25_2, hgr25_2, hgv25_24, hgr25_24, hgu25_24, hgv25_30, hgr25_30, hgu25_30, hgI_SI, hgI_SJ, hgJ_SI, hgJ_SJ, if_true, if_false, reduceIte, Nat.reduceEqDiff, hgWf_SI, hgWf_SJ, hgO_SI, hgO_SJ, hgAr_SI, hgAr_SJ, hgRp_SI, hgRp_SJ, hgN_SI, hgN_SJ, hgO_g, hgO_d, hgO_rl, hgO_r, hgO_0, hgO_1, hgO_64, hgO_298, hgO_300, hgCd_0, hgCd_1, hgCd_2, hgCd_3, hgCd_4, hgCd_5, hgRecv_O, hgRecv_99, List.length_cons, List.length_nil, Nat.zero_add, Nat.add_zero, Nat.le_refl, Nat.zero_le, and_self, or_true, true_or, true_and, and_true, ne_eq, not_false_eq_true, Nat.reduceLT, Nat.reduceLeDiff, Nat.reduceAdd, Nat.reduceEqDiff, hgn_eq, hgn_lt, hgn_le, if_true, if_false, reduceIte, Nat.not_lt_zero, hgs_aa_d, hgs_aa_r, hgs_aa_h, hgs_aa_m, hgs_aa_t, hgs_ld_wp, hgs_st_wp, hgs_ld_qf, hgs_st_qf, hgs_ld_qt, hgs_st_qt, hgs_ld_2, hgs_st_2, hgs_ld_3, hgs_st_3, hgs_ld_4, hgs_st_4, hgs_ld_301, hgs_st_301, hgs_ld_D, hgs_st_D, hgs_ld_s, hgs_ld_T, hgs_st_T, hgs_ld_o, hgs_st_o, hgs_ld_b, hgs_st_b, hgs_ld_z, hgs_st_z, hgs_al_b, hgx_alen_s, hgn_add, hgn_mul, hw, hg, hn, h1, h2, h3, h4, ih', hgAny]
    simp only [← Int32.not_le]
    by_cases h : hgI M (g + 2 + i) 12 ≤ nI 0 <;> simp [h, hgB]
theorem hgk_25 (hw : hgWf M) (hg : hgGw g) (hn : hgI M g 6 = nI n) (hn2 : n ≤ 10) : hgWC X 25 [.ref g] M = some (.inl (.int (hgB (!hgAny (fun j => decide (nI 0 < hgI M (g + 2 + j) 12)) 0 n))), M) := by
  have k := hgk_25l (X := X) hw hg hn hn2 n 0 (by omega)
  simp (maxDischargeDepth := 7) only [hgc25, hgM_t, hgM_f, hgM_n, hgx_iconst_0, hgx_istore_n_1i, hgx_istore_n_1r, hgx_istore_n_1f, hgx_istore_n_1n, hgx_istore_n_1l, hgx_iload_n_1, hgx_aload_n_0, hgx_get0, hgx_ic_ge, hgs_get_1_5, hgx_if_le, hgx_ret3, hgx_iinc_1_1, hgx_goto, hgx_iconst_1, hgv25_0, hgr25_0, hgu25_0, hgv25_2, ← hgu25_2, hgv25_24, hgr25_24, hgu25_24, hgv25_30, hgr25_30, hgu25_30, hgI_SI, hgI_SJ, hgJ_SI, hgJ_SJ, if_true, if_false, reduceIte, Nat.reduceEqDiff, hgWf_SI, hgWf_SJ, hgO_SI, hgO_SJ, hgAr_SI, hgAr_SJ, hgRp_SI, hgRp_SJ, hgN_SI, hgN_SJ, hgO_g, hgO_d, hgO_rl, hgO_r, hgO_0, hgO_1, hgO_64, hgO_298, hgO_300, hgCd_0, hgCd_1, hgCd_2, hgCd_3, hgCd_4, hgCd_5, hgRecv_O, hgRecv_99, List.length_cons, List.length_nil, Nat.zero_add, Nat.add_zero, Nat.le_refl, Nat.zero_le, and_self, or_true, true_or, true_and, and_true, ne_eq, not_false_eq_true, Nat.reduceLT, Nat.reduceLeDiff, Nat.reduceAdd, Nat.reduceEqDiff, hgn_eq, hgn_lt, hgn_le, if_true, if_false, reduceIte, Nat.not_lt_zero]
  exact k
theorem hgk_188l (hD : hgAr M d 20 20187) (hd2 : d ≠ 2000) (hn : hgI M d 0 = nI n) (hn2 : n ≤ 10) : ∀ (k i : Nat), i + k = n → hgW X 188 2 [some (.ref d), some (.int (nI i))] [] (0, 0) M = some (.inl (.int (hgB (!hgAny (fun j => decide (nI 0 < hgI M d (27 + 10 * j + 9))) i k))), M) := by
  intro k
  induction k with
  | zero =>
    intro i hi
    have h1 : i < 2147483648 := by omega
    have h2 : n < 2147483648 := by omega
    have h3 : n ≤ i := by omega
    rw [hgu188_2]
    simp (maxDischargeDepth := 7) only [hgM_t, hgM_f, hgM_n, hgx_iconst_0, hgx_istore_n_1i, hgx_istore_n_1r, hgx_istore_n_1f, hgx_istore_n_1n, hgx_istore_n_1l, hgx_iload_n_1, hgx_aload_n_0, hgx_ic_ge, hgx_invstatic_1, hgx_aft_e, hgx_aft_i, hgx_aft_l, hgx_aft_v, hgx_bipush_9, hgx_iadd, hgx_if_le, hgx_ret3, hgx_iinc_1_1, hgx_goto, hgx_iconst_1, hgv188_0, hgr188_0, hgu188_0, hgv188_2, hgr188_2, hgv188_23, hgr188_23, hgu188_23, hgv188_29, hgr188_29, hgu188_29, hgI_SI, hgI_SJ, hgJ_SI, hgJ_SJ, if_true, if_false, reduceIte, Nat.reduceEqDiff, hgWf_SI, hgWf_SJ, hgO_SI, hgO_SJ, hgAr_SI, hgAr_SJ, hgRp_SI, hgRp_SJ, hgN_SI, hgN_SJ, hgO_g, hgO_d, hgO_rl, hgO_r, hgO_0, hgO_1, hgO_64, hgO_298, hgO_300, hgCd_0, hgCd_1, hgCd_2, hgCd_3, hgCd_4, hgCd_5, hgRecv_O, hgRecv_99, List.length_cons, List.length_nil, Nat.zero_add, Nat.add_zero, Nat.le_refl, Nat.zero_le, and_self, or_true, true_or, true_and, and_true, ne_eq, not_false_eq_true, Nat.reduceLT, Nat.reduceLeDiff, Nat.reduceAdd, Nat.reduceEqDiff, hgn_eq, hgn_lt, hgn_le, if_true, if_false, reduceIte, Nat.not_lt_zero, hgs_aa_d, hgs_aa_r, hgs_aa_h, hgs_aa_m, hgs_aa_t, hgs_ld_wp, hgs_st_wp, hgs_ld_qf, hgs_st_qf, hgs_ld_qt, hgs_st_qt, hgs_ld_2, hgs_st_2, hgs_ld_3, hgs_st_3, hgs_ld_4, hgs_st_4, hgs_ld_301, hgs_st_301, hgs_ld_D, hgs_st_D, hgs_ld_s, hgs_ld_T, hgs_st_T, hgs_ld_o, hgs_st_o, hgs_ld_b, hgs_st_b, hgs_ld_z, hgs_st_z, hgs_al_b, hgx_alen_s, hgn_add, hgn_mul, hD, hd2, hn, h1, h2, h3, hgAny, Bool.not_false, hgB_t]
  | succ k ih =>
    intro i hi
    have h1 : i < 2147483648 := by omega
    have h2 : n < 2147483648 := by omega
    have h3 : ¬ n ≤ i := by omega
    have h4 : 27 + 10 * i + 9 < 20187 := by omega
    have ih' := ih (i + 1) (by omega)
    rw [hgu188_2]
    simp (maxDischargeDepth := 7) only [hgM_t, hgM_f, hgM_n, hgx_iconst_0, hgx_istore_n_1i, hgx_istore_n_1r, hgx_istore_n_1f, hgx_istore_n_1n, hgx_istore_n_1l, hgx_iload_n_1, hgx_aload_n_0, hgx_ic_ge, hgx_invstatic_1, hgx_aft_e, hgx_aft_i, hgx_aft_l, hgx_aft_v, hgx_bipush_9, hgx_iadd, hgx_if_le, hgx_ret3, hgx_iinc_1_1, hgx_goto, hgx_iconst_1, hgv188_0, hgr188_0, hgu188_0, hgv188_2, hgr188_2, hgv188_23, hgr188_23, hgu188_23, hgv188_29, hgr188_29, hgu188_29, hgI_SI, hgI_SJ, hgJ_SI, hgJ_SJ, if_true, if_false, reduceIte, Nat.reduceEqDiff, hgWf_SI, hgWf_SJ, hgO_SI, hgO_SJ, hgAr_SI, hgAr_SJ, hgRp_SI, hgRp_SJ, hgN_SI, hgN_SJ, hgO_g, hgO_d, hgO_rl, hgO_r, hgO_0, hgO_1, hgO_64, hgO_298, hgO_300, hgCd_0, hgCd_1, hgCd_2, hgCd_3, hgCd_4, hgCd_5, hgRecv_O, hgRecv_99, List.length_cons, List.length_nil, Nat.zero_add, Nat.add_zero, Nat.le_refl, Nat.zero_le, and_self, or_true, true_or, true_and, and_true, ne_eq, not_false_eq_true, Nat.reduceLT, Nat.reduceLeDiff, Nat.reduceAdd, Nat.reduceEqDiff, hgn_eq, hgn_lt, hgn_le, if_true, if_false, reduceIte, Nat.not_lt_zero, hgs_aa_d, hgs_aa_r, hgs_aa_h, hgs_aa_m, hgs_aa_t, hgs_ld_wp, hgs_st_wp, hgs_ld_qf, hgs_st_qf, hgs_ld_qt, hgs_st_qt, hgs_ld_2, hgs_st_2, hgs_ld_3, hgs_st_3, hgs_ld_4, hgs_st_4, hgs_ld_301, hgs_st_301, hgs_ld_D, hgs_st_D, hgs_ld_s, hgs_ld_T, hgs_st_T, hgs_ld_o, hgs_st_o, hgs_ld_b, hgs_st_b, hgs_ld_z, hgs_st_z, hgs_al_b, hgx_alen_s, hgn_add, hgn_mul, hD, hd2, hn, h1, h2, h3, h4, ih', hgAny, hgk_128]
    simp only [← Int32.not_le]
    by_cases h : hgI M d (27 + 10 * i + 9) ≤ nI 0 <;> simp [h, hgB]
theorem hgk_188 (hD : hgAr M d 20 20187) (hd2 : d ≠ 2000) (hn : hgI M d 0 = nI n) (hn2 : n ≤ 10) : hgWC X 188 [.ref d] M = some (.inl (.int (hgB (!hgAny (fun j => decide (nI 0 < hgI M d (27 + 10 * j + 9))) 0 n))), M) := by
  have k := hgk_188l (X := X) hD hd2 hn hn2 n 0 (by omega)
  simp (maxDischargeDepth := 7) only [hgc188, hgM_t, hgM_f, hgM_n, hgx_iconst_0, hgx_istore_n_1i, hgx_istore_n_1r, hgx_istore_n_1f, hgx_istore_n_1n, hgx_istore_n_1l, hgx_iload_n_1, hgx_aload_n_0, hgx_ic_ge, hgx_invstatic_1, hgx_aft_e, hgx_aft_i, hgx_aft_l, hgx_aft_v, hgx_bipush_9, hgx_iadd, hgx_if_le, hgx_ret3, hgx_iinc_1_1, hgx_goto, hgx_iconst_1, hgv188_0, hgr188_0, hgu188_0, hgv188_2, ← hgu188_2, hgv188_23, hgr188_23, hgu188_23, hgv188_29, hgr188_29, hgu188_29, hgI_SI, hgI_SJ, hgJ_SI, hgJ_SJ, if_true, if_false, reduceIte, Nat.reduceEqDiff, hgWf_SI, hgWf_SJ, hgO_SI, hgO_SJ, hgAr_SI, hgAr_SJ, hgRp_SI, hgRp_SJ, hgN_SI, hgN_SJ, hgO_g, hgO_d, hgO_rl, hgO_r, hgO_0, hgO_1, hgO_64, hgO_298, hgO_300, hgCd_0, hgCd_1, hgCd_2, hgCd_3, hgCd_4, hgCd_5, hgRecv_O, hgRecv_99, List.length_cons, List.length_nil, Nat.zero_add, Nat.add_zero, Nat.le_refl, Nat.zero_le, and_self, or_true, true_or, true_and, and_true, ne_eq, not_false_eq_true, Nat.reduceLT, Nat.reduceLeDiff, Nat.reduceAdd, Nat.reduceEqDiff, hgn_eq, hgn_lt, hgn_le, if_true, if_false, reduceIte, Nat.not_lt_zero]
  exact k
theorem hgk_174l (hw : hgWf M) (hj : j < 10) (hn : hgI M 302 (27 + 10 * j + 9) = nI n) (hn2 : n ≤ 1000) : ∀ (k i : Nat) (s : Int32), i + k = n → hgW X 174 4 [some (.ref 300), some (.int (nI j)), some (.int s), some (.int (nI i))] [] (0, 0) M = some (.inl (.int (hgSumN (fun i => hgI M 302 (187 + 2 * (1000 * j + i))) s i k)), M) := by
  intro k
  have h0 : 27 + 10 * j + 9 < 20187 := by omega
  induction k with
  | zero =>
    intro i s hi
    have h1 : i < 2147483648 := by omega
    have h2 : n < 2147483648 := by omega
    have h3 : n ≤ i := by omega
    rw [hgu174_4]
    simp (maxDischargeDepth := 7) only [hgM_t, hgM_f, hgM_n, hgx_iconst_0, hgx_istore_n_2i, hgx_istore_n_2r, hgx_istore_n_2f, hgx_istore_n_2n, hgx_istore_n_2l, hgx_istore_n_3i, hgx_istore_n_3r, hgx_istore_n_3f, hgx_istore_n_3n, hgx_istore_n_3l, hgx_iload_n_3, hgx_aload_n_0, hgs_get_8_8, hgx_iload_n_1, hgx_invstatic_1, hgx_aft_e, hgx_aft_i, hgx_aft_l, hgx_aft_v, hgx_bipush_9, hgx_iadd, hgx_ic_ge, hgx_iload_n_2, hgx_invstatic_2, hgx_iinc_3_1, hgx_goto, hgx_ret1, hgv174_0, hgr174_0, hgu174_0, hgv174_4, hgr174_4, hgv174_39, hgr174_39, hgu174_39, hgI_SI, hgI_SJ, hgJ_SI, hgJ_SJ, if_true, if_false, reduceIte, Nat.reduceEqDiff, hgWf_SI, hgWf_SJ, hgO_SI, hgO_SJ, hgAr_SI, hgAr_SJ, hgRp_SI, hgRp_SJ, hgN_SI, hgN_SJ, hgO_g, hgO_d, hgO_rl, hgO_r, hgO_0, hgO_1, hgO_64, hgO_298, hgO_300, hgCd_0, hgCd_1, hgCd_2, hgCd_3, hgCd_4, hgCd_5, hgRecv_O, hgRecv_99, List.length_cons, List.length_nil, Nat.zero_add, Nat.add_zero, Nat.le_refl, Nat.zero_le, and_self, or_true, true_or, true_and, and_true, ne_eq, not_false_eq_true, Nat.reduceLT, Nat.reduceLeDiff, Nat.reduceAdd, Nat.reduceEqDiff, hgn_eq, hgn_lt, hgn_le, if_true, if_false, reduceIte, Nat.not_lt_zero, hgs_aa_d, hgs_aa_r, hgs_aa_h, hgs_aa_m, hgs_aa_t, hgs_ld_wp, hgs_st_wp, hgs_ld_qf, hgs_st_qf, hgs_ld_qt, hgs_st_qt, hgs_ld_2, hgs_st_2, hgs_ld_3, hgs_st_3, hgs_ld_4, hgs_st_4, hgs_ld_301, hgs_st_301, hgs_ld_D, hgs_st_D, hgs_ld_s, hgs_ld_T, hgs_st_T, hgs_ld_o, hgs_st_o, hgs_ld_b, hgs_st_b, hgs_ld_z, hgs_st_z, hgs_al_b, hgx_alen_s, hgn_add, hgn_mul, hw, hgAr_302 hw, h0, hn, h1, h2, h3, hgSumN, hgk_128]
  | succ k ih =>
    intro i s hi
    have h1 : i < 2147483648 := by omega
    have h2 : n < 2147483648 := by omega
    have h3 : ¬ n ≤ i := by omega
    have h4 : 187 + 2 * (1000 * j + i) < 20187 := by omega
    have ih' := ih (i + 1) (s + hgI M 302 (187 + 2 * (1000 * j + i))) (by omega)
    rw [hgu174_4]
    simp (maxDischargeDepth := 7) only [hgM_t, hgM_f, hgM_n, hgx_iconst_0, hgx_istore_n_2i, hgx_istore_n_2r, hgx_istore_n_2f, hgx_istore_n_2n, hgx_istore_n_2l, hgx_istore_n_3i, hgx_istore_n_3r, hgx_istore_n_3f, hgx_istore_n_3n, hgx_istore_n_3l, hgx_iload_n_3, hgx_aload_n_0, hgs_get_8_8, hgx_iload_n_1, hgx_invstatic_1, hgx_aft_e, hgx_aft_i, hgx_aft_l, hgx_aft_v, hgx_bipush_9, hgx_iadd, hgx_ic_ge, hgx_iload_n_2, hgx_invstatic_2, hgx_iinc_3_1, hgx_goto, hgx_ret1, hgv174_0, hgr174_0, hgu174_0, hgv174_4, hgr174_4, hgv174_39, hgr174_39, hgu174_39, hgI_SI, hgI_SJ, hgJ_SI, hgJ_SJ, if_true, if_false, reduceIte, Nat.reduceEqDiff, hgWf_SI, hgWf_SJ, hgO_SI, hgO_SJ, hgAr_SI, hgAr_SJ, hgRp_SI, hgRp_SJ, hgN_SI, hgN_SJ, hgO_g, hgO_d, hgO_rl, hgO_r, hgO_0, hgO_1, hgO_64, hgO_298, hgO_300, hgCd_0, hgCd_1, hgCd_2, hgCd_3, hgCd_4, hgCd_5, hgRecv_O, hgRecv_99, List.length_cons, List.length_nil, Nat.zero_add, Nat.add_zero, Nat.le_refl, Nat.zero_le, and_self, or_true, true_or, true_and, and_true, ne_eq, not_false_eq_true, Nat.reduceLT, Nat.reduceLeDiff, Nat.reduceAdd, Nat.reduceEqDiff, hgn_eq, hgn_lt, hgn_le, if_true, if_false, reduceIte, Nat.not_lt_zero, hgs_aa_d, hgs_aa_r, hgs_aa_h, hgs_aa_m, hgs_aa_t, hgs_ld_wp, hgs_st_wp, hgs_ld_qf, hgs_st_qf, hgs_ld_qt, hgs_st_qt, hgs_ld_2, hgs_st_2, hgs_ld_3, hgs_st_3, hgs_ld_4, hgs_st_4, hgs_ld_301, hgs_st_301, hgs_ld_D, hgs_st_D, hgs_ld_s, hgs_ld_T, hgs_st_T, hgs_ld_o, hgs_st_o, hgs_ld_b, hgs_st_b, hgs_ld_z, hgs_st_z, hgs_al_b, hgx_alen_s, hgn_add, hgn_mul, hw, hgAr_302 hw, h0, hn, h1, h2, h3, h4, ih', hgSumN, hgk_128, hgk_130]
theorem hgk_174 (hw : hgWf M) (hj : j < 10) (hn : hgI M 302 (27 + 10 * j + 9) = nI n) (hn2 : n ≤ 1000) : hgWC X 174 [.ref 300, .int (nI j)] M = some (.inl (.int (hgSumN (fun i => hgI M 302 (187 + 2 * (1000 * j + i))) (nI 0) 0 n)), M) := by
  have k := hgk_174l (X := X) hw hj hn hn2 n 0 (nI 0) (by omega)
  simp (maxDischargeDepth := 7) only [hgc174, hgM_t, hgM_f, hgM_n, hgx_iconst_0, hgx_istore_n_2i, hgx_istore_n_2r, hgx_istore_n_2f, hgx_istore_n_2n, hgx_istore_n_2l, hgx_istore_n_3i, hgx_istore_n_3r, hgx_istore_n_3f, hgx_istore_n_3n, hgx_istore_n_3l, hgx_iload_n_3, hgx_aload_n_0, hgs_get_8_8, hgx_iload_n_1, hgx_invstatic_1, hgx_aft_e, hgx_aft_i, hgx_aft_l, hgx_aft_v, hgx_bipush_9, hgx_iadd, hgx_ic_ge, hgx_iload_n_2, hgx_invstatic_2, hgx_iinc_3_1, hgx_goto, hgx_ret1, hgv174_0, hgr174_0, hgu174_0, hgv174_4, ← hgu174_4, hgv174_39, hgr174_39, hgu174_39, hgI_SI, hgI_SJ, hgJ_SI, hgJ_SJ, if_true, if_false, reduceIte, Nat.reduceEqDiff, hgWf_SI, hgWf_SJ, hgO_SI, hgO_SJ, hgAr_SI, hgAr_SJ, hgRp_SI, hgRp_SJ, hgN_SI, hgN_SJ, hgO_g, hgO_d, hgO_rl, hgO_r, hgO_0, hgO_1, hgO_64, hgO_298, hgO_300, hgCd_0, hgCd_1, hgCd_2, hgCd_3, hgCd_4, hgCd_5, hgRecv_O, hgRecv_99, List.length_cons, List.length_nil, Nat.zero_add, Nat.add_zero, Nat.le_refl, Nat.zero_le, and_self, or_true, true_or, true_and, and_true, ne_eq, not_false_eq_true, Nat.reduceLT, Nat.reduceLeDiff, Nat.reduceAdd, Nat.reduceEqDiff, hgn_eq, hgn_lt, hgn_le, if_true, if_false, reduceIte, Nat.not_lt_zero]
  exact k
end HGLOO

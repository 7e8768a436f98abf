/-! RULES, the component's: each method by its numbers. -/
/-- a truth value as the machine has it -/
def hgB (b : Bool) : Int32 := if b = true then nI 1 else nI 0
theorem hgB_0 (b : Bool) : (hgB b = nI 0) = (b = false) := by
  cases b <;> simp [hgB] <;> decide
theorem hgB_1 (b : Bool) : (hgB b = nI 1) = (b = true) := by
  cases b <;> simp [hgB] <;> decide
theorem hgB_o (b : Bool) : (hgB b = nI 0 ∨ hgB b = nI 1) := by
  cases b
  · exact Or.inl rfl
  · exact Or.inr rfl
theorem hgB_t : hgB true = nI 1 := id rfl
theorem hgB_f : hgB false = nI 0 := id rfl
def hgMg (f t s r : Int32) : Bool := decide (f = nI 4 ∨ f = s) && decide (t = nI 4 ∨ t = r)
def hgMt (f t lo hi s r p : Int32) : Bool := decide (lo ≤ p) && decide (p ≤ hi) && hgMg f t s r
section HGRUL
variable {X : hgX} {M : hgMem} {a b g i j c p : Nat} {x y z w v : Int32}
theorem hgk_7 (hw : hgWf M) (h0 : hgO M a 0) (hn : 5 < a) (hc : hgI M 1 3 = nI c) (h : c ≤ 512) (hf : hgI M a 10 = nI p) (hp : p < c) (hwt : nI 0 < hgI M a 1) (hwt2 : hgI M a 1 ≠ 0) : hgWC X 7 [.ref a, .ref 1, .int x] M = some (.inl .null, hgSI (hgSJ (hgSI (hgSI (hgSI (hgSI (hgSI M a 9 (if hgI M a 9 < x - hgI M 3 p then x - hgI M 3 p else hgI M a 9)) a 10 (hgI M 4 p)) a 12 (hgI M a 12 - nI 1)) a 13 (hgI M a 13 - hgI M 2 p)) a 8 (hgI M a 8 + hgI M 2 p)) a 7 (hgJ M a 7 + (nI 2520 * hgI M 2 p / hgI M a 1).toInt64)) a 14 (nI 1)) := by
  have e1 : ¬ 1 = a := by omega
  have e2 : ¬ 4 = a := by omega
  have e3 : ¬ hgI M a 1 ≤ nI 0 := fun q => absurd q (Int32.not_le.mpr hwt)
  have k39 := hgk_39 (X := X) hw hc h hp
  have k40 := hgk_40 (X := X) hw hc h hp
  have k41 := fun z => hgk_41 (X := X) (M := hgSI M a 9 z) hw (by simp (maxDischargeDepth := 7) only [hgI_SI, hgI_SJ, hgJ_SI, hgJ_SJ, if_true, if_false, reduceIte, Nat.reduceEqDiff, hgWf_SI, hgWf_SJ, hgO_SI, hgO_SJ, hgAr_SI, hgAr_SJ, hgRp_SI, hgRp_SJ, hgN_SI, hgN_SJ, hgO_g, hgO_d, hgO_rl, hgO_r, hgO_0, hgO_1, hgO_64, hgO_298, hgO_300, hgCd_0, hgCd_1, hgCd_2, hgCd_3, hgCd_4, hgCd_5, hgRecv_O, hgRecv_99, List.length_cons, List.length_nil, Nat.zero_add, Nat.add_zero, Nat.le_refl, Nat.zero_le, and_self, or_true, true_or, true_and, and_true, ne_eq, not_false_eq_true, Nat.reduceLT, Nat.reduceLeDiff, Nat.reduceAdd, Nat.reduceEqDiff, hgn_eq, hgn_lt, hgn_le, if_true, if_false, reduceIte, Nat.not_lt_zero, hc, e1]) h hp
  simp (maxDischargeDepth := 7) only [hgc7, hgM_t, hgM_f, hgM_n, hgx_aload_n_1, hgx_aload_n_0, hgx_get0, hgx_invvirtual_2, hgx_aft_e, hgx_aft_i, hgx_aft_l, hgx_aft_v, hgx_istore_n_3i, hgx_istore_n_3r, hgx_istore_n_3f, hgx_istore_n_3n, hgx_istore_n_3l, hgx_iload_n_2, hgx_isub, hgx_max, hgx_put0, hgx_dup_i, hgx_dup_f, hgx_dup_r, hgx_iconst_1, hgx_iload_n_3, hgx_iadd, hgx_if_le, hgx_get1, hgx_sipush_2520, hgx_imul, hgx_idiv, hgx_i2l, hgx_ladd, hgx_put1, hgx_put3, hgx_vret, hgv7_0, hgr7_0, hgu7_0, hgv7_99, hgr7_99, hgu7_99, hgI_SI, hgI_SJ, hgJ_SI, hgJ_SJ, if_true, if_false, reduceIte, Nat.reduceEqDiff, hgWf_SI, hgWf_SJ, hgO_SI, hgO_SJ, hgAr_SI, hgAr_SJ, hgRp_SI, hgRp_SJ, hgN_SI, hgN_SJ, hgO_g, hgO_d, hgO_rl, hgO_r, hgO_0, hgO_1, hgO_64, hgO_298, hgO_300, hgCd_0, hgCd_1, hgCd_2, hgCd_3, hgCd_4, hgCd_5, hgRecv_O, hgRecv_99, List.length_cons, List.length_nil, Nat.zero_add, Nat.add_zero, Nat.le_refl, Nat.zero_le, and_self, or_true, true_or, true_and, and_true, ne_eq, not_false_eq_true, Nat.reduceLT, Nat.reduceLeDiff, Nat.reduceAdd, Nat.reduceEqDiff, hgn_eq, hgn_lt, hgn_le, if_true, if_false, reduceIte, Nat.not_lt_zero, h0, hw, hf, hgn_add, hgn_mul, k39, k40, k41, e1, e2, e3, hwt2]
theorem hgk_43 (h : hgO M a 4) (hb : x = nI 0 ∨ x = nI 1) : hgWC X 43 [.ref a, .int x, .int y, .int z, .int w, .int v] M = some (.inl .null, hgSI (hgSI (hgSI (hgSI (hgSI M a 0 x) a 1 y) a 2 z) a 3 w) a 4 v) := by
  simp (maxDischargeDepth := 7) only [hgc43, hgM_t, hgM_f, hgM_n, hgx_aload_n_0, hgx_iload_n_1, hgx_put3, hgx_iload_n_2, hgx_put0, hgx_iload_n_3, hgx_iload_4, hgx_iload_5, hgx_vret, hgv43_0, hgr43_0, hgu43_0, hgI_SI, hgI_SJ, hgJ_SI, hgJ_SJ, if_true, if_false, reduceIte, Nat.reduceEqDiff, hgWf_SI, hgWf_SJ, hgO_SI, hgO_SJ, hgAr_SI, hgAr_SJ, hgRp_SI, hgRp_SJ, hgN_SI, hgN_SJ, hgO_g, hgO_d, hgO_rl, hgO_r, hgO_0, hgO_1, hgO_64, hgO_298, hgO_300, hgCd_0, hgCd_1, hgCd_2, hgCd_3, hgCd_4, hgCd_5, hgRecv_O, hgRecv_99, List.length_cons, List.length_nil, Nat.zero_add, Nat.add_zero, Nat.le_refl, Nat.zero_le, and_self, or_true, true_or, true_and, and_true, ne_eq, not_false_eq_true, Nat.reduceLT, Nat.reduceLeDiff, Nat.reduceAdd, Nat.reduceEqDiff, hgn_eq, hgn_lt, hgn_le, if_true, if_false, reduceIte, Nat.not_lt_zero, h, hb]
theorem hgk_44 (h : hgO M a 4) (h2 : hgO M b 4) (hb : hgI M b 0 = nI 0 ∨ hgI M b 0 = nI 1) : hgWC X 44 [.ref a, .ref b] M = some (.inl .null, hgSI (hgSI (hgSI (hgSI (hgSI M a 0 (hgI M b 0)) a 1 (hgI M b 1)) a 2 (hgI M b 2)) a 3 (hgI M b 3)) a 4 (hgI M b 4)) := by
  simp (maxDischargeDepth := 7) only [hgc44, hgM_t, hgM_f, hgM_n, hgx_aload_n_0, hgx_aload_n_1, hgx_get3, hgx_get0, hgx_invvirtual_6, hgx_aft_e, hgx_aft_i, hgx_aft_l, hgx_aft_v, hgx_vret, hgv44_0, hgr44_0, hgu44_0, hgI_SI, hgI_SJ, hgJ_SI, hgJ_SJ, if_true, if_false, reduceIte, Nat.reduceEqDiff, hgWf_SI, hgWf_SJ, hgO_SI, hgO_SJ, hgAr_SI, hgAr_SJ, hgRp_SI, hgRp_SJ, hgN_SI, hgN_SJ, hgO_g, hgO_d, hgO_rl, hgO_r, hgO_0, hgO_1, hgO_64, hgO_298, hgO_300, hgCd_0, hgCd_1, hgCd_2, hgCd_3, hgCd_4, hgCd_5, hgRecv_O, hgRecv_99, List.length_cons, List.length_nil, Nat.zero_add, Nat.add_zero, Nat.le_refl, Nat.zero_le, and_self, or_true, true_or, true_and, and_true, ne_eq, not_false_eq_true, Nat.reduceLT, Nat.reduceLeDiff, Nat.reduceAdd, Nat.reduceEqDiff, hgn_eq, hgn_lt, hgn_le, if_true, if_false, reduceIte, Nat.not_lt_zero, h, h2, hgk_43 h hb]
theorem hgk_45 (h : hgO M a 4) : hgWC X 45 [.ref a, .int x, .int y] M = some (.inl (.int (hgB (hgMg (hgI M a 1) (hgI M a 2) x y))), M) := by
  simp (maxDischargeDepth := 7) only [hgc45, hgM_t, hgM_f, hgM_n, hgx_aload_n_0, hgx_get0, hgx_iconst_4, hgx_ic_eq, hgx_iload_n_1, hgx_ic_ne, hgx_iload_n_2, hgx_iconst_1, hgx_goto, hgx_iconst_0, hgx_ret3, hgv45_0, hgr45_0, hgu45_0, hgv45_16, hgr45_16, hgu45_16, hgv45_32, hgr45_32, hgu45_32, hgv45_36, hgr45_36, hgu45_36, hgv45_37, hgr45_37, hgu45_37, hgI_SI, hgI_SJ, hgJ_SI, hgJ_SJ, if_true, if_false, reduceIte, Nat.reduceEqDiff, hgWf_SI, hgWf_SJ, hgO_SI, hgO_SJ, hgAr_SI, hgAr_SJ, hgRp_SI, hgRp_SJ, hgN_SI, hgN_SJ, hgO_g, hgO_d, hgO_rl, hgO_r, hgO_0, hgO_1, hgO_64, hgO_298, hgO_300, hgCd_0, hgCd_1, hgCd_2, hgCd_3, hgCd_4, hgCd_5, hgRecv_O, hgRecv_99, List.length_cons, List.length_nil, Nat.zero_add, Nat.add_zero, Nat.le_refl, Nat.zero_le, and_self, or_true, true_or, true_and, and_true, ne_eq, not_false_eq_true, Nat.reduceLT, Nat.reduceLeDiff, Nat.reduceAdd, Nat.reduceEqDiff, hgn_eq, hgn_lt, hgn_le, if_true, if_false, reduceIte, Nat.not_lt_zero, h]
  unfold hgMg
  by_cases h1 : hgI M a 1 = nI 4 <;> by_cases h2 : hgI M a 1 = x <;> by_cases h3 : hgI M a 2 = nI 4 <;> by_cases h4 : hgI M a 2 = y <;> simp [h1, h2, h3, h4, hgB] <;> simp_all
theorem hgk_46 (h : hgO M a 4) : hgWC X 46 [.ref a, .int x, .int y, .int z] M = some (.inl (.int (hgB (hgMt (hgI M a 1) (hgI M a 2) (hgI M a 3) (hgI M a 4) x y z))), M) := by
  simp (maxDischargeDepth := 7) only [hgc46, hgM_t, hgM_f, hgM_n, hgx_aload_n_0, hgx_get0, hgx_iload_n_3, hgx_ic_gt, hgx_iload_n_1, hgx_iload_n_2, hgx_invvirtual_3, hgx_aft_e, hgx_aft_i, hgx_aft_l, hgx_aft_v, hgx_if_eq, hgx_iconst_1, hgx_goto, hgx_iconst_0, hgx_ret3, hgv46_0, hgr46_0, hgu46_0, hgv46_29, hgr46_29, hgu46_29, hgv46_30, hgr46_30, hgu46_30, hgI_SI, hgI_SJ, hgJ_SI, hgJ_SJ, if_true, if_false, reduceIte, Nat.reduceEqDiff, hgWf_SI, hgWf_SJ, hgO_SI, hgO_SJ, hgAr_SI, hgAr_SJ, hgRp_SI, hgRp_SJ, hgN_SI, hgN_SJ, hgO_g, hgO_d, hgO_rl, hgO_r, hgO_0, hgO_1, hgO_64, hgO_298, hgO_300, hgCd_0, hgCd_1, hgCd_2, hgCd_3, hgCd_4, hgCd_5, hgRecv_O, hgRecv_99, List.length_cons, List.length_nil, Nat.zero_add, Nat.add_zero, Nat.le_refl, Nat.zero_le, and_self, or_true, true_or, true_and, and_true, ne_eq, not_false_eq_true, Nat.reduceLT, Nat.reduceLeDiff, Nat.reduceAdd, Nat.reduceEqDiff, hgn_eq, hgn_lt, hgn_le, if_true, if_false, reduceIte, Nat.not_lt_zero, h, hgk_45 h, hgB_0, hgB_o]
  simp only [← Int32.not_le]
  unfold hgMt
  by_cases h1 : hgI M a 3 ≤ z <;> by_cases h2 : z ≤ hgI M a 4 <;> cases h3 : hgMg (hgI M a 1) (hgI M a 2) x y <;> simp [h1, h2, hgB]
/-- a rule's field -/
def hgRf (M : hgMem) (g j k : Nat) : Int32 := hgI M (hgRp M g j) k
/-- the first of k places from i that f takes -/
def hgFind (f : Nat → Bool) : Nat → Nat → Option Nat
  | _, 0 => none
  | i, k + 1 => if f i = true then some i else hgFind f (i + 1) k
def hgOi : Option Nat → Int32
  | some j => nI j
  | none => -1
def hgMr (M : hgMem) (g : Nat) (s r p : Int32) (j : Nat) : Bool := hgMt (hgRf M g j 1) (hgRf M g j 2) (hgRf M g j 3) (hgRf M g j 4) s r p
theorem hgk_53l {n : Nat} (hw : hgWf M) (hg : hgGw g) (hn : hgI M (g + 12) 1 = nI n) (hn2 : n ≤ 12) : ∀ (k i : Nat), i + k = n → hgW X 53 3 [some (.ref (g + 12)), some (.int x), some (.int y), some (.int z), some (.int (nI i))] [] (0, 0) M = some (.inl (.int (hgOi (hgFind (hgMr M g x y z) i k))), M) := by
  intro k
  induction k with
  | zero =>
    intro i hi
    have h1 : i < 2147483648 := by omega
    have h2 : n < 2147483648 := by omega
    have h3 : n ≤ i := by omega
    rw [hgu53_3]
    simp (maxDischargeDepth := 7) only [hgM_t, hgM_f, hgM_n, hgx_iconst_0, hgx_istore_4i, hgx_istore_4r, hgx_istore_4f, hgx_istore_4n, hgx_istore_4l, hgx_iload_4, hgx_aload_n_0, hgx_get0, hgx_ic_ge, hgs_get_5_0, hgx_iload_n_1, hgx_iload_n_2, hgx_iload_n_3, hgx_invvirtual_4, hgx_aft_e, hgx_aft_i, hgx_aft_l, hgx_aft_v, hgx_if_eq, hgx_ret1, hgx_iinc_4_1, hgx_goto, hgx_iconst_m1, hgv53_0, hgr53_0, hgu53_0, hgv53_3, hgr53_3, hgv53_31, hgr53_31, hgu53_31, hgv53_37, hgr53_37, hgu53_37, hgI_SI, hgI_SJ, hgJ_SI, hgJ_SJ, if_true, if_false, reduceIte, Nat.reduceEqDiff, hgWf_SI, hgWf_SJ, hgO_SI, hgO_SJ, hgAr_SI, hgAr_SJ, hgRp_SI, hgRp_SJ, hgN_SI, hgN_SJ, hgO_g, hgO_d, hgO_rl, hgO_r, hgO_0, hgO_1, hgO_64, hgO_298, hgO_300, hgCd_0, hgCd_1, hgCd_2, hgCd_3, hgCd_4, hgCd_5, hgRecv_O, hgRecv_99, List.length_cons, List.length_nil, Nat.zero_add, Nat.add_zero, Nat.le_refl, Nat.zero_le, and_self, or_true, true_or, true_and, and_true, ne_eq, not_false_eq_true, Nat.reduceLT, Nat.reduceLeDiff, Nat.reduceAdd, Nat.reduceEqDiff, hgn_eq, hgn_lt, hgn_le, if_true, if_false, reduceIte, Nat.not_lt_zero, hw, hg, hn, h1, h2, h3, hgFind, hgOi]
  | succ k ih =>
    intro i hi
    have h1 : i < 2147483648 := by omega
    have h2 : n < 2147483648 := by omega
    have h3 : ¬ n ≤ i := by omega
    have h4 : i < 12 := by omega
    have ih' := ih (i + 1) (by omega)
    have k46 := hgk_46 (X := X) (x := x) (y := y) (z := z) (hgO_r hw hg h4)
    rw [hgu53_3]
    simp (maxDischargeDepth := 7) only [hgM_t, hgM_f, hgM_n, hgx_iconst_0, hgx_istore_4i, hgx_istore_4r, hgx_istore_4f, hgx_istore_4n, hgx_istore_4l, hgx_iload_4, hgx_aload_n_0, hgx_get0, hgx_ic_ge, hgs_get_5_0, hgx_iload_n_1, hgx_iload_n_2, hgx_iload_n_3, hgx_invvirtual_4, hgx_aft_e, hgx_aft_i, hgx_aft_l, hgx_aft_v, hgx_if_eq, hgx_ret1, hgx_iinc_4_1, hgx_goto, hgx_iconst_m1, hgv53_0, hgr53_0, hgu53_0, hgv53_3, hgr53_3, hgv53_31, hgr53_31, hgu53_31, hgv53_37, hgr53_37, hgu53_37, hgI_SI, hgI_SJ, hgJ_SI, hgJ_SJ, if_true, if_false, reduceIte, Nat.reduceEqDiff, hgWf_SI, hgWf_SJ, hgO_SI, hgO_SJ, hgAr_SI, hgAr_SJ, hgRp_SI, hgRp_SJ, hgN_SI, hgN_SJ, hgO_g, hgO_d, hgO_rl, hgO_r, hgO_0, hgO_1, hgO_64, hgO_298, hgO_300, hgCd_0, hgCd_1, hgCd_2, hgCd_3, hgCd_4, hgCd_5, hgRecv_O, hgRecv_99, List.length_cons, List.length_nil, Nat.zero_add, Nat.add_zero, Nat.le_refl, Nat.zero_le, and_self, or_true, true_or, true_and, and_true, ne_eq, not_false_eq_true, Nat.reduceLT, Nat.reduceLeDiff, Nat.reduceAdd, Nat.reduceEqDiff, hgn_eq, hgn_lt, hgn_le, if_true, if_false, reduceIte, Nat.not_lt_zero, hgs_aa_d, hgs_aa_r, hgs_aa_h, hgs_aa_m, hgs_aa_t, hgs_ld_wp, hgs_st_wp, hgs_ld_qf, hgs_st_qf, hgs_ld_qt, hgs_st_qt, hgs_ld_2, hgs_st_2, hgs_ld_3, hgs_st_3, hgs_ld_4, hgs_st_4, hgs_ld_301, hgs_st_301, hgs_ld_D, hgs_st_D, hgs_ld_s, hgs_ld_T, hgs_st_T, hgs_ld_o, hgs_st_o, hgs_ld_b, hgs_st_b, hgs_ld_z, hgs_st_z, hgs_al_b, hgx_alen_s, hgn_add, hgn_mul, hw, hg, hn, h1, h2, h3, h4, k46, hgB_0, ih', hgFind]
    unfold hgMr hgRf
    split
    · next h => simp [h]
    · next h => simp [h, hgOi]
theorem hgk_53 {n : Nat} (hw : hgWf M) (hg : hgGw g) (hn : hgI M (g + 12) 1 = nI n) (hn2 : n ≤ 12) : hgWC X 53 [.ref (g + 12), .int x, .int y, .int z] M = some (.inl (.int (hgOi (hgFind (hgMr M g x y z) 0 n))), M) := by
  have k := hgk_53l (X := X) (x := x) (y := y) (z := z) hw hg hn hn2 n 0 (by omega)
  simp (maxDischargeDepth := 7) only [hgc53, hgM_t, hgM_f, hgM_n, hgx_iconst_0, hgx_istore_4i, hgx_istore_4r, hgx_istore_4f, hgx_istore_4n, hgx_istore_4l, hgx_iload_4, hgx_aload_n_0, hgx_get0, hgx_ic_ge, hgs_get_5_0, hgx_iload_n_1, hgx_iload_n_2, hgx_iload_n_3, hgx_invvirtual_4, hgx_aft_e, hgx_aft_i, hgx_aft_l, hgx_aft_v, hgx_if_eq, hgx_ret1, hgx_iinc_4_1, hgx_goto, hgx_iconst_m1, hgv53_0, hgr53_0, hgu53_0, hgv53_3, ← hgu53_3, hgv53_31, hgr53_31, hgu53_31, hgv53_37, hgr53_37, hgu53_37, hgI_SI, hgI_SJ, hgJ_SI, hgJ_SJ, if_true, if_false, reduceIte, Nat.reduceEqDiff, hgWf_SI, hgWf_SJ, hgO_SI, hgO_SJ, hgAr_SI, hgAr_SJ, hgRp_SI, hgRp_SJ, hgN_SI, hgN_SJ, hgO_g, hgO_d, hgO_rl, hgO_r, hgO_0, hgO_1, hgO_64, hgO_298, hgO_300, hgCd_0, hgCd_1, hgCd_2, hgCd_3, hgCd_4, hgCd_5, hgRecv_O, hgRecv_99, List.length_cons, List.length_nil, Nat.zero_add, Nat.add_zero, Nat.le_refl, Nat.zero_le, and_self, or_true, true_or, true_and, and_true, ne_eq, not_false_eq_true, Nat.reduceLT, Nat.reduceLeDiff, Nat.reduceAdd, Nat.reduceEqDiff, hgn_eq, hgn_lt, hgn_le, if_true, if_false, reduceIte, Nat.not_lt_zero, k]
theorem hgk_49 {n : Nat} (hw : hgWf M) (hg : hgGw g) (hn : hgI M (g + 12) 1 = nI n) (hn2 : n ≤ 12) : hgWC X 49 [.ref (g + 12)] M = some (.inl (.int (hgB (decide (12 ≤ n)))), M) := by
  have h1 : n < 2147483648 := by omega
  simp (maxDischargeDepth := 7) only [hgc49, hgM_t, hgM_f, hgM_n, hgx_aload_n_0, hgx_get0, hgx_bipush_12, hgx_ic_lt, hgx_iconst_1, hgx_goto, hgx_iconst_0, hgx_ret3, hgv49_0, hgr49_0, hgu49_0, hgv49_13, hgr49_13, hgu49_13, hgv49_14, hgr49_14, hgu49_14, hgI_SI, hgI_SJ, hgJ_SI, hgJ_SJ, if_true, if_false, reduceIte, Nat.reduceEqDiff, hgWf_SI, hgWf_SJ, hgO_SI, hgO_SJ, hgAr_SI, hgAr_SJ, hgRp_SI, hgRp_SJ, hgN_SI, hgN_SJ, hgO_g, hgO_d, hgO_rl, hgO_r, hgO_0, hgO_1, hgO_64, hgO_298, hgO_300, hgCd_0, hgCd_1, hgCd_2, hgCd_3, hgCd_4, hgCd_5, hgRecv_O, hgRecv_99, List.length_cons, List.length_nil, Nat.zero_add, Nat.add_zero, Nat.le_refl, Nat.zero_le, and_self, or_true, true_or, true_and, and_true, ne_eq, not_false_eq_true, Nat.reduceLT, Nat.reduceLeDiff, Nat.reduceAdd, Nat.reduceEqDiff, hgn_eq, hgn_lt, hgn_le, if_true, if_false, reduceIte, Nat.not_lt_zero, hw, hg, hn, h1]
  by_cases h : n < 12
  · simp [h, hgB, Nat.not_le.mpr h]
  · simp [h, hgB, Nat.not_lt.mp h]
theorem hgk_50 {n : Nat} (hw : hgWf M) (hg : hgGw g) (hn : hgI M (g + 12) 1 = nI n) (hn2 : n < 12) (hb : x = nI 0 ∨ x = nI 1) : hgWC X 50 [.ref (g + 12), .int x, .int y, .int z, .int w, .int v] M = some (.inl .null, hgSI (hgSI (hgSI (hgSI (hgSI (hgSI M (hgRp M g n) 0 x) (hgRp M g n) 1 y) (hgRp M g n) 2 z) (hgRp M g n) 3 w) (hgRp M g n) 4 v) (g + 12) 1 (nI (n + 1))) := by
  have h1 : n < 2147483648 := by omega
  have h2 : ¬ 12 ≤ n := by omega
  have hr := hgRp_f hw hg hn2
  have e1 : ¬ g + 12 = hgRp M g n := by omega
  have k43 := hgk_43 (X := X) (y := y) (z := z) (w := w) (v := v) (hgO_r hw hg hn2) hb
  simp (maxDischargeDepth := 7) only [hgc50, hgM_t, hgM_f, hgM_n, hgx_aload_n_0, hgx_get0, hgx_if_lt, hgx_bipush_12, hgx_ic_ge, hgs_get_5_0, hgx_iload_n_1, hgx_iload_n_2, hgx_iload_n_3, hgx_iload_4, hgx_iload_5, hgx_invvirtual_6, hgx_aft_e, hgx_aft_i, hgx_aft_l, hgx_aft_v, hgx_dup_i, hgx_dup_f, hgx_dup_r, hgx_iconst_1, hgx_iadd, hgx_put0, hgx_vret, hgv50_0, hgr50_0, hgu50_0, hgv50_45, hgr50_45, hgu50_45, hgI_SI, hgI_SJ, hgJ_SI, hgJ_SJ, if_true, if_false, reduceIte, Nat.reduceEqDiff, hgWf_SI, hgWf_SJ, hgO_SI, hgO_SJ, hgAr_SI, hgAr_SJ, hgRp_SI, hgRp_SJ, hgN_SI, hgN_SJ, hgO_g, hgO_d, hgO_rl, hgO_r, hgO_0, hgO_1, hgO_64, hgO_298, hgO_300, hgCd_0, hgCd_1, hgCd_2, hgCd_3, hgCd_4, hgCd_5, hgRecv_O, hgRecv_99, List.length_cons, List.length_nil, Nat.zero_add, Nat.add_zero, Nat.le_refl, Nat.zero_le, and_self, or_true, true_or, true_and, and_true, ne_eq, not_false_eq_true, Nat.reduceLT, Nat.reduceLeDiff, Nat.reduceAdd, Nat.reduceEqDiff, hgn_eq, hgn_lt, hgn_le, if_true, if_false, reduceIte, Nat.not_lt_zero, hgs_aa_d, hgs_aa_r, hgs_aa_h, hgs_aa_m, hgs_aa_t, hgs_ld_wp, hgs_st_wp, hgs_ld_qf, hgs_st_qf, hgs_ld_qt, hgs_st_qt, hgs_ld_2, hgs_st_2, hgs_ld_3, hgs_st_3, hgs_ld_4, hgs_st_4, hgs_ld_301, hgs_st_301, hgs_ld_D, hgs_st_D, hgs_ld_s, hgs_ld_T, hgs_st_T, hgs_ld_o, hgs_st_o, hgs_ld_b, hgs_st_b, hgs_ld_z, hgs_st_z, hgs_al_b, hgx_alen_s, hgn_add, hgn_mul, hw, hg, hn, h1, h2, hn2, k43, e1]
theorem hgk_54 {n : Nat} (hw : hgWf M) (hg : hgGw g) (hn : hgI M (g + 12) 1 = nI n) (hn2 : n ≤ 12) (hj : j < n) (hb : hgRf M g j 0 = nI 0 ∨ hgRf M g j 0 = nI 1) : hgWC X 54 [.ref (g + 12), .int (nI j)] M = some (.inl (.int (hgRf M g j 0)), M) := by
  have h1 : n < 2147483648 := by omega
  have h2 : j < 2147483648 := by omega
  have h3 : ¬ n ≤ j := by omega
  have h4 : j < 12 := by omega
  simp (maxDischargeDepth := 7) only [hgc54, hgM_t, hgM_f, hgM_n, hgx_iload_n_1, hgx_if_lt, hgx_aload_n_0, hgx_get0, hgx_ic_ge, hgs_get_5_0, hgx_get3, hgx_if_eq, hgx_iconst_1, hgx_goto, hgx_iconst_0, hgx_ret3, hgv54_0, hgr54_0, hgu54_0, hgv54_28, hgr54_28, hgu54_28, hgv54_29, hgr54_29, hgu54_29, hgI_SI, hgI_SJ, hgJ_SI, hgJ_SJ, if_true, if_false, reduceIte, Nat.reduceEqDiff, hgWf_SI, hgWf_SJ, hgO_SI, hgO_SJ, hgAr_SI, hgAr_SJ, hgRp_SI, hgRp_SJ, hgN_SI, hgN_SJ, hgO_g, hgO_d, hgO_rl, hgO_r, hgO_0, hgO_1, hgO_64, hgO_298, hgO_300, hgCd_0, hgCd_1, hgCd_2, hgCd_3, hgCd_4, hgCd_5, hgRecv_O, hgRecv_99, List.length_cons, List.length_nil, Nat.zero_add, Nat.add_zero, Nat.le_refl, Nat.zero_le, and_self, or_true, true_or, true_and, and_true, ne_eq, not_false_eq_true, Nat.reduceLT, Nat.reduceLeDiff, Nat.reduceAdd, Nat.reduceEqDiff, hgn_eq, hgn_lt, hgn_le, if_true, if_false, reduceIte, Nat.not_lt_zero, hgs_aa_d, hgs_aa_r, hgs_aa_h, hgs_aa_m, hgs_aa_t, hgs_ld_wp, hgs_st_wp, hgs_ld_qf, hgs_st_qf, hgs_ld_qt, hgs_st_qt, hgs_ld_2, hgs_st_2, hgs_ld_3, hgs_st_3, hgs_ld_4, hgs_st_4, hgs_ld_301, hgs_st_301, hgs_ld_D, hgs_st_D, hgs_ld_s, hgs_ld_T, hgs_st_T, hgs_ld_o, hgs_st_o, hgs_ld_b, hgs_st_b, hgs_ld_z, hgs_st_z, hgs_al_b, hgx_alen_s, hgn_add, hgn_mul, hw, hg, hn, h1, h2, h3, h4]
  unfold hgRf at hb ⊢
  rcases hb with hb | hb
  · rw [hb]
    exact if_pos rfl
  · rw [hb]
    exact if_neg (by decide)
end HGRUL

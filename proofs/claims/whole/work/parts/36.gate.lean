/-! THE COMPONENT'S GATEWAY: what it reads. -/
theorem hgm1_lt : ((-1 : Int32) < nI 0) = True := by decide
theorem hgm1_le : (nI 0 ≤ (-1 : Int32)) = False := by decide
theorem hgm1_eq : ((-1 : Int32) = nI 3) = False := by decide
/-- a device's group; of none: the net's -/
def hgGp (M : hgMem) (g : Nat) : Option Nat → Int32
  | some i => hgI M (g + 2 + i) 0
  | none => nI 3
theorem hgOi_eq {o : Option Nat} {i : Nat} (ho : ∀ q, o = some q → q < 1000) (hi : i < 1000) : (hgOi o = nI i) = (o = some i) := by
  cases o with
  | none => exact propext ⟨fun h => by
      have := congrArg Int32.toInt h
      rw [hgn_int (by omega)] at this
      have e : (hgOi none).toInt = -1 := by decide
      omega, fun h => by cases h⟩
  | some q =>
    have hq := ho q rfl
    show (nI q = nI i) = _
    rw [hgn_eq (by omega) (by omega)]
    exact propext ⟨fun h => by rw [h], fun h => by cases h; rfl⟩
def hgIso (M : hgMem) (g : Nat) (o : Option Nat) (i : Nat) : Bool := decide (hgGp M g o = nI 1) && (decide (hgGp M g (some i) = nI 0) || (decide (hgGp M g (some i) = nI 1) && decide (o ≠ some i)))
def hgOp (M : hgMem) (g n : Nat) (s r p : Int32) : Bool := match hgFind (hgMr M g s r p) 0 n with
  | none => decide (s ≠ nI 3)
  | some j => decide (hgRf M g j 0 = nI 1)
theorem hgFind_lt {f : Nat → Bool} : ∀ {k i j : Nat}, hgFind f i k = some j → i ≤ j ∧ j < i + k ∧ f j = true
  | 0, i, j, h => by cases h
  | k + 1, i, j, h => by
    unfold hgFind at h
    split at h
    · next e => cases h; exact ⟨Nat.le_refl _, by omega, e⟩
    · have := hgFind_lt h
      exact ⟨by omega, by omega, this.2.2⟩
/-- quiet hours: clock, day, from, to -/
def hgQh (c d f t : Int32) : Bool := if nI 0 < d then (if f ≤ t then decide (f ≤ c - c / d * d) && decide (c - c / d * d < t) else decide (f ≤ c - c / d * d) || decide (c - c / d * d < t)) else false
def hgQg (M : hgMem) (g q : Nat) : Bool := hgQh (hgI M g 12) (hgI M g 3) (hgI M (g + 27) q) (hgI M (g + 28) q)
def hgCs (M : hgMem) (g i q : Nat) : Bool := decide (nI 0 < hgI M (g + 2 + i) 12) && decide (hgI M (g + 2 + i) 4 = nI 0) && !hgQg M g q
section HGGAT
variable {X : hgX} {M : hgMem} {a b g i j c p n m q : Nat} {x y z w v : Int32} {o : Option Nat}
theorem hgk_16s (hw : hgWf M) (hg : hgGw g) (hd : hgI M g 6 = nI n) (hn : n ≤ 10) (hi : i < n) : hgWC X 16 [.ref g, .int (nI i)] M = some (.inl (.int (nI 1)), M) := by
  have h1 : n < 2147483648 := by omega
  have h2 : i < 2147483648 := by omega
  have h3 : ¬ n ≤ i := by omega
  simp (maxDischargeDepth := 7) only [hgc16, hgM_t, hgM_f, hgM_n, hgx_iload_n_1, hgx_if_lt, hgx_aload_n_0, hgx_get0, hgx_ic_ge, hgx_iconst_1, hgx_goto, hgx_iconst_0, hgx_ret3, hgv16_0, hgr16_0, hgu16_0, hgv16_16, hgr16_16, hgu16_16, hgv16_17, hgr16_17, hgu16_17, hgI_SI, hgI_SJ, hgJ_SI, hgJ_SJ, if_true, if_false, reduceIte, Nat.reduceEqDiff, hgWf_SI, hgWf_SJ, hgO_SI, hgO_SJ, hgAr_SI, hgAr_SJ, hgRp_SI, hgRp_SJ, hgN_SI, hgN_SJ, hgO_g, hgO_d, hgO_rl, hgO_r, hgO_0, hgO_1, hgO_64, hgO_298, hgO_300, hgCd_0, hgCd_1, hgCd_2, hgCd_3, hgCd_4, hgCd_5, hgRecv_O, hgRecv_99, List.length_cons, List.length_nil, Nat.zero_add, Nat.add_zero, Nat.le_refl, Nat.zero_le, and_self, or_true, true_or, true_and, and_true, ne_eq, not_false_eq_true, Nat.reduceLT, Nat.reduceLeDiff, Nat.reduceAdd, Nat.reduceEqDiff, hgn_eq, hgn_lt, hgn_le, if_true, if_false, reduceIte, Nat.not_lt_zero, hw, hg, hd, h1, h2, h3]
theorem hgk_16n (hw : hgWf M) (hg : hgGw g) : hgWC X 16 [.ref g, .int (-1)] M = some (.inl (.int (nI 0)), M) := by
  simp (maxDischargeDepth := 7) only [hgc16, hgM_t, hgM_f, hgM_n, hgx_iload_n_1, hgx_if_lt, hgx_aload_n_0, hgx_get0, hgx_ic_ge, hgx_iconst_1, hgx_goto, hgx_iconst_0, hgx_ret3, hgv16_0, hgr16_0, hgu16_0, hgv16_16, hgr16_16, hgu16_16, hgv16_17, hgr16_17, hgu16_17, hgI_SI, hgI_SJ, hgJ_SI, hgJ_SJ, if_true, if_false, reduceIte, Nat.reduceEqDiff, hgWf_SI, hgWf_SJ, hgO_SI, hgO_SJ, hgAr_SI, hgAr_SJ, hgRp_SI, hgRp_SJ, hgN_SI, hgN_SJ, hgO_g, hgO_d, hgO_rl, hgO_r, hgO_0, hgO_1, hgO_64, hgO_298, hgO_300, hgCd_0, hgCd_1, hgCd_2, hgCd_3, hgCd_4, hgCd_5, hgRecv_O, hgRecv_99, List.length_cons, List.length_nil, Nat.zero_add, Nat.add_zero, Nat.le_refl, Nat.zero_le, and_self, or_true, true_or, true_and, and_true, ne_eq, not_false_eq_true, Nat.reduceLT, Nat.reduceLeDiff, Nat.reduceAdd, Nat.reduceEqDiff, hgn_eq, hgn_lt, hgn_le, if_true, if_false, reduceIte, Nat.not_lt_zero, hw, hg, hgm1_lt]
theorem hgk_17 (hw : hgWf M) (hg : hgGw g) (hd : hgI M g 6 = nI n) (hn : n ≤ 10) (ho : ∀ i, o = some i → i < n) : hgWC X 17 [.ref g, .int (hgOi o)] M = some (.inl (.int (hgGp M g o)), M) := by
  cases o with
  | none => simp (maxDischargeDepth := 7) only [hgOi, hgGp, hgc17, hgM_t, hgM_f, hgM_n, hgx_aload_n_0, hgx_iload_n_1, hgx_invvirtual_2, hgx_aft_e, hgx_aft_i, hgx_aft_l, hgx_aft_v, hgx_if_eq, hgs_get_1_5, hgx_get0, hgx_goto, hgx_iconst_3, hgx_ret1, hgv17_0, hgr17_0, hgu17_0, hgv17_20, hgr17_20, hgu17_20, hgv17_21, hgr17_21, hgu17_21, hgI_SI, hgI_SJ, hgJ_SI, hgJ_SJ, if_true, if_false, reduceIte, Nat.reduceEqDiff, hgWf_SI, hgWf_SJ, hgO_SI, hgO_SJ, hgAr_SI, hgAr_SJ, hgRp_SI, hgRp_SJ, hgN_SI, hgN_SJ, hgO_g, hgO_d, hgO_rl, hgO_r, hgO_0, hgO_1, hgO_64, hgO_298, hgO_300, hgCd_0, hgCd_1, hgCd_2, hgCd_3, hgCd_4, hgCd_5, hgRecv_O, hgRecv_99, List.length_cons, List.length_nil, Nat.zero_add, Nat.add_zero, Nat.le_refl, Nat.zero_le, and_self, or_true, true_or, true_and, and_true, ne_eq, not_false_eq_true, Nat.reduceLT, Nat.reduceLeDiff, Nat.reduceAdd, Nat.reduceEqDiff, hgn_eq, hgn_lt, hgn_le, if_true, if_false, reduceIte, Nat.not_lt_zero, hw, hg, hgk_16n hw hg]
  | some i =>
    have hi := ho i rfl
    have h4 : i < 10 := by omega
    simp (maxDischargeDepth := 7) only [hgOi, hgGp, hgc17, hgM_t, hgM_f, hgM_n, hgx_aload_n_0, hgx_iload_n_1, hgx_invvirtual_2, hgx_aft_e, hgx_aft_i, hgx_aft_l, hgx_aft_v, hgx_if_eq, hgs_get_1_5, hgx_get0, hgx_goto, hgx_iconst_3, hgx_ret1, hgv17_0, hgr17_0, hgu17_0, hgv17_20, hgr17_20, hgu17_20, hgv17_21, hgr17_21, hgu17_21, hgI_SI, hgI_SJ, hgJ_SI, hgJ_SJ, if_true, if_false, reduceIte, Nat.reduceEqDiff, hgWf_SI, hgWf_SJ, hgO_SI, hgO_SJ, hgAr_SI, hgAr_SJ, hgRp_SI, hgRp_SJ, hgN_SI, hgN_SJ, hgO_g, hgO_d, hgO_rl, hgO_r, hgO_0, hgO_1, hgO_64, hgO_298, hgO_300, hgCd_0, hgCd_1, hgCd_2, hgCd_3, hgCd_4, hgCd_5, hgRecv_O, hgRecv_99, List.length_cons, List.length_nil, Nat.zero_add, Nat.add_zero, Nat.le_refl, Nat.zero_le, and_self, or_true, true_or, true_and, and_true, ne_eq, not_false_eq_true, Nat.reduceLT, Nat.reduceLeDiff, Nat.reduceAdd, Nat.reduceEqDiff, hgn_eq, hgn_lt, hgn_le, if_true, if_false, reduceIte, Nat.not_lt_zero, hgs_aa_d, hgs_aa_r, hgs_aa_h, hgs_aa_m, hgs_aa_t, hgs_ld_wp, hgs_st_wp, hgs_ld_qf, hgs_st_qf, hgs_ld_qt, hgs_st_qt, hgs_ld_2, hgs_st_2, hgs_ld_3, hgs_st_3, hgs_ld_4, hgs_st_4, hgs_ld_301, hgs_st_301, hgs_ld_D, hgs_st_D, hgs_ld_s, hgs_ld_T, hgs_st_T, hgs_ld_o, hgs_st_o, hgs_ld_b, hgs_st_b, hgs_ld_z, hgs_st_z, hgs_al_b, hgx_alen_s, hw, hg, h4, hgk_16s hw hg hd hn hi]
theorem hgk_18 (hw : hgWf M) (hg : hgGw g) (hd : hgI M g 6 = nI n) (hn : n ≤ 10) (ho : ∀ i, o = some i → i < n) (hi : i < n) : hgWC X 18 [.ref g, .int (hgOi o), .int (nI i)] M = some (.inl (.int (hgB (hgIso M g o i))), M) := by
  have k1 := hgk_17 (X := X) hw hg hd hn ho
  have k2 : hgWC X 17 [.ref g, .int (nI i)] M = some (.inl (.int (hgGp M g (some i))), M) := hgk_17 (o := some i) hw hg hd hn (fun q h => by cases h; exact hi)
  have e := hgOi_eq (o := o) (i := i) (fun q h => by have := ho q h; omega) (by omega)
  simp (maxDischargeDepth := 7) only [hgc18, hgM_t, hgM_f, hgM_n, hgx_aload_n_0, hgx_iload_n_1, hgx_invvirtual_2, hgx_aft_e, hgx_aft_i, hgx_aft_l, hgx_aft_v, hgx_iconst_1, hgx_ic_eq, hgx_iconst_0, hgx_ret3, hgx_iload_n_2, hgx_istore_n_3i, hgx_istore_n_3r, hgx_istore_n_3f, hgx_istore_n_3n, hgx_istore_n_3l, hgx_iload_n_3, hgx_if_eq, hgx_ic_ne, hgx_goto, hgv18_0, hgr18_0, hgu18_0, hgv18_11, hgr18_11, hgu18_11, hgv18_31, hgr18_31, hgu18_31, hgv18_35, hgr18_35, hgu18_35, hgv18_36, hgr18_36, hgu18_36, hgI_SI, hgI_SJ, hgJ_SI, hgJ_SJ, if_true, if_false, reduceIte, Nat.reduceEqDiff, hgWf_SI, hgWf_SJ, hgO_SI, hgO_SJ, hgAr_SI, hgAr_SJ, hgRp_SI, hgRp_SJ, hgN_SI, hgN_SJ, hgO_g, hgO_d, hgO_rl, hgO_r, hgO_0, hgO_1, hgO_64, hgO_298, hgO_300, hgCd_0, hgCd_1, hgCd_2, hgCd_3, hgCd_4, hgCd_5, hgRecv_O, hgRecv_99, List.length_cons, List.length_nil, Nat.zero_add, Nat.add_zero, Nat.le_refl, Nat.zero_le, and_self, or_true, true_or, true_and, and_true, ne_eq, not_false_eq_true, Nat.reduceLT, Nat.reduceLeDiff, Nat.reduceAdd, Nat.reduceEqDiff, hgn_eq, hgn_lt, hgn_le, if_true, if_false, reduceIte, Nat.not_lt_zero, hw, hg, k1, k2, e]
  unfold hgIso
  by_cases h1 : hgGp M g o = nI 1 <;> by_cases h2 : hgGp M g (some i) = nI 0 <;> by_cases h3 : hgGp M g (some i) = nI 1 <;> by_cases h4 : o = some i <;> simp [h1, h2, h3, h4, hgB] <;> simp_all
theorem hgk_19 (hw : hgWf M) (hg : hgGw g) (hn : hgI M (g + 12) 1 = nI n) (hn2 : n ≤ 12) (hb : ∀ j, j < n → hgRf M g j 0 = nI 0 ∨ hgRf M g j 0 = nI 1) : hgWC X 19 [.ref g, .int x, .int y, .int z] M = some (.inl (.int (hgB (hgOp M g n x y z))), M) := by
  have k53 := hgk_53 (X := X) (x := x) (y := y) (z := z) hw hg hn hn2
  unfold hgOp
  cases hf : hgFind (hgMr M g x y z) 0 n with
  | none =>
    rw [hf] at k53
    simp (maxDischargeDepth := 7) only [hgc19, hgM_t, hgM_f, hgM_n, hgx_aload_n_0, hgs_get_1_7, hgx_iload_n_1, hgx_iload_n_2, hgx_iload_n_3, hgx_invvirtual_4, hgx_aft_e, hgx_aft_i, hgx_aft_l, hgx_aft_v, hgx_istore_4i, hgx_istore_4r, hgx_istore_4f, hgx_istore_4n, hgx_istore_4l, hgx_iload_4, hgx_if_ge, hgx_iconst_3, hgx_ic_eq, hgx_iconst_1, hgx_goto, hgx_iconst_0, hgx_invvirtual_2, hgx_ret3, hgv19_0, hgr19_0, hgu19_0, hgv19_26, hgr19_26, hgu19_26, hgv19_30, hgr19_30, hgu19_30, hgv19_39, hgr19_39, hgu19_39, hgI_SI, hgI_SJ, hgJ_SI, hgJ_SJ, if_true, if_false, reduceIte, Nat.reduceEqDiff, hgWf_SI, hgWf_SJ, hgO_SI, hgO_SJ, hgAr_SI, hgAr_SJ, hgRp_SI, hgRp_SJ, hgN_SI, hgN_SJ, hgO_g, hgO_d, hgO_rl, hgO_r, hgO_0, hgO_1, hgO_64, hgO_298, hgO_300, hgCd_0, hgCd_1, hgCd_2, hgCd_3, hgCd_4, hgCd_5, hgRecv_O, hgRecv_99, List.length_cons, List.length_nil, Nat.zero_add, Nat.add_zero, Nat.le_refl, Nat.zero_le, and_self, or_true, true_or, true_and, and_true, ne_eq, not_false_eq_true, Nat.reduceLT, Nat.reduceLeDiff, Nat.reduceAdd, Nat.reduceEqDiff, hgn_eq, hgn_lt, hgn_le, if_true, if_false, reduceIte, Nat.not_lt_zero, hw, hg, k53, hgOi, hgm1_lt, hgm1_le]
    by_cases h : x = nI 3 <;> simp [h, hgB]
  | some j =>
    rw [hf] at k53
    have hj : j < n := by have := hgFind_lt hf; omega
    have h1 : j < 2147483648 := by omega
    have k54 := hgk_54 (X := X) hw hg hn hn2 hj (hb j hj)
    simp (maxDischargeDepth := 7) only [hgc19, hgM_t, hgM_f, hgM_n, hgx_aload_n_0, hgs_get_1_7, hgx_iload_n_1, hgx_iload_n_2, hgx_iload_n_3, hgx_invvirtual_4, hgx_aft_e, hgx_aft_i, hgx_aft_l, hgx_aft_v, hgx_istore_4i, hgx_istore_4r, hgx_istore_4f, hgx_istore_4n, hgx_istore_4l, hgx_iload_4, hgx_if_ge, hgx_iconst_3, hgx_ic_eq, hgx_iconst_1, hgx_goto, hgx_iconst_0, hgx_invvirtual_2, hgx_ret3, hgv19_0, hgr19_0, hgu19_0, hgv19_26, hgr19_26, hgu19_26, hgv19_30, hgr19_30, hgu19_30, hgv19_39, hgr19_39, hgu19_39, hgI_SI, hgI_SJ, hgJ_SI, hgJ_SJ, if_true, if_false, reduceIte, Nat.reduceEqDiff, hgWf_SI, hgWf_SJ, hgO_SI, hgO_SJ, hgAr_SI, hgAr_SJ, hgRp_SI, hgRp_SJ, hgN_SI, hgN_SJ, hgO_g, hgO_d, hgO_rl, hgO_r, hgO_0, hgO_1, hgO_64, hgO_298, hgO_300, hgCd_0, hgCd_1, hgCd_2, hgCd_3, hgCd_4, hgCd_5, hgRecv_O, hgRecv_99, List.length_cons, List.length_nil, Nat.zero_add, Nat.add_zero, Nat.le_refl, Nat.zero_le, and_self, or_true, true_or, true_and, and_true, ne_eq, not_false_eq_true, Nat.reduceLT, Nat.reduceLeDiff, Nat.reduceAdd, Nat.reduceEqDiff, hgn_eq, hgn_lt, hgn_le, if_true, if_false, reduceIte, Nat.not_lt_zero, hw, hg, k53, hgOi, h1, k54, Nat.zero_le, hb j hj]
    rcases hb j hj with h | h <;> rw [h] <;> simp [hgB] <;> decide
theorem hgk_20 (hw : hgWf M) (hg : hgGw g) (hd : hgI M g 6 = nI m) (hm : m ≤ 10) (ho : ∀ i, o = some i → i < m) (hi : i < m) (hn : hgI M (g + 12) 1 = nI n) (hn2 : n ≤ 12) (hb : ∀ j, j < n → hgRf M g j 0 = nI 0 ∨ hgRf M g j 0 = nI 1) : hgWC X 20 [.ref g, .int (hgOi o), .int (nI i), .int z] M = some (.inl (.int (if hgIso M g o i = true then nI 2 else if hgOp M g n (hgGp M g o) (hgGp M g (some i)) z = true then nI 0 else nI 1)), M) := by
  have k1 := hgk_17 (X := X) hw hg hd hm ho
  have k2 : hgWC X 17 [.ref g, .int (nI i)] M = some (.inl (.int (hgGp M g (some i))), M) := hgk_17 (o := some i) hw hg hd hm (fun q h => by cases h; exact hi)
  have k18 := hgk_18 (X := X) hw hg hd hm ho hi
  have k19 := fun x y => hgk_19 (X := X) (x := x) (y := y) (z := z) hw hg hn hn2 hb
  simp (maxDischargeDepth := 7) only [hgc20, hgM_t, hgM_f, hgM_n, hgx_aload_n_0, hgx_iload_n_1, hgx_iload_n_2, hgx_invvirtual_3, hgx_aft_e, hgx_aft_i, hgx_aft_l, hgx_aft_v, hgx_if_eq, hgx_iconst_2, hgx_ret1, hgx_invvirtual_2, hgx_iload_n_3, hgx_invvirtual_4, hgx_iconst_0, hgx_goto, hgx_iconst_1, hgv20_0, hgr20_0, hgu20_0, hgv20_11, hgr20_11, hgu20_11, hgv20_33, hgr20_33, hgu20_33, hgv20_34, hgr20_34, hgu20_34, hgI_SI, hgI_SJ, hgJ_SI, hgJ_SJ, if_true, if_false, reduceIte, Nat.reduceEqDiff, hgWf_SI, hgWf_SJ, hgO_SI, hgO_SJ, hgAr_SI, hgAr_SJ, hgRp_SI, hgRp_SJ, hgN_SI, hgN_SJ, hgO_g, hgO_d, hgO_rl, hgO_r, hgO_0, hgO_1, hgO_64, hgO_298, hgO_300, hgCd_0, hgCd_1, hgCd_2, hgCd_3, hgCd_4, hgCd_5, hgRecv_O, hgRecv_99, List.length_cons, List.length_nil, Nat.zero_add, Nat.add_zero, Nat.le_refl, Nat.zero_le, and_self, or_true, true_or, true_and, and_true, ne_eq, not_false_eq_true, Nat.reduceLT, Nat.reduceLeDiff, Nat.reduceAdd, Nat.reduceEqDiff, hgn_eq, hgn_lt, hgn_le, if_true, if_false, reduceIte, Nat.not_lt_zero, hw, hg, k1, k2, k18, k19, hgB_0]
  cases hgIso M g o i <;> cases hgOp M g n (hgGp M g o) (hgGp M g (some i)) z <;> rfl
theorem hgk_15 (hw : hgWf M) (hg : hgGw g) (hq : q < 3) : hgWC X 15 [.ref g, .int (nI q)] M = some (.inl (.int (hgB (hgQg M g q))), M) := by
  have h1 : q < 2147483648 := by omega
  have h2 : ¬ 3 ≤ q := by omega
  by_cases hd : nI 0 < hgI M g 3
  · have h3 : hgI M g 3 ≠ 0 := fun e => absurd hd (by rw [e]; decide)
    simp (maxDischargeDepth := 7) only [hgc15, hgM_t, hgM_f, hgM_n, hgx_iload_n_1, hgx_if_lt, hgx_iconst_3, hgx_ic_ge, hgx_aload_n_0, hgx_get0, hgx_if_gt, hgx_iconst_0, hgx_ret3, hgx_irem, hgx_istore_n_2i, hgx_istore_n_2r, hgx_istore_n_2f, hgx_istore_n_2n, hgx_istore_n_2l, hgs_get_1_10, hgx_istore_n_3i, hgx_istore_n_3r, hgx_istore_n_3f, hgx_istore_n_3n, hgx_istore_n_3l, hgs_get_1_11, hgx_istore_4i, hgx_istore_4r, hgx_istore_4f, hgx_istore_4n, hgx_istore_4l, hgx_iload_4, hgx_iload_n_3, hgx_iload_n_2, hgx_iconst_1, hgx_goto, hgx_ic_gt, hgv15_0, hgr15_0, hgu15_0, hgv15_16, hgr15_16, hgu15_16, hgv15_18, hgr15_18, hgu15_18, hgv15_60, hgr15_60, hgu15_60, hgv15_64, hgr15_64, hgu15_64, hgv15_65, hgr15_65, hgu15_65, hgv15_66, hgr15_66, hgu15_66, hgv15_81, hgr15_81, hgu15_81, hgv15_82, hgr15_82, hgu15_82, hgI_SI, hgI_SJ, hgJ_SI, hgJ_SJ, if_true, if_false, reduceIte, Nat.reduceEqDiff, hgWf_SI, hgWf_SJ, hgO_SI, hgO_SJ, hgAr_SI, hgAr_SJ, hgRp_SI, hgRp_SJ, hgN_SI, hgN_SJ, hgO_g, hgO_d, hgO_rl, hgO_r, hgO_0, hgO_1, hgO_64, hgO_298, hgO_300, hgCd_0, hgCd_1, hgCd_2, hgCd_3, hgCd_4, hgCd_5, hgRecv_O, hgRecv_99, List.length_cons, List.length_nil, Nat.zero_add, Nat.add_zero, Nat.le_refl, Nat.zero_le, and_self, or_true, true_or, true_and, and_true, ne_eq, not_false_eq_true, Nat.reduceLT, Nat.reduceLeDiff, Nat.reduceAdd, Nat.reduceEqDiff, hgn_eq, hgn_lt, hgn_le, if_true, if_false, reduceIte, Nat.not_lt_zero, hgs_aa_d, hgs_aa_r, hgs_aa_h, hgs_aa_m, hgs_aa_t, hgs_ld_wp, hgs_st_wp, hgs_ld_qf, hgs_st_qf, hgs_ld_qt, hgs_st_qt, hgs_ld_2, hgs_st_2, hgs_ld_3, hgs_st_3, hgs_ld_4, hgs_st_4, hgs_ld_301, hgs_st_301, hgs_ld_D, hgs_st_D, hgs_ld_s, hgs_ld_T, hgs_st_T, hgs_ld_o, hgs_st_o, hgs_ld_b, hgs_st_b, hgs_ld_z, hgs_st_z, hgs_al_b, hgx_alen_s, hw, hg, h1, h2, hq, hd, h3, hgQg, hgQh]
    simp only [← Int32.not_le]
    by_cases a1 : hgI M (g + 27) q ≤ hgI M (g + 28) q <;> by_cases a2 : hgI M (g + 27) q ≤ hgI M g 12 - hgI M g 12 / hgI M g 3 * hgI M g 3 <;> by_cases a3 : hgI M (g + 28) q ≤ hgI M g 12 - hgI M g 12 / hgI M g 3 * hgI M g 3 <;> simp [a1, a2, a3, hgB]
  · simp (maxDischargeDepth := 7) only [hgc15, hgM_t, hgM_f, hgM_n, hgx_iload_n_1, hgx_if_lt, hgx_iconst_3, hgx_ic_ge, hgx_aload_n_0, hgx_get0, hgx_if_gt, hgx_iconst_0, hgx_ret3, hgx_irem, hgx_istore_n_2i, hgx_istore_n_2r, hgx_istore_n_2f, hgx_istore_n_2n, hgx_istore_n_2l, hgs_get_1_10, hgx_istore_n_3i, hgx_istore_n_3r, hgx_istore_n_3f, hgx_istore_n_3n, hgx_istore_n_3l, hgs_get_1_11, hgx_istore_4i, hgx_istore_4r, hgx_istore_4f, hgx_istore_4n, hgx_istore_4l, hgx_iload_4, hgx_iload_n_3, hgx_iload_n_2, hgx_iconst_1, hgx_goto, hgx_ic_gt, hgv15_0, hgr15_0, hgu15_0, hgv15_16, hgr15_16, hgu15_16, hgv15_18, hgr15_18, hgu15_18, hgv15_60, hgr15_60, hgu15_60, hgv15_64, hgr15_64, hgu15_64, hgv15_65, hgr15_65, hgu15_65, hgv15_66, hgr15_66, hgu15_66, hgv15_81, hgr15_81, hgu15_81, hgv15_82, hgr15_82, hgu15_82, hgI_SI, hgI_SJ, hgJ_SI, hgJ_SJ, if_true, if_false, reduceIte, Nat.reduceEqDiff, hgWf_SI, hgWf_SJ, hgO_SI, hgO_SJ, hgAr_SI, hgAr_SJ, hgRp_SI, hgRp_SJ, hgN_SI, hgN_SJ, hgO_g, hgO_d, hgO_rl, hgO_r, hgO_0, hgO_1, hgO_64, hgO_298, hgO_300, hgCd_0, hgCd_1, hgCd_2, hgCd_3, hgCd_4, hgCd_5, hgRecv_O, hgRecv_99, List.length_cons, List.length_nil, Nat.zero_add, Nat.add_zero, Nat.le_refl, Nat.zero_le, and_self, or_true, true_or, true_and, and_true, ne_eq, not_false_eq_true, Nat.reduceLT, Nat.reduceLeDiff, Nat.reduceAdd, Nat.reduceEqDiff, hgn_eq, hgn_lt, hgn_le, if_true, if_false, reduceIte, Nat.not_lt_zero, hgs_aa_d, hgs_aa_r, hgs_aa_h, hgs_aa_m, hgs_aa_t, hgs_ld_wp, hgs_st_wp, hgs_ld_qf, hgs_st_qf, hgs_ld_qt, hgs_st_qt, hgs_ld_2, hgs_st_2, hgs_ld_3, hgs_st_3, hgs_ld_4, hgs_st_4, hgs_ld_301, hgs_st_301, hgs_ld_D, hgs_st_D, hgs_ld_s, hgs_ld_T, hgs_st_T, hgs_ld_o, hgs_st_o, hgs_ld_b, hgs_st_b, hgs_ld_z, hgs_st_z, hgs_al_b, hgx_alen_s, hw, hg, h1, h2, hq, hd, hgQg, hgQh, hgB_f]
theorem hgk_29 (hw : hgWf M) (hg : hgGw g) (hi : i < 10) (hq : q < 3) (hgr : hgI M (g + 2 + i) 0 = nI q) : hgWC X 29 [.ref g, .ref (g + 2 + i)] M = some (.inl (.int (hgB (hgCs M g i q))), M) := by
  have k15 := hgk_15 (X := X) hw hg hq
  simp (maxDischargeDepth := 7) only [hgc29, hgM_t, hgM_f, hgM_n, hgx_aload_n_1, hgx_get0, hgx_if_le, hgx_if_ne, hgx_aload_n_0, hgx_invvirtual_2, hgx_aft_e, hgx_aft_i, hgx_aft_l, hgx_aft_v, hgx_iconst_1, hgx_goto, hgx_iconst_0, hgx_ret3, hgv29_0, hgr29_0, hgu29_0, hgv29_29, hgr29_29, hgu29_29, hgv29_30, hgr29_30, hgu29_30, hgI_SI, hgI_SJ, hgJ_SI, hgJ_SJ, if_true, if_false, reduceIte, Nat.reduceEqDiff, hgWf_SI, hgWf_SJ, hgO_SI, hgO_SJ, hgAr_SI, hgAr_SJ, hgRp_SI, hgRp_SJ, hgN_SI, hgN_SJ, hgO_g, hgO_d, hgO_rl, hgO_r, hgO_0, hgO_1, hgO_64, hgO_298, hgO_300, hgCd_0, hgCd_1, hgCd_2, hgCd_3, hgCd_4, hgCd_5, hgRecv_O, hgRecv_99, List.length_cons, List.length_nil, Nat.zero_add, Nat.add_zero, Nat.le_refl, Nat.zero_le, and_self, or_true, true_or, true_and, and_true, ne_eq, not_false_eq_true, Nat.reduceLT, Nat.reduceLeDiff, Nat.reduceAdd, Nat.reduceEqDiff, hgn_eq, hgn_lt, hgn_le, if_true, if_false, reduceIte, Nat.not_lt_zero, hgs_aa_d, hgs_aa_r, hgs_aa_h, hgs_aa_m, hgs_aa_t, hgs_ld_wp, hgs_st_wp, hgs_ld_qf, hgs_st_qf, hgs_ld_qt, hgs_st_qt, hgs_ld_2, hgs_st_2, hgs_ld_3, hgs_st_3, hgs_ld_4, hgs_st_4, hgs_ld_301, hgs_st_301, hgs_ld_D, hgs_st_D, hgs_ld_s, hgs_ld_T, hgs_st_T, hgs_ld_o, hgs_st_o, hgs_ld_b, hgs_st_b, hgs_ld_z, hgs_st_z, hgs_al_b, hgx_alen_s, hw, hg, hi, hgr, k15, hgB_0]
  unfold hgCs
  by_cases a1 : nI 0 < hgI M (g + 2 + i) 12
  · have a2 : ¬ hgI M (g + 2 + i) 12 ≤ nI 0 := Int32.not_le.mpr a1
    by_cases a3 : hgI M (g + 2 + i) 4 = nI 0 <;> cases a4 : hgQg M g q <;> simp [a1, a2, a3, hgB]
  · have a2 : hgI M (g + 2 + i) 12 ≤ nI 0 := Int32.not_lt.mp a1
    simp [a1, a2, hgB]
/-- the best of k devices from i, by time, after b -/
def hgBest (f : Nat → Bool) (t : Nat → Int64) (b : Option Nat) : Nat → Nat → Option Nat
  | _, 0 => b
  | i, k + 1 => hgBest f t (if f i = true ∧ (∀ c, b = some c → t i < t c) then some i else b) (i + 1) k
/-- the device's group as a number -/
def hgGn (M : hgMem) (g i : Nat) : Nat := (hgI M (g + 2 + i) 0).toNatClampNeg
def hgCn (M : hgMem) (g i : Nat) : Bool := hgCs M g i (hgGn M g i)
theorem hglt_cmp (u v : Int64) : (lg_cmp u v < nI 0) = (u < v) := by
  unfold lg_cmp
  refine propext ⟨fun h => ?_, fun h => ?_⟩
  · split at h
    · exact absurd h (by decide)
    · split at h
      · exact absurd h (by decide)
      · next h1 h2 => exact Int64.lt_of_le_of_ne (Int64.not_lt.mp h1) h2
  · have h1 : ¬ u > v := fun q => absurd (Int64.lt_trans h q) (Int64.lt_irrefl)
    have h2 : ¬ u = v := fun q => by rw [q] at h; exact absurd h Int64.lt_irrefl
    rw [if_neg h1, if_neg h2]
    decide
theorem hgge_cmp (u v : Int64) : (nI 0 ≤ lg_cmp u v) = ¬ (u < v) := by
  rw [← hglt_cmp]
  exact propext Int32.not_lt.symm
theorem hgk_28l (hw : hgWf M) (hg : hgGw g) (hd : hgI M g 6 = nI n) (hn : n ≤ 10) (hgr : ∀ i, i < n → hgI M (g + 2 + i) 0 = nI (hgGn M g i) ∧ hgGn M g i < 3) : ∀ (k i : Nat) (b : Option Nat), i + k = n → (∀ c, b = some c → c < n) → hgW X 28 4 [some (.ref g), some (.int (hgOi b)), some (.int (nI i))] [] (0, 0) M = some (.inl (.int (hgOi (hgBest (hgCn M g) (fun i => hgJ M (g + 2 + i) 7) b i k))), M) := by
  intro k
  induction k with
  | zero =>
    intro i b hi hb
    have h1 : i < 2147483648 := by omega
    have h2 : n < 2147483648 := by omega
    have h3 : n ≤ i := by omega
    rw [hgu28_4]
    simp (maxDischargeDepth := 7) only [hgM_t, hgM_f, hgM_n, hgx_iconst_m1, hgx_istore_n_1i, hgx_istore_n_1r, hgx_istore_n_1f, hgx_istore_n_1n, hgx_istore_n_1l, hgx_iconst_0, hgx_istore_n_2i, hgx_istore_n_2r, hgx_istore_n_2f, hgx_istore_n_2n, hgx_istore_n_2l, hgx_iload_n_2, hgx_aload_n_0, hgx_get0, hgx_ic_ge, hgs_get_1_5, hgx_invvirtual_2, hgx_aft_e, hgx_aft_i, hgx_aft_l, hgx_aft_v, hgx_if_eq, hgx_iload_n_1, hgx_if_lt, hgx_get1, hgx_lcmp, hgx_if_ge, hgx_iinc_2_1, hgx_goto, hgx_ret1, hgv28_0, hgr28_0, hgu28_0, hgv28_4, hgr28_4, hgv28_51, hgr28_51, hgu28_51, hgv28_53, hgr28_53, hgu28_53, hgv28_59, hgr28_59, hgu28_59, hgI_SI, hgI_SJ, hgJ_SI, hgJ_SJ, if_true, if_false, reduceIte, Nat.reduceEqDiff, hgWf_SI, hgWf_SJ, hgO_SI, hgO_SJ, hgAr_SI, hgAr_SJ, hgRp_SI, hgRp_SJ, hgN_SI, hgN_SJ, hgO_g, hgO_d, hgO_rl, hgO_r, hgO_0, hgO_1, hgO_64, hgO_298, hgO_300, hgCd_0, hgCd_1, hgCd_2, hgCd_3, hgCd_4, hgCd_5, hgRecv_O, hgRecv_99, List.length_cons, List.length_nil, Nat.zero_add, Nat.add_zero, Nat.le_refl, Nat.zero_le, and_self, or_true, true_or, true_and, and_true, ne_eq, not_false_eq_true, Nat.reduceLT, Nat.reduceLeDiff, Nat.reduceAdd, Nat.reduceEqDiff, hgn_eq, hgn_lt, hgn_le, if_true, if_false, reduceIte, Nat.not_lt_zero, hw, hg, hd, h1, h2, h3, hgBest]
  | succ k ih =>
    intro i b hi hb
    have h1 : i < 2147483648 := by omega
    have h2 : n < 2147483648 := by omega
    have h3 : ¬ n ≤ i := by omega
    have h4 : i < 10 := by omega
    have k29 := hgk_29 (X := X) hw hg h4 (hgr i (by omega)).2 (hgr i (by omega)).1
    rw [hgu28_4]
    unfold hgBest
    cases hc : hgCs M g i (hgGn M g i) with
    | false =>
      have ih' := ih (i + 1) b (by omega) hb
      have e : (if hgCn M g i = true ∧ (∀ c, b = some c → hgJ M (g + 2 + i) 7 < hgJ M (g + 2 + c) 7) then some i else b) = b := if_neg (fun q => by rw [hgCn, hc] at q; cases q.1)
      rw [e]
      simp (maxDischargeDepth := 7) only [hgM_t, hgM_f, hgM_n, hgx_iconst_m1, hgx_istore_n_1i, hgx_istore_n_1r, hgx_istore_n_1f, hgx_istore_n_1n, hgx_istore_n_1l, hgx_iconst_0, hgx_istore_n_2i, hgx_istore_n_2r, hgx_istore_n_2f, hgx_istore_n_2n, hgx_istore_n_2l, hgx_iload_n_2, hgx_aload_n_0, hgx_get0, hgx_ic_ge, hgs_get_1_5, hgx_invvirtual_2, hgx_aft_e, hgx_aft_i, hgx_aft_l, hgx_aft_v, hgx_if_eq, hgx_iload_n_1, hgx_if_lt, hgx_get1, hgx_lcmp, hgx_if_ge, hgx_iinc_2_1, hgx_goto, hgx_ret1, hgv28_0, hgr28_0, hgu28_0, hgv28_4, hgr28_4, hgv28_51, hgr28_51, hgu28_51, hgv28_53, hgr28_53, hgu28_53, hgv28_59, hgr28_59, hgu28_59, hgI_SI, hgI_SJ, hgJ_SI, hgJ_SJ, if_true, if_false, reduceIte, Nat.reduceEqDiff, hgWf_SI, hgWf_SJ, hgO_SI, hgO_SJ, hgAr_SI, hgAr_SJ, hgRp_SI, hgRp_SJ, hgN_SI, hgN_SJ, hgO_g, hgO_d, hgO_rl, hgO_r, hgO_0, hgO_1, hgO_64, hgO_298, hgO_300, hgCd_0, hgCd_1, hgCd_2, hgCd_3, hgCd_4, hgCd_5, hgRecv_O, hgRecv_99, List.length_cons, List.length_nil, Nat.zero_add, Nat.add_zero, Nat.le_refl, Nat.zero_le, and_self, or_true, true_or, true_and, and_true, ne_eq, not_false_eq_true, Nat.reduceLT, Nat.reduceLeDiff, Nat.reduceAdd, Nat.reduceEqDiff, hgn_eq, hgn_lt, hgn_le, if_true, if_false, reduceIte, Nat.not_lt_zero, hgs_aa_d, hgs_aa_r, hgs_aa_h, hgs_aa_m, hgs_aa_t, hgs_ld_wp, hgs_st_wp, hgs_ld_qf, hgs_st_qf, hgs_ld_qt, hgs_st_qt, hgs_ld_2, hgs_st_2, hgs_ld_3, hgs_st_3, hgs_ld_4, hgs_st_4, hgs_ld_301, hgs_st_301, hgs_ld_D, hgs_st_D, hgs_ld_s, hgs_ld_T, hgs_st_T, hgs_ld_o, hgs_st_o, hgs_ld_b, hgs_st_b, hgs_ld_z, hgs_st_z, hgs_al_b, hgx_alen_s, hgn_add, hgn_mul, hw, hg, hd, h1, h2, h3, h4, k29, hc, hgB_f, ih']
    | true =>
      cases b with
      | none =>
        have ih' := ih (i + 1) (some i) (by omega) (fun c h => by cases h; omega)
        have e : (if hgCn M g i = true ∧ (∀ c, (none : Option Nat) = some c → hgJ M (g + 2 + i) 7 < hgJ M (g + 2 + c) 7) then some i else none) = some i := if_pos ⟨hc, fun c h => by cases h⟩
        rw [e]
        simp (maxDischargeDepth := 7) only [hgM_t, hgM_f, hgM_n, hgx_iconst_m1, hgx_istore_n_1i, hgx_istore_n_1r, hgx_istore_n_1f, hgx_istore_n_1n, hgx_istore_n_1l, hgx_iconst_0, hgx_istore_n_2i, hgx_istore_n_2r, hgx_istore_n_2f, hgx_istore_n_2n, hgx_istore_n_2l, hgx_iload_n_2, hgx_aload_n_0, hgx_get0, hgx_ic_ge, hgs_get_1_5, hgx_invvirtual_2, hgx_aft_e, hgx_aft_i, hgx_aft_l, hgx_aft_v, hgx_if_eq, hgx_iload_n_1, hgx_if_lt, hgx_get1, hgx_lcmp, hgx_if_ge, hgx_iinc_2_1, hgx_goto, hgx_ret1, hgv28_0, hgr28_0, hgu28_0, hgv28_4, hgr28_4, hgv28_51, hgr28_51, hgu28_51, hgv28_53, hgr28_53, hgu28_53, hgv28_59, hgr28_59, hgu28_59, hgI_SI, hgI_SJ, hgJ_SI, hgJ_SJ, if_true, if_false, reduceIte, Nat.reduceEqDiff, hgWf_SI, hgWf_SJ, hgO_SI, hgO_SJ, hgAr_SI, hgAr_SJ, hgRp_SI, hgRp_SJ, hgN_SI, hgN_SJ, hgO_g, hgO_d, hgO_rl, hgO_r, hgO_0, hgO_1, hgO_64, hgO_298, hgO_300, hgCd_0, hgCd_1, hgCd_2, hgCd_3, hgCd_4, hgCd_5, hgRecv_O, hgRecv_99, List.length_cons, List.length_nil, Nat.zero_add, Nat.add_zero, Nat.le_refl, Nat.zero_le, and_self, or_true, true_or, true_and, and_true, ne_eq, not_false_eq_true, Nat.reduceLT, Nat.reduceLeDiff, Nat.reduceAdd, Nat.reduceEqDiff, hgn_eq, hgn_lt, hgn_le, if_true, if_false, reduceIte, Nat.not_lt_zero, hgs_aa_d, hgs_aa_r, hgs_aa_h, hgs_aa_m, hgs_aa_t, hgs_ld_wp, hgs_st_wp, hgs_ld_qf, hgs_st_qf, hgs_ld_qt, hgs_st_qt, hgs_ld_2, hgs_st_2, hgs_ld_3, hgs_st_3, hgs_ld_4, hgs_st_4, hgs_ld_301, hgs_st_301, hgs_ld_D, hgs_st_D, hgs_ld_s, hgs_ld_T, hgs_st_T, hgs_ld_o, hgs_st_o, hgs_ld_b, hgs_st_b, hgs_ld_z, hgs_st_z, hgs_al_b, hgx_alen_s, hgn_add, hgn_mul, hw, hg, hd, h1, h2, h3, h4, k29, hc, hgB_t, hgOi, hgm1_lt]
        exact ih'
      | some c =>
        have hcn := hb c rfl
        have h5 : c < 2147483648 := by omega
        have h6 : c < 10 := by omega
        by_cases ht : hgJ M (g + 2 + i) 7 < hgJ M (g + 2 + c) 7
        · have ih' := ih (i + 1) (some i) (by omega) (fun c h => by cases h; omega)
          have e : (if hgCn M g i = true ∧ (∀ c9, some c = some c9 → hgJ M (g + 2 + i) 7 < hgJ M (g + 2 + c9) 7) then some i else some c) = some i := if_pos ⟨hc, fun c9 h => by cases h; exact ht⟩
          rw [e]
          simp (maxDischargeDepth := 7) only [hgM_t, hgM_f, hgM_n, hgx_iconst_m1, hgx_istore_n_1i, hgx_istore_n_1r, hgx_istore_n_1f, hgx_istore_n_1n, hgx_istore_n_1l, hgx_iconst_0, hgx_istore_n_2i, hgx_istore_n_2r, hgx_istore_n_2f, hgx_istore_n_2n, hgx_istore_n_2l, hgx_iload_n_2, hgx_aload_n_0, hgx_get0, hgx_ic_ge, hgs_get_1_5, hgx_invvirtual_2, hgx_aft_e, hgx_aft_i, hgx_aft_l, hgx_aft_v, hgx_if_eq, hgx_iload_n_1, hgx_if_lt, hgx_get1, hgx_lcmp, hgx_if_ge, hgx_iinc_2_1, hgx_goto, hgx_ret1, hgv28_0, hgr28_0, hgu28_0, hgv28_4, hgr28_4, hgv28_51, hgr28_51, hgu28_51, hgv28_53, hgr28_53, hgu28_53, hgv28_59, hgr28_59, hgu28_59, hgI_SI, hgI_SJ, hgJ_SI, hgJ_SJ, if_true, if_false, reduceIte, Nat.reduceEqDiff, hgWf_SI, hgWf_SJ, hgO_SI, hgO_SJ, hgAr_SI, hgAr_SJ, hgRp_SI, hgRp_SJ, hgN_SI, hgN_SJ, hgO_g, hgO_d, hgO_rl, hgO_r, hgO_0, hgO_1, hgO_64, hgO_298, hgO_300, hgCd_0, hgCd_1, hgCd_2, hgCd_3, hgCd_4, hgCd_5, hgRecv_O, hgRecv_99, List.length_cons, List.length_nil, Nat.zero_add, Nat.add_zero, Nat.le_refl, Nat.zero_le, and_self, or_true, true_or, true_and, and_true, ne_eq, not_false_eq_true, Nat.reduceLT, Nat.reduceLeDiff, Nat.reduceAdd, Nat.reduceEqDiff, hgn_eq, hgn_lt, hgn_le, if_true, if_false, reduceIte, Nat.not_lt_zero, hgs_aa_d, hgs_aa_r, hgs_aa_h, hgs_aa_m, hgs_aa_t, hgs_ld_wp, hgs_st_wp, hgs_ld_qf, hgs_st_qf, hgs_ld_qt, hgs_st_qt, hgs_ld_2, hgs_st_2, hgs_ld_3, hgs_st_3, hgs_ld_4, hgs_st_4, hgs_ld_301, hgs_st_301, hgs_ld_D, hgs_st_D, hgs_ld_s, hgs_ld_T, hgs_st_T, hgs_ld_o, hgs_st_o, hgs_ld_b, hgs_st_b, hgs_ld_z, hgs_st_z, hgs_al_b, hgx_alen_s, hgn_add, hgn_mul, hw, hg, hd, h1, h2, h3, h4, k29, hc, hgB_t, hgOi, h5, h6, hglt_cmp, hgge_cmp, ht, not_true]
          exact ih'
        · have ih' := ih (i + 1) (some c) (by omega) (fun c h => by cases h; omega)
          have e : (if hgCn M g i = true ∧ (∀ c9, some c = some c9 → hgJ M (g + 2 + i) 7 < hgJ M (g + 2 + c9) 7) then some i else some c) = some c := if_neg (fun q => ht (q.2 c rfl))
          rw [e]
          simp (maxDischargeDepth := 7) only [hgM_t, hgM_f, hgM_n, hgx_iconst_m1, hgx_istore_n_1i, hgx_istore_n_1r, hgx_istore_n_1f, hgx_istore_n_1n, hgx_istore_n_1l, hgx_iconst_0, hgx_istore_n_2i, hgx_istore_n_2r, hgx_istore_n_2f, hgx_istore_n_2n, hgx_istore_n_2l, hgx_iload_n_2, hgx_aload_n_0, hgx_get0, hgx_ic_ge, hgs_get_1_5, hgx_invvirtual_2, hgx_aft_e, hgx_aft_i, hgx_aft_l, hgx_aft_v, hgx_if_eq, hgx_iload_n_1, hgx_if_lt, hgx_get1, hgx_lcmp, hgx_if_ge, hgx_iinc_2_1, hgx_goto, hgx_ret1, hgv28_0, hgr28_0, hgu28_0, hgv28_4, hgr28_4, hgv28_51, hgr28_51, hgu28_51, hgv28_53, hgr28_53, hgu28_53, hgv28_59, hgr28_59, hgu28_59, hgI_SI, hgI_SJ, hgJ_SI, hgJ_SJ, if_true, if_false, reduceIte, Nat.reduceEqDiff, hgWf_SI, hgWf_SJ, hgO_SI, hgO_SJ, hgAr_SI, hgAr_SJ, hgRp_SI, hgRp_SJ, hgN_SI, hgN_SJ, hgO_g, hgO_d, hgO_rl, hgO_r, hgO_0, hgO_1, hgO_64, hgO_298, hgO_300, hgCd_0, hgCd_1, hgCd_2, hgCd_3, hgCd_4, hgCd_5, hgRecv_O, hgRecv_99, List.length_cons, List.length_nil, Nat.zero_add, Nat.add_zero, Nat.le_refl, Nat.zero_le, and_self, or_true, true_or, true_and, and_true, ne_eq, not_false_eq_true, Nat.reduceLT, Nat.reduceLeDiff, Nat.reduceAdd, Nat.reduceEqDiff, hgn_eq, hgn_lt, hgn_le, if_true, if_false, reduceIte, Nat.not_lt_zero, hgs_aa_d, hgs_aa_r, hgs_aa_h, hgs_aa_m, hgs_aa_t, hgs_ld_wp, hgs_st_wp, hgs_ld_qf, hgs_st_qf, hgs_ld_qt, hgs_st_qt, hgs_ld_2, hgs_st_2, hgs_ld_3, hgs_st_3, hgs_ld_4, hgs_st_4, hgs_ld_301, hgs_st_301, hgs_ld_D, hgs_st_D, hgs_ld_s, hgs_ld_T, hgs_st_T, hgs_ld_o, hgs_st_o, hgs_ld_b, hgs_st_b, hgs_ld_z, hgs_st_z, hgs_al_b, hgx_alen_s, hgn_add, hgn_mul, hw, hg, hd, h1, h2, h3, h4, k29, hc, hgB_t, hgOi, h5, h6, hglt_cmp, hgge_cmp, ht, not_false_eq_true]
          exact ih'
theorem hgk_28 (hw : hgWf M) (hg : hgGw g) (hd : hgI M g 6 = nI n) (hn : n ≤ 10) (hgr : ∀ i, i < n → hgI M (g + 2 + i) 0 = nI (hgGn M g i) ∧ hgGn M g i < 3) : hgWC X 28 [.ref g] M = some (.inl (.int (hgOi (hgBest (hgCn M g) (fun i => hgJ M (g + 2 + i) 7) none 0 n))), M) := by
  have k := hgk_28l (X := X) hw hg hd hn hgr n 0 none (by omega) (fun c h => by cases h)
  simp (maxDischargeDepth := 7) only [hgc28, hgM_t, hgM_f, hgM_n, hgx_iconst_m1, hgx_istore_n_1i, hgx_istore_n_1r, hgx_istore_n_1f, hgx_istore_n_1n, hgx_istore_n_1l, hgx_iconst_0, hgx_istore_n_2i, hgx_istore_n_2r, hgx_istore_n_2f, hgx_istore_n_2n, hgx_istore_n_2l, hgx_iload_n_2, hgx_aload_n_0, hgx_get0, hgx_ic_ge, hgs_get_1_5, hgx_invvirtual_2, hgx_aft_e, hgx_aft_i, hgx_aft_l, hgx_aft_v, hgx_if_eq, hgx_iload_n_1, hgx_if_lt, hgx_get1, hgx_lcmp, hgx_if_ge, hgx_iinc_2_1, hgx_goto, hgx_ret1, hgv28_0, hgr28_0, hgu28_0, hgv28_4, ← hgu28_4, hgv28_51, hgr28_51, hgu28_51, hgv28_53, hgr28_53, hgu28_53, hgv28_59, hgr28_59, hgu28_59, hgI_SI, hgI_SJ, hgJ_SI, hgJ_SJ, if_true, if_false, reduceIte, Nat.reduceEqDiff, hgWf_SI, hgWf_SJ, hgO_SI, hgO_SJ, hgAr_SI, hgAr_SJ, hgRp_SI, hgRp_SJ, hgN_SI, hgN_SJ, hgO_g, hgO_d, hgO_rl, hgO_r, hgO_0, hgO_1, hgO_64, hgO_298, hgO_300, hgCd_0, hgCd_1, hgCd_2, hgCd_3, hgCd_4, hgCd_5, hgRecv_O, hgRecv_99, List.length_cons, List.length_nil, Nat.zero_add, Nat.add_zero, Nat.le_refl, Nat.zero_le, and_self, or_true, true_or, true_and, and_true, ne_eq, not_false_eq_true, Nat.reduceLT, Nat.reduceLeDiff, Nat.reduceAdd, Nat.reduceEqDiff, hgn_eq, hgn_lt, hgn_le, if_true, if_false, reduceIte, Nat.not_lt_zero]
  exact k
end HGGAT

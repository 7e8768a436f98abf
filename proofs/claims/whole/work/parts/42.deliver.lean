/-! ONE PACKET IS DELIVERED. -/
/-- k places from i on of d take what lies two behind -/
def hgShf (d : Nat) : Nat → Nat → hgMem → hgMem
  | _, 0, M => M
  | i, k + 1, M => hgShf d (i + 1) k (hgSI M d i (hgI M d (i + 2)))
theorem hgShf_I {d : Nat} : ∀ (k i : Nat) (M : hgMem) (b j : Nat), hgI (hgShf d i k M) b j = if b = d ∧ i ≤ j ∧ j < i + k then hgI M d (j + 2) else hgI M b j
  | 0, i, M, b, j => by rw [if_neg (by omega)]; rfl
  | k + 1, i, M, b, j => by
    show hgI (hgShf d (i + 1) k (hgSI M d i (hgI M d (i + 2)))) b j = _
    rw [hgShf_I k (i + 1)]
    by_cases h1 : b = d ∧ i + 1 ≤ j ∧ j < i + 1 + k
    · rw [if_pos h1, if_pos (by omega), hgI_nk (by omega)]
    · rw [if_neg h1]
      by_cases h2 : b = d ∧ i ≤ j ∧ j < i + (k + 1)
      · have : j = i := by omega
        rw [if_pos h2, h2.1, this, hgI_at]
      · rw [if_neg h2]
        by_cases h3 : b = d
        · exact hgI_nk (by omega)
        · exact hgI_na h3
theorem hgShf_lo {d k i : Nat} {M : hgMem} {b j : Nat} (h : j < i) : hgI (hgShf d i k M) b j = hgI M b j := by
  rw [hgShf_I, if_neg (by omega)]
theorem hgShf_J {d : Nat} : ∀ (k i : Nat) (M : hgMem) (b j : Nat), hgJ (hgShf d i k M) b j = hgJ M b j
  | 0, i, M, b, j => rfl
  | k + 1, i, M, b, j => (hgShf_J k (i + 1) _ b j).trans rfl
theorem hgShf_R {d : Nat} : ∀ (k i : Nat) (M : hgMem) (b j : Nat), hgR (hgShf d i k M) b j = hgR M b j
  | 0, i, M, b, j => rfl
  | k + 1, i, M, b, j => (hgShf_R k (i + 1) _ b j).trans rfl
theorem hgShf_N {d : Nat} : ∀ (k i : Nat) (M : hgMem), (hgShf d i k M).1 = M.1
  | 0, i, M => rfl
  | k + 1, i, M => (hgShf_N k (i + 1) _).trans rfl
section HGDLV
variable {X : hgX} {M : hgMem} {d t g i j q n : Nat} {V : hgV} {o : Option Nat} {s r p x y z : Int32}
/-- what the reference's deliver leaves: n packets stay -/
def hgDl (M : hgMem) (d t i n : Nat) : hgMem :=
  hgSI (hgSJ (hgShf d (187 + 2 * (1000 * i)) (2 * n) (hgSI (hgSI M d (27 + 10 * i + 8) (if hgI M d (27 + 10 * i + 8) ≤ hgI M d 3 - hgI M d (187 + 2 * (1000 * i) + 1) then hgI M d 3 - hgI M d (187 + 2 * (1000 * i) + 1) else hgI M d (27 + 10 * i + 8))) d (27 + 10 * i + 9) (nI n))) t i (hgJ M t i + (nI 2520 * hgI M d (187 + 2 * (1000 * i)) / hgI M d (27 + 10 * i + 1)).toInt64)) d (27 + 10 * i + 7) (hgI M d (27 + 10 * i + 7) + hgI M d (187 + 2 * (1000 * i)))
theorem hgk_163l (hd2 : d ≠ 2000) (hj : i < 10) (hn2 : n ≤ 999) : ∀ (k m : Nat) (M : hgMem), hgAr M d 20 20187 → hgI M d (27 + 10 * i + 9) = nI n → m + k = 187 + 2 * (1000 * i + n) → 187 ≤ m → hgW X 163 59 [some (.ref d), some (.ref t), some (.int (nI i)), some (.int (nI (27 + 10 * i))), some (.int s), some (.int (nI m))] [] (0, 0) M = hgW X 163 90 [some (.ref d), some (.ref t), some (.int (nI i)), some (.int (nI (27 + 10 * i))), some (.int s), none] [] (0, 0) (hgShf d m k M) := by
  intro k
  have h0 : 27 + 10 * i + 9 < 20187 := by omega
  have h5 : 187 + 2 * (1000 * i + n) < 2147483648 := by omega
  induction k with
  | zero =>
    intro m M hD hn hi hm
    have h1 : m < 2147483648 := by omega
    have h3 : 187 + 2 * (1000 * i + n) ≤ m := by omega
    rw [hgu163_59]
    simp (maxDischargeDepth := 7) only [hgx_iload_5, hgx_iload_n_2, hgx_aload_n_0, hgx_iload_n_3, hgx_bipush_9, hgx_iadd, hgx_invstatic_2, hgx_aft_i, hgx_ic_ge, hgr163_59, hgv163_90, hgM_t, hgM_f, hgM_n, hgI_SI, hgI_SJ, hgJ_SI, hgJ_SJ, if_true, if_false, reduceIte, Nat.reduceEqDiff, hgWf_SI, hgWf_SJ, hgO_SI, hgO_SJ, hgAr_SI, hgAr_SJ, hgRp_SI, hgRp_SJ, hgN_SI, hgN_SJ, hgO_g, hgO_d, hgO_rl, hgO_r, hgO_0, hgO_1, hgO_64, hgO_298, hgO_300, hgCd_0, hgCd_1, hgCd_2, hgCd_3, hgCd_4, hgCd_5, hgRecv_O, hgRecv_99, List.length_cons, List.length_nil, Nat.zero_add, Nat.add_zero, Nat.le_refl, Nat.zero_le, and_self, or_true, true_or, true_and, and_true, ne_eq, not_false_eq_true, Nat.reduceLT, Nat.reduceLeDiff, Nat.reduceAdd, Nat.reduceEqDiff, hgn_eq, hgn_lt, hgn_le, if_true, if_false, reduceIte, Nat.not_lt_zero, hgs_aa_d, hgs_aa_r, hgs_aa_h, hgs_aa_m, hgs_aa_t, hgs_ld_wp, hgs_st_wp, hgs_ld_qf, hgs_st_qf, hgs_ld_qt, hgs_st_qt, hgs_ld_2, hgs_st_2, hgs_ld_3, hgs_st_3, hgs_ld_4, hgs_st_4, hgs_ld_301, hgs_st_301, hgs_ld_D, hgs_st_D, hgs_ld_s, hgs_ld_T, hgs_st_T, hgs_ld_o, hgs_st_o, hgs_ld_b, hgs_st_b, hgs_ld_z, hgs_st_z, hgs_al_b, hgx_alen_s, hgn_add, hgn_mul, hD, hd2, h0, hn, h1, h3, h5, hgShf, hgk_130]
  | succ k ih =>
    intro m M hD hn hi hm
    have h1 : m < 2147483648 := by omega
    have h3 : ¬ 187 + 2 * (1000 * i + n) ≤ m := by omega
    have h4 : m < 20187 := by omega
    have h6 : m + 2 < 20187 := by omega
    have h7 : 27 + 10 * i + 9 ≠ m := by omega
    have ih' := ih (m + 1) (hgSI M d m (hgI M d (m + 2))) hD (by rw [hgI_nk h7]; exact hn) (by omega) (by omega)
    rw [hgu163_59]
    simp (maxDischargeDepth := 7) only [hgM_t, hgM_f, hgM_n, hgx_iload_n_2, hgx_invstatic_1, hgx_aft_e, hgx_aft_i, hgx_aft_l, hgx_aft_v, hgx_istore_n_3i, hgx_istore_n_3r, hgx_istore_n_3f, hgx_istore_n_3n, hgx_istore_n_3l, hgx_aload_n_0, hgx_iconst_0, hgx_invstatic_2, hgx_istore_4i, hgx_istore_4r, hgx_istore_4f, hgx_istore_4n, hgx_istore_4l, hgx_iload_n_3, hgx_bipush_8, hgx_iadd, hgx_iconst_3, hgx_iconst_1, hgx_isub, hgx_bipush_9, hgx_dup2, hgx_istore_5i, hgx_istore_5r, hgx_istore_5f, hgx_istore_5n, hgx_istore_5l, hgx_iload_5, hgx_ic_ge, hgx_iconst_2, hgx_iinc_5_1, hgx_goto, hgx_aload_n_1, hgx_sipush_2520, hgx_iload_4, hgx_imul, hgx_idiv, hgx_i2l, hgx_ladd, hgx_bipush_7, hgx_vret, hgv163_0, hgr163_0, hgu163_0, hgv163_59, hgr163_59, hgv163_90, hgr163_90, hgu163_90, hgI_SI, hgI_SJ, hgJ_SI, hgJ_SJ, if_true, if_false, reduceIte, Nat.reduceEqDiff, hgWf_SI, hgWf_SJ, hgO_SI, hgO_SJ, hgAr_SI, hgAr_SJ, hgRp_SI, hgRp_SJ, hgN_SI, hgN_SJ, hgO_g, hgO_d, hgO_rl, hgO_r, hgO_0, hgO_1, hgO_64, hgO_298, hgO_300, hgCd_0, hgCd_1, hgCd_2, hgCd_3, hgCd_4, hgCd_5, hgRecv_O, hgRecv_99, List.length_cons, List.length_nil, Nat.zero_add, Nat.add_zero, Nat.le_refl, Nat.zero_le, and_self, or_true, true_or, true_and, and_true, ne_eq, not_false_eq_true, Nat.reduceLT, Nat.reduceLeDiff, Nat.reduceAdd, Nat.reduceEqDiff, hgn_eq, hgn_lt, hgn_le, if_true, if_false, reduceIte, Nat.not_lt_zero, hgs_aa_d, hgs_aa_r, hgs_aa_h, hgs_aa_m, hgs_aa_t, hgs_ld_wp, hgs_st_wp, hgs_ld_qf, hgs_st_qf, hgs_ld_qt, hgs_st_qt, hgs_ld_2, hgs_st_2, hgs_ld_3, hgs_st_3, hgs_ld_4, hgs_st_4, hgs_ld_301, hgs_st_301, hgs_ld_D, hgs_st_D, hgs_ld_s, hgs_ld_T, hgs_st_T, hgs_ld_o, hgs_st_o, hgs_ld_b, hgs_st_b, hgs_ld_z, hgs_st_z, hgs_al_b, hgx_alen_s, hgn_add, hgn_mul, hD, hd2, h0, hn, h1, h3, h4, h5, h6, hgShf, hgk_130, ih']
theorem hgk_163 (hD : hgAr M d 20 20187) (hd2 : d ≠ 2000) (hT : hgAr M t 21 10) (hj : i < 10) (hn2 : n ≤ 999) (hn : hgI M d (27 + 10 * i + 9) = nI (n + 1)) (hwt : hgI M d (27 + 10 * i + 1) ≠ 0) : hgWC X 163 [.ref d, .ref t, .int (nI i)] M = some (.inl .null, hgDl M d t i n) := by
  have b1 : 27 + 10 * i + 8 < 20187 := by omega
  have b2 : 27 + 10 * i + 9 < 20187 := by omega
  have b3 : 187 + 2 * (1000 * i) < 20187 := by omega
  have b4 : 187 + 2 * (1000 * i) + 1 < 20187 := by omega
  have b5 : 27 + 10 * i + 1 < 20187 := by omega
  have b6 : 27 + 10 * i + 7 < 20187 := by omega
  have c1 : ¬ 187 + 2 * (1000 * i) = 27 + 10 * i + 8 := by omega
  have c2 : ¬ 187 + 2 * (1000 * i) = 27 + 10 * i + 9 := by omega
  have c5 : 27 + 10 * i + 1 < 187 + 2 * (1000 * i) := by omega
  have c7 : ¬ 27 + 10 * i + 1 = 27 + 10 * i := by omega
  have c8 : ∀ k, ¬ 27 + 10 * i = 27 + 10 * i + (k + 1) := fun k => by omega
  have c81 := c8 0
  have c82 := c8 1
  have c87 := c8 6
  have c88 := c8 7
  have c6 : 27 + 10 * i + 7 < 187 + 2 * (1000 * i) := by omega
  have kl := fun (M : hgMem) (hD : hgAr M d 20 20187) (hn : hgI M d (27 + 10 * i + 9) = nI n) => hgk_163l (X := X) (t := t) (s := hgI M d (187 + 2 * (1000 * i))) hd2 hj hn2 (2 * n) (187 + 2 * (1000 * i)) M hD hn (by omega) (by omega)
  have kl2 := fun z => kl (hgSI (hgSI M d (27 + 10 * i + 8) z) d (27 + 10 * i + 9) (nI n)) hD hgI_at
  simp (maxDischargeDepth := 7) only [hgI_SI, hgI_SJ, hgJ_SI, hgJ_SJ, if_true, if_false, reduceIte, Nat.reduceEqDiff, hgWf_SI, hgWf_SJ, hgO_SI, hgO_SJ, hgAr_SI, hgAr_SJ, hgRp_SI, hgRp_SJ, hgN_SI, hgN_SJ, hgO_g, hgO_d, hgO_rl, hgO_r, hgO_0, hgO_1, hgO_64, hgO_298, hgO_300, hgCd_0, hgCd_1, hgCd_2, hgCd_3, hgCd_4, hgCd_5, hgRecv_O, hgRecv_99, List.length_cons, List.length_nil, Nat.zero_add, Nat.add_zero, Nat.le_refl, Nat.zero_le, and_self, or_true, true_or, true_and, and_true, ne_eq, not_false_eq_true, Nat.reduceLT, Nat.reduceLeDiff, Nat.reduceAdd, Nat.reduceEqDiff, hgn_eq, hgn_lt, hgn_le, if_true, if_false, reduceIte, Nat.not_lt_zero, c1, c2] at kl2
  have hS : ∀ z, hgAr (hgShf d (187 + 2 * (1000 * i)) (2 * n) (hgSI (hgSI M d (27 + 10 * i + 8) z) d (27 + 10 * i + 9) (nI n))) d 20 20187 ∧ hgAr (hgShf d (187 + 2 * (1000 * i)) (2 * n) (hgSI (hgSI M d (27 + 10 * i + 8) z) d (27 + 10 * i + 9) (nI n))) t 21 10 := fun z => ⟨hgAr_to hD (hgShf_N _ _ _), hgAr_to hT (hgShf_N _ _ _)⟩
  simp (maxDischargeDepth := 7) only [hgc163, hgM_t, hgM_f, hgM_n, hgx_iload_n_2, hgx_invstatic_1, hgx_aft_e, hgx_aft_i, hgx_aft_l, hgx_aft_v, hgx_istore_n_3i, hgx_istore_n_3r, hgx_istore_n_3f, hgx_istore_n_3n, hgx_istore_n_3l, hgx_aload_n_0, hgx_iconst_0, hgx_invstatic_2, hgx_istore_4i, hgx_istore_4r, hgx_istore_4f, hgx_istore_4n, hgx_istore_4l, hgx_iload_n_3, hgx_bipush_8, hgx_iadd, hgx_iconst_3, hgx_iconst_1, hgx_isub, hgx_bipush_9, hgx_dup2, hgx_istore_5i, hgx_istore_5r, hgx_istore_5f, hgx_istore_5n, hgx_istore_5l, hgx_iload_5, hgx_ic_ge, hgx_iconst_2, hgx_iinc_5_1, hgx_goto, hgx_aload_n_1, hgx_sipush_2520, hgx_iload_4, hgx_imul, hgx_idiv, hgx_i2l, hgx_ladd, hgx_bipush_7, hgx_vret, hgv163_0, hgr163_0, hgu163_0, hgv163_59, ← hgu163_59, hgv163_90, hgr163_90, hgu163_90, hgI_SI, hgI_SJ, hgJ_SI, hgJ_SJ, if_true, if_false, reduceIte, Nat.reduceEqDiff, hgWf_SI, hgWf_SJ, hgO_SI, hgO_SJ, hgAr_SI, hgAr_SJ, hgRp_SI, hgRp_SJ, hgN_SI, hgN_SJ, hgO_g, hgO_d, hgO_rl, hgO_r, hgO_0, hgO_1, hgO_64, hgO_298, hgO_300, hgCd_0, hgCd_1, hgCd_2, hgCd_3, hgCd_4, hgCd_5, hgRecv_O, hgRecv_99, List.length_cons, List.length_nil, Nat.zero_add, Nat.add_zero, Nat.le_refl, Nat.zero_le, and_self, or_true, true_or, true_and, and_true, ne_eq, not_false_eq_true, Nat.reduceLT, Nat.reduceLeDiff, Nat.reduceAdd, Nat.reduceEqDiff, hgn_eq, hgn_lt, hgn_le, if_true, if_false, reduceIte, Nat.not_lt_zero, hgs_aa_d, hgs_aa_r, hgs_aa_h, hgs_aa_m, hgs_aa_t, hgs_ld_wp, hgs_st_wp, hgs_ld_qf, hgs_st_qf, hgs_ld_qt, hgs_st_qt, hgs_ld_2, hgs_st_2, hgs_ld_3, hgs_st_3, hgs_ld_4, hgs_st_4, hgs_ld_301, hgs_st_301, hgs_ld_D, hgs_st_D, hgs_ld_s, hgs_ld_T, hgs_st_T, hgs_ld_o, hgs_st_o, hgs_ld_b, hgs_st_b, hgs_ld_z, hgs_st_z, hgs_al_b, hgx_alen_s, hgn_add, hgn_mul, hD, hd2, hT, hj, hn, hgk_128, hgk_130, hgk_126, b1, b2, b3, b4, b5, b6, hgn_sub, Nat.le_add_left, Nat.add_sub_cancel, kl2, hS, c7, c81, c82, c87, c88, hgShf_lo, hgShf_J, c5, c6, hwt, hgDl]
end HGDLV

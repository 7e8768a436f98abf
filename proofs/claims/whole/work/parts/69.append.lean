/-! APPEND, both sides. -/
def hgBy (w : Int32) (s : Nat) : Int32 := vp_nar .byte ((w.toUInt32 >>> ((nI s).toUInt32 &&& Int32.toUInt32 31)).toInt32.toInt8.toInt32)
def hgBr (w : Int32) (r : Nat) : Int32 := (w >>> ((nI 24 - nI 8 * nI r) &&& 31)) &&& nI 255
theorem hg255 : ∀ i, i < 32 → (255#32).getLsbD i = decide (i < 8) := by decide
theorem hgBy_k (w : BitVec 32) (k : Nat) (hk : k ≤ 24) : ((((((w >>> k).signExtend 8).signExtend 32).signExtend 8).signExtend 32) &&& 255#32) = ((w.sshiftRight k) &&& 255#32) := by
  apply BitVec.eq_of_getLsbD_eq
  intro i hi
  rw [BitVec.getLsbD_and, BitVec.getLsbD_and, hg255 i hi]
  by_cases h8 : i < 8
  · have h1 : ¬ 32 ≤ i := by omega
    have h2 : k + i < 32 := by omega
    rw [BitVec.getLsbD_signExtend, BitVec.getLsbD_signExtend, BitVec.getLsbD_signExtend, BitVec.getLsbD_signExtend, BitVec.getLsbD_ushiftRight, BitVec.getLsbD_sshiftRight]
    simp only [h8, hi, h1, h2, decide_true, decide_false, Bool.true_and, Bool.and_true, if_true, reduceIte, Bool.not_false]
  · simp [h8]
theorem hgBy_e (w : Int32) (s k : Nat) (h1 : ((nI s).toUInt32 &&& Int32.toUInt32 31) = UInt32.ofNat k) (h2 : ((UInt32.ofNat k).toBitVec % 32).toNat = k) (y : Int32) (h3 : ((y &&& 31).toBitVec.smod 32).toNat = k) (hk : k ≤ 24) : hgBy w s &&& nI 255 = (w >>> (y &&& 31)) &&& nI 255 := by
  apply Int32.toBitVec_inj.mp
  have e1 : (w.toUInt32 >>> ((nI s).toUInt32 &&& Int32.toUInt32 31)).toInt32.toBitVec = w.toBitVec >>> k := by
    rw [h1]
    show w.toBitVec >>> ((UInt32.ofNat k).toBitVec % 32) = _
    rw [BitVec.ushiftRight_eq', h2]
  have e2 : (hgBy w s).toBitVec = ((((w.toBitVec >>> k).signExtend 8).signExtend 32).signExtend 8).signExtend 32 := by
    rw [← e1]
    rfl
  rw [Int32.toBitVec_and, Int32.toBitVec_and, Int32.toBitVec_shiftRight, BitVec.sshiftRight', h3, e2]
  exact hgBy_k w.toBitVec k hk
theorem hgBy_r (w : Int32) (r : Nat) (hr : r < 4) : hgBy w (24 - 8 * r) &&& nI 255 = hgBr w r := by
  have : r = 0 ∨ r = 1 ∨ r = 2 ∨ r = 3 := by omega
  rcases this with e | e | e | e <;> subst e
  · exact hgBy_e w 24 24 (by decide) (by decide) _ (by decide) (by omega)
  · exact hgBy_e w 16 16 (by decide) (by decide) _ (by decide) (by omega)
  · exact hgBy_e w 8 8 (by decide) (by decide) _ (by decide) (by omega)
  · exact hgBy_e w 0 0 (by decide) (by decide) _ (by decide) (by omega)
def hgAw (M : hgMem) (bl : Nat) (w : Int32) : hgMem := hgSI (hgSI (hgSI (hgSI (hgSI (hgSI (hgSI (hgSI M 5 bl (hgBy w 24)) 0 1 (nI (bl + 1))) 5 (bl + 1) (hgBy w 16)) 0 1 (nI (bl + 2))) 5 (bl + 2) (hgBy w 8)) 0 1 (nI (bl + 3))) 5 (bl + 3) (hgBy w 0)) 0 1 (nI (bl + 4))
theorem hgn_rem {a b : Nat} (h1 : a < 2147483648) (h2 : 0 < b) (h3 : b < 2147483648) : nI a - nI a / nI b * nI b = nI (a % b) := by
  rw [hgn_div h1 h2 h3, hgn_mul, hgn_sub (Nat.div_mul_le_self a b)]
  congr 1
  have := Nat.div_add_mod a b
  rw [Nat.mul_comm] at this
  omega
section HGAPP
variable {X : hgX} {M M' M1 M2 M3 Mo : hgMem} {d t g h i j q c k a b n p N l ru bl : Nat} {V V' V1 W U : hgV} {Hs Hs' : List hgV} {x y z s r w x1 x2 x3 x4 x5 : Int32} {u : Int64} {P : Nat → Prop} {o : Option Nat} {v1 v2 v4 v6 v7 : Option Value}
theorem hgAw_f (hb : bl + 4 ≤ 900) : hgFn (fun b => b = 0 ∨ b = 5) M (hgAw M bl w) ∧ hgI (hgAw M bl w) 0 1 = nI (bl + 4) ∧ hgI (hgAw M bl w) 0 2 = hgI M 0 2 ∧ (∀ r, r < 4 → hgI (hgAw M bl w) 5 (bl + r) = hgBy w (24 - 8 * r)) ∧ ∀ j, j < bl → hgI (hgAw M bl w) 5 j = hgI M 5 j := by
  refine ⟨hgFn_SI (hgFn_SI (hgFn_SI (hgFn_SI (hgFn_SI (hgFn_SI (hgFn_SI (hgFn_SI hgFn_r (Or.inr rfl)) (Or.inl rfl)) (Or.inr rfl)) (Or.inl rfl)) (Or.inr rfl)) (Or.inl rfl)) (Or.inr rfl)) (Or.inl rfl), hgI_at, ?_, fun r hr => ?_, fun j hj => ?_⟩
  · unfold hgAw
    rw [hgI_nk (by omega), hgI_na (by omega), hgI_nk (by omega), hgI_na (by omega), hgI_nk (by omega), hgI_na (by omega), hgI_nk (by omega), hgI_na (by omega)]
  · have : r = 0 ∨ r = 1 ∨ r = 2 ∨ r = 3 := by omega
    unfold hgAw
    rcases this with e | e | e | e <;> subst e
    · rw [hgI_na (by omega), hgI_nk (by omega), hgI_na (by omega), hgI_nk (by omega), hgI_na (by omega), hgI_nk (by omega), hgI_na (by omega)]; exact hgI_at
    · rw [hgI_na (by omega), hgI_nk (by omega), hgI_na (by omega), hgI_nk (by omega), hgI_na (by omega)]; exact hgI_at
    · rw [hgI_na (by omega), hgI_nk (by omega), hgI_na (by omega)]; exact hgI_at
    · rw [hgI_na (by omega)]; exact hgI_at
  · unfold hgAw
    rw [hgI_na (by omega), hgI_nk (by omega), hgI_na (by omega), hgI_nk (by omega), hgI_na (by omega), hgI_nk (by omega), hgI_na (by omega), hgI_nk (by omega)]
theorem hgk_116 (hw : hgWf M) (hbl : hgI M 0 1 = nI bl) (hb : bl + 4 ≤ 900) : hgWC X 116 [.ref 0, .int w] M = some (.inl .null, hgAw M bl w) := by
  have b0 : bl < 900 := by omega
  have b1 : bl + 1 < 900 := by omega
  have b2 : bl + 2 < 900 := by omega
  have b3 : bl + 3 < 900 := by omega
  have c0 : bl < 2147483648 := by omega
  have c1 : bl + 1 < 2147483648 := by omega
  have c2 : bl + 2 < 2147483648 := by omega
  have c3 : bl + 3 < 2147483648 := by omega
  have d0 : ¬ 900 ≤ bl := by omega
  have d1 : ¬ 900 ≤ bl + 1 := by omega
  have d2 : ¬ 900 ≤ bl + 2 := by omega
  have d3 : ¬ 900 ≤ bl + 3 := by omega
  have m8 : nI 0 - nI 8 < nI 0 := by decide
  have s1 : nI 24 - nI 8 = nI 16 := hgn_sub (by omega)
  have s2 : nI 16 - nI 8 = nI 8 := hgn_sub (by omega)
  have s3 : nI 8 - nI 8 = nI 0 := hgn_sub (by omega)
  unfold hgAw hgBy
  simp (maxDischargeDepth := 7) only [hgc116, hgM_t, hgM_f, hgM_n, hgx_bipush_24, hgx_istore_n_2i, hgx_istore_n_2r, hgx_istore_n_2f, hgx_istore_n_2n, hgx_istore_n_2l, hgx_iload_n_2, hgx_if_lt, hgx_aload_n_0, hgx_get0, hgs_get_7_0, hgx_ic_ge, hgx_iload_n_1, hgx_iushr, hgx_i2b, hgx_dup_i, hgx_dup_f, hgx_dup_r, hgx_iconst_1, hgx_iadd, hgx_put0, hgx_iinc_2_m8, hgx_goto, hgx_vret, hgv116_0, hgr116_0, hgu116_0, hgv116_3, ← hgu116_3, hgv116_49, hgr116_49, hgu116_49, hgv116_55, hgr116_55, hgu116_55, hgI_SI, hgI_SJ, hgJ_SI, hgJ_SJ, if_true, if_false, reduceIte, Nat.reduceEqDiff, hgWf_SI, hgWf_SJ, hgO_SI, hgO_SJ, hgAr_SI, hgAr_SJ, hgRp_SI, hgRp_SJ, hgN_SI, hgN_SJ, hgO_g, hgO_d, hgO_rl, hgO_r, hgO_0, hgO_1, hgO_64, hgO_298, hgO_300, hgCd_0, hgCd_1, hgCd_2, hgCd_3, hgCd_4, hgCd_5, hgRecv_O, hgRecv_99, List.length_cons, List.length_nil, Nat.zero_add, Nat.add_zero, Nat.le_refl, Nat.zero_le, and_self, or_true, true_or, true_and, and_true, ne_eq, not_false_eq_true, Nat.reduceLT, Nat.reduceLeDiff, Nat.reduceAdd, Nat.reduceEqDiff, hgn_eq, hgn_lt, hgn_le, if_true, if_false, reduceIte, Nat.not_lt_zero, hgs_aa_d, hgs_aa_r, hgs_aa_h, hgs_aa_m, hgs_aa_t, hgs_ld_wp, hgs_st_wp, hgs_ld_qf, hgs_st_qf, hgs_ld_qt, hgs_st_qt, hgs_ld_2, hgs_st_2, hgs_ld_3, hgs_st_3, hgs_ld_4, hgs_st_4, hgs_ld_301, hgs_st_301, hgs_ld_D, hgs_st_D, hgs_ld_s, hgs_ld_T, hgs_st_T, hgs_ld_o, hgs_st_o, hgs_ld_b, hgs_st_b, hgs_ld_z, hgs_st_z, hgs_al_b, hgx_alen_s]
  rw [hgu116_3]
  simp (maxDischargeDepth := 7) only [hgM_t, hgM_f, hgM_n, hgx_bipush_24, hgx_istore_n_2i, hgx_istore_n_2r, hgx_istore_n_2f, hgx_istore_n_2n, hgx_istore_n_2l, hgx_iload_n_2, hgx_if_lt, hgx_aload_n_0, hgx_get0, hgs_get_7_0, hgx_ic_ge, hgx_iload_n_1, hgx_iushr, hgx_i2b, hgx_dup_i, hgx_dup_f, hgx_dup_r, hgx_iconst_1, hgx_iadd, hgx_put0, hgx_iinc_2_m8, hgx_goto, hgx_vret, hgv116_0, hgr116_0, hgu116_0, hgv116_3, hgr116_3, hgv116_49, hgr116_49, hgu116_49, hgv116_55, hgr116_55, hgu116_55, hgI_SI, hgI_SJ, hgJ_SI, hgJ_SJ, if_true, if_false, reduceIte, Nat.reduceEqDiff, hgWf_SI, hgWf_SJ, hgO_SI, hgO_SJ, hgAr_SI, hgAr_SJ, hgRp_SI, hgRp_SJ, hgN_SI, hgN_SJ, hgO_g, hgO_d, hgO_rl, hgO_r, hgO_0, hgO_1, hgO_64, hgO_298, hgO_300, hgCd_0, hgCd_1, hgCd_2, hgCd_3, hgCd_4, hgCd_5, hgRecv_O, hgRecv_99, List.length_cons, List.length_nil, Nat.zero_add, Nat.add_zero, Nat.le_refl, Nat.zero_le, and_self, or_true, true_or, true_and, and_true, ne_eq, not_false_eq_true, Nat.reduceLT, Nat.reduceLeDiff, Nat.reduceAdd, Nat.reduceEqDiff, hgn_eq, hgn_lt, hgn_le, if_true, if_false, reduceIte, Nat.not_lt_zero, hgs_aa_d, hgs_aa_r, hgs_aa_h, hgs_aa_m, hgs_aa_t, hgs_ld_wp, hgs_st_wp, hgs_ld_qf, hgs_st_qf, hgs_ld_qt, hgs_st_qt, hgs_ld_2, hgs_st_2, hgs_ld_3, hgs_st_3, hgs_ld_4, hgs_st_4, hgs_ld_301, hgs_st_301, hgs_ld_D, hgs_st_D, hgs_ld_s, hgs_ld_T, hgs_st_T, hgs_ld_o, hgs_st_o, hgs_ld_b, hgs_st_b, hgs_ld_z, hgs_st_z, hgs_al_b, hgx_alen_s, hgn_add, hgn_mul, hw, hbl, b0, c0, d0, s1]
  rw [hgu116_3]
  simp (maxDischargeDepth := 7) only [hgM_t, hgM_f, hgM_n, hgx_bipush_24, hgx_istore_n_2i, hgx_istore_n_2r, hgx_istore_n_2f, hgx_istore_n_2n, hgx_istore_n_2l, hgx_iload_n_2, hgx_if_lt, hgx_aload_n_0, hgx_get0, hgs_get_7_0, hgx_ic_ge, hgx_iload_n_1, hgx_iushr, hgx_i2b, hgx_dup_i, hgx_dup_f, hgx_dup_r, hgx_iconst_1, hgx_iadd, hgx_put0, hgx_iinc_2_m8, hgx_goto, hgx_vret, hgv116_0, hgr116_0, hgu116_0, hgv116_3, hgr116_3, hgv116_49, hgr116_49, hgu116_49, hgv116_55, hgr116_55, hgu116_55, hgI_SI, hgI_SJ, hgJ_SI, hgJ_SJ, if_true, if_false, reduceIte, Nat.reduceEqDiff, hgWf_SI, hgWf_SJ, hgO_SI, hgO_SJ, hgAr_SI, hgAr_SJ, hgRp_SI, hgRp_SJ, hgN_SI, hgN_SJ, hgO_g, hgO_d, hgO_rl, hgO_r, hgO_0, hgO_1, hgO_64, hgO_298, hgO_300, hgCd_0, hgCd_1, hgCd_2, hgCd_3, hgCd_4, hgCd_5, hgRecv_O, hgRecv_99, List.length_cons, List.length_nil, Nat.zero_add, Nat.add_zero, Nat.le_refl, Nat.zero_le, and_self, or_true, true_or, true_and, and_true, ne_eq, not_false_eq_true, Nat.reduceLT, Nat.reduceLeDiff, Nat.reduceAdd, Nat.reduceEqDiff, hgn_eq, hgn_lt, hgn_le, if_true, if_false, reduceIte, Nat.not_lt_zero, hgs_aa_d, hgs_aa_r, hgs_aa_h, hgs_aa_m, hgs_aa_t, hgs_ld_wp, hgs_st_wp, hgs_ld_qf, hgs_st_qf, hgs_ld_qt, hgs_st_qt, hgs_ld_2, hgs_st_2, hgs_ld_3, hgs_st_3, hgs_ld_4, hgs_st_4, hgs_ld_301, hgs_st_301, hgs_ld_D, hgs_st_D, hgs_ld_s, hgs_ld_T, hgs_st_T, hgs_ld_o, hgs_st_o, hgs_ld_b, hgs_st_b, hgs_ld_z, hgs_st_z, hgs_al_b, hgx_alen_s, hgn_add, hgn_mul, hw, hbl, b1, c1, d1, s2]
  rw [hgu116_3]
  simp (maxDischargeDepth := 7) only [hgM_t, hgM_f, hgM_n, hgx_bipush_24, hgx_istore_n_2i, hgx_istore_n_2r, hgx_istore_n_2f, hgx_istore_n_2n, hgx_istore_n_2l, hgx_iload_n_2, hgx_if_lt, hgx_aload_n_0, hgx_get0, hgs_get_7_0, hgx_ic_ge, hgx_iload_n_1, hgx_iushr, hgx_i2b, hgx_dup_i, hgx_dup_f, hgx_dup_r, hgx_iconst_1, hgx_iadd, hgx_put0, hgx_iinc_2_m8, hgx_goto, hgx_vret, hgv116_0, hgr116_0, hgu116_0, hgv116_3, hgr116_3, hgv116_49, hgr116_49, hgu116_49, hgv116_55, hgr116_55, hgu116_55, hgI_SI, hgI_SJ, hgJ_SI, hgJ_SJ, if_true, if_false, reduceIte, Nat.reduceEqDiff, hgWf_SI, hgWf_SJ, hgO_SI, hgO_SJ, hgAr_SI, hgAr_SJ, hgRp_SI, hgRp_SJ, hgN_SI, hgN_SJ, hgO_g, hgO_d, hgO_rl, hgO_r, hgO_0, hgO_1, hgO_64, hgO_298, hgO_300, hgCd_0, hgCd_1, hgCd_2, hgCd_3, hgCd_4, hgCd_5, hgRecv_O, hgRecv_99, List.length_cons, List.length_nil, Nat.zero_add, Nat.add_zero, Nat.le_refl, Nat.zero_le, and_self, or_true, true_or, true_and, and_true, ne_eq, not_false_eq_true, Nat.reduceLT, Nat.reduceLeDiff, Nat.reduceAdd, Nat.reduceEqDiff, hgn_eq, hgn_lt, hgn_le, if_true, if_false, reduceIte, Nat.not_lt_zero, hgs_aa_d, hgs_aa_r, hgs_aa_h, hgs_aa_m, hgs_aa_t, hgs_ld_wp, hgs_st_wp, hgs_ld_qf, hgs_st_qf, hgs_ld_qt, hgs_st_qt, hgs_ld_2, hgs_st_2, hgs_ld_3, hgs_st_3, hgs_ld_4, hgs_st_4, hgs_ld_301, hgs_st_301, hgs_ld_D, hgs_st_D, hgs_ld_s, hgs_ld_T, hgs_st_T, hgs_ld_o, hgs_st_o, hgs_ld_b, hgs_st_b, hgs_ld_z, hgs_st_z, hgs_al_b, hgx_alen_s, hgn_add, hgn_mul, hw, hbl, b2, c2, d2, s3]
  rw [hgu116_3]
  simp (maxDischargeDepth := 7) only [hgM_t, hgM_f, hgM_n, hgx_bipush_24, hgx_istore_n_2i, hgx_istore_n_2r, hgx_istore_n_2f, hgx_istore_n_2n, hgx_istore_n_2l, hgx_iload_n_2, hgx_if_lt, hgx_aload_n_0, hgx_get0, hgs_get_7_0, hgx_ic_ge, hgx_iload_n_1, hgx_iushr, hgx_i2b, hgx_dup_i, hgx_dup_f, hgx_dup_r, hgx_iconst_1, hgx_iadd, hgx_put0, hgx_iinc_2_m8, hgx_goto, hgx_vret, hgv116_0, hgr116_0, hgu116_0, hgv116_3, hgr116_3, hgv116_49, hgr116_49, hgu116_49, hgv116_55, hgr116_55, hgu116_55, hgI_SI, hgI_SJ, hgJ_SI, hgJ_SJ, if_true, if_false, reduceIte, Nat.reduceEqDiff, hgWf_SI, hgWf_SJ, hgO_SI, hgO_SJ, hgAr_SI, hgAr_SJ, hgRp_SI, hgRp_SJ, hgN_SI, hgN_SJ, hgO_g, hgO_d, hgO_rl, hgO_r, hgO_0, hgO_1, hgO_64, hgO_298, hgO_300, hgCd_0, hgCd_1, hgCd_2, hgCd_3, hgCd_4, hgCd_5, hgRecv_O, hgRecv_99, List.length_cons, List.length_nil, Nat.zero_add, Nat.add_zero, Nat.le_refl, Nat.zero_le, and_self, or_true, true_or, true_and, and_true, ne_eq, not_false_eq_true, Nat.reduceLT, Nat.reduceLeDiff, Nat.reduceAdd, Nat.reduceEqDiff, hgn_eq, hgn_lt, hgn_le, if_true, if_false, reduceIte, Nat.not_lt_zero, hgs_aa_d, hgs_aa_r, hgs_aa_h, hgs_aa_m, hgs_aa_t, hgs_ld_wp, hgs_st_wp, hgs_ld_qf, hgs_st_qf, hgs_ld_qt, hgs_st_qt, hgs_ld_2, hgs_st_2, hgs_ld_3, hgs_st_3, hgs_ld_4, hgs_st_4, hgs_ld_301, hgs_st_301, hgs_ld_D, hgs_st_D, hgs_ld_s, hgs_ld_T, hgs_st_T, hgs_ld_o, hgs_st_o, hgs_ld_b, hgs_st_b, hgs_ld_z, hgs_st_z, hgs_al_b, hgx_alen_s, hgn_add, hgn_mul, hw, hbl, b3, c3, d3]
  rw [hgu116_3]
  simp (maxDischargeDepth := 7) only [hgM_t, hgM_f, hgM_n, hgx_bipush_24, hgx_istore_n_2i, hgx_istore_n_2r, hgx_istore_n_2f, hgx_istore_n_2n, hgx_istore_n_2l, hgx_iload_n_2, hgx_if_lt, hgx_aload_n_0, hgx_get0, hgs_get_7_0, hgx_ic_ge, hgx_iload_n_1, hgx_iushr, hgx_i2b, hgx_dup_i, hgx_dup_f, hgx_dup_r, hgx_iconst_1, hgx_iadd, hgx_put0, hgx_iinc_2_m8, hgx_goto, hgx_vret, hgv116_0, hgr116_0, hgu116_0, hgv116_3, hgr116_3, hgv116_49, hgr116_49, hgu116_49, hgv116_55, hgr116_55, hgu116_55, hgI_SI, hgI_SJ, hgJ_SI, hgJ_SJ, if_true, if_false, reduceIte, Nat.reduceEqDiff, hgWf_SI, hgWf_SJ, hgO_SI, hgO_SJ, hgAr_SI, hgAr_SJ, hgRp_SI, hgRp_SJ, hgN_SI, hgN_SJ, hgO_g, hgO_d, hgO_rl, hgO_r, hgO_0, hgO_1, hgO_64, hgO_298, hgO_300, hgCd_0, hgCd_1, hgCd_2, hgCd_3, hgCd_4, hgCd_5, hgRecv_O, hgRecv_99, List.length_cons, List.length_nil, Nat.zero_add, Nat.add_zero, Nat.le_refl, Nat.zero_le, and_self, or_true, true_or, true_and, and_true, ne_eq, not_false_eq_true, Nat.reduceLT, Nat.reduceLeDiff, Nat.reduceAdd, Nat.reduceEqDiff, hgn_eq, hgn_lt, hgn_le, if_true, if_false, reduceIte, Nat.not_lt_zero, hgs_aa_d, hgs_aa_r, hgs_aa_h, hgs_aa_m, hgs_aa_t, hgs_ld_wp, hgs_st_wp, hgs_ld_qf, hgs_st_qf, hgs_ld_qt, hgs_st_qt, hgs_ld_2, hgs_st_2, hgs_ld_3, hgs_st_3, hgs_ld_4, hgs_st_4, hgs_ld_301, hgs_st_301, hgs_ld_D, hgs_st_D, hgs_ld_s, hgs_ld_T, hgs_st_T, hgs_ld_o, hgs_st_o, hgs_ld_b, hgs_st_b, hgs_ld_z, hgs_st_z, hgs_al_b, hgx_alen_s, hgn_add, hgn_mul, hw, m8]
def hgWo (x1 x2 x3 x4 x5 : Int32) (k : Nat) : Int32 := if k < 4 then x1 else if k < 8 then x2 else if k < 12 then x3 else if k < 16 then x4 else x5
theorem hgk_134l (hb : bl + 20 ≤ 900) : ∀ (k i : Nat) (M : hgMem) (v7 : Option Value), i + k = 20 → hgWf M → hgI M 300 2 = nI (bl + i) → ∃ M', hgW X 134 23 [some (.ref 300), some (.int x1), some (.int x2), some (.int x3), some (.int x4), some (.int x5), some (.int (nI i)), v7] [] (0, 0) M = some (.inl (.int (nI (bl + 20))), M') ∧ hgFn (fun b => b = 300 ∨ b = 301) M M' ∧ hgI M' 300 2 = nI (bl + 20) ∧ (∀ k, k ≠ 2 → hgI M' 300 k = hgI M 300 k) ∧ (∀ t, i ≤ t → t < 20 → hgI M' 301 (bl + t) = hgBr (hgWo x1 x2 x3 x4 x5 t) (t % 4)) ∧ ∀ j, j < bl + i → hgI M' 301 j = hgI M 301 j := by
  intro k
  induction k with
  | zero =>
    intro i M v7 hi hw hl
    have h1 : i < 2147483648 := by omega
    have h3 : 20 ≤ i := by omega
    have e : i = 20 := by omega
    refine ⟨M, ?_, hgFn_r, by rw [hl, e], fun _ _ => rfl, fun t t1 t2 => by omega, fun _ _ => rfl⟩
    rw [hgu134_23]
    simp (maxDischargeDepth := 7) only [hgM_t, hgM_f, hgM_n, hgx_aload_n_0, hgx_iconst_0, hgx_put0, hgx_get0, hgx_bipush_20, hgx_iadd, hgx_sipush_900, hgx_ic_le, hgx_iconst_m1, hgx_ret1, hgx_istore_6i, hgx_istore_6r, hgx_istore_6f, hgx_istore_6n, hgx_istore_6l, hgx_iload_6, hgx_ic_ge, hgx_iconst_4, hgx_iload_n_1, hgx_goto, hgx_bipush_8, hgx_iload_n_2, hgx_bipush_12, hgx_iload_n_3, hgx_bipush_16, hgx_iload_4, hgx_iload_5, hgx_istore_7i, hgx_istore_7r, hgx_istore_7f, hgx_istore_7n, hgx_istore_7l, hgs_get_8_1, hgx_iload_7, hgx_bipush_24, hgx_irem, hgx_imul, hgx_isub, hgx_ishr, hgx_sipush_255, hgx_iand, hgx_dup_i, hgx_dup_f, hgx_dup_r, hgx_iconst_1, hgx_iinc_6_1, hgv134_0, hgr134_0, hgu134_0, hgv134_20, hgr134_20, hgu134_20, hgv134_23, hgr134_23, hgv134_40, hgr134_40, hgu134_40, hgv134_51, hgr134_51, hgu134_51, hgv134_62, hgr134_62, hgu134_62, hgv134_74, hgr134_74, hgu134_74, hgv134_76, hgr134_76, hgu134_76, hgv134_120, hgr134_120, hgu134_120, hgI_SI, hgI_SJ, hgJ_SI, hgJ_SJ, if_true, if_false, reduceIte, Nat.reduceEqDiff, hgWf_SI, hgWf_SJ, hgO_SI, hgO_SJ, hgAr_SI, hgAr_SJ, hgRp_SI, hgRp_SJ, hgN_SI, hgN_SJ, hgO_g, hgO_d, hgO_rl, hgO_r, hgO_0, hgO_1, hgO_64, hgO_298, hgO_300, hgCd_0, hgCd_1, hgCd_2, hgCd_3, hgCd_4, hgCd_5, hgRecv_O, hgRecv_99, List.length_cons, List.length_nil, Nat.zero_add, Nat.add_zero, Nat.le_refl, Nat.zero_le, and_self, or_true, true_or, true_and, and_true, ne_eq, not_false_eq_true, Nat.reduceLT, Nat.reduceLeDiff, Nat.reduceAdd, Nat.reduceEqDiff, hgn_eq, hgn_lt, hgn_le, if_true, if_false, reduceIte, Nat.not_lt_zero, hw, hl, h1, h3]
    rw [e]
  | succ k ih =>
    intro i M v7 hi hw hl
    have h1 : i < 2147483648 := by omega
    have h3 : ¬ 20 ≤ i := by omega
    have h4 : bl + i < 900 := by omega
    have rem := hgn_rem (a := i) (b := 4) h1 (by omega) (by omega)
    have n4 : nI 4 ≠ 0 := by decide
    obtain ⟨M', e, f, g1, g2, g3, g4⟩ := ih (i + 1) (hgSI (hgSI M 301 (bl + i) (hgBr (hgWo x1 x2 x3 x4 x5 i) (i % 4))) 300 2 (nI (bl + i + 1))) none (by omega) hw (by rw [hgI_at]; rfl)
    refine ⟨M', ?_, hgFn_t (hgFn_SI (hgFn_SI hgFn_r (Or.inr rfl)) (Or.inl rfl)) f, g1, fun k hk => by rw [g2 k hk, hgI_nk hk, hgI_na (by omega)], fun t t1 t2 => ?_, fun j hj => by rw [g4 j (by omega), hgI_na (by omega), hgI_nk (by omega)]⟩
    · rw [hgu134_23]
      unfold hgBr hgWo at e
      by_cases a1 : i < 4
      · have a1' : ¬ 4 ≤ i := by omega
        rw [if_pos a1] at e
        simp (maxDischargeDepth := 7) only [hgM_t, hgM_f, hgM_n, hgx_aload_n_0, hgx_iconst_0, hgx_put0, hgx_get0, hgx_bipush_20, hgx_iadd, hgx_sipush_900, hgx_ic_le, hgx_iconst_m1, hgx_ret1, hgx_istore_6i, hgx_istore_6r, hgx_istore_6f, hgx_istore_6n, hgx_istore_6l, hgx_iload_6, hgx_ic_ge, hgx_iconst_4, hgx_iload_n_1, hgx_goto, hgx_bipush_8, hgx_iload_n_2, hgx_bipush_12, hgx_iload_n_3, hgx_bipush_16, hgx_iload_4, hgx_iload_5, hgx_istore_7i, hgx_istore_7r, hgx_istore_7f, hgx_istore_7n, hgx_istore_7l, hgs_get_8_1, hgx_iload_7, hgx_bipush_24, hgx_irem, hgx_imul, hgx_isub, hgx_ishr, hgx_sipush_255, hgx_iand, hgx_dup_i, hgx_dup_f, hgx_dup_r, hgx_iconst_1, hgx_iinc_6_1, hgv134_0, hgr134_0, hgu134_0, hgv134_20, hgr134_20, hgu134_20, hgv134_23, hgr134_23, hgv134_40, hgr134_40, hgu134_40, hgv134_51, hgr134_51, hgu134_51, hgv134_62, hgr134_62, hgu134_62, hgv134_74, hgr134_74, hgu134_74, hgv134_76, hgr134_76, hgu134_76, hgv134_120, hgr134_120, hgu134_120, hgI_SI, hgI_SJ, hgJ_SI, hgJ_SJ, if_true, if_false, reduceIte, Nat.reduceEqDiff, hgWf_SI, hgWf_SJ, hgO_SI, hgO_SJ, hgAr_SI, hgAr_SJ, hgRp_SI, hgRp_SJ, hgN_SI, hgN_SJ, hgO_g, hgO_d, hgO_rl, hgO_r, hgO_0, hgO_1, hgO_64, hgO_298, hgO_300, hgCd_0, hgCd_1, hgCd_2, hgCd_3, hgCd_4, hgCd_5, hgRecv_O, hgRecv_99, List.length_cons, List.length_nil, Nat.zero_add, Nat.add_zero, Nat.le_refl, Nat.zero_le, and_self, or_true, true_or, true_and, and_true, ne_eq, not_false_eq_true, Nat.reduceLT, Nat.reduceLeDiff, Nat.reduceAdd, Nat.reduceEqDiff, hgn_eq, hgn_lt, hgn_le, if_true, if_false, reduceIte, Nat.not_lt_zero, hgs_aa_d, hgs_aa_r, hgs_aa_h, hgs_aa_m, hgs_aa_t, hgs_ld_wp, hgs_st_wp, hgs_ld_qf, hgs_st_qf, hgs_ld_qt, hgs_st_qt, hgs_ld_2, hgs_st_2, hgs_ld_3, hgs_st_3, hgs_ld_4, hgs_st_4, hgs_ld_301, hgs_st_301, hgs_ld_D, hgs_st_D, hgs_ld_s, hgs_ld_T, hgs_st_T, hgs_ld_o, hgs_st_o, hgs_ld_b, hgs_st_b, hgs_ld_z, hgs_st_z, hgs_al_b, hgx_alen_s, hgn_add, hw, hl, h1, h3, h4, a1', n4, rem]
        exact e
      · have a1' : 4 ≤ i := by omega
        rw [if_neg a1] at e
        by_cases a2 : i < 8
        · have a2' : ¬ 8 ≤ i := by omega
          rw [if_pos a2] at e
          simp (maxDischargeDepth := 7) only [hgM_t, hgM_f, hgM_n, hgx_aload_n_0, hgx_iconst_0, hgx_put0, hgx_get0, hgx_bipush_20, hgx_iadd, hgx_sipush_900, hgx_ic_le, hgx_iconst_m1, hgx_ret1, hgx_istore_6i, hgx_istore_6r, hgx_istore_6f, hgx_istore_6n, hgx_istore_6l, hgx_iload_6, hgx_ic_ge, hgx_iconst_4, hgx_iload_n_1, hgx_goto, hgx_bipush_8, hgx_iload_n_2, hgx_bipush_12, hgx_iload_n_3, hgx_bipush_16, hgx_iload_4, hgx_iload_5, hgx_istore_7i, hgx_istore_7r, hgx_istore_7f, hgx_istore_7n, hgx_istore_7l, hgs_get_8_1, hgx_iload_7, hgx_bipush_24, hgx_irem, hgx_imul, hgx_isub, hgx_ishr, hgx_sipush_255, hgx_iand, hgx_dup_i, hgx_dup_f, hgx_dup_r, hgx_iconst_1, hgx_iinc_6_1, hgv134_0, hgr134_0, hgu134_0, hgv134_20, hgr134_20, hgu134_20, hgv134_23, hgr134_23, hgv134_40, hgr134_40, hgu134_40, hgv134_51, hgr134_51, hgu134_51, hgv134_62, hgr134_62, hgu134_62, hgv134_74, hgr134_74, hgu134_74, hgv134_76, hgr134_76, hgu134_76, hgv134_120, hgr134_120, hgu134_120, hgI_SI, hgI_SJ, hgJ_SI, hgJ_SJ, if_true, if_false, reduceIte, Nat.reduceEqDiff, hgWf_SI, hgWf_SJ, hgO_SI, hgO_SJ, hgAr_SI, hgAr_SJ, hgRp_SI, hgRp_SJ, hgN_SI, hgN_SJ, hgO_g, hgO_d, hgO_rl, hgO_r, hgO_0, hgO_1, hgO_64, hgO_298, hgO_300, hgCd_0, hgCd_1, hgCd_2, hgCd_3, hgCd_4, hgCd_5, hgRecv_O, hgRecv_99, List.length_cons, List.length_nil, Nat.zero_add, Nat.add_zero, Nat.le_refl, Nat.zero_le, and_self, or_true, true_or, true_and, and_true, ne_eq, not_false_eq_true, Nat.reduceLT, Nat.reduceLeDiff, Nat.reduceAdd, Nat.reduceEqDiff, hgn_eq, hgn_lt, hgn_le, if_true, if_false, reduceIte, Nat.not_lt_zero, hgs_aa_d, hgs_aa_r, hgs_aa_h, hgs_aa_m, hgs_aa_t, hgs_ld_wp, hgs_st_wp, hgs_ld_qf, hgs_st_qf, hgs_ld_qt, hgs_st_qt, hgs_ld_2, hgs_st_2, hgs_ld_3, hgs_st_3, hgs_ld_4, hgs_st_4, hgs_ld_301, hgs_st_301, hgs_ld_D, hgs_st_D, hgs_ld_s, hgs_ld_T, hgs_st_T, hgs_ld_o, hgs_st_o, hgs_ld_b, hgs_st_b, hgs_ld_z, hgs_st_z, hgs_al_b, hgx_alen_s, hgn_add, hw, hl, h1, h3, h4, a1', a2', n4, rem]
          exact e
        · have a2' : 8 ≤ i := by omega
          rw [if_neg a2] at e
          by_cases a3 : i < 12
          · have a3' : ¬ 12 ≤ i := by omega
            rw [if_pos a3] at e
            simp (maxDischargeDepth := 7) only [hgM_t, hgM_f, hgM_n, hgx_aload_n_0, hgx_iconst_0, hgx_put0, hgx_get0, hgx_bipush_20, hgx_iadd, hgx_sipush_900, hgx_ic_le, hgx_iconst_m1, hgx_ret1, hgx_istore_6i, hgx_istore_6r, hgx_istore_6f, hgx_istore_6n, hgx_istore_6l, hgx_iload_6, hgx_ic_ge, hgx_iconst_4, hgx_iload_n_1, hgx_goto, hgx_bipush_8, hgx_iload_n_2, hgx_bipush_12, hgx_iload_n_3, hgx_bipush_16, hgx_iload_4, hgx_iload_5, hgx_istore_7i, hgx_istore_7r, hgx_istore_7f, hgx_istore_7n, hgx_istore_7l, hgs_get_8_1, hgx_iload_7, hgx_bipush_24, hgx_irem, hgx_imul, hgx_isub, hgx_ishr, hgx_sipush_255, hgx_iand, hgx_dup_i, hgx_dup_f, hgx_dup_r, hgx_iconst_1, hgx_iinc_6_1, hgv134_0, hgr134_0, hgu134_0, hgv134_20, hgr134_20, hgu134_20, hgv134_23, hgr134_23, hgv134_40, hgr134_40, hgu134_40, hgv134_51, hgr134_51, hgu134_51, hgv134_62, hgr134_62, hgu134_62, hgv134_74, hgr134_74, hgu134_74, hgv134_76, hgr134_76, hgu134_76, hgv134_120, hgr134_120, hgu134_120, hgI_SI, hgI_SJ, hgJ_SI, hgJ_SJ, if_true, if_false, reduceIte, Nat.reduceEqDiff, hgWf_SI, hgWf_SJ, hgO_SI, hgO_SJ, hgAr_SI, hgAr_SJ, hgRp_SI, hgRp_SJ, hgN_SI, hgN_SJ, hgO_g, hgO_d, hgO_rl, hgO_r, hgO_0, hgO_1, hgO_64, hgO_298, hgO_300, hgCd_0, hgCd_1, hgCd_2, hgCd_3, hgCd_4, hgCd_5, hgRecv_O, hgRecv_99, List.length_cons, List.length_nil, Nat.zero_add, Nat.add_zero, Nat.le_refl, Nat.zero_le, and_self, or_true, true_or, true_and, and_true, ne_eq, not_false_eq_true, Nat.reduceLT, Nat.reduceLeDiff, Nat.reduceAdd, Nat.reduceEqDiff, hgn_eq, hgn_lt, hgn_le, if_true, if_false, reduceIte, Nat.not_lt_zero, hgs_aa_d, hgs_aa_r, hgs_aa_h, hgs_aa_m, hgs_aa_t, hgs_ld_wp, hgs_st_wp, hgs_ld_qf, hgs_st_qf, hgs_ld_qt, hgs_st_qt, hgs_ld_2, hgs_st_2, hgs_ld_3, hgs_st_3, hgs_ld_4, hgs_st_4, hgs_ld_301, hgs_st_301, hgs_ld_D, hgs_st_D, hgs_ld_s, hgs_ld_T, hgs_st_T, hgs_ld_o, hgs_st_o, hgs_ld_b, hgs_st_b, hgs_ld_z, hgs_st_z, hgs_al_b, hgx_alen_s, hgn_add, hw, hl, h1, h3, h4, a1', a2', a3', n4, rem]
            exact e
          · have a3' : 12 ≤ i := by omega
            rw [if_neg a3] at e
            by_cases a4 : i < 16
            · have a4' : ¬ 16 ≤ i := by omega
              rw [if_pos a4] at e
              simp (maxDischargeDepth := 7) only [hgM_t, hgM_f, hgM_n, hgx_aload_n_0, hgx_iconst_0, hgx_put0, hgx_get0, hgx_bipush_20, hgx_iadd, hgx_sipush_900, hgx_ic_le, hgx_iconst_m1, hgx_ret1, hgx_istore_6i, hgx_istore_6r, hgx_istore_6f, hgx_istore_6n, hgx_istore_6l, hgx_iload_6, hgx_ic_ge, hgx_iconst_4, hgx_iload_n_1, hgx_goto, hgx_bipush_8, hgx_iload_n_2, hgx_bipush_12, hgx_iload_n_3, hgx_bipush_16, hgx_iload_4, hgx_iload_5, hgx_istore_7i, hgx_istore_7r, hgx_istore_7f, hgx_istore_7n, hgx_istore_7l, hgs_get_8_1, hgx_iload_7, hgx_bipush_24, hgx_irem, hgx_imul, hgx_isub, hgx_ishr, hgx_sipush_255, hgx_iand, hgx_dup_i, hgx_dup_f, hgx_dup_r, hgx_iconst_1, hgx_iinc_6_1, hgv134_0, hgr134_0, hgu134_0, hgv134_20, hgr134_20, hgu134_20, hgv134_23, hgr134_23, hgv134_40, hgr134_40, hgu134_40, hgv134_51, hgr134_51, hgu134_51, hgv134_62, hgr134_62, hgu134_62, hgv134_74, hgr134_74, hgu134_74, hgv134_76, hgr134_76, hgu134_76, hgv134_120, hgr134_120, hgu134_120, hgI_SI, hgI_SJ, hgJ_SI, hgJ_SJ, if_true, if_false, reduceIte, Nat.reduceEqDiff, hgWf_SI, hgWf_SJ, hgO_SI, hgO_SJ, hgAr_SI, hgAr_SJ, hgRp_SI, hgRp_SJ, hgN_SI, hgN_SJ, hgO_g, hgO_d, hgO_rl, hgO_r, hgO_0, hgO_1, hgO_64, hgO_298, hgO_300, hgCd_0, hgCd_1, hgCd_2, hgCd_3, hgCd_4, hgCd_5, hgRecv_O, hgRecv_99, List.length_cons, List.length_nil, Nat.zero_add, Nat.add_zero, Nat.le_refl, Nat.zero_le, and_self, or_true, true_or, true_and, and_true, ne_eq, not_false_eq_true, Nat.reduceLT, Nat.reduceLeDiff, Nat.reduceAdd, Nat.reduceEqDiff, hgn_eq, hgn_lt, hgn_le, if_true, if_false, reduceIte, Nat.not_lt_zero, hgs_aa_d, hgs_aa_r, hgs_aa_h, hgs_aa_m, hgs_aa_t, hgs_ld_wp, hgs_st_wp, hgs_ld_qf, hgs_st_qf, hgs_ld_qt, hgs_st_qt, hgs_ld_2, hgs_st_2, hgs_ld_3, hgs_st_3, hgs_ld_4, hgs_st_4, hgs_ld_301, hgs_st_301, hgs_ld_D, hgs_st_D, hgs_ld_s, hgs_ld_T, hgs_st_T, hgs_ld_o, hgs_st_o, hgs_ld_b, hgs_st_b, hgs_ld_z, hgs_st_z, hgs_al_b, hgx_alen_s, hgn_add, hw, hl, h1, h3, h4, a1', a2', a3', a4', n4, rem]
              exact e
            · have a4' : 16 ≤ i := by omega
              rw [if_neg a4] at e
              simp (maxDischargeDepth := 7) only [hgM_t, hgM_f, hgM_n, hgx_aload_n_0, hgx_iconst_0, hgx_put0, hgx_get0, hgx_bipush_20, hgx_iadd, hgx_sipush_900, hgx_ic_le, hgx_iconst_m1, hgx_ret1, hgx_istore_6i, hgx_istore_6r, hgx_istore_6f, hgx_istore_6n, hgx_istore_6l, hgx_iload_6, hgx_ic_ge, hgx_iconst_4, hgx_iload_n_1, hgx_goto, hgx_bipush_8, hgx_iload_n_2, hgx_bipush_12, hgx_iload_n_3, hgx_bipush_16, hgx_iload_4, hgx_iload_5, hgx_istore_7i, hgx_istore_7r, hgx_istore_7f, hgx_istore_7n, hgx_istore_7l, hgs_get_8_1, hgx_iload_7, hgx_bipush_24, hgx_irem, hgx_imul, hgx_isub, hgx_ishr, hgx_sipush_255, hgx_iand, hgx_dup_i, hgx_dup_f, hgx_dup_r, hgx_iconst_1, hgx_iinc_6_1, hgv134_0, hgr134_0, hgu134_0, hgv134_20, hgr134_20, hgu134_20, hgv134_23, hgr134_23, hgv134_40, hgr134_40, hgu134_40, hgv134_51, hgr134_51, hgu134_51, hgv134_62, hgr134_62, hgu134_62, hgv134_74, hgr134_74, hgu134_74, hgv134_76, hgr134_76, hgu134_76, hgv134_120, hgr134_120, hgu134_120, hgI_SI, hgI_SJ, hgJ_SI, hgJ_SJ, if_true, if_false, reduceIte, Nat.reduceEqDiff, hgWf_SI, hgWf_SJ, hgO_SI, hgO_SJ, hgAr_SI, hgAr_SJ, hgRp_SI, hgRp_SJ, hgN_SI, hgN_SJ, hgO_g, hgO_d, hgO_rl, hgO_r, hgO_0, hgO_1, hgO_64, hgO_298, hgO_300, hgCd_0, hgCd_1, hgCd_2, hgCd_3, hgCd_4, hgCd_5, hgRecv_O, hgRecv_99, List.length_cons, List.length_nil, Nat.zero_add, Nat.add_zero, Nat.le_refl, Nat.zero_le, and_self, or_true, true_or, true_and, and_true, ne_eq, not_false_eq_true, Nat.reduceLT, Nat.reduceLeDiff, Nat.reduceAdd, Nat.reduceEqDiff, hgn_eq, hgn_lt, hgn_le, if_true, if_false, reduceIte, Nat.not_lt_zero, hgs_aa_d, hgs_aa_r, hgs_aa_h, hgs_aa_m, hgs_aa_t, hgs_ld_wp, hgs_st_wp, hgs_ld_qf, hgs_st_qf, hgs_ld_qt, hgs_st_qt, hgs_ld_2, hgs_st_2, hgs_ld_3, hgs_st_3, hgs_ld_4, hgs_st_4, hgs_ld_301, hgs_st_301, hgs_ld_D, hgs_st_D, hgs_ld_s, hgs_ld_T, hgs_st_T, hgs_ld_o, hgs_st_o, hgs_ld_b, hgs_st_b, hgs_ld_z, hgs_st_z, hgs_al_b, hgx_alen_s, hgn_add, hw, hl, h1, h3, h4, a1', a2', a3', a4', n4, rem]
              exact e
    · by_cases ht : t = i
      · rw [ht, g4 _ (by omega), hgI_na (by omega), hgI_at]
      · exact g3 t (by omega) t2
theorem hgOp_83 (h : hgInv M N) : hgAi X 83 [.ref 0, .int x1, .int x2, .int x3, .int x4, .int x5] 134 [.ref 300, .int x1, .int x2, .int x3, .int x4, .int x5] M N := by
  obtain ⟨V, Hs, c, hc, hC, hR, hH, hb⟩ := h
  have hw := hC.1
  have hbf := hb
  obtain ⟨bl, b1, b2, b3, b4, b5⟩ := hbf
  have c1 : bl < 2147483648 := by omega
  have c2 : bl + 20 < 2147483648 := by omega
  by_cases hl : bl ≤ 880
  · have hl2 : bl + 20 ≤ 900 := by omega
    obtain ⟨M1, hM1⟩ : ∃ M1, M1 = hgAw M bl x1 := ⟨_, rfl⟩
    obtain ⟨f1, l1, o1, s1, t1⟩ := hgAw_f (M := M) (w := x1) (show bl + 4 ≤ 900 by omega)
    rw [← hM1] at f1 l1 o1 s1 t1
    have w1 := hgFn_w f1 hw
    obtain ⟨M2, hM2⟩ : ∃ M2, M2 = hgAw M1 (bl + 4) x2 := ⟨_, rfl⟩
    obtain ⟨f2, l2, o2, s2, t2⟩ := hgAw_f (M := M1) (w := x2) (show bl + 4 + 4 ≤ 900 by omega)
    rw [← hM2] at f2 l2 o2 s2 t2
    have w2 := hgFn_w f2 w1
    obtain ⟨M3, hM3⟩ : ∃ M3, M3 = hgAw M2 (bl + 4 + 4) x3 := ⟨_, rfl⟩
    obtain ⟨f3, l3, o3, s3, t3⟩ := hgAw_f (M := M2) (w := x3) (show bl + 4 + 4 + 4 ≤ 900 by omega)
    rw [← hM3] at f3 l3 o3 s3 t3
    have w3 := hgFn_w f3 w2
    obtain ⟨M4, hM4⟩ : ∃ M4, M4 = hgAw M3 (bl + 4 + 4 + 4) x4 := ⟨_, rfl⟩
    obtain ⟨f4, l4, o4, s4, t4⟩ := hgAw_f (M := M3) (w := x4) (show bl + 4 + 4 + 4 + 4 ≤ 900 by omega)
    rw [← hM4] at f4 l4 o4 s4 t4
    have w4 := hgFn_w f4 w3
    obtain ⟨M5, hM5⟩ : ∃ M5, M5 = hgAw M4 (bl + 4 + 4 + 4 + 4) x5 := ⟨_, rfl⟩
    obtain ⟨f5, l5, o5, s5, t5⟩ := hgAw_f (M := M4) (w := x5) (show bl + 4 + 4 + 4 + 4 + 4 ≤ 900 by omega)
    rw [← hM5] at f5 l5 o5 s5 t5
    have w5 := hgFn_w f5 w4
    have k1 := hgk_116 (X := X) (w := x1) hw b2 (by omega)
    have k2 := hgk_116 (X := X) (w := x2) w1 l1 (by omega)
    have k3 := hgk_116 (X := X) (w := x3) w2 l2 (by omega)
    have k4 := hgk_116 (X := X) (w := x4) w3 l3 (by omega)
    have k5 := hgk_116 (X := X) (w := x5) w4 l4 (by omega)
    rw [← hM1] at k1
    rw [← hM2] at k2
    rw [← hM3] at k3
    rw [← hM4] at k4
    rw [← hM5] at k5
    have l5' : hgI M5 0 1 = nI (bl + 20) := l5
    have kc : hgWC X 83 [.ref 0, .int x1, .int x2, .int x3, .int x4, .int x5] M = some (.inl (.int (nI (bl + 20))), M5) := by
      simp (maxDischargeDepth := 7) only [hgc83, hgM_t, hgM_f, hgM_n, hgx_aload_n_0, hgx_get0, hgx_sipush_880, hgx_ic_le, hgx_iconst_m1, hgx_ret1, hgx_iload_n_1, hgx_invvirtual_2, hgx_aft_e, hgx_aft_i, hgx_aft_l, hgx_aft_v, hgx_iload_n_2, hgx_iload_n_3, hgx_iload_4, hgx_iload_5, hgv83_0, hgr83_0, hgu83_0, hgv83_12, hgr83_12, hgu83_12, hgI_SI, hgI_SJ, hgJ_SI, hgJ_SJ, if_true, if_false, reduceIte, Nat.reduceEqDiff, hgWf_SI, hgWf_SJ, hgO_SI, hgO_SJ, hgAr_SI, hgAr_SJ, hgRp_SI, hgRp_SJ, hgN_SI, hgN_SJ, hgO_g, hgO_d, hgO_rl, hgO_r, hgO_0, hgO_1, hgO_64, hgO_298, hgO_300, hgCd_0, hgCd_1, hgCd_2, hgCd_3, hgCd_4, hgCd_5, hgRecv_O, hgRecv_99, List.length_cons, List.length_nil, Nat.zero_add, Nat.add_zero, Nat.le_refl, Nat.zero_le, and_self, or_true, true_or, true_and, and_true, ne_eq, not_false_eq_true, Nat.reduceLT, Nat.reduceLeDiff, Nat.reduceAdd, Nat.reduceEqDiff, hgn_eq, hgn_lt, hgn_le, if_true, if_false, reduceIte, Nat.not_lt_zero, hw, b2, c1, hl, k1, w1, k2, w2, k3, w3, k4, w4, k5, w5, l5']
    have F5 : hgFn (fun b => b = 0 ∨ b = 5) M M5 := hgFn_t (hgFn_t (hgFn_t (hgFn_t f1 f2) f3) f4) f5
    have hC5 : hgSC M5 V Hs c := hgSC_fm (hgFn_f F5) w5 (fun b hb => by omega) hC
    have hR5 : hgSM M5 V Hs c := hgSM_fm (hgFn_f F5) w5 (fun b hb => by omega) hR
    have r2 : hgI M5 300 2 = nI bl := by rw [(F5.2.2 300 (by omega) 2).1]; exact b3
    have e9 : bl + 20 ≤ 900 := hl2
    obtain ⟨M6, k6, f6, l6, o6, s6, t6⟩ := hgk_134l (X := X) (x1 := x1) (x2 := x2) (x3 := x3) (x4 := x4) (x5 := x5) (bl := bl) hl2 20 0 (hgSI M5 300 0 (nI 0)) none (by omega) w5 (by rw [hgI_nk (by omega)]; exact r2)
    have w6 := hgFn_w f6 (show hgWf (hgSI M5 300 0 (nI 0)) from w5)
    have kr : hgWC X 134 [.ref 300, .int x1, .int x2, .int x3, .int x4, .int x5] M5 = some (.inl (.int (nI (bl + 20))), M6) := by
      simp (maxDischargeDepth := 7) only [hgc134, hgM_t, hgM_f, hgM_n, hgx_aload_n_0, hgx_iconst_0, hgx_put0, hgx_get0, hgx_bipush_20, hgx_iadd, hgx_sipush_900, hgx_ic_le, hgx_iconst_m1, hgx_ret1, hgx_istore_6i, hgx_istore_6r, hgx_istore_6f, hgx_istore_6n, hgx_istore_6l, hgx_iload_6, hgx_ic_ge, hgx_iconst_4, hgx_iload_n_1, hgx_goto, hgx_bipush_8, hgx_iload_n_2, hgx_bipush_12, hgx_iload_n_3, hgx_bipush_16, hgx_iload_4, hgx_iload_5, hgx_istore_7i, hgx_istore_7r, hgx_istore_7f, hgx_istore_7n, hgx_istore_7l, hgs_get_8_1, hgx_iload_7, hgx_bipush_24, hgx_irem, hgx_imul, hgx_isub, hgx_ishr, hgx_sipush_255, hgx_iand, hgx_dup_i, hgx_dup_f, hgx_dup_r, hgx_iconst_1, hgx_iinc_6_1, hgv134_0, hgr134_0, hgu134_0, hgv134_20, hgr134_20, hgu134_20, hgv134_23, ← hgu134_23, hgv134_40, hgr134_40, hgu134_40, hgv134_51, hgr134_51, hgu134_51, hgv134_62, hgr134_62, hgu134_62, hgv134_74, hgr134_74, hgu134_74, hgv134_76, hgr134_76, hgu134_76, hgv134_120, hgr134_120, hgu134_120, hgI_SI, hgI_SJ, hgJ_SI, hgJ_SJ, if_true, if_false, reduceIte, Nat.reduceEqDiff, hgWf_SI, hgWf_SJ, hgO_SI, hgO_SJ, hgAr_SI, hgAr_SJ, hgRp_SI, hgRp_SJ, hgN_SI, hgN_SJ, hgO_g, hgO_d, hgO_rl, hgO_r, hgO_0, hgO_1, hgO_64, hgO_298, hgO_300, hgCd_0, hgCd_1, hgCd_2, hgCd_3, hgCd_4, hgCd_5, hgRecv_O, hgRecv_99, List.length_cons, List.length_nil, Nat.zero_add, Nat.add_zero, Nat.le_refl, Nat.zero_le, and_self, or_true, true_or, true_and, and_true, ne_eq, not_false_eq_true, Nat.reduceLT, Nat.reduceLeDiff, Nat.reduceAdd, Nat.reduceEqDiff, hgn_eq, hgn_lt, hgn_le, if_true, if_false, reduceIte, Nat.not_lt_zero, hgn_add, hgn_mul, w5, r2, c2, e9]
      exact k6
    refine ⟨_, _, _, kc, kr, w5, V, Hs, c, by omega, ?_, ?_, hH, bl + 20, hl2, ?_, l6, ?_, fun j hj => ?_⟩
    · exact hgSC_fm (P := fun b => b = 300 ∨ b = 301) (hgFm_t (hgFm_SI hgFm_r (Or.inl rfl)) (hgFn_f f6)) w6 (fun b hb => by omega) hC5
    · obtain ⟨a1, a2, a3, a4, a5, a6, a7⟩ := hR5
      have o : ∀ b, 302 ≤ b → ∀ k, hgI M6 b k = hgI M5 b k ∧ hgJ M6 b k = hgJ M5 b k := fun b hb k => ⟨by rw [(f6.2.2 b (by omega) k).1, hgI_na (by omega)], by rw [(f6.2.2 b (by omega) k).2, hgJ_SI]⟩
      exact ⟨w6, hgRV_to (M := M5) f6.1 (fun k => (o 302 (by omega) k).1) (fun k => (o 314 (by omega) k).2) a2, a3, a4, a5, by rw [o6 15 (by omega), hgI_nk (by omega)]; exact a6, fun j hj => hgRV_to (M := M5) f6.1 (fun k => (o _ (by omega) k).1) (fun k => (o _ (by omega) k).2) (a7 j hj)⟩
    · rw [(f6.2.2 0 (by omega) 1).1, hgI_na (by omega)]; exact l5'
    · rw [(f6.2.2 0 (by omega) 2).1, hgI_na (by omega), o5, o4, o3, o2, o1, o6 7 (by omega), hgI_nk (by omega), (F5.2.2 300 (by omega) 7).1]
      exact b4
    · rw [(f6.2.2 5 (by omega) j).1, hgI_na (by omega)]
      by_cases hj1 : j < bl
      · rw [t6 j (by omega), hgI_na (by omega), (F5.2.2 301 (by omega) j).1, t5 j (by omega), t4 j (by omega), t3 j (by omega), t2 j (by omega), t1 j hj1]
        exact b5 j hj1
      · obtain ⟨q, rfl⟩ : ∃ q, j = bl + q := ⟨j - bl, by omega⟩
        rw [s6 q (by omega) (by omega)]
        unfold hgWo
        by_cases q1 : q < 4
        · rw [if_pos q1, t5 _ (by omega), t4 _ (by omega), t3 _ (by omega), t2 _ (by omega), s1 q q1, hgBy_r _ _ q1, Nat.mod_eq_of_lt q1]
        · rw [if_neg q1]
          by_cases q2 : q < 8
          · have z := s2 (q - 4) (by omega)
            rw [show bl + 4 + (q - 4) = bl + q by omega] at z
            rw [if_pos q2, t5 _ (by omega), t4 _ (by omega), t3 _ (by omega), z, hgBy_r _ _ (by omega), show q % 4 = q - 4 by omega]
          · rw [if_neg q2]
            by_cases q3 : q < 12
            · have z := s3 (q - 8) (by omega)
              rw [show bl + 4 + 4 + (q - 8) = bl + q by omega] at z
              rw [if_pos q3, t5 _ (by omega), t4 _ (by omega), z, hgBy_r _ _ (by omega), show q % 4 = q - 8 by omega]
            · rw [if_neg q3]
              by_cases q4 : q < 16
              · have z := s4 (q - 12) (by omega)
                rw [show bl + 4 + 4 + 4 + (q - 12) = bl + q by omega] at z
                rw [if_pos q4, t5 _ (by omega), z, hgBy_r _ _ (by omega), show q % 4 = q - 12 by omega]
              · have z := s5 (q - 16) (by omega)
                rw [show bl + 4 + 4 + 4 + 4 + (q - 16) = bl + q by omega] at z
                rw [if_neg q4, z, hgBy_r _ _ (by omega), show q % 4 = q - 16 by omega]
  · have hl2 : ¬ bl + 20 ≤ 900 := by omega
    have k1 : hgWC X 83 [.ref 0, .int x1, .int x2, .int x3, .int x4, .int x5] M = some (.inl (.int (-1)), M) := by
      simp (maxDischargeDepth := 7) only [hgc83, hgM_t, hgM_f, hgM_n, hgx_aload_n_0, hgx_get0, hgx_sipush_880, hgx_ic_le, hgx_iconst_m1, hgx_ret1, hgx_iload_n_1, hgx_invvirtual_2, hgx_aft_e, hgx_aft_i, hgx_aft_l, hgx_aft_v, hgx_iload_n_2, hgx_iload_n_3, hgx_iload_4, hgx_iload_5, hgv83_0, hgr83_0, hgu83_0, hgv83_12, hgr83_12, hgu83_12, hgI_SI, hgI_SJ, hgJ_SI, hgJ_SJ, if_true, if_false, reduceIte, Nat.reduceEqDiff, hgWf_SI, hgWf_SJ, hgO_SI, hgO_SJ, hgAr_SI, hgAr_SJ, hgRp_SI, hgRp_SJ, hgN_SI, hgN_SJ, hgO_g, hgO_d, hgO_rl, hgO_r, hgO_0, hgO_1, hgO_64, hgO_298, hgO_300, hgCd_0, hgCd_1, hgCd_2, hgCd_3, hgCd_4, hgCd_5, hgRecv_O, hgRecv_99, List.length_cons, List.length_nil, Nat.zero_add, Nat.add_zero, Nat.le_refl, Nat.zero_le, and_self, or_true, true_or, true_and, and_true, ne_eq, not_false_eq_true, Nat.reduceLT, Nat.reduceLeDiff, Nat.reduceAdd, Nat.reduceEqDiff, hgn_eq, hgn_lt, hgn_le, if_true, if_false, reduceIte, Nat.not_lt_zero, hw, b2, c1, hl]
    have k2 : hgWC X 134 [.ref 300, .int x1, .int x2, .int x3, .int x4, .int x5] M = some (.inl (.int (-1)), hgSI M 300 0 (nI 0)) := by
      simp (maxDischargeDepth := 7) only [hgc134, hgM_t, hgM_f, hgM_n, hgx_aload_n_0, hgx_iconst_0, hgx_put0, hgx_get0, hgx_bipush_20, hgx_iadd, hgx_sipush_900, hgx_ic_le, hgx_iconst_m1, hgx_ret1, hgx_istore_6i, hgx_istore_6r, hgx_istore_6f, hgx_istore_6n, hgx_istore_6l, hgx_iload_6, hgx_ic_ge, hgx_iconst_4, hgx_iload_n_1, hgx_goto, hgx_bipush_8, hgx_iload_n_2, hgx_bipush_12, hgx_iload_n_3, hgx_bipush_16, hgx_iload_4, hgx_iload_5, hgx_istore_7i, hgx_istore_7r, hgx_istore_7f, hgx_istore_7n, hgx_istore_7l, hgs_get_8_1, hgx_iload_7, hgx_bipush_24, hgx_irem, hgx_imul, hgx_isub, hgx_ishr, hgx_sipush_255, hgx_iand, hgx_dup_i, hgx_dup_f, hgx_dup_r, hgx_iconst_1, hgx_iinc_6_1, hgv134_0, hgr134_0, hgu134_0, hgv134_20, hgr134_20, hgu134_20, hgv134_23, ← hgu134_23, hgv134_40, hgr134_40, hgu134_40, hgv134_51, hgr134_51, hgu134_51, hgv134_62, hgr134_62, hgu134_62, hgv134_74, hgr134_74, hgu134_74, hgv134_76, hgr134_76, hgu134_76, hgv134_120, hgr134_120, hgu134_120, hgI_SI, hgI_SJ, hgJ_SI, hgJ_SJ, if_true, if_false, reduceIte, Nat.reduceEqDiff, hgWf_SI, hgWf_SJ, hgO_SI, hgO_SJ, hgAr_SI, hgAr_SJ, hgRp_SI, hgRp_SJ, hgN_SI, hgN_SJ, hgO_g, hgO_d, hgO_rl, hgO_r, hgO_0, hgO_1, hgO_64, hgO_298, hgO_300, hgCd_0, hgCd_1, hgCd_2, hgCd_3, hgCd_4, hgCd_5, hgRecv_O, hgRecv_99, List.length_cons, List.length_nil, Nat.zero_add, Nat.add_zero, Nat.le_refl, Nat.zero_le, and_self, or_true, true_or, true_and, and_true, ne_eq, not_false_eq_true, Nat.reduceLT, Nat.reduceLeDiff, Nat.reduceAdd, Nat.reduceEqDiff, hgn_eq, hgn_lt, hgn_le, if_true, if_false, reduceIte, Nat.not_lt_zero, hgn_add, hgn_mul, hw, b3, c2, hl2]
    exact ⟨_, _, _, k1, k2, hw, hgInv_2 hb hC hgFC_r (hgSM_0 hR) hgFR_0 hH (by omega)⟩
end HGAPP

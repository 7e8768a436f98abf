/-! THE LAW'S LOOP: one call of each side after the other. -/
theorem hgeq_cmp (u v : Int64) : (lg_cmp u v = nI 0) = (u = v) := by
  unfold lg_cmp
  refine propext ⟨fun h => ?_, fun h => ?_⟩
  · split at h
    · exact absurd h (by decide)
    · split at h
      · next h2 => exact h2
      · exact absurd h (by decide)
  · have h1 : ¬ u > v := fun q => by rw [h] at q; exact absurd q Int64.lt_irrefl
    rw [if_neg h1, if_pos h]
    rfl
theorem hgand63 (y : Int32) : ∃ v, v < 64 ∧ y &&& nI 63 = nI v := by
  have e : (y &&& nI 63).toBitVec.toNat ≤ 63 := by
    rw [Int32.toBitVec_and, BitVec.toNat_and]
    exact Nat.and_le_right
  refine ⟨(y &&& nI 63).toBitVec.toNat, by omega, ?_⟩
  apply Int32.toBitVec_inj.mp
  apply BitVec.eq_of_toNat_eq
  show _ = (BitVec.ofNat 32 (y &&& nI 63).toBitVec.toNat).toNat
  rw [BitVec.toNat_ofNat]
  omega
section HGLAW
variable {X : hgX} {M M' M1 M2 M3 Mo : hgMem} {n k1 k2 : Nat} {rm : hgK} {C : Nat → List Value → hgMem → Option hgOut} {J : Nat → hgL → List Value → hgK → hgMem → Option hgOut} {l t : Nat} {hs : List (Nat × Nat × Nat)} {rs : List hgRow} {L : hgL} {S : List Value} {K : hgK} {x : Int32} {a b c : Int} {d : Array Int}
theorem hgx_tsw : hgEx X rm C J ((.tableswitch a b c d, l, [t], hs) :: rs) L (.int x :: S) K M = if hgIn x hs.length = true then J (hs.getD x.toNatClampNeg (0, 0, 0)).1 L S K M else J t L S K M := id rfl
/-- what a case of the law's switch does -/
def hgCse (X : hgX) (pc n k1 k2 : Nat) (M : hgMem) : Prop := ∃ M2 j1 j2, hgW X 227 pc [some (.ref 2000), some (.ref 0), some (.ref 300), some (.ref 325), some (.int (nI (6 * n))), none, none, none] [] (k1, k2) M = hgW X 227 23 [some (.ref 2000), some (.ref 0), some (.ref 300), some (.ref 325), some (.int (nI (6 * n + 6))), none, none, none] [] (j1, j2) M2 ∧ hgInv M2 (n + 1) ∧ j1 ≤ k1 + 4 ∧ j2 ≤ k2 + 24
theorem hgInv_w (h : hgInv M n) : hgWf M := by
  obtain ⟨V, Hs, c, hc, hC, _⟩ := h
  exact hC.1
theorem hgCs_188 (hX : 6 * n + 6 ≤ X.1) (hX2 : X.1 ≤ 3072) (hk1 : k1 ≤ 10000) (hk2 : k2 ≤ 1000000) (hw : hgWf M) (h : hgAi X 83 [.ref 0, .int (X.2 (6 * n + 1)), .int (X.2 (6 * n + 2)), .int (X.2 (6 * n + 3)), .int (X.2 (6 * n + 4)), .int (X.2 (6 * n + 5))] 134 [.ref 300, .int (X.2 (6 * n + 1)), .int (X.2 (6 * n + 2)), .int (X.2 (6 * n + 3)), .int (X.2 (6 * n + 4)), .int (X.2 (6 * n + 5))] M n) : hgCse X 188 n k1 k2 M := by
  obtain ⟨a, M1, M2, e1, e2, w1, inv⟩ := h
  have x1 : 6 * n + 1 < X.1 := by omega
  have x2 : 6 * n + 2 < X.1 := by omega
  have x3 : 6 * n + 3 < X.1 := by omega
  have x4 : 6 * n + 4 < X.1 := by omega
  have x5 : 6 * n + 5 < X.1 := by omega
  have xl : X.1 < 2147483648 := by omega
  have q1 : k1 + 0 ≤ 601024 := by omega
  have q2 : k2 + 0 ≤ 7293034 := by omega
  have q3 : k1 ≤ 601024 := by omega
  have q4 : k2 ≤ 7293034 := by omega
  refine ⟨M2, k1 + 0, k2 + 0, ?_, inv, by omega, by omega⟩
  simp (maxDischargeDepth := 7) only [hgM_t, hgM_f, hgM_n, hgx_aload_n_1, hgx_aload_n_0, hgx_iload_4, hgx_iconst_1, hgx_iadd, hgx_iconst_2, hgx_iconst_3, hgx_iconst_4, hgx_iconst_5, hgx_invvirtual_6, hgx_aft_e, hgx_aft_i, hgx_aft_l, hgx_aft_v, hgx_aload_n_2, hgx_ic_eq, hgx_iconst_0, hgx_ret3, hgx_iinc_4_6, hgx_goto, hgv227_188, hgr227_188, hgu227_188, hgv227_1821, hgr227_1821, hgu227_1821, hgv227_23, hgI_SI, hgI_SJ, hgJ_SI, hgJ_SJ, if_true, if_false, reduceIte, Nat.reduceEqDiff, hgWf_SI, hgWf_SJ, hgO_SI, hgO_SJ, hgAr_SI, hgAr_SJ, hgRp_SI, hgRp_SJ, hgN_SI, hgN_SJ, hgO_g, hgO_d, hgO_rl, hgO_r, hgO_0, hgO_1, hgO_64, hgO_298, hgO_300, hgCd_0, hgCd_1, hgCd_2, hgCd_3, hgCd_4, hgCd_5, hgRecv_O, hgRecv_99, List.length_cons, List.length_nil, Nat.zero_add, Nat.add_zero, Nat.le_refl, Nat.zero_le, and_self, or_true, true_or, true_and, and_true, ne_eq, not_false_eq_true, Nat.reduceLT, Nat.reduceLeDiff, Nat.reduceAdd, Nat.reduceEqDiff, hgn_eq, hgn_lt, hgn_le, if_true, if_false, reduceIte, Nat.not_lt_zero, hgs_aa_d, hgs_aa_r, hgs_aa_h, hgs_aa_m, hgs_aa_t, hgs_ld_wp, hgs_st_wp, hgs_ld_qf, hgs_st_qf, hgs_ld_qt, hgs_st_qt, hgs_ld_2, hgs_st_2, hgs_ld_3, hgs_st_3, hgs_ld_4, hgs_st_4, hgs_ld_301, hgs_st_301, hgs_ld_D, hgs_st_D, hgs_ld_s, hgs_ld_T, hgs_st_T, hgs_ld_o, hgs_st_o, hgs_ld_b, hgs_st_b, hgs_ld_z, hgs_st_z, hgs_al_b, hgx_alen_s, hgn_add, hgn_mul, hw, x1, x2, x3, x4, x5, xl, q1, q2, q3, q4, e1, w1, e2, hgeq_cmp]
theorem hgCs_261 (hX : 6 * n + 6 ≤ X.1) (hX2 : X.1 ≤ 3072) (hk1 : k1 ≤ 10000) (hk2 : k2 ≤ 1000000) (hw : hgWf M) (h : hgBi X 205 [.ref 0, .int (X.2 (6 * n + 1)), .ref 325] 154 [.ref 300, .int (X.2 (6 * n + 1))] M n) : hgCse X 261 n k1 k2 M := by
  obtain ⟨k, b, M1, M2, e1, e2, w1, t, jj, inv⟩ := h
  have x1 : 6 * n + 1 < X.1 := by omega
  have x2 : 6 * n + 2 < X.1 := by omega
  have x3 : 6 * n + 3 < X.1 := by omega
  have x4 : 6 * n + 4 < X.1 := by omega
  have x5 : 6 * n + 5 < X.1 := by omega
  have xl : X.1 < 2147483648 := by omega
  have q1 : k1 + 1 ≤ 601024 := by omega
  have q2 : k2 + 6 ≤ 7293034 := by omega
  have q3 : k1 ≤ 601024 := by omega
  have q4 : k2 ≤ 7293034 := by omega
  have w2 := hgInv_w inv
  have k123 := hgk_123 (X := X) w2
  rw [t] at k123
  refine ⟨M2, k1 + 1, k2 + 6, ?_, inv, by omega, by omega⟩
  by_cases hk : k = nI 0
  · have jo := jj hk
    simp (maxDischargeDepth := 7) only [hgM_t, hgM_f, hgM_n, hgx_aload_n_1, hgx_aload_n_0, hgx_iload_4, hgx_iconst_1, hgx_iadd, hgx_aload_n_3, hgx_invstatic_3, hgx_aft_e, hgx_aft_i, hgx_aft_l, hgx_aft_v, hgx_istore_5i, hgx_istore_5r, hgx_istore_5f, hgx_istore_5n, hgx_istore_5l, hgx_aload_n_2, hgx_invvirtual_2, hgx_istore_6i, hgx_istore_6r, hgx_istore_6f, hgx_istore_6n, hgx_istore_6l, hgx_invvirtual_1, hgx_iload_5, hgx_ic_eq, hgx_iconst_0, hgx_ret3, hgx_if_ne, hgx_iload_6, hgx_i2l, hgx_lcmp, hgx_if_eq, hgx_goto, hgx_iinc_4_6, hgv227_261, hgr227_261, hgu227_261, hgv227_297, hgr227_297, hgu227_297, hgv227_314, hgr227_314, hgu227_314, hgv227_1821, hgr227_1821, hgu227_1821, hgv227_23, hgI_SI, hgI_SJ, hgJ_SI, hgJ_SJ, if_true, if_false, reduceIte, Nat.reduceEqDiff, hgWf_SI, hgWf_SJ, hgO_SI, hgO_SJ, hgAr_SI, hgAr_SJ, hgRp_SI, hgRp_SJ, hgN_SI, hgN_SJ, hgO_g, hgO_d, hgO_rl, hgO_r, hgO_0, hgO_1, hgO_64, hgO_298, hgO_300, hgCd_0, hgCd_1, hgCd_2, hgCd_3, hgCd_4, hgCd_5, hgRecv_O, hgRecv_99, List.length_cons, List.length_nil, Nat.zero_add, Nat.add_zero, Nat.le_refl, Nat.zero_le, and_self, or_true, true_or, true_and, and_true, ne_eq, not_false_eq_true, Nat.reduceLT, Nat.reduceLeDiff, Nat.reduceAdd, Nat.reduceEqDiff, hgn_eq, hgn_lt, hgn_le, if_true, if_false, reduceIte, Nat.not_lt_zero, hgs_aa_d, hgs_aa_r, hgs_aa_h, hgs_aa_m, hgs_aa_t, hgs_ld_wp, hgs_st_wp, hgs_ld_qf, hgs_st_qf, hgs_ld_qt, hgs_st_qt, hgs_ld_2, hgs_st_2, hgs_ld_3, hgs_st_3, hgs_ld_4, hgs_st_4, hgs_ld_301, hgs_st_301, hgs_ld_D, hgs_st_D, hgs_ld_s, hgs_ld_T, hgs_st_T, hgs_ld_o, hgs_st_o, hgs_ld_b, hgs_st_b, hgs_ld_z, hgs_st_z, hgs_al_b, hgx_alen_s, hgn_add, hgn_mul, hw, x1, x2, x3, x4, x5, xl, q1, q2, e1, w1, e2, w2, k123, hk, jo, hgeq_cmp]
  · simp (maxDischargeDepth := 7) only [hgM_t, hgM_f, hgM_n, hgx_aload_n_1, hgx_aload_n_0, hgx_iload_4, hgx_iconst_1, hgx_iadd, hgx_aload_n_3, hgx_invstatic_3, hgx_aft_e, hgx_aft_i, hgx_aft_l, hgx_aft_v, hgx_istore_5i, hgx_istore_5r, hgx_istore_5f, hgx_istore_5n, hgx_istore_5l, hgx_aload_n_2, hgx_invvirtual_2, hgx_istore_6i, hgx_istore_6r, hgx_istore_6f, hgx_istore_6n, hgx_istore_6l, hgx_invvirtual_1, hgx_iload_5, hgx_ic_eq, hgx_iconst_0, hgx_ret3, hgx_if_ne, hgx_iload_6, hgx_i2l, hgx_lcmp, hgx_if_eq, hgx_goto, hgx_iinc_4_6, hgv227_261, hgr227_261, hgu227_261, hgv227_297, hgr227_297, hgu227_297, hgv227_314, hgr227_314, hgu227_314, hgv227_1821, hgr227_1821, hgu227_1821, hgv227_23, hgI_SI, hgI_SJ, hgJ_SI, hgJ_SJ, if_true, if_false, reduceIte, Nat.reduceEqDiff, hgWf_SI, hgWf_SJ, hgO_SI, hgO_SJ, hgAr_SI, hgAr_SJ, hgRp_SI, hgRp_SJ, hgN_SI, hgN_SJ, hgO_g, hgO_d, hgO_rl, hgO_r, hgO_0, hgO_1, hgO_64, hgO_298, hgO_300, hgCd_0, hgCd_1, hgCd_2, hgCd_3, hgCd_4, hgCd_5, hgRecv_O, hgRecv_99, List.length_cons, List.length_nil, Nat.zero_add, Nat.add_zero, Nat.le_refl, Nat.zero_le, and_self, or_true, true_or, true_and, and_true, ne_eq, not_false_eq_true, Nat.reduceLT, Nat.reduceLeDiff, Nat.reduceAdd, Nat.reduceEqDiff, hgn_eq, hgn_lt, hgn_le, if_true, if_false, reduceIte, Nat.not_lt_zero, hgs_aa_d, hgs_aa_r, hgs_aa_h, hgs_aa_m, hgs_aa_t, hgs_ld_wp, hgs_st_wp, hgs_ld_qf, hgs_st_qf, hgs_ld_qt, hgs_st_qt, hgs_ld_2, hgs_st_2, hgs_ld_3, hgs_st_3, hgs_ld_4, hgs_st_4, hgs_ld_301, hgs_st_301, hgs_ld_D, hgs_st_D, hgs_ld_s, hgs_ld_T, hgs_st_T, hgs_ld_o, hgs_st_o, hgs_ld_b, hgs_st_b, hgs_ld_z, hgs_st_z, hgs_al_b, hgx_alen_s, hgn_add, hgn_mul, hw, x1, x2, x3, x4, x5, xl, q1, q2, e1, w1, e2, w2, k123, hk]
theorem hgCs_317 (hX : 6 * n + 6 ≤ X.1) (hX2 : X.1 ≤ 3072) (hk1 : k1 ≤ 10000) (hk2 : k2 ≤ 1000000) (hw : hgWf M) (h : hgAi X 85 [.ref 0] 155 [.ref 300] M n) : hgCse X 317 n k1 k2 M := by
  obtain ⟨a, M1, M2, e1, e2, w1, inv⟩ := h
  have x1 : 6 * n + 1 < X.1 := by omega
  have x2 : 6 * n + 2 < X.1 := by omega
  have x3 : 6 * n + 3 < X.1 := by omega
  have x4 : 6 * n + 4 < X.1 := by omega
  have x5 : 6 * n + 5 < X.1 := by omega
  have xl : X.1 < 2147483648 := by omega
  have q1 : k1 + 0 ≤ 601024 := by omega
  have q2 : k2 + 0 ≤ 7293034 := by omega
  have q3 : k1 ≤ 601024 := by omega
  have q4 : k2 ≤ 7293034 := by omega
  refine ⟨M2, k1 + 0, k2 + 0, ?_, inv, by omega, by omega⟩
  simp (maxDischargeDepth := 7) only [hgM_t, hgM_f, hgM_n, hgx_aload_n_1, hgx_invvirtual_1, hgx_aft_e, hgx_aft_i, hgx_aft_l, hgx_aft_v, hgx_aload_n_2, hgx_ic_eq, hgx_iconst_0, hgx_ret3, hgx_iinc_4_6, hgx_goto, hgv227_317, hgr227_317, hgu227_317, hgv227_1821, hgr227_1821, hgu227_1821, hgv227_23, hgI_SI, hgI_SJ, hgJ_SI, hgJ_SJ, if_true, if_false, reduceIte, Nat.reduceEqDiff, hgWf_SI, hgWf_SJ, hgO_SI, hgO_SJ, hgAr_SI, hgAr_SJ, hgRp_SI, hgRp_SJ, hgN_SI, hgN_SJ, hgO_g, hgO_d, hgO_rl, hgO_r, hgO_0, hgO_1, hgO_64, hgO_298, hgO_300, hgCd_0, hgCd_1, hgCd_2, hgCd_3, hgCd_4, hgCd_5, hgRecv_O, hgRecv_99, List.length_cons, List.length_nil, Nat.zero_add, Nat.add_zero, Nat.le_refl, Nat.zero_le, and_self, or_true, true_or, true_and, and_true, ne_eq, not_false_eq_true, Nat.reduceLT, Nat.reduceLeDiff, Nat.reduceAdd, Nat.reduceEqDiff, hgn_eq, hgn_lt, hgn_le, if_true, if_false, reduceIte, Nat.not_lt_zero, hgs_aa_d, hgs_aa_r, hgs_aa_h, hgs_aa_m, hgs_aa_t, hgs_ld_wp, hgs_st_wp, hgs_ld_qf, hgs_st_qf, hgs_ld_qt, hgs_st_qt, hgs_ld_2, hgs_st_2, hgs_ld_3, hgs_st_3, hgs_ld_4, hgs_st_4, hgs_ld_301, hgs_st_301, hgs_ld_D, hgs_st_D, hgs_ld_s, hgs_ld_T, hgs_st_T, hgs_ld_o, hgs_st_o, hgs_ld_b, hgs_st_b, hgs_ld_z, hgs_st_z, hgs_al_b, hgx_alen_s, hgn_add, hgn_mul, hw, x1, x2, x3, x4, x5, xl, q1, q2, q3, q4, e1, w1, e2, hgeq_cmp]
theorem hgCs_330 (hX : 6 * n + 6 ≤ X.1) (hX2 : X.1 ≤ 3072) (hk1 : k1 ≤ 10000) (hk2 : k2 ≤ 1000000) (hw : hgWf M) (h : hgAi X 86 [.ref 0] 168 [.ref 300] M n) : hgCse X 330 n k1 k2 M := by
  obtain ⟨a, M1, M2, e1, e2, w1, inv⟩ := h
  have x1 : 6 * n + 1 < X.1 := by omega
  have x2 : 6 * n + 2 < X.1 := by omega
  have x3 : 6 * n + 3 < X.1 := by omega
  have x4 : 6 * n + 4 < X.1 := by omega
  have x5 : 6 * n + 5 < X.1 := by omega
  have xl : X.1 < 2147483648 := by omega
  have q1 : k1 + 0 ≤ 601024 := by omega
  have q2 : k2 + 0 ≤ 7293034 := by omega
  have q3 : k1 ≤ 601024 := by omega
  have q4 : k2 ≤ 7293034 := by omega
  refine ⟨M2, k1 + 0, k2 + 0, ?_, inv, by omega, by omega⟩
  simp (maxDischargeDepth := 7) only [hgM_t, hgM_f, hgM_n, hgx_aload_n_1, hgx_invvirtual_1, hgx_aft_e, hgx_aft_i, hgx_aft_l, hgx_aft_v, hgx_aload_n_2, hgx_ic_eq, hgx_iconst_0, hgx_ret3, hgx_iinc_4_6, hgx_goto, hgv227_330, hgr227_330, hgu227_330, hgv227_1821, hgr227_1821, hgu227_1821, hgv227_23, hgI_SI, hgI_SJ, hgJ_SI, hgJ_SJ, if_true, if_false, reduceIte, Nat.reduceEqDiff, hgWf_SI, hgWf_SJ, hgO_SI, hgO_SJ, hgAr_SI, hgAr_SJ, hgRp_SI, hgRp_SJ, hgN_SI, hgN_SJ, hgO_g, hgO_d, hgO_rl, hgO_r, hgO_0, hgO_1, hgO_64, hgO_298, hgO_300, hgCd_0, hgCd_1, hgCd_2, hgCd_3, hgCd_4, hgCd_5, hgRecv_O, hgRecv_99, List.length_cons, List.length_nil, Nat.zero_add, Nat.add_zero, Nat.le_refl, Nat.zero_le, and_self, or_true, true_or, true_and, and_true, ne_eq, not_false_eq_true, Nat.reduceLT, Nat.reduceLeDiff, Nat.reduceAdd, Nat.reduceEqDiff, hgn_eq, hgn_lt, hgn_le, if_true, if_false, reduceIte, Nat.not_lt_zero, hgs_aa_d, hgs_aa_r, hgs_aa_h, hgs_aa_m, hgs_aa_t, hgs_ld_wp, hgs_st_wp, hgs_ld_qf, hgs_st_qf, hgs_ld_qt, hgs_st_qt, hgs_ld_2, hgs_st_2, hgs_ld_3, hgs_st_3, hgs_ld_4, hgs_st_4, hgs_ld_301, hgs_st_301, hgs_ld_D, hgs_st_D, hgs_ld_s, hgs_ld_T, hgs_st_T, hgs_ld_o, hgs_st_o, hgs_ld_b, hgs_st_b, hgs_ld_z, hgs_st_z, hgs_al_b, hgx_alen_s, hgn_add, hgn_mul, hw, x1, x2, x3, x4, x5, xl, q1, q2, q3, q4, e1, w1, e2, hgeq_cmp]
theorem hgCs_343 (hX : 6 * n + 6 ≤ X.1) (hX2 : X.1 ≤ 3072) (hk1 : k1 ≤ 10000) (hk2 : k2 ≤ 1000000) (hw : hgWf M) (h : hgAi X 87 [.ref 0] 169 [.ref 300] M n) : hgCse X 343 n k1 k2 M := by
  obtain ⟨a, M1, M2, e1, e2, w1, inv⟩ := h
  have x1 : 6 * n + 1 < X.1 := by omega
  have x2 : 6 * n + 2 < X.1 := by omega
  have x3 : 6 * n + 3 < X.1 := by omega
  have x4 : 6 * n + 4 < X.1 := by omega
  have x5 : 6 * n + 5 < X.1 := by omega
  have xl : X.1 < 2147483648 := by omega
  have q1 : k1 + 0 ≤ 601024 := by omega
  have q2 : k2 + 0 ≤ 7293034 := by omega
  have q3 : k1 ≤ 601024 := by omega
  have q4 : k2 ≤ 7293034 := by omega
  refine ⟨M2, k1 + 0, k2 + 0, ?_, inv, by omega, by omega⟩
  simp (maxDischargeDepth := 7) only [hgM_t, hgM_f, hgM_n, hgx_aload_n_1, hgx_invvirtual_1, hgx_aft_e, hgx_aft_i, hgx_aft_l, hgx_aft_v, hgx_aload_n_2, hgx_ic_eq, hgx_iconst_0, hgx_ret3, hgx_iinc_4_6, hgx_goto, hgv227_343, hgr227_343, hgu227_343, hgv227_1821, hgr227_1821, hgu227_1821, hgv227_23, hgI_SI, hgI_SJ, hgJ_SI, hgJ_SJ, if_true, if_false, reduceIte, Nat.reduceEqDiff, hgWf_SI, hgWf_SJ, hgO_SI, hgO_SJ, hgAr_SI, hgAr_SJ, hgRp_SI, hgRp_SJ, hgN_SI, hgN_SJ, hgO_g, hgO_d, hgO_rl, hgO_r, hgO_0, hgO_1, hgO_64, hgO_298, hgO_300, hgCd_0, hgCd_1, hgCd_2, hgCd_3, hgCd_4, hgCd_5, hgRecv_O, hgRecv_99, List.length_cons, List.length_nil, Nat.zero_add, Nat.add_zero, Nat.le_refl, Nat.zero_le, and_self, or_true, true_or, true_and, and_true, ne_eq, not_false_eq_true, Nat.reduceLT, Nat.reduceLeDiff, Nat.reduceAdd, Nat.reduceEqDiff, hgn_eq, hgn_lt, hgn_le, if_true, if_false, reduceIte, Nat.not_lt_zero, hgs_aa_d, hgs_aa_r, hgs_aa_h, hgs_aa_m, hgs_aa_t, hgs_ld_wp, hgs_st_wp, hgs_ld_qf, hgs_st_qf, hgs_ld_qt, hgs_st_qt, hgs_ld_2, hgs_st_2, hgs_ld_3, hgs_st_3, hgs_ld_4, hgs_st_4, hgs_ld_301, hgs_st_301, hgs_ld_D, hgs_st_D, hgs_ld_s, hgs_ld_T, hgs_st_T, hgs_ld_o, hgs_st_o, hgs_ld_b, hgs_st_b, hgs_ld_z, hgs_st_z, hgs_al_b, hgx_alen_s, hgn_add, hgn_mul, hw, x1, x2, x3, x4, x5, xl, q1, q2, q3, q4, e1, w1, e2, hgeq_cmp]
theorem hgCs_356 (hX : 6 * n + 6 ≤ X.1) (hX2 : X.1 ≤ 3072) (hk1 : k1 ≤ 10000) (hk2 : k2 ≤ 1000000) (hw : hgWf M) (h : hgAi X 88 [.ref 0] 170 [.ref 300] M n) : hgCse X 356 n k1 k2 M := by
  obtain ⟨a, M1, M2, e1, e2, w1, inv⟩ := h
  have x1 : 6 * n + 1 < X.1 := by omega
  have x2 : 6 * n + 2 < X.1 := by omega
  have x3 : 6 * n + 3 < X.1 := by omega
  have x4 : 6 * n + 4 < X.1 := by omega
  have x5 : 6 * n + 5 < X.1 := by omega
  have xl : X.1 < 2147483648 := by omega
  have q1 : k1 + 0 ≤ 601024 := by omega
  have q2 : k2 + 0 ≤ 7293034 := by omega
  have q3 : k1 ≤ 601024 := by omega
  have q4 : k2 ≤ 7293034 := by omega
  refine ⟨M2, k1 + 0, k2 + 0, ?_, inv, by omega, by omega⟩
  simp (maxDischargeDepth := 7) only [hgM_t, hgM_f, hgM_n, hgx_aload_n_1, hgx_invvirtual_1, hgx_aft_e, hgx_aft_i, hgx_aft_l, hgx_aft_v, hgx_aload_n_2, hgx_ic_eq, hgx_iconst_0, hgx_ret3, hgx_iinc_4_6, hgx_goto, hgv227_356, hgr227_356, hgu227_356, hgv227_1821, hgr227_1821, hgu227_1821, hgv227_23, hgI_SI, hgI_SJ, hgJ_SI, hgJ_SJ, if_true, if_false, reduceIte, Nat.reduceEqDiff, hgWf_SI, hgWf_SJ, hgO_SI, hgO_SJ, hgAr_SI, hgAr_SJ, hgRp_SI, hgRp_SJ, hgN_SI, hgN_SJ, hgO_g, hgO_d, hgO_rl, hgO_r, hgO_0, hgO_1, hgO_64, hgO_298, hgO_300, hgCd_0, hgCd_1, hgCd_2, hgCd_3, hgCd_4, hgCd_5, hgRecv_O, hgRecv_99, List.length_cons, List.length_nil, Nat.zero_add, Nat.add_zero, Nat.le_refl, Nat.zero_le, and_self, or_true, true_or, true_and, and_true, ne_eq, not_false_eq_true, Nat.reduceLT, Nat.reduceLeDiff, Nat.reduceAdd, Nat.reduceEqDiff, hgn_eq, hgn_lt, hgn_le, if_true, if_false, reduceIte, Nat.not_lt_zero, hgs_aa_d, hgs_aa_r, hgs_aa_h, hgs_aa_m, hgs_aa_t, hgs_ld_wp, hgs_st_wp, hgs_ld_qf, hgs_st_qf, hgs_ld_qt, hgs_st_qt, hgs_ld_2, hgs_st_2, hgs_ld_3, hgs_st_3, hgs_ld_4, hgs_st_4, hgs_ld_301, hgs_st_301, hgs_ld_D, hgs_st_D, hgs_ld_s, hgs_ld_T, hgs_st_T, hgs_ld_o, hgs_st_o, hgs_ld_b, hgs_st_b, hgs_ld_z, hgs_st_z, hgs_al_b, hgx_alen_s, hgn_add, hgn_mul, hw, x1, x2, x3, x4, x5, xl, q1, q2, q3, q4, e1, w1, e2, hgeq_cmp]
theorem hgCs_369 (hX : 6 * n + 6 ≤ X.1) (hX2 : X.1 ≤ 3072) (hk1 : k1 ≤ 10000) (hk2 : k2 ≤ 1000000) (hw : hgWf M) (h : hgBi X 206 [.ref 0, .int (X.2 (6 * n + 1)), .ref 325] 171 [.ref 300, .int (X.2 (6 * n + 1))] M n) : hgCse X 369 n k1 k2 M := by
  obtain ⟨k, b, M1, M2, e1, e2, w1, t, jj, inv⟩ := h
  have x1 : 6 * n + 1 < X.1 := by omega
  have x2 : 6 * n + 2 < X.1 := by omega
  have x3 : 6 * n + 3 < X.1 := by omega
  have x4 : 6 * n + 4 < X.1 := by omega
  have x5 : 6 * n + 5 < X.1 := by omega
  have xl : X.1 < 2147483648 := by omega
  have q1 : k1 + 1 ≤ 601024 := by omega
  have q2 : k2 + 6 ≤ 7293034 := by omega
  have q3 : k1 ≤ 601024 := by omega
  have q4 : k2 ≤ 7293034 := by omega
  have w2 := hgInv_w inv
  have k123 := hgk_123 (X := X) w2
  rw [t] at k123
  refine ⟨M2, k1 + 1, k2 + 6, ?_, inv, by omega, by omega⟩
  by_cases hk : k = nI 0
  · have jo := jj hk
    simp (maxDischargeDepth := 7) only [hgM_t, hgM_f, hgM_n, hgx_aload_n_1, hgx_aload_n_0, hgx_iload_4, hgx_iconst_1, hgx_iadd, hgx_aload_n_3, hgx_invstatic_3, hgx_aft_e, hgx_aft_i, hgx_aft_l, hgx_aft_v, hgx_istore_5i, hgx_istore_5r, hgx_istore_5f, hgx_istore_5n, hgx_istore_5l, hgx_aload_n_2, hgx_invvirtual_2, hgx_istore_6i, hgx_istore_6r, hgx_istore_6f, hgx_istore_6n, hgx_istore_6l, hgx_invvirtual_1, hgx_iload_5, hgx_ic_eq, hgx_iconst_0, hgx_ret3, hgx_if_ne, hgx_iload_6, hgx_i2l, hgx_lcmp, hgx_if_eq, hgx_goto, hgx_iinc_4_6, hgv227_369, hgr227_369, hgu227_369, hgv227_405, hgr227_405, hgu227_405, hgv227_422, hgr227_422, hgu227_422, hgv227_1821, hgr227_1821, hgu227_1821, hgv227_23, hgI_SI, hgI_SJ, hgJ_SI, hgJ_SJ, if_true, if_false, reduceIte, Nat.reduceEqDiff, hgWf_SI, hgWf_SJ, hgO_SI, hgO_SJ, hgAr_SI, hgAr_SJ, hgRp_SI, hgRp_SJ, hgN_SI, hgN_SJ, hgO_g, hgO_d, hgO_rl, hgO_r, hgO_0, hgO_1, hgO_64, hgO_298, hgO_300, hgCd_0, hgCd_1, hgCd_2, hgCd_3, hgCd_4, hgCd_5, hgRecv_O, hgRecv_99, List.length_cons, List.length_nil, Nat.zero_add, Nat.add_zero, Nat.le_refl, Nat.zero_le, and_self, or_true, true_or, true_and, and_true, ne_eq, not_false_eq_true, Nat.reduceLT, Nat.reduceLeDiff, Nat.reduceAdd, Nat.reduceEqDiff, hgn_eq, hgn_lt, hgn_le, if_true, if_false, reduceIte, Nat.not_lt_zero, hgs_aa_d, hgs_aa_r, hgs_aa_h, hgs_aa_m, hgs_aa_t, hgs_ld_wp, hgs_st_wp, hgs_ld_qf, hgs_st_qf, hgs_ld_qt, hgs_st_qt, hgs_ld_2, hgs_st_2, hgs_ld_3, hgs_st_3, hgs_ld_4, hgs_st_4, hgs_ld_301, hgs_st_301, hgs_ld_D, hgs_st_D, hgs_ld_s, hgs_ld_T, hgs_st_T, hgs_ld_o, hgs_st_o, hgs_ld_b, hgs_st_b, hgs_ld_z, hgs_st_z, hgs_al_b, hgx_alen_s, hgn_add, hgn_mul, hw, x1, x2, x3, x4, x5, xl, q1, q2, e1, w1, e2, w2, k123, hk, jo, hgeq_cmp]
  · simp (maxDischargeDepth := 7) only [hgM_t, hgM_f, hgM_n, hgx_aload_n_1, hgx_aload_n_0, hgx_iload_4, hgx_iconst_1, hgx_iadd, hgx_aload_n_3, hgx_invstatic_3, hgx_aft_e, hgx_aft_i, hgx_aft_l, hgx_aft_v, hgx_istore_5i, hgx_istore_5r, hgx_istore_5f, hgx_istore_5n, hgx_istore_5l, hgx_aload_n_2, hgx_invvirtual_2, hgx_istore_6i, hgx_istore_6r, hgx_istore_6f, hgx_istore_6n, hgx_istore_6l, hgx_invvirtual_1, hgx_iload_5, hgx_ic_eq, hgx_iconst_0, hgx_ret3, hgx_if_ne, hgx_iload_6, hgx_i2l, hgx_lcmp, hgx_if_eq, hgx_goto, hgx_iinc_4_6, hgv227_369, hgr227_369, hgu227_369, hgv227_405, hgr227_405, hgu227_405, hgv227_422, hgr227_422, hgu227_422, hgv227_1821, hgr227_1821, hgu227_1821, hgv227_23, hgI_SI, hgI_SJ, hgJ_SI, hgJ_SJ, if_true, if_false, reduceIte, Nat.reduceEqDiff, hgWf_SI, hgWf_SJ, hgO_SI, hgO_SJ, hgAr_SI, hgAr_SJ, hgRp_SI, hgRp_SJ, hgN_SI, hgN_SJ, hgO_g, hgO_d, hgO_rl, hgO_r, hgO_0, hgO_1, hgO_64, hgO_298, hgO_300, hgCd_0, hgCd_1, hgCd_2, hgCd_3, hgCd_4, hgCd_5, hgRecv_O, hgRecv_99, List.length_cons, List.length_nil, Nat.zero_add, Nat.add_zero, Nat.le_refl, Nat.zero_le, and_self, or_true, true_or, true_and, and_true, ne_eq, not_false_eq_true, Nat.reduceLT, Nat.reduceLeDiff, Nat.reduceAdd, Nat.reduceEqDiff, hgn_eq, hgn_lt, hgn_le, if_true, if_false, reduceIte, Nat.not_lt_zero, hgs_aa_d, hgs_aa_r, hgs_aa_h, hgs_aa_m, hgs_aa_t, hgs_ld_wp, hgs_st_wp, hgs_ld_qf, hgs_st_qf, hgs_ld_qt, hgs_st_qt, hgs_ld_2, hgs_st_2, hgs_ld_3, hgs_st_3, hgs_ld_4, hgs_st_4, hgs_ld_301, hgs_st_301, hgs_ld_D, hgs_st_D, hgs_ld_s, hgs_ld_T, hgs_st_T, hgs_ld_o, hgs_st_o, hgs_ld_b, hgs_st_b, hgs_ld_z, hgs_st_z, hgs_al_b, hgx_alen_s, hgn_add, hgn_mul, hw, x1, x2, x3, x4, x5, xl, q1, q2, e1, w1, e2, w2, k123, hk]
theorem hgCs_425 (hX : 6 * n + 6 ≤ X.1) (hX2 : X.1 ≤ 3072) (hk1 : k1 ≤ 10000) (hk2 : k2 ≤ 1000000) (hw : hgWf M) (h : hgBi X 207 [.ref 0, .int (X.2 (6 * n + 1)), .ref 325] 172 [.ref 300, .int (X.2 (6 * n + 1))] M n) : hgCse X 425 n k1 k2 M := by
  obtain ⟨k, b, M1, M2, e1, e2, w1, t, jj, inv⟩ := h
  have x1 : 6 * n + 1 < X.1 := by omega
  have x2 : 6 * n + 2 < X.1 := by omega
  have x3 : 6 * n + 3 < X.1 := by omega
  have x4 : 6 * n + 4 < X.1 := by omega
  have x5 : 6 * n + 5 < X.1 := by omega
  have xl : X.1 < 2147483648 := by omega
  have q1 : k1 + 1 ≤ 601024 := by omega
  have q2 : k2 + 6 ≤ 7293034 := by omega
  have q3 : k1 ≤ 601024 := by omega
  have q4 : k2 ≤ 7293034 := by omega
  have w2 := hgInv_w inv
  have k123 := hgk_123 (X := X) w2
  rw [t] at k123
  refine ⟨M2, k1 + 1, k2 + 6, ?_, inv, by omega, by omega⟩
  by_cases hk : k = nI 0
  · have jo := jj hk
    simp (maxDischargeDepth := 7) only [hgM_t, hgM_f, hgM_n, hgx_aload_n_1, hgx_aload_n_0, hgx_iload_4, hgx_iconst_1, hgx_iadd, hgx_aload_n_3, hgx_invstatic_3, hgx_aft_e, hgx_aft_i, hgx_aft_l, hgx_aft_v, hgx_istore_5i, hgx_istore_5r, hgx_istore_5f, hgx_istore_5n, hgx_istore_5l, hgx_aload_n_2, hgx_invvirtual_2, hgx_istore_6i, hgx_istore_6r, hgx_istore_6f, hgx_istore_6n, hgx_istore_6l, hgx_invvirtual_1, hgx_iload_5, hgx_ic_eq, hgx_iconst_0, hgx_ret3, hgx_if_ne, hgx_iload_6, hgx_i2l, hgx_lcmp, hgx_if_eq, hgx_goto, hgx_iinc_4_6, hgv227_425, hgr227_425, hgu227_425, hgv227_461, hgr227_461, hgu227_461, hgv227_478, hgr227_478, hgu227_478, hgv227_1821, hgr227_1821, hgu227_1821, hgv227_23, hgI_SI, hgI_SJ, hgJ_SI, hgJ_SJ, if_true, if_false, reduceIte, Nat.reduceEqDiff, hgWf_SI, hgWf_SJ, hgO_SI, hgO_SJ, hgAr_SI, hgAr_SJ, hgRp_SI, hgRp_SJ, hgN_SI, hgN_SJ, hgO_g, hgO_d, hgO_rl, hgO_r, hgO_0, hgO_1, hgO_64, hgO_298, hgO_300, hgCd_0, hgCd_1, hgCd_2, hgCd_3, hgCd_4, hgCd_5, hgRecv_O, hgRecv_99, List.length_cons, List.length_nil, Nat.zero_add, Nat.add_zero, Nat.le_refl, Nat.zero_le, and_self, or_true, true_or, true_and, and_true, ne_eq, not_false_eq_true, Nat.reduceLT, Nat.reduceLeDiff, Nat.reduceAdd, Nat.reduceEqDiff, hgn_eq, hgn_lt, hgn_le, if_true, if_false, reduceIte, Nat.not_lt_zero, hgs_aa_d, hgs_aa_r, hgs_aa_h, hgs_aa_m, hgs_aa_t, hgs_ld_wp, hgs_st_wp, hgs_ld_qf, hgs_st_qf, hgs_ld_qt, hgs_st_qt, hgs_ld_2, hgs_st_2, hgs_ld_3, hgs_st_3, hgs_ld_4, hgs_st_4, hgs_ld_301, hgs_st_301, hgs_ld_D, hgs_st_D, hgs_ld_s, hgs_ld_T, hgs_st_T, hgs_ld_o, hgs_st_o, hgs_ld_b, hgs_st_b, hgs_ld_z, hgs_st_z, hgs_al_b, hgx_alen_s, hgn_add, hgn_mul, hw, x1, x2, x3, x4, x5, xl, q1, q2, e1, w1, e2, w2, k123, hk, jo, hgeq_cmp]
  · simp (maxDischargeDepth := 7) only [hgM_t, hgM_f, hgM_n, hgx_aload_n_1, hgx_aload_n_0, hgx_iload_4, hgx_iconst_1, hgx_iadd, hgx_aload_n_3, hgx_invstatic_3, hgx_aft_e, hgx_aft_i, hgx_aft_l, hgx_aft_v, hgx_istore_5i, hgx_istore_5r, hgx_istore_5f, hgx_istore_5n, hgx_istore_5l, hgx_aload_n_2, hgx_invvirtual_2, hgx_istore_6i, hgx_istore_6r, hgx_istore_6f, hgx_istore_6n, hgx_istore_6l, hgx_invvirtual_1, hgx_iload_5, hgx_ic_eq, hgx_iconst_0, hgx_ret3, hgx_if_ne, hgx_iload_6, hgx_i2l, hgx_lcmp, hgx_if_eq, hgx_goto, hgx_iinc_4_6, hgv227_425, hgr227_425, hgu227_425, hgv227_461, hgr227_461, hgu227_461, hgv227_478, hgr227_478, hgu227_478, hgv227_1821, hgr227_1821, hgu227_1821, hgv227_23, hgI_SI, hgI_SJ, hgJ_SI, hgJ_SJ, if_true, if_false, reduceIte, Nat.reduceEqDiff, hgWf_SI, hgWf_SJ, hgO_SI, hgO_SJ, hgAr_SI, hgAr_SJ, hgRp_SI, hgRp_SJ, hgN_SI, hgN_SJ, hgO_g, hgO_d, hgO_rl, hgO_r, hgO_0, hgO_1, hgO_64, hgO_298, hgO_300, hgCd_0, hgCd_1, hgCd_2, hgCd_3, hgCd_4, hgCd_5, hgRecv_O, hgRecv_99, List.length_cons, List.length_nil, Nat.zero_add, Nat.add_zero, Nat.le_refl, Nat.zero_le, and_self, or_true, true_or, true_and, and_true, ne_eq, not_false_eq_true, Nat.reduceLT, Nat.reduceLeDiff, Nat.reduceAdd, Nat.reduceEqDiff, hgn_eq, hgn_lt, hgn_le, if_true, if_false, reduceIte, Nat.not_lt_zero, hgs_aa_d, hgs_aa_r, hgs_aa_h, hgs_aa_m, hgs_aa_t, hgs_ld_wp, hgs_st_wp, hgs_ld_qf, hgs_st_qf, hgs_ld_qt, hgs_st_qt, hgs_ld_2, hgs_st_2, hgs_ld_3, hgs_st_3, hgs_ld_4, hgs_st_4, hgs_ld_301, hgs_st_301, hgs_ld_D, hgs_st_D, hgs_ld_s, hgs_ld_T, hgs_st_T, hgs_ld_o, hgs_st_o, hgs_ld_b, hgs_st_b, hgs_ld_z, hgs_st_z, hgs_al_b, hgx_alen_s, hgn_add, hgn_mul, hw, x1, x2, x3, x4, x5, xl, q1, q2, e1, w1, e2, w2, k123, hk]
theorem hgCs_481 (hX : 6 * n + 6 ≤ X.1) (hX2 : X.1 ≤ 3072) (hk1 : k1 ≤ 10000) (hk2 : k2 ≤ 1000000) (hw : hgWf M) (h : hgBi X 208 [.ref 0, .int (X.2 (6 * n + 1)), .ref 325] 173 [.ref 300, .int (X.2 (6 * n + 1))] M n) : hgCse X 481 n k1 k2 M := by
  obtain ⟨k, b, M1, M2, e1, e2, w1, t, jj, inv⟩ := h
  have x1 : 6 * n + 1 < X.1 := by omega
  have x2 : 6 * n + 2 < X.1 := by omega
  have x3 : 6 * n + 3 < X.1 := by omega
  have x4 : 6 * n + 4 < X.1 := by omega
  have x5 : 6 * n + 5 < X.1 := by omega
  have xl : X.1 < 2147483648 := by omega
  have q1 : k1 + 1 ≤ 601024 := by omega
  have q2 : k2 + 6 ≤ 7293034 := by omega
  have q3 : k1 ≤ 601024 := by omega
  have q4 : k2 ≤ 7293034 := by omega
  have w2 := hgInv_w inv
  have k123 := hgk_123 (X := X) w2
  rw [t] at k123
  refine ⟨M2, k1 + 1, k2 + 6, ?_, inv, by omega, by omega⟩
  by_cases hk : k = nI 0
  · have jo := jj hk
    simp (maxDischargeDepth := 7) only [hgM_t, hgM_f, hgM_n, hgx_aload_n_1, hgx_aload_n_0, hgx_iload_4, hgx_iconst_1, hgx_iadd, hgx_aload_n_3, hgx_invstatic_3, hgx_aft_e, hgx_aft_i, hgx_aft_l, hgx_aft_v, hgx_istore_5i, hgx_istore_5r, hgx_istore_5f, hgx_istore_5n, hgx_istore_5l, hgx_aload_n_2, hgx_invvirtual_2, hgx_istore_6i, hgx_istore_6r, hgx_istore_6f, hgx_istore_6n, hgx_istore_6l, hgx_invvirtual_1, hgx_iload_5, hgx_ic_eq, hgx_iconst_0, hgx_ret3, hgx_if_ne, hgx_iload_6, hgx_i2l, hgx_lcmp, hgx_if_eq, hgx_goto, hgx_iinc_4_6, hgv227_481, hgr227_481, hgu227_481, hgv227_517, hgr227_517, hgu227_517, hgv227_534, hgr227_534, hgu227_534, hgv227_1821, hgr227_1821, hgu227_1821, hgv227_23, hgI_SI, hgI_SJ, hgJ_SI, hgJ_SJ, if_true, if_false, reduceIte, Nat.reduceEqDiff, hgWf_SI, hgWf_SJ, hgO_SI, hgO_SJ, hgAr_SI, hgAr_SJ, hgRp_SI, hgRp_SJ, hgN_SI, hgN_SJ, hgO_g, hgO_d, hgO_rl, hgO_r, hgO_0, hgO_1, hgO_64, hgO_298, hgO_300, hgCd_0, hgCd_1, hgCd_2, hgCd_3, hgCd_4, hgCd_5, hgRecv_O, hgRecv_99, List.length_cons, List.length_nil, Nat.zero_add, Nat.add_zero, Nat.le_refl, Nat.zero_le, and_self, or_true, true_or, true_and, and_true, ne_eq, not_false_eq_true, Nat.reduceLT, Nat.reduceLeDiff, Nat.reduceAdd, Nat.reduceEqDiff, hgn_eq, hgn_lt, hgn_le, if_true, if_false, reduceIte, Nat.not_lt_zero, hgs_aa_d, hgs_aa_r, hgs_aa_h, hgs_aa_m, hgs_aa_t, hgs_ld_wp, hgs_st_wp, hgs_ld_qf, hgs_st_qf, hgs_ld_qt, hgs_st_qt, hgs_ld_2, hgs_st_2, hgs_ld_3, hgs_st_3, hgs_ld_4, hgs_st_4, hgs_ld_301, hgs_st_301, hgs_ld_D, hgs_st_D, hgs_ld_s, hgs_ld_T, hgs_st_T, hgs_ld_o, hgs_st_o, hgs_ld_b, hgs_st_b, hgs_ld_z, hgs_st_z, hgs_al_b, hgx_alen_s, hgn_add, hgn_mul, hw, x1, x2, x3, x4, x5, xl, q1, q2, e1, w1, e2, w2, k123, hk, jo, hgeq_cmp]
  · simp (maxDischargeDepth := 7) only [hgM_t, hgM_f, hgM_n, hgx_aload_n_1, hgx_aload_n_0, hgx_iload_4, hgx_iconst_1, hgx_iadd, hgx_aload_n_3, hgx_invstatic_3, hgx_aft_e, hgx_aft_i, hgx_aft_l, hgx_aft_v, hgx_istore_5i, hgx_istore_5r, hgx_istore_5f, hgx_istore_5n, hgx_istore_5l, hgx_aload_n_2, hgx_invvirtual_2, hgx_istore_6i, hgx_istore_6r, hgx_istore_6f, hgx_istore_6n, hgx_istore_6l, hgx_invvirtual_1, hgx_iload_5, hgx_ic_eq, hgx_iconst_0, hgx_ret3, hgx_if_ne, hgx_iload_6, hgx_i2l, hgx_lcmp, hgx_if_eq, hgx_goto, hgx_iinc_4_6, hgv227_481, hgr227_481, hgu227_481, hgv227_517, hgr227_517, hgu227_517, hgv227_534, hgr227_534, hgu227_534, hgv227_1821, hgr227_1821, hgu227_1821, hgv227_23, hgI_SI, hgI_SJ, hgJ_SI, hgJ_SJ, if_true, if_false, reduceIte, Nat.reduceEqDiff, hgWf_SI, hgWf_SJ, hgO_SI, hgO_SJ, hgAr_SI, hgAr_SJ, hgRp_SI, hgRp_SJ, hgN_SI, hgN_SJ, hgO_g, hgO_d, hgO_rl, hgO_r, hgO_0, hgO_1, hgO_64, hgO_298, hgO_300, hgCd_0, hgCd_1, hgCd_2, hgCd_3, hgCd_4, hgCd_5, hgRecv_O, hgRecv_99, List.length_cons, List.length_nil, Nat.zero_add, Nat.add_zero, Nat.le_refl, Nat.zero_le, and_self, or_true, true_or, true_and, and_true, ne_eq, not_false_eq_true, Nat.reduceLT, Nat.reduceLeDiff, Nat.reduceAdd, Nat.reduceEqDiff, hgn_eq, hgn_lt, hgn_le, if_true, if_false, reduceIte, Nat.not_lt_zero, hgs_aa_d, hgs_aa_r, hgs_aa_h, hgs_aa_m, hgs_aa_t, hgs_ld_wp, hgs_st_wp, hgs_ld_qf, hgs_st_qf, hgs_ld_qt, hgs_st_qt, hgs_ld_2, hgs_st_2, hgs_ld_3, hgs_st_3, hgs_ld_4, hgs_st_4, hgs_ld_301, hgs_st_301, hgs_ld_D, hgs_st_D, hgs_ld_s, hgs_ld_T, hgs_st_T, hgs_ld_o, hgs_st_o, hgs_ld_b, hgs_st_b, hgs_ld_z, hgs_st_z, hgs_al_b, hgx_alen_s, hgn_add, hgn_mul, hw, x1, x2, x3, x4, x5, xl, q1, q2, e1, w1, e2, w2, k123, hk]
theorem hgCs_537 (hX : 6 * n + 6 ≤ X.1) (hX2 : X.1 ≤ 3072) (hk1 : k1 ≤ 10000) (hk2 : k2 ≤ 1000000) (hw : hgWf M) (h : hgBi X 209 [.ref 0, .int (X.2 (6 * n + 1)), .ref 325] 175 [.ref 300, .int (X.2 (6 * n + 1))] M n) : hgCse X 537 n k1 k2 M := by
  obtain ⟨k, b, M1, M2, e1, e2, w1, t, jj, inv⟩ := h
  have x1 : 6 * n + 1 < X.1 := by omega
  have x2 : 6 * n + 2 < X.1 := by omega
  have x3 : 6 * n + 3 < X.1 := by omega
  have x4 : 6 * n + 4 < X.1 := by omega
  have x5 : 6 * n + 5 < X.1 := by omega
  have xl : X.1 < 2147483648 := by omega
  have q1 : k1 + 1 ≤ 601024 := by omega
  have q2 : k2 + 6 ≤ 7293034 := by omega
  have q3 : k1 ≤ 601024 := by omega
  have q4 : k2 ≤ 7293034 := by omega
  have w2 := hgInv_w inv
  have k123 := hgk_123 (X := X) w2
  rw [t] at k123
  refine ⟨M2, k1 + 1, k2 + 6, ?_, inv, by omega, by omega⟩
  by_cases hk : k = nI 0
  · have jo := jj hk
    simp (maxDischargeDepth := 7) only [hgM_t, hgM_f, hgM_n, hgx_aload_n_1, hgx_aload_n_0, hgx_iload_4, hgx_iconst_1, hgx_iadd, hgx_aload_n_3, hgx_invstatic_3, hgx_aft_e, hgx_aft_i, hgx_aft_l, hgx_aft_v, hgx_istore_5i, hgx_istore_5r, hgx_istore_5f, hgx_istore_5n, hgx_istore_5l, hgx_aload_n_2, hgx_invvirtual_2, hgx_istore_6i, hgx_istore_6r, hgx_istore_6f, hgx_istore_6n, hgx_istore_6l, hgx_invvirtual_1, hgx_iload_5, hgx_ic_eq, hgx_iconst_0, hgx_ret3, hgx_if_ne, hgx_iload_6, hgx_i2l, hgx_lcmp, hgx_if_eq, hgx_goto, hgx_iinc_4_6, hgv227_537, hgr227_537, hgu227_537, hgv227_573, hgr227_573, hgu227_573, hgv227_590, hgr227_590, hgu227_590, hgv227_1821, hgr227_1821, hgu227_1821, hgv227_23, hgI_SI, hgI_SJ, hgJ_SI, hgJ_SJ, if_true, if_false, reduceIte, Nat.reduceEqDiff, hgWf_SI, hgWf_SJ, hgO_SI, hgO_SJ, hgAr_SI, hgAr_SJ, hgRp_SI, hgRp_SJ, hgN_SI, hgN_SJ, hgO_g, hgO_d, hgO_rl, hgO_r, hgO_0, hgO_1, hgO_64, hgO_298, hgO_300, hgCd_0, hgCd_1, hgCd_2, hgCd_3, hgCd_4, hgCd_5, hgRecv_O, hgRecv_99, List.length_cons, List.length_nil, Nat.zero_add, Nat.add_zero, Nat.le_refl, Nat.zero_le, and_self, or_true, true_or, true_and, and_true, ne_eq, not_false_eq_true, Nat.reduceLT, Nat.reduceLeDiff, Nat.reduceAdd, Nat.reduceEqDiff, hgn_eq, hgn_lt, hgn_le, if_true, if_false, reduceIte, Nat.not_lt_zero, hgs_aa_d, hgs_aa_r, hgs_aa_h, hgs_aa_m, hgs_aa_t, hgs_ld_wp, hgs_st_wp, hgs_ld_qf, hgs_st_qf, hgs_ld_qt, hgs_st_qt, hgs_ld_2, hgs_st_2, hgs_ld_3, hgs_st_3, hgs_ld_4, hgs_st_4, hgs_ld_301, hgs_st_301, hgs_ld_D, hgs_st_D, hgs_ld_s, hgs_ld_T, hgs_st_T, hgs_ld_o, hgs_st_o, hgs_ld_b, hgs_st_b, hgs_ld_z, hgs_st_z, hgs_al_b, hgx_alen_s, hgn_add, hgn_mul, hw, x1, x2, x3, x4, x5, xl, q1, q2, e1, w1, e2, w2, k123, hk, jo, hgeq_cmp]
  · simp (maxDischargeDepth := 7) only [hgM_t, hgM_f, hgM_n, hgx_aload_n_1, hgx_aload_n_0, hgx_iload_4, hgx_iconst_1, hgx_iadd, hgx_aload_n_3, hgx_invstatic_3, hgx_aft_e, hgx_aft_i, hgx_aft_l, hgx_aft_v, hgx_istore_5i, hgx_istore_5r, hgx_istore_5f, hgx_istore_5n, hgx_istore_5l, hgx_aload_n_2, hgx_invvirtual_2, hgx_istore_6i, hgx_istore_6r, hgx_istore_6f, hgx_istore_6n, hgx_istore_6l, hgx_invvirtual_1, hgx_iload_5, hgx_ic_eq, hgx_iconst_0, hgx_ret3, hgx_if_ne, hgx_iload_6, hgx_i2l, hgx_lcmp, hgx_if_eq, hgx_goto, hgx_iinc_4_6, hgv227_537, hgr227_537, hgu227_537, hgv227_573, hgr227_573, hgu227_573, hgv227_590, hgr227_590, hgu227_590, hgv227_1821, hgr227_1821, hgu227_1821, hgv227_23, hgI_SI, hgI_SJ, hgJ_SI, hgJ_SJ, if_true, if_false, reduceIte, Nat.reduceEqDiff, hgWf_SI, hgWf_SJ, hgO_SI, hgO_SJ, hgAr_SI, hgAr_SJ, hgRp_SI, hgRp_SJ, hgN_SI, hgN_SJ, hgO_g, hgO_d, hgO_rl, hgO_r, hgO_0, hgO_1, hgO_64, hgO_298, hgO_300, hgCd_0, hgCd_1, hgCd_2, hgCd_3, hgCd_4, hgCd_5, hgRecv_O, hgRecv_99, List.length_cons, List.length_nil, Nat.zero_add, Nat.add_zero, Nat.le_refl, Nat.zero_le, and_self, or_true, true_or, true_and, and_true, ne_eq, not_false_eq_true, Nat.reduceLT, Nat.reduceLeDiff, Nat.reduceAdd, Nat.reduceEqDiff, hgn_eq, hgn_lt, hgn_le, if_true, if_false, reduceIte, Nat.not_lt_zero, hgs_aa_d, hgs_aa_r, hgs_aa_h, hgs_aa_m, hgs_aa_t, hgs_ld_wp, hgs_st_wp, hgs_ld_qf, hgs_st_qf, hgs_ld_qt, hgs_st_qt, hgs_ld_2, hgs_st_2, hgs_ld_3, hgs_st_3, hgs_ld_4, hgs_st_4, hgs_ld_301, hgs_st_301, hgs_ld_D, hgs_st_D, hgs_ld_s, hgs_ld_T, hgs_st_T, hgs_ld_o, hgs_st_o, hgs_ld_b, hgs_st_b, hgs_ld_z, hgs_st_z, hgs_al_b, hgx_alen_s, hgn_add, hgn_mul, hw, x1, x2, x3, x4, x5, xl, q1, q2, e1, w1, e2, w2, k123, hk]
theorem hgCs_593 (hX : 6 * n + 6 ≤ X.1) (hX2 : X.1 ≤ 3072) (hk1 : k1 ≤ 10000) (hk2 : k2 ≤ 1000000) (hw : hgWf M) (h : hgBl X 210 [.ref 0, .int (X.2 (6 * n + 1)), .ref 325] 176 [.ref 300, .int (X.2 (6 * n + 1))] M n) : hgCse X 593 n k1 k2 M := by
  obtain ⟨k, b, M1, M2, e1, e2, w1, t, jj, inv⟩ := h
  have x1 : 6 * n + 1 < X.1 := by omega
  have x2 : 6 * n + 2 < X.1 := by omega
  have x3 : 6 * n + 3 < X.1 := by omega
  have x4 : 6 * n + 4 < X.1 := by omega
  have x5 : 6 * n + 5 < X.1 := by omega
  have xl : X.1 < 2147483648 := by omega
  have q1 : k1 + 1 ≤ 601024 := by omega
  have q2 : k2 + 6 ≤ 7293034 := by omega
  have q3 : k1 ≤ 601024 := by omega
  have q4 : k2 ≤ 7293034 := by omega
  have w2 := hgInv_w inv
  have k123 := hgk_123 (X := X) w2
  rw [t] at k123
  refine ⟨M2, k1 + 1, k2 + 6, ?_, inv, by omega, by omega⟩
  by_cases hk : k = nI 0
  · have jo := jj hk
    simp (maxDischargeDepth := 7) only [hgM_t, hgM_f, hgM_n, hgx_aload_n_1, hgx_aload_n_0, hgx_iload_4, hgx_iconst_1, hgx_iadd, hgx_aload_n_3, hgx_invstatic_3, hgx_aft_e, hgx_aft_i, hgx_aft_l, hgx_aft_v, hgx_istore_5i, hgx_istore_5r, hgx_istore_5f, hgx_istore_5n, hgx_istore_5l, hgx_aload_n_2, hgx_invvirtual_2, hgx_lstore_6i, hgx_lstore_6r, hgx_lstore_6f, hgx_lstore_6n, hgx_lstore_6l, hgx_invvirtual_1, hgx_iload_5, hgx_ic_eq, hgx_iconst_0, hgx_ret3, hgx_if_ne, hgx_lload_6, hgx_lcmp, hgx_if_eq, hgx_goto, hgx_iinc_4_6, hgv227_593, hgr227_593, hgu227_593, hgv227_629, hgr227_629, hgu227_629, hgv227_645, hgr227_645, hgu227_645, hgv227_1821, hgr227_1821, hgu227_1821, hgv227_23, hgI_SI, hgI_SJ, hgJ_SI, hgJ_SJ, if_true, if_false, reduceIte, Nat.reduceEqDiff, hgWf_SI, hgWf_SJ, hgO_SI, hgO_SJ, hgAr_SI, hgAr_SJ, hgRp_SI, hgRp_SJ, hgN_SI, hgN_SJ, hgO_g, hgO_d, hgO_rl, hgO_r, hgO_0, hgO_1, hgO_64, hgO_298, hgO_300, hgCd_0, hgCd_1, hgCd_2, hgCd_3, hgCd_4, hgCd_5, hgRecv_O, hgRecv_99, List.length_cons, List.length_nil, Nat.zero_add, Nat.add_zero, Nat.le_refl, Nat.zero_le, and_self, or_true, true_or, true_and, and_true, ne_eq, not_false_eq_true, Nat.reduceLT, Nat.reduceLeDiff, Nat.reduceAdd, Nat.reduceEqDiff, hgn_eq, hgn_lt, hgn_le, if_true, if_false, reduceIte, Nat.not_lt_zero, hgs_aa_d, hgs_aa_r, hgs_aa_h, hgs_aa_m, hgs_aa_t, hgs_ld_wp, hgs_st_wp, hgs_ld_qf, hgs_st_qf, hgs_ld_qt, hgs_st_qt, hgs_ld_2, hgs_st_2, hgs_ld_3, hgs_st_3, hgs_ld_4, hgs_st_4, hgs_ld_301, hgs_st_301, hgs_ld_D, hgs_st_D, hgs_ld_s, hgs_ld_T, hgs_st_T, hgs_ld_o, hgs_st_o, hgs_ld_b, hgs_st_b, hgs_ld_z, hgs_st_z, hgs_al_b, hgx_alen_s, hgn_add, hgn_mul, hw, x1, x2, x3, x4, x5, xl, q1, q2, e1, w1, e2, w2, k123, hk, jo, hgeq_cmp]
  · simp (maxDischargeDepth := 7) only [hgM_t, hgM_f, hgM_n, hgx_aload_n_1, hgx_aload_n_0, hgx_iload_4, hgx_iconst_1, hgx_iadd, hgx_aload_n_3, hgx_invstatic_3, hgx_aft_e, hgx_aft_i, hgx_aft_l, hgx_aft_v, hgx_istore_5i, hgx_istore_5r, hgx_istore_5f, hgx_istore_5n, hgx_istore_5l, hgx_aload_n_2, hgx_invvirtual_2, hgx_lstore_6i, hgx_lstore_6r, hgx_lstore_6f, hgx_lstore_6n, hgx_lstore_6l, hgx_invvirtual_1, hgx_iload_5, hgx_ic_eq, hgx_iconst_0, hgx_ret3, hgx_if_ne, hgx_lload_6, hgx_lcmp, hgx_if_eq, hgx_goto, hgx_iinc_4_6, hgv227_593, hgr227_593, hgu227_593, hgv227_629, hgr227_629, hgu227_629, hgv227_645, hgr227_645, hgu227_645, hgv227_1821, hgr227_1821, hgu227_1821, hgv227_23, hgI_SI, hgI_SJ, hgJ_SI, hgJ_SJ, if_true, if_false, reduceIte, Nat.reduceEqDiff, hgWf_SI, hgWf_SJ, hgO_SI, hgO_SJ, hgAr_SI, hgAr_SJ, hgRp_SI, hgRp_SJ, hgN_SI, hgN_SJ, hgO_g, hgO_d, hgO_rl, hgO_r, hgO_0, hgO_1, hgO_64, hgO_298, hgO_300, hgCd_0, hgCd_1, hgCd_2, hgCd_3, hgCd_4, hgCd_5, hgRecv_O, hgRecv_99, List.length_cons, List.length_nil, Nat.zero_add, Nat.add_zero, Nat.le_refl, Nat.zero_le, and_self, or_true, true_or, true_and, and_true, ne_eq, not_false_eq_true, Nat.reduceLT, Nat.reduceLeDiff, Nat.reduceAdd, Nat.reduceEqDiff, hgn_eq, hgn_lt, hgn_le, if_true, if_false, reduceIte, Nat.not_lt_zero, hgs_aa_d, hgs_aa_r, hgs_aa_h, hgs_aa_m, hgs_aa_t, hgs_ld_wp, hgs_st_wp, hgs_ld_qf, hgs_st_qf, hgs_ld_qt, hgs_st_qt, hgs_ld_2, hgs_st_2, hgs_ld_3, hgs_st_3, hgs_ld_4, hgs_st_4, hgs_ld_301, hgs_st_301, hgs_ld_D, hgs_st_D, hgs_ld_s, hgs_ld_T, hgs_st_T, hgs_ld_o, hgs_st_o, hgs_ld_b, hgs_st_b, hgs_ld_z, hgs_st_z, hgs_al_b, hgx_alen_s, hgn_add, hgn_mul, hw, x1, x2, x3, x4, x5, xl, q1, q2, e1, w1, e2, w2, k123, hk]
theorem hgCs_648 (hX : 6 * n + 6 ≤ X.1) (hX2 : X.1 ≤ 3072) (hk1 : k1 ≤ 10000) (hk2 : k2 ≤ 1000000) (hw : hgWf M) (h : hgBi X 211 [.ref 0, .int (X.2 (6 * n + 1)), .ref 325] 177 [.ref 300, .int (X.2 (6 * n + 1))] M n) : hgCse X 648 n k1 k2 M := by
  obtain ⟨k, b, M1, M2, e1, e2, w1, t, jj, inv⟩ := h
  have x1 : 6 * n + 1 < X.1 := by omega
  have x2 : 6 * n + 2 < X.1 := by omega
  have x3 : 6 * n + 3 < X.1 := by omega
  have x4 : 6 * n + 4 < X.1 := by omega
  have x5 : 6 * n + 5 < X.1 := by omega
  have xl : X.1 < 2147483648 := by omega
  have q1 : k1 + 1 ≤ 601024 := by omega
  have q2 : k2 + 6 ≤ 7293034 := by omega
  have q3 : k1 ≤ 601024 := by omega
  have q4 : k2 ≤ 7293034 := by omega
  have w2 := hgInv_w inv
  have k123 := hgk_123 (X := X) w2
  rw [t] at k123
  refine ⟨M2, k1 + 1, k2 + 6, ?_, inv, by omega, by omega⟩
  by_cases hk : k = nI 0
  · have jo := jj hk
    simp (maxDischargeDepth := 7) only [hgM_t, hgM_f, hgM_n, hgx_aload_n_1, hgx_aload_n_0, hgx_iload_4, hgx_iconst_1, hgx_iadd, hgx_aload_n_3, hgx_invstatic_3, hgx_aft_e, hgx_aft_i, hgx_aft_l, hgx_aft_v, hgx_istore_5i, hgx_istore_5r, hgx_istore_5f, hgx_istore_5n, hgx_istore_5l, hgx_aload_n_2, hgx_invvirtual_2, hgx_istore_6i, hgx_istore_6r, hgx_istore_6f, hgx_istore_6n, hgx_istore_6l, hgx_invvirtual_1, hgx_iload_5, hgx_ic_eq, hgx_iconst_0, hgx_ret3, hgx_if_ne, hgx_iload_6, hgx_i2l, hgx_lcmp, hgx_if_eq, hgx_goto, hgx_iinc_4_6, hgv227_648, hgr227_648, hgu227_648, hgv227_684, hgr227_684, hgu227_684, hgv227_701, hgr227_701, hgu227_701, hgv227_1821, hgr227_1821, hgu227_1821, hgv227_23, hgI_SI, hgI_SJ, hgJ_SI, hgJ_SJ, if_true, if_false, reduceIte, Nat.reduceEqDiff, hgWf_SI, hgWf_SJ, hgO_SI, hgO_SJ, hgAr_SI, hgAr_SJ, hgRp_SI, hgRp_SJ, hgN_SI, hgN_SJ, hgO_g, hgO_d, hgO_rl, hgO_r, hgO_0, hgO_1, hgO_64, hgO_298, hgO_300, hgCd_0, hgCd_1, hgCd_2, hgCd_3, hgCd_4, hgCd_5, hgRecv_O, hgRecv_99, List.length_cons, List.length_nil, Nat.zero_add, Nat.add_zero, Nat.le_refl, Nat.zero_le, and_self, or_true, true_or, true_and, and_true, ne_eq, not_false_eq_true, Nat.reduceLT, Nat.reduceLeDiff, Nat.reduceAdd, Nat.reduceEqDiff, hgn_eq, hgn_lt, hgn_le, if_true, if_false, reduceIte, Nat.not_lt_zero, hgs_aa_d, hgs_aa_r, hgs_aa_h, hgs_aa_m, hgs_aa_t, hgs_ld_wp, hgs_st_wp, hgs_ld_qf, hgs_st_qf, hgs_ld_qt, hgs_st_qt, hgs_ld_2, hgs_st_2, hgs_ld_3, hgs_st_3, hgs_ld_4, hgs_st_4, hgs_ld_301, hgs_st_301, hgs_ld_D, hgs_st_D, hgs_ld_s, hgs_ld_T, hgs_st_T, hgs_ld_o, hgs_st_o, hgs_ld_b, hgs_st_b, hgs_ld_z, hgs_st_z, hgs_al_b, hgx_alen_s, hgn_add, hgn_mul, hw, x1, x2, x3, x4, x5, xl, q1, q2, e1, w1, e2, w2, k123, hk, jo, hgeq_cmp]
  · simp (maxDischargeDepth := 7) only [hgM_t, hgM_f, hgM_n, hgx_aload_n_1, hgx_aload_n_0, hgx_iload_4, hgx_iconst_1, hgx_iadd, hgx_aload_n_3, hgx_invstatic_3, hgx_aft_e, hgx_aft_i, hgx_aft_l, hgx_aft_v, hgx_istore_5i, hgx_istore_5r, hgx_istore_5f, hgx_istore_5n, hgx_istore_5l, hgx_aload_n_2, hgx_invvirtual_2, hgx_istore_6i, hgx_istore_6r, hgx_istore_6f, hgx_istore_6n, hgx_istore_6l, hgx_invvirtual_1, hgx_iload_5, hgx_ic_eq, hgx_iconst_0, hgx_ret3, hgx_if_ne, hgx_iload_6, hgx_i2l, hgx_lcmp, hgx_if_eq, hgx_goto, hgx_iinc_4_6, hgv227_648, hgr227_648, hgu227_648, hgv227_684, hgr227_684, hgu227_684, hgv227_701, hgr227_701, hgu227_701, hgv227_1821, hgr227_1821, hgu227_1821, hgv227_23, hgI_SI, hgI_SJ, hgJ_SI, hgJ_SJ, if_true, if_false, reduceIte, Nat.reduceEqDiff, hgWf_SI, hgWf_SJ, hgO_SI, hgO_SJ, hgAr_SI, hgAr_SJ, hgRp_SI, hgRp_SJ, hgN_SI, hgN_SJ, hgO_g, hgO_d, hgO_rl, hgO_r, hgO_0, hgO_1, hgO_64, hgO_298, hgO_300, hgCd_0, hgCd_1, hgCd_2, hgCd_3, hgCd_4, hgCd_5, hgRecv_O, hgRecv_99, List.length_cons, List.length_nil, Nat.zero_add, Nat.add_zero, Nat.le_refl, Nat.zero_le, and_self, or_true, true_or, true_and, and_true, ne_eq, not_false_eq_true, Nat.reduceLT, Nat.reduceLeDiff, Nat.reduceAdd, Nat.reduceEqDiff, hgn_eq, hgn_lt, hgn_le, if_true, if_false, reduceIte, Nat.not_lt_zero, hgs_aa_d, hgs_aa_r, hgs_aa_h, hgs_aa_m, hgs_aa_t, hgs_ld_wp, hgs_st_wp, hgs_ld_qf, hgs_st_qf, hgs_ld_qt, hgs_st_qt, hgs_ld_2, hgs_st_2, hgs_ld_3, hgs_st_3, hgs_ld_4, hgs_st_4, hgs_ld_301, hgs_st_301, hgs_ld_D, hgs_st_D, hgs_ld_s, hgs_ld_T, hgs_st_T, hgs_ld_o, hgs_st_o, hgs_ld_b, hgs_st_b, hgs_ld_z, hgs_st_z, hgs_al_b, hgx_alen_s, hgn_add, hgn_mul, hw, x1, x2, x3, x4, x5, xl, q1, q2, e1, w1, e2, w2, k123, hk]
theorem hgCs_704 (hX : 6 * n + 6 ≤ X.1) (hX2 : X.1 ≤ 3072) (hk1 : k1 ≤ 10000) (hk2 : k2 ≤ 1000000) (hw : hgWf M) (h : hgBi X 212 [.ref 0, .int (X.2 (6 * n + 1)), .ref 325] 178 [.ref 300, .int (X.2 (6 * n + 1))] M n) : hgCse X 704 n k1 k2 M := by
  obtain ⟨k, b, M1, M2, e1, e2, w1, t, jj, inv⟩ := h
  have x1 : 6 * n + 1 < X.1 := by omega
  have x2 : 6 * n + 2 < X.1 := by omega
  have x3 : 6 * n + 3 < X.1 := by omega
  have x4 : 6 * n + 4 < X.1 := by omega
  have x5 : 6 * n + 5 < X.1 := by omega
  have xl : X.1 < 2147483648 := by omega
  have q1 : k1 + 1 ≤ 601024 := by omega
  have q2 : k2 + 6 ≤ 7293034 := by omega
  have q3 : k1 ≤ 601024 := by omega
  have q4 : k2 ≤ 7293034 := by omega
  have w2 := hgInv_w inv
  have k123 := hgk_123 (X := X) w2
  rw [t] at k123
  refine ⟨M2, k1 + 1, k2 + 6, ?_, inv, by omega, by omega⟩
  by_cases hk : k = nI 0
  · have jo := jj hk
    simp (maxDischargeDepth := 7) only [hgM_t, hgM_f, hgM_n, hgx_aload_n_1, hgx_aload_n_0, hgx_iload_4, hgx_iconst_1, hgx_iadd, hgx_aload_n_3, hgx_invstatic_3, hgx_aft_e, hgx_aft_i, hgx_aft_l, hgx_aft_v, hgx_istore_5i, hgx_istore_5r, hgx_istore_5f, hgx_istore_5n, hgx_istore_5l, hgx_aload_n_2, hgx_invvirtual_2, hgx_istore_6i, hgx_istore_6r, hgx_istore_6f, hgx_istore_6n, hgx_istore_6l, hgx_invvirtual_1, hgx_iload_5, hgx_ic_eq, hgx_iconst_0, hgx_ret3, hgx_if_ne, hgx_iload_6, hgx_i2l, hgx_lcmp, hgx_if_eq, hgx_goto, hgx_iinc_4_6, hgv227_704, hgr227_704, hgu227_704, hgv227_740, hgr227_740, hgu227_740, hgv227_757, hgr227_757, hgu227_757, hgv227_1821, hgr227_1821, hgu227_1821, hgv227_23, hgI_SI, hgI_SJ, hgJ_SI, hgJ_SJ, if_true, if_false, reduceIte, Nat.reduceEqDiff, hgWf_SI, hgWf_SJ, hgO_SI, hgO_SJ, hgAr_SI, hgAr_SJ, hgRp_SI, hgRp_SJ, hgN_SI, hgN_SJ, hgO_g, hgO_d, hgO_rl, hgO_r, hgO_0, hgO_1, hgO_64, hgO_298, hgO_300, hgCd_0, hgCd_1, hgCd_2, hgCd_3, hgCd_4, hgCd_5, hgRecv_O, hgRecv_99, List.length_cons, List.length_nil, Nat.zero_add, Nat.add_zero, Nat.le_refl, Nat.zero_le, and_self, or_true, true_or, true_and, and_true, ne_eq, not_false_eq_true, Nat.reduceLT, Nat.reduceLeDiff, Nat.reduceAdd, Nat.reduceEqDiff, hgn_eq, hgn_lt, hgn_le, if_true, if_false, reduceIte, Nat.not_lt_zero, hgs_aa_d, hgs_aa_r, hgs_aa_h, hgs_aa_m, hgs_aa_t, hgs_ld_wp, hgs_st_wp, hgs_ld_qf, hgs_st_qf, hgs_ld_qt, hgs_st_qt, hgs_ld_2, hgs_st_2, hgs_ld_3, hgs_st_3, hgs_ld_4, hgs_st_4, hgs_ld_301, hgs_st_301, hgs_ld_D, hgs_st_D, hgs_ld_s, hgs_ld_T, hgs_st_T, hgs_ld_o, hgs_st_o, hgs_ld_b, hgs_st_b, hgs_ld_z, hgs_st_z, hgs_al_b, hgx_alen_s, hgn_add, hgn_mul, hw, x1, x2, x3, x4, x5, xl, q1, q2, e1, w1, e2, w2, k123, hk, jo, hgeq_cmp]
  · simp (maxDischargeDepth := 7) only [hgM_t, hgM_f, hgM_n, hgx_aload_n_1, hgx_aload_n_0, hgx_iload_4, hgx_iconst_1, hgx_iadd, hgx_aload_n_3, hgx_invstatic_3, hgx_aft_e, hgx_aft_i, hgx_aft_l, hgx_aft_v, hgx_istore_5i, hgx_istore_5r, hgx_istore_5f, hgx_istore_5n, hgx_istore_5l, hgx_aload_n_2, hgx_invvirtual_2, hgx_istore_6i, hgx_istore_6r, hgx_istore_6f, hgx_istore_6n, hgx_istore_6l, hgx_invvirtual_1, hgx_iload_5, hgx_ic_eq, hgx_iconst_0, hgx_ret3, hgx_if_ne, hgx_iload_6, hgx_i2l, hgx_lcmp, hgx_if_eq, hgx_goto, hgx_iinc_4_6, hgv227_704, hgr227_704, hgu227_704, hgv227_740, hgr227_740, hgu227_740, hgv227_757, hgr227_757, hgu227_757, hgv227_1821, hgr227_1821, hgu227_1821, hgv227_23, hgI_SI, hgI_SJ, hgJ_SI, hgJ_SJ, if_true, if_false, reduceIte, Nat.reduceEqDiff, hgWf_SI, hgWf_SJ, hgO_SI, hgO_SJ, hgAr_SI, hgAr_SJ, hgRp_SI, hgRp_SJ, hgN_SI, hgN_SJ, hgO_g, hgO_d, hgO_rl, hgO_r, hgO_0, hgO_1, hgO_64, hgO_298, hgO_300, hgCd_0, hgCd_1, hgCd_2, hgCd_3, hgCd_4, hgCd_5, hgRecv_O, hgRecv_99, List.length_cons, List.length_nil, Nat.zero_add, Nat.add_zero, Nat.le_refl, Nat.zero_le, and_self, or_true, true_or, true_and, and_true, ne_eq, not_false_eq_true, Nat.reduceLT, Nat.reduceLeDiff, Nat.reduceAdd, Nat.reduceEqDiff, hgn_eq, hgn_lt, hgn_le, if_true, if_false, reduceIte, Nat.not_lt_zero, hgs_aa_d, hgs_aa_r, hgs_aa_h, hgs_aa_m, hgs_aa_t, hgs_ld_wp, hgs_st_wp, hgs_ld_qf, hgs_st_qf, hgs_ld_qt, hgs_st_qt, hgs_ld_2, hgs_st_2, hgs_ld_3, hgs_st_3, hgs_ld_4, hgs_st_4, hgs_ld_301, hgs_st_301, hgs_ld_D, hgs_st_D, hgs_ld_s, hgs_ld_T, hgs_st_T, hgs_ld_o, hgs_st_o, hgs_ld_b, hgs_st_b, hgs_ld_z, hgs_st_z, hgs_al_b, hgx_alen_s, hgn_add, hgn_mul, hw, x1, x2, x3, x4, x5, xl, q1, q2, e1, w1, e2, w2, k123, hk]
theorem hgCs_760 (hX : 6 * n + 6 ≤ X.1) (hX2 : X.1 ≤ 3072) (hk1 : k1 ≤ 10000) (hk2 : k2 ≤ 1000000) (hw : hgWf M) (h : hgAi X 96 [.ref 0] 179 [.ref 300] M n) : hgCse X 760 n k1 k2 M := by
  obtain ⟨a, M1, M2, e1, e2, w1, inv⟩ := h
  have x1 : 6 * n + 1 < X.1 := by omega
  have x2 : 6 * n + 2 < X.1 := by omega
  have x3 : 6 * n + 3 < X.1 := by omega
  have x4 : 6 * n + 4 < X.1 := by omega
  have x5 : 6 * n + 5 < X.1 := by omega
  have xl : X.1 < 2147483648 := by omega
  have q1 : k1 + 0 ≤ 601024 := by omega
  have q2 : k2 + 0 ≤ 7293034 := by omega
  have q3 : k1 ≤ 601024 := by omega
  have q4 : k2 ≤ 7293034 := by omega
  refine ⟨M2, k1 + 0, k2 + 0, ?_, inv, by omega, by omega⟩
  simp (maxDischargeDepth := 7) only [hgM_t, hgM_f, hgM_n, hgx_aload_n_1, hgx_invvirtual_1, hgx_aft_e, hgx_aft_i, hgx_aft_l, hgx_aft_v, hgx_aload_n_2, hgx_ic_eq, hgx_iconst_0, hgx_ret3, hgx_iinc_4_6, hgx_goto, hgv227_760, hgr227_760, hgu227_760, hgv227_1821, hgr227_1821, hgu227_1821, hgv227_23, hgI_SI, hgI_SJ, hgJ_SI, hgJ_SJ, if_true, if_false, reduceIte, Nat.reduceEqDiff, hgWf_SI, hgWf_SJ, hgO_SI, hgO_SJ, hgAr_SI, hgAr_SJ, hgRp_SI, hgRp_SJ, hgN_SI, hgN_SJ, hgO_g, hgO_d, hgO_rl, hgO_r, hgO_0, hgO_1, hgO_64, hgO_298, hgO_300, hgCd_0, hgCd_1, hgCd_2, hgCd_3, hgCd_4, hgCd_5, hgRecv_O, hgRecv_99, List.length_cons, List.length_nil, Nat.zero_add, Nat.add_zero, Nat.le_refl, Nat.zero_le, and_self, or_true, true_or, true_and, and_true, ne_eq, not_false_eq_true, Nat.reduceLT, Nat.reduceLeDiff, Nat.reduceAdd, Nat.reduceEqDiff, hgn_eq, hgn_lt, hgn_le, if_true, if_false, reduceIte, Nat.not_lt_zero, hgs_aa_d, hgs_aa_r, hgs_aa_h, hgs_aa_m, hgs_aa_t, hgs_ld_wp, hgs_st_wp, hgs_ld_qf, hgs_st_qf, hgs_ld_qt, hgs_st_qt, hgs_ld_2, hgs_st_2, hgs_ld_3, hgs_st_3, hgs_ld_4, hgs_st_4, hgs_ld_301, hgs_st_301, hgs_ld_D, hgs_st_D, hgs_ld_s, hgs_ld_T, hgs_st_T, hgs_ld_o, hgs_st_o, hgs_ld_b, hgs_st_b, hgs_ld_z, hgs_st_z, hgs_al_b, hgx_alen_s, hgn_add, hgn_mul, hw, x1, x2, x3, x4, x5, xl, q1, q2, q3, q4, e1, w1, e2, hgeq_cmp]
theorem hgCs_773 (hX : 6 * n + 6 ≤ X.1) (hX2 : X.1 ≤ 3072) (hk1 : k1 ≤ 10000) (hk2 : k2 ≤ 1000000) (hw : hgWf M) (h : hgAi X 97 [.ref 0] 180 [.ref 300] M n) : hgCse X 773 n k1 k2 M := by
  obtain ⟨a, M1, M2, e1, e2, w1, inv⟩ := h
  have x1 : 6 * n + 1 < X.1 := by omega
  have x2 : 6 * n + 2 < X.1 := by omega
  have x3 : 6 * n + 3 < X.1 := by omega
  have x4 : 6 * n + 4 < X.1 := by omega
  have x5 : 6 * n + 5 < X.1 := by omega
  have xl : X.1 < 2147483648 := by omega
  have q1 : k1 + 0 ≤ 601024 := by omega
  have q2 : k2 + 0 ≤ 7293034 := by omega
  have q3 : k1 ≤ 601024 := by omega
  have q4 : k2 ≤ 7293034 := by omega
  refine ⟨M2, k1 + 0, k2 + 0, ?_, inv, by omega, by omega⟩
  simp (maxDischargeDepth := 7) only [hgM_t, hgM_f, hgM_n, hgx_aload_n_1, hgx_invvirtual_1, hgx_aft_e, hgx_aft_i, hgx_aft_l, hgx_aft_v, hgx_aload_n_2, hgx_ic_eq, hgx_iconst_0, hgx_ret3, hgx_iinc_4_6, hgx_goto, hgv227_773, hgr227_773, hgu227_773, hgv227_1821, hgr227_1821, hgu227_1821, hgv227_23, hgI_SI, hgI_SJ, hgJ_SI, hgJ_SJ, if_true, if_false, reduceIte, Nat.reduceEqDiff, hgWf_SI, hgWf_SJ, hgO_SI, hgO_SJ, hgAr_SI, hgAr_SJ, hgRp_SI, hgRp_SJ, hgN_SI, hgN_SJ, hgO_g, hgO_d, hgO_rl, hgO_r, hgO_0, hgO_1, hgO_64, hgO_298, hgO_300, hgCd_0, hgCd_1, hgCd_2, hgCd_3, hgCd_4, hgCd_5, hgRecv_O, hgRecv_99, List.length_cons, List.length_nil, Nat.zero_add, Nat.add_zero, Nat.le_refl, Nat.zero_le, and_self, or_true, true_or, true_and, and_true, ne_eq, not_false_eq_true, Nat.reduceLT, Nat.reduceLeDiff, Nat.reduceAdd, Nat.reduceEqDiff, hgn_eq, hgn_lt, hgn_le, if_true, if_false, reduceIte, Nat.not_lt_zero, hgs_aa_d, hgs_aa_r, hgs_aa_h, hgs_aa_m, hgs_aa_t, hgs_ld_wp, hgs_st_wp, hgs_ld_qf, hgs_st_qf, hgs_ld_qt, hgs_st_qt, hgs_ld_2, hgs_st_2, hgs_ld_3, hgs_st_3, hgs_ld_4, hgs_st_4, hgs_ld_301, hgs_st_301, hgs_ld_D, hgs_st_D, hgs_ld_s, hgs_ld_T, hgs_st_T, hgs_ld_o, hgs_st_o, hgs_ld_b, hgs_st_b, hgs_ld_z, hgs_st_z, hgs_al_b, hgx_alen_s, hgn_add, hgn_mul, hw, x1, x2, x3, x4, x5, xl, q1, q2, q3, q4, e1, w1, e2, hgeq_cmp]
theorem hgCs_786 (hX : 6 * n + 6 ≤ X.1) (hX2 : X.1 ≤ 3072) (hk1 : k1 ≤ 10000) (hk2 : k2 ≤ 1000000) (hw : hgWf M) (h : hgAi X 98 [.ref 0] 181 [.ref 300] M n) : hgCse X 786 n k1 k2 M := by
  obtain ⟨a, M1, M2, e1, e2, w1, inv⟩ := h
  have x1 : 6 * n + 1 < X.1 := by omega
  have x2 : 6 * n + 2 < X.1 := by omega
  have x3 : 6 * n + 3 < X.1 := by omega
  have x4 : 6 * n + 4 < X.1 := by omega
  have x5 : 6 * n + 5 < X.1 := by omega
  have xl : X.1 < 2147483648 := by omega
  have q1 : k1 + 0 ≤ 601024 := by omega
  have q2 : k2 + 0 ≤ 7293034 := by omega
  have q3 : k1 ≤ 601024 := by omega
  have q4 : k2 ≤ 7293034 := by omega
  refine ⟨M2, k1 + 0, k2 + 0, ?_, inv, by omega, by omega⟩
  simp (maxDischargeDepth := 7) only [hgM_t, hgM_f, hgM_n, hgx_aload_n_1, hgx_invvirtual_1, hgx_aft_e, hgx_aft_i, hgx_aft_l, hgx_aft_v, hgx_aload_n_2, hgx_ic_eq, hgx_iconst_0, hgx_ret3, hgx_iinc_4_6, hgx_goto, hgv227_786, hgr227_786, hgu227_786, hgv227_1821, hgr227_1821, hgu227_1821, hgv227_23, hgI_SI, hgI_SJ, hgJ_SI, hgJ_SJ, if_true, if_false, reduceIte, Nat.reduceEqDiff, hgWf_SI, hgWf_SJ, hgO_SI, hgO_SJ, hgAr_SI, hgAr_SJ, hgRp_SI, hgRp_SJ, hgN_SI, hgN_SJ, hgO_g, hgO_d, hgO_rl, hgO_r, hgO_0, hgO_1, hgO_64, hgO_298, hgO_300, hgCd_0, hgCd_1, hgCd_2, hgCd_3, hgCd_4, hgCd_5, hgRecv_O, hgRecv_99, List.length_cons, List.length_nil, Nat.zero_add, Nat.add_zero, Nat.le_refl, Nat.zero_le, and_self, or_true, true_or, true_and, and_true, ne_eq, not_false_eq_true, Nat.reduceLT, Nat.reduceLeDiff, Nat.reduceAdd, Nat.reduceEqDiff, hgn_eq, hgn_lt, hgn_le, if_true, if_false, reduceIte, Nat.not_lt_zero, hgs_aa_d, hgs_aa_r, hgs_aa_h, hgs_aa_m, hgs_aa_t, hgs_ld_wp, hgs_st_wp, hgs_ld_qf, hgs_st_qf, hgs_ld_qt, hgs_st_qt, hgs_ld_2, hgs_st_2, hgs_ld_3, hgs_st_3, hgs_ld_4, hgs_st_4, hgs_ld_301, hgs_st_301, hgs_ld_D, hgs_st_D, hgs_ld_s, hgs_ld_T, hgs_st_T, hgs_ld_o, hgs_st_o, hgs_ld_b, hgs_st_b, hgs_ld_z, hgs_st_z, hgs_al_b, hgx_alen_s, hgn_add, hgn_mul, hw, x1, x2, x3, x4, x5, xl, q1, q2, q3, q4, e1, w1, e2, hgeq_cmp]
theorem hgCs_799 (hX : 6 * n + 6 ≤ X.1) (hX2 : X.1 ≤ 3072) (hk1 : k1 ≤ 10000) (hk2 : k2 ≤ 1000000) (hw : hgWf M) (h : hgBb X 213 [.ref 0, .int (X.2 (6 * n + 1)), .ref 325] 182 [.ref 300, .int (X.2 (6 * n + 1))] M n) : hgCse X 799 n k1 k2 M := by
  obtain ⟨k, b, M1, M2, e1, e2, w1, t, jj, inv⟩ := h
  have x1 : 6 * n + 1 < X.1 := by omega
  have x2 : 6 * n + 2 < X.1 := by omega
  have x3 : 6 * n + 3 < X.1 := by omega
  have x4 : 6 * n + 4 < X.1 := by omega
  have x5 : 6 * n + 5 < X.1 := by omega
  have xl : X.1 < 2147483648 := by omega
  have q1 : k1 + 1 ≤ 601024 := by omega
  have q2 : k2 + 6 ≤ 7293034 := by omega
  have q3 : k1 ≤ 601024 := by omega
  have q4 : k2 ≤ 7293034 := by omega
  have w2 := hgInv_w inv
  have k123 := hgk_123 (X := X) w2
  rw [t] at k123
  refine ⟨M2, k1 + 1, k2 + 6, ?_, inv, by omega, by omega⟩
  by_cases hk : k = nI 0
  · have jo := jj hk
    cases b with
    | true =>
      rw [hgB_t] at e2
      rw [if_pos rfl] at jo
      have l1 : lN 1 = 1 := rfl
      simp (maxDischargeDepth := 7) only [hgM_t, hgM_f, hgM_n, hgx_aload_n_1, hgx_aload_n_0, hgx_iload_4, hgx_iconst_1, hgx_iadd, hgx_aload_n_3, hgx_invstatic_3, hgx_aft_e, hgx_aft_i, hgx_aft_l, hgx_aft_v, hgx_istore_5i, hgx_istore_5r, hgx_istore_5f, hgx_istore_5n, hgx_istore_5l, hgx_aload_n_2, hgx_invvirtual_2, hgx_istore_6i, hgx_istore_6r, hgx_istore_6f, hgx_istore_6n, hgx_istore_6l, hgx_invvirtual_1, hgx_iload_5, hgx_ic_eq, hgx_iconst_0, hgx_ret3, hgx_if_ne, hgx_iload_6, hgx_if_eq, hgx_lconst_1, hgx_goto, hgx_lconst_0, hgx_lcmp, hgx_iinc_4_6, hgv227_799, hgr227_799, hgu227_799, hgv227_835, hgr227_835, hgu227_835, hgv227_852, hgr227_852, hgu227_852, hgv227_853, hgr227_853, hgu227_853, hgv227_859, hgr227_859, hgu227_859, hgv227_1821, hgr227_1821, hgu227_1821, hgv227_23, hgI_SI, hgI_SJ, hgJ_SI, hgJ_SJ, if_true, if_false, reduceIte, Nat.reduceEqDiff, hgWf_SI, hgWf_SJ, hgO_SI, hgO_SJ, hgAr_SI, hgAr_SJ, hgRp_SI, hgRp_SJ, hgN_SI, hgN_SJ, hgO_g, hgO_d, hgO_rl, hgO_r, hgO_0, hgO_1, hgO_64, hgO_298, hgO_300, hgCd_0, hgCd_1, hgCd_2, hgCd_3, hgCd_4, hgCd_5, hgRecv_O, hgRecv_99, List.length_cons, List.length_nil, Nat.zero_add, Nat.add_zero, Nat.le_refl, Nat.zero_le, and_self, or_true, true_or, true_and, and_true, ne_eq, not_false_eq_true, Nat.reduceLT, Nat.reduceLeDiff, Nat.reduceAdd, Nat.reduceEqDiff, hgn_eq, hgn_lt, hgn_le, if_true, if_false, reduceIte, Nat.not_lt_zero, hgs_aa_d, hgs_aa_r, hgs_aa_h, hgs_aa_m, hgs_aa_t, hgs_ld_wp, hgs_st_wp, hgs_ld_qf, hgs_st_qf, hgs_ld_qt, hgs_st_qt, hgs_ld_2, hgs_st_2, hgs_ld_3, hgs_st_3, hgs_ld_4, hgs_st_4, hgs_ld_301, hgs_st_301, hgs_ld_D, hgs_st_D, hgs_ld_s, hgs_ld_T, hgs_st_T, hgs_ld_o, hgs_st_o, hgs_ld_b, hgs_st_b, hgs_ld_z, hgs_st_z, hgs_al_b, hgx_alen_s, hgn_add, hgn_mul, hw, x1, x2, x3, x4, x5, xl, q1, q2, e1, w1, e2, w2, k123, hk, jo, hgeq_cmp, l1]
    | false =>
      rw [hgB_f] at e2
      rw [if_neg (by decide)] at jo
      have l1 : lN 0 = 0 := rfl
      simp (maxDischargeDepth := 7) only [hgM_t, hgM_f, hgM_n, hgx_aload_n_1, hgx_aload_n_0, hgx_iload_4, hgx_iconst_1, hgx_iadd, hgx_aload_n_3, hgx_invstatic_3, hgx_aft_e, hgx_aft_i, hgx_aft_l, hgx_aft_v, hgx_istore_5i, hgx_istore_5r, hgx_istore_5f, hgx_istore_5n, hgx_istore_5l, hgx_aload_n_2, hgx_invvirtual_2, hgx_istore_6i, hgx_istore_6r, hgx_istore_6f, hgx_istore_6n, hgx_istore_6l, hgx_invvirtual_1, hgx_iload_5, hgx_ic_eq, hgx_iconst_0, hgx_ret3, hgx_if_ne, hgx_iload_6, hgx_if_eq, hgx_lconst_1, hgx_goto, hgx_lconst_0, hgx_lcmp, hgx_iinc_4_6, hgv227_799, hgr227_799, hgu227_799, hgv227_835, hgr227_835, hgu227_835, hgv227_852, hgr227_852, hgu227_852, hgv227_853, hgr227_853, hgu227_853, hgv227_859, hgr227_859, hgu227_859, hgv227_1821, hgr227_1821, hgu227_1821, hgv227_23, hgI_SI, hgI_SJ, hgJ_SI, hgJ_SJ, if_true, if_false, reduceIte, Nat.reduceEqDiff, hgWf_SI, hgWf_SJ, hgO_SI, hgO_SJ, hgAr_SI, hgAr_SJ, hgRp_SI, hgRp_SJ, hgN_SI, hgN_SJ, hgO_g, hgO_d, hgO_rl, hgO_r, hgO_0, hgO_1, hgO_64, hgO_298, hgO_300, hgCd_0, hgCd_1, hgCd_2, hgCd_3, hgCd_4, hgCd_5, hgRecv_O, hgRecv_99, List.length_cons, List.length_nil, Nat.zero_add, Nat.add_zero, Nat.le_refl, Nat.zero_le, and_self, or_true, true_or, true_and, and_true, ne_eq, not_false_eq_true, Nat.reduceLT, Nat.reduceLeDiff, Nat.reduceAdd, Nat.reduceEqDiff, hgn_eq, hgn_lt, hgn_le, if_true, if_false, reduceIte, Nat.not_lt_zero, hgs_aa_d, hgs_aa_r, hgs_aa_h, hgs_aa_m, hgs_aa_t, hgs_ld_wp, hgs_st_wp, hgs_ld_qf, hgs_st_qf, hgs_ld_qt, hgs_st_qt, hgs_ld_2, hgs_st_2, hgs_ld_3, hgs_st_3, hgs_ld_4, hgs_st_4, hgs_ld_301, hgs_st_301, hgs_ld_D, hgs_st_D, hgs_ld_s, hgs_ld_T, hgs_st_T, hgs_ld_o, hgs_st_o, hgs_ld_b, hgs_st_b, hgs_ld_z, hgs_st_z, hgs_al_b, hgx_alen_s, hgn_add, hgn_mul, hw, x1, x2, x3, x4, x5, xl, q1, q2, e1, w1, e2, w2, k123, hk, jo, hgeq_cmp, l1]
  · simp (maxDischargeDepth := 7) only [hgM_t, hgM_f, hgM_n, hgx_aload_n_1, hgx_aload_n_0, hgx_iload_4, hgx_iconst_1, hgx_iadd, hgx_aload_n_3, hgx_invstatic_3, hgx_aft_e, hgx_aft_i, hgx_aft_l, hgx_aft_v, hgx_istore_5i, hgx_istore_5r, hgx_istore_5f, hgx_istore_5n, hgx_istore_5l, hgx_aload_n_2, hgx_invvirtual_2, hgx_istore_6i, hgx_istore_6r, hgx_istore_6f, hgx_istore_6n, hgx_istore_6l, hgx_invvirtual_1, hgx_iload_5, hgx_ic_eq, hgx_iconst_0, hgx_ret3, hgx_if_ne, hgx_iload_6, hgx_if_eq, hgx_lconst_1, hgx_goto, hgx_lconst_0, hgx_lcmp, hgx_iinc_4_6, hgv227_799, hgr227_799, hgu227_799, hgv227_835, hgr227_835, hgu227_835, hgv227_852, hgr227_852, hgu227_852, hgv227_853, hgr227_853, hgu227_853, hgv227_859, hgr227_859, hgu227_859, hgv227_1821, hgr227_1821, hgu227_1821, hgv227_23, hgI_SI, hgI_SJ, hgJ_SI, hgJ_SJ, if_true, if_false, reduceIte, Nat.reduceEqDiff, hgWf_SI, hgWf_SJ, hgO_SI, hgO_SJ, hgAr_SI, hgAr_SJ, hgRp_SI, hgRp_SJ, hgN_SI, hgN_SJ, hgO_g, hgO_d, hgO_rl, hgO_r, hgO_0, hgO_1, hgO_64, hgO_298, hgO_300, hgCd_0, hgCd_1, hgCd_2, hgCd_3, hgCd_4, hgCd_5, hgRecv_O, hgRecv_99, List.length_cons, List.length_nil, Nat.zero_add, Nat.add_zero, Nat.le_refl, Nat.zero_le, and_self, or_true, true_or, true_and, and_true, ne_eq, not_false_eq_true, Nat.reduceLT, Nat.reduceLeDiff, Nat.reduceAdd, Nat.reduceEqDiff, hgn_eq, hgn_lt, hgn_le, if_true, if_false, reduceIte, Nat.not_lt_zero, hgs_aa_d, hgs_aa_r, hgs_aa_h, hgs_aa_m, hgs_aa_t, hgs_ld_wp, hgs_st_wp, hgs_ld_qf, hgs_st_qf, hgs_ld_qt, hgs_st_qt, hgs_ld_2, hgs_st_2, hgs_ld_3, hgs_st_3, hgs_ld_4, hgs_st_4, hgs_ld_301, hgs_st_301, hgs_ld_D, hgs_st_D, hgs_ld_s, hgs_ld_T, hgs_st_T, hgs_ld_o, hgs_st_o, hgs_ld_b, hgs_st_b, hgs_ld_z, hgs_st_z, hgs_al_b, hgx_alen_s, hgn_add, hgn_mul, hw, x1, x2, x3, x4, x5, xl, q1, q2, e1, w1, e2, w2, k123, hk]
theorem hgCs_862 (hX : 6 * n + 6 ≤ X.1) (hX2 : X.1 ≤ 3072) (hk1 : k1 ≤ 10000) (hk2 : k2 ≤ 1000000) (hw : hgWf M) (h : hgBi X 214 [.ref 0, .int (X.2 (6 * n + 1)), .int (X.2 (6 * n + 2)), .int (X.2 (6 * n + 3)), .ref 325] 183 [.ref 300, .int (X.2 (6 * n + 1)), .int (X.2 (6 * n + 2)), .int (X.2 (6 * n + 3))] M n) : hgCse X 862 n k1 k2 M := by
  obtain ⟨k, b, M1, M2, e1, e2, w1, t, jj, inv⟩ := h
  have x1 : 6 * n + 1 < X.1 := by omega
  have x2 : 6 * n + 2 < X.1 := by omega
  have x3 : 6 * n + 3 < X.1 := by omega
  have x4 : 6 * n + 4 < X.1 := by omega
  have x5 : 6 * n + 5 < X.1 := by omega
  have xl : X.1 < 2147483648 := by omega
  have q1 : k1 + 3 ≤ 601024 := by omega
  have q2 : k2 + 18 ≤ 7293034 := by omega
  have q3 : k1 ≤ 601024 := by omega
  have q4 : k2 ≤ 7293034 := by omega
  have w2 := hgInv_w inv
  have k123 := hgk_123 (X := X) w2
  rw [t] at k123
  refine ⟨M2, k1 + 3, k2 + 18, ?_, inv, by omega, by omega⟩
  by_cases hk : k = nI 0
  · have jo := jj hk
    simp (maxDischargeDepth := 7) only [hgM_t, hgM_f, hgM_n, hgx_aload_n_1, hgx_aload_n_0, hgx_iload_4, hgx_iconst_1, hgx_iadd, hgx_iconst_2, hgx_iconst_3, hgx_aload_n_3, hgx_invstatic_5, hgx_aft_e, hgx_aft_i, hgx_aft_l, hgx_aft_v, hgx_istore_5i, hgx_istore_5r, hgx_istore_5f, hgx_istore_5n, hgx_istore_5l, hgx_aload_n_2, hgx_invvirtual_4, hgx_istore_6i, hgx_istore_6r, hgx_istore_6f, hgx_istore_6n, hgx_istore_6l, hgx_invvirtual_1, hgx_iload_5, hgx_ic_eq, hgx_iconst_0, hgx_ret3, hgx_if_ne, hgx_iload_6, hgx_i2l, hgx_lcmp, hgx_if_eq, hgx_goto, hgx_iinc_4_6, hgv227_862, hgr227_862, hgu227_862, hgv227_922, hgr227_922, hgu227_922, hgv227_939, hgr227_939, hgu227_939, hgv227_1821, hgr227_1821, hgu227_1821, hgv227_23, hgI_SI, hgI_SJ, hgJ_SI, hgJ_SJ, if_true, if_false, reduceIte, Nat.reduceEqDiff, hgWf_SI, hgWf_SJ, hgO_SI, hgO_SJ, hgAr_SI, hgAr_SJ, hgRp_SI, hgRp_SJ, hgN_SI, hgN_SJ, hgO_g, hgO_d, hgO_rl, hgO_r, hgO_0, hgO_1, hgO_64, hgO_298, hgO_300, hgCd_0, hgCd_1, hgCd_2, hgCd_3, hgCd_4, hgCd_5, hgRecv_O, hgRecv_99, List.length_cons, List.length_nil, Nat.zero_add, Nat.add_zero, Nat.le_refl, Nat.zero_le, and_self, or_true, true_or, true_and, and_true, ne_eq, not_false_eq_true, Nat.reduceLT, Nat.reduceLeDiff, Nat.reduceAdd, Nat.reduceEqDiff, hgn_eq, hgn_lt, hgn_le, if_true, if_false, reduceIte, Nat.not_lt_zero, hgs_aa_d, hgs_aa_r, hgs_aa_h, hgs_aa_m, hgs_aa_t, hgs_ld_wp, hgs_st_wp, hgs_ld_qf, hgs_st_qf, hgs_ld_qt, hgs_st_qt, hgs_ld_2, hgs_st_2, hgs_ld_3, hgs_st_3, hgs_ld_4, hgs_st_4, hgs_ld_301, hgs_st_301, hgs_ld_D, hgs_st_D, hgs_ld_s, hgs_ld_T, hgs_st_T, hgs_ld_o, hgs_st_o, hgs_ld_b, hgs_st_b, hgs_ld_z, hgs_st_z, hgs_al_b, hgx_alen_s, hgn_add, hgn_mul, hw, x1, x2, x3, x4, x5, xl, q1, q2, e1, w1, e2, w2, k123, hk, jo, hgeq_cmp]
  · simp (maxDischargeDepth := 7) only [hgM_t, hgM_f, hgM_n, hgx_aload_n_1, hgx_aload_n_0, hgx_iload_4, hgx_iconst_1, hgx_iadd, hgx_iconst_2, hgx_iconst_3, hgx_aload_n_3, hgx_invstatic_5, hgx_aft_e, hgx_aft_i, hgx_aft_l, hgx_aft_v, hgx_istore_5i, hgx_istore_5r, hgx_istore_5f, hgx_istore_5n, hgx_istore_5l, hgx_aload_n_2, hgx_invvirtual_4, hgx_istore_6i, hgx_istore_6r, hgx_istore_6f, hgx_istore_6n, hgx_istore_6l, hgx_invvirtual_1, hgx_iload_5, hgx_ic_eq, hgx_iconst_0, hgx_ret3, hgx_if_ne, hgx_iload_6, hgx_i2l, hgx_lcmp, hgx_if_eq, hgx_goto, hgx_iinc_4_6, hgv227_862, hgr227_862, hgu227_862, hgv227_922, hgr227_922, hgu227_922, hgv227_939, hgr227_939, hgu227_939, hgv227_1821, hgr227_1821, hgu227_1821, hgv227_23, hgI_SI, hgI_SJ, hgJ_SI, hgJ_SJ, if_true, if_false, reduceIte, Nat.reduceEqDiff, hgWf_SI, hgWf_SJ, hgO_SI, hgO_SJ, hgAr_SI, hgAr_SJ, hgRp_SI, hgRp_SJ, hgN_SI, hgN_SJ, hgO_g, hgO_d, hgO_rl, hgO_r, hgO_0, hgO_1, hgO_64, hgO_298, hgO_300, hgCd_0, hgCd_1, hgCd_2, hgCd_3, hgCd_4, hgCd_5, hgRecv_O, hgRecv_99, List.length_cons, List.length_nil, Nat.zero_add, Nat.add_zero, Nat.le_refl, Nat.zero_le, and_self, or_true, true_or, true_and, and_true, ne_eq, not_false_eq_true, Nat.reduceLT, Nat.reduceLeDiff, Nat.reduceAdd, Nat.reduceEqDiff, hgn_eq, hgn_lt, hgn_le, if_true, if_false, reduceIte, Nat.not_lt_zero, hgs_aa_d, hgs_aa_r, hgs_aa_h, hgs_aa_m, hgs_aa_t, hgs_ld_wp, hgs_st_wp, hgs_ld_qf, hgs_st_qf, hgs_ld_qt, hgs_st_qt, hgs_ld_2, hgs_st_2, hgs_ld_3, hgs_st_3, hgs_ld_4, hgs_st_4, hgs_ld_301, hgs_st_301, hgs_ld_D, hgs_st_D, hgs_ld_s, hgs_ld_T, hgs_st_T, hgs_ld_o, hgs_st_o, hgs_ld_b, hgs_st_b, hgs_ld_z, hgs_st_z, hgs_al_b, hgx_alen_s, hgn_add, hgn_mul, hw, x1, x2, x3, x4, x5, xl, q1, q2, e1, w1, e2, w2, k123, hk]
theorem hgCs_942 (hX : 6 * n + 6 ≤ X.1) (hX2 : X.1 ≤ 3072) (hk1 : k1 ≤ 10000) (hk2 : k2 ≤ 1000000) (hw : hgWf M) (h : hgBi X 215 [.ref 0, .int (X.2 (6 * n + 1)), .int (X.2 (6 * n + 2)), .int (X.2 (6 * n + 3)), .ref 325] 184 [.ref 300, .int (X.2 (6 * n + 1)), .int (X.2 (6 * n + 2)), .int (X.2 (6 * n + 3))] M n) : hgCse X 942 n k1 k2 M := by
  obtain ⟨k, b, M1, M2, e1, e2, w1, t, jj, inv⟩ := h
  have x1 : 6 * n + 1 < X.1 := by omega
  have x2 : 6 * n + 2 < X.1 := by omega
  have x3 : 6 * n + 3 < X.1 := by omega
  have x4 : 6 * n + 4 < X.1 := by omega
  have x5 : 6 * n + 5 < X.1 := by omega
  have xl : X.1 < 2147483648 := by omega
  have q1 : k1 + 2 ≤ 601024 := by omega
  have q2 : k2 + 12 ≤ 7293034 := by omega
  have q3 : k1 ≤ 601024 := by omega
  have q4 : k2 ≤ 7293034 := by omega
  have w2 := hgInv_w inv
  have k123 := hgk_123 (X := X) w2
  rw [t] at k123
  refine ⟨M2, k1 + 2, k2 + 12, ?_, inv, by omega, by omega⟩
  by_cases hk : k = nI 0
  · have jo := jj hk
    simp (maxDischargeDepth := 7) only [hgM_t, hgM_f, hgM_n, hgx_aload_n_1, hgx_aload_n_0, hgx_iload_4, hgx_iconst_1, hgx_iadd, hgx_iconst_2, hgx_iconst_3, hgx_aload_n_3, hgx_invstatic_5, hgx_aft_e, hgx_aft_i, hgx_aft_l, hgx_aft_v, hgx_istore_5i, hgx_istore_5r, hgx_istore_5f, hgx_istore_5n, hgx_istore_5l, hgx_aload_n_2, hgx_invvirtual_4, hgx_istore_6i, hgx_istore_6r, hgx_istore_6f, hgx_istore_6n, hgx_istore_6l, hgx_invvirtual_1, hgx_iload_5, hgx_ic_eq, hgx_iconst_0, hgx_ret3, hgx_if_ne, hgx_iload_6, hgx_i2l, hgx_lcmp, hgx_if_eq, hgx_goto, hgx_iinc_4_6, hgv227_942, hgr227_942, hgu227_942, hgv227_1002, hgr227_1002, hgu227_1002, hgv227_1019, hgr227_1019, hgu227_1019, hgv227_1821, hgr227_1821, hgu227_1821, hgv227_23, hgI_SI, hgI_SJ, hgJ_SI, hgJ_SJ, if_true, if_false, reduceIte, Nat.reduceEqDiff, hgWf_SI, hgWf_SJ, hgO_SI, hgO_SJ, hgAr_SI, hgAr_SJ, hgRp_SI, hgRp_SJ, hgN_SI, hgN_SJ, hgO_g, hgO_d, hgO_rl, hgO_r, hgO_0, hgO_1, hgO_64, hgO_298, hgO_300, hgCd_0, hgCd_1, hgCd_2, hgCd_3, hgCd_4, hgCd_5, hgRecv_O, hgRecv_99, List.length_cons, List.length_nil, Nat.zero_add, Nat.add_zero, Nat.le_refl, Nat.zero_le, and_self, or_true, true_or, true_and, and_true, ne_eq, not_false_eq_true, Nat.reduceLT, Nat.reduceLeDiff, Nat.reduceAdd, Nat.reduceEqDiff, hgn_eq, hgn_lt, hgn_le, if_true, if_false, reduceIte, Nat.not_lt_zero, hgs_aa_d, hgs_aa_r, hgs_aa_h, hgs_aa_m, hgs_aa_t, hgs_ld_wp, hgs_st_wp, hgs_ld_qf, hgs_st_qf, hgs_ld_qt, hgs_st_qt, hgs_ld_2, hgs_st_2, hgs_ld_3, hgs_st_3, hgs_ld_4, hgs_st_4, hgs_ld_301, hgs_st_301, hgs_ld_D, hgs_st_D, hgs_ld_s, hgs_ld_T, hgs_st_T, hgs_ld_o, hgs_st_o, hgs_ld_b, hgs_st_b, hgs_ld_z, hgs_st_z, hgs_al_b, hgx_alen_s, hgn_add, hgn_mul, hw, x1, x2, x3, x4, x5, xl, q1, q2, e1, w1, e2, w2, k123, hk, jo, hgeq_cmp]
  · simp (maxDischargeDepth := 7) only [hgM_t, hgM_f, hgM_n, hgx_aload_n_1, hgx_aload_n_0, hgx_iload_4, hgx_iconst_1, hgx_iadd, hgx_iconst_2, hgx_iconst_3, hgx_aload_n_3, hgx_invstatic_5, hgx_aft_e, hgx_aft_i, hgx_aft_l, hgx_aft_v, hgx_istore_5i, hgx_istore_5r, hgx_istore_5f, hgx_istore_5n, hgx_istore_5l, hgx_aload_n_2, hgx_invvirtual_4, hgx_istore_6i, hgx_istore_6r, hgx_istore_6f, hgx_istore_6n, hgx_istore_6l, hgx_invvirtual_1, hgx_iload_5, hgx_ic_eq, hgx_iconst_0, hgx_ret3, hgx_if_ne, hgx_iload_6, hgx_i2l, hgx_lcmp, hgx_if_eq, hgx_goto, hgx_iinc_4_6, hgv227_942, hgr227_942, hgu227_942, hgv227_1002, hgr227_1002, hgu227_1002, hgv227_1019, hgr227_1019, hgu227_1019, hgv227_1821, hgr227_1821, hgu227_1821, hgv227_23, hgI_SI, hgI_SJ, hgJ_SI, hgJ_SJ, if_true, if_false, reduceIte, Nat.reduceEqDiff, hgWf_SI, hgWf_SJ, hgO_SI, hgO_SJ, hgAr_SI, hgAr_SJ, hgRp_SI, hgRp_SJ, hgN_SI, hgN_SJ, hgO_g, hgO_d, hgO_rl, hgO_r, hgO_0, hgO_1, hgO_64, hgO_298, hgO_300, hgCd_0, hgCd_1, hgCd_2, hgCd_3, hgCd_4, hgCd_5, hgRecv_O, hgRecv_99, List.length_cons, List.length_nil, Nat.zero_add, Nat.add_zero, Nat.le_refl, Nat.zero_le, and_self, or_true, true_or, true_and, and_true, ne_eq, not_false_eq_true, Nat.reduceLT, Nat.reduceLeDiff, Nat.reduceAdd, Nat.reduceEqDiff, hgn_eq, hgn_lt, hgn_le, if_true, if_false, reduceIte, Nat.not_lt_zero, hgs_aa_d, hgs_aa_r, hgs_aa_h, hgs_aa_m, hgs_aa_t, hgs_ld_wp, hgs_st_wp, hgs_ld_qf, hgs_st_qf, hgs_ld_qt, hgs_st_qt, hgs_ld_2, hgs_st_2, hgs_ld_3, hgs_st_3, hgs_ld_4, hgs_st_4, hgs_ld_301, hgs_st_301, hgs_ld_D, hgs_st_D, hgs_ld_s, hgs_ld_T, hgs_st_T, hgs_ld_o, hgs_st_o, hgs_ld_b, hgs_st_b, hgs_ld_z, hgs_st_z, hgs_al_b, hgx_alen_s, hgn_add, hgn_mul, hw, x1, x2, x3, x4, x5, xl, q1, q2, e1, w1, e2, w2, k123, hk]
theorem hgCs_1022 (hX : 6 * n + 6 ≤ X.1) (hX2 : X.1 ≤ 3072) (hk1 : k1 ≤ 10000) (hk2 : k2 ≤ 1000000) (hw : hgWf M) (h : hgBb X 216 [.ref 0, .int (X.2 (6 * n + 1)), .ref 325] 185 [.ref 300, .int (X.2 (6 * n + 1))] M n) : hgCse X 1022 n k1 k2 M := by
  obtain ⟨k, b, M1, M2, e1, e2, w1, t, jj, inv⟩ := h
  have x1 : 6 * n + 1 < X.1 := by omega
  have x2 : 6 * n + 2 < X.1 := by omega
  have x3 : 6 * n + 3 < X.1 := by omega
  have x4 : 6 * n + 4 < X.1 := by omega
  have x5 : 6 * n + 5 < X.1 := by omega
  have xl : X.1 < 2147483648 := by omega
  have q1 : k1 + 1 ≤ 601024 := by omega
  have q2 : k2 + 6 ≤ 7293034 := by omega
  have q3 : k1 ≤ 601024 := by omega
  have q4 : k2 ≤ 7293034 := by omega
  have w2 := hgInv_w inv
  have k123 := hgk_123 (X := X) w2
  rw [t] at k123
  refine ⟨M2, k1 + 1, k2 + 6, ?_, inv, by omega, by omega⟩
  by_cases hk : k = nI 0
  · have jo := jj hk
    cases b with
    | true =>
      rw [hgB_t] at e2
      rw [if_pos rfl] at jo
      have l1 : lN 1 = 1 := rfl
      simp (maxDischargeDepth := 7) only [hgM_t, hgM_f, hgM_n, hgx_aload_n_1, hgx_aload_n_0, hgx_iload_4, hgx_iconst_1, hgx_iadd, hgx_aload_n_3, hgx_invstatic_3, hgx_aft_e, hgx_aft_i, hgx_aft_l, hgx_aft_v, hgx_istore_5i, hgx_istore_5r, hgx_istore_5f, hgx_istore_5n, hgx_istore_5l, hgx_aload_n_2, hgx_invvirtual_2, hgx_istore_6i, hgx_istore_6r, hgx_istore_6f, hgx_istore_6n, hgx_istore_6l, hgx_invvirtual_1, hgx_iload_5, hgx_ic_eq, hgx_iconst_0, hgx_ret3, hgx_if_ne, hgx_iload_6, hgx_if_eq, hgx_lconst_1, hgx_goto, hgx_lconst_0, hgx_lcmp, hgx_iinc_4_6, hgv227_1022, hgr227_1022, hgu227_1022, hgv227_1058, hgr227_1058, hgu227_1058, hgv227_1075, hgr227_1075, hgu227_1075, hgv227_1076, hgr227_1076, hgu227_1076, hgv227_1082, hgr227_1082, hgu227_1082, hgv227_1821, hgr227_1821, hgu227_1821, hgv227_23, hgI_SI, hgI_SJ, hgJ_SI, hgJ_SJ, if_true, if_false, reduceIte, Nat.reduceEqDiff, hgWf_SI, hgWf_SJ, hgO_SI, hgO_SJ, hgAr_SI, hgAr_SJ, hgRp_SI, hgRp_SJ, hgN_SI, hgN_SJ, hgO_g, hgO_d, hgO_rl, hgO_r, hgO_0, hgO_1, hgO_64, hgO_298, hgO_300, hgCd_0, hgCd_1, hgCd_2, hgCd_3, hgCd_4, hgCd_5, hgRecv_O, hgRecv_99, List.length_cons, List.length_nil, Nat.zero_add, Nat.add_zero, Nat.le_refl, Nat.zero_le, and_self, or_true, true_or, true_and, and_true, ne_eq, not_false_eq_true, Nat.reduceLT, Nat.reduceLeDiff, Nat.reduceAdd, Nat.reduceEqDiff, hgn_eq, hgn_lt, hgn_le, if_true, if_false, reduceIte, Nat.not_lt_zero, hgs_aa_d, hgs_aa_r, hgs_aa_h, hgs_aa_m, hgs_aa_t, hgs_ld_wp, hgs_st_wp, hgs_ld_qf, hgs_st_qf, hgs_ld_qt, hgs_st_qt, hgs_ld_2, hgs_st_2, hgs_ld_3, hgs_st_3, hgs_ld_4, hgs_st_4, hgs_ld_301, hgs_st_301, hgs_ld_D, hgs_st_D, hgs_ld_s, hgs_ld_T, hgs_st_T, hgs_ld_o, hgs_st_o, hgs_ld_b, hgs_st_b, hgs_ld_z, hgs_st_z, hgs_al_b, hgx_alen_s, hgn_add, hgn_mul, hw, x1, x2, x3, x4, x5, xl, q1, q2, e1, w1, e2, w2, k123, hk, jo, hgeq_cmp, l1]
    | false =>
      rw [hgB_f] at e2
      rw [if_neg (by decide)] at jo
      have l1 : lN 0 = 0 := rfl
      simp (maxDischargeDepth := 7) only [hgM_t, hgM_f, hgM_n, hgx_aload_n_1, hgx_aload_n_0, hgx_iload_4, hgx_iconst_1, hgx_iadd, hgx_aload_n_3, hgx_invstatic_3, hgx_aft_e, hgx_aft_i, hgx_aft_l, hgx_aft_v, hgx_istore_5i, hgx_istore_5r, hgx_istore_5f, hgx_istore_5n, hgx_istore_5l, hgx_aload_n_2, hgx_invvirtual_2, hgx_istore_6i, hgx_istore_6r, hgx_istore_6f, hgx_istore_6n, hgx_istore_6l, hgx_invvirtual_1, hgx_iload_5, hgx_ic_eq, hgx_iconst_0, hgx_ret3, hgx_if_ne, hgx_iload_6, hgx_if_eq, hgx_lconst_1, hgx_goto, hgx_lconst_0, hgx_lcmp, hgx_iinc_4_6, hgv227_1022, hgr227_1022, hgu227_1022, hgv227_1058, hgr227_1058, hgu227_1058, hgv227_1075, hgr227_1075, hgu227_1075, hgv227_1076, hgr227_1076, hgu227_1076, hgv227_1082, hgr227_1082, hgu227_1082, hgv227_1821, hgr227_1821, hgu227_1821, hgv227_23, hgI_SI, hgI_SJ, hgJ_SI, hgJ_SJ, if_true, if_false, reduceIte, Nat.reduceEqDiff, hgWf_SI, hgWf_SJ, hgO_SI, hgO_SJ, hgAr_SI, hgAr_SJ, hgRp_SI, hgRp_SJ, hgN_SI, hgN_SJ, hgO_g, hgO_d, hgO_rl, hgO_r, hgO_0, hgO_1, hgO_64, hgO_298, hgO_300, hgCd_0, hgCd_1, hgCd_2, hgCd_3, hgCd_4, hgCd_5, hgRecv_O, hgRecv_99, List.length_cons, List.length_nil, Nat.zero_add, Nat.add_zero, Nat.le_refl, Nat.zero_le, and_self, or_true, true_or, true_and, and_true, ne_eq, not_false_eq_true, Nat.reduceLT, Nat.reduceLeDiff, Nat.reduceAdd, Nat.reduceEqDiff, hgn_eq, hgn_lt, hgn_le, if_true, if_false, reduceIte, Nat.not_lt_zero, hgs_aa_d, hgs_aa_r, hgs_aa_h, hgs_aa_m, hgs_aa_t, hgs_ld_wp, hgs_st_wp, hgs_ld_qf, hgs_st_qf, hgs_ld_qt, hgs_st_qt, hgs_ld_2, hgs_st_2, hgs_ld_3, hgs_st_3, hgs_ld_4, hgs_st_4, hgs_ld_301, hgs_st_301, hgs_ld_D, hgs_st_D, hgs_ld_s, hgs_ld_T, hgs_st_T, hgs_ld_o, hgs_st_o, hgs_ld_b, hgs_st_b, hgs_ld_z, hgs_st_z, hgs_al_b, hgx_alen_s, hgn_add, hgn_mul, hw, x1, x2, x3, x4, x5, xl, q1, q2, e1, w1, e2, w2, k123, hk, jo, hgeq_cmp, l1]
  · simp (maxDischargeDepth := 7) only [hgM_t, hgM_f, hgM_n, hgx_aload_n_1, hgx_aload_n_0, hgx_iload_4, hgx_iconst_1, hgx_iadd, hgx_aload_n_3, hgx_invstatic_3, hgx_aft_e, hgx_aft_i, hgx_aft_l, hgx_aft_v, hgx_istore_5i, hgx_istore_5r, hgx_istore_5f, hgx_istore_5n, hgx_istore_5l, hgx_aload_n_2, hgx_invvirtual_2, hgx_istore_6i, hgx_istore_6r, hgx_istore_6f, hgx_istore_6n, hgx_istore_6l, hgx_invvirtual_1, hgx_iload_5, hgx_ic_eq, hgx_iconst_0, hgx_ret3, hgx_if_ne, hgx_iload_6, hgx_if_eq, hgx_lconst_1, hgx_goto, hgx_lconst_0, hgx_lcmp, hgx_iinc_4_6, hgv227_1022, hgr227_1022, hgu227_1022, hgv227_1058, hgr227_1058, hgu227_1058, hgv227_1075, hgr227_1075, hgu227_1075, hgv227_1076, hgr227_1076, hgu227_1076, hgv227_1082, hgr227_1082, hgu227_1082, hgv227_1821, hgr227_1821, hgu227_1821, hgv227_23, hgI_SI, hgI_SJ, hgJ_SI, hgJ_SJ, if_true, if_false, reduceIte, Nat.reduceEqDiff, hgWf_SI, hgWf_SJ, hgO_SI, hgO_SJ, hgAr_SI, hgAr_SJ, hgRp_SI, hgRp_SJ, hgN_SI, hgN_SJ, hgO_g, hgO_d, hgO_rl, hgO_r, hgO_0, hgO_1, hgO_64, hgO_298, hgO_300, hgCd_0, hgCd_1, hgCd_2, hgCd_3, hgCd_4, hgCd_5, hgRecv_O, hgRecv_99, List.length_cons, List.length_nil, Nat.zero_add, Nat.add_zero, Nat.le_refl, Nat.zero_le, and_self, or_true, true_or, true_and, and_true, ne_eq, not_false_eq_true, Nat.reduceLT, Nat.reduceLeDiff, Nat.reduceAdd, Nat.reduceEqDiff, hgn_eq, hgn_lt, hgn_le, if_true, if_false, reduceIte, Nat.not_lt_zero, hgs_aa_d, hgs_aa_r, hgs_aa_h, hgs_aa_m, hgs_aa_t, hgs_ld_wp, hgs_st_wp, hgs_ld_qf, hgs_st_qf, hgs_ld_qt, hgs_st_qt, hgs_ld_2, hgs_st_2, hgs_ld_3, hgs_st_3, hgs_ld_4, hgs_st_4, hgs_ld_301, hgs_st_301, hgs_ld_D, hgs_st_D, hgs_ld_s, hgs_ld_T, hgs_st_T, hgs_ld_o, hgs_st_o, hgs_ld_b, hgs_st_b, hgs_ld_z, hgs_st_z, hgs_al_b, hgx_alen_s, hgn_add, hgn_mul, hw, x1, x2, x3, x4, x5, xl, q1, q2, e1, w1, e2, w2, k123, hk]
theorem hgCs_1085 (hX : 6 * n + 6 ≤ X.1) (hX2 : X.1 ≤ 3072) (hk1 : k1 ≤ 10000) (hk2 : k2 ≤ 1000000) (hw : hgWf M) (h : hgBi X 217 [.ref 0, .int (X.2 (6 * n + 1)), .int (X.2 (6 * n + 2)), .ref 325] 186 [.ref 300, .int (X.2 (6 * n + 1)), .int (X.2 (6 * n + 2))] M n) : hgCse X 1085 n k1 k2 M := by
  obtain ⟨k, b, M1, M2, e1, e2, w1, t, jj, inv⟩ := h
  have x1 : 6 * n + 1 < X.1 := by omega
  have x2 : 6 * n + 2 < X.1 := by omega
  have x3 : 6 * n + 3 < X.1 := by omega
  have x4 : 6 * n + 4 < X.1 := by omega
  have x5 : 6 * n + 5 < X.1 := by omega
  have xl : X.1 < 2147483648 := by omega
  have q1 : k1 + 2 ≤ 601024 := by omega
  have q2 : k2 + 12 ≤ 7293034 := by omega
  have q3 : k1 ≤ 601024 := by omega
  have q4 : k2 ≤ 7293034 := by omega
  have w2 := hgInv_w inv
  have k123 := hgk_123 (X := X) w2
  rw [t] at k123
  refine ⟨M2, k1 + 2, k2 + 12, ?_, inv, by omega, by omega⟩
  by_cases hk : k = nI 0
  · have jo := jj hk
    simp (maxDischargeDepth := 7) only [hgM_t, hgM_f, hgM_n, hgx_aload_n_1, hgx_aload_n_0, hgx_iload_4, hgx_iconst_1, hgx_iadd, hgx_iconst_2, hgx_aload_n_3, hgx_invstatic_4, hgx_aft_e, hgx_aft_i, hgx_aft_l, hgx_aft_v, hgx_istore_5i, hgx_istore_5r, hgx_istore_5f, hgx_istore_5n, hgx_istore_5l, hgx_aload_n_2, hgx_invvirtual_3, hgx_istore_6i, hgx_istore_6r, hgx_istore_6f, hgx_istore_6n, hgx_istore_6l, hgx_invvirtual_1, hgx_iload_5, hgx_ic_eq, hgx_iconst_0, hgx_ret3, hgx_if_ne, hgx_iload_6, hgx_i2l, hgx_lcmp, hgx_if_eq, hgx_goto, hgx_iinc_4_6, hgv227_1085, hgr227_1085, hgu227_1085, hgv227_1133, hgr227_1133, hgu227_1133, hgv227_1150, hgr227_1150, hgu227_1150, hgv227_1821, hgr227_1821, hgu227_1821, hgv227_23, hgI_SI, hgI_SJ, hgJ_SI, hgJ_SJ, if_true, if_false, reduceIte, Nat.reduceEqDiff, hgWf_SI, hgWf_SJ, hgO_SI, hgO_SJ, hgAr_SI, hgAr_SJ, hgRp_SI, hgRp_SJ, hgN_SI, hgN_SJ, hgO_g, hgO_d, hgO_rl, hgO_r, hgO_0, hgO_1, hgO_64, hgO_298, hgO_300, hgCd_0, hgCd_1, hgCd_2, hgCd_3, hgCd_4, hgCd_5, hgRecv_O, hgRecv_99, List.length_cons, List.length_nil, Nat.zero_add, Nat.add_zero, Nat.le_refl, Nat.zero_le, and_self, or_true, true_or, true_and, and_true, ne_eq, not_false_eq_true, Nat.reduceLT, Nat.reduceLeDiff, Nat.reduceAdd, Nat.reduceEqDiff, hgn_eq, hgn_lt, hgn_le, if_true, if_false, reduceIte, Nat.not_lt_zero, hgs_aa_d, hgs_aa_r, hgs_aa_h, hgs_aa_m, hgs_aa_t, hgs_ld_wp, hgs_st_wp, hgs_ld_qf, hgs_st_qf, hgs_ld_qt, hgs_st_qt, hgs_ld_2, hgs_st_2, hgs_ld_3, hgs_st_3, hgs_ld_4, hgs_st_4, hgs_ld_301, hgs_st_301, hgs_ld_D, hgs_st_D, hgs_ld_s, hgs_ld_T, hgs_st_T, hgs_ld_o, hgs_st_o, hgs_ld_b, hgs_st_b, hgs_ld_z, hgs_st_z, hgs_al_b, hgx_alen_s, hgn_add, hgn_mul, hw, x1, x2, x3, x4, x5, xl, q1, q2, e1, w1, e2, w2, k123, hk, jo, hgeq_cmp]
  · simp (maxDischargeDepth := 7) only [hgM_t, hgM_f, hgM_n, hgx_aload_n_1, hgx_aload_n_0, hgx_iload_4, hgx_iconst_1, hgx_iadd, hgx_iconst_2, hgx_aload_n_3, hgx_invstatic_4, hgx_aft_e, hgx_aft_i, hgx_aft_l, hgx_aft_v, hgx_istore_5i, hgx_istore_5r, hgx_istore_5f, hgx_istore_5n, hgx_istore_5l, hgx_aload_n_2, hgx_invvirtual_3, hgx_istore_6i, hgx_istore_6r, hgx_istore_6f, hgx_istore_6n, hgx_istore_6l, hgx_invvirtual_1, hgx_iload_5, hgx_ic_eq, hgx_iconst_0, hgx_ret3, hgx_if_ne, hgx_iload_6, hgx_i2l, hgx_lcmp, hgx_if_eq, hgx_goto, hgx_iinc_4_6, hgv227_1085, hgr227_1085, hgu227_1085, hgv227_1133, hgr227_1133, hgu227_1133, hgv227_1150, hgr227_1150, hgu227_1150, hgv227_1821, hgr227_1821, hgu227_1821, hgv227_23, hgI_SI, hgI_SJ, hgJ_SI, hgJ_SJ, if_true, if_false, reduceIte, Nat.reduceEqDiff, hgWf_SI, hgWf_SJ, hgO_SI, hgO_SJ, hgAr_SI, hgAr_SJ, hgRp_SI, hgRp_SJ, hgN_SI, hgN_SJ, hgO_g, hgO_d, hgO_rl, hgO_r, hgO_0, hgO_1, hgO_64, hgO_298, hgO_300, hgCd_0, hgCd_1, hgCd_2, hgCd_3, hgCd_4, hgCd_5, hgRecv_O, hgRecv_99, List.length_cons, List.length_nil, Nat.zero_add, Nat.add_zero, Nat.le_refl, Nat.zero_le, and_self, or_true, true_or, true_and, and_true, ne_eq, not_false_eq_true, Nat.reduceLT, Nat.reduceLeDiff, Nat.reduceAdd, Nat.reduceEqDiff, hgn_eq, hgn_lt, hgn_le, if_true, if_false, reduceIte, Nat.not_lt_zero, hgs_aa_d, hgs_aa_r, hgs_aa_h, hgs_aa_m, hgs_aa_t, hgs_ld_wp, hgs_st_wp, hgs_ld_qf, hgs_st_qf, hgs_ld_qt, hgs_st_qt, hgs_ld_2, hgs_st_2, hgs_ld_3, hgs_st_3, hgs_ld_4, hgs_st_4, hgs_ld_301, hgs_st_301, hgs_ld_D, hgs_st_D, hgs_ld_s, hgs_ld_T, hgs_st_T, hgs_ld_o, hgs_st_o, hgs_ld_b, hgs_st_b, hgs_ld_z, hgs_st_z, hgs_al_b, hgx_alen_s, hgn_add, hgn_mul, hw, x1, x2, x3, x4, x5, xl, q1, q2, e1, w1, e2, w2, k123, hk]
theorem hgCs_1153 (hX : 6 * n + 6 ≤ X.1) (hX2 : X.1 ≤ 3072) (hk1 : k1 ≤ 10000) (hk2 : k2 ≤ 1000000) (hw : hgWf M) (h : hgAi X 104 [.ref 0] 187 [.ref 300] M n) : hgCse X 1153 n k1 k2 M := by
  obtain ⟨a, M1, M2, e1, e2, w1, inv⟩ := h
  have x1 : 6 * n + 1 < X.1 := by omega
  have x2 : 6 * n + 2 < X.1 := by omega
  have x3 : 6 * n + 3 < X.1 := by omega
  have x4 : 6 * n + 4 < X.1 := by omega
  have x5 : 6 * n + 5 < X.1 := by omega
  have xl : X.1 < 2147483648 := by omega
  have q1 : k1 + 0 ≤ 601024 := by omega
  have q2 : k2 + 0 ≤ 7293034 := by omega
  have q3 : k1 ≤ 601024 := by omega
  have q4 : k2 ≤ 7293034 := by omega
  refine ⟨M2, k1 + 0, k2 + 0, ?_, inv, by omega, by omega⟩
  simp (maxDischargeDepth := 7) only [hgM_t, hgM_f, hgM_n, hgx_aload_n_1, hgx_invvirtual_1, hgx_aft_e, hgx_aft_i, hgx_aft_l, hgx_aft_v, hgx_aload_n_2, hgx_ic_eq, hgx_iconst_0, hgx_ret3, hgx_iinc_4_6, hgx_goto, hgv227_1153, hgr227_1153, hgu227_1153, hgv227_1821, hgr227_1821, hgu227_1821, hgv227_23, hgI_SI, hgI_SJ, hgJ_SI, hgJ_SJ, if_true, if_false, reduceIte, Nat.reduceEqDiff, hgWf_SI, hgWf_SJ, hgO_SI, hgO_SJ, hgAr_SI, hgAr_SJ, hgRp_SI, hgRp_SJ, hgN_SI, hgN_SJ, hgO_g, hgO_d, hgO_rl, hgO_r, hgO_0, hgO_1, hgO_64, hgO_298, hgO_300, hgCd_0, hgCd_1, hgCd_2, hgCd_3, hgCd_4, hgCd_5, hgRecv_O, hgRecv_99, List.length_cons, List.length_nil, Nat.zero_add, Nat.add_zero, Nat.le_refl, Nat.zero_le, and_self, or_true, true_or, true_and, and_true, ne_eq, not_false_eq_true, Nat.reduceLT, Nat.reduceLeDiff, Nat.reduceAdd, Nat.reduceEqDiff, hgn_eq, hgn_lt, hgn_le, if_true, if_false, reduceIte, Nat.not_lt_zero, hgs_aa_d, hgs_aa_r, hgs_aa_h, hgs_aa_m, hgs_aa_t, hgs_ld_wp, hgs_st_wp, hgs_ld_qf, hgs_st_qf, hgs_ld_qt, hgs_st_qt, hgs_ld_2, hgs_st_2, hgs_ld_3, hgs_st_3, hgs_ld_4, hgs_st_4, hgs_ld_301, hgs_st_301, hgs_ld_D, hgs_st_D, hgs_ld_s, hgs_ld_T, hgs_st_T, hgs_ld_o, hgs_st_o, hgs_ld_b, hgs_st_b, hgs_ld_z, hgs_st_z, hgs_al_b, hgx_alen_s, hgn_add, hgn_mul, hw, x1, x2, x3, x4, x5, xl, q1, q2, q3, q4, e1, w1, e2, hgeq_cmp]
theorem hgCs_1166 (hX : 6 * n + 6 ≤ X.1) (hX2 : X.1 ≤ 3072) (hk1 : k1 ≤ 10000) (hk2 : k2 ≤ 1000000) (hw : hgWf M) (h : hgBi X 218 [.ref 0, .int (X.2 (6 * n + 1)), .ref 325] 189 [.ref 300, .int (X.2 (6 * n + 1))] M n) : hgCse X 1166 n k1 k2 M := by
  obtain ⟨k, b, M1, M2, e1, e2, w1, t, jj, inv⟩ := h
  have x1 : 6 * n + 1 < X.1 := by omega
  have x2 : 6 * n + 2 < X.1 := by omega
  have x3 : 6 * n + 3 < X.1 := by omega
  have x4 : 6 * n + 4 < X.1 := by omega
  have x5 : 6 * n + 5 < X.1 := by omega
  have xl : X.1 < 2147483648 := by omega
  have q1 : k1 + 1 ≤ 601024 := by omega
  have q2 : k2 + 6 ≤ 7293034 := by omega
  have q3 : k1 ≤ 601024 := by omega
  have q4 : k2 ≤ 7293034 := by omega
  have w2 := hgInv_w inv
  have k123 := hgk_123 (X := X) w2
  rw [t] at k123
  refine ⟨M2, k1 + 1, k2 + 6, ?_, inv, by omega, by omega⟩
  by_cases hk : k = nI 0
  · have jo := jj hk
    simp (maxDischargeDepth := 7) only [hgM_t, hgM_f, hgM_n, hgx_aload_n_1, hgx_aload_n_0, hgx_iload_4, hgx_iconst_1, hgx_iadd, hgx_aload_n_3, hgx_invstatic_3, hgx_aft_e, hgx_aft_i, hgx_aft_l, hgx_aft_v, hgx_istore_5i, hgx_istore_5r, hgx_istore_5f, hgx_istore_5n, hgx_istore_5l, hgx_aload_n_2, hgx_invvirtual_2, hgx_istore_6i, hgx_istore_6r, hgx_istore_6f, hgx_istore_6n, hgx_istore_6l, hgx_invvirtual_1, hgx_iload_5, hgx_ic_eq, hgx_iconst_0, hgx_ret3, hgx_if_ne, hgx_iload_6, hgx_i2l, hgx_lcmp, hgx_if_eq, hgx_goto, hgx_iinc_4_6, hgv227_1166, hgr227_1166, hgu227_1166, hgv227_1202, hgr227_1202, hgu227_1202, hgv227_1219, hgr227_1219, hgu227_1219, hgv227_1821, hgr227_1821, hgu227_1821, hgv227_23, hgI_SI, hgI_SJ, hgJ_SI, hgJ_SJ, if_true, if_false, reduceIte, Nat.reduceEqDiff, hgWf_SI, hgWf_SJ, hgO_SI, hgO_SJ, hgAr_SI, hgAr_SJ, hgRp_SI, hgRp_SJ, hgN_SI, hgN_SJ, hgO_g, hgO_d, hgO_rl, hgO_r, hgO_0, hgO_1, hgO_64, hgO_298, hgO_300, hgCd_0, hgCd_1, hgCd_2, hgCd_3, hgCd_4, hgCd_5, hgRecv_O, hgRecv_99, List.length_cons, List.length_nil, Nat.zero_add, Nat.add_zero, Nat.le_refl, Nat.zero_le, and_self, or_true, true_or, true_and, and_true, ne_eq, not_false_eq_true, Nat.reduceLT, Nat.reduceLeDiff, Nat.reduceAdd, Nat.reduceEqDiff, hgn_eq, hgn_lt, hgn_le, if_true, if_false, reduceIte, Nat.not_lt_zero, hgs_aa_d, hgs_aa_r, hgs_aa_h, hgs_aa_m, hgs_aa_t, hgs_ld_wp, hgs_st_wp, hgs_ld_qf, hgs_st_qf, hgs_ld_qt, hgs_st_qt, hgs_ld_2, hgs_st_2, hgs_ld_3, hgs_st_3, hgs_ld_4, hgs_st_4, hgs_ld_301, hgs_st_301, hgs_ld_D, hgs_st_D, hgs_ld_s, hgs_ld_T, hgs_st_T, hgs_ld_o, hgs_st_o, hgs_ld_b, hgs_st_b, hgs_ld_z, hgs_st_z, hgs_al_b, hgx_alen_s, hgn_add, hgn_mul, hw, x1, x2, x3, x4, x5, xl, q1, q2, e1, w1, e2, w2, k123, hk, jo, hgeq_cmp]
  · simp (maxDischargeDepth := 7) only [hgM_t, hgM_f, hgM_n, hgx_aload_n_1, hgx_aload_n_0, hgx_iload_4, hgx_iconst_1, hgx_iadd, hgx_aload_n_3, hgx_invstatic_3, hgx_aft_e, hgx_aft_i, hgx_aft_l, hgx_aft_v, hgx_istore_5i, hgx_istore_5r, hgx_istore_5f, hgx_istore_5n, hgx_istore_5l, hgx_aload_n_2, hgx_invvirtual_2, hgx_istore_6i, hgx_istore_6r, hgx_istore_6f, hgx_istore_6n, hgx_istore_6l, hgx_invvirtual_1, hgx_iload_5, hgx_ic_eq, hgx_iconst_0, hgx_ret3, hgx_if_ne, hgx_iload_6, hgx_i2l, hgx_lcmp, hgx_if_eq, hgx_goto, hgx_iinc_4_6, hgv227_1166, hgr227_1166, hgu227_1166, hgv227_1202, hgr227_1202, hgu227_1202, hgv227_1219, hgr227_1219, hgu227_1219, hgv227_1821, hgr227_1821, hgu227_1821, hgv227_23, hgI_SI, hgI_SJ, hgJ_SI, hgJ_SJ, if_true, if_false, reduceIte, Nat.reduceEqDiff, hgWf_SI, hgWf_SJ, hgO_SI, hgO_SJ, hgAr_SI, hgAr_SJ, hgRp_SI, hgRp_SJ, hgN_SI, hgN_SJ, hgO_g, hgO_d, hgO_rl, hgO_r, hgO_0, hgO_1, hgO_64, hgO_298, hgO_300, hgCd_0, hgCd_1, hgCd_2, hgCd_3, hgCd_4, hgCd_5, hgRecv_O, hgRecv_99, List.length_cons, List.length_nil, Nat.zero_add, Nat.add_zero, Nat.le_refl, Nat.zero_le, and_self, or_true, true_or, true_and, and_true, ne_eq, not_false_eq_true, Nat.reduceLT, Nat.reduceLeDiff, Nat.reduceAdd, Nat.reduceEqDiff, hgn_eq, hgn_lt, hgn_le, if_true, if_false, reduceIte, Nat.not_lt_zero, hgs_aa_d, hgs_aa_r, hgs_aa_h, hgs_aa_m, hgs_aa_t, hgs_ld_wp, hgs_st_wp, hgs_ld_qf, hgs_st_qf, hgs_ld_qt, hgs_st_qt, hgs_ld_2, hgs_st_2, hgs_ld_3, hgs_st_3, hgs_ld_4, hgs_st_4, hgs_ld_301, hgs_st_301, hgs_ld_D, hgs_st_D, hgs_ld_s, hgs_ld_T, hgs_st_T, hgs_ld_o, hgs_st_o, hgs_ld_b, hgs_st_b, hgs_ld_z, hgs_st_z, hgs_al_b, hgx_alen_s, hgn_add, hgn_mul, hw, x1, x2, x3, x4, x5, xl, q1, q2, e1, w1, e2, w2, k123, hk]
theorem hgCs_1222 (hX : 6 * n + 6 ≤ X.1) (hX2 : X.1 ≤ 3072) (hk1 : k1 ≤ 10000) (hk2 : k2 ≤ 1000000) (hw : hgWf M) (h : hgBi X 219 [.ref 0, .int (X.2 (6 * n + 1)), .int (X.2 (6 * n + 2)), .int (X.2 (6 * n + 3)), .int (X.2 (6 * n + 4)), .ref 325] 193 [.ref 300, .int (X.2 (6 * n + 1)), .int (X.2 (6 * n + 2)), .int (X.2 (6 * n + 3)), .int (X.2 (6 * n + 4))] M n) : hgCse X 1222 n k1 k2 M := by
  obtain ⟨k, b, M1, M2, e1, e2, w1, t, jj, inv⟩ := h
  have x1 : 6 * n + 1 < X.1 := by omega
  have x2 : 6 * n + 2 < X.1 := by omega
  have x3 : 6 * n + 3 < X.1 := by omega
  have x4 : 6 * n + 4 < X.1 := by omega
  have x5 : 6 * n + 5 < X.1 := by omega
  have xl : X.1 < 2147483648 := by omega
  have q1 : k1 + 4 ≤ 601024 := by omega
  have q2 : k2 + 24 ≤ 7293034 := by omega
  have q3 : k1 ≤ 601024 := by omega
  have q4 : k2 ≤ 7293034 := by omega
  have w2 := hgInv_w inv
  have k123 := hgk_123 (X := X) w2
  rw [t] at k123
  refine ⟨M2, k1 + 4, k2 + 24, ?_, inv, by omega, by omega⟩
  by_cases hk : k = nI 0
  · have jo := jj hk
    simp (maxDischargeDepth := 7) only [hgM_t, hgM_f, hgM_n, hgx_aload_n_1, hgx_aload_n_0, hgx_iload_4, hgx_iconst_1, hgx_iadd, hgx_iconst_2, hgx_iconst_3, hgx_iconst_4, hgx_aload_n_3, hgx_invstatic_6, hgx_aft_e, hgx_aft_i, hgx_aft_l, hgx_aft_v, hgx_istore_5i, hgx_istore_5r, hgx_istore_5f, hgx_istore_5n, hgx_istore_5l, hgx_aload_n_2, hgx_invvirtual_5, hgx_istore_6i, hgx_istore_6r, hgx_istore_6f, hgx_istore_6n, hgx_istore_6l, hgx_invvirtual_1, hgx_iload_5, hgx_ic_eq, hgx_iconst_0, hgx_ret3, hgx_if_ne, hgx_iload_6, hgx_i2l, hgx_lcmp, hgx_if_eq, hgx_goto, hgx_iinc_4_6, hgv227_1222, hgr227_1222, hgu227_1222, hgv227_1294, hgr227_1294, hgu227_1294, hgv227_1311, hgr227_1311, hgu227_1311, hgv227_1821, hgr227_1821, hgu227_1821, hgv227_23, hgI_SI, hgI_SJ, hgJ_SI, hgJ_SJ, if_true, if_false, reduceIte, Nat.reduceEqDiff, hgWf_SI, hgWf_SJ, hgO_SI, hgO_SJ, hgAr_SI, hgAr_SJ, hgRp_SI, hgRp_SJ, hgN_SI, hgN_SJ, hgO_g, hgO_d, hgO_rl, hgO_r, hgO_0, hgO_1, hgO_64, hgO_298, hgO_300, hgCd_0, hgCd_1, hgCd_2, hgCd_3, hgCd_4, hgCd_5, hgRecv_O, hgRecv_99, List.length_cons, List.length_nil, Nat.zero_add, Nat.add_zero, Nat.le_refl, Nat.zero_le, and_self, or_true, true_or, true_and, and_true, ne_eq, not_false_eq_true, Nat.reduceLT, Nat.reduceLeDiff, Nat.reduceAdd, Nat.reduceEqDiff, hgn_eq, hgn_lt, hgn_le, if_true, if_false, reduceIte, Nat.not_lt_zero, hgs_aa_d, hgs_aa_r, hgs_aa_h, hgs_aa_m, hgs_aa_t, hgs_ld_wp, hgs_st_wp, hgs_ld_qf, hgs_st_qf, hgs_ld_qt, hgs_st_qt, hgs_ld_2, hgs_st_2, hgs_ld_3, hgs_st_3, hgs_ld_4, hgs_st_4, hgs_ld_301, hgs_st_301, hgs_ld_D, hgs_st_D, hgs_ld_s, hgs_ld_T, hgs_st_T, hgs_ld_o, hgs_st_o, hgs_ld_b, hgs_st_b, hgs_ld_z, hgs_st_z, hgs_al_b, hgx_alen_s, hgn_add, hgn_mul, hw, x1, x2, x3, x4, x5, xl, q1, q2, e1, w1, e2, w2, k123, hk, jo, hgeq_cmp]
  · simp (maxDischargeDepth := 7) only [hgM_t, hgM_f, hgM_n, hgx_aload_n_1, hgx_aload_n_0, hgx_iload_4, hgx_iconst_1, hgx_iadd, hgx_iconst_2, hgx_iconst_3, hgx_iconst_4, hgx_aload_n_3, hgx_invstatic_6, hgx_aft_e, hgx_aft_i, hgx_aft_l, hgx_aft_v, hgx_istore_5i, hgx_istore_5r, hgx_istore_5f, hgx_istore_5n, hgx_istore_5l, hgx_aload_n_2, hgx_invvirtual_5, hgx_istore_6i, hgx_istore_6r, hgx_istore_6f, hgx_istore_6n, hgx_istore_6l, hgx_invvirtual_1, hgx_iload_5, hgx_ic_eq, hgx_iconst_0, hgx_ret3, hgx_if_ne, hgx_iload_6, hgx_i2l, hgx_lcmp, hgx_if_eq, hgx_goto, hgx_iinc_4_6, hgv227_1222, hgr227_1222, hgu227_1222, hgv227_1294, hgr227_1294, hgu227_1294, hgv227_1311, hgr227_1311, hgu227_1311, hgv227_1821, hgr227_1821, hgu227_1821, hgv227_23, hgI_SI, hgI_SJ, hgJ_SI, hgJ_SJ, if_true, if_false, reduceIte, Nat.reduceEqDiff, hgWf_SI, hgWf_SJ, hgO_SI, hgO_SJ, hgAr_SI, hgAr_SJ, hgRp_SI, hgRp_SJ, hgN_SI, hgN_SJ, hgO_g, hgO_d, hgO_rl, hgO_r, hgO_0, hgO_1, hgO_64, hgO_298, hgO_300, hgCd_0, hgCd_1, hgCd_2, hgCd_3, hgCd_4, hgCd_5, hgRecv_O, hgRecv_99, List.length_cons, List.length_nil, Nat.zero_add, Nat.add_zero, Nat.le_refl, Nat.zero_le, and_self, or_true, true_or, true_and, and_true, ne_eq, not_false_eq_true, Nat.reduceLT, Nat.reduceLeDiff, Nat.reduceAdd, Nat.reduceEqDiff, hgn_eq, hgn_lt, hgn_le, if_true, if_false, reduceIte, Nat.not_lt_zero, hgs_aa_d, hgs_aa_r, hgs_aa_h, hgs_aa_m, hgs_aa_t, hgs_ld_wp, hgs_st_wp, hgs_ld_qf, hgs_st_qf, hgs_ld_qt, hgs_st_qt, hgs_ld_2, hgs_st_2, hgs_ld_3, hgs_st_3, hgs_ld_4, hgs_st_4, hgs_ld_301, hgs_st_301, hgs_ld_D, hgs_st_D, hgs_ld_s, hgs_ld_T, hgs_st_T, hgs_ld_o, hgs_st_o, hgs_ld_b, hgs_st_b, hgs_ld_z, hgs_st_z, hgs_al_b, hgx_alen_s, hgn_add, hgn_mul, hw, x1, x2, x3, x4, x5, xl, q1, q2, e1, w1, e2, w2, k123, hk]
theorem hgCs_1314 (hX : 6 * n + 6 ≤ X.1) (hX2 : X.1 ≤ 3072) (hk1 : k1 ≤ 10000) (hk2 : k2 ≤ 1000000) (hw : hgWf M) (h : hgBi X 220 [.ref 0, .int (X.2 (6 * n + 1)), .ref 325] 194 [.ref 300, .int (X.2 (6 * n + 1))] M n) : hgCse X 1314 n k1 k2 M := by
  obtain ⟨k, b, M1, M2, e1, e2, w1, t, jj, inv⟩ := h
  have x1 : 6 * n + 1 < X.1 := by omega
  have x2 : 6 * n + 2 < X.1 := by omega
  have x3 : 6 * n + 3 < X.1 := by omega
  have x4 : 6 * n + 4 < X.1 := by omega
  have x5 : 6 * n + 5 < X.1 := by omega
  have xl : X.1 < 2147483648 := by omega
  have q1 : k1 + 2 ≤ 601024 := by omega
  have q2 : k2 + 12 ≤ 7293034 := by omega
  have q3 : k1 ≤ 601024 := by omega
  have q4 : k2 ≤ 7293034 := by omega
  have w2 := hgInv_w inv
  have k123 := hgk_123 (X := X) w2
  rw [t] at k123
  refine ⟨M2, k1 + 2, k2 + 12, ?_, inv, by omega, by omega⟩
  by_cases hk : k = nI 0
  · have jo := jj hk
    simp (maxDischargeDepth := 7) only [hgM_t, hgM_f, hgM_n, hgx_aload_n_1, hgx_aload_n_0, hgx_iload_4, hgx_iconst_1, hgx_iadd, hgx_aload_n_3, hgx_invstatic_3, hgx_aft_e, hgx_aft_i, hgx_aft_l, hgx_aft_v, hgx_istore_5i, hgx_istore_5r, hgx_istore_5f, hgx_istore_5n, hgx_istore_5l, hgx_aload_n_2, hgx_invvirtual_2, hgx_istore_6i, hgx_istore_6r, hgx_istore_6f, hgx_istore_6n, hgx_istore_6l, hgx_invvirtual_1, hgx_iload_5, hgx_ic_eq, hgx_iconst_0, hgx_ret3, hgx_if_ne, hgx_iload_6, hgx_i2l, hgx_lcmp, hgx_if_eq, hgx_goto, hgx_iinc_4_6, hgv227_1314, hgr227_1314, hgu227_1314, hgv227_1350, hgr227_1350, hgu227_1350, hgv227_1367, hgr227_1367, hgu227_1367, hgv227_1821, hgr227_1821, hgu227_1821, hgv227_23, hgI_SI, hgI_SJ, hgJ_SI, hgJ_SJ, if_true, if_false, reduceIte, Nat.reduceEqDiff, hgWf_SI, hgWf_SJ, hgO_SI, hgO_SJ, hgAr_SI, hgAr_SJ, hgRp_SI, hgRp_SJ, hgN_SI, hgN_SJ, hgO_g, hgO_d, hgO_rl, hgO_r, hgO_0, hgO_1, hgO_64, hgO_298, hgO_300, hgCd_0, hgCd_1, hgCd_2, hgCd_3, hgCd_4, hgCd_5, hgRecv_O, hgRecv_99, List.length_cons, List.length_nil, Nat.zero_add, Nat.add_zero, Nat.le_refl, Nat.zero_le, and_self, or_true, true_or, true_and, and_true, ne_eq, not_false_eq_true, Nat.reduceLT, Nat.reduceLeDiff, Nat.reduceAdd, Nat.reduceEqDiff, hgn_eq, hgn_lt, hgn_le, if_true, if_false, reduceIte, Nat.not_lt_zero, hgs_aa_d, hgs_aa_r, hgs_aa_h, hgs_aa_m, hgs_aa_t, hgs_ld_wp, hgs_st_wp, hgs_ld_qf, hgs_st_qf, hgs_ld_qt, hgs_st_qt, hgs_ld_2, hgs_st_2, hgs_ld_3, hgs_st_3, hgs_ld_4, hgs_st_4, hgs_ld_301, hgs_st_301, hgs_ld_D, hgs_st_D, hgs_ld_s, hgs_ld_T, hgs_st_T, hgs_ld_o, hgs_st_o, hgs_ld_b, hgs_st_b, hgs_ld_z, hgs_st_z, hgs_al_b, hgx_alen_s, hgn_add, hgn_mul, hw, x1, x2, x3, x4, x5, xl, q1, q2, e1, w1, e2, w2, k123, hk, jo, hgeq_cmp]
  · simp (maxDischargeDepth := 7) only [hgM_t, hgM_f, hgM_n, hgx_aload_n_1, hgx_aload_n_0, hgx_iload_4, hgx_iconst_1, hgx_iadd, hgx_aload_n_3, hgx_invstatic_3, hgx_aft_e, hgx_aft_i, hgx_aft_l, hgx_aft_v, hgx_istore_5i, hgx_istore_5r, hgx_istore_5f, hgx_istore_5n, hgx_istore_5l, hgx_aload_n_2, hgx_invvirtual_2, hgx_istore_6i, hgx_istore_6r, hgx_istore_6f, hgx_istore_6n, hgx_istore_6l, hgx_invvirtual_1, hgx_iload_5, hgx_ic_eq, hgx_iconst_0, hgx_ret3, hgx_if_ne, hgx_iload_6, hgx_i2l, hgx_lcmp, hgx_if_eq, hgx_goto, hgx_iinc_4_6, hgv227_1314, hgr227_1314, hgu227_1314, hgv227_1350, hgr227_1350, hgu227_1350, hgv227_1367, hgr227_1367, hgu227_1367, hgv227_1821, hgr227_1821, hgu227_1821, hgv227_23, hgI_SI, hgI_SJ, hgJ_SI, hgJ_SJ, if_true, if_false, reduceIte, Nat.reduceEqDiff, hgWf_SI, hgWf_SJ, hgO_SI, hgO_SJ, hgAr_SI, hgAr_SJ, hgRp_SI, hgRp_SJ, hgN_SI, hgN_SJ, hgO_g, hgO_d, hgO_rl, hgO_r, hgO_0, hgO_1, hgO_64, hgO_298, hgO_300, hgCd_0, hgCd_1, hgCd_2, hgCd_3, hgCd_4, hgCd_5, hgRecv_O, hgRecv_99, List.length_cons, List.length_nil, Nat.zero_add, Nat.add_zero, Nat.le_refl, Nat.zero_le, and_self, or_true, true_or, true_and, and_true, ne_eq, not_false_eq_true, Nat.reduceLT, Nat.reduceLeDiff, Nat.reduceAdd, Nat.reduceEqDiff, hgn_eq, hgn_lt, hgn_le, if_true, if_false, reduceIte, Nat.not_lt_zero, hgs_aa_d, hgs_aa_r, hgs_aa_h, hgs_aa_m, hgs_aa_t, hgs_ld_wp, hgs_st_wp, hgs_ld_qf, hgs_st_qf, hgs_ld_qt, hgs_st_qt, hgs_ld_2, hgs_st_2, hgs_ld_3, hgs_st_3, hgs_ld_4, hgs_st_4, hgs_ld_301, hgs_st_301, hgs_ld_D, hgs_st_D, hgs_ld_s, hgs_ld_T, hgs_st_T, hgs_ld_o, hgs_st_o, hgs_ld_b, hgs_st_b, hgs_ld_z, hgs_st_z, hgs_al_b, hgx_alen_s, hgn_add, hgn_mul, hw, x1, x2, x3, x4, x5, xl, q1, q2, e1, w1, e2, w2, k123, hk]
theorem hgCs_1370 (hX : 6 * n + 6 ≤ X.1) (hX2 : X.1 ≤ 3072) (hk1 : k1 ≤ 10000) (hk2 : k2 ≤ 1000000) (hw : hgWf M) (h : hgBi X 221 [.ref 0, .int (X.2 (6 * n + 1)), .ref 325] 195 [.ref 300, .int (X.2 (6 * n + 1))] M n) : hgCse X 1370 n k1 k2 M := by
  obtain ⟨k, b, M1, M2, e1, e2, w1, t, jj, inv⟩ := h
  have x1 : 6 * n + 1 < X.1 := by omega
  have x2 : 6 * n + 2 < X.1 := by omega
  have x3 : 6 * n + 3 < X.1 := by omega
  have x4 : 6 * n + 4 < X.1 := by omega
  have x5 : 6 * n + 5 < X.1 := by omega
  have xl : X.1 < 2147483648 := by omega
  have q1 : k1 + 2 ≤ 601024 := by omega
  have q2 : k2 + 12 ≤ 7293034 := by omega
  have q3 : k1 ≤ 601024 := by omega
  have q4 : k2 ≤ 7293034 := by omega
  have w2 := hgInv_w inv
  have k123 := hgk_123 (X := X) w2
  rw [t] at k123
  refine ⟨M2, k1 + 2, k2 + 12, ?_, inv, by omega, by omega⟩
  by_cases hk : k = nI 0
  · have jo := jj hk
    simp (maxDischargeDepth := 7) only [hgM_t, hgM_f, hgM_n, hgx_aload_n_1, hgx_aload_n_0, hgx_iload_4, hgx_iconst_1, hgx_iadd, hgx_aload_n_3, hgx_invstatic_3, hgx_aft_e, hgx_aft_i, hgx_aft_l, hgx_aft_v, hgx_istore_5i, hgx_istore_5r, hgx_istore_5f, hgx_istore_5n, hgx_istore_5l, hgx_aload_n_2, hgx_invvirtual_2, hgx_istore_6i, hgx_istore_6r, hgx_istore_6f, hgx_istore_6n, hgx_istore_6l, hgx_invvirtual_1, hgx_iload_5, hgx_ic_eq, hgx_iconst_0, hgx_ret3, hgx_if_ne, hgx_iload_6, hgx_i2l, hgx_lcmp, hgx_if_eq, hgx_goto, hgx_iinc_4_6, hgv227_1370, hgr227_1370, hgu227_1370, hgv227_1406, hgr227_1406, hgu227_1406, hgv227_1423, hgr227_1423, hgu227_1423, hgv227_1821, hgr227_1821, hgu227_1821, hgv227_23, hgI_SI, hgI_SJ, hgJ_SI, hgJ_SJ, if_true, if_false, reduceIte, Nat.reduceEqDiff, hgWf_SI, hgWf_SJ, hgO_SI, hgO_SJ, hgAr_SI, hgAr_SJ, hgRp_SI, hgRp_SJ, hgN_SI, hgN_SJ, hgO_g, hgO_d, hgO_rl, hgO_r, hgO_0, hgO_1, hgO_64, hgO_298, hgO_300, hgCd_0, hgCd_1, hgCd_2, hgCd_3, hgCd_4, hgCd_5, hgRecv_O, hgRecv_99, List.length_cons, List.length_nil, Nat.zero_add, Nat.add_zero, Nat.le_refl, Nat.zero_le, and_self, or_true, true_or, true_and, and_true, ne_eq, not_false_eq_true, Nat.reduceLT, Nat.reduceLeDiff, Nat.reduceAdd, Nat.reduceEqDiff, hgn_eq, hgn_lt, hgn_le, if_true, if_false, reduceIte, Nat.not_lt_zero, hgs_aa_d, hgs_aa_r, hgs_aa_h, hgs_aa_m, hgs_aa_t, hgs_ld_wp, hgs_st_wp, hgs_ld_qf, hgs_st_qf, hgs_ld_qt, hgs_st_qt, hgs_ld_2, hgs_st_2, hgs_ld_3, hgs_st_3, hgs_ld_4, hgs_st_4, hgs_ld_301, hgs_st_301, hgs_ld_D, hgs_st_D, hgs_ld_s, hgs_ld_T, hgs_st_T, hgs_ld_o, hgs_st_o, hgs_ld_b, hgs_st_b, hgs_ld_z, hgs_st_z, hgs_al_b, hgx_alen_s, hgn_add, hgn_mul, hw, x1, x2, x3, x4, x5, xl, q1, q2, e1, w1, e2, w2, k123, hk, jo, hgeq_cmp]
  · simp (maxDischargeDepth := 7) only [hgM_t, hgM_f, hgM_n, hgx_aload_n_1, hgx_aload_n_0, hgx_iload_4, hgx_iconst_1, hgx_iadd, hgx_aload_n_3, hgx_invstatic_3, hgx_aft_e, hgx_aft_i, hgx_aft_l, hgx_aft_v, hgx_istore_5i, hgx_istore_5r, hgx_istore_5f, hgx_istore_5n, hgx_istore_5l, hgx_aload_n_2, hgx_invvirtual_2, hgx_istore_6i, hgx_istore_6r, hgx_istore_6f, hgx_istore_6n, hgx_istore_6l, hgx_invvirtual_1, hgx_iload_5, hgx_ic_eq, hgx_iconst_0, hgx_ret3, hgx_if_ne, hgx_iload_6, hgx_i2l, hgx_lcmp, hgx_if_eq, hgx_goto, hgx_iinc_4_6, hgv227_1370, hgr227_1370, hgu227_1370, hgv227_1406, hgr227_1406, hgu227_1406, hgv227_1423, hgr227_1423, hgu227_1423, hgv227_1821, hgr227_1821, hgu227_1821, hgv227_23, hgI_SI, hgI_SJ, hgJ_SI, hgJ_SJ, if_true, if_false, reduceIte, Nat.reduceEqDiff, hgWf_SI, hgWf_SJ, hgO_SI, hgO_SJ, hgAr_SI, hgAr_SJ, hgRp_SI, hgRp_SJ, hgN_SI, hgN_SJ, hgO_g, hgO_d, hgO_rl, hgO_r, hgO_0, hgO_1, hgO_64, hgO_298, hgO_300, hgCd_0, hgCd_1, hgCd_2, hgCd_3, hgCd_4, hgCd_5, hgRecv_O, hgRecv_99, List.length_cons, List.length_nil, Nat.zero_add, Nat.add_zero, Nat.le_refl, Nat.zero_le, and_self, or_true, true_or, true_and, and_true, ne_eq, not_false_eq_true, Nat.reduceLT, Nat.reduceLeDiff, Nat.reduceAdd, Nat.reduceEqDiff, hgn_eq, hgn_lt, hgn_le, if_true, if_false, reduceIte, Nat.not_lt_zero, hgs_aa_d, hgs_aa_r, hgs_aa_h, hgs_aa_m, hgs_aa_t, hgs_ld_wp, hgs_st_wp, hgs_ld_qf, hgs_st_qf, hgs_ld_qt, hgs_st_qt, hgs_ld_2, hgs_st_2, hgs_ld_3, hgs_st_3, hgs_ld_4, hgs_st_4, hgs_ld_301, hgs_st_301, hgs_ld_D, hgs_st_D, hgs_ld_s, hgs_ld_T, hgs_st_T, hgs_ld_o, hgs_st_o, hgs_ld_b, hgs_st_b, hgs_ld_z, hgs_st_z, hgs_al_b, hgx_alen_s, hgn_add, hgn_mul, hw, x1, x2, x3, x4, x5, xl, q1, q2, e1, w1, e2, w2, k123, hk]
theorem hgCs_1426 (hX : 6 * n + 6 ≤ X.1) (hX2 : X.1 ≤ 3072) (hk1 : k1 ≤ 10000) (hk2 : k2 ≤ 1000000) (hw : hgWf M) (h : hgBi X 222 [.ref 0, .int (X.2 (6 * n + 1)), .ref 325] 196 [.ref 300, .int (X.2 (6 * n + 1))] M n) : hgCse X 1426 n k1 k2 M := by
  obtain ⟨k, b, M1, M2, e1, e2, w1, t, jj, inv⟩ := h
  have x1 : 6 * n + 1 < X.1 := by omega
  have x2 : 6 * n + 2 < X.1 := by omega
  have x3 : 6 * n + 3 < X.1 := by omega
  have x4 : 6 * n + 4 < X.1 := by omega
  have x5 : 6 * n + 5 < X.1 := by omega
  have xl : X.1 < 2147483648 := by omega
  have q1 : k1 + 2 ≤ 601024 := by omega
  have q2 : k2 + 12 ≤ 7293034 := by omega
  have q3 : k1 ≤ 601024 := by omega
  have q4 : k2 ≤ 7293034 := by omega
  have w2 := hgInv_w inv
  have k123 := hgk_123 (X := X) w2
  rw [t] at k123
  refine ⟨M2, k1 + 2, k2 + 12, ?_, inv, by omega, by omega⟩
  by_cases hk : k = nI 0
  · have jo := jj hk
    simp (maxDischargeDepth := 7) only [hgM_t, hgM_f, hgM_n, hgx_aload_n_1, hgx_aload_n_0, hgx_iload_4, hgx_iconst_1, hgx_iadd, hgx_aload_n_3, hgx_invstatic_3, hgx_aft_e, hgx_aft_i, hgx_aft_l, hgx_aft_v, hgx_istore_5i, hgx_istore_5r, hgx_istore_5f, hgx_istore_5n, hgx_istore_5l, hgx_aload_n_2, hgx_invvirtual_2, hgx_istore_6i, hgx_istore_6r, hgx_istore_6f, hgx_istore_6n, hgx_istore_6l, hgx_invvirtual_1, hgx_iload_5, hgx_ic_eq, hgx_iconst_0, hgx_ret3, hgx_if_ne, hgx_iload_6, hgx_i2l, hgx_lcmp, hgx_if_eq, hgx_goto, hgx_iinc_4_6, hgv227_1426, hgr227_1426, hgu227_1426, hgv227_1462, hgr227_1462, hgu227_1462, hgv227_1479, hgr227_1479, hgu227_1479, hgv227_1821, hgr227_1821, hgu227_1821, hgv227_23, hgI_SI, hgI_SJ, hgJ_SI, hgJ_SJ, if_true, if_false, reduceIte, Nat.reduceEqDiff, hgWf_SI, hgWf_SJ, hgO_SI, hgO_SJ, hgAr_SI, hgAr_SJ, hgRp_SI, hgRp_SJ, hgN_SI, hgN_SJ, hgO_g, hgO_d, hgO_rl, hgO_r, hgO_0, hgO_1, hgO_64, hgO_298, hgO_300, hgCd_0, hgCd_1, hgCd_2, hgCd_3, hgCd_4, hgCd_5, hgRecv_O, hgRecv_99, List.length_cons, List.length_nil, Nat.zero_add, Nat.add_zero, Nat.le_refl, Nat.zero_le, and_self, or_true, true_or, true_and, and_true, ne_eq, not_false_eq_true, Nat.reduceLT, Nat.reduceLeDiff, Nat.reduceAdd, Nat.reduceEqDiff, hgn_eq, hgn_lt, hgn_le, if_true, if_false, reduceIte, Nat.not_lt_zero, hgs_aa_d, hgs_aa_r, hgs_aa_h, hgs_aa_m, hgs_aa_t, hgs_ld_wp, hgs_st_wp, hgs_ld_qf, hgs_st_qf, hgs_ld_qt, hgs_st_qt, hgs_ld_2, hgs_st_2, hgs_ld_3, hgs_st_3, hgs_ld_4, hgs_st_4, hgs_ld_301, hgs_st_301, hgs_ld_D, hgs_st_D, hgs_ld_s, hgs_ld_T, hgs_st_T, hgs_ld_o, hgs_st_o, hgs_ld_b, hgs_st_b, hgs_ld_z, hgs_st_z, hgs_al_b, hgx_alen_s, hgn_add, hgn_mul, hw, x1, x2, x3, x4, x5, xl, q1, q2, e1, w1, e2, w2, k123, hk, jo, hgeq_cmp]
  · simp (maxDischargeDepth := 7) only [hgM_t, hgM_f, hgM_n, hgx_aload_n_1, hgx_aload_n_0, hgx_iload_4, hgx_iconst_1, hgx_iadd, hgx_aload_n_3, hgx_invstatic_3, hgx_aft_e, hgx_aft_i, hgx_aft_l, hgx_aft_v, hgx_istore_5i, hgx_istore_5r, hgx_istore_5f, hgx_istore_5n, hgx_istore_5l, hgx_aload_n_2, hgx_invvirtual_2, hgx_istore_6i, hgx_istore_6r, hgx_istore_6f, hgx_istore_6n, hgx_istore_6l, hgx_invvirtual_1, hgx_iload_5, hgx_ic_eq, hgx_iconst_0, hgx_ret3, hgx_if_ne, hgx_iload_6, hgx_i2l, hgx_lcmp, hgx_if_eq, hgx_goto, hgx_iinc_4_6, hgv227_1426, hgr227_1426, hgu227_1426, hgv227_1462, hgr227_1462, hgu227_1462, hgv227_1479, hgr227_1479, hgu227_1479, hgv227_1821, hgr227_1821, hgu227_1821, hgv227_23, hgI_SI, hgI_SJ, hgJ_SI, hgJ_SJ, if_true, if_false, reduceIte, Nat.reduceEqDiff, hgWf_SI, hgWf_SJ, hgO_SI, hgO_SJ, hgAr_SI, hgAr_SJ, hgRp_SI, hgRp_SJ, hgN_SI, hgN_SJ, hgO_g, hgO_d, hgO_rl, hgO_r, hgO_0, hgO_1, hgO_64, hgO_298, hgO_300, hgCd_0, hgCd_1, hgCd_2, hgCd_3, hgCd_4, hgCd_5, hgRecv_O, hgRecv_99, List.length_cons, List.length_nil, Nat.zero_add, Nat.add_zero, Nat.le_refl, Nat.zero_le, and_self, or_true, true_or, true_and, and_true, ne_eq, not_false_eq_true, Nat.reduceLT, Nat.reduceLeDiff, Nat.reduceAdd, Nat.reduceEqDiff, hgn_eq, hgn_lt, hgn_le, if_true, if_false, reduceIte, Nat.not_lt_zero, hgs_aa_d, hgs_aa_r, hgs_aa_h, hgs_aa_m, hgs_aa_t, hgs_ld_wp, hgs_st_wp, hgs_ld_qf, hgs_st_qf, hgs_ld_qt, hgs_st_qt, hgs_ld_2, hgs_st_2, hgs_ld_3, hgs_st_3, hgs_ld_4, hgs_st_4, hgs_ld_301, hgs_st_301, hgs_ld_D, hgs_st_D, hgs_ld_s, hgs_ld_T, hgs_st_T, hgs_ld_o, hgs_st_o, hgs_ld_b, hgs_st_b, hgs_ld_z, hgs_st_z, hgs_al_b, hgx_alen_s, hgn_add, hgn_mul, hw, x1, x2, x3, x4, x5, xl, q1, q2, e1, w1, e2, w2, k123, hk]
theorem hgCs_1482 (hX : 6 * n + 6 ≤ X.1) (hX2 : X.1 ≤ 3072) (hk1 : k1 ≤ 10000) (hk2 : k2 ≤ 1000000) (hw : hgWf M) (h : hgBi X 223 [.ref 0, .int (X.2 (6 * n + 1)), .int (X.2 (6 * n + 2)), .ref 325] 197 [.ref 300, .int (X.2 (6 * n + 1)), .int (X.2 (6 * n + 2))] M n) : hgCse X 1482 n k1 k2 M := by
  obtain ⟨k, b, M1, M2, e1, e2, w1, t, jj, inv⟩ := h
  have x1 : 6 * n + 1 < X.1 := by omega
  have x2 : 6 * n + 2 < X.1 := by omega
  have x3 : 6 * n + 3 < X.1 := by omega
  have x4 : 6 * n + 4 < X.1 := by omega
  have x5 : 6 * n + 5 < X.1 := by omega
  have xl : X.1 < 2147483648 := by omega
  have q1 : k1 + 2 ≤ 601024 := by omega
  have q2 : k2 + 12 ≤ 7293034 := by omega
  have q3 : k1 ≤ 601024 := by omega
  have q4 : k2 ≤ 7293034 := by omega
  have w2 := hgInv_w inv
  have k123 := hgk_123 (X := X) w2
  rw [t] at k123
  refine ⟨M2, k1 + 2, k2 + 12, ?_, inv, by omega, by omega⟩
  by_cases hk : k = nI 0
  · have jo := jj hk
    simp (maxDischargeDepth := 7) only [hgM_t, hgM_f, hgM_n, hgx_aload_n_1, hgx_aload_n_0, hgx_iload_4, hgx_iconst_1, hgx_iadd, hgx_iconst_2, hgx_aload_n_3, hgx_invstatic_4, hgx_aft_e, hgx_aft_i, hgx_aft_l, hgx_aft_v, hgx_istore_5i, hgx_istore_5r, hgx_istore_5f, hgx_istore_5n, hgx_istore_5l, hgx_aload_n_2, hgx_invvirtual_3, hgx_istore_6i, hgx_istore_6r, hgx_istore_6f, hgx_istore_6n, hgx_istore_6l, hgx_invvirtual_1, hgx_iload_5, hgx_ic_eq, hgx_iconst_0, hgx_ret3, hgx_if_ne, hgx_iload_6, hgx_i2l, hgx_lcmp, hgx_if_eq, hgx_goto, hgx_iinc_4_6, hgv227_1482, hgr227_1482, hgu227_1482, hgv227_1530, hgr227_1530, hgu227_1530, hgv227_1547, hgr227_1547, hgu227_1547, hgv227_1821, hgr227_1821, hgu227_1821, hgv227_23, hgI_SI, hgI_SJ, hgJ_SI, hgJ_SJ, if_true, if_false, reduceIte, Nat.reduceEqDiff, hgWf_SI, hgWf_SJ, hgO_SI, hgO_SJ, hgAr_SI, hgAr_SJ, hgRp_SI, hgRp_SJ, hgN_SI, hgN_SJ, hgO_g, hgO_d, hgO_rl, hgO_r, hgO_0, hgO_1, hgO_64, hgO_298, hgO_300, hgCd_0, hgCd_1, hgCd_2, hgCd_3, hgCd_4, hgCd_5, hgRecv_O, hgRecv_99, List.length_cons, List.length_nil, Nat.zero_add, Nat.add_zero, Nat.le_refl, Nat.zero_le, and_self, or_true, true_or, true_and, and_true, ne_eq, not_false_eq_true, Nat.reduceLT, Nat.reduceLeDiff, Nat.reduceAdd, Nat.reduceEqDiff, hgn_eq, hgn_lt, hgn_le, if_true, if_false, reduceIte, Nat.not_lt_zero, hgs_aa_d, hgs_aa_r, hgs_aa_h, hgs_aa_m, hgs_aa_t, hgs_ld_wp, hgs_st_wp, hgs_ld_qf, hgs_st_qf, hgs_ld_qt, hgs_st_qt, hgs_ld_2, hgs_st_2, hgs_ld_3, hgs_st_3, hgs_ld_4, hgs_st_4, hgs_ld_301, hgs_st_301, hgs_ld_D, hgs_st_D, hgs_ld_s, hgs_ld_T, hgs_st_T, hgs_ld_o, hgs_st_o, hgs_ld_b, hgs_st_b, hgs_ld_z, hgs_st_z, hgs_al_b, hgx_alen_s, hgn_add, hgn_mul, hw, x1, x2, x3, x4, x5, xl, q1, q2, e1, w1, e2, w2, k123, hk, jo, hgeq_cmp]
  · simp (maxDischargeDepth := 7) only [hgM_t, hgM_f, hgM_n, hgx_aload_n_1, hgx_aload_n_0, hgx_iload_4, hgx_iconst_1, hgx_iadd, hgx_iconst_2, hgx_aload_n_3, hgx_invstatic_4, hgx_aft_e, hgx_aft_i, hgx_aft_l, hgx_aft_v, hgx_istore_5i, hgx_istore_5r, hgx_istore_5f, hgx_istore_5n, hgx_istore_5l, hgx_aload_n_2, hgx_invvirtual_3, hgx_istore_6i, hgx_istore_6r, hgx_istore_6f, hgx_istore_6n, hgx_istore_6l, hgx_invvirtual_1, hgx_iload_5, hgx_ic_eq, hgx_iconst_0, hgx_ret3, hgx_if_ne, hgx_iload_6, hgx_i2l, hgx_lcmp, hgx_if_eq, hgx_goto, hgx_iinc_4_6, hgv227_1482, hgr227_1482, hgu227_1482, hgv227_1530, hgr227_1530, hgu227_1530, hgv227_1547, hgr227_1547, hgu227_1547, hgv227_1821, hgr227_1821, hgu227_1821, hgv227_23, hgI_SI, hgI_SJ, hgJ_SI, hgJ_SJ, if_true, if_false, reduceIte, Nat.reduceEqDiff, hgWf_SI, hgWf_SJ, hgO_SI, hgO_SJ, hgAr_SI, hgAr_SJ, hgRp_SI, hgRp_SJ, hgN_SI, hgN_SJ, hgO_g, hgO_d, hgO_rl, hgO_r, hgO_0, hgO_1, hgO_64, hgO_298, hgO_300, hgCd_0, hgCd_1, hgCd_2, hgCd_3, hgCd_4, hgCd_5, hgRecv_O, hgRecv_99, List.length_cons, List.length_nil, Nat.zero_add, Nat.add_zero, Nat.le_refl, Nat.zero_le, and_self, or_true, true_or, true_and, and_true, ne_eq, not_false_eq_true, Nat.reduceLT, Nat.reduceLeDiff, Nat.reduceAdd, Nat.reduceEqDiff, hgn_eq, hgn_lt, hgn_le, if_true, if_false, reduceIte, Nat.not_lt_zero, hgs_aa_d, hgs_aa_r, hgs_aa_h, hgs_aa_m, hgs_aa_t, hgs_ld_wp, hgs_st_wp, hgs_ld_qf, hgs_st_qf, hgs_ld_qt, hgs_st_qt, hgs_ld_2, hgs_st_2, hgs_ld_3, hgs_st_3, hgs_ld_4, hgs_st_4, hgs_ld_301, hgs_st_301, hgs_ld_D, hgs_st_D, hgs_ld_s, hgs_ld_T, hgs_st_T, hgs_ld_o, hgs_st_o, hgs_ld_b, hgs_st_b, hgs_ld_z, hgs_st_z, hgs_al_b, hgx_alen_s, hgn_add, hgn_mul, hw, x1, x2, x3, x4, x5, xl, q1, q2, e1, w1, e2, w2, k123, hk]
theorem hgCs_1550 (hX : 6 * n + 6 ≤ X.1) (hX2 : X.1 ≤ 3072) (hk1 : k1 ≤ 10000) (hk2 : k2 ≤ 1000000) (hw : hgWf M) (h : hgBi X 224 [.ref 0, .int (hgB (decide (X.2 (6 * n + 1) ≠ nI 0))), .int (X.2 (6 * n + 2)), .int (X.2 (6 * n + 3)), .int (X.2 (6 * n + 4)), .int (X.2 (6 * n + 5)), .ref 325] 198 [.ref 300, .int (hgB (decide (X.2 (6 * n + 1) ≠ nI 0))), .int (X.2 (6 * n + 2)), .int (X.2 (6 * n + 3)), .int (X.2 (6 * n + 4)), .int (X.2 (6 * n + 5))] M n) : hgCse X 1550 n k1 k2 M := by
  obtain ⟨k, b, M1, M2, e1, e2, w1, t, jj, inv⟩ := h
  have x1 : 6 * n + 1 < X.1 := by omega
  have x2 : 6 * n + 2 < X.1 := by omega
  have x3 : 6 * n + 3 < X.1 := by omega
  have x4 : 6 * n + 4 < X.1 := by omega
  have x5 : 6 * n + 5 < X.1 := by omega
  have xl : X.1 < 2147483648 := by omega
  have q1 : k1 + 2 ≤ 601024 := by omega
  have q2 : k2 + 12 ≤ 7293034 := by omega
  have q3 : k1 ≤ 601024 := by omega
  have q4 : k2 ≤ 7293034 := by omega
  have w2 := hgInv_w inv
  have k123 := hgk_123 (X := X) w2
  rw [t] at k123
  refine ⟨M2, k1 + 2, k2 + 12, ?_, inv, by omega, by omega⟩
  by_cases z : X.2 (6 * n + 1) = nI 0
  · have eB : hgB (decide (X.2 (6 * n + 1) ≠ nI 0)) = nI 0 := by rw [decide_eq_false (fun w => w z)]; rfl
    rw [eB] at e1 e2
    by_cases hk : k = nI 0
    · have jo := jj hk
      simp (maxDischargeDepth := 7) only [hgM_t, hgM_f, hgM_n, hgx_aload_n_1, hgx_aload_n_0, hgx_iload_4, hgx_iconst_1, hgx_iadd, hgx_if_eq, hgx_goto, hgx_iconst_0, hgx_iconst_2, hgx_iconst_3, hgx_iconst_4, hgx_iconst_5, hgx_aload_n_3, hgx_invstatic_7, hgx_aft_e, hgx_aft_i, hgx_aft_l, hgx_aft_v, hgx_istore_5i, hgx_istore_5r, hgx_istore_5f, hgx_istore_5n, hgx_istore_5l, hgx_aload_n_2, hgx_invvirtual_6, hgx_istore_6i, hgx_istore_6r, hgx_istore_6f, hgx_istore_6n, hgx_istore_6l, hgx_invvirtual_1, hgx_iload_5, hgx_ic_eq, hgx_ret3, hgx_if_ne, hgx_iload_6, hgx_i2l, hgx_lcmp, hgx_iinc_4_6, hgv227_1550, hgr227_1550, hgu227_1550, hgv227_1564, hgr227_1564, hgu227_1564, hgv227_1565, hgr227_1565, hgu227_1565, hgv227_1609, hgr227_1609, hgu227_1609, hgv227_1610, hgr227_1610, hgu227_1610, hgv227_1650, hgr227_1650, hgu227_1650, hgv227_1667, hgr227_1667, hgu227_1667, hgv227_1821, hgr227_1821, hgu227_1821, hgv227_23, hgI_SI, hgI_SJ, hgJ_SI, hgJ_SJ, if_true, if_false, reduceIte, Nat.reduceEqDiff, hgWf_SI, hgWf_SJ, hgO_SI, hgO_SJ, hgAr_SI, hgAr_SJ, hgRp_SI, hgRp_SJ, hgN_SI, hgN_SJ, hgO_g, hgO_d, hgO_rl, hgO_r, hgO_0, hgO_1, hgO_64, hgO_298, hgO_300, hgCd_0, hgCd_1, hgCd_2, hgCd_3, hgCd_4, hgCd_5, hgRecv_O, hgRecv_99, List.length_cons, List.length_nil, Nat.zero_add, Nat.add_zero, Nat.le_refl, Nat.zero_le, and_self, or_true, true_or, true_and, and_true, ne_eq, not_false_eq_true, Nat.reduceLT, Nat.reduceLeDiff, Nat.reduceAdd, Nat.reduceEqDiff, hgn_eq, hgn_lt, hgn_le, if_true, if_false, reduceIte, Nat.not_lt_zero, hgs_aa_d, hgs_aa_r, hgs_aa_h, hgs_aa_m, hgs_aa_t, hgs_ld_wp, hgs_st_wp, hgs_ld_qf, hgs_st_qf, hgs_ld_qt, hgs_st_qt, hgs_ld_2, hgs_st_2, hgs_ld_3, hgs_st_3, hgs_ld_4, hgs_st_4, hgs_ld_301, hgs_st_301, hgs_ld_D, hgs_st_D, hgs_ld_s, hgs_ld_T, hgs_st_T, hgs_ld_o, hgs_st_o, hgs_ld_b, hgs_st_b, hgs_ld_z, hgs_st_z, hgs_al_b, hgx_alen_s, hgn_add, hgn_mul, hw, x1, x2, x3, x4, x5, xl, q1, q2, e1, w1, e2, w2, k123, hk, jo, hgeq_cmp, z]
    · simp (maxDischargeDepth := 7) only [hgM_t, hgM_f, hgM_n, hgx_aload_n_1, hgx_aload_n_0, hgx_iload_4, hgx_iconst_1, hgx_iadd, hgx_if_eq, hgx_goto, hgx_iconst_0, hgx_iconst_2, hgx_iconst_3, hgx_iconst_4, hgx_iconst_5, hgx_aload_n_3, hgx_invstatic_7, hgx_aft_e, hgx_aft_i, hgx_aft_l, hgx_aft_v, hgx_istore_5i, hgx_istore_5r, hgx_istore_5f, hgx_istore_5n, hgx_istore_5l, hgx_aload_n_2, hgx_invvirtual_6, hgx_istore_6i, hgx_istore_6r, hgx_istore_6f, hgx_istore_6n, hgx_istore_6l, hgx_invvirtual_1, hgx_iload_5, hgx_ic_eq, hgx_ret3, hgx_if_ne, hgx_iload_6, hgx_i2l, hgx_lcmp, hgx_iinc_4_6, hgv227_1550, hgr227_1550, hgu227_1550, hgv227_1564, hgr227_1564, hgu227_1564, hgv227_1565, hgr227_1565, hgu227_1565, hgv227_1609, hgr227_1609, hgu227_1609, hgv227_1610, hgr227_1610, hgu227_1610, hgv227_1650, hgr227_1650, hgu227_1650, hgv227_1667, hgr227_1667, hgu227_1667, hgv227_1821, hgr227_1821, hgu227_1821, hgv227_23, hgI_SI, hgI_SJ, hgJ_SI, hgJ_SJ, if_true, if_false, reduceIte, Nat.reduceEqDiff, hgWf_SI, hgWf_SJ, hgO_SI, hgO_SJ, hgAr_SI, hgAr_SJ, hgRp_SI, hgRp_SJ, hgN_SI, hgN_SJ, hgO_g, hgO_d, hgO_rl, hgO_r, hgO_0, hgO_1, hgO_64, hgO_298, hgO_300, hgCd_0, hgCd_1, hgCd_2, hgCd_3, hgCd_4, hgCd_5, hgRecv_O, hgRecv_99, List.length_cons, List.length_nil, Nat.zero_add, Nat.add_zero, Nat.le_refl, Nat.zero_le, and_self, or_true, true_or, true_and, and_true, ne_eq, not_false_eq_true, Nat.reduceLT, Nat.reduceLeDiff, Nat.reduceAdd, Nat.reduceEqDiff, hgn_eq, hgn_lt, hgn_le, if_true, if_false, reduceIte, Nat.not_lt_zero, hgs_aa_d, hgs_aa_r, hgs_aa_h, hgs_aa_m, hgs_aa_t, hgs_ld_wp, hgs_st_wp, hgs_ld_qf, hgs_st_qf, hgs_ld_qt, hgs_st_qt, hgs_ld_2, hgs_st_2, hgs_ld_3, hgs_st_3, hgs_ld_4, hgs_st_4, hgs_ld_301, hgs_st_301, hgs_ld_D, hgs_st_D, hgs_ld_s, hgs_ld_T, hgs_st_T, hgs_ld_o, hgs_st_o, hgs_ld_b, hgs_st_b, hgs_ld_z, hgs_st_z, hgs_al_b, hgx_alen_s, hgn_add, hgn_mul, hw, x1, x2, x3, x4, x5, xl, q1, q2, e1, w1, e2, w2, k123, hk, z]
  · have eB : hgB (decide (X.2 (6 * n + 1) ≠ nI 0)) = nI 1 := by rw [decide_eq_true z]; rfl
    rw [eB] at e1 e2
    by_cases hk : k = nI 0
    · have jo := jj hk
      simp (maxDischargeDepth := 7) only [hgM_t, hgM_f, hgM_n, hgx_aload_n_1, hgx_aload_n_0, hgx_iload_4, hgx_iconst_1, hgx_iadd, hgx_if_eq, hgx_goto, hgx_iconst_0, hgx_iconst_2, hgx_iconst_3, hgx_iconst_4, hgx_iconst_5, hgx_aload_n_3, hgx_invstatic_7, hgx_aft_e, hgx_aft_i, hgx_aft_l, hgx_aft_v, hgx_istore_5i, hgx_istore_5r, hgx_istore_5f, hgx_istore_5n, hgx_istore_5l, hgx_aload_n_2, hgx_invvirtual_6, hgx_istore_6i, hgx_istore_6r, hgx_istore_6f, hgx_istore_6n, hgx_istore_6l, hgx_invvirtual_1, hgx_iload_5, hgx_ic_eq, hgx_ret3, hgx_if_ne, hgx_iload_6, hgx_i2l, hgx_lcmp, hgx_iinc_4_6, hgv227_1550, hgr227_1550, hgu227_1550, hgv227_1564, hgr227_1564, hgu227_1564, hgv227_1565, hgr227_1565, hgu227_1565, hgv227_1609, hgr227_1609, hgu227_1609, hgv227_1610, hgr227_1610, hgu227_1610, hgv227_1650, hgr227_1650, hgu227_1650, hgv227_1667, hgr227_1667, hgu227_1667, hgv227_1821, hgr227_1821, hgu227_1821, hgv227_23, hgI_SI, hgI_SJ, hgJ_SI, hgJ_SJ, if_true, if_false, reduceIte, Nat.reduceEqDiff, hgWf_SI, hgWf_SJ, hgO_SI, hgO_SJ, hgAr_SI, hgAr_SJ, hgRp_SI, hgRp_SJ, hgN_SI, hgN_SJ, hgO_g, hgO_d, hgO_rl, hgO_r, hgO_0, hgO_1, hgO_64, hgO_298, hgO_300, hgCd_0, hgCd_1, hgCd_2, hgCd_3, hgCd_4, hgCd_5, hgRecv_O, hgRecv_99, List.length_cons, List.length_nil, Nat.zero_add, Nat.add_zero, Nat.le_refl, Nat.zero_le, and_self, or_true, true_or, true_and, and_true, ne_eq, not_false_eq_true, Nat.reduceLT, Nat.reduceLeDiff, Nat.reduceAdd, Nat.reduceEqDiff, hgn_eq, hgn_lt, hgn_le, if_true, if_false, reduceIte, Nat.not_lt_zero, hgs_aa_d, hgs_aa_r, hgs_aa_h, hgs_aa_m, hgs_aa_t, hgs_ld_wp, hgs_st_wp, hgs_ld_qf, hgs_st_qf, hgs_ld_qt, hgs_st_qt, hgs_ld_2, hgs_st_2, hgs_ld_3, hgs_st_3, hgs_ld_4, hgs_st_4, hgs_ld_301, hgs_st_301, hgs_ld_D, hgs_st_D, hgs_ld_s, hgs_ld_T, hgs_st_T, hgs_ld_o, hgs_st_o, hgs_ld_b, hgs_st_b, hgs_ld_z, hgs_st_z, hgs_al_b, hgx_alen_s, hgn_add, hgn_mul, hw, x1, x2, x3, x4, x5, xl, q1, q2, e1, w1, e2, w2, k123, hk, jo, hgeq_cmp, z]
    · simp (maxDischargeDepth := 7) only [hgM_t, hgM_f, hgM_n, hgx_aload_n_1, hgx_aload_n_0, hgx_iload_4, hgx_iconst_1, hgx_iadd, hgx_if_eq, hgx_goto, hgx_iconst_0, hgx_iconst_2, hgx_iconst_3, hgx_iconst_4, hgx_iconst_5, hgx_aload_n_3, hgx_invstatic_7, hgx_aft_e, hgx_aft_i, hgx_aft_l, hgx_aft_v, hgx_istore_5i, hgx_istore_5r, hgx_istore_5f, hgx_istore_5n, hgx_istore_5l, hgx_aload_n_2, hgx_invvirtual_6, hgx_istore_6i, hgx_istore_6r, hgx_istore_6f, hgx_istore_6n, hgx_istore_6l, hgx_invvirtual_1, hgx_iload_5, hgx_ic_eq, hgx_ret3, hgx_if_ne, hgx_iload_6, hgx_i2l, hgx_lcmp, hgx_iinc_4_6, hgv227_1550, hgr227_1550, hgu227_1550, hgv227_1564, hgr227_1564, hgu227_1564, hgv227_1565, hgr227_1565, hgu227_1565, hgv227_1609, hgr227_1609, hgu227_1609, hgv227_1610, hgr227_1610, hgu227_1610, hgv227_1650, hgr227_1650, hgu227_1650, hgv227_1667, hgr227_1667, hgu227_1667, hgv227_1821, hgr227_1821, hgu227_1821, hgv227_23, hgI_SI, hgI_SJ, hgJ_SI, hgJ_SJ, if_true, if_false, reduceIte, Nat.reduceEqDiff, hgWf_SI, hgWf_SJ, hgO_SI, hgO_SJ, hgAr_SI, hgAr_SJ, hgRp_SI, hgRp_SJ, hgN_SI, hgN_SJ, hgO_g, hgO_d, hgO_rl, hgO_r, hgO_0, hgO_1, hgO_64, hgO_298, hgO_300, hgCd_0, hgCd_1, hgCd_2, hgCd_3, hgCd_4, hgCd_5, hgRecv_O, hgRecv_99, List.length_cons, List.length_nil, Nat.zero_add, Nat.add_zero, Nat.le_refl, Nat.zero_le, and_self, or_true, true_or, true_and, and_true, ne_eq, not_false_eq_true, Nat.reduceLT, Nat.reduceLeDiff, Nat.reduceAdd, Nat.reduceEqDiff, hgn_eq, hgn_lt, hgn_le, if_true, if_false, reduceIte, Nat.not_lt_zero, hgs_aa_d, hgs_aa_r, hgs_aa_h, hgs_aa_m, hgs_aa_t, hgs_ld_wp, hgs_st_wp, hgs_ld_qf, hgs_st_qf, hgs_ld_qt, hgs_st_qt, hgs_ld_2, hgs_st_2, hgs_ld_3, hgs_st_3, hgs_ld_4, hgs_st_4, hgs_ld_301, hgs_st_301, hgs_ld_D, hgs_st_D, hgs_ld_s, hgs_ld_T, hgs_st_T, hgs_ld_o, hgs_st_o, hgs_ld_b, hgs_st_b, hgs_ld_z, hgs_st_z, hgs_al_b, hgx_alen_s, hgn_add, hgn_mul, hw, x1, x2, x3, x4, x5, xl, q1, q2, e1, w1, e2, w2, k123, hk, z]
theorem hgCs_1670 (hX : 6 * n + 6 ≤ X.1) (hX2 : X.1 ≤ 3072) (hk1 : k1 ≤ 10000) (hk2 : k2 ≤ 1000000) (hw : hgWf M) (h : hgBi X 225 [.ref 0, .int (X.2 (6 * n + 1)), .ref 325] 201 [.ref 300, .int (X.2 (6 * n + 1))] M n) : hgCse X 1670 n k1 k2 M := by
  obtain ⟨k, b, M1, M2, e1, e2, w1, t, jj, inv⟩ := h
  have x1 : 6 * n + 1 < X.1 := by omega
  have x2 : 6 * n + 2 < X.1 := by omega
  have x3 : 6 * n + 3 < X.1 := by omega
  have x4 : 6 * n + 4 < X.1 := by omega
  have x5 : 6 * n + 5 < X.1 := by omega
  have xl : X.1 < 2147483648 := by omega
  have q1 : k1 + 1 ≤ 601024 := by omega
  have q2 : k2 + 6 ≤ 7293034 := by omega
  have q3 : k1 ≤ 601024 := by omega
  have q4 : k2 ≤ 7293034 := by omega
  have w2 := hgInv_w inv
  have k123 := hgk_123 (X := X) w2
  rw [t] at k123
  refine ⟨M2, k1 + 1, k2 + 6, ?_, inv, by omega, by omega⟩
  by_cases hk : k = nI 0
  · have jo := jj hk
    simp (maxDischargeDepth := 7) only [hgM_t, hgM_f, hgM_n, hgx_aload_n_1, hgx_aload_n_0, hgx_iload_4, hgx_iconst_1, hgx_iadd, hgx_aload_n_3, hgx_invstatic_3, hgx_aft_e, hgx_aft_i, hgx_aft_l, hgx_aft_v, hgx_istore_5i, hgx_istore_5r, hgx_istore_5f, hgx_istore_5n, hgx_istore_5l, hgx_aload_n_2, hgx_invvirtual_2, hgx_istore_6i, hgx_istore_6r, hgx_istore_6f, hgx_istore_6n, hgx_istore_6l, hgx_invvirtual_1, hgx_iload_5, hgx_ic_eq, hgx_iconst_0, hgx_ret3, hgx_if_ne, hgx_iload_6, hgx_i2l, hgx_lcmp, hgx_if_eq, hgx_goto, hgx_iinc_4_6, hgv227_1670, hgr227_1670, hgu227_1670, hgv227_1706, hgr227_1706, hgu227_1706, hgv227_1723, hgr227_1723, hgu227_1723, hgv227_1821, hgr227_1821, hgu227_1821, hgv227_23, hgI_SI, hgI_SJ, hgJ_SI, hgJ_SJ, if_true, if_false, reduceIte, Nat.reduceEqDiff, hgWf_SI, hgWf_SJ, hgO_SI, hgO_SJ, hgAr_SI, hgAr_SJ, hgRp_SI, hgRp_SJ, hgN_SI, hgN_SJ, hgO_g, hgO_d, hgO_rl, hgO_r, hgO_0, hgO_1, hgO_64, hgO_298, hgO_300, hgCd_0, hgCd_1, hgCd_2, hgCd_3, hgCd_4, hgCd_5, hgRecv_O, hgRecv_99, List.length_cons, List.length_nil, Nat.zero_add, Nat.add_zero, Nat.le_refl, Nat.zero_le, and_self, or_true, true_or, true_and, and_true, ne_eq, not_false_eq_true, Nat.reduceLT, Nat.reduceLeDiff, Nat.reduceAdd, Nat.reduceEqDiff, hgn_eq, hgn_lt, hgn_le, if_true, if_false, reduceIte, Nat.not_lt_zero, hgs_aa_d, hgs_aa_r, hgs_aa_h, hgs_aa_m, hgs_aa_t, hgs_ld_wp, hgs_st_wp, hgs_ld_qf, hgs_st_qf, hgs_ld_qt, hgs_st_qt, hgs_ld_2, hgs_st_2, hgs_ld_3, hgs_st_3, hgs_ld_4, hgs_st_4, hgs_ld_301, hgs_st_301, hgs_ld_D, hgs_st_D, hgs_ld_s, hgs_ld_T, hgs_st_T, hgs_ld_o, hgs_st_o, hgs_ld_b, hgs_st_b, hgs_ld_z, hgs_st_z, hgs_al_b, hgx_alen_s, hgn_add, hgn_mul, hw, x1, x2, x3, x4, x5, xl, q1, q2, e1, w1, e2, w2, k123, hk, jo, hgeq_cmp]
  · simp (maxDischargeDepth := 7) only [hgM_t, hgM_f, hgM_n, hgx_aload_n_1, hgx_aload_n_0, hgx_iload_4, hgx_iconst_1, hgx_iadd, hgx_aload_n_3, hgx_invstatic_3, hgx_aft_e, hgx_aft_i, hgx_aft_l, hgx_aft_v, hgx_istore_5i, hgx_istore_5r, hgx_istore_5f, hgx_istore_5n, hgx_istore_5l, hgx_aload_n_2, hgx_invvirtual_2, hgx_istore_6i, hgx_istore_6r, hgx_istore_6f, hgx_istore_6n, hgx_istore_6l, hgx_invvirtual_1, hgx_iload_5, hgx_ic_eq, hgx_iconst_0, hgx_ret3, hgx_if_ne, hgx_iload_6, hgx_i2l, hgx_lcmp, hgx_if_eq, hgx_goto, hgx_iinc_4_6, hgv227_1670, hgr227_1670, hgu227_1670, hgv227_1706, hgr227_1706, hgu227_1706, hgv227_1723, hgr227_1723, hgu227_1723, hgv227_1821, hgr227_1821, hgu227_1821, hgv227_23, hgI_SI, hgI_SJ, hgJ_SI, hgJ_SJ, if_true, if_false, reduceIte, Nat.reduceEqDiff, hgWf_SI, hgWf_SJ, hgO_SI, hgO_SJ, hgAr_SI, hgAr_SJ, hgRp_SI, hgRp_SJ, hgN_SI, hgN_SJ, hgO_g, hgO_d, hgO_rl, hgO_r, hgO_0, hgO_1, hgO_64, hgO_298, hgO_300, hgCd_0, hgCd_1, hgCd_2, hgCd_3, hgCd_4, hgCd_5, hgRecv_O, hgRecv_99, List.length_cons, List.length_nil, Nat.zero_add, Nat.add_zero, Nat.le_refl, Nat.zero_le, and_self, or_true, true_or, true_and, and_true, ne_eq, not_false_eq_true, Nat.reduceLT, Nat.reduceLeDiff, Nat.reduceAdd, Nat.reduceEqDiff, hgn_eq, hgn_lt, hgn_le, if_true, if_false, reduceIte, Nat.not_lt_zero, hgs_aa_d, hgs_aa_r, hgs_aa_h, hgs_aa_m, hgs_aa_t, hgs_ld_wp, hgs_st_wp, hgs_ld_qf, hgs_st_qf, hgs_ld_qt, hgs_st_qt, hgs_ld_2, hgs_st_2, hgs_ld_3, hgs_st_3, hgs_ld_4, hgs_st_4, hgs_ld_301, hgs_st_301, hgs_ld_D, hgs_st_D, hgs_ld_s, hgs_ld_T, hgs_st_T, hgs_ld_o, hgs_st_o, hgs_ld_b, hgs_st_b, hgs_ld_z, hgs_st_z, hgs_al_b, hgx_alen_s, hgn_add, hgn_mul, hw, x1, x2, x3, x4, x5, xl, q1, q2, e1, w1, e2, w2, k123, hk]
theorem hgCs_1726 (hX : 6 * n + 6 ≤ X.1) (hX2 : X.1 ≤ 3072) (hk1 : k1 ≤ 10000) (hk2 : k2 ≤ 1000000) (hw : hgWf M) (h : hgBi X 226 [.ref 0, .int (X.2 (6 * n + 1)), .int (X.2 (6 * n + 2)), .ref 325] 202 [.ref 300, .int (X.2 (6 * n + 1)), .int (X.2 (6 * n + 2))] M n) : hgCse X 1726 n k1 k2 M := by
  obtain ⟨k, b, M1, M2, e1, e2, w1, t, jj, inv⟩ := h
  have x1 : 6 * n + 1 < X.1 := by omega
  have x2 : 6 * n + 2 < X.1 := by omega
  have x3 : 6 * n + 3 < X.1 := by omega
  have x4 : 6 * n + 4 < X.1 := by omega
  have x5 : 6 * n + 5 < X.1 := by omega
  have xl : X.1 < 2147483648 := by omega
  have q1 : k1 + 2 ≤ 601024 := by omega
  have q2 : k2 + 12 ≤ 7293034 := by omega
  have q3 : k1 ≤ 601024 := by omega
  have q4 : k2 ≤ 7293034 := by omega
  have w2 := hgInv_w inv
  have k123 := hgk_123 (X := X) w2
  rw [t] at k123
  refine ⟨M2, k1 + 2, k2 + 12, ?_, inv, by omega, by omega⟩
  by_cases hk : k = nI 0
  · have jo := jj hk
    simp (maxDischargeDepth := 7) only [hgM_t, hgM_f, hgM_n, hgx_aload_n_1, hgx_aload_n_0, hgx_iload_4, hgx_iconst_1, hgx_iadd, hgx_iconst_2, hgx_aload_n_3, hgx_invstatic_4, hgx_aft_e, hgx_aft_i, hgx_aft_l, hgx_aft_v, hgx_istore_5i, hgx_istore_5r, hgx_istore_5f, hgx_istore_5n, hgx_istore_5l, hgx_aload_n_2, hgx_invvirtual_3, hgx_istore_6i, hgx_istore_6r, hgx_istore_6f, hgx_istore_6n, hgx_istore_6l, hgx_invvirtual_1, hgx_iload_5, hgx_ic_eq, hgx_iconst_0, hgx_ret3, hgx_if_ne, hgx_iload_6, hgx_i2l, hgx_lcmp, hgx_if_eq, hgx_goto, hgx_iinc_4_6, hgv227_1726, hgr227_1726, hgu227_1726, hgv227_1774, hgr227_1774, hgu227_1774, hgv227_1791, hgr227_1791, hgu227_1791, hgv227_1821, hgr227_1821, hgu227_1821, hgv227_23, hgI_SI, hgI_SJ, hgJ_SI, hgJ_SJ, if_true, if_false, reduceIte, Nat.reduceEqDiff, hgWf_SI, hgWf_SJ, hgO_SI, hgO_SJ, hgAr_SI, hgAr_SJ, hgRp_SI, hgRp_SJ, hgN_SI, hgN_SJ, hgO_g, hgO_d, hgO_rl, hgO_r, hgO_0, hgO_1, hgO_64, hgO_298, hgO_300, hgCd_0, hgCd_1, hgCd_2, hgCd_3, hgCd_4, hgCd_5, hgRecv_O, hgRecv_99, List.length_cons, List.length_nil, Nat.zero_add, Nat.add_zero, Nat.le_refl, Nat.zero_le, and_self, or_true, true_or, true_and, and_true, ne_eq, not_false_eq_true, Nat.reduceLT, Nat.reduceLeDiff, Nat.reduceAdd, Nat.reduceEqDiff, hgn_eq, hgn_lt, hgn_le, if_true, if_false, reduceIte, Nat.not_lt_zero, hgs_aa_d, hgs_aa_r, hgs_aa_h, hgs_aa_m, hgs_aa_t, hgs_ld_wp, hgs_st_wp, hgs_ld_qf, hgs_st_qf, hgs_ld_qt, hgs_st_qt, hgs_ld_2, hgs_st_2, hgs_ld_3, hgs_st_3, hgs_ld_4, hgs_st_4, hgs_ld_301, hgs_st_301, hgs_ld_D, hgs_st_D, hgs_ld_s, hgs_ld_T, hgs_st_T, hgs_ld_o, hgs_st_o, hgs_ld_b, hgs_st_b, hgs_ld_z, hgs_st_z, hgs_al_b, hgx_alen_s, hgn_add, hgn_mul, hw, x1, x2, x3, x4, x5, xl, q1, q2, e1, w1, e2, w2, k123, hk, jo, hgeq_cmp]
  · simp (maxDischargeDepth := 7) only [hgM_t, hgM_f, hgM_n, hgx_aload_n_1, hgx_aload_n_0, hgx_iload_4, hgx_iconst_1, hgx_iadd, hgx_iconst_2, hgx_aload_n_3, hgx_invstatic_4, hgx_aft_e, hgx_aft_i, hgx_aft_l, hgx_aft_v, hgx_istore_5i, hgx_istore_5r, hgx_istore_5f, hgx_istore_5n, hgx_istore_5l, hgx_aload_n_2, hgx_invvirtual_3, hgx_istore_6i, hgx_istore_6r, hgx_istore_6f, hgx_istore_6n, hgx_istore_6l, hgx_invvirtual_1, hgx_iload_5, hgx_ic_eq, hgx_iconst_0, hgx_ret3, hgx_if_ne, hgx_iload_6, hgx_i2l, hgx_lcmp, hgx_if_eq, hgx_goto, hgx_iinc_4_6, hgv227_1726, hgr227_1726, hgu227_1726, hgv227_1774, hgr227_1774, hgu227_1774, hgv227_1791, hgr227_1791, hgu227_1791, hgv227_1821, hgr227_1821, hgu227_1821, hgv227_23, hgI_SI, hgI_SJ, hgJ_SI, hgJ_SJ, if_true, if_false, reduceIte, Nat.reduceEqDiff, hgWf_SI, hgWf_SJ, hgO_SI, hgO_SJ, hgAr_SI, hgAr_SJ, hgRp_SI, hgRp_SJ, hgN_SI, hgN_SJ, hgO_g, hgO_d, hgO_rl, hgO_r, hgO_0, hgO_1, hgO_64, hgO_298, hgO_300, hgCd_0, hgCd_1, hgCd_2, hgCd_3, hgCd_4, hgCd_5, hgRecv_O, hgRecv_99, List.length_cons, List.length_nil, Nat.zero_add, Nat.add_zero, Nat.le_refl, Nat.zero_le, and_self, or_true, true_or, true_and, and_true, ne_eq, not_false_eq_true, Nat.reduceLT, Nat.reduceLeDiff, Nat.reduceAdd, Nat.reduceEqDiff, hgn_eq, hgn_lt, hgn_le, if_true, if_false, reduceIte, Nat.not_lt_zero, hgs_aa_d, hgs_aa_r, hgs_aa_h, hgs_aa_m, hgs_aa_t, hgs_ld_wp, hgs_st_wp, hgs_ld_qf, hgs_st_qf, hgs_ld_qt, hgs_st_qt, hgs_ld_2, hgs_st_2, hgs_ld_3, hgs_st_3, hgs_ld_4, hgs_st_4, hgs_ld_301, hgs_st_301, hgs_ld_D, hgs_st_D, hgs_ld_s, hgs_ld_T, hgs_st_T, hgs_ld_o, hgs_st_o, hgs_ld_b, hgs_st_b, hgs_ld_z, hgs_st_z, hgs_al_b, hgx_alen_s, hgn_add, hgn_mul, hw, x1, x2, x3, x4, x5, xl, q1, q2, e1, w1, e2, w2, k123, hk]
theorem hgCs_1794 (hX : 6 * n + 6 ≤ X.1) (hX2 : X.1 ≤ 3072) (hk1 : k1 ≤ 10000) (hk2 : k2 ≤ 1000000) (hw : hgWf M) (h : hgAi X 114 [.ref 0] 203 [.ref 300] M n) : hgCse X 1794 n k1 k2 M := by
  obtain ⟨a, M1, M2, e1, e2, w1, inv⟩ := h
  have x1 : 6 * n + 1 < X.1 := by omega
  have x2 : 6 * n + 2 < X.1 := by omega
  have x3 : 6 * n + 3 < X.1 := by omega
  have x4 : 6 * n + 4 < X.1 := by omega
  have x5 : 6 * n + 5 < X.1 := by omega
  have xl : X.1 < 2147483648 := by omega
  have q1 : k1 + 0 ≤ 601024 := by omega
  have q2 : k2 + 0 ≤ 7293034 := by omega
  have q3 : k1 ≤ 601024 := by omega
  have q4 : k2 ≤ 7293034 := by omega
  refine ⟨M2, k1 + 0, k2 + 0, ?_, inv, by omega, by omega⟩
  simp (maxDischargeDepth := 7) only [hgM_t, hgM_f, hgM_n, hgx_aload_n_1, hgx_invvirtual_1, hgx_aft_e, hgx_aft_i, hgx_aft_l, hgx_aft_v, hgx_aload_n_2, hgx_ic_eq, hgx_iconst_0, hgx_ret3, hgx_iinc_4_6, hgx_goto, hgv227_1794, hgr227_1794, hgu227_1794, hgv227_1821, hgr227_1821, hgu227_1821, hgv227_23, hgI_SI, hgI_SJ, hgJ_SI, hgJ_SJ, if_true, if_false, reduceIte, Nat.reduceEqDiff, hgWf_SI, hgWf_SJ, hgO_SI, hgO_SJ, hgAr_SI, hgAr_SJ, hgRp_SI, hgRp_SJ, hgN_SI, hgN_SJ, hgO_g, hgO_d, hgO_rl, hgO_r, hgO_0, hgO_1, hgO_64, hgO_298, hgO_300, hgCd_0, hgCd_1, hgCd_2, hgCd_3, hgCd_4, hgCd_5, hgRecv_O, hgRecv_99, List.length_cons, List.length_nil, Nat.zero_add, Nat.add_zero, Nat.le_refl, Nat.zero_le, and_self, or_true, true_or, true_and, and_true, ne_eq, not_false_eq_true, Nat.reduceLT, Nat.reduceLeDiff, Nat.reduceAdd, Nat.reduceEqDiff, hgn_eq, hgn_lt, hgn_le, if_true, if_false, reduceIte, Nat.not_lt_zero, hgs_aa_d, hgs_aa_r, hgs_aa_h, hgs_aa_m, hgs_aa_t, hgs_ld_wp, hgs_st_wp, hgs_ld_qf, hgs_st_qf, hgs_ld_qt, hgs_st_qt, hgs_ld_2, hgs_st_2, hgs_ld_3, hgs_st_3, hgs_ld_4, hgs_st_4, hgs_ld_301, hgs_st_301, hgs_ld_D, hgs_st_D, hgs_ld_s, hgs_ld_T, hgs_st_T, hgs_ld_o, hgs_st_o, hgs_ld_b, hgs_st_b, hgs_ld_z, hgs_st_z, hgs_al_b, hgx_alen_s, hgn_add, hgn_mul, hw, x1, x2, x3, x4, x5, xl, q1, q2, q3, q4, e1, w1, e2, hgeq_cmp]
theorem hgCs_1807 (hX : 6 * n + 6 ≤ X.1) (hX2 : X.1 ≤ 3072) (hk1 : k1 ≤ 10000) (hk2 : k2 ≤ 1000000) (hw : hgWf M) (h : hgAl X 115 [.ref 0] 204 [.ref 300] M n) : hgCse X 1807 n k1 k2 M := by
  obtain ⟨a, M1, M2, e1, e2, w1, inv⟩ := h
  have x1 : 6 * n + 1 < X.1 := by omega
  have x2 : 6 * n + 2 < X.1 := by omega
  have x3 : 6 * n + 3 < X.1 := by omega
  have x4 : 6 * n + 4 < X.1 := by omega
  have x5 : 6 * n + 5 < X.1 := by omega
  have xl : X.1 < 2147483648 := by omega
  have q1 : k1 + 0 ≤ 601024 := by omega
  have q2 : k2 + 0 ≤ 7293034 := by omega
  have q3 : k1 ≤ 601024 := by omega
  have q4 : k2 ≤ 7293034 := by omega
  refine ⟨M2, k1 + 0, k2 + 0, ?_, inv, by omega, by omega⟩
  simp (maxDischargeDepth := 7) only [hgM_t, hgM_f, hgM_n, hgx_aload_n_1, hgx_invvirtual_1, hgx_aft_e, hgx_aft_i, hgx_aft_l, hgx_aft_v, hgx_aload_n_2, hgx_lcmp, hgx_if_eq, hgx_iconst_0, hgx_ret3, hgx_iinc_4_6, hgx_goto, hgv227_1807, hgr227_1807, hgu227_1807, hgv227_1821, hgr227_1821, hgu227_1821, hgv227_23, hgI_SI, hgI_SJ, hgJ_SI, hgJ_SJ, if_true, if_false, reduceIte, Nat.reduceEqDiff, hgWf_SI, hgWf_SJ, hgO_SI, hgO_SJ, hgAr_SI, hgAr_SJ, hgRp_SI, hgRp_SJ, hgN_SI, hgN_SJ, hgO_g, hgO_d, hgO_rl, hgO_r, hgO_0, hgO_1, hgO_64, hgO_298, hgO_300, hgCd_0, hgCd_1, hgCd_2, hgCd_3, hgCd_4, hgCd_5, hgRecv_O, hgRecv_99, List.length_cons, List.length_nil, Nat.zero_add, Nat.add_zero, Nat.le_refl, Nat.zero_le, and_self, or_true, true_or, true_and, and_true, ne_eq, not_false_eq_true, Nat.reduceLT, Nat.reduceLeDiff, Nat.reduceAdd, Nat.reduceEqDiff, hgn_eq, hgn_lt, hgn_le, if_true, if_false, reduceIte, Nat.not_lt_zero, hgs_aa_d, hgs_aa_r, hgs_aa_h, hgs_aa_m, hgs_aa_t, hgs_ld_wp, hgs_st_wp, hgs_ld_qf, hgs_st_qf, hgs_ld_qt, hgs_st_qt, hgs_ld_2, hgs_st_2, hgs_ld_3, hgs_st_3, hgs_ld_4, hgs_st_4, hgs_ld_301, hgs_st_301, hgs_ld_D, hgs_st_D, hgs_ld_s, hgs_ld_T, hgs_st_T, hgs_ld_o, hgs_st_o, hgs_ld_b, hgs_st_b, hgs_ld_z, hgs_st_z, hgs_al_b, hgx_alen_s, hgn_add, hgn_mul, hw, x1, x2, x3, x4, x5, xl, q1, q2, q3, q4, e1, w1, e2, hgeq_cmp]
end HGLAW

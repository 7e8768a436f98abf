/-! THE LAW'S LOOP to its end. -/
section HGLOP
variable {X : hgX} {M M' M1 M2 M3 Mo : hgMem} {n k1 k2 v : Nat}
theorem hgLsub {L n : Nat} (h1 : L ≤ 3072) (h2 : 6 * n ≤ L + 6) : (nI L - nI 6 < nI (6 * n)) = (L < 6 * n + 6) := by
  have e : (nI L - nI 6).toInt = (L : Int) - 6 := by
    rw [Int32.toInt_sub, hgn_int (by omega), hgn_int (by omega)]
    rw [Int.bmod_eq_of_le] <;> omega
  apply propext
  rw [hglt_i, e, hgn_int (by omega)]
  omega
theorem hgIn33 (h : v < 33) : hgIn (nI v) 33 = true := by
  unfold hgIn
  rw [hgn_int (by omega), decide_eq_true (show (0 : Int) ≤ v by omega), decide_eq_true (show (v : Int) < ((33 : Nat) : Int) by omega)]
  rfl
theorem hgIn33n (h : ¬ v < 33) (h2 : v < 64) : hgIn (nI v) 33 = false := by
  unfold hgIn
  rw [hgn_int (by omega), decide_eq_false (show ¬ (v : Int) < ((33 : Nat) : Int) by omega), Bool.and_false]
def hgTs : List (Nat × Nat × Nat) := [(188, 0, 0), (261, 0, 0), (317, 0, 0), (330, 0, 0), (343, 0, 0), (356, 0, 0), (369, 0, 0), (425, 0, 0), (481, 0, 0), (537, 0, 0), (593, 0, 0), (648, 0, 0), (704, 0, 0), (760, 0, 0), (773, 0, 0), (786, 0, 0), (799, 0, 0), (862, 0, 0), (942, 0, 0), (1022, 0, 0), (1085, 0, 0), (1153, 0, 0), (1166, 0, 0), (1222, 0, 0), (1314, 0, 0), (1370, 0, 0), (1426, 0, 0), (1482, 0, 0), (1550, 0, 0), (1670, 0, 0), (1726, 0, 0), (1794, 0, 0), (1807, 0, 0)]
theorem hgHed (hX : 6 * n + 6 ≤ X.1) (hX2 : X.1 ≤ 3072) (hv : X.2 (6 * n) &&& nI 63 = nI v) : hgW X 227 23 [some (.ref 2000), some (.ref 0), some (.ref 300), some (.ref 325), some (.int (nI (6 * n))), none, none, none] [] (k1, k2) M = if hgIn (nI v) 33 = true then hgWJ X 227 (hgTs.getD (nI v).toNatClampNeg (0, 0, 0)).1 [some (.ref 2000), some (.ref 0), some (.ref 300), some (.ref 325), some (.int (nI (6 * n))), none, none, none] [] (k1, k2) M else hgWJ X 227 1821 [some (.ref 2000), some (.ref 0), some (.ref 300), some (.ref 325), some (.int (nI (6 * n))), none, none, none] [] (k1, k2) M := by
  have x0 : 6 * n < X.1 := by omega
  have xl : X.1 < 2147483648 := by omega
  have ls := hgLsub hX2 (show 6 * n ≤ X.1 + 6 by omega)
  have l2 : ¬ X.1 < 6 * n + 6 := by omega
  rw [hgu227_23]
  simp (maxDischargeDepth := 7) only [hgr227_23, hgx_iload_4, hgx_aload_n_0, hgx_bipush_6, hgx_isub, hgx_ic_gt, hgx_bipush_63, hgx_iand, hgx_tsw, hgM_t, hgM_f, hgM_n, hgI_SI, hgI_SJ, hgJ_SI, hgJ_SJ, if_true, if_false, reduceIte, Nat.reduceEqDiff, hgWf_SI, hgWf_SJ, hgO_SI, hgO_SJ, hgAr_SI, hgAr_SJ, hgRp_SI, hgRp_SJ, hgN_SI, hgN_SJ, hgO_g, hgO_d, hgO_rl, hgO_r, hgO_0, hgO_1, hgO_64, hgO_298, hgO_300, hgCd_0, hgCd_1, hgCd_2, hgCd_3, hgCd_4, hgCd_5, hgRecv_O, hgRecv_99, List.length_cons, List.length_nil, Nat.zero_add, Nat.add_zero, Nat.le_refl, Nat.zero_le, and_self, or_true, true_or, true_and, and_true, ne_eq, not_false_eq_true, Nat.reduceLT, Nat.reduceLeDiff, Nat.reduceAdd, Nat.reduceEqDiff, hgn_eq, hgn_lt, hgn_le, if_true, if_false, reduceIte, Nat.not_lt_zero, hgs_aa_d, hgs_aa_r, hgs_aa_h, hgs_aa_m, hgs_aa_t, hgs_ld_wp, hgs_st_wp, hgs_ld_qf, hgs_st_qf, hgs_ld_qt, hgs_st_qt, hgs_ld_2, hgs_st_2, hgs_ld_3, hgs_st_3, hgs_ld_4, hgs_st_4, hgs_ld_301, hgs_st_301, hgs_ld_D, hgs_st_D, hgs_ld_s, hgs_ld_T, hgs_st_T, hgs_ld_o, hgs_st_o, hgs_ld_b, hgs_st_b, hgs_ld_z, hgs_st_z, hgs_al_b, hgx_alen_s, hgx_alen_s, x0, xl, ls, l2, hv]
  rfl
theorem hgEnd (hX : ¬ 6 * n + 6 ≤ X.1) (hX2 : X.1 ≤ 3072) (hX3 : 6 * n ≤ X.1 + 6) : hgW X 227 23 [some (.ref 2000), some (.ref 0), some (.ref 300), some (.ref 325), some (.int (nI (6 * n))), none, none, none] [] (k1, k2) M = some (.inl (.int (nI 1)), M) := by
  have xl : X.1 < 2147483648 := by omega
  have ls := hgLsub hX2 hX3
  have l2 : X.1 < 6 * n + 6 := by omega
  rw [hgu227_23]
  simp (maxDischargeDepth := 7) only [hgr227_23, hgx_iload_4, hgx_aload_n_0, hgx_bipush_6, hgx_isub, hgx_ic_gt, hgx_bipush_63, hgx_iand, hgx_tsw, hgv227_1827, hgu227_1827, hgr227_1827, hgx_ret3, hgx_iconst_1, hgM_t, hgM_f, hgM_n, hgI_SI, hgI_SJ, hgJ_SI, hgJ_SJ, if_true, if_false, reduceIte, Nat.reduceEqDiff, hgWf_SI, hgWf_SJ, hgO_SI, hgO_SJ, hgAr_SI, hgAr_SJ, hgRp_SI, hgRp_SJ, hgN_SI, hgN_SJ, hgO_g, hgO_d, hgO_rl, hgO_r, hgO_0, hgO_1, hgO_64, hgO_298, hgO_300, hgCd_0, hgCd_1, hgCd_2, hgCd_3, hgCd_4, hgCd_5, hgRecv_O, hgRecv_99, List.length_cons, List.length_nil, Nat.zero_add, Nat.add_zero, Nat.le_refl, Nat.zero_le, and_self, or_true, true_or, true_and, and_true, ne_eq, not_false_eq_true, Nat.reduceLT, Nat.reduceLeDiff, Nat.reduceAdd, Nat.reduceEqDiff, hgn_eq, hgn_lt, hgn_le, if_true, if_false, reduceIte, Nat.not_lt_zero, hgs_aa_d, hgs_aa_r, hgs_aa_h, hgs_aa_m, hgs_aa_t, hgs_ld_wp, hgs_st_wp, hgs_ld_qf, hgs_st_qf, hgs_ld_qt, hgs_st_qt, hgs_ld_2, hgs_st_2, hgs_ld_3, hgs_st_3, hgs_ld_4, hgs_st_4, hgs_ld_301, hgs_st_301, hgs_ld_D, hgs_st_D, hgs_ld_s, hgs_ld_T, hgs_st_T, hgs_ld_o, hgs_st_o, hgs_ld_b, hgs_st_b, hgs_ld_z, hgs_st_z, hgs_al_b, hgx_alen_s, hgx_alen_s, xl, ls, l2]
def hgLd (X : hgX) : Prop := ∀ (M : hgMem) (N : Nat) (x : Int32), hgInv M N → hgBi X 205 [.ref 0, .int x, .ref 325] 154 [.ref 300, .int x] M N
def hgFa (X : hgX) : Prop := ∀ (M : hgMem) (N : Nat), hgInv M N → hgAi X 104 [.ref 0] 187 [.ref 300] M N
theorem hgStepL (hld : hgLd X) (hfa : hgFa X) (hX : 6 * n + 6 ≤ X.1) (hX2 : X.1 ≤ 3072) (hk1 : k1 ≤ 10000) (hk2 : k2 ≤ 1000000) (h : hgInv M n) (hv : v < 33) : ∃ pc, hgWJ X 227 (hgTs.getD v (0, 0, 0)).1 [some (.ref 2000), some (.ref 0), some (.ref 300), some (.ref 325), some (.int (nI (6 * n))), none, none, none] [] (k1, k2) M = hgW X 227 pc [some (.ref 2000), some (.ref 0), some (.ref 300), some (.ref 325), some (.int (nI (6 * n))), none, none, none] [] (k1, k2) M ∧ hgCse X pc n k1 k2 M := by
  have hw := hgInv_w h
  have w0 : v = 0 ∨ v = 1 ∨ v = 2 ∨ v = 3 ∨ v = 4 ∨ v = 5 ∨ v = 6 ∨ v = 7 ∨ v = 8 ∨ v = 9 ∨ v = 10 ∨ v = 11 ∨ v = 12 ∨ v = 13 ∨ v = 14 ∨ v = 15 ∨ v = 16 ∨ v = 17 ∨ v = 18 ∨ v = 19 ∨ v = 20 ∨ v = 21 ∨ v = 22 ∨ v = 23 ∨ v = 24 ∨ v = 25 ∨ v = 26 ∨ v = 27 ∨ v = 28 ∨ v = 29 ∨ v = 30 ∨ v = 31 ∨ v = 32 := by omega
  rcases w0 with w | w | w | w | w | w | w | w | w | w | w | w | w | w | w | w | w | w | w | w | w | w | w | w | w | w | w | w | w | w | w | w | w
  · subst w
    refine ⟨188, ?_, hgCs_188 hX hX2 hk1 hk2 hw (hgOp_83 h)⟩
    exact hgv227_188
  · subst w
    refine ⟨261, ?_, hgCs_261 hX hX2 hk1 hk2 hw (hld _ _ _ h)⟩
    exact hgv227_261
  · subst w
    refine ⟨317, ?_, hgCs_317 hX hX2 hk1 hk2 hw (hgOp_85 h)⟩
    exact hgv227_317
  · subst w
    refine ⟨330, ?_, hgCs_330 hX hX2 hk1 hk2 hw (hgOp_86 h)⟩
    exact hgv227_330
  · subst w
    refine ⟨343, ?_, hgCs_343 hX hX2 hk1 hk2 hw (hgOp_87 h)⟩
    exact hgv227_343
  · subst w
    refine ⟨356, ?_, hgCs_356 hX hX2 hk1 hk2 hw (hgOp_88 h)⟩
    exact hgv227_356
  · subst w
    refine ⟨369, ?_, hgCs_369 hX hX2 hk1 hk2 hw (hgOp_206 h)⟩
    exact hgv227_369
  · subst w
    refine ⟨425, ?_, hgCs_425 hX hX2 hk1 hk2 hw (hgOp_207 h)⟩
    exact hgv227_425
  · subst w
    refine ⟨481, ?_, hgCs_481 hX hX2 hk1 hk2 hw (hgOp_208 h)⟩
    exact hgv227_481
  · subst w
    refine ⟨537, ?_, hgCs_537 hX hX2 hk1 hk2 hw (hgOp_209 h)⟩
    exact hgv227_537
  · subst w
    refine ⟨593, ?_, hgCs_593 hX hX2 hk1 hk2 hw (hgOp_210 h)⟩
    exact hgv227_593
  · subst w
    refine ⟨648, ?_, hgCs_648 hX hX2 hk1 hk2 hw (hgOp_211 h)⟩
    exact hgv227_648
  · subst w
    refine ⟨704, ?_, hgCs_704 hX hX2 hk1 hk2 hw (hgOp_212 h)⟩
    exact hgv227_704
  · subst w
    refine ⟨760, ?_, hgCs_760 hX hX2 hk1 hk2 hw (hgOp_96 h)⟩
    exact hgv227_760
  · subst w
    refine ⟨773, ?_, hgCs_773 hX hX2 hk1 hk2 hw (hgOp_97 h)⟩
    exact hgv227_773
  · subst w
    refine ⟨786, ?_, hgCs_786 hX hX2 hk1 hk2 hw (hgOp_98 h)⟩
    exact hgv227_786
  · subst w
    refine ⟨799, ?_, hgCs_799 hX hX2 hk1 hk2 hw (hgOp_213 h)⟩
    exact hgv227_799
  · subst w
    refine ⟨862, ?_, hgCs_862 hX hX2 hk1 hk2 hw (hgOp_214 h)⟩
    exact hgv227_862
  · subst w
    refine ⟨942, ?_, hgCs_942 hX hX2 hk1 hk2 hw (hgOp_215 h)⟩
    exact hgv227_942
  · subst w
    refine ⟨1022, ?_, hgCs_1022 hX hX2 hk1 hk2 hw (hgOp_216 h)⟩
    exact hgv227_1022
  · subst w
    refine ⟨1085, ?_, hgCs_1085 hX hX2 hk1 hk2 hw (hgOp_217 h)⟩
    exact hgv227_1085
  · subst w
    refine ⟨1153, ?_, hgCs_1153 hX hX2 hk1 hk2 hw (hfa _ _ h)⟩
    exact hgv227_1153
  · subst w
    refine ⟨1166, ?_, hgCs_1166 hX hX2 hk1 hk2 hw (hgOp_218 h)⟩
    exact hgv227_1166
  · subst w
    refine ⟨1222, ?_, hgCs_1222 hX hX2 hk1 hk2 hw (hgOp_219 h (by omega))⟩
    exact hgv227_1222
  · subst w
    refine ⟨1314, ?_, hgCs_1314 hX hX2 hk1 hk2 hw (hgOp_220 h)⟩
    exact hgv227_1314
  · subst w
    refine ⟨1370, ?_, hgCs_1370 hX hX2 hk1 hk2 hw (hgOp_221 h)⟩
    exact hgv227_1370
  · subst w
    refine ⟨1426, ?_, hgCs_1426 hX hX2 hk1 hk2 hw (hgOp_222 h)⟩
    exact hgv227_1426
  · subst w
    refine ⟨1482, ?_, hgCs_1482 hX hX2 hk1 hk2 hw (hgOp_223 h)⟩
    exact hgv227_1482
  · subst w
    refine ⟨1550, ?_, hgCs_1550 hX hX2 hk1 hk2 hw (hgOp_224 h)⟩
    exact hgv227_1550
  · subst w
    refine ⟨1670, ?_, hgCs_1670 hX hX2 hk1 hk2 hw (hgOp_225 h)⟩
    exact hgv227_1670
  · subst w
    refine ⟨1726, ?_, hgCs_1726 hX hX2 hk1 hk2 hw (hgOp_226 h)⟩
    exact hgv227_1726
  · subst w
    refine ⟨1794, ?_, hgCs_1794 hX hX2 hk1 hk2 hw (hgOp_114 h)⟩
    exact hgv227_1794
  · subst w
    refine ⟨1807, ?_, hgCs_1807 hX hX2 hk1 hk2 hw (hgOp_115 h)⟩
    exact hgv227_1807
theorem hgInv_up {M : hgMem} {n : Nat} (h : hgInv M n) : hgInv M (n + 1) := by
  obtain ⟨V, Hs, c, hc, r⟩ := h
  exact ⟨V, Hs, c, by omega, r⟩
theorem hgLoop (hld : hgLd X) (hfa : hgFa X) (hX2 : X.1 ≤ 3072) : ∀ (F n : Nat) (M : hgMem) (k1 k2 : Nat), X.1 ≤ 6 * n + F → 6 * n ≤ X.1 + 6 → hgInv M n → k1 ≤ 400 + 4 * n → k2 ≤ 300000 + 24 * n → ∃ M1, hgW X 227 23 [some (.ref 2000), some (.ref 0), some (.ref 300), some (.ref 325), some (.int (nI (6 * n))), none, none, none] [] (k1, k2) M = some (.inl (.int (nI 1)), M1) := by
  intro F
  induction F with
  | zero =>
    intro n M k1 k2 h1 h2 h h3 h4
    exact ⟨M, hgEnd (by omega) hX2 h2⟩
  | succ F ih =>
    intro n M k1 k2 h1 h2 h h3 h4
    by_cases hX : 6 * n + 6 ≤ X.1
    · obtain ⟨v, v1, v2⟩ := hgand63 (X.2 (6 * n))
      have hd := hgHed (k1 := k1) (k2 := k2) (M := M) hX hX2 v2
      by_cases hv : v < 33
      · rw [if_pos (hgIn33 hv), hgn_cl (by omega)] at hd
        obtain ⟨pc, e1, M2, j1, j2, e2, i2, b1, b2⟩ := hgStepL (k1 := k1) (k2 := k2) hld hfa hX hX2 (by omega) (by omega) h hv
        obtain ⟨M3, e3⟩ := ih (n + 1) M2 j1 j2 (by omega) (by omega) i2 (by omega) (by omega)
        refine ⟨M3, ?_⟩
        rw [hd, e1, e2]
        exact e3
      · rw [if_neg (by rw [hgIn33n hv v1]; decide)] at hd
        obtain ⟨M3, e3⟩ := ih (n + 1) M k1 k2 (by omega) (by omega) (hgInv_up h) (by omega) (by omega)
        refine ⟨M3, ?_⟩
        rw [hd]
        simp (maxDischargeDepth := 7) only [hgM_t, hgM_f, hgM_n, hgx_iinc_4_6, hgx_goto, hgv227_1821, hgr227_1821, hgu227_1821, hgv227_23, hgI_SI, hgI_SJ, hgJ_SI, hgJ_SJ, if_true, if_false, reduceIte, Nat.reduceEqDiff, hgWf_SI, hgWf_SJ, hgO_SI, hgO_SJ, hgAr_SI, hgAr_SJ, hgRp_SI, hgRp_SJ, hgN_SI, hgN_SJ, hgO_g, hgO_d, hgO_rl, hgO_r, hgO_0, hgO_1, hgO_64, hgO_298, hgO_300, hgCd_0, hgCd_1, hgCd_2, hgCd_3, hgCd_4, hgCd_5, hgRecv_O, hgRecv_99, List.length_cons, List.length_nil, Nat.zero_add, Nat.add_zero, Nat.le_refl, Nat.zero_le, and_self, or_true, true_or, true_and, and_true, ne_eq, not_false_eq_true, Nat.reduceLT, Nat.reduceLeDiff, Nat.reduceAdd, Nat.reduceEqDiff, hgn_eq, hgn_lt, hgn_le, if_true, if_false, reduceIte, Nat.not_lt_zero, hgn_add, hgn_mul]
        exact e3
    · exact ⟨M, hgEnd hX hX2 h2⟩
end HGLOP

/-! CHECKSUM, both sides. -/
def hgS31 (s : Int64) (x : Int64) : Int64 := lN 31 * s + x
def vSmD (V : hgV) (i : Nat) (s : Int64) : Int64 := hgS31 (hgS31 (hgS31 (hgS31 (hgS31 s (vD V i 4).toInt64) (vD V i 1).toInt64) (hgBk (vQ V i)).toInt64) (vT V i)) (vD V i 7).toInt64
def vSmDs (V : hgV) : Nat → Nat → Int64 → Int64
  | _, 0, s => s
  | i, k + 1, s => vSmDs V (i + 1) k (vSmD V i s)
def vSmR (V : hgV) (j : Nat) (s : Int64) : Int64 := hgS31 (hgS31 (hgS31 (hgS31 (hgS31 s (vU V j 0).toInt64) (vU V j 1).toInt64) (vU V j 2).toInt64) (vU V j 3).toInt64) (vU V j 4).toInt64
def vSmRs (V : hgV) : Nat → Nat → Int64 → Int64
  | _, 0, s => s
  | i, k + 1, s => vSmRs V (i + 1) k (vSmR V i s)
def hgSmK (f : Nat → Int32) : Nat → Nat → Int64 → Int64
  | _, 0, s => s
  | i, k + 1, s => hgSmK f (i + 1) k (hgS31 s (f i).toInt64)
def vSum (V : hgV) : Int64 := vSmRs V 0 (vR V) (vSmDs V 0 (vN V) (hgS31 (hgS31 (hgS31 (vS V 3).toInt64 (vS V 7).toInt64) (vS V 8).toInt64) (vS V 9).toInt64))
theorem hgSmK_R {V : hgV} {f : Nat → Int32} {n : Nat} (hf : ∀ j, j < n → ∀ k, k ≤ 4 → f (127 + 5 * j + k) = vU V j k) : ∀ (k i : Nat) (s : Int64), i + k = n → hgSmK f (127 + 5 * i) (5 * k) s = vSmRs V i k s
  | 0, i, s, _ => rfl
  | k + 1, i, s, h => by
    show hgSmK f (127 + 5 * i) (5 * k + 1 + 1 + 1 + 1 + 1) s = _
    have g := hf i (by omega)
    have g0 := g 0 (by omega)
    have g1 := g 1 (by omega)
    have g2 := g 2 (by omega)
    have g3 := g 3 (by omega)
    have g4 := g 4 (by omega)
    simp only [hgSmK]
    rw [show 127 + 5 * i + 1 + 1 + 1 + 1 + 1 = 127 + 5 * (i + 1) by omega, hgSmK_R hf k (i + 1) _ (by omega)]
    rw [show 127 + 5 * i + 1 + 1 = 127 + 5 * i + 2 from rfl, show 127 + 5 * i + 2 + 1 = 127 + 5 * i + 3 from rfl, show 127 + 5 * i + 3 + 1 = 127 + 5 * i + 4 from rfl]
    rw [Nat.add_zero] at g0
    rw [g0, g1, g2, g3, g4]
    rfl
section HGSUM
variable {X : hgX} {M M' M1 M2 M3 Mo : hgMem} {d t g h i j q c k a b n p N l r : Nat} {V V' V1 W U : hgV} {Hs Hs' : List hgV} {x y z x1 x2 x3 x4 x5 s ans : Int32} {u : Int64} {P : Nat → Prop} {o : Option Nat} {v1 v2 v4 v6 : Option Value}
theorem hgk_59l (hw : hgWf M) (hm : hgSm V) (hr : ∀ j, j < vR V → vU V j 0 = nI 0 ∨ vU V j 0 = nI 1) (h : hgCV M g V) : ∀ (k i : Nat) (u : Int64) (v1 v2 v6 : Option Value), i + k = vR V → hgW X 59 5 [some (.ref (g + 12)), v1, v2, some (.long u), none, some (.int (nI i)), v6] [] (0, 0) M = some (.inl (.long (vSmRs V i k u)), M) := by
  intro k
  have hn := h.2.2.1
  have hn2 := hm.2.1
  have hg := h.1
  induction k with
  | zero =>
    intro i u v1 v2 v6 hi
    have h1 : i < 2147483648 := by omega
    have h2 : vR V < 2147483648 := by omega
    have h3 : vR V ≤ i := by omega
    rw [hgu59_5]
    simp (maxDischargeDepth := 7) only [hgM_t, hgM_f, hgM_n, hgx_lload_n_1, hgx_lstore_n_3i, hgx_lstore_n_3r, hgx_lstore_n_3f, hgx_lstore_n_3n, hgx_lstore_n_3l, hgx_iconst_0, hgx_istore_5i, hgx_istore_5r, hgx_istore_5f, hgx_istore_5n, hgx_istore_5l, hgx_iload_5, hgx_aload_n_0, hgx_get0, hgx_ic_ge, hgs_get_5_0, hgx_astore_6i, hgx_astore_6r, hgx_astore_6f, hgx_astore_6n, hgx_astore_6l, hgx_ldc2_0, hgx_lload_n_3, hgx_lmul, hgx_aload_6, hgx_get3, hgx_if_eq, hgx_iconst_1, hgx_goto, hgx_i2l, hgx_ladd, hgx_iinc_5_1, hgx_lret, hgv59_0, hgr59_0, hgu59_0, hgv59_5, hgr59_5, hgv59_40, hgr59_40, hgu59_40, hgv59_41, hgr59_41, hgu59_41, hgv59_102, hgr59_102, hgu59_102, hgI_SI, hgI_SJ, hgJ_SI, hgJ_SJ, if_true, if_false, reduceIte, Nat.reduceEqDiff, hgWf_SI, hgWf_SJ, hgO_SI, hgO_SJ, hgAr_SI, hgAr_SJ, hgRp_SI, hgRp_SJ, hgN_SI, hgN_SJ, hgO_g, hgO_d, hgO_rl, hgO_r, hgO_0, hgO_1, hgO_64, hgO_298, hgO_300, hgCd_0, hgCd_1, hgCd_2, hgCd_3, hgCd_4, hgCd_5, hgRecv_O, hgRecv_99, List.length_cons, List.length_nil, Nat.zero_add, Nat.add_zero, Nat.le_refl, Nat.zero_le, and_self, or_true, true_or, true_and, and_true, ne_eq, not_false_eq_true, Nat.reduceLT, Nat.reduceLeDiff, Nat.reduceAdd, Nat.reduceEqDiff, hgn_eq, hgn_lt, hgn_le, if_true, if_false, reduceIte, Nat.not_lt_zero, hw, hg, hn, h1, h2, h3, vSmRs]
  | succ k ih =>
    intro i u v1 v2 v6 hi
    have h1 : i < 2147483648 := by omega
    have h2 : vR V < 2147483648 := by omega
    have h3 : ¬ vR V ≤ i := by omega
    have h4 : i < 12 := by omega
    have f := h.2.2.2.2.2.2.2.2.2.2.2.2.1 i (by omega)
    have f0 : hgI M (hgRp M g i) 0 = vU V i 0 := f 0 (by omega)
    have f1 : hgI M (hgRp M g i) 1 = vU V i 1 := f 1 (by omega)
    have f2 : hgI M (hgRp M g i) 2 = vU V i 2 := f 2 (by omega)
    have f3 : hgI M (hgRp M g i) 3 = vU V i 3 := f 3 (by omega)
    have f4 : hgI M (hgRp M g i) 4 = vU V i 4 := f 4 (by omega)
    have ih' := ih (i + 1) (vSmR V i u) none none none (by omega)
    have n10 : ¬ nI 1 = nI 0 := by decide
    rw [hgu59_5]
    have e9 : vSmRs V i (k + 1) u = vSmRs V (i + 1) k (vSmR V i u) := rfl
    rw [e9]
    unfold vSmR hgS31
    rcases hr i (by omega) with e | e
    · have ih2 := ih'
      unfold vSmR hgS31 at ih2
      rw [e] at ih2
      simp (maxDischargeDepth := 7) only [hgM_t, hgM_f, hgM_n, hgx_lload_n_1, hgx_lstore_n_3i, hgx_lstore_n_3r, hgx_lstore_n_3f, hgx_lstore_n_3n, hgx_lstore_n_3l, hgx_iconst_0, hgx_istore_5i, hgx_istore_5r, hgx_istore_5f, hgx_istore_5n, hgx_istore_5l, hgx_iload_5, hgx_aload_n_0, hgx_get0, hgx_ic_ge, hgs_get_5_0, hgx_astore_6i, hgx_astore_6r, hgx_astore_6f, hgx_astore_6n, hgx_astore_6l, hgx_ldc2_0, hgx_lload_n_3, hgx_lmul, hgx_aload_6, hgx_get3, hgx_if_eq, hgx_iconst_1, hgx_goto, hgx_i2l, hgx_ladd, hgx_iinc_5_1, hgx_lret, hgv59_0, hgr59_0, hgu59_0, hgv59_5, hgr59_5, hgv59_40, hgr59_40, hgu59_40, hgv59_41, hgr59_41, hgu59_41, hgv59_102, hgr59_102, hgu59_102, hgI_SI, hgI_SJ, hgJ_SI, hgJ_SJ, if_true, if_false, reduceIte, Nat.reduceEqDiff, hgWf_SI, hgWf_SJ, hgO_SI, hgO_SJ, hgAr_SI, hgAr_SJ, hgRp_SI, hgRp_SJ, hgN_SI, hgN_SJ, hgO_g, hgO_d, hgO_rl, hgO_r, hgO_0, hgO_1, hgO_64, hgO_298, hgO_300, hgCd_0, hgCd_1, hgCd_2, hgCd_3, hgCd_4, hgCd_5, hgRecv_O, hgRecv_99, List.length_cons, List.length_nil, Nat.zero_add, Nat.add_zero, Nat.le_refl, Nat.zero_le, and_self, or_true, true_or, true_and, and_true, ne_eq, not_false_eq_true, Nat.reduceLT, Nat.reduceLeDiff, Nat.reduceAdd, Nat.reduceEqDiff, hgn_eq, hgn_lt, hgn_le, if_true, if_false, reduceIte, Nat.not_lt_zero, hgs_aa_d, hgs_aa_r, hgs_aa_h, hgs_aa_m, hgs_aa_t, hgs_ld_wp, hgs_st_wp, hgs_ld_qf, hgs_st_qf, hgs_ld_qt, hgs_st_qt, hgs_ld_2, hgs_st_2, hgs_ld_3, hgs_st_3, hgs_ld_4, hgs_st_4, hgs_ld_301, hgs_st_301, hgs_ld_D, hgs_st_D, hgs_ld_s, hgs_ld_T, hgs_st_T, hgs_ld_o, hgs_st_o, hgs_ld_b, hgs_st_b, hgs_ld_z, hgs_st_z, hgs_al_b, hgx_alen_s, hgn_add, hgn_mul, hw, hg, hn, h1, h2, h3, h4, f0, f1, f2, f3, f4, e]
      exact ih2
    · have ih2 := ih'
      unfold vSmR hgS31 at ih2
      rw [e] at ih2
      simp (maxDischargeDepth := 7) only [hgM_t, hgM_f, hgM_n, hgx_lload_n_1, hgx_lstore_n_3i, hgx_lstore_n_3r, hgx_lstore_n_3f, hgx_lstore_n_3n, hgx_lstore_n_3l, hgx_iconst_0, hgx_istore_5i, hgx_istore_5r, hgx_istore_5f, hgx_istore_5n, hgx_istore_5l, hgx_iload_5, hgx_aload_n_0, hgx_get0, hgx_ic_ge, hgs_get_5_0, hgx_astore_6i, hgx_astore_6r, hgx_astore_6f, hgx_astore_6n, hgx_astore_6l, hgx_ldc2_0, hgx_lload_n_3, hgx_lmul, hgx_aload_6, hgx_get3, hgx_if_eq, hgx_iconst_1, hgx_goto, hgx_i2l, hgx_ladd, hgx_iinc_5_1, hgx_lret, hgv59_0, hgr59_0, hgu59_0, hgv59_5, hgr59_5, hgv59_40, hgr59_40, hgu59_40, hgv59_41, hgr59_41, hgu59_41, hgv59_102, hgr59_102, hgu59_102, hgI_SI, hgI_SJ, hgJ_SI, hgJ_SJ, if_true, if_false, reduceIte, Nat.reduceEqDiff, hgWf_SI, hgWf_SJ, hgO_SI, hgO_SJ, hgAr_SI, hgAr_SJ, hgRp_SI, hgRp_SJ, hgN_SI, hgN_SJ, hgO_g, hgO_d, hgO_rl, hgO_r, hgO_0, hgO_1, hgO_64, hgO_298, hgO_300, hgCd_0, hgCd_1, hgCd_2, hgCd_3, hgCd_4, hgCd_5, hgRecv_O, hgRecv_99, List.length_cons, List.length_nil, Nat.zero_add, Nat.add_zero, Nat.le_refl, Nat.zero_le, and_self, or_true, true_or, true_and, and_true, ne_eq, not_false_eq_true, Nat.reduceLT, Nat.reduceLeDiff, Nat.reduceAdd, Nat.reduceEqDiff, hgn_eq, hgn_lt, hgn_le, if_true, if_false, reduceIte, Nat.not_lt_zero, hgs_aa_d, hgs_aa_r, hgs_aa_h, hgs_aa_m, hgs_aa_t, hgs_ld_wp, hgs_st_wp, hgs_ld_qf, hgs_st_qf, hgs_ld_qt, hgs_st_qt, hgs_ld_2, hgs_st_2, hgs_ld_3, hgs_st_3, hgs_ld_4, hgs_st_4, hgs_ld_301, hgs_st_301, hgs_ld_D, hgs_st_D, hgs_ld_s, hgs_ld_T, hgs_st_T, hgs_ld_o, hgs_st_o, hgs_ld_b, hgs_st_b, hgs_ld_z, hgs_st_z, hgs_al_b, hgx_alen_s, hgn_add, hgn_mul, hw, hg, hn, h1, h2, h3, h4, f0, f1, f2, f3, f4, e, n10]
      exact ih2
theorem hgCV_59 (hw : hgWf M) (hk : hgVok V c) (h : hgCV M g V) : hgWC X 59 [.ref (g + 12), .long u] M = some (.inl (.long (vSmRs V 0 (vR V) u)), M) := by
  have k := hgk_59l (X := X) hw (hgSm_ok hk) hk.2.2.2.2.1 h (vR V) 0 u (some (.long u)) none none (by omega)
  simp (maxDischargeDepth := 7) only [hgc59, hgM_t, hgM_f, hgM_n, hgx_lload_n_1, hgx_lstore_n_3i, hgx_lstore_n_3r, hgx_lstore_n_3f, hgx_lstore_n_3n, hgx_lstore_n_3l, hgx_iconst_0, hgx_istore_5i, hgx_istore_5r, hgx_istore_5f, hgx_istore_5n, hgx_istore_5l, hgx_iload_5, hgx_aload_n_0, hgx_get0, hgx_ic_ge, hgs_get_5_0, hgx_astore_6i, hgx_astore_6r, hgx_astore_6f, hgx_astore_6n, hgx_astore_6l, hgx_ldc2_0, hgx_lload_n_3, hgx_lmul, hgx_aload_6, hgx_get3, hgx_if_eq, hgx_iconst_1, hgx_goto, hgx_i2l, hgx_ladd, hgx_iinc_5_1, hgx_lret, hgv59_0, hgr59_0, hgu59_0, hgv59_5, ← hgu59_5, hgv59_40, hgr59_40, hgu59_40, hgv59_41, hgr59_41, hgu59_41, hgv59_102, hgr59_102, hgu59_102, hgI_SI, hgI_SJ, hgJ_SI, hgJ_SJ, if_true, if_false, reduceIte, Nat.reduceEqDiff, hgWf_SI, hgWf_SJ, hgO_SI, hgO_SJ, hgAr_SI, hgAr_SJ, hgRp_SI, hgRp_SJ, hgN_SI, hgN_SJ, hgO_g, hgO_d, hgO_rl, hgO_r, hgO_0, hgO_1, hgO_64, hgO_298, hgO_300, hgCd_0, hgCd_1, hgCd_2, hgCd_3, hgCd_4, hgCd_5, hgRecv_O, hgRecv_99, List.length_cons, List.length_nil, Nat.zero_add, Nat.add_zero, Nat.le_refl, Nat.zero_le, and_self, or_true, true_or, true_and, and_true, ne_eq, not_false_eq_true, Nat.reduceLT, Nat.reduceLeDiff, Nat.reduceAdd, Nat.reduceEqDiff, hgn_eq, hgn_lt, hgn_le, if_true, if_false, reduceIte, Nat.not_lt_zero]
  exact k
theorem hgk_30l (hw : hgWf M) (hk : hgVok V c) (h : hgCV M g V) : ∀ (k i : Nat) (u : Int64) (v4 : Option Value), i + k = vN V → hgW X 30 44 [some (.ref g), some (.long u), none, some (.int (nI i)), v4] [] (0, 0) M = some (.inl (.long (vSmRs V 0 (vR V) (vSmDs V i k u))), M) := by
  intro k
  have hn := h.2.1
  have hn2 := hk.1
  have hg := h.1
  induction k with
  | zero =>
    intro i u v4 hi
    have h1 : i < 2147483648 := by omega
    have h2 : vN V < 2147483648 := by omega
    have h3 : vN V ≤ i := by omega
    have k59 := hgCV_59 (X := X) (u := u) hw hk h
    rw [hgu30_44]
    simp (maxDischargeDepth := 7) only [hgM_t, hgM_f, hgM_n, hgx_aload_n_0, hgx_get0, hgx_i2l, hgx_lstore_n_1i, hgx_lstore_n_1r, hgx_lstore_n_1f, hgx_lstore_n_1n, hgx_lstore_n_1l, hgx_ldc2_0, hgx_lload_n_1, hgx_lmul, hgx_ladd, hgx_iconst_0, hgx_istore_n_3i, hgx_istore_n_3r, hgx_istore_n_3f, hgx_istore_n_3n, hgx_istore_n_3l, hgx_iload_n_3, hgx_ic_ge, hgs_get_1_5, hgx_astore_4i, hgx_astore_4r, hgx_astore_4f, hgx_astore_4n, hgx_astore_4l, hgx_aload_4, hgx_get1, hgx_iinc_3_1, hgx_goto, hgs_get_1_7, hgx_invvirtual_2, hgx_aft_e, hgx_aft_i, hgx_aft_l, hgx_aft_v, hgx_lret, hgv30_0, hgr30_0, hgu30_0, hgv30_44, hgr30_44, hgv30_130, hgr30_130, hgu30_130, hgI_SI, hgI_SJ, hgJ_SI, hgJ_SJ, if_true, if_false, reduceIte, Nat.reduceEqDiff, hgWf_SI, hgWf_SJ, hgO_SI, hgO_SJ, hgAr_SI, hgAr_SJ, hgRp_SI, hgRp_SJ, hgN_SI, hgN_SJ, hgO_g, hgO_d, hgO_rl, hgO_r, hgO_0, hgO_1, hgO_64, hgO_298, hgO_300, hgCd_0, hgCd_1, hgCd_2, hgCd_3, hgCd_4, hgCd_5, hgRecv_O, hgRecv_99, List.length_cons, List.length_nil, Nat.zero_add, Nat.add_zero, Nat.le_refl, Nat.zero_le, and_self, or_true, true_or, true_and, and_true, ne_eq, not_false_eq_true, Nat.reduceLT, Nat.reduceLeDiff, Nat.reduceAdd, Nat.reduceEqDiff, hgn_eq, hgn_lt, hgn_le, if_true, if_false, reduceIte, Nat.not_lt_zero, hw, hg, hn, h1, h2, h3, vSmDs, k59]
  | succ k ih =>
    intro i u v4 hi
    have h1 : i < 2147483648 := by omega
    have h2 : vN V < 2147483648 := by omega
    have h3 : ¬ vN V ≤ i := by omega
    have h4 : i < 10 := by omega
    have od := hgO_d hw hg h4
    have hd := h.2.2.2.2.2.2.2.2.2.2.2.1 i (by omega)
    have f4 : hgI M (g + 2 + i) 4 = vD V i 4 := hd.1 4 (by omega)
    have f1 : hgI M (g + 2 + i) 1 = vD V i 1 := hd.1 1 (by omega)
    have f8 : hgI M (g + 2 + i) 8 = vD V i 7 := hd.1 7 (by omega)
    have f13 := hd.2.2.2.1
    have fT := hd.2.1
    have ih' := ih (i + 1) (vSmD V i u) none (by omega)
    unfold vSmD hgS31 at ih'
    rw [hgu30_44]
    simp (maxDischargeDepth := 7) only [hgM_t, hgM_f, hgM_n, hgx_aload_n_0, hgx_get0, hgx_i2l, hgx_lstore_n_1i, hgx_lstore_n_1r, hgx_lstore_n_1f, hgx_lstore_n_1n, hgx_lstore_n_1l, hgx_ldc2_0, hgx_lload_n_1, hgx_lmul, hgx_ladd, hgx_iconst_0, hgx_istore_n_3i, hgx_istore_n_3r, hgx_istore_n_3f, hgx_istore_n_3n, hgx_istore_n_3l, hgx_iload_n_3, hgx_ic_ge, hgs_get_1_5, hgx_astore_4i, hgx_astore_4r, hgx_astore_4f, hgx_astore_4n, hgx_astore_4l, hgx_aload_4, hgx_get1, hgx_iinc_3_1, hgx_goto, hgs_get_1_7, hgx_invvirtual_2, hgx_aft_e, hgx_aft_i, hgx_aft_l, hgx_aft_v, hgx_lret, hgv30_0, hgr30_0, hgu30_0, hgv30_44, hgr30_44, hgv30_130, hgr30_130, hgu30_130, hgI_SI, hgI_SJ, hgJ_SI, hgJ_SJ, if_true, if_false, reduceIte, Nat.reduceEqDiff, hgWf_SI, hgWf_SJ, hgO_SI, hgO_SJ, hgAr_SI, hgAr_SJ, hgRp_SI, hgRp_SJ, hgN_SI, hgN_SJ, hgO_g, hgO_d, hgO_rl, hgO_r, hgO_0, hgO_1, hgO_64, hgO_298, hgO_300, hgCd_0, hgCd_1, hgCd_2, hgCd_3, hgCd_4, hgCd_5, hgRecv_O, hgRecv_99, List.length_cons, List.length_nil, Nat.zero_add, Nat.add_zero, Nat.le_refl, Nat.zero_le, and_self, or_true, true_or, true_and, and_true, ne_eq, not_false_eq_true, Nat.reduceLT, Nat.reduceLeDiff, Nat.reduceAdd, Nat.reduceEqDiff, hgn_eq, hgn_lt, hgn_le, if_true, if_false, reduceIte, Nat.not_lt_zero, hgs_aa_d, hgs_aa_r, hgs_aa_h, hgs_aa_m, hgs_aa_t, hgs_ld_wp, hgs_st_wp, hgs_ld_qf, hgs_st_qf, hgs_ld_qt, hgs_st_qt, hgs_ld_2, hgs_st_2, hgs_ld_3, hgs_st_3, hgs_ld_4, hgs_st_4, hgs_ld_301, hgs_st_301, hgs_ld_D, hgs_st_D, hgs_ld_s, hgs_ld_T, hgs_st_T, hgs_ld_o, hgs_st_o, hgs_ld_b, hgs_st_b, hgs_ld_z, hgs_st_z, hgs_al_b, hgx_alen_s, hgn_add, hgn_mul, hw, hg, hn, h1, h2, h3, h4, od, f4, f1, f8, f13, fT]
    exact ih'
theorem hgCV_30 (hw : hgWf M) (hk : hgVok V c) (h : hgCV M g V) : hgWC X 30 [.ref g] M = some (.inl (.long (vSum V)), M) := by
  have hg := h.1
  have e3 := h.2.2.2.2.1
  have e7 := h.2.2.2.2.2.2.2.2.1
  have e8 := h.2.2.2.2.2.2.2.2.2.1
  have e9 := h.2.2.2.2.2.2.2.2.2.2.1
  have k := hgk_30l (X := X) hw hk h (vN V) 0 (hgS31 (hgS31 (hgS31 (vS V 3).toInt64 (vS V 7).toInt64) (vS V 8).toInt64) (vS V 9).toInt64) none (by omega)
  unfold hgS31 at k
  simp (maxDischargeDepth := 7) only [hgc30, hgM_t, hgM_f, hgM_n, hgx_aload_n_0, hgx_get0, hgx_i2l, hgx_lstore_n_1i, hgx_lstore_n_1r, hgx_lstore_n_1f, hgx_lstore_n_1n, hgx_lstore_n_1l, hgx_ldc2_0, hgx_lload_n_1, hgx_lmul, hgx_ladd, hgx_iconst_0, hgx_istore_n_3i, hgx_istore_n_3r, hgx_istore_n_3f, hgx_istore_n_3n, hgx_istore_n_3l, hgx_iload_n_3, hgx_ic_ge, hgs_get_1_5, hgx_astore_4i, hgx_astore_4r, hgx_astore_4f, hgx_astore_4n, hgx_astore_4l, hgx_aload_4, hgx_get1, hgx_iinc_3_1, hgx_goto, hgs_get_1_7, hgx_invvirtual_2, hgx_aft_e, hgx_aft_i, hgx_aft_l, hgx_aft_v, hgx_lret, hgv30_0, hgr30_0, hgu30_0, hgv30_44, ← hgu30_44, hgv30_130, hgr30_130, hgu30_130, hgI_SI, hgI_SJ, hgJ_SI, hgJ_SJ, if_true, if_false, reduceIte, Nat.reduceEqDiff, hgWf_SI, hgWf_SJ, hgO_SI, hgO_SJ, hgAr_SI, hgAr_SJ, hgRp_SI, hgRp_SJ, hgN_SI, hgN_SJ, hgO_g, hgO_d, hgO_rl, hgO_r, hgO_0, hgO_1, hgO_64, hgO_298, hgO_300, hgCd_0, hgCd_1, hgCd_2, hgCd_3, hgCd_4, hgCd_5, hgRecv_O, hgRecv_99, List.length_cons, List.length_nil, Nat.zero_add, Nat.add_zero, Nat.le_refl, Nat.zero_le, and_self, or_true, true_or, true_and, and_true, ne_eq, not_false_eq_true, Nat.reduceLT, Nat.reduceLeDiff, Nat.reduceAdd, Nat.reduceEqDiff, hgn_eq, hgn_lt, hgn_le, if_true, if_false, reduceIte, Nat.not_lt_zero, hw, hg, e3, e7, e8, e9]
  exact k
/-- the reference's -/
theorem hgk_204c (hw : hgWf M) (hn : hgI M 302 1 = nI n) (hn2 : n ≤ 12) : ∀ (k i : Nat) (u : Int64), i + k = 127 + 5 * n → hgW X 204 147 [some (.ref 300), some (.long u), none, some (.int (nI i))] [] (0, 0) M = some (.inl (.long (hgSmK (hgI M 302) i k u)), M) := by
  intro k
  induction k with
  | zero =>
    intro i u hi
    have h1 : i < 2147483648 := by omega
    have h2 : 127 + 5 * n < 2147483648 := by omega
    have h3 : 127 + 5 * n ≤ i := by omega
    rw [hgu204_147]
    simp (maxDischargeDepth := 7) only [hgM_t, hgM_f, hgM_n, hgx_aload_n_0, hgx_iconst_0, hgx_put0, hgs_get_8_8, hgx_iconst_3, hgx_i2l, hgx_lstore_n_1i, hgx_lstore_n_1r, hgx_lstore_n_1f, hgx_lstore_n_1n, hgx_lstore_n_1l, hgx_bipush_7, hgx_istore_n_3i, hgx_istore_n_3r, hgx_istore_n_3f, hgx_istore_n_3n, hgx_istore_n_3l, hgx_iload_n_3, hgx_bipush_9, hgx_ic_gt, hgx_ldc2_0, hgx_lload_n_1, hgx_lmul, hgx_ladd, hgx_iinc_3_1, hgx_goto, hgx_ic_ge, hgx_invstatic_1, hgx_aft_e, hgx_aft_i, hgx_aft_l, hgx_aft_v, hgx_iconst_4, hgx_iadd, hgx_iconst_1, hgx_invvirtual_2, hgs_get_8_12, hgx_bipush_127, hgx_lret, hgv204_0, hgr204_0, hgu204_0, hgv204_16, ← hgu204_16, hgv204_42, hgr204_42, hgu204_42, hgv204_44, ← hgu204_44, hgv204_144, hgr204_144, hgu204_144, hgv204_147, hgr204_147, hgv204_180, hgr204_180, hgu204_180, hgI_SI, hgI_SJ, hgJ_SI, hgJ_SJ, if_true, if_false, reduceIte, Nat.reduceEqDiff, hgWf_SI, hgWf_SJ, hgO_SI, hgO_SJ, hgAr_SI, hgAr_SJ, hgRp_SI, hgRp_SJ, hgN_SI, hgN_SJ, hgO_g, hgO_d, hgO_rl, hgO_r, hgO_0, hgO_1, hgO_64, hgO_298, hgO_300, hgCd_0, hgCd_1, hgCd_2, hgCd_3, hgCd_4, hgCd_5, hgRecv_O, hgRecv_99, List.length_cons, List.length_nil, Nat.zero_add, Nat.add_zero, Nat.le_refl, Nat.zero_le, and_self, or_true, true_or, true_and, and_true, ne_eq, not_false_eq_true, Nat.reduceLT, Nat.reduceLeDiff, Nat.reduceAdd, Nat.reduceEqDiff, hgn_eq, hgn_lt, hgn_le, if_true, if_false, reduceIte, Nat.not_lt_zero, hgs_aa_d, hgs_aa_r, hgs_aa_h, hgs_aa_m, hgs_aa_t, hgs_ld_wp, hgs_st_wp, hgs_ld_qf, hgs_st_qf, hgs_ld_qt, hgs_st_qt, hgs_ld_2, hgs_st_2, hgs_ld_3, hgs_st_3, hgs_ld_4, hgs_st_4, hgs_ld_301, hgs_st_301, hgs_ld_D, hgs_st_D, hgs_ld_s, hgs_ld_T, hgs_st_T, hgs_ld_o, hgs_st_o, hgs_ld_b, hgs_st_b, hgs_ld_z, hgs_st_z, hgs_al_b, hgx_alen_s, hgn_add, hgn_mul, hw, hgAr_302 hw, hn, hgk_129, h1, h2, h3, hgSmK]
  | succ k ih =>
    intro i u hi
    have h1 : i < 2147483648 := by omega
    have h2 : 127 + 5 * n < 2147483648 := by omega
    have h3 : ¬ 127 + 5 * n ≤ i := by omega
    have h4 : i < 20187 := by omega
    have ih' := ih (i + 1) (hgS31 u (hgI M 302 i).toInt64) (by omega)
    unfold hgS31 at ih'
    rw [hgu204_147]
    simp (maxDischargeDepth := 7) only [hgM_t, hgM_f, hgM_n, hgx_aload_n_0, hgx_iconst_0, hgx_put0, hgs_get_8_8, hgx_iconst_3, hgx_i2l, hgx_lstore_n_1i, hgx_lstore_n_1r, hgx_lstore_n_1f, hgx_lstore_n_1n, hgx_lstore_n_1l, hgx_bipush_7, hgx_istore_n_3i, hgx_istore_n_3r, hgx_istore_n_3f, hgx_istore_n_3n, hgx_istore_n_3l, hgx_iload_n_3, hgx_bipush_9, hgx_ic_gt, hgx_ldc2_0, hgx_lload_n_1, hgx_lmul, hgx_ladd, hgx_iinc_3_1, hgx_goto, hgx_ic_ge, hgx_invstatic_1, hgx_aft_e, hgx_aft_i, hgx_aft_l, hgx_aft_v, hgx_iconst_4, hgx_iadd, hgx_iconst_1, hgx_invvirtual_2, hgs_get_8_12, hgx_bipush_127, hgx_lret, hgv204_0, hgr204_0, hgu204_0, hgv204_16, ← hgu204_16, hgv204_42, hgr204_42, hgu204_42, hgv204_44, ← hgu204_44, hgv204_144, hgr204_144, hgu204_144, hgv204_147, hgr204_147, hgv204_180, hgr204_180, hgu204_180, hgI_SI, hgI_SJ, hgJ_SI, hgJ_SJ, if_true, if_false, reduceIte, Nat.reduceEqDiff, hgWf_SI, hgWf_SJ, hgO_SI, hgO_SJ, hgAr_SI, hgAr_SJ, hgRp_SI, hgRp_SJ, hgN_SI, hgN_SJ, hgO_g, hgO_d, hgO_rl, hgO_r, hgO_0, hgO_1, hgO_64, hgO_298, hgO_300, hgCd_0, hgCd_1, hgCd_2, hgCd_3, hgCd_4, hgCd_5, hgRecv_O, hgRecv_99, List.length_cons, List.length_nil, Nat.zero_add, Nat.add_zero, Nat.le_refl, Nat.zero_le, and_self, or_true, true_or, true_and, and_true, ne_eq, not_false_eq_true, Nat.reduceLT, Nat.reduceLeDiff, Nat.reduceAdd, Nat.reduceEqDiff, hgn_eq, hgn_lt, hgn_le, if_true, if_false, reduceIte, Nat.not_lt_zero, hgs_aa_d, hgs_aa_r, hgs_aa_h, hgs_aa_m, hgs_aa_t, hgs_ld_wp, hgs_st_wp, hgs_ld_qf, hgs_st_qf, hgs_ld_qt, hgs_st_qt, hgs_ld_2, hgs_st_2, hgs_ld_3, hgs_st_3, hgs_ld_4, hgs_st_4, hgs_ld_301, hgs_st_301, hgs_ld_D, hgs_st_D, hgs_ld_s, hgs_ld_T, hgs_st_T, hgs_ld_o, hgs_st_o, hgs_ld_b, hgs_st_b, hgs_ld_z, hgs_st_z, hgs_al_b, hgx_alen_s, hgn_add, hgn_mul, hw, hgAr_302 hw, hn, hgk_129, h1, h2, h3, h4]
    exact ih'
theorem hgk_204b (hw : hgWf M) (hk : hgVok V c) (h : hgRV M 302 314 V) : ∀ (k i : Nat) (u : Int64), i + k = vN V → hgW X 204 44 [some (.ref 300), some (.long u), none, some (.int (nI i))] [] (0, 0) M = some (.inl (.long (vSmRs V 0 (vR V) (vSmDs V i k u))), M) := by
  intro k
  have hN := hk.1
  have hn := h.2.2.2.1
  have hm := hgSm_ok hk
  induction k with
  | zero =>
    intro i u hi
    have h1 : i < 2147483648 := by omega
    have h2 : vN V < 2147483648 := by omega
    have h3 : vN V ≤ i := by omega
    have kc := hgk_204c (X := X) hw h.2.2.2.2.1 hk.2.1 (5 * vR V) 127 u (by omega)
    rw [show hgSmK (hgI M 302) 127 (5 * vR V) u = vSmRs V 0 (vR V) u from hgSmK_R (n := vR V) (fun j hj k hk => h.2.2.2.2.2.2.2.2.1 j hj k hk) (vR V) 0 u (by omega)] at kc
    rw [hgu204_44]
    simp (maxDischargeDepth := 7) only [hgM_t, hgM_f, hgM_n, hgx_aload_n_0, hgx_iconst_0, hgx_put0, hgs_get_8_8, hgx_iconst_3, hgx_i2l, hgx_lstore_n_1i, hgx_lstore_n_1r, hgx_lstore_n_1f, hgx_lstore_n_1n, hgx_lstore_n_1l, hgx_bipush_7, hgx_istore_n_3i, hgx_istore_n_3r, hgx_istore_n_3f, hgx_istore_n_3n, hgx_istore_n_3l, hgx_iload_n_3, hgx_bipush_9, hgx_ic_gt, hgx_ldc2_0, hgx_lload_n_1, hgx_lmul, hgx_ladd, hgx_iinc_3_1, hgx_goto, hgx_ic_ge, hgx_invstatic_1, hgx_aft_e, hgx_aft_i, hgx_aft_l, hgx_aft_v, hgx_iconst_4, hgx_iadd, hgx_iconst_1, hgx_invvirtual_2, hgs_get_8_12, hgx_bipush_127, hgx_lret, hgv204_0, hgr204_0, hgu204_0, hgv204_16, ← hgu204_16, hgv204_42, hgr204_42, hgu204_42, hgv204_44, hgr204_44, hgv204_144, hgr204_144, hgu204_144, hgv204_147, ← hgu204_147, hgv204_180, hgr204_180, hgu204_180, hgI_SI, hgI_SJ, hgJ_SI, hgJ_SJ, if_true, if_false, reduceIte, Nat.reduceEqDiff, hgWf_SI, hgWf_SJ, hgO_SI, hgO_SJ, hgAr_SI, hgAr_SJ, hgRp_SI, hgRp_SJ, hgN_SI, hgN_SJ, hgO_g, hgO_d, hgO_rl, hgO_r, hgO_0, hgO_1, hgO_64, hgO_298, hgO_300, hgCd_0, hgCd_1, hgCd_2, hgCd_3, hgCd_4, hgCd_5, hgRecv_O, hgRecv_99, List.length_cons, List.length_nil, Nat.zero_add, Nat.add_zero, Nat.le_refl, Nat.zero_le, and_self, or_true, true_or, true_and, and_true, ne_eq, not_false_eq_true, Nat.reduceLT, Nat.reduceLeDiff, Nat.reduceAdd, Nat.reduceEqDiff, hgn_eq, hgn_lt, hgn_le, if_true, if_false, reduceIte, Nat.not_lt_zero, hgs_aa_d, hgs_aa_r, hgs_aa_h, hgs_aa_m, hgs_aa_t, hgs_ld_wp, hgs_st_wp, hgs_ld_qf, hgs_st_qf, hgs_ld_qt, hgs_st_qt, hgs_ld_2, hgs_st_2, hgs_ld_3, hgs_st_3, hgs_ld_4, hgs_st_4, hgs_ld_301, hgs_st_301, hgs_ld_D, hgs_st_D, hgs_ld_s, hgs_ld_T, hgs_st_T, hgs_ld_o, hgs_st_o, hgs_ld_b, hgs_st_b, hgs_ld_z, hgs_st_z, hgs_al_b, hgx_alen_s, hgn_add, hgn_mul, hw, hgAr_302 hw, hn, h1, h2, h3, vSmDs]
    exact kc
  | succ k ih =>
    intro i u hi
    have h1 : i < 2147483648 := by omega
    have h2 : vN V < 2147483648 := by omega
    have h3 : ¬ vN V ≤ i := by omega
    have h4 : i < 10 := by omega
    have b4 : 27 + 10 * i + 4 < 20187 := by omega
    have b1 : 27 + 10 * i + 1 < 20187 := by omega
    have b7 : 27 + 10 * i + 7 < 20187 := by omega
    have hd := h.2.2.2.2.2.2.2.1 i (by omega)
    have f4 := hd.1 4 (by omega)
    have f1 := hd.1 1 (by omega)
    have f7 := hd.1 7 (by omega)
    have fT := hd.2.2.1
    have k174 := hgRV_174 (X := X) hw hm (show i < vN V by omega) h
    have ih' := ih (i + 1) (vSmD V i u) (by omega)
    unfold vSmD hgS31 at ih'
    rw [hgu204_44]
    simp (maxDischargeDepth := 7) only [hgM_t, hgM_f, hgM_n, hgx_aload_n_0, hgx_iconst_0, hgx_put0, hgs_get_8_8, hgx_iconst_3, hgx_i2l, hgx_lstore_n_1i, hgx_lstore_n_1r, hgx_lstore_n_1f, hgx_lstore_n_1n, hgx_lstore_n_1l, hgx_bipush_7, hgx_istore_n_3i, hgx_istore_n_3r, hgx_istore_n_3f, hgx_istore_n_3n, hgx_istore_n_3l, hgx_iload_n_3, hgx_bipush_9, hgx_ic_gt, hgx_ldc2_0, hgx_lload_n_1, hgx_lmul, hgx_ladd, hgx_iinc_3_1, hgx_goto, hgx_ic_ge, hgx_invstatic_1, hgx_aft_e, hgx_aft_i, hgx_aft_l, hgx_aft_v, hgx_iconst_4, hgx_iadd, hgx_iconst_1, hgx_invvirtual_2, hgs_get_8_12, hgx_bipush_127, hgx_lret, hgv204_0, hgr204_0, hgu204_0, hgv204_16, ← hgu204_16, hgv204_42, hgr204_42, hgu204_42, hgv204_44, hgr204_44, hgv204_144, hgr204_144, hgu204_144, hgv204_147, ← hgu204_147, hgv204_180, hgr204_180, hgu204_180, hgI_SI, hgI_SJ, hgJ_SI, hgJ_SJ, if_true, if_false, reduceIte, Nat.reduceEqDiff, hgWf_SI, hgWf_SJ, hgO_SI, hgO_SJ, hgAr_SI, hgAr_SJ, hgRp_SI, hgRp_SJ, hgN_SI, hgN_SJ, hgO_g, hgO_d, hgO_rl, hgO_r, hgO_0, hgO_1, hgO_64, hgO_298, hgO_300, hgCd_0, hgCd_1, hgCd_2, hgCd_3, hgCd_4, hgCd_5, hgRecv_O, hgRecv_99, List.length_cons, List.length_nil, Nat.zero_add, Nat.add_zero, Nat.le_refl, Nat.zero_le, and_self, or_true, true_or, true_and, and_true, ne_eq, not_false_eq_true, Nat.reduceLT, Nat.reduceLeDiff, Nat.reduceAdd, Nat.reduceEqDiff, hgn_eq, hgn_lt, hgn_le, if_true, if_false, reduceIte, Nat.not_lt_zero, hgs_aa_d, hgs_aa_r, hgs_aa_h, hgs_aa_m, hgs_aa_t, hgs_ld_wp, hgs_st_wp, hgs_ld_qf, hgs_st_qf, hgs_ld_qt, hgs_st_qt, hgs_ld_2, hgs_st_2, hgs_ld_3, hgs_st_3, hgs_ld_4, hgs_st_4, hgs_ld_301, hgs_st_301, hgs_ld_D, hgs_st_D, hgs_ld_s, hgs_ld_T, hgs_st_T, hgs_ld_o, hgs_st_o, hgs_ld_b, hgs_st_b, hgs_ld_z, hgs_st_z, hgs_al_b, hgx_alen_s, hgn_add, hgn_mul, hw, hgAr_302 hw, hgAr_314 hw, hn, h1, h2, h3, h4, b4, b1, b7, hgk_128, f4, f1, f7, fT, k174]
    exact ih'
theorem hgRV_204 (h : hgSM M V Hs c) : hgWC X 204 [.ref 300] M = some (.inl (.long (vSum V)), hgSI M 300 0 (nI 0)) := by
  have h2 : hgSM (hgSI M 300 0 (nI 0)) V Hs c := hgSM_0 h
  have hw := h.1
  have s := h2.2.1.2.2.2.2.2.2.1
  have e3 := s 3 (by omega) (by omega)
  have e7 := s 7 (by omega) (by omega)
  have e8 := s 8 (by omega) (by omega)
  have e9 := s 9 (by omega) (by omega)
  have k := hgk_204b (X := X) h2.1 h2.2.2.2.1 h2.2.1 (vN V) 0 (hgS31 (hgS31 (hgS31 (vS V 3).toInt64 (vS V 7).toInt64) (vS V 8).toInt64) (vS V 9).toInt64) (by omega)
  unfold hgS31 at k
  simp (maxDischargeDepth := 7) only [hgc204, hgM_t, hgM_f, hgM_n, hgx_aload_n_0, hgx_iconst_0, hgx_put0, hgs_get_8_8, hgx_iconst_3, hgx_i2l, hgx_lstore_n_1i, hgx_lstore_n_1r, hgx_lstore_n_1f, hgx_lstore_n_1n, hgx_lstore_n_1l, hgx_bipush_7, hgx_istore_n_3i, hgx_istore_n_3r, hgx_istore_n_3f, hgx_istore_n_3n, hgx_istore_n_3l, hgx_iload_n_3, hgx_bipush_9, hgx_ic_gt, hgx_ldc2_0, hgx_lload_n_1, hgx_lmul, hgx_ladd, hgx_iinc_3_1, hgx_goto, hgx_ic_ge, hgx_invstatic_1, hgx_aft_e, hgx_aft_i, hgx_aft_l, hgx_aft_v, hgx_iconst_4, hgx_iadd, hgx_iconst_1, hgx_invvirtual_2, hgs_get_8_12, hgx_bipush_127, hgx_lret, hgv204_0, hgr204_0, hgu204_0, hgv204_16, ← hgu204_16, hgv204_42, hgr204_42, hgu204_42, hgv204_44, ← hgu204_44, hgv204_144, hgr204_144, hgu204_144, hgv204_147, ← hgu204_147, hgv204_180, hgr204_180, hgu204_180, hgs_aa_d, hgs_aa_r, hgs_aa_h, hgs_aa_m, hgs_aa_t, hgs_ld_wp, hgs_st_wp, hgs_ld_qf, hgs_st_qf, hgs_ld_qt, hgs_st_qt, hgs_ld_2, hgs_st_2, hgs_ld_3, hgs_st_3, hgs_ld_4, hgs_st_4, hgs_ld_301, hgs_st_301, hgs_ld_D, hgs_st_D, hgs_ld_s, hgs_ld_T, hgs_st_T, hgs_ld_o, hgs_st_o, hgs_ld_b, hgs_st_b, hgs_ld_z, hgs_st_z, hgs_al_b, hgx_alen_s, hgWf_SI, hgWf_SJ, hgO_SI, hgO_SJ, hgAr_SI, hgAr_SJ, hgRp_SI, hgRp_SJ, hgN_SI, hgN_SJ, hgO_g, hgO_d, hgO_rl, hgO_r, hgO_0, hgO_1, hgO_64, hgO_298, hgO_300, hgCd_0, hgCd_1, hgCd_2, hgCd_3, hgCd_4, hgCd_5, hgRecv_O, hgRecv_99, List.length_cons, List.length_nil, Nat.zero_add, Nat.add_zero, Nat.le_refl, Nat.zero_le, and_self, or_true, true_or, true_and, and_true, ne_eq, not_false_eq_true, Nat.reduceLT, Nat.reduceLeDiff, Nat.reduceAdd, Nat.reduceEqDiff, hgn_eq, hgn_lt, hgn_le, if_true, if_false, reduceIte, Nat.not_lt_zero, hgn_add, hgn_mul, hw, hgAr_302 hw, e3]
  rw [hgu204_16]
  simp (maxDischargeDepth := 7) only [hgM_t, hgM_f, hgM_n, hgx_aload_n_0, hgx_iconst_0, hgx_put0, hgs_get_8_8, hgx_iconst_3, hgx_i2l, hgx_lstore_n_1i, hgx_lstore_n_1r, hgx_lstore_n_1f, hgx_lstore_n_1n, hgx_lstore_n_1l, hgx_bipush_7, hgx_istore_n_3i, hgx_istore_n_3r, hgx_istore_n_3f, hgx_istore_n_3n, hgx_istore_n_3l, hgx_iload_n_3, hgx_bipush_9, hgx_ic_gt, hgx_ldc2_0, hgx_lload_n_1, hgx_lmul, hgx_ladd, hgx_iinc_3_1, hgx_goto, hgx_ic_ge, hgx_invstatic_1, hgx_aft_e, hgx_aft_i, hgx_aft_l, hgx_aft_v, hgx_iconst_4, hgx_iadd, hgx_iconst_1, hgx_invvirtual_2, hgs_get_8_12, hgx_bipush_127, hgx_lret, hgv204_0, hgr204_0, hgu204_0, hgv204_16, hgr204_16, hgv204_42, hgr204_42, hgu204_42, hgv204_44, ← hgu204_44, hgv204_144, hgr204_144, hgu204_144, hgv204_147, ← hgu204_147, hgv204_180, hgr204_180, hgu204_180, hgs_aa_d, hgs_aa_r, hgs_aa_h, hgs_aa_m, hgs_aa_t, hgs_ld_wp, hgs_st_wp, hgs_ld_qf, hgs_st_qf, hgs_ld_qt, hgs_st_qt, hgs_ld_2, hgs_st_2, hgs_ld_3, hgs_st_3, hgs_ld_4, hgs_st_4, hgs_ld_301, hgs_st_301, hgs_ld_D, hgs_st_D, hgs_ld_s, hgs_ld_T, hgs_st_T, hgs_ld_o, hgs_st_o, hgs_ld_b, hgs_st_b, hgs_ld_z, hgs_st_z, hgs_al_b, hgx_alen_s, hgWf_SI, hgWf_SJ, hgO_SI, hgO_SJ, hgAr_SI, hgAr_SJ, hgRp_SI, hgRp_SJ, hgN_SI, hgN_SJ, hgO_g, hgO_d, hgO_rl, hgO_r, hgO_0, hgO_1, hgO_64, hgO_298, hgO_300, hgCd_0, hgCd_1, hgCd_2, hgCd_3, hgCd_4, hgCd_5, hgRecv_O, hgRecv_99, List.length_cons, List.length_nil, Nat.zero_add, Nat.add_zero, Nat.le_refl, Nat.zero_le, and_self, or_true, true_or, true_and, and_true, ne_eq, not_false_eq_true, Nat.reduceLT, Nat.reduceLeDiff, Nat.reduceAdd, Nat.reduceEqDiff, hgn_eq, hgn_lt, hgn_le, if_true, if_false, reduceIte, Nat.not_lt_zero, hgn_add, hgn_mul, hw, hgAr_302 hw, e7]
  rw [hgu204_16]
  simp (maxDischargeDepth := 7) only [hgM_t, hgM_f, hgM_n, hgx_aload_n_0, hgx_iconst_0, hgx_put0, hgs_get_8_8, hgx_iconst_3, hgx_i2l, hgx_lstore_n_1i, hgx_lstore_n_1r, hgx_lstore_n_1f, hgx_lstore_n_1n, hgx_lstore_n_1l, hgx_bipush_7, hgx_istore_n_3i, hgx_istore_n_3r, hgx_istore_n_3f, hgx_istore_n_3n, hgx_istore_n_3l, hgx_iload_n_3, hgx_bipush_9, hgx_ic_gt, hgx_ldc2_0, hgx_lload_n_1, hgx_lmul, hgx_ladd, hgx_iinc_3_1, hgx_goto, hgx_ic_ge, hgx_invstatic_1, hgx_aft_e, hgx_aft_i, hgx_aft_l, hgx_aft_v, hgx_iconst_4, hgx_iadd, hgx_iconst_1, hgx_invvirtual_2, hgs_get_8_12, hgx_bipush_127, hgx_lret, hgv204_0, hgr204_0, hgu204_0, hgv204_16, hgr204_16, hgv204_42, hgr204_42, hgu204_42, hgv204_44, ← hgu204_44, hgv204_144, hgr204_144, hgu204_144, hgv204_147, ← hgu204_147, hgv204_180, hgr204_180, hgu204_180, hgs_aa_d, hgs_aa_r, hgs_aa_h, hgs_aa_m, hgs_aa_t, hgs_ld_wp, hgs_st_wp, hgs_ld_qf, hgs_st_qf, hgs_ld_qt, hgs_st_qt, hgs_ld_2, hgs_st_2, hgs_ld_3, hgs_st_3, hgs_ld_4, hgs_st_4, hgs_ld_301, hgs_st_301, hgs_ld_D, hgs_st_D, hgs_ld_s, hgs_ld_T, hgs_st_T, hgs_ld_o, hgs_st_o, hgs_ld_b, hgs_st_b, hgs_ld_z, hgs_st_z, hgs_al_b, hgx_alen_s, hgWf_SI, hgWf_SJ, hgO_SI, hgO_SJ, hgAr_SI, hgAr_SJ, hgRp_SI, hgRp_SJ, hgN_SI, hgN_SJ, hgO_g, hgO_d, hgO_rl, hgO_r, hgO_0, hgO_1, hgO_64, hgO_298, hgO_300, hgCd_0, hgCd_1, hgCd_2, hgCd_3, hgCd_4, hgCd_5, hgRecv_O, hgRecv_99, List.length_cons, List.length_nil, Nat.zero_add, Nat.add_zero, Nat.le_refl, Nat.zero_le, and_self, or_true, true_or, true_and, and_true, ne_eq, not_false_eq_true, Nat.reduceLT, Nat.reduceLeDiff, Nat.reduceAdd, Nat.reduceEqDiff, hgn_eq, hgn_lt, hgn_le, if_true, if_false, reduceIte, Nat.not_lt_zero, hgn_add, hgn_mul, hw, hgAr_302 hw, e8]
  rw [hgu204_16]
  simp (maxDischargeDepth := 7) only [hgM_t, hgM_f, hgM_n, hgx_aload_n_0, hgx_iconst_0, hgx_put0, hgs_get_8_8, hgx_iconst_3, hgx_i2l, hgx_lstore_n_1i, hgx_lstore_n_1r, hgx_lstore_n_1f, hgx_lstore_n_1n, hgx_lstore_n_1l, hgx_bipush_7, hgx_istore_n_3i, hgx_istore_n_3r, hgx_istore_n_3f, hgx_istore_n_3n, hgx_istore_n_3l, hgx_iload_n_3, hgx_bipush_9, hgx_ic_gt, hgx_ldc2_0, hgx_lload_n_1, hgx_lmul, hgx_ladd, hgx_iinc_3_1, hgx_goto, hgx_ic_ge, hgx_invstatic_1, hgx_aft_e, hgx_aft_i, hgx_aft_l, hgx_aft_v, hgx_iconst_4, hgx_iadd, hgx_iconst_1, hgx_invvirtual_2, hgs_get_8_12, hgx_bipush_127, hgx_lret, hgv204_0, hgr204_0, hgu204_0, hgv204_16, hgr204_16, hgv204_42, hgr204_42, hgu204_42, hgv204_44, ← hgu204_44, hgv204_144, hgr204_144, hgu204_144, hgv204_147, ← hgu204_147, hgv204_180, hgr204_180, hgu204_180, hgs_aa_d, hgs_aa_r, hgs_aa_h, hgs_aa_m, hgs_aa_t, hgs_ld_wp, hgs_st_wp, hgs_ld_qf, hgs_st_qf, hgs_ld_qt, hgs_st_qt, hgs_ld_2, hgs_st_2, hgs_ld_3, hgs_st_3, hgs_ld_4, hgs_st_4, hgs_ld_301, hgs_st_301, hgs_ld_D, hgs_st_D, hgs_ld_s, hgs_ld_T, hgs_st_T, hgs_ld_o, hgs_st_o, hgs_ld_b, hgs_st_b, hgs_ld_z, hgs_st_z, hgs_al_b, hgx_alen_s, hgWf_SI, hgWf_SJ, hgO_SI, hgO_SJ, hgAr_SI, hgAr_SJ, hgRp_SI, hgRp_SJ, hgN_SI, hgN_SJ, hgO_g, hgO_d, hgO_rl, hgO_r, hgO_0, hgO_1, hgO_64, hgO_298, hgO_300, hgCd_0, hgCd_1, hgCd_2, hgCd_3, hgCd_4, hgCd_5, hgRecv_O, hgRecv_99, List.length_cons, List.length_nil, Nat.zero_add, Nat.add_zero, Nat.le_refl, Nat.zero_le, and_self, or_true, true_or, true_and, and_true, ne_eq, not_false_eq_true, Nat.reduceLT, Nat.reduceLeDiff, Nat.reduceAdd, Nat.reduceEqDiff, hgn_eq, hgn_lt, hgn_le, if_true, if_false, reduceIte, Nat.not_lt_zero, hgn_add, hgn_mul, hw, hgAr_302 hw, e9]
  rw [hgu204_16]
  simp (maxDischargeDepth := 7) only [hgM_t, hgM_f, hgM_n, hgx_aload_n_0, hgx_iconst_0, hgx_put0, hgs_get_8_8, hgx_iconst_3, hgx_i2l, hgx_lstore_n_1i, hgx_lstore_n_1r, hgx_lstore_n_1f, hgx_lstore_n_1n, hgx_lstore_n_1l, hgx_bipush_7, hgx_istore_n_3i, hgx_istore_n_3r, hgx_istore_n_3f, hgx_istore_n_3n, hgx_istore_n_3l, hgx_iload_n_3, hgx_bipush_9, hgx_ic_gt, hgx_ldc2_0, hgx_lload_n_1, hgx_lmul, hgx_ladd, hgx_iinc_3_1, hgx_goto, hgx_ic_ge, hgx_invstatic_1, hgx_aft_e, hgx_aft_i, hgx_aft_l, hgx_aft_v, hgx_iconst_4, hgx_iadd, hgx_iconst_1, hgx_invvirtual_2, hgs_get_8_12, hgx_bipush_127, hgx_lret, hgv204_0, hgr204_0, hgu204_0, hgv204_16, hgr204_16, hgv204_42, hgr204_42, hgu204_42, hgv204_44, ← hgu204_44, hgv204_144, hgr204_144, hgu204_144, hgv204_147, ← hgu204_147, hgv204_180, hgr204_180, hgu204_180, hgs_aa_d, hgs_aa_r, hgs_aa_h, hgs_aa_m, hgs_aa_t, hgs_ld_wp, hgs_st_wp, hgs_ld_qf, hgs_st_qf, hgs_ld_qt, hgs_st_qt, hgs_ld_2, hgs_st_2, hgs_ld_3, hgs_st_3, hgs_ld_4, hgs_st_4, hgs_ld_301, hgs_st_301, hgs_ld_D, hgs_st_D, hgs_ld_s, hgs_ld_T, hgs_st_T, hgs_ld_o, hgs_st_o, hgs_ld_b, hgs_st_b, hgs_ld_z, hgs_st_z, hgs_al_b, hgx_alen_s, hgWf_SI, hgWf_SJ, hgO_SI, hgO_SJ, hgAr_SI, hgAr_SJ, hgRp_SI, hgRp_SJ, hgN_SI, hgN_SJ, hgO_g, hgO_d, hgO_rl, hgO_r, hgO_0, hgO_1, hgO_64, hgO_298, hgO_300, hgCd_0, hgCd_1, hgCd_2, hgCd_3, hgCd_4, hgCd_5, hgRecv_O, hgRecv_99, List.length_cons, List.length_nil, Nat.zero_add, Nat.add_zero, Nat.le_refl, Nat.zero_le, and_self, or_true, true_or, true_and, and_true, ne_eq, not_false_eq_true, Nat.reduceLT, Nat.reduceLeDiff, Nat.reduceAdd, Nat.reduceEqDiff, hgn_eq, hgn_lt, hgn_le, if_true, if_false, reduceIte, Nat.not_lt_zero, hgn_add, hgn_mul, hw, hgAr_302 hw]
  exact k
/-- two calls with a long answer -/
def hgAl (X : hgX) (l : Nat) (la : List Value) (r : Nat) (ra : List Value) (M : hgMem) (N : Nat) : Prop := ∃ a M1 M2, hgWC X l la M = some (.inl (.long a), M1) ∧ hgWC X r ra M1 = some (.inl (.long a), M2) ∧ hgWf M1 ∧ hgInv M2 (N + 1)
theorem hgOp_115 (h : hgInv M N) : hgAl X 115 [.ref 0] 204 [.ref 300] M N := by
  obtain ⟨V, Hs, c, hc, hC, hR, hH, hb⟩ := h
  obtain ⟨hw, g6, _, _, _, _⟩ := hgSC_6 hC
  have k30 := hgCV_30 (X := X) hw hC.2.2.2.2.1 hC.2.2.1
  have k1 : hgWC X 115 [.ref 0] M = some (.inl (.long (vSum V)), M) := by
    simp (maxDischargeDepth := 7) only [hgc115, hgM_t, hgM_f, hgM_n, hgx_aload_n_0, hgs_get_7_3, hgx_invvirtual_1, hgx_aft_e, hgx_aft_i, hgx_aft_l, hgx_aft_v, hgx_lret, hgv115_0, hgr115_0, hgu115_0, hgI_SI, hgI_SJ, hgJ_SI, hgJ_SJ, if_true, if_false, reduceIte, Nat.reduceEqDiff, hgWf_SI, hgWf_SJ, hgO_SI, hgO_SJ, hgAr_SI, hgAr_SJ, hgRp_SI, hgRp_SJ, hgN_SI, hgN_SJ, hgO_g, hgO_d, hgO_rl, hgO_r, hgO_0, hgO_1, hgO_64, hgO_298, hgO_300, hgCd_0, hgCd_1, hgCd_2, hgCd_3, hgCd_4, hgCd_5, hgRecv_O, hgRecv_99, List.length_cons, List.length_nil, Nat.zero_add, Nat.add_zero, Nat.le_refl, Nat.zero_le, and_self, or_true, true_or, true_and, and_true, ne_eq, not_false_eq_true, Nat.reduceLT, Nat.reduceLeDiff, Nat.reduceAdd, Nat.reduceEqDiff, hgn_eq, hgn_lt, hgn_le, if_true, if_false, reduceIte, Nat.not_lt_zero, hw, g6, k30]
  exact ⟨_, _, _, k1, hgRV_204 hR, hw, hgInv_2 hb hC hgFC_r (hgSM_0 hR) hgFR_0 hH (by omega)⟩
end HGSUM

/-! WORDS AND NUMBERS, the reference's; what its draft holds. -/
def sGrp (t : hgTxt) (p : Nat) : Option Nat := if tWd t p [104, 111, 109, 101] = true then some 0 else if tWd t p [103, 117, 101, 115, 116] = true then some 1 else if tWd t p [105, 111, 116] = true then some 2 else none
section HGRT2
variable {X : hgX} {M M' M0 M1 M2 M3 Mo : hgMem} {t : hgTxt} {i j k a b n p q N l s lo hi g d c m : Nat} {x y : Int32} {D V : hgV} {f f' : Nat → Bool} {A : List Value} {z : hgPt} {e : Int32 × Nat} {r : hgQt} {w : List Nat}
theorem hgStr_c (hs : s < 12) : ∀ k c : Nat, (hgStr.getD s [])[k]? = some c → 97 ≤ c ∧ c ≤ 122 := fun k c hk => by
  obtain ⟨l7, lc⟩ := hgStr_l s hs
  obtain ⟨h1, h2⟩ := List.getElem?_eq_some_iff.mp hk
  have h3 := lc k h1
  have h4 : (hgStr.getD s []).getD k 0 = c := by
    show ((hgStr.getD s [])[k]?).getD 0 = c
    rw [hk]
    rfl
  rw [h4] at h3
  exact h3
theorem tWd_k (h : tSk t q = tSk t p) : tWd t q w = tWd t p w := by unfold tWd; rw [h]
theorem hgk_141 (h : hgRr M t p) (hs : s < 12) : ∃ M', hgWC X 141 [.ref 300, .ref (1000 + s)] M = some (.inl (.int (hgB (tWd t p (hgStr.getD s [])))), M') ∧ hgRr M' t (if tWd t p (hgStr.getD s []) = true then tWe t (tSk t p) else tSk t p) ∧ hgFg M M' := by
  have hw := h.1
  have k136 := hgk_136g (X := X) h
  obtain ⟨M1, e1, r1, f1⟩ := hgk_138 (X := X) h
  have w1 := r1.1
  have h4 := r1.2.2.1
  have l9 := h.2.2.2.2.1
  have sk := tSk_f h.2.2.2.1
  obtain ⟨l7, lc⟩ := hgStr_l s hs
  have kl := hgk_141l (X := X) r1 hs (hgStr.getD s []).length 0 (by omega) (by omega)
  rw [List.drop_zero, Nat.add_zero] at kl
  have iff := tIs_n (t := t) sk.2.1 (hgStr_c hs)
  have b2 : (hgStr.getD s []).length < 2147483648 := by omega
  by_cases C : tSk t p + (hgStr.getD s []).length ≤ t.2 ∧ tMw t (tSk t p) (hgStr.getD s []) = true
  · rw [if_pos C] at kl
    have k135 := hgk_135 (X := X) r1 (show tSk t p + (hgStr.getD s []).length < 2000 by omega)
    have k139 := hgk_139 (X := X) (M := M1) (x := tBy t (tSk t p + (hgStr.getD s []).length))
    rw [tBy_t r1] at k139
    cases L : (decide (tSk t p + (hgStr.getD s []).length < t.2) && (decide (97 ≤ t.1 (tSk t p + (hgStr.getD s []).length)) && decide (t.1 (tSk t p + (hgStr.getD s []).length) ≤ 122))) with
    | true =>
      rw [L, hgB_t] at k139
      rw [Bool.and_eq_true, Bool.and_eq_true, decide_eq_true_iff, decide_eq_true_iff, decide_eq_true_iff] at L
      have F : tWd t p (hgStr.getD s []) = false := Bool.eq_false_iff.mpr (fun z => (iff.mp z).2.2 L.1 L.2)
      rw [F, hgB_f]
      refine ⟨M1, ?_, r1, f1⟩
      simp (maxDischargeDepth := 7) only [hgc141, hgM_t, hgM_f, hgM_n, hgx_aload_n_0, hgx_invvirtual_1, hgx_aft_e, hgx_aft_i, hgx_aft_l, hgx_aft_v, hgx_if_ne, hgx_iconst_0, hgx_ret3, hgx_pop_i, hgx_pop_f, hgx_pop_r, hgx_istore_n_2i, hgx_istore_n_2r, hgx_istore_n_2f, hgx_istore_n_2n, hgx_istore_n_2l, hgx_iload_n_2, hgx_aload_n_1, hgx_len, hgx_ic_ge, hgx_get0, hgx_iadd, hgx_invvirtual_2, hgx_chr, hgx_ic_eq, hgx_iinc_2_1, hgx_goto, hgx_invstatic_1, hgx_if_eq, hgx_dup_i, hgx_dup_f, hgx_dup_r, hgx_put0, hgx_iconst_1, hgv141_0, hgr141_0, hgu141_0, hgv141_9, hgr141_9, hgu141_9, hgv141_16, ← hgu141_16, hgv141_44, hgr141_44, hgu141_44, hgv141_50, hgr141_50, hgu141_50, hgv141_71, hgr141_71, hgu141_71, hgI_SI, hgI_SJ, hgJ_SI, hgJ_SJ, if_true, if_false, reduceIte, Nat.reduceEqDiff, hgWf_SI, hgWf_SJ, hgO_SI, hgO_SJ, hgAr_SI, hgAr_SJ, hgRp_SI, hgRp_SJ, hgN_SI, hgN_SJ, hgO_g, hgO_d, hgO_rl, hgO_r, hgO_0, hgO_1, hgO_64, hgO_298, hgO_300, hgCd_0, hgCd_1, hgCd_2, hgCd_3, hgCd_4, hgCd_5, hgRecv_O, hgRecv_99, List.length_cons, List.length_nil, Nat.zero_add, Nat.add_zero, Nat.le_refl, Nat.zero_le, and_self, or_true, true_or, true_and, and_true, ne_eq, not_false_eq_true, Nat.reduceLT, Nat.reduceLeDiff, Nat.reduceAdd, Nat.reduceEqDiff, hgn_eq, hgn_lt, hgn_le, if_true, if_false, reduceIte, Nat.not_lt_zero, hw, k136, e1]
      refine kl.trans ?_
      rw [hgu141_50]
      simp (maxDischargeDepth := 7) only [hgM_t, hgM_f, hgM_n, hgx_aload_n_0, hgx_invvirtual_1, hgx_aft_e, hgx_aft_i, hgx_aft_l, hgx_aft_v, hgx_if_ne, hgx_iconst_0, hgx_ret3, hgx_pop_i, hgx_pop_f, hgx_pop_r, hgx_istore_n_2i, hgx_istore_n_2r, hgx_istore_n_2f, hgx_istore_n_2n, hgx_istore_n_2l, hgx_iload_n_2, hgx_aload_n_1, hgx_len, hgx_ic_ge, hgx_get0, hgx_iadd, hgx_invvirtual_2, hgx_chr, hgx_ic_eq, hgx_iinc_2_1, hgx_goto, hgx_invstatic_1, hgx_if_eq, hgx_dup_i, hgx_dup_f, hgx_dup_r, hgx_put0, hgx_iconst_1, hgv141_0, hgr141_0, hgu141_0, hgv141_9, hgr141_9, hgu141_9, hgv141_16, ← hgu141_16, hgv141_44, hgr141_44, hgu141_44, hgv141_50, hgr141_50, hgu141_50, hgv141_71, hgr141_71, hgu141_71, hgI_SI, hgI_SJ, hgJ_SI, hgJ_SJ, if_true, if_false, reduceIte, Nat.reduceEqDiff, hgWf_SI, hgWf_SJ, hgO_SI, hgO_SJ, hgAr_SI, hgAr_SJ, hgRp_SI, hgRp_SJ, hgN_SI, hgN_SJ, hgO_g, hgO_d, hgO_rl, hgO_r, hgO_0, hgO_1, hgO_64, hgO_298, hgO_300, hgCd_0, hgCd_1, hgCd_2, hgCd_3, hgCd_4, hgCd_5, hgRecv_O, hgRecv_99, List.length_cons, List.length_nil, Nat.zero_add, Nat.add_zero, Nat.le_refl, Nat.zero_le, and_self, or_true, true_or, true_and, and_true, ne_eq, not_false_eq_true, Nat.reduceLT, Nat.reduceLeDiff, Nat.reduceAdd, Nat.reduceEqDiff, hgn_eq, hgn_lt, hgn_le, if_true, if_false, reduceIte, Nat.not_lt_zero, hgn_add, hgn_mul, w1, h4, hs, k135, k139]
    | false =>
      rw [L, hgB_f] at k139
      have T : tWd t p (hgStr.getD s []) = true := iff.mpr ⟨C.1, C.2, fun z1 z2 => by
        rw [decide_eq_true z1, decide_eq_true z2.1, decide_eq_true z2.2] at L
        cases L⟩
      have te : tWe t (tSk t p) = tSk t p + (hgStr.getD s []).length := by
        have T2 := T
        unfold tWd tIs at T2
        rw [Bool.and_eq_true, decide_eq_true_iff] at T2
        exact T2.1
      rw [T, hgB_t, if_pos rfl, te]
      refine ⟨hgSI M1 300 4 (nI (tSk t p + (hgStr.getD s []).length)), ?_, hgRr_p r1 C.1, hgFg_s f1 (by omega)⟩
      simp (maxDischargeDepth := 7) only [hgc141, hgM_t, hgM_f, hgM_n, hgx_aload_n_0, hgx_invvirtual_1, hgx_aft_e, hgx_aft_i, hgx_aft_l, hgx_aft_v, hgx_if_ne, hgx_iconst_0, hgx_ret3, hgx_pop_i, hgx_pop_f, hgx_pop_r, hgx_istore_n_2i, hgx_istore_n_2r, hgx_istore_n_2f, hgx_istore_n_2n, hgx_istore_n_2l, hgx_iload_n_2, hgx_aload_n_1, hgx_len, hgx_ic_ge, hgx_get0, hgx_iadd, hgx_invvirtual_2, hgx_chr, hgx_ic_eq, hgx_iinc_2_1, hgx_goto, hgx_invstatic_1, hgx_if_eq, hgx_dup_i, hgx_dup_f, hgx_dup_r, hgx_put0, hgx_iconst_1, hgv141_0, hgr141_0, hgu141_0, hgv141_9, hgr141_9, hgu141_9, hgv141_16, ← hgu141_16, hgv141_44, hgr141_44, hgu141_44, hgv141_50, hgr141_50, hgu141_50, hgv141_71, hgr141_71, hgu141_71, hgI_SI, hgI_SJ, hgJ_SI, hgJ_SJ, if_true, if_false, reduceIte, Nat.reduceEqDiff, hgWf_SI, hgWf_SJ, hgO_SI, hgO_SJ, hgAr_SI, hgAr_SJ, hgRp_SI, hgRp_SJ, hgN_SI, hgN_SJ, hgO_g, hgO_d, hgO_rl, hgO_r, hgO_0, hgO_1, hgO_64, hgO_298, hgO_300, hgCd_0, hgCd_1, hgCd_2, hgCd_3, hgCd_4, hgCd_5, hgRecv_O, hgRecv_99, List.length_cons, List.length_nil, Nat.zero_add, Nat.add_zero, Nat.le_refl, Nat.zero_le, and_self, or_true, true_or, true_and, and_true, ne_eq, not_false_eq_true, Nat.reduceLT, Nat.reduceLeDiff, Nat.reduceAdd, Nat.reduceEqDiff, hgn_eq, hgn_lt, hgn_le, if_true, if_false, reduceIte, Nat.not_lt_zero, hw, k136, e1]
      refine kl.trans ?_
      rw [hgu141_50]
      simp (maxDischargeDepth := 7) only [hgM_t, hgM_f, hgM_n, hgx_aload_n_0, hgx_invvirtual_1, hgx_aft_e, hgx_aft_i, hgx_aft_l, hgx_aft_v, hgx_if_ne, hgx_iconst_0, hgx_ret3, hgx_pop_i, hgx_pop_f, hgx_pop_r, hgx_istore_n_2i, hgx_istore_n_2r, hgx_istore_n_2f, hgx_istore_n_2n, hgx_istore_n_2l, hgx_iload_n_2, hgx_aload_n_1, hgx_len, hgx_ic_ge, hgx_get0, hgx_iadd, hgx_invvirtual_2, hgx_chr, hgx_ic_eq, hgx_iinc_2_1, hgx_goto, hgx_invstatic_1, hgx_if_eq, hgx_dup_i, hgx_dup_f, hgx_dup_r, hgx_put0, hgx_iconst_1, hgv141_0, hgr141_0, hgu141_0, hgv141_9, hgr141_9, hgu141_9, hgv141_16, ← hgu141_16, hgv141_44, hgr141_44, hgu141_44, hgv141_50, hgr141_50, hgu141_50, hgv141_71, hgr141_71, hgu141_71, hgI_SI, hgI_SJ, hgJ_SI, hgJ_SJ, if_true, if_false, reduceIte, Nat.reduceEqDiff, hgWf_SI, hgWf_SJ, hgO_SI, hgO_SJ, hgAr_SI, hgAr_SJ, hgRp_SI, hgRp_SJ, hgN_SI, hgN_SJ, hgO_g, hgO_d, hgO_rl, hgO_r, hgO_0, hgO_1, hgO_64, hgO_298, hgO_300, hgCd_0, hgCd_1, hgCd_2, hgCd_3, hgCd_4, hgCd_5, hgRecv_O, hgRecv_99, List.length_cons, List.length_nil, Nat.zero_add, Nat.add_zero, Nat.le_refl, Nat.zero_le, and_self, or_true, true_or, true_and, and_true, ne_eq, not_false_eq_true, Nat.reduceLT, Nat.reduceLeDiff, Nat.reduceAdd, Nat.reduceEqDiff, hgn_eq, hgn_lt, hgn_le, if_true, if_false, reduceIte, Nat.not_lt_zero, hgn_add, hgn_mul, w1, h4, hs, k135, k139]
  · rw [if_neg C] at kl
    have F : tWd t p (hgStr.getD s []) = false := Bool.eq_false_iff.mpr (fun z => C ⟨(iff.mp z).1, (iff.mp z).2.1⟩)
    rw [F, hgB_f]
    refine ⟨M1, ?_, r1, f1⟩
    simp (maxDischargeDepth := 7) only [hgc141, hgM_t, hgM_f, hgM_n, hgx_aload_n_0, hgx_invvirtual_1, hgx_aft_e, hgx_aft_i, hgx_aft_l, hgx_aft_v, hgx_if_ne, hgx_iconst_0, hgx_ret3, hgx_pop_i, hgx_pop_f, hgx_pop_r, hgx_istore_n_2i, hgx_istore_n_2r, hgx_istore_n_2f, hgx_istore_n_2n, hgx_istore_n_2l, hgx_iload_n_2, hgx_aload_n_1, hgx_len, hgx_ic_ge, hgx_get0, hgx_iadd, hgx_invvirtual_2, hgx_chr, hgx_ic_eq, hgx_iinc_2_1, hgx_goto, hgx_invstatic_1, hgx_if_eq, hgx_dup_i, hgx_dup_f, hgx_dup_r, hgx_put0, hgx_iconst_1, hgv141_0, hgr141_0, hgu141_0, hgv141_9, hgr141_9, hgu141_9, hgv141_16, ← hgu141_16, hgv141_44, hgr141_44, hgu141_44, hgv141_50, hgr141_50, hgu141_50, hgv141_71, hgr141_71, hgu141_71, hgI_SI, hgI_SJ, hgJ_SI, hgJ_SJ, if_true, if_false, reduceIte, Nat.reduceEqDiff, hgWf_SI, hgWf_SJ, hgO_SI, hgO_SJ, hgAr_SI, hgAr_SJ, hgRp_SI, hgRp_SJ, hgN_SI, hgN_SJ, hgO_g, hgO_d, hgO_rl, hgO_r, hgO_0, hgO_1, hgO_64, hgO_298, hgO_300, hgCd_0, hgCd_1, hgCd_2, hgCd_3, hgCd_4, hgCd_5, hgRecv_O, hgRecv_99, List.length_cons, List.length_nil, Nat.zero_add, Nat.add_zero, Nat.le_refl, Nat.zero_le, and_self, or_true, true_or, true_and, and_true, ne_eq, not_false_eq_true, Nat.reduceLT, Nat.reduceLeDiff, Nat.reduceAdd, Nat.reduceEqDiff, hgn_eq, hgn_lt, hgn_le, if_true, if_false, reduceIte, Nat.not_lt_zero, hw, k136, e1]
    exact kl
theorem hgk_141a (h : hgRr M t q) (hq : tSk t q = tSk t p) (hs : s < 12) (ht : tWd t p (hgStr.getD s []) = true) : ∃ M', hgWC X 141 [.ref 300, .ref (1000 + s)] M = some (.inl (.int (nI 1)), M') ∧ hgRr M' t (tWe t (tSk t p)) ∧ hgFg M M' := by
  have k := hgk_141 (X := X) h hs
  rw [tWd_k hq, ht, hq, hgB_t, if_pos rfl] at k
  exact k
theorem hgk_141b (h : hgRr M t q) (hq : tSk t q = tSk t p) (hs : s < 12) (ht : tWd t p (hgStr.getD s []) = false) : ∃ M', hgWC X 141 [.ref 300, .ref (1000 + s)] M = some (.inl (.int (nI 0)), M') ∧ hgRr M' t (tSk t p) ∧ hgFg M M' := by
  have k := hgk_141 (X := X) h hs
  rw [tWd_k hq, ht, hq, hgB_f, if_neg (by decide)] at k
  exact k
theorem hgk_141e {u : Nat} (h : hgEm M e) : hgWC X 141 [.ref 300, .ref u] M = some (.inl (.int (nI 0)), M) := by
  have hw := h.1
  have k136 := hgk_136e (X := X) h
  simp (maxDischargeDepth := 7) only [hgc141, hgM_t, hgM_f, hgM_n, hgx_aload_n_0, hgx_invvirtual_1, hgx_aft_e, hgx_aft_i, hgx_aft_l, hgx_aft_v, hgx_if_ne, hgx_iconst_0, hgx_ret3, hgx_pop_i, hgx_pop_f, hgx_pop_r, hgx_istore_n_2i, hgx_istore_n_2r, hgx_istore_n_2f, hgx_istore_n_2n, hgx_istore_n_2l, hgx_iload_n_2, hgx_aload_n_1, hgx_len, hgx_ic_ge, hgx_get0, hgx_iadd, hgx_invvirtual_2, hgx_chr, hgx_ic_eq, hgx_iinc_2_1, hgx_goto, hgx_invstatic_1, hgx_if_eq, hgx_dup_i, hgx_dup_f, hgx_dup_r, hgx_put0, hgx_iconst_1, hgv141_0, hgr141_0, hgu141_0, hgv141_9, hgr141_9, hgu141_9, hgv141_16, ← hgu141_16, hgv141_44, hgr141_44, hgu141_44, hgv141_50, hgr141_50, hgu141_50, hgv141_71, hgr141_71, hgu141_71, hgI_SI, hgI_SJ, hgJ_SI, hgJ_SJ, if_true, if_false, reduceIte, Nat.reduceEqDiff, hgWf_SI, hgWf_SJ, hgO_SI, hgO_SJ, hgAr_SI, hgAr_SJ, hgRp_SI, hgRp_SJ, hgN_SI, hgN_SJ, hgO_g, hgO_d, hgO_rl, hgO_r, hgO_0, hgO_1, hgO_64, hgO_298, hgO_300, hgCd_0, hgCd_1, hgCd_2, hgCd_3, hgCd_4, hgCd_5, hgRecv_O, hgRecv_99, List.length_cons, List.length_nil, Nat.zero_add, Nat.add_zero, Nat.le_refl, Nat.zero_le, and_self, or_true, true_or, true_and, and_true, ne_eq, not_false_eq_true, Nat.reduceLT, Nat.reduceLeDiff, Nat.reduceAdd, Nat.reduceEqDiff, hgn_eq, hgn_lt, hgn_le, if_true, if_false, reduceIte, Nat.not_lt_zero, hw, k136]
theorem hgk_142e (h : hgEm M e) : hgWC X 142 [.ref 300, .int x] M = some (.inl .null, M) := by
  have hw := h.1
  have k136 := hgk_136e (X := X) h
  simp (maxDischargeDepth := 7) only [hgc142, hgM_t, hgM_f, hgM_n, hgx_aload_n_0, hgx_invvirtual_1, hgx_aft_e, hgx_aft_i, hgx_aft_l, hgx_aft_v, hgx_if_ne, hgx_vret, hgx_iload_n_1, hgx_ic_eq, hgx_bipush_m2, hgx_get0, hgx_invvirtual_3, hgx_dup_i, hgx_dup_f, hgx_dup_r, hgx_iconst_1, hgx_iadd, hgx_put0, hgv142_0, hgr142_0, hgu142_0, hgv142_8, hgr142_8, hgu142_8, hgv142_27, hgr142_27, hgu142_27, hgI_SI, hgI_SJ, hgJ_SI, hgJ_SJ, if_true, if_false, reduceIte, Nat.reduceEqDiff, hgWf_SI, hgWf_SJ, hgO_SI, hgO_SJ, hgAr_SI, hgAr_SJ, hgRp_SI, hgRp_SJ, hgN_SI, hgN_SJ, hgO_g, hgO_d, hgO_rl, hgO_r, hgO_0, hgO_1, hgO_64, hgO_298, hgO_300, hgCd_0, hgCd_1, hgCd_2, hgCd_3, hgCd_4, hgCd_5, hgRecv_O, hgRecv_99, List.length_cons, List.length_nil, Nat.zero_add, Nat.add_zero, Nat.le_refl, Nat.zero_le, and_self, or_true, true_or, true_and, and_true, ne_eq, not_false_eq_true, Nat.reduceLT, Nat.reduceLeDiff, Nat.reduceAdd, Nat.reduceEqDiff, hgn_eq, hgn_lt, hgn_le, if_true, if_false, reduceIte, Nat.not_lt_zero, hw, k136]
theorem hgk_142a (h : hgRr M t p) (ht : tSc t p = true) : ∃ M', hgWC X 142 [.ref 300, .int (nI 59)] M = some (.inl .null, M') ∧ hgRr M' t (tSk t p + 1) ∧ hgFg M M' := by
  unfold tSc at ht
  rw [Bool.and_eq_true, decide_eq_true_iff, decide_eq_true_iff] at ht
  have hw := h.1
  have k136 := hgk_136g (X := X) h
  obtain ⟨M1, e1, r1, f1⟩ := hgk_138 (X := X) h
  rw [tBy_l ht.1, ht.2] at e1
  have w1 := r1.1
  have h4 := r1.2.2.1
  refine ⟨hgSI M1 300 4 (nI (tSk t p + 1)), ?_, hgRr_p r1 (by omega), hgFg_s f1 (by omega)⟩
  simp (maxDischargeDepth := 7) only [hgc142, hgM_t, hgM_f, hgM_n, hgx_aload_n_0, hgx_invvirtual_1, hgx_aft_e, hgx_aft_i, hgx_aft_l, hgx_aft_v, hgx_if_ne, hgx_vret, hgx_iload_n_1, hgx_ic_eq, hgx_bipush_m2, hgx_get0, hgx_invvirtual_3, hgx_dup_i, hgx_dup_f, hgx_dup_r, hgx_iconst_1, hgx_iadd, hgx_put0, hgv142_0, hgr142_0, hgu142_0, hgv142_8, hgr142_8, hgu142_8, hgv142_27, hgr142_27, hgu142_27, hgI_SI, hgI_SJ, hgJ_SI, hgJ_SJ, if_true, if_false, reduceIte, Nat.reduceEqDiff, hgWf_SI, hgWf_SJ, hgO_SI, hgO_SJ, hgAr_SI, hgAr_SJ, hgRp_SI, hgRp_SJ, hgN_SI, hgN_SJ, hgO_g, hgO_d, hgO_rl, hgO_r, hgO_0, hgO_1, hgO_64, hgO_298, hgO_300, hgCd_0, hgCd_1, hgCd_2, hgCd_3, hgCd_4, hgCd_5, hgRecv_O, hgRecv_99, List.length_cons, List.length_nil, Nat.zero_add, Nat.add_zero, Nat.le_refl, Nat.zero_le, and_self, or_true, true_or, true_and, and_true, ne_eq, not_false_eq_true, Nat.reduceLT, Nat.reduceLeDiff, Nat.reduceAdd, Nat.reduceEqDiff, hgn_eq, hgn_lt, hgn_le, if_true, if_false, reduceIte, Nat.not_lt_zero, hgn_add, hgn_mul, hw, k136, e1, w1, h4]
theorem hgk_142b (h : hgRr M t p) (ht : tSc t p = false) : ∃ M', hgWC X 142 [.ref 300, .int (nI 59)] M = some (.inl .null, M') ∧ hgEm M' (-2, tSk t p) ∧ hgFh M M' := by
  have hw := h.1
  have k136 := hgk_136g (X := X) h
  obtain ⟨M1, e1, r1, f1⟩ := hgk_138 (X := X) h
  have w1 := r1.1
  have h4 := r1.2.2.1
  have ne : ¬ tBy t (tSk t p) = nI 59 := by
    unfold tSc at ht
    by_cases hl : tSk t p < t.2
    · have b := (h.2.2.2.2.2.2 _ hl).2
      rw [tBy_l hl, hgn_eq (by omega) (by omega)]
      intro z
      rw [decide_eq_true hl, decide_eq_true z] at ht
      cases ht
    · rw [tBy_g hl]
      decide
  have k137 := hgk_137 (X := X) (x := -2) (y := nI (tSk t p)) r1
  refine ⟨_, ?_, hgEm_i r1 (Or.inl rfl), hgFh_s (hgFh_s (hgFh_g f1) (by omega)) (by omega)⟩
  simp (maxDischargeDepth := 7) only [hgc142, hgM_t, hgM_f, hgM_n, hgx_aload_n_0, hgx_invvirtual_1, hgx_aft_e, hgx_aft_i, hgx_aft_l, hgx_aft_v, hgx_if_ne, hgx_vret, hgx_iload_n_1, hgx_ic_eq, hgx_bipush_m2, hgx_get0, hgx_invvirtual_3, hgx_dup_i, hgx_dup_f, hgx_dup_r, hgx_iconst_1, hgx_iadd, hgx_put0, hgv142_0, hgr142_0, hgu142_0, hgv142_8, hgr142_8, hgu142_8, hgv142_27, hgr142_27, hgu142_27, hgI_SI, hgI_SJ, hgJ_SI, hgJ_SJ, if_true, if_false, reduceIte, Nat.reduceEqDiff, hgWf_SI, hgWf_SJ, hgO_SI, hgO_SJ, hgAr_SI, hgAr_SJ, hgRp_SI, hgRp_SJ, hgN_SI, hgN_SJ, hgO_g, hgO_d, hgO_rl, hgO_r, hgO_0, hgO_1, hgO_64, hgO_298, hgO_300, hgCd_0, hgCd_1, hgCd_2, hgCd_3, hgCd_4, hgCd_5, hgRecv_O, hgRecv_99, List.length_cons, List.length_nil, Nat.zero_add, Nat.add_zero, Nat.le_refl, Nat.zero_le, and_self, or_true, true_or, true_and, and_true, ne_eq, not_false_eq_true, Nat.reduceLT, Nat.reduceLeDiff, Nat.reduceAdd, Nat.reduceEqDiff, hgn_eq, hgn_lt, hgn_le, if_true, if_false, reduceIte, Nat.not_lt_zero, hgn_add, hgn_mul, hw, k136, e1, w1, h4, ne, k137]
theorem hgk_143l {x1 x2 : Int32} : ∀ (k p v : Nat) (M : hgMem), p + k = t.2 → hgRr M t p → ∃ M', hgW X 143 41 [some (.ref 300), some (.int x1), some (.int x2), some (.int (nI (min v 1000000)))] [] (0, 0) M = hgW X 143 90 [some (.ref 300), some (.int x1), some (.int x2), some (.int (nI (min (pDv t k p v).1 1000000)))] [] (0, 0) M' ∧ hgRr M' t (pDv t k p v).2 ∧ hgI M' 300 16 = hgI M 300 16 ∧ hgFg M M' := by
  intro k
  induction k with
  | zero =>
    intro p v M hp h
    have hw := h.1
    have h4 := h.2.2.1
    have k135 := hgk_135 (X := X) h (show p < 2000 by have := h.2.2.2.2.1; omega)
    have k140 := hgk_140 (X := X) (M := M) (x := tBy t p)
    have dg : tDg t p = false := by unfold tDg; rw [decide_eq_false (by omega), Bool.false_and]
    rw [tBy_d h, dg, hgB_f] at k140
    refine ⟨M, ?_, h, rfl, hgFg_r⟩
    rw [hgu143_41]
    simp (maxDischargeDepth := 7) only [hgM_t, hgM_f, hgM_n, hgx_aload_n_0, hgx_get0, hgx_invvirtual_2, hgx_aft_e, hgx_aft_i, hgx_aft_l, hgx_aft_v, hgx_invstatic_1, hgx_if_eq, hgx_ldc_i, hgx_bipush_10, hgx_iload_n_3, hgx_imul, hgx_iadd, hgx_bipush_48, hgx_isub, hgx_invstatic_2, hgx_istore_n_3i, hgx_istore_n_3r, hgx_istore_n_3f, hgx_istore_n_3n, hgx_istore_n_3l, hgx_dup_i, hgx_dup_f, hgx_dup_r, hgx_iconst_1, hgx_put0, hgx_goto, hgv143_41, hgr143_41, hgu143_41, hgv143_90, hgI_SI, hgI_SJ, hgJ_SI, hgJ_SJ, if_true, if_false, reduceIte, Nat.reduceEqDiff, hgWf_SI, hgWf_SJ, hgO_SI, hgO_SJ, hgAr_SI, hgAr_SJ, hgRp_SI, hgRp_SJ, hgN_SI, hgN_SJ, hgO_g, hgO_d, hgO_rl, hgO_r, hgO_0, hgO_1, hgO_64, hgO_298, hgO_300, hgCd_0, hgCd_1, hgCd_2, hgCd_3, hgCd_4, hgCd_5, hgRecv_O, hgRecv_99, List.length_cons, List.length_nil, Nat.zero_add, Nat.add_zero, Nat.le_refl, Nat.zero_le, and_self, or_true, true_or, true_and, and_true, ne_eq, not_false_eq_true, Nat.reduceLT, Nat.reduceLeDiff, Nat.reduceAdd, Nat.reduceEqDiff, hgn_eq, hgn_lt, hgn_le, if_true, if_false, reduceIte, Nat.not_lt_zero, hw, h4, k135, k140, pDv]
  | succ k ih =>
    intro p v M hp h
    have hw := h.1
    have h4 := h.2.2.1
    have hl : p < t.2 := by omega
    have k135 := hgk_135 (X := X) h (show p < 2000 by have := h.2.2.2.2.1; omega)
    have k140 := hgk_140 (X := X) (M := M) (x := tBy t p)
    rw [tBy_d h] at k140
    unfold tDg at k140
    rw [decide_eq_true hl, Bool.true_and] at k140
    unfold pDv
    by_cases e : 48 ≤ t.1 p ∧ t.1 p ≤ 57
    · rw [if_pos e]
      rw [decide_eq_true e.1, decide_eq_true e.2, Bool.and_self, hgB_t] at k140
      rw [tBy_l hl] at k140 k135
      have s1 : 48 ≤ 10 * min v 1000000 + t.1 p := by omega
      have mn : (if nI (10 * min v 1000000 + t.1 p - 48) ≤ nI 1000000 then nI (10 * min v 1000000 + t.1 p - 48) else nI 1000000) = nI (min (10 * v + (t.1 p - 48)) 1000000) := by
        by_cases c : 10 * min v 1000000 + t.1 p - 48 ≤ 1000000
        · rw [if_pos (by rw [hgn_le (by omega) (by omega)]; exact c)]
          congr 1
          omega
        · rw [if_neg (by rw [hgn_le (by omega) (by omega)]; exact c)]
          congr 1
          omega
      have k127 := hgk_127 (X := X) (M := M) (x := nI 1000000) (y := nI (10 * min v 1000000 + t.1 p - 48))
      rw [mn] at k127
      obtain ⟨M', e1, r1, r2, r3⟩ := ih (p + 1) (10 * v + (t.1 p - 48)) (hgSI M 300 4 (nI (p + 1))) (by omega) (hgRr_p h (by omega))
      refine ⟨M', ?_, r1, by rw [r2, hgI_nk (by omega)], hgFg_t (hgFg_s hgFg_r (by omega)) r3⟩
      refine Eq.trans ?_ e1
      rw [hgu143_41]
      simp (maxDischargeDepth := 7) only [hgM_t, hgM_f, hgM_n, hgx_aload_n_0, hgx_get0, hgx_invvirtual_2, hgx_aft_e, hgx_aft_i, hgx_aft_l, hgx_aft_v, hgx_invstatic_1, hgx_if_eq, hgx_ldc_i, hgx_bipush_10, hgx_iload_n_3, hgx_imul, hgx_iadd, hgx_bipush_48, hgx_isub, hgx_invstatic_2, hgx_istore_n_3i, hgx_istore_n_3r, hgx_istore_n_3f, hgx_istore_n_3n, hgx_istore_n_3l, hgx_dup_i, hgx_dup_f, hgx_dup_r, hgx_iconst_1, hgx_put0, hgx_goto, hgv143_41, hgr143_41, hgu143_41, hgv143_41, hgI_SI, hgI_SJ, hgJ_SI, hgJ_SJ, if_true, if_false, reduceIte, Nat.reduceEqDiff, hgWf_SI, hgWf_SJ, hgO_SI, hgO_SJ, hgAr_SI, hgAr_SJ, hgRp_SI, hgRp_SJ, hgN_SI, hgN_SJ, hgO_g, hgO_d, hgO_rl, hgO_r, hgO_0, hgO_1, hgO_64, hgO_298, hgO_300, hgCd_0, hgCd_1, hgCd_2, hgCd_3, hgCd_4, hgCd_5, hgRecv_O, hgRecv_99, List.length_cons, List.length_nil, Nat.zero_add, Nat.add_zero, Nat.le_refl, Nat.zero_le, and_self, or_true, true_or, true_and, and_true, ne_eq, not_false_eq_true, Nat.reduceLT, Nat.reduceLeDiff, Nat.reduceAdd, Nat.reduceEqDiff, hgn_eq, hgn_lt, hgn_le, if_true, if_false, reduceIte, Nat.not_lt_zero, hgn_add, hgn_mul, hw, h4, k135, k140, hgn_sub, s1, k127]
    · rw [if_neg e]
      have ef : (decide (48 ≤ t.1 p) && decide (t.1 p ≤ 57)) = false := by
        cases hb : (decide (48 ≤ t.1 p) && decide (t.1 p ≤ 57)) with
        | false => rfl
        | true =>
          rw [Bool.and_eq_true, decide_eq_true_iff, decide_eq_true_iff] at hb
          exact absurd hb e
      rw [ef, hgB_f] at k140
      refine ⟨M, ?_, h, rfl, hgFg_r⟩
      rw [hgu143_41]
      simp (maxDischargeDepth := 7) only [hgM_t, hgM_f, hgM_n, hgx_aload_n_0, hgx_get0, hgx_invvirtual_2, hgx_aft_e, hgx_aft_i, hgx_aft_l, hgx_aft_v, hgx_invstatic_1, hgx_if_eq, hgx_ldc_i, hgx_bipush_10, hgx_iload_n_3, hgx_imul, hgx_iadd, hgx_bipush_48, hgx_isub, hgx_invstatic_2, hgx_istore_n_3i, hgx_istore_n_3r, hgx_istore_n_3f, hgx_istore_n_3n, hgx_istore_n_3l, hgx_dup_i, hgx_dup_f, hgx_dup_r, hgx_iconst_1, hgx_put0, hgx_goto, hgv143_41, hgr143_41, hgu143_41, hgv143_90, hgI_SI, hgI_SJ, hgJ_SI, hgJ_SJ, if_true, if_false, reduceIte, Nat.reduceEqDiff, hgWf_SI, hgWf_SJ, hgO_SI, hgO_SJ, hgAr_SI, hgAr_SJ, hgRp_SI, hgRp_SJ, hgN_SI, hgN_SJ, hgO_g, hgO_d, hgO_rl, hgO_r, hgO_0, hgO_1, hgO_64, hgO_298, hgO_300, hgCd_0, hgCd_1, hgCd_2, hgCd_3, hgCd_4, hgCd_5, hgRecv_O, hgRecv_99, List.length_cons, List.length_nil, Nat.zero_add, Nat.add_zero, Nat.le_refl, Nat.zero_le, and_self, or_true, true_or, true_and, and_true, ne_eq, not_false_eq_true, Nat.reduceLT, Nat.reduceLeDiff, Nat.reduceAdd, Nat.reduceEqDiff, hgn_eq, hgn_lt, hgn_le, if_true, if_false, reduceIte, Nat.not_lt_zero, hw, h4, k135, k140]
theorem hgk_143e (h : hgEm M e) : hgWC X 143 [.ref 300, .int x, .int y] M = some (.inl (.int (nI 0)), M) := by
  have hw := h.1
  have k136 := hgk_136e (X := X) h
  simp (maxDischargeDepth := 7) only [hgc143, hgM_t, hgM_f, hgM_n, hgx_aload_n_0, hgx_invvirtual_1, hgx_aft_e, hgx_aft_i, hgx_aft_l, hgx_aft_v, hgx_if_ne, hgx_iconst_0, hgx_ret1, hgx_invstatic_1, hgx_bipush_m2, hgx_get0, hgx_invvirtual_3, hgx_put0, hgx_istore_n_3i, hgx_istore_n_3r, hgx_istore_n_3f, hgx_istore_n_3n, hgx_istore_n_3l, hgx_invvirtual_2, hgx_if_eq, hgx_ldc_i, hgx_bipush_10, hgx_iload_n_3, hgx_imul, hgx_iadd, hgx_bipush_48, hgx_isub, hgx_invstatic_2, hgx_dup_i, hgx_dup_f, hgx_dup_r, hgx_iconst_1, hgx_goto, hgx_iload_n_1, hgx_iload_n_2, hgx_invstatic_3, hgx_bipush_m3, hgv143_0, hgr143_0, hgu143_0, hgv143_9, hgr143_9, hgu143_9, hgv143_31, hgr143_31, hgu143_31, hgv143_41, ← hgu143_41, hgv143_90, hgr143_90, hgu143_90, hgv143_109, hgr143_109, hgu143_109, hgI_SI, hgI_SJ, hgJ_SI, hgJ_SJ, if_true, if_false, reduceIte, Nat.reduceEqDiff, hgWf_SI, hgWf_SJ, hgO_SI, hgO_SJ, hgAr_SI, hgAr_SJ, hgRp_SI, hgRp_SJ, hgN_SI, hgN_SJ, hgO_g, hgO_d, hgO_rl, hgO_r, hgO_0, hgO_1, hgO_64, hgO_298, hgO_300, hgCd_0, hgCd_1, hgCd_2, hgCd_3, hgCd_4, hgCd_5, hgRecv_O, hgRecv_99, List.length_cons, List.length_nil, Nat.zero_add, Nat.add_zero, Nat.le_refl, Nat.zero_le, and_self, or_true, true_or, true_and, and_true, ne_eq, not_false_eq_true, Nat.reduceLT, Nat.reduceLeDiff, Nat.reduceAdd, Nat.reduceEqDiff, hgn_eq, hgn_lt, hgn_le, if_true, if_false, reduceIte, Nat.not_lt_zero, hw, k136]
theorem hgk_143a (h : hgRr M t p) (hh : hi ≤ 999) (hl : lo ≤ 1000) {v : Nat × Nat} (hs : sNum t p lo hi = .inl v) : ∃ M', hgWC X 143 [.ref 300, .int (nI lo), .int (nI hi)] M = some (.inl (.int (nI v.1)), M') ∧ hgRr M' t v.2 ∧ hgI M' 300 16 = nI (tSk t p) ∧ lo ≤ v.1 ∧ v.1 ≤ hi ∧ hgFg M M' := by
  unfold sNum at hs
  by_cases hd : tDg t (tSk t p) = true
  · rw [if_pos hd] at hs
    by_cases hr : lo ≤ (tDv t (tSk t p)).1 ∧ (tDv t (tSk t p)).1 ≤ hi
    · rw [if_pos hr] at hs
      have hv : tDv t (tSk t p) = v := by injection hs
      have hw := h.1
      have k136 := hgk_136g (X := X) h
      obtain ⟨M1, e1, r1, f1⟩ := hgk_138 (X := X) h
      have w1 := r1.1
      have h4 := r1.2.2.1
      have k140 := hgk_140 (X := X) (M := M1) (x := tBy t (tSk t p))
      rw [tBy_d h, hd, hgB_t] at k140
      obtain ⟨M2, e2, s1, s2, s3⟩ := hgk_143l (X := X) (x1 := nI lo) (x2 := nI hi) (t.2 - tSk t p) (tSk t p) 0 (hgSI M1 300 16 (nI (tSk t p))) (by have := r1.2.2.2.1; omega) (hgRr_s r1 (by omega))
      have hv2 : pDv t (t.2 - tSk t p) (tSk t p) 0 = v := hv
      rw [hv2] at s1 e2
      rw [hv] at hr
      have mv : min v.1 1000000 = v.1 := by omega
      have m0 : min 0 1000000 = 0 := by omega
      rw [mv, m0] at e2
      have w2 := s1.1
      have k125 := hgk_125 (X := X) (M := M2) (x := nI v.1) (y := nI lo) (z := nI hi)
      rw [hgBtw_nn (by omega) (by omega) (by omega), decide_eq_true hr.1, decide_eq_true hr.2, Bool.and_self, hgB_t] at k125
      refine ⟨M2, ?_, s1, by rw [s2, hgI_at], hr.1, hr.2, hgFg_t (hgFg_s f1 (by omega)) s3⟩
      simp (maxDischargeDepth := 7) only [hgc143, hgM_t, hgM_f, hgM_n, hgx_aload_n_0, hgx_invvirtual_1, hgx_aft_e, hgx_aft_i, hgx_aft_l, hgx_aft_v, hgx_if_ne, hgx_iconst_0, hgx_ret1, hgx_invstatic_1, hgx_bipush_m2, hgx_get0, hgx_invvirtual_3, hgx_put0, hgx_istore_n_3i, hgx_istore_n_3r, hgx_istore_n_3f, hgx_istore_n_3n, hgx_istore_n_3l, hgx_invvirtual_2, hgx_if_eq, hgx_ldc_i, hgx_bipush_10, hgx_iload_n_3, hgx_imul, hgx_iadd, hgx_bipush_48, hgx_isub, hgx_invstatic_2, hgx_dup_i, hgx_dup_f, hgx_dup_r, hgx_iconst_1, hgx_goto, hgx_iload_n_1, hgx_iload_n_2, hgx_invstatic_3, hgx_bipush_m3, hgv143_0, hgr143_0, hgu143_0, hgv143_9, hgr143_9, hgu143_9, hgv143_31, hgr143_31, hgu143_31, hgv143_41, ← hgu143_41, hgv143_90, ← hgu143_90, hgv143_109, hgr143_109, hgu143_109, hgI_SI, hgI_SJ, hgJ_SI, hgJ_SJ, if_true, if_false, reduceIte, Nat.reduceEqDiff, hgWf_SI, hgWf_SJ, hgO_SI, hgO_SJ, hgAr_SI, hgAr_SJ, hgRp_SI, hgRp_SJ, hgN_SI, hgN_SJ, hgO_g, hgO_d, hgO_rl, hgO_r, hgO_0, hgO_1, hgO_64, hgO_298, hgO_300, hgCd_0, hgCd_1, hgCd_2, hgCd_3, hgCd_4, hgCd_5, hgRecv_O, hgRecv_99, List.length_cons, List.length_nil, Nat.zero_add, Nat.add_zero, Nat.le_refl, Nat.zero_le, and_self, or_true, true_or, true_and, and_true, ne_eq, not_false_eq_true, Nat.reduceLT, Nat.reduceLeDiff, Nat.reduceAdd, Nat.reduceEqDiff, hgn_eq, hgn_lt, hgn_le, if_true, if_false, reduceIte, Nat.not_lt_zero, hgn_add, hgn_mul, hw, k136, e1, w1, h4, k140]
      refine Eq.trans e2 ?_
      rw [hgu143_90]
      simp (maxDischargeDepth := 7) only [hgM_t, hgM_f, hgM_n, hgx_aload_n_0, hgx_invvirtual_1, hgx_aft_e, hgx_aft_i, hgx_aft_l, hgx_aft_v, hgx_if_ne, hgx_iconst_0, hgx_ret1, hgx_invstatic_1, hgx_bipush_m2, hgx_get0, hgx_invvirtual_3, hgx_put0, hgx_istore_n_3i, hgx_istore_n_3r, hgx_istore_n_3f, hgx_istore_n_3n, hgx_istore_n_3l, hgx_invvirtual_2, hgx_if_eq, hgx_ldc_i, hgx_bipush_10, hgx_iload_n_3, hgx_imul, hgx_iadd, hgx_bipush_48, hgx_isub, hgx_invstatic_2, hgx_dup_i, hgx_dup_f, hgx_dup_r, hgx_iconst_1, hgx_goto, hgx_iload_n_1, hgx_iload_n_2, hgx_invstatic_3, hgx_bipush_m3, hgv143_0, hgr143_0, hgu143_0, hgv143_9, hgr143_9, hgu143_9, hgv143_31, hgr143_31, hgu143_31, hgv143_41, ← hgu143_41, hgv143_90, hgr143_90, hgu143_90, hgv143_109, hgr143_109, hgu143_109, hgI_SI, hgI_SJ, hgJ_SI, hgJ_SJ, if_true, if_false, reduceIte, Nat.reduceEqDiff, hgWf_SI, hgWf_SJ, hgO_SI, hgO_SJ, hgAr_SI, hgAr_SJ, hgRp_SI, hgRp_SJ, hgN_SI, hgN_SJ, hgO_g, hgO_d, hgO_rl, hgO_r, hgO_0, hgO_1, hgO_64, hgO_298, hgO_300, hgCd_0, hgCd_1, hgCd_2, hgCd_3, hgCd_4, hgCd_5, hgRecv_O, hgRecv_99, List.length_cons, List.length_nil, Nat.zero_add, Nat.add_zero, Nat.le_refl, Nat.zero_le, and_self, or_true, true_or, true_and, and_true, ne_eq, not_false_eq_true, Nat.reduceLT, Nat.reduceLeDiff, Nat.reduceAdd, Nat.reduceEqDiff, hgn_eq, hgn_lt, hgn_le, if_true, if_false, reduceIte, Nat.not_lt_zero, w2, k125]
    · rw [if_neg hr] at hs
      cases hs
  · rw [if_neg hd] at hs
    cases hs
theorem hgk_143b (h : hgRr M t p) (hh : hi ≤ 999) (hl : lo ≤ 1000) (hs : sNum t p lo hi = .inr e) : ∃ y M', hgWC X 143 [.ref 300, .int (nI lo), .int (nI hi)] M = some (.inl (.int y), M') ∧ hgEm M' e ∧ hgFh M M' := by
  unfold sNum at hs
  have hw := h.1
  have k136 := hgk_136g (X := X) h
  obtain ⟨M1, e1, r1, f1⟩ := hgk_138 (X := X) h
  have w1 := r1.1
  have h4 := r1.2.2.1
  have k140 := hgk_140 (X := X) (M := M1) (x := tBy t (tSk t p))
  rw [tBy_d h] at k140
  by_cases hd : tDg t (tSk t p) = true
  · rw [if_pos hd] at hs
    rw [hd, hgB_t] at k140
    by_cases hr : lo ≤ (tDv t (tSk t p)).1 ∧ (tDv t (tSk t p)).1 ≤ hi
    · rw [if_pos hr] at hs
      cases hs
    · rw [if_neg hr] at hs
      have hv : (-3, tSk t p) = e := by injection hs
      rw [← hv]
      obtain ⟨M2, e2, s1, s2, s3⟩ := hgk_143l (X := X) (x1 := nI lo) (x2 := nI hi) (t.2 - tSk t p) (tSk t p) 0 (hgSI M1 300 16 (nI (tSk t p))) (by have := r1.2.2.2.1; omega) (hgRr_s r1 (by omega))
      have hr2 : ¬ (lo ≤ (pDv t (t.2 - tSk t p) (tSk t p) 0).1 ∧ (pDv t (t.2 - tSk t p) (tSk t p) 0).1 ≤ hi) := hr
      generalize (pDv t (t.2 - tSk t p) (tSk t p) 0).1 = w at hr2 e2
      have m0 : min 0 1000000 = 0 := by omega
      rw [m0] at e2
      have w2 := s1.1
      rw [hgI_at] at s2
      have k125 := hgk_125 (X := X) (M := M2) (x := nI (min w 1000000)) (y := nI lo) (z := nI hi)
      have ef : (decide (lo ≤ min w 1000000) && decide (min w 1000000 ≤ hi)) = false := by
        cases hb : (decide (lo ≤ min w 1000000) && decide (min w 1000000 ≤ hi)) with
        | false => rfl
        | true =>
          rw [Bool.and_eq_true, decide_eq_true_iff, decide_eq_true_iff] at hb
          exact absurd (show lo ≤ w ∧ w ≤ hi by omega) hr2
      rw [hgBtw_nn (by omega) (by omega) (by omega), ef, hgB_f] at k125
      have k137 := hgk_137 (X := X) (x := -3) (y := nI (tSk t p)) s1
      refine ⟨nI (min w 1000000), hgSI (hgSI M2 300 5 (-3)) 300 6 (nI (tSk t p)), ?_, hgEm_i s1 (Or.inr (Or.inl rfl)), hgFh_s (hgFh_s (hgFh_g (hgFg_t (hgFg_s f1 (by omega)) s3)) (by omega)) (by omega)⟩
      simp (maxDischargeDepth := 7) only [hgc143, hgM_t, hgM_f, hgM_n, hgx_aload_n_0, hgx_invvirtual_1, hgx_aft_e, hgx_aft_i, hgx_aft_l, hgx_aft_v, hgx_if_ne, hgx_iconst_0, hgx_ret1, hgx_invstatic_1, hgx_bipush_m2, hgx_get0, hgx_invvirtual_3, hgx_put0, hgx_istore_n_3i, hgx_istore_n_3r, hgx_istore_n_3f, hgx_istore_n_3n, hgx_istore_n_3l, hgx_invvirtual_2, hgx_if_eq, hgx_ldc_i, hgx_bipush_10, hgx_iload_n_3, hgx_imul, hgx_iadd, hgx_bipush_48, hgx_isub, hgx_invstatic_2, hgx_dup_i, hgx_dup_f, hgx_dup_r, hgx_iconst_1, hgx_goto, hgx_iload_n_1, hgx_iload_n_2, hgx_invstatic_3, hgx_bipush_m3, hgv143_0, hgr143_0, hgu143_0, hgv143_9, hgr143_9, hgu143_9, hgv143_31, hgr143_31, hgu143_31, hgv143_41, ← hgu143_41, hgv143_90, ← hgu143_90, hgv143_109, hgr143_109, hgu143_109, hgI_SI, hgI_SJ, hgJ_SI, hgJ_SJ, if_true, if_false, reduceIte, Nat.reduceEqDiff, hgWf_SI, hgWf_SJ, hgO_SI, hgO_SJ, hgAr_SI, hgAr_SJ, hgRp_SI, hgRp_SJ, hgN_SI, hgN_SJ, hgO_g, hgO_d, hgO_rl, hgO_r, hgO_0, hgO_1, hgO_64, hgO_298, hgO_300, hgCd_0, hgCd_1, hgCd_2, hgCd_3, hgCd_4, hgCd_5, hgRecv_O, hgRecv_99, List.length_cons, List.length_nil, Nat.zero_add, Nat.add_zero, Nat.le_refl, Nat.zero_le, and_self, or_true, true_or, true_and, and_true, ne_eq, not_false_eq_true, Nat.reduceLT, Nat.reduceLeDiff, Nat.reduceAdd, Nat.reduceEqDiff, hgn_eq, hgn_lt, hgn_le, if_true, if_false, reduceIte, Nat.not_lt_zero, hgn_add, hgn_mul, hw, k136, e1, w1, h4, k140]
      refine Eq.trans e2 ?_
      rw [hgu143_90]
      simp (maxDischargeDepth := 7) only [hgM_t, hgM_f, hgM_n, hgx_aload_n_0, hgx_invvirtual_1, hgx_aft_e, hgx_aft_i, hgx_aft_l, hgx_aft_v, hgx_if_ne, hgx_iconst_0, hgx_ret1, hgx_invstatic_1, hgx_bipush_m2, hgx_get0, hgx_invvirtual_3, hgx_put0, hgx_istore_n_3i, hgx_istore_n_3r, hgx_istore_n_3f, hgx_istore_n_3n, hgx_istore_n_3l, hgx_invvirtual_2, hgx_if_eq, hgx_ldc_i, hgx_bipush_10, hgx_iload_n_3, hgx_imul, hgx_iadd, hgx_bipush_48, hgx_isub, hgx_invstatic_2, hgx_dup_i, hgx_dup_f, hgx_dup_r, hgx_iconst_1, hgx_goto, hgx_iload_n_1, hgx_iload_n_2, hgx_invstatic_3, hgx_bipush_m3, hgv143_0, hgr143_0, hgu143_0, hgv143_9, hgr143_9, hgu143_9, hgv143_31, hgr143_31, hgu143_31, hgv143_41, ← hgu143_41, hgv143_90, hgr143_90, hgu143_90, hgv143_109, hgr143_109, hgu143_109, hgI_SI, hgI_SJ, hgJ_SI, hgJ_SJ, if_true, if_false, reduceIte, Nat.reduceEqDiff, hgWf_SI, hgWf_SJ, hgO_SI, hgO_SJ, hgAr_SI, hgAr_SJ, hgRp_SI, hgRp_SJ, hgN_SI, hgN_SJ, hgO_g, hgO_d, hgO_rl, hgO_r, hgO_0, hgO_1, hgO_64, hgO_298, hgO_300, hgCd_0, hgCd_1, hgCd_2, hgCd_3, hgCd_4, hgCd_5, hgRecv_O, hgRecv_99, List.length_cons, List.length_nil, Nat.zero_add, Nat.add_zero, Nat.le_refl, Nat.zero_le, and_self, or_true, true_or, true_and, and_true, ne_eq, not_false_eq_true, Nat.reduceLT, Nat.reduceLeDiff, Nat.reduceAdd, Nat.reduceEqDiff, hgn_eq, hgn_lt, hgn_le, if_true, if_false, reduceIte, Nat.not_lt_zero, w2, k125, s2, k137]
  · rw [if_neg hd] at hs
    have hd2 : tDg t (tSk t p) = false := Bool.eq_false_iff.mpr hd
    rw [hd2, hgB_f] at k140
    have hv : (-2, tSk t p) = e := by injection hs
    rw [← hv]
    have k137 := hgk_137 (X := X) (x := -2) (y := nI (tSk t p)) r1
    refine ⟨nI 0, hgSI (hgSI M1 300 5 (-2)) 300 6 (nI (tSk t p)), ?_, hgEm_i r1 (Or.inl rfl), hgFh_s (hgFh_s (hgFh_g f1) (by omega)) (by omega)⟩
    simp (maxDischargeDepth := 7) only [hgc143, hgM_t, hgM_f, hgM_n, hgx_aload_n_0, hgx_invvirtual_1, hgx_aft_e, hgx_aft_i, hgx_aft_l, hgx_aft_v, hgx_if_ne, hgx_iconst_0, hgx_ret1, hgx_invstatic_1, hgx_bipush_m2, hgx_get0, hgx_invvirtual_3, hgx_put0, hgx_istore_n_3i, hgx_istore_n_3r, hgx_istore_n_3f, hgx_istore_n_3n, hgx_istore_n_3l, hgx_invvirtual_2, hgx_if_eq, hgx_ldc_i, hgx_bipush_10, hgx_iload_n_3, hgx_imul, hgx_iadd, hgx_bipush_48, hgx_isub, hgx_invstatic_2, hgx_dup_i, hgx_dup_f, hgx_dup_r, hgx_iconst_1, hgx_goto, hgx_iload_n_1, hgx_iload_n_2, hgx_invstatic_3, hgx_bipush_m3, hgv143_0, hgr143_0, hgu143_0, hgv143_9, hgr143_9, hgu143_9, hgv143_31, hgr143_31, hgu143_31, hgv143_41, ← hgu143_41, hgv143_90, ← hgu143_90, hgv143_109, hgr143_109, hgu143_109, hgI_SI, hgI_SJ, hgJ_SI, hgJ_SJ, if_true, if_false, reduceIte, Nat.reduceEqDiff, hgWf_SI, hgWf_SJ, hgO_SI, hgO_SJ, hgAr_SI, hgAr_SJ, hgRp_SI, hgRp_SJ, hgN_SI, hgN_SJ, hgO_g, hgO_d, hgO_rl, hgO_r, hgO_0, hgO_1, hgO_64, hgO_298, hgO_300, hgCd_0, hgCd_1, hgCd_2, hgCd_3, hgCd_4, hgCd_5, hgRecv_O, hgRecv_99, List.length_cons, List.length_nil, Nat.zero_add, Nat.add_zero, Nat.le_refl, Nat.zero_le, and_self, or_true, true_or, true_and, and_true, ne_eq, not_false_eq_true, Nat.reduceLT, Nat.reduceLeDiff, Nat.reduceAdd, Nat.reduceEqDiff, hgn_eq, hgn_lt, hgn_le, if_true, if_false, reduceIte, Nat.not_lt_zero, hgn_add, hgn_mul, hw, k136, e1, w1, h4, k140, k137]
theorem hgk_144a (h : hgRr M t p) (hm : hgMk (hgI M 300 17) f) (hk : k < 10) (hf : f k = false) : hgWC X 144 [.ref 300, .int (nI k), .int y] M = some (.inl .null, hgSI M 300 17 (hgI M 300 17 ||| (nI 1 <<< (nI k &&& 31)))) := by
  have hw := h.1
  have ne : ¬ ((hgI M 300 17 >>> (nI k &&& 31)) &&& nI 1 = nI 1) := fun z => by
    have z2 := (hm k hk).mp z
    rw [hf] at z2
    cases z2
  simp (maxDischargeDepth := 7) only [hgc144, hgM_t, hgM_f, hgM_n, hgx_aload_n_0, hgx_get0, hgx_iload_n_1, hgx_ishr, hgx_iconst_1, hgx_iand, hgx_ic_ne, hgx_bipush_m2, hgx_iload_n_2, hgx_invvirtual_3, hgx_aft_e, hgx_aft_i, hgx_aft_l, hgx_aft_v, hgx_dup_i, hgx_dup_f, hgx_dup_r, hgx_ishl, hgx_ior, hgx_put0, hgx_vret, hgv144_0, hgr144_0, hgu144_0, hgv144_19, hgr144_19, hgu144_19, hgI_SI, hgI_SJ, hgJ_SI, hgJ_SJ, if_true, if_false, reduceIte, Nat.reduceEqDiff, hgWf_SI, hgWf_SJ, hgO_SI, hgO_SJ, hgAr_SI, hgAr_SJ, hgRp_SI, hgRp_SJ, hgN_SI, hgN_SJ, hgO_g, hgO_d, hgO_rl, hgO_r, hgO_0, hgO_1, hgO_64, hgO_298, hgO_300, hgCd_0, hgCd_1, hgCd_2, hgCd_3, hgCd_4, hgCd_5, hgRecv_O, hgRecv_99, List.length_cons, List.length_nil, Nat.zero_add, Nat.add_zero, Nat.le_refl, Nat.zero_le, and_self, or_true, true_or, true_and, and_true, ne_eq, not_false_eq_true, Nat.reduceLT, Nat.reduceLeDiff, Nat.reduceAdd, Nat.reduceEqDiff, hgn_eq, hgn_lt, hgn_le, if_true, if_false, reduceIte, Nat.not_lt_zero, hw, ne]
theorem hgk_144b (h : hgRr M t p) (hm : hgMk (hgI M 300 17) f) (hk : k < 10) (hf : f k = true) : ∃ M', hgWC X 144 [.ref 300, .int (nI k), .int (nI n)] M = some (.inl .null, M') ∧ hgEm M' (-2, n) ∧ hgFh M M' := by
  have hw := h.1
  have ne := (hm k hk).mpr hf
  have k137 := hgk_137 (X := X) (x := -2) (y := nI n) h
  refine ⟨hgSI (hgSI (hgSI M 300 5 (-2)) 300 6 (nI n)) 300 17 (hgI M 300 17 ||| (nI 1 <<< (nI k &&& 31))), ?_, hgEm_s (hgEm_i h (Or.inl rfl)) (by omega), hgFh_s (hgFh_s (hgFh_s hgFh_r (by omega)) (by omega)) (by omega)⟩
  simp (maxDischargeDepth := 7) only [hgc144, hgM_t, hgM_f, hgM_n, hgx_aload_n_0, hgx_get0, hgx_iload_n_1, hgx_ishr, hgx_iconst_1, hgx_iand, hgx_ic_ne, hgx_bipush_m2, hgx_iload_n_2, hgx_invvirtual_3, hgx_aft_e, hgx_aft_i, hgx_aft_l, hgx_aft_v, hgx_dup_i, hgx_dup_f, hgx_dup_r, hgx_ishl, hgx_ior, hgx_put0, hgx_vret, hgv144_0, hgr144_0, hgu144_0, hgv144_19, hgr144_19, hgu144_19, hgI_SI, hgI_SJ, hgJ_SI, hgJ_SJ, if_true, if_false, reduceIte, Nat.reduceEqDiff, hgWf_SI, hgWf_SJ, hgO_SI, hgO_SJ, hgAr_SI, hgAr_SJ, hgRp_SI, hgRp_SJ, hgN_SI, hgN_SJ, hgO_g, hgO_d, hgO_rl, hgO_r, hgO_0, hgO_1, hgO_64, hgO_298, hgO_300, hgCd_0, hgCd_1, hgCd_2, hgCd_3, hgCd_4, hgCd_5, hgRecv_O, hgRecv_99, List.length_cons, List.length_nil, Nat.zero_add, Nat.add_zero, Nat.le_refl, Nat.zero_le, and_self, or_true, true_or, true_and, and_true, ne_eq, not_false_eq_true, Nat.reduceLT, Nat.reduceLeDiff, Nat.reduceAdd, Nat.reduceEqDiff, hgn_eq, hgn_lt, hgn_le, if_true, if_false, reduceIte, Nat.not_lt_zero, hw, ne, k137]
theorem hgk_145e (h : hgEm M e) : hgWC X 145 [.ref 300] M = some (.inl (.int (-1)), M) := by
  have hw := h.1
  have k1 := hgk_141e (X := X) (u := 1000) h
  have k2 := hgk_141e (X := X) (u := 1001) h
  have k3 := hgk_141e (X := X) (u := 1002) h
  have k137 := hgk_137e (X := X) (x := -2) (y := hgI M 300 4) h
  simp (maxDischargeDepth := 7) only [hgc145, hgM_t, hgM_f, hgM_n, hgx_aload_n_0, hgx_ldc_s, hgx_invvirtual_2, hgx_aft_e, hgx_aft_i, hgx_aft_l, hgx_aft_v, hgx_if_eq, hgx_iconst_0, hgx_goto, hgx_iconst_1, hgx_iconst_2, hgx_iconst_m1, hgx_istore_n_1i, hgx_istore_n_1r, hgx_istore_n_1f, hgx_istore_n_1n, hgx_istore_n_1l, hgx_iload_n_1, hgx_ic_ne, hgx_bipush_m2, hgx_get0, hgx_invvirtual_3, hgx_ret1, hgv145_0, hgr145_0, hgu145_0, hgv145_13, hgr145_13, hgu145_13, hgv145_26, hgr145_26, hgu145_26, hgv145_39, hgr145_39, hgu145_39, hgv145_40, hgr145_40, hgu145_40, hgv145_56, hgr145_56, hgu145_56, hgI_SI, hgI_SJ, hgJ_SI, hgJ_SJ, if_true, if_false, reduceIte, Nat.reduceEqDiff, hgWf_SI, hgWf_SJ, hgO_SI, hgO_SJ, hgAr_SI, hgAr_SJ, hgRp_SI, hgRp_SJ, hgN_SI, hgN_SJ, hgO_g, hgO_d, hgO_rl, hgO_r, hgO_0, hgO_1, hgO_64, hgO_298, hgO_300, hgCd_0, hgCd_1, hgCd_2, hgCd_3, hgCd_4, hgCd_5, hgRecv_O, hgRecv_99, List.length_cons, List.length_nil, Nat.zero_add, Nat.add_zero, Nat.le_refl, Nat.zero_le, and_self, or_true, true_or, true_and, and_true, ne_eq, not_false_eq_true, Nat.reduceLT, Nat.reduceLeDiff, Nat.reduceAdd, Nat.reduceEqDiff, hgn_eq, hgn_lt, hgn_le, if_true, if_false, reduceIte, Nat.not_lt_zero, hw, k1, k2, k3, k137]
theorem hgk_146e (h : hgEm M e) : hgWC X 146 [.ref 300] M = some (.inl (.int (-1)), M) := by
  have hw := h.1
  have k1 := hgk_141e (X := X) (u := 1003) h
  have k2 := hgk_141e (X := X) (u := 1004) h
  have k3 := hgk_145e (X := X) h
  simp (maxDischargeDepth := 7) only [hgc146, hgM_t, hgM_f, hgM_n, hgx_aload_n_0, hgx_ldc_s, hgx_invvirtual_2, hgx_aft_e, hgx_aft_i, hgx_aft_l, hgx_aft_v, hgx_if_eq, hgx_iconst_3, hgx_goto, hgx_iconst_4, hgx_invvirtual_1, hgx_ret1, hgv146_0, hgr146_0, hgu146_0, hgv146_13, hgr146_13, hgu146_13, hgv146_26, hgr146_26, hgu146_26, hgv146_30, hgr146_30, hgu146_30, hgI_SI, hgI_SJ, hgJ_SI, hgJ_SJ, if_true, if_false, reduceIte, Nat.reduceEqDiff, hgWf_SI, hgWf_SJ, hgO_SI, hgO_SJ, hgAr_SI, hgAr_SJ, hgRp_SI, hgRp_SJ, hgN_SI, hgN_SJ, hgO_g, hgO_d, hgO_rl, hgO_r, hgO_0, hgO_1, hgO_64, hgO_298, hgO_300, hgCd_0, hgCd_1, hgCd_2, hgCd_3, hgCd_4, hgCd_5, hgRecv_O, hgRecv_99, List.length_cons, List.length_nil, Nat.zero_add, Nat.add_zero, Nat.le_refl, Nat.zero_le, and_self, or_true, true_or, true_and, and_true, ne_eq, not_false_eq_true, Nat.reduceLT, Nat.reduceLeDiff, Nat.reduceAdd, Nat.reduceEqDiff, hgn_eq, hgn_lt, hgn_le, if_true, if_false, reduceIte, Nat.not_lt_zero, hw, k1, k2, k3]
theorem hgk_145a (h : hgRr M t q) (hp : p ≤ t.2) (hq : tSk t q = tSk t p) (hs : sGrp t p = some g) : ∃ M', hgWC X 145 [.ref 300] M = some (.inl (.int (nI g)), M') ∧ hgRr M' t (tWe t (tSk t p)) ∧ hgFg M M' := by
  have hw := h.1
  unfold sGrp at hs
  cases c0 : tWd t p [104, 111, 109, 101] with
  | true =>
    rw [c0, if_pos rfl] at hs
    cases hs
    obtain ⟨M1, e1, r1, f1⟩ := hgk_141a (X := X) (s := 0) h hq (by omega) c0
    have e1' : hgWC X 141 [.ref 300, .ref 1000] M = some (.inl (.int (nI 1)), M1) := e1
    refine ⟨M1, ?_, r1, f1⟩
    simp (maxDischargeDepth := 7) only [hgc145, hgM_t, hgM_f, hgM_n, hgx_aload_n_0, hgx_ldc_s, hgx_invvirtual_2, hgx_aft_e, hgx_aft_i, hgx_aft_l, hgx_aft_v, hgx_if_eq, hgx_iconst_0, hgx_goto, hgx_iconst_1, hgx_iconst_2, hgx_iconst_m1, hgx_istore_n_1i, hgx_istore_n_1r, hgx_istore_n_1f, hgx_istore_n_1n, hgx_istore_n_1l, hgx_iload_n_1, hgx_ic_ne, hgx_bipush_m2, hgx_get0, hgx_invvirtual_3, hgx_ret1, hgv145_0, hgr145_0, hgu145_0, hgv145_13, hgr145_13, hgu145_13, hgv145_26, hgr145_26, hgu145_26, hgv145_39, hgr145_39, hgu145_39, hgv145_40, hgr145_40, hgu145_40, hgv145_56, hgr145_56, hgu145_56, hgI_SI, hgI_SJ, hgJ_SI, hgJ_SJ, if_true, if_false, reduceIte, Nat.reduceEqDiff, hgWf_SI, hgWf_SJ, hgO_SI, hgO_SJ, hgAr_SI, hgAr_SJ, hgRp_SI, hgRp_SJ, hgN_SI, hgN_SJ, hgO_g, hgO_d, hgO_rl, hgO_r, hgO_0, hgO_1, hgO_64, hgO_298, hgO_300, hgCd_0, hgCd_1, hgCd_2, hgCd_3, hgCd_4, hgCd_5, hgRecv_O, hgRecv_99, List.length_cons, List.length_nil, Nat.zero_add, Nat.add_zero, Nat.le_refl, Nat.zero_le, and_self, or_true, true_or, true_and, and_true, ne_eq, not_false_eq_true, Nat.reduceLT, Nat.reduceLeDiff, Nat.reduceAdd, Nat.reduceEqDiff, hgn_eq, hgn_lt, hgn_le, if_true, if_false, reduceIte, Nat.not_lt_zero, hw, e1', hgm1_nI]
  | false =>
    rw [c0, if_neg (by decide)] at hs
    obtain ⟨M1, e1, r1, f1⟩ := hgk_141b (X := X) (s := 0) h hq (by omega) c0
    have e1' : hgWC X 141 [.ref 300, .ref 1000] M = some (.inl (.int (nI 0)), M1) := e1
    have w1 := r1.1
    have q1 := tSk_i hp
    cases c1 : tWd t p [103, 117, 101, 115, 116] with
    | true =>
      rw [c1, if_pos rfl] at hs
      cases hs
      obtain ⟨M2, e2, r2, f2⟩ := hgk_141a (X := X) (s := 1) r1 q1 (by omega) c1
      have e2' : hgWC X 141 [.ref 300, .ref 1001] M1 = some (.inl (.int (nI 1)), M2) := e2
      refine ⟨M2, ?_, r2, hgFg_t f1 f2⟩
      simp (maxDischargeDepth := 7) only [hgc145, hgM_t, hgM_f, hgM_n, hgx_aload_n_0, hgx_ldc_s, hgx_invvirtual_2, hgx_aft_e, hgx_aft_i, hgx_aft_l, hgx_aft_v, hgx_if_eq, hgx_iconst_0, hgx_goto, hgx_iconst_1, hgx_iconst_2, hgx_iconst_m1, hgx_istore_n_1i, hgx_istore_n_1r, hgx_istore_n_1f, hgx_istore_n_1n, hgx_istore_n_1l, hgx_iload_n_1, hgx_ic_ne, hgx_bipush_m2, hgx_get0, hgx_invvirtual_3, hgx_ret1, hgv145_0, hgr145_0, hgu145_0, hgv145_13, hgr145_13, hgu145_13, hgv145_26, hgr145_26, hgu145_26, hgv145_39, hgr145_39, hgu145_39, hgv145_40, hgr145_40, hgu145_40, hgv145_56, hgr145_56, hgu145_56, hgI_SI, hgI_SJ, hgJ_SI, hgJ_SJ, if_true, if_false, reduceIte, Nat.reduceEqDiff, hgWf_SI, hgWf_SJ, hgO_SI, hgO_SJ, hgAr_SI, hgAr_SJ, hgRp_SI, hgRp_SJ, hgN_SI, hgN_SJ, hgO_g, hgO_d, hgO_rl, hgO_r, hgO_0, hgO_1, hgO_64, hgO_298, hgO_300, hgCd_0, hgCd_1, hgCd_2, hgCd_3, hgCd_4, hgCd_5, hgRecv_O, hgRecv_99, List.length_cons, List.length_nil, Nat.zero_add, Nat.add_zero, Nat.le_refl, Nat.zero_le, and_self, or_true, true_or, true_and, and_true, ne_eq, not_false_eq_true, Nat.reduceLT, Nat.reduceLeDiff, Nat.reduceAdd, Nat.reduceEqDiff, hgn_eq, hgn_lt, hgn_le, if_true, if_false, reduceIte, Nat.not_lt_zero, hw, e1', w1, e2', hgm1_nI]
    | false =>
      rw [c1, if_neg (by decide)] at hs
      obtain ⟨M2, e2, r2, f2⟩ := hgk_141b (X := X) (s := 1) r1 q1 (by omega) c1
      have e2' : hgWC X 141 [.ref 300, .ref 1001] M1 = some (.inl (.int (nI 0)), M2) := e2
      have w2 := r2.1
      cases c2 : tWd t p [105, 111, 116] with
      | true =>
        rw [c2, if_pos rfl] at hs
        cases hs
        obtain ⟨M3, e3, r3, f3⟩ := hgk_141a (X := X) (s := 2) r2 q1 (by omega) c2
        have e3' : hgWC X 141 [.ref 300, .ref 1002] M2 = some (.inl (.int (nI 1)), M3) := e3
        refine ⟨M3, ?_, r3, hgFg_t (hgFg_t f1 f2) f3⟩
        simp (maxDischargeDepth := 7) only [hgc145, hgM_t, hgM_f, hgM_n, hgx_aload_n_0, hgx_ldc_s, hgx_invvirtual_2, hgx_aft_e, hgx_aft_i, hgx_aft_l, hgx_aft_v, hgx_if_eq, hgx_iconst_0, hgx_goto, hgx_iconst_1, hgx_iconst_2, hgx_iconst_m1, hgx_istore_n_1i, hgx_istore_n_1r, hgx_istore_n_1f, hgx_istore_n_1n, hgx_istore_n_1l, hgx_iload_n_1, hgx_ic_ne, hgx_bipush_m2, hgx_get0, hgx_invvirtual_3, hgx_ret1, hgv145_0, hgr145_0, hgu145_0, hgv145_13, hgr145_13, hgu145_13, hgv145_26, hgr145_26, hgu145_26, hgv145_39, hgr145_39, hgu145_39, hgv145_40, hgr145_40, hgu145_40, hgv145_56, hgr145_56, hgu145_56, hgI_SI, hgI_SJ, hgJ_SI, hgJ_SJ, if_true, if_false, reduceIte, Nat.reduceEqDiff, hgWf_SI, hgWf_SJ, hgO_SI, hgO_SJ, hgAr_SI, hgAr_SJ, hgRp_SI, hgRp_SJ, hgN_SI, hgN_SJ, hgO_g, hgO_d, hgO_rl, hgO_r, hgO_0, hgO_1, hgO_64, hgO_298, hgO_300, hgCd_0, hgCd_1, hgCd_2, hgCd_3, hgCd_4, hgCd_5, hgRecv_O, hgRecv_99, List.length_cons, List.length_nil, Nat.zero_add, Nat.add_zero, Nat.le_refl, Nat.zero_le, and_self, or_true, true_or, true_and, and_true, ne_eq, not_false_eq_true, Nat.reduceLT, Nat.reduceLeDiff, Nat.reduceAdd, Nat.reduceEqDiff, hgn_eq, hgn_lt, hgn_le, if_true, if_false, reduceIte, Nat.not_lt_zero, hw, e1', w1, e2', w2, e3', hgm1_nI]
      | false =>
        rw [c2, if_neg (by decide)] at hs
        cases hs
theorem hgk_145b (h : hgRr M t q) (hp : p ≤ t.2) (hq : tSk t q = tSk t p) (hs : sGrp t p = none) : ∃ M', hgWC X 145 [.ref 300] M = some (.inl (.int (-1)), M') ∧ hgEm M' (-2, tSk t p) ∧ hgFh M M' := by
  have hw := h.1
  unfold sGrp at hs
  cases c0 : tWd t p [104, 111, 109, 101] with
  | true =>
    rw [c0, if_pos rfl] at hs
    cases hs
  | false =>
    rw [c0, if_neg (by decide)] at hs
    obtain ⟨M1, e1, r1, f1⟩ := hgk_141b (X := X) (s := 0) h hq (by omega) c0
    have e1' : hgWC X 141 [.ref 300, .ref 1000] M = some (.inl (.int (nI 0)), M1) := e1
    have w1 := r1.1
    have q1 := tSk_i hp
    cases c1 : tWd t p [103, 117, 101, 115, 116] with
    | true =>
      rw [c1, if_pos rfl] at hs
      cases hs
    | false =>
      rw [c1, if_neg (by decide)] at hs
      obtain ⟨M2, e2, r2, f2⟩ := hgk_141b (X := X) (s := 1) r1 q1 (by omega) c1
      have e2' : hgWC X 141 [.ref 300, .ref 1001] M1 = some (.inl (.int (nI 0)), M2) := e2
      have w2 := r2.1
      cases c2 : tWd t p [105, 111, 116] with
      | true =>
        rw [c2, if_pos rfl] at hs
        cases hs
      | false =>
        obtain ⟨M3, e3, r3, f3⟩ := hgk_141b (X := X) (s := 2) r2 q1 (by omega) c2
        have e3' : hgWC X 141 [.ref 300, .ref 1002] M2 = some (.inl (.int (nI 0)), M3) := e3
        have w3 := r3.1
        have h4 := r3.2.2.1
        have k137 := hgk_137 (X := X) (x := -2) (y := nI (tSk t p)) r3
        refine ⟨_, ?_, hgEm_i r3 (Or.inl rfl), hgFh_s (hgFh_s (hgFh_g (hgFg_t (hgFg_t f1 f2) f3)) (by omega)) (by omega)⟩
        simp (maxDischargeDepth := 7) only [hgc145, hgM_t, hgM_f, hgM_n, hgx_aload_n_0, hgx_ldc_s, hgx_invvirtual_2, hgx_aft_e, hgx_aft_i, hgx_aft_l, hgx_aft_v, hgx_if_eq, hgx_iconst_0, hgx_goto, hgx_iconst_1, hgx_iconst_2, hgx_iconst_m1, hgx_istore_n_1i, hgx_istore_n_1r, hgx_istore_n_1f, hgx_istore_n_1n, hgx_istore_n_1l, hgx_iload_n_1, hgx_ic_ne, hgx_bipush_m2, hgx_get0, hgx_invvirtual_3, hgx_ret1, hgv145_0, hgr145_0, hgu145_0, hgv145_13, hgr145_13, hgu145_13, hgv145_26, hgr145_26, hgu145_26, hgv145_39, hgr145_39, hgu145_39, hgv145_40, hgr145_40, hgu145_40, hgv145_56, hgr145_56, hgu145_56, hgI_SI, hgI_SJ, hgJ_SI, hgJ_SJ, if_true, if_false, reduceIte, Nat.reduceEqDiff, hgWf_SI, hgWf_SJ, hgO_SI, hgO_SJ, hgAr_SI, hgAr_SJ, hgRp_SI, hgRp_SJ, hgN_SI, hgN_SJ, hgO_g, hgO_d, hgO_rl, hgO_r, hgO_0, hgO_1, hgO_64, hgO_298, hgO_300, hgCd_0, hgCd_1, hgCd_2, hgCd_3, hgCd_4, hgCd_5, hgRecv_O, hgRecv_99, List.length_cons, List.length_nil, Nat.zero_add, Nat.add_zero, Nat.le_refl, Nat.zero_le, and_self, or_true, true_or, true_and, and_true, ne_eq, not_false_eq_true, Nat.reduceLT, Nat.reduceLeDiff, Nat.reduceAdd, Nat.reduceEqDiff, hgn_eq, hgn_lt, hgn_le, if_true, if_false, reduceIte, Nat.not_lt_zero, hw, e1', w1, e2', w2, e3', w3, h4, k137]
theorem tWd_c (h : tWd t p (c :: w) = true) : t.1 (tSk t p) = c := by
  unfold tWd tIs tMw at h
  rw [Bool.and_eq_true, Bool.and_eq_true, decide_eq_true_iff, decide_eq_true_iff] at h
  exact h.2.1
theorem sSel_g : sSel t p = match sGrp t p with
    | some g => some g
    | none => if tWd t p [110, 101, 116] = true then some 3 else if tWd t p [97, 110, 121] = true then some 4 else none := by
  unfold sSel sGrp
  cases tWd t p [104, 111, 109, 101] with
  | true => rfl
  | false =>
    cases tWd t p [103, 117, 101, 115, 116] with
    | true => rfl
    | false =>
      cases tWd t p [105, 111, 116] with
      | true => rfl
      | false => rfl
theorem sGrp_s (h : sGrp t p = some g) : g < 3 ∧ sSel t p = some g := by
  refine ⟨?_, by rw [sSel_g, h]⟩
  unfold sGrp at h
  split at h
  · cases h; omega
  · split at h
    · cases h; omega
    · split at h
      · cases h; omega
      · cases h
theorem sGrp_o (h : sGrp t p = none) : sSel t p = none ∨ ∃ g, 3 ≤ g ∧ sSel t p = some g := by
  rw [sSel_g, h]
  dsimp only
  split
  · exact Or.inr ⟨3, by omega, rfl⟩
  · split
    · exact Or.inr ⟨4, by omega, rfl⟩
    · exact Or.inl rfl
theorem sGrp_z (h : t.1 (tSk t p) ≠ 104 ∧ t.1 (tSk t p) ≠ 103 ∧ t.1 (tSk t p) ≠ 105) : sGrp t p = none := by
  unfold sGrp
  rw [if_neg (fun z => h.1 (tWd_c z)), if_neg (fun z => h.2.1 (tWd_c z)), if_neg (fun z => h.2.2 (tWd_c z))]
theorem hgk_146a (h : hgRr M t p) (hs : sSel t p = some g) : ∃ M', hgWC X 146 [.ref 300] M = some (.inl (.int (nI g)), M') ∧ hgRr M' t (tWe t (tSk t p)) ∧ hgFg M M' := by
  have hw := h.1
  have hp := h.2.2.2.1
  have q1 := tSk_i hp
  rw [sSel_g] at hs
  cases c3 : tWd t p [110, 101, 116] with
  | true =>
    have l := tWd_c c3
    rw [sGrp_z (by omega)] at hs
    dsimp only at hs
    rw [c3, if_pos rfl] at hs
    cases hs
    obtain ⟨M1, e1, r1, f1⟩ := hgk_141a (X := X) (s := 3) h rfl (by omega) c3
    have e1' : hgWC X 141 [.ref 300, .ref 1003] M = some (.inl (.int (nI 1)), M1) := e1
    refine ⟨M1, ?_, r1, f1⟩
    simp (maxDischargeDepth := 7) only [hgc146, hgM_t, hgM_f, hgM_n, hgx_aload_n_0, hgx_ldc_s, hgx_invvirtual_2, hgx_aft_e, hgx_aft_i, hgx_aft_l, hgx_aft_v, hgx_if_eq, hgx_iconst_3, hgx_goto, hgx_iconst_4, hgx_invvirtual_1, hgx_ret1, hgv146_0, hgr146_0, hgu146_0, hgv146_13, hgr146_13, hgu146_13, hgv146_26, hgr146_26, hgu146_26, hgv146_30, hgr146_30, hgu146_30, hgI_SI, hgI_SJ, hgJ_SI, hgJ_SJ, if_true, if_false, reduceIte, Nat.reduceEqDiff, hgWf_SI, hgWf_SJ, hgO_SI, hgO_SJ, hgAr_SI, hgAr_SJ, hgRp_SI, hgRp_SJ, hgN_SI, hgN_SJ, hgO_g, hgO_d, hgO_rl, hgO_r, hgO_0, hgO_1, hgO_64, hgO_298, hgO_300, hgCd_0, hgCd_1, hgCd_2, hgCd_3, hgCd_4, hgCd_5, hgRecv_O, hgRecv_99, List.length_cons, List.length_nil, Nat.zero_add, Nat.add_zero, Nat.le_refl, Nat.zero_le, and_self, or_true, true_or, true_and, and_true, ne_eq, not_false_eq_true, Nat.reduceLT, Nat.reduceLeDiff, Nat.reduceAdd, Nat.reduceEqDiff, hgn_eq, hgn_lt, hgn_le, if_true, if_false, reduceIte, Nat.not_lt_zero, hw, e1']
  | false =>
    obtain ⟨M1, e1, r1, f1⟩ := hgk_141b (X := X) (s := 3) h rfl (by omega) c3
    have e1' : hgWC X 141 [.ref 300, .ref 1003] M = some (.inl (.int (nI 0)), M1) := e1
    have w1 := r1.1
    cases c4 : tWd t p [97, 110, 121] with
    | true =>
      have l := tWd_c c4
      rw [sGrp_z (by omega)] at hs
      dsimp only at hs
      rw [c3, if_neg (by decide), c4, if_pos rfl] at hs
      cases hs
      obtain ⟨M2, e2, r2, f2⟩ := hgk_141a (X := X) (s := 4) r1 q1 (by omega) c4
      have e2' : hgWC X 141 [.ref 300, .ref 1004] M1 = some (.inl (.int (nI 1)), M2) := e2
      refine ⟨M2, ?_, r2, hgFg_t f1 f2⟩
      simp (maxDischargeDepth := 7) only [hgc146, hgM_t, hgM_f, hgM_n, hgx_aload_n_0, hgx_ldc_s, hgx_invvirtual_2, hgx_aft_e, hgx_aft_i, hgx_aft_l, hgx_aft_v, hgx_if_eq, hgx_iconst_3, hgx_goto, hgx_iconst_4, hgx_invvirtual_1, hgx_ret1, hgv146_0, hgr146_0, hgu146_0, hgv146_13, hgr146_13, hgu146_13, hgv146_26, hgr146_26, hgu146_26, hgv146_30, hgr146_30, hgu146_30, hgI_SI, hgI_SJ, hgJ_SI, hgJ_SJ, if_true, if_false, reduceIte, Nat.reduceEqDiff, hgWf_SI, hgWf_SJ, hgO_SI, hgO_SJ, hgAr_SI, hgAr_SJ, hgRp_SI, hgRp_SJ, hgN_SI, hgN_SJ, hgO_g, hgO_d, hgO_rl, hgO_r, hgO_0, hgO_1, hgO_64, hgO_298, hgO_300, hgCd_0, hgCd_1, hgCd_2, hgCd_3, hgCd_4, hgCd_5, hgRecv_O, hgRecv_99, List.length_cons, List.length_nil, Nat.zero_add, Nat.add_zero, Nat.le_refl, Nat.zero_le, and_self, or_true, true_or, true_and, and_true, ne_eq, not_false_eq_true, Nat.reduceLT, Nat.reduceLeDiff, Nat.reduceAdd, Nat.reduceEqDiff, hgn_eq, hgn_lt, hgn_le, if_true, if_false, reduceIte, Nat.not_lt_zero, hw, e1', w1, e2']
    | false =>
      obtain ⟨M2, e2, r2, f2⟩ := hgk_141b (X := X) (s := 4) r1 q1 (by omega) c4
      have e2' : hgWC X 141 [.ref 300, .ref 1004] M1 = some (.inl (.int (nI 0)), M2) := e2
      have w2 := r2.1
      rw [c3, c4, if_neg (by decide), if_neg (by decide)] at hs
      have hs2 : sGrp t p = some g := by
        cases hg : sGrp t p with
        | none => rw [hg] at hs; cases hs
        | some g' => rw [hg] at hs; exact hs
      obtain ⟨M3, e3, r3, f3⟩ := hgk_145a (X := X) r2 hp q1 hs2
      refine ⟨M3, ?_, r3, hgFg_t (hgFg_t f1 f2) f3⟩
      simp (maxDischargeDepth := 7) only [hgc146, hgM_t, hgM_f, hgM_n, hgx_aload_n_0, hgx_ldc_s, hgx_invvirtual_2, hgx_aft_e, hgx_aft_i, hgx_aft_l, hgx_aft_v, hgx_if_eq, hgx_iconst_3, hgx_goto, hgx_iconst_4, hgx_invvirtual_1, hgx_ret1, hgv146_0, hgr146_0, hgu146_0, hgv146_13, hgr146_13, hgu146_13, hgv146_26, hgr146_26, hgu146_26, hgv146_30, hgr146_30, hgu146_30, hgI_SI, hgI_SJ, hgJ_SI, hgJ_SJ, if_true, if_false, reduceIte, Nat.reduceEqDiff, hgWf_SI, hgWf_SJ, hgO_SI, hgO_SJ, hgAr_SI, hgAr_SJ, hgRp_SI, hgRp_SJ, hgN_SI, hgN_SJ, hgO_g, hgO_d, hgO_rl, hgO_r, hgO_0, hgO_1, hgO_64, hgO_298, hgO_300, hgCd_0, hgCd_1, hgCd_2, hgCd_3, hgCd_4, hgCd_5, hgRecv_O, hgRecv_99, List.length_cons, List.length_nil, Nat.zero_add, Nat.add_zero, Nat.le_refl, Nat.zero_le, and_self, or_true, true_or, true_and, and_true, ne_eq, not_false_eq_true, Nat.reduceLT, Nat.reduceLeDiff, Nat.reduceAdd, Nat.reduceEqDiff, hgn_eq, hgn_lt, hgn_le, if_true, if_false, reduceIte, Nat.not_lt_zero, hw, e1', w1, e2', w2, e3]
theorem hgk_146b (h : hgRr M t p) (hs : sSel t p = none) : ∃ M', hgWC X 146 [.ref 300] M = some (.inl (.int (-1)), M') ∧ hgEm M' (-2, tSk t p) ∧ hgFh M M' := by
  have hw := h.1
  have hp := h.2.2.2.1
  have q1 := tSk_i hp
  rw [sSel_g] at hs
  cases hg : sGrp t p with
  | some g => rw [hg] at hs; cases hs
  | none =>
    rw [hg] at hs
    dsimp only at hs
    cases c3 : tWd t p [110, 101, 116] with
    | true =>
      rw [c3, if_pos rfl] at hs
      cases hs
    | false =>
      rw [c3, if_neg (by decide)] at hs
      obtain ⟨M1, e1, r1, f1⟩ := hgk_141b (X := X) (s := 3) h rfl (by omega) c3
      have e1' : hgWC X 141 [.ref 300, .ref 1003] M = some (.inl (.int (nI 0)), M1) := e1
      have w1 := r1.1
      cases c4 : tWd t p [97, 110, 121] with
      | true =>
        rw [c4, if_pos rfl] at hs
        cases hs
      | false =>
        obtain ⟨M2, e2, r2, f2⟩ := hgk_141b (X := X) (s := 4) r1 q1 (by omega) c4
        have e2' : hgWC X 141 [.ref 300, .ref 1004] M1 = some (.inl (.int (nI 0)), M2) := e2
        have w2 := r2.1
        obtain ⟨M3, e3, r3, f3⟩ := hgk_145b (X := X) r2 hp q1 hg
        refine ⟨M3, ?_, r3, hgFh_t (hgFh_g (hgFg_t f1 f2)) f3⟩
        simp (maxDischargeDepth := 7) only [hgc146, hgM_t, hgM_f, hgM_n, hgx_aload_n_0, hgx_ldc_s, hgx_invvirtual_2, hgx_aft_e, hgx_aft_i, hgx_aft_l, hgx_aft_v, hgx_if_eq, hgx_iconst_3, hgx_goto, hgx_iconst_4, hgx_invvirtual_1, hgx_ret1, hgv146_0, hgr146_0, hgu146_0, hgv146_13, hgr146_13, hgu146_13, hgv146_26, hgr146_26, hgu146_26, hgv146_30, hgr146_30, hgu146_30, hgI_SI, hgI_SJ, hgJ_SI, hgJ_SJ, if_true, if_false, reduceIte, Nat.reduceEqDiff, hgWf_SI, hgWf_SJ, hgO_SI, hgO_SJ, hgAr_SI, hgAr_SJ, hgRp_SI, hgRp_SJ, hgN_SI, hgN_SJ, hgO_g, hgO_d, hgO_rl, hgO_r, hgO_0, hgO_1, hgO_64, hgO_298, hgO_300, hgCd_0, hgCd_1, hgCd_2, hgCd_3, hgCd_4, hgCd_5, hgRecv_O, hgRecv_99, List.length_cons, List.length_nil, Nat.zero_add, Nat.add_zero, Nat.le_refl, Nat.zero_le, and_self, or_true, true_or, true_and, and_true, ne_eq, not_false_eq_true, Nat.reduceLT, Nat.reduceLeDiff, Nat.reduceAdd, Nat.reduceEqDiff, hgn_eq, hgn_lt, hgn_le, if_true, if_false, reduceIte, Nat.not_lt_zero, hw, e1', w1, e2', w2, e3]
end HGRT2

/-! A STATEMENT AND THE HEAD, the reference's. -/
section HGRSM
variable {X : hgX} {M M' M0 M1 M2 M3 Mo : hgMem} {t : hgTxt} {i j k a b n p q N l s lo hi g w d c m : Nat} {x y x1 x2 x3 x4 x5 : Int32} {D V : hgV} {f f' : Nat → Bool} {A : List Value} {z : hgPt} {e : Int32 × Nat} {r : hgQt} {u u2 : Option Value}
theorem hgk_153x (h : hgOur M t r) : ∃ M', hgW X 153 141 [some (.ref 300), u] [] (0, 0) M = some (.inl .null, M') ∧ hgOur M' t (sB r (sSem t)) ∧ hgFh M M' := by
  have hw := hgOur_w h
  obtain ⟨M1, e1, o1, f1⟩ := hgk_142r (X := X) h
  refine ⟨M1, ?_, o1, f1⟩
  rw [hgu153_141]
  simp (maxDischargeDepth := 7) only [hgM_t, hgM_f, hgM_n, hgx_aload_n_0, hgx_invvirtual_1, hgx_aft_e, hgx_aft_i, hgx_aft_l, hgx_aft_v, hgx_pop_i, hgx_pop_f, hgx_pop_r, hgx_get0, hgx_istore_n_1i, hgx_istore_n_1r, hgx_istore_n_1f, hgx_istore_n_1n, hgx_istore_n_1l, hgx_ldc_s, hgx_invvirtual_2, hgx_if_eq, hgx_iload_n_1, hgx_goto, hgx_iconst_1, hgx_invvirtual_3, hgx_iconst_0, hgs_get_8_9, hgx_bipush_6, hgx_sipush_999, hgx_bipush_m2, hgx_bipush_59, hgx_vret, hgv153_0, hgr153_0, hgu153_0, hgv153_27, hgr153_27, hgu153_27, hgv153_45, hgr153_45, hgu153_45, hgv153_63, hgr153_63, hgu153_63, hgv153_85, hgr153_85, hgu153_85, hgv153_101, hgr153_101, hgu153_101, hgv153_134, hgr153_134, hgu153_134, hgv153_141, hgr153_141, hgu153_141, hgI_SI, hgI_SJ, hgJ_SI, hgJ_SJ, if_true, if_false, reduceIte, Nat.reduceEqDiff, hgWf_SI, hgWf_SJ, hgO_SI, hgO_SJ, hgAr_SI, hgAr_SJ, hgRp_SI, hgRp_SJ, hgN_SI, hgN_SJ, hgO_g, hgO_d, hgO_rl, hgO_r, hgO_0, hgO_1, hgO_64, hgO_298, hgO_300, hgCd_0, hgCd_1, hgCd_2, hgCd_3, hgCd_4, hgCd_5, hgRecv_O, hgRecv_99, List.length_cons, List.length_nil, Nat.zero_add, Nat.add_zero, Nat.le_refl, Nat.zero_le, and_self, or_true, true_or, true_and, and_true, ne_eq, not_false_eq_true, Nat.reduceLT, Nat.reduceLeDiff, Nat.reduceAdd, Nat.reduceEqDiff, hgn_eq, hgn_lt, hgn_le, if_true, if_false, reduceIte, Nat.not_lt_zero, hw, e1]
theorem hgk_153y (h : hgDr X m A M1 t r) (f1 : hgFh M M1) (k : ∀ M2, hgWC X m A M1 = some (.inl .null, M2) → hgWf M2 → hgWC X 153 [.ref 300] M = hgW X 153 141 [some (.ref 300), none] [] (0, 0) M2) : hgDr X 153 [.ref 300] M t (sB r (sSem t)) := by
  obtain ⟨M2, e2, o2, f2⟩ := h
  obtain ⟨M3, e3, o3, f3⟩ := hgk_153x (X := X) (u := none) o2
  exact ⟨M3, (k M2 e2 (hgOur_w o2)).trans e3, o3, hgFh_t (hgFh_t f1 f2) f3⟩
/-- the limit -/
theorem hgk_153m (h : hgOkr M t (p, D, f)) (hk : hgDk D) : ∃ y M1 M2, hgWC X 144 [.ref 300, .int (nI 1), .int (nI s)] M = some (.inl .null, M1) ∧ hgWf M1 ∧ hgWC X 143 [.ref 300, .int (nI 1), .int (nI 999)] M1 = some (.inl (.int y), M2) ∧ hgWf M2 ∧ hgOur (hgSI M2 303 6 y) t (sLim t p s D f) ∧ hgFh M (hgSI M2 303 6 y) := by
  have hr := h.1
  unfold sLim
  cases hf : f 1 with
  | true =>
    rw [if_pos rfl]
    obtain ⟨M1, e1, em, f1⟩ := hgk_144b (X := X) (n := s) hr h.2.2.1 (show 1 < 10 by omega) hf
    exact ⟨nI 0, M1, M1, e1, em.1, hgk_143e em, em.1, hgEm_d em, hgFh_d f1⟩
  | false =>
    rw [if_neg (by decide)]
    have k144 := hgk_144a (X := X) (y := nI s) hr h.2.2.1 (show 1 < 10 by omega) hf
    have ok1 := hgOkr_17 h (show 1 < 10 by omega)
    have f1 : hgFh M (hgSI M 300 17 (hgI M 300 17 ||| (nI 1 <<< (nI 1 &&& 31)))) := hgFh_s hgFh_r (by omega)
    cases hn1 : sNum t p 1 999 with
    | inr e =>
      obtain ⟨y1, M2, e2, em, f2⟩ := hgk_143b (X := X) ok1.1 (by omega) (by omega) hn1
      exact ⟨y1, _, M2, k144, ok1.1.1, e2, em.1, hgEm_d em, hgFh_d (hgFh_t f1 f2)⟩
    | inl v =>
      obtain ⟨M2, e2, r2, s2, l1, l2, f2⟩ := hgk_143a (X := X) ok1.1 (by omega) (by omega) hn1
      have ok2 := hgOkr_g ok1 f2 r2
      refine ⟨nI v.1, _, M2, k144, ok1.1.1, e2, r2.1, ?_, hgFh_d (hgFh_t f1 (hgFh_g f2))⟩
      exact hgOkr_d ok2 (hgRD_s6 (hgDk_sm hk) ok2.2.1) (hgFn_SI hgFn_r rfl)
/-- wake ports -/
theorem hgk_153w (h : hgOkr M t (p, D, f)) (hk : hgDk D) : ∃ M1 M2, hgWC X 144 [.ref 300, .int (nI 0), .int (nI s)] M = some (.inl .null, M1) ∧ hgWf M1 ∧ hgWC X 151 [.ref 300] M1 = some (.inl .null, M2) ∧ hgOur M2 t (sWak t p s D f) ∧ hgFh M M2 := by
  have hr := h.1
  have n8 := hk.2.2.1
  unfold sWak
  cases hf : f 0 with
  | true =>
    rw [if_pos rfl]
    obtain ⟨M1, e1, em, f1⟩ := hgk_144b (X := X) (n := s) hr h.2.2.1 (show 0 < 10 by omega) hf
    exact ⟨M1, M1, e1, em.1, hgk_151e em, em, f1⟩
  | false =>
    rw [if_neg (by decide)]
    have k144 := hgk_144a (X := X) (y := nI s) hr h.2.2.1 (show 0 < 10 by omega) hf
    have ok1 := hgOkr_17 h (show 0 < 10 by omega)
    have f1 : hgFh M (hgSI M 300 17 (hgI M 300 17 ||| (nI 1 <<< (nI 0 &&& 31)))) := hgFh_s hgFh_r (by omega)
    obtain ⟨M2, e2, o2, f2⟩ := hgk_151l (X := X) (8 - vW D) _ p D none (by omega) ok1 hk
    refine ⟨_, M2, k144, ok1.1.1, ?_, o2, hgFh_t f1 f2⟩
    rw [hgc151]
    exact e2
theorem hgk_153 (h : hgOkr M t (p, D, f)) (hk : hgDk D) : hgDr X 153 [.ref 300] M t (sB (sSta t p D f) (sSem t)) := by
  have hr := h.1
  have hw := hr.1
  have hp := hr.2.2.2.1
  have q1 := tSk_i hp
  obtain ⟨M0, e0, r0, f0⟩ := hgk_138 (X := X) hr
  have ok0 := hgOkr_g h f0 r0
  have w0 := r0.1
  have p0 := r0.2.2.1
  unfold sSta
  cases c1 : tWd t p [100, 101, 118, 105, 99, 101] with
  | true =>
    rw [if_pos rfl]
    obtain ⟨M1, e1, r1, f1⟩ := hgk_141a (X := X) (s := 6) r0 q1 (by omega) c1
    have e1' : hgWC X 141 [.ref 300, .ref 1006] M0 = some (.inl (.int (nI 1)), M1) := e1
    have ok1 := hgOkr_g ok0 f1 r1
    have w1 := r1.1
    refine hgk_153y (hgk_147 (X := X) (s := tSk t p) ok1 hk) (hgFh_g (hgFg_t f0 f1)) (fun M2 e2 w2 => ?_)
    simp (maxDischargeDepth := 7) only [hgc153, hgM_t, hgM_f, hgM_n, hgx_aload_n_0, hgx_invvirtual_1, hgx_aft_e, hgx_aft_i, hgx_aft_l, hgx_aft_v, hgx_pop_i, hgx_pop_f, hgx_pop_r, hgx_get0, hgx_istore_n_1i, hgx_istore_n_1r, hgx_istore_n_1f, hgx_istore_n_1n, hgx_istore_n_1l, hgx_ldc_s, hgx_invvirtual_2, hgx_if_eq, hgx_iload_n_1, hgx_goto, hgx_iconst_1, hgx_invvirtual_3, hgx_iconst_0, hgs_get_8_9, hgx_bipush_6, hgx_sipush_999, hgx_bipush_m2, hgx_bipush_59, hgx_vret, hgv153_0, hgr153_0, hgu153_0, hgv153_27, hgr153_27, hgu153_27, hgv153_45, hgr153_45, hgu153_45, hgv153_63, hgr153_63, hgu153_63, hgv153_85, hgr153_85, hgu153_85, hgv153_101, hgr153_101, hgu153_101, hgv153_134, hgr153_134, hgu153_134, hgv153_141, ← hgu153_141, hgI_SI, hgI_SJ, hgJ_SI, hgJ_SJ, if_true, if_false, reduceIte, Nat.reduceEqDiff, hgWf_SI, hgWf_SJ, hgO_SI, hgO_SJ, hgAr_SI, hgAr_SJ, hgRp_SI, hgRp_SJ, hgN_SI, hgN_SJ, hgO_g, hgO_d, hgO_rl, hgO_r, hgO_0, hgO_1, hgO_64, hgO_298, hgO_300, hgCd_0, hgCd_1, hgCd_2, hgCd_3, hgCd_4, hgCd_5, hgRecv_O, hgRecv_99, List.length_cons, List.length_nil, Nat.zero_add, Nat.add_zero, Nat.le_refl, Nat.zero_le, and_self, or_true, true_or, true_and, and_true, ne_eq, not_false_eq_true, Nat.reduceLT, Nat.reduceLeDiff, Nat.reduceAdd, Nat.reduceEqDiff, hgn_eq, hgn_lt, hgn_le, if_true, if_false, reduceIte, Nat.not_lt_zero, hw, e0, w0, p0, e1', w1, e2, w2]
  | false =>
  rw [if_neg (by decide)]
  obtain ⟨M1, e1, r1, f1⟩ := hgk_141b (X := X) (s := 6) r0 q1 (by omega) c1
  have e1' : hgWC X 141 [.ref 300, .ref 1006] M0 = some (.inl (.int (nI 0)), M1) := e1
  have ok1 := hgOkr_g ok0 f1 r1
  have w1 := r1.1
  have F1 := hgFg_t f0 f1
  cases c2 : tWd t p [97, 108, 108, 111, 119] with
  | true =>
    rw [if_pos rfl]
    obtain ⟨M2, e2, r2, f2⟩ := hgk_141a (X := X) (s := 7) r1 q1 (by omega) c2
    have e2' : hgWC X 141 [.ref 300, .ref 1007] M1 = some (.inl (.int (nI 1)), M2) := e2
    have ok2 := hgOkr_g ok1 f2 r2
    have w2 := r2.1
    refine hgk_153y (hgk_149 (X := X) (s := tSk t p) (b := true) ok2 hk) (hgFh_g (hgFg_t F1 f2)) (fun M9 e9 w9 => ?_)
    rw [hgB_t] at e9
    simp (maxDischargeDepth := 7) only [hgc153, hgM_t, hgM_f, hgM_n, hgx_aload_n_0, hgx_invvirtual_1, hgx_aft_e, hgx_aft_i, hgx_aft_l, hgx_aft_v, hgx_pop_i, hgx_pop_f, hgx_pop_r, hgx_get0, hgx_istore_n_1i, hgx_istore_n_1r, hgx_istore_n_1f, hgx_istore_n_1n, hgx_istore_n_1l, hgx_ldc_s, hgx_invvirtual_2, hgx_if_eq, hgx_iload_n_1, hgx_goto, hgx_iconst_1, hgx_invvirtual_3, hgx_iconst_0, hgs_get_8_9, hgx_bipush_6, hgx_sipush_999, hgx_bipush_m2, hgx_bipush_59, hgx_vret, hgv153_0, hgr153_0, hgu153_0, hgv153_27, hgr153_27, hgu153_27, hgv153_45, hgr153_45, hgu153_45, hgv153_63, hgr153_63, hgu153_63, hgv153_85, hgr153_85, hgu153_85, hgv153_101, hgr153_101, hgu153_101, hgv153_134, hgr153_134, hgu153_134, hgv153_141, ← hgu153_141, hgI_SI, hgI_SJ, hgJ_SI, hgJ_SJ, if_true, if_false, reduceIte, Nat.reduceEqDiff, hgWf_SI, hgWf_SJ, hgO_SI, hgO_SJ, hgAr_SI, hgAr_SJ, hgRp_SI, hgRp_SJ, hgN_SI, hgN_SJ, hgO_g, hgO_d, hgO_rl, hgO_r, hgO_0, hgO_1, hgO_64, hgO_298, hgO_300, hgCd_0, hgCd_1, hgCd_2, hgCd_3, hgCd_4, hgCd_5, hgRecv_O, hgRecv_99, List.length_cons, List.length_nil, Nat.zero_add, Nat.add_zero, Nat.le_refl, Nat.zero_le, and_self, or_true, true_or, true_and, and_true, ne_eq, not_false_eq_true, Nat.reduceLT, Nat.reduceLeDiff, Nat.reduceAdd, Nat.reduceEqDiff, hgn_eq, hgn_lt, hgn_le, if_true, if_false, reduceIte, Nat.not_lt_zero, hw, e0, w0, p0, e1', w1, e2', w2, e9, w9]
  | false =>
  rw [if_neg (by decide)]
  obtain ⟨M2, e2, r2, f2⟩ := hgk_141b (X := X) (s := 7) r1 q1 (by omega) c2
  have e2' : hgWC X 141 [.ref 300, .ref 1007] M1 = some (.inl (.int (nI 0)), M2) := e2
  have ok2 := hgOkr_g ok1 f2 r2
  have w2 := r2.1
  have F2 := hgFg_t F1 f2
  cases c3 : tWd t p [100, 101, 110, 121] with
  | true =>
    rw [if_pos rfl]
    obtain ⟨M3, e3, r3, f3⟩ := hgk_141a (X := X) (s := 8) r2 q1 (by omega) c3
    have e3' : hgWC X 141 [.ref 300, .ref 1008] M2 = some (.inl (.int (nI 1)), M3) := e3
    have ok3 := hgOkr_g ok2 f3 r3
    have w3 := r3.1
    refine hgk_153y (hgk_149 (X := X) (s := tSk t p) (b := false) ok3 hk) (hgFh_g (hgFg_t F2 f3)) (fun M9 e9 w9 => ?_)
    rw [hgB_f] at e9
    simp (maxDischargeDepth := 7) only [hgc153, hgM_t, hgM_f, hgM_n, hgx_aload_n_0, hgx_invvirtual_1, hgx_aft_e, hgx_aft_i, hgx_aft_l, hgx_aft_v, hgx_pop_i, hgx_pop_f, hgx_pop_r, hgx_get0, hgx_istore_n_1i, hgx_istore_n_1r, hgx_istore_n_1f, hgx_istore_n_1n, hgx_istore_n_1l, hgx_ldc_s, hgx_invvirtual_2, hgx_if_eq, hgx_iload_n_1, hgx_goto, hgx_iconst_1, hgx_invvirtual_3, hgx_iconst_0, hgs_get_8_9, hgx_bipush_6, hgx_sipush_999, hgx_bipush_m2, hgx_bipush_59, hgx_vret, hgv153_0, hgr153_0, hgu153_0, hgv153_27, hgr153_27, hgu153_27, hgv153_45, hgr153_45, hgu153_45, hgv153_63, hgr153_63, hgu153_63, hgv153_85, hgr153_85, hgu153_85, hgv153_101, hgr153_101, hgu153_101, hgv153_134, hgr153_134, hgu153_134, hgv153_141, ← hgu153_141, hgI_SI, hgI_SJ, hgJ_SI, hgJ_SJ, if_true, if_false, reduceIte, Nat.reduceEqDiff, hgWf_SI, hgWf_SJ, hgO_SI, hgO_SJ, hgAr_SI, hgAr_SJ, hgRp_SI, hgRp_SJ, hgN_SI, hgN_SJ, hgO_g, hgO_d, hgO_rl, hgO_r, hgO_0, hgO_1, hgO_64, hgO_298, hgO_300, hgCd_0, hgCd_1, hgCd_2, hgCd_3, hgCd_4, hgCd_5, hgRecv_O, hgRecv_99, List.length_cons, List.length_nil, Nat.zero_add, Nat.add_zero, Nat.le_refl, Nat.zero_le, and_self, or_true, true_or, true_and, and_true, ne_eq, not_false_eq_true, Nat.reduceLT, Nat.reduceLeDiff, Nat.reduceAdd, Nat.reduceEqDiff, hgn_eq, hgn_lt, hgn_le, if_true, if_false, reduceIte, Nat.not_lt_zero, hw, e0, w0, p0, e1', w1, e2', w2, e3', w3, e9, w9]
  | false =>
  rw [if_neg (by decide)]
  obtain ⟨M3, e3, r3, f3⟩ := hgk_141b (X := X) (s := 8) r2 q1 (by omega) c3
  have e3' : hgWC X 141 [.ref 300, .ref 1008] M2 = some (.inl (.int (nI 0)), M3) := e3
  have ok3 := hgOkr_g ok2 f3 r3
  have w3 := r3.1
  have F3 := hgFg_t F2 f3
  cases c4 : tWd t p [119, 97, 107, 101] with
  | true =>
    rw [if_pos rfl]
    obtain ⟨M4, e4, r4, f4⟩ := hgk_141a (X := X) (s := 9) r3 q1 (by omega) c4
    have e4' : hgWC X 141 [.ref 300, .ref 1009] M3 = some (.inl (.int (nI 1)), M4) := e4
    have ok4 := hgOkr_g ok3 f4 r4
    have w4 := r4.1
    obtain ⟨M5, M6, e5, w5, e6, o6, f6⟩ := hgk_153w (X := X) (s := tSk t p) ok4 hk
    have w6 := hgOur_w o6
    obtain ⟨M7, e7, o7, f7⟩ := hgk_153x (X := X) (u := none) o6
    refine ⟨M7, ?_, o7, hgFh_t (hgFh_t (hgFh_g (hgFg_t F3 f4)) f6) f7⟩
    refine Eq.trans ?_ e7
    simp (maxDischargeDepth := 7) only [hgc153, hgM_t, hgM_f, hgM_n, hgx_aload_n_0, hgx_invvirtual_1, hgx_aft_e, hgx_aft_i, hgx_aft_l, hgx_aft_v, hgx_pop_i, hgx_pop_f, hgx_pop_r, hgx_get0, hgx_istore_n_1i, hgx_istore_n_1r, hgx_istore_n_1f, hgx_istore_n_1n, hgx_istore_n_1l, hgx_ldc_s, hgx_invvirtual_2, hgx_if_eq, hgx_iload_n_1, hgx_goto, hgx_iconst_1, hgx_invvirtual_3, hgx_iconst_0, hgs_get_8_9, hgx_bipush_6, hgx_sipush_999, hgx_bipush_m2, hgx_bipush_59, hgx_vret, hgv153_0, hgr153_0, hgu153_0, hgv153_27, hgr153_27, hgu153_27, hgv153_45, hgr153_45, hgu153_45, hgv153_63, hgr153_63, hgu153_63, hgv153_85, hgr153_85, hgu153_85, hgv153_101, hgr153_101, hgu153_101, hgv153_134, hgr153_134, hgu153_134, hgv153_141, ← hgu153_141, hgI_SI, hgI_SJ, hgJ_SI, hgJ_SJ, if_true, if_false, reduceIte, Nat.reduceEqDiff, hgWf_SI, hgWf_SJ, hgO_SI, hgO_SJ, hgAr_SI, hgAr_SJ, hgRp_SI, hgRp_SJ, hgN_SI, hgN_SJ, hgO_g, hgO_d, hgO_rl, hgO_r, hgO_0, hgO_1, hgO_64, hgO_298, hgO_300, hgCd_0, hgCd_1, hgCd_2, hgCd_3, hgCd_4, hgCd_5, hgRecv_O, hgRecv_99, List.length_cons, List.length_nil, Nat.zero_add, Nat.add_zero, Nat.le_refl, Nat.zero_le, and_self, or_true, true_or, true_and, and_true, ne_eq, not_false_eq_true, Nat.reduceLT, Nat.reduceLeDiff, Nat.reduceAdd, Nat.reduceEqDiff, hgn_eq, hgn_lt, hgn_le, if_true, if_false, reduceIte, Nat.not_lt_zero, hw, e0, w0, p0, e1', w1, e2', w2, e3', w3, e4', w4, e5, w5, e6, w6]
  | false =>
  rw [if_neg (by decide)]
  obtain ⟨M4, e4, r4, f4⟩ := hgk_141b (X := X) (s := 9) r3 q1 (by omega) c4
  have e4' : hgWC X 141 [.ref 300, .ref 1009] M3 = some (.inl (.int (nI 0)), M4) := e4
  have ok4 := hgOkr_g ok3 f4 r4
  have w4 := r4.1
  have F4 := hgFg_t F3 f4
  cases c5 : tWd t p [113, 117, 105, 101, 116] with
  | true =>
    rw [if_pos rfl]
    obtain ⟨M5, e5, r5, f5⟩ := hgk_141a (X := X) (s := 10) r4 q1 (by omega) c5
    have e5' : hgWC X 141 [.ref 300, .ref 1010] M4 = some (.inl (.int (nI 1)), M5) := e5
    have ok5 := hgOkr_g ok4 f5 r5
    have w5 := r5.1
    refine hgk_153y (hgk_152 (X := X) ok5 hk) (hgFh_g (hgFg_t F4 f5)) (fun M9 e9 w9 => ?_)
    simp (maxDischargeDepth := 7) only [hgc153, hgM_t, hgM_f, hgM_n, hgx_aload_n_0, hgx_invvirtual_1, hgx_aft_e, hgx_aft_i, hgx_aft_l, hgx_aft_v, hgx_pop_i, hgx_pop_f, hgx_pop_r, hgx_get0, hgx_istore_n_1i, hgx_istore_n_1r, hgx_istore_n_1f, hgx_istore_n_1n, hgx_istore_n_1l, hgx_ldc_s, hgx_invvirtual_2, hgx_if_eq, hgx_iload_n_1, hgx_goto, hgx_iconst_1, hgx_invvirtual_3, hgx_iconst_0, hgs_get_8_9, hgx_bipush_6, hgx_sipush_999, hgx_bipush_m2, hgx_bipush_59, hgx_vret, hgv153_0, hgr153_0, hgu153_0, hgv153_27, hgr153_27, hgu153_27, hgv153_45, hgr153_45, hgu153_45, hgv153_63, hgr153_63, hgu153_63, hgv153_85, hgr153_85, hgu153_85, hgv153_101, hgr153_101, hgu153_101, hgv153_134, hgr153_134, hgu153_134, hgv153_141, ← hgu153_141, hgI_SI, hgI_SJ, hgJ_SI, hgJ_SJ, if_true, if_false, reduceIte, Nat.reduceEqDiff, hgWf_SI, hgWf_SJ, hgO_SI, hgO_SJ, hgAr_SI, hgAr_SJ, hgRp_SI, hgRp_SJ, hgN_SI, hgN_SJ, hgO_g, hgO_d, hgO_rl, hgO_r, hgO_0, hgO_1, hgO_64, hgO_298, hgO_300, hgCd_0, hgCd_1, hgCd_2, hgCd_3, hgCd_4, hgCd_5, hgRecv_O, hgRecv_99, List.length_cons, List.length_nil, Nat.zero_add, Nat.add_zero, Nat.le_refl, Nat.zero_le, and_self, or_true, true_or, true_and, and_true, ne_eq, not_false_eq_true, Nat.reduceLT, Nat.reduceLeDiff, Nat.reduceAdd, Nat.reduceEqDiff, hgn_eq, hgn_lt, hgn_le, if_true, if_false, reduceIte, Nat.not_lt_zero, hw, e0, w0, p0, e1', w1, e2', w2, e3', w3, e4', w4, e5', w5, e9, w9]
  | false =>
  rw [if_neg (by decide)]
  obtain ⟨M5, e5, r5, f5⟩ := hgk_141b (X := X) (s := 10) r4 q1 (by omega) c5
  have e5' : hgWC X 141 [.ref 300, .ref 1010] M4 = some (.inl (.int (nI 0)), M5) := e5
  have ok5 := hgOkr_g ok4 f5 r5
  have w5 := r5.1
  have F5 := hgFg_t F4 f5
  cases c6 : tWd t p [108, 105, 109, 105, 116] with
  | true =>
    rw [if_pos rfl]
    obtain ⟨M6, e6, r6, f6⟩ := hgk_141a (X := X) (s := 11) r5 q1 (by omega) c6
    have e6' : hgWC X 141 [.ref 300, .ref 1011] M5 = some (.inl (.int (nI 1)), M6) := e6
    have ok6 := hgOkr_g ok5 f6 r6
    have w6 := r6.1
    obtain ⟨y, M7, M8, e7, w7, e8, w8, o8, f8⟩ := hgk_153m (X := X) (s := tSk t p) ok6 hk
    have a8 := hgAr_303 w8
    obtain ⟨M9, e9, o9, f9⟩ := hgk_153x (X := X) (u := none) o8
    refine ⟨M9, ?_, o9, hgFh_t (hgFh_t (hgFh_g (hgFg_t F5 f6)) f8) f9⟩
    refine Eq.trans ?_ e9
    simp (maxDischargeDepth := 7) only [hgc153, hgM_t, hgM_f, hgM_n, hgx_aload_n_0, hgx_invvirtual_1, hgx_aft_e, hgx_aft_i, hgx_aft_l, hgx_aft_v, hgx_pop_i, hgx_pop_f, hgx_pop_r, hgx_get0, hgx_istore_n_1i, hgx_istore_n_1r, hgx_istore_n_1f, hgx_istore_n_1n, hgx_istore_n_1l, hgx_ldc_s, hgx_invvirtual_2, hgx_if_eq, hgx_iload_n_1, hgx_goto, hgx_iconst_1, hgx_invvirtual_3, hgx_iconst_0, hgs_get_8_9, hgx_bipush_6, hgx_sipush_999, hgx_bipush_m2, hgx_bipush_59, hgx_vret, hgv153_0, hgr153_0, hgu153_0, hgv153_27, hgr153_27, hgu153_27, hgv153_45, hgr153_45, hgu153_45, hgv153_63, hgr153_63, hgu153_63, hgv153_85, hgr153_85, hgu153_85, hgv153_101, hgr153_101, hgu153_101, hgv153_134, hgr153_134, hgu153_134, hgv153_141, ← hgu153_141, hgI_SI, hgI_SJ, hgJ_SI, hgJ_SJ, if_true, if_false, reduceIte, Nat.reduceEqDiff, hgWf_SI, hgWf_SJ, hgO_SI, hgO_SJ, hgAr_SI, hgAr_SJ, hgRp_SI, hgRp_SJ, hgN_SI, hgN_SJ, hgO_g, hgO_d, hgO_rl, hgO_r, hgO_0, hgO_1, hgO_64, hgO_298, hgO_300, hgCd_0, hgCd_1, hgCd_2, hgCd_3, hgCd_4, hgCd_5, hgRecv_O, hgRecv_99, List.length_cons, List.length_nil, Nat.zero_add, Nat.add_zero, Nat.le_refl, Nat.zero_le, and_self, or_true, true_or, true_and, and_true, ne_eq, not_false_eq_true, Nat.reduceLT, Nat.reduceLeDiff, Nat.reduceAdd, Nat.reduceEqDiff, hgn_eq, hgn_lt, hgn_le, if_true, if_false, reduceIte, Nat.not_lt_zero, hgs_aa_d, hgs_aa_r, hgs_aa_h, hgs_aa_m, hgs_aa_t, hgs_ld_wp, hgs_st_wp, hgs_ld_qf, hgs_st_qf, hgs_ld_qt, hgs_st_qt, hgs_ld_2, hgs_st_2, hgs_ld_3, hgs_st_3, hgs_ld_4, hgs_st_4, hgs_ld_301, hgs_st_301, hgs_ld_D, hgs_st_D, hgs_ld_s, hgs_ld_T, hgs_st_T, hgs_ld_o, hgs_st_o, hgs_ld_b, hgs_st_b, hgs_ld_z, hgs_st_z, hgs_al_b, hgx_alen_s, hw, e0, w0, p0, e1', w1, e2', w2, e3', w3, e4', w4, e5', w5, e6', w6, e7, w7, e8, w8, a8]
  | false =>
  rw [if_neg (by decide)]
  obtain ⟨M6, e6, r6, f6⟩ := hgk_141b (X := X) (s := 11) r5 q1 (by omega) c6
  have e6' : hgWC X 141 [.ref 300, .ref 1011] M5 = some (.inl (.int (nI 0)), M6) := e6
  have w6 := r6.1
  have k137 := hgk_137 (X := X) (x := -2) (y := nI (tSk t p)) r6
  have em : hgEm (hgSI (hgSI M6 300 5 (-2)) 300 6 (nI (tSk t p))) (-2, tSk t p) := hgEm_i r6 (Or.inl rfl)
  have f7 : hgFh M (hgSI (hgSI M6 300 5 (-2)) 300 6 (nI (tSk t p))) := hgFh_s (hgFh_s (hgFh_g (hgFg_t F5 f6)) (by omega)) (by omega)
  obtain ⟨M7, e7, o7, f8⟩ := hgk_153x (X := X) (u := some (.int (nI (tSk t p)))) (r := .inr (-2, tSk t p)) (t := t) em
  refine ⟨M7, ?_, o7, hgFh_t f7 f8⟩
  refine Eq.trans ?_ e7
  simp (maxDischargeDepth := 7) only [hgc153, hgM_t, hgM_f, hgM_n, hgx_aload_n_0, hgx_invvirtual_1, hgx_aft_e, hgx_aft_i, hgx_aft_l, hgx_aft_v, hgx_pop_i, hgx_pop_f, hgx_pop_r, hgx_get0, hgx_istore_n_1i, hgx_istore_n_1r, hgx_istore_n_1f, hgx_istore_n_1n, hgx_istore_n_1l, hgx_ldc_s, hgx_invvirtual_2, hgx_if_eq, hgx_iload_n_1, hgx_goto, hgx_iconst_1, hgx_invvirtual_3, hgx_iconst_0, hgs_get_8_9, hgx_bipush_6, hgx_sipush_999, hgx_bipush_m2, hgx_bipush_59, hgx_vret, hgv153_0, hgr153_0, hgu153_0, hgv153_27, hgr153_27, hgu153_27, hgv153_45, hgr153_45, hgu153_45, hgv153_63, hgr153_63, hgu153_63, hgv153_85, hgr153_85, hgu153_85, hgv153_101, hgr153_101, hgu153_101, hgv153_134, hgr153_134, hgu153_134, hgv153_141, ← hgu153_141, hgI_SI, hgI_SJ, hgJ_SI, hgJ_SJ, if_true, if_false, reduceIte, Nat.reduceEqDiff, hgWf_SI, hgWf_SJ, hgO_SI, hgO_SJ, hgAr_SI, hgAr_SJ, hgRp_SI, hgRp_SJ, hgN_SI, hgN_SJ, hgO_g, hgO_d, hgO_rl, hgO_r, hgO_0, hgO_1, hgO_64, hgO_298, hgO_300, hgCd_0, hgCd_1, hgCd_2, hgCd_3, hgCd_4, hgCd_5, hgRecv_O, hgRecv_99, List.length_cons, List.length_nil, Nat.zero_add, Nat.add_zero, Nat.le_refl, Nat.zero_le, and_self, or_true, true_or, true_and, and_true, ne_eq, not_false_eq_true, Nat.reduceLT, Nat.reduceLeDiff, Nat.reduceAdd, Nat.reduceEqDiff, hgn_eq, hgn_lt, hgn_le, if_true, if_false, reduceIte, Nat.not_lt_zero, hw, e0, w0, p0, e1', w1, e2', w2, e3', w3, e4', w4, e5', w5, e6', w6, k137]
end HGRSM

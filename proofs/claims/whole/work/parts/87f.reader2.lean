/-! STATEMENTS, the component's: rules, wake ports, quiet hours, the limit. -/
section HGRD2
variable {X : hgX} {M M' M0 M1 M2 M3 Mo : hgMem} {t : hgTxt} {i j k a b n p q N l s lo hi g w d c m : Nat} {x y v : Int32} {D V : hgV} {f f' : Nat → Bool} {A : List Value} {z : hgPt} {e : Int32 × Nat} {r : hgQt}
theorem hgk_76 {b : Bool} (h : hgOkc M t (p, D, f)) (hk : hgDk D) (h3 : hgI M 298 3 = nI s) : hgDo X 76 [.ref 298, .int (hgB b)] M t (sRul t p s b D f) := by
  have hw := h.1.1
  have g35 := hg35
  have hn : hgI M (35 + 12) 1 = nI (vR D) := h.2.1.2.2.1
  have n12 := hk.2.1
  have m2 : ¬ nI 0 ≤ (-1 : Int32) := by decide
  have o47 : hgO M 47 5 := hgO_rl hw g35
  have k49 := hgk_49 (X := X) hw g35 hn n12
  unfold sRul
  by_cases q : vR D = 12
  · rw [if_pos q]
    rw [decide_eq_true (by omega), hgB_t] at k49
    have k49' : hgWC X 49 [.ref 47] M = some (.inl (.int (nI 1)), M) := k49
    have k62 := hgk_62 (X := X) (x := -4) hw
    refine hgDo_f ?_ hw h3 hgFd_r
    simp (maxDischargeDepth := 7) only [hgc76, hgM_t, hgM_f, hgM_n, hgx_aload_n_0, hgs_get_6_5, hgs_get_1_7, hgx_invvirtual_1, hgx_aft_e, hgx_aft_i, hgx_aft_l, hgx_aft_v, hgx_if_eq, hgx_bipush_m4, hgx_invvirtual_2, hgx_ret3, hgx_istore_n_2i, hgx_istore_n_2r, hgx_istore_n_2f, hgx_istore_n_2n, hgx_istore_n_2l, hgx_iload_n_2, hgx_if_ge, hgx_bipush_m2, hgx_istore_n_3i, hgx_istore_n_3r, hgx_istore_n_3f, hgx_istore_n_3n, hgx_istore_n_3l, hgx_iload_n_3, hgx_iconst_0, hgx_sipush_999, hgx_invvirtual_3, hgx_if_ne, hgx_get0, hgx_istore_4i, hgx_istore_4r, hgx_istore_4f, hgx_istore_4n, hgx_istore_4l, hgx_iload_4, hgx_iload_n_1, hgx_invvirtual_6, hgx_iconst_1, hgv76_0, hgr76_0, hgu76_0, hgv76_20, hgr76_20, hgu76_20, hgv76_36, hgr76_36, hgu76_36, hgv76_52, hgr76_52, hgu76_52, hgv76_65, hgr76_65, hgu76_65, hgv76_85, hgr76_85, hgu76_85, hgI_SI, hgI_SJ, hgJ_SI, hgJ_SJ, if_true, if_false, reduceIte, Nat.reduceEqDiff, hgWf_SI, hgWf_SJ, hgO_SI, hgO_SJ, hgAr_SI, hgAr_SJ, hgRp_SI, hgRp_SJ, hgN_SI, hgN_SJ, hgO_g, hgO_d, hgO_rl, hgO_r, hgO_0, hgO_1, hgO_64, hgO_298, hgO_300, hgCd_0, hgCd_1, hgCd_2, hgCd_3, hgCd_4, hgCd_5, hgRecv_O, hgRecv_99, List.length_cons, List.length_nil, Nat.zero_add, Nat.add_zero, Nat.le_refl, Nat.zero_le, and_self, or_true, true_or, true_and, and_true, ne_eq, not_false_eq_true, Nat.reduceLT, Nat.reduceLeDiff, Nat.reduceAdd, Nat.reduceEqDiff, hgn_eq, hgn_lt, hgn_le, if_true, if_false, reduceIte, Nat.not_lt_zero, hw, g35, o47, k49', k62]
  · rw [if_neg q]
    have q1 : vR D < 12 := by omega
    rw [decide_eq_false (by omega), hgB_f] at k49
    have k49' : hgWC X 49 [.ref 47] M = some (.inl (.int (nI 0)), M) := k49
    obtain ⟨M1, e1, r1, r2, r3⟩ := hgk_72 (X := X) h.1
    have w1 := r1.1
    have ok1 := hgOkc_c h hk r3 r1
    cases hs : sSel t p with
    | none =>
      have k62 := hgk_62 (X := X) (x := -2) w1
      rw [hs, hgOi_n] at e1
      refine hgDo_f ?_ w1 r2 (hgFd_c r3)
      simp (maxDischargeDepth := 7) only [hgc76, hgM_t, hgM_f, hgM_n, hgx_aload_n_0, hgs_get_6_5, hgs_get_1_7, hgx_invvirtual_1, hgx_aft_e, hgx_aft_i, hgx_aft_l, hgx_aft_v, hgx_if_eq, hgx_bipush_m4, hgx_invvirtual_2, hgx_ret3, hgx_istore_n_2i, hgx_istore_n_2r, hgx_istore_n_2f, hgx_istore_n_2n, hgx_istore_n_2l, hgx_iload_n_2, hgx_if_ge, hgx_bipush_m2, hgx_istore_n_3i, hgx_istore_n_3r, hgx_istore_n_3f, hgx_istore_n_3n, hgx_istore_n_3l, hgx_iload_n_3, hgx_iconst_0, hgx_sipush_999, hgx_invvirtual_3, hgx_if_ne, hgx_get0, hgx_istore_4i, hgx_istore_4r, hgx_istore_4f, hgx_istore_4n, hgx_istore_4l, hgx_iload_4, hgx_iload_n_1, hgx_invvirtual_6, hgx_iconst_1, hgv76_0, hgr76_0, hgu76_0, hgv76_20, hgr76_20, hgu76_20, hgv76_36, hgr76_36, hgu76_36, hgv76_52, hgr76_52, hgu76_52, hgv76_65, hgr76_65, hgu76_65, hgv76_85, hgr76_85, hgu76_85, hgI_SI, hgI_SJ, hgJ_SI, hgJ_SJ, if_true, if_false, reduceIte, Nat.reduceEqDiff, hgWf_SI, hgWf_SJ, hgO_SI, hgO_SJ, hgAr_SI, hgAr_SJ, hgRp_SI, hgRp_SJ, hgN_SI, hgN_SJ, hgO_g, hgO_d, hgO_rl, hgO_r, hgO_0, hgO_1, hgO_64, hgO_298, hgO_300, hgCd_0, hgCd_1, hgCd_2, hgCd_3, hgCd_4, hgCd_5, hgRecv_O, hgRecv_99, List.length_cons, List.length_nil, Nat.zero_add, Nat.add_zero, Nat.le_refl, Nat.zero_le, and_self, or_true, true_or, true_and, and_true, ne_eq, not_false_eq_true, Nat.reduceLT, Nat.reduceLeDiff, Nat.reduceAdd, Nat.reduceEqDiff, hgn_eq, hgn_lt, hgn_le, if_true, if_false, reduceIte, Nat.not_lt_zero, hw, g35, o47, k49', e1, m2, w1, k62]
    | some g =>
      have g4 := sSel_lt hs
      have b1 : g < 2147483648 := by omega
      rw [hs, hgOi_s] at e1
      dsimp only
      obtain ⟨M2, e2, s1, s2, s3⟩ := hgk_72 (X := X) ok1.1
      have w2 := s1.1
      have ok2 := hgOkc_c ok1 hk s3 s1
      cases ht : sSel t (tWe t (tSk t p)) with
      | none =>
        have k62 := hgk_62 (X := X) (x := -2) w2
        rw [ht, hgOi_n] at e2
        refine hgDo_f ?_ w2 s2 (hgFd_t (hgFd_c r3) (hgFd_c s3))
        simp (maxDischargeDepth := 7) only [hgc76, hgM_t, hgM_f, hgM_n, hgx_aload_n_0, hgs_get_6_5, hgs_get_1_7, hgx_invvirtual_1, hgx_aft_e, hgx_aft_i, hgx_aft_l, hgx_aft_v, hgx_if_eq, hgx_bipush_m4, hgx_invvirtual_2, hgx_ret3, hgx_istore_n_2i, hgx_istore_n_2r, hgx_istore_n_2f, hgx_istore_n_2n, hgx_istore_n_2l, hgx_iload_n_2, hgx_if_ge, hgx_bipush_m2, hgx_istore_n_3i, hgx_istore_n_3r, hgx_istore_n_3f, hgx_istore_n_3n, hgx_istore_n_3l, hgx_iload_n_3, hgx_iconst_0, hgx_sipush_999, hgx_invvirtual_3, hgx_if_ne, hgx_get0, hgx_istore_4i, hgx_istore_4r, hgx_istore_4f, hgx_istore_4n, hgx_istore_4l, hgx_iload_4, hgx_iload_n_1, hgx_invvirtual_6, hgx_iconst_1, hgv76_0, hgr76_0, hgu76_0, hgv76_20, hgr76_20, hgu76_20, hgv76_36, hgr76_36, hgu76_36, hgv76_52, hgr76_52, hgu76_52, hgv76_65, hgr76_65, hgu76_65, hgv76_85, hgr76_85, hgu76_85, hgI_SI, hgI_SJ, hgJ_SI, hgJ_SJ, if_true, if_false, reduceIte, Nat.reduceEqDiff, hgWf_SI, hgWf_SJ, hgO_SI, hgO_SJ, hgAr_SI, hgAr_SJ, hgRp_SI, hgRp_SJ, hgN_SI, hgN_SJ, hgO_g, hgO_d, hgO_rl, hgO_r, hgO_0, hgO_1, hgO_64, hgO_298, hgO_300, hgCd_0, hgCd_1, hgCd_2, hgCd_3, hgCd_4, hgCd_5, hgRecv_O, hgRecv_99, List.length_cons, List.length_nil, Nat.zero_add, Nat.add_zero, Nat.le_refl, Nat.zero_le, and_self, or_true, true_or, true_and, and_true, ne_eq, not_false_eq_true, Nat.reduceLT, Nat.reduceLeDiff, Nat.reduceAdd, Nat.reduceEqDiff, hgn_eq, hgn_lt, hgn_le, if_true, if_false, reduceIte, Nat.not_lt_zero, hw, g35, o47, k49', e1, b1, w1, e2, m2, w2, k62]
      | some g' =>
        have g4' := sSel_lt ht
        have b2 : g' < 2147483648 := by omega
        rw [ht, hgOi_s] at e2
        dsimp only
        cases hn1 : sNum t (tWe t (tSk t (tWe t (tSk t p)))) 0 999 with
        | inr e =>
          obtain ⟨M3, e3, t1, _, _⟩ := hgk_71b (X := X) ok2.1 (by omega) (by omega) hn1
          refine hgDo_n ?_ t1 (hgFd_t (hgFd_c r3) (hgFd_c s3))
          simp (maxDischargeDepth := 7) only [hgc76, hgM_t, hgM_f, hgM_n, hgx_aload_n_0, hgs_get_6_5, hgs_get_1_7, hgx_invvirtual_1, hgx_aft_e, hgx_aft_i, hgx_aft_l, hgx_aft_v, hgx_if_eq, hgx_bipush_m4, hgx_invvirtual_2, hgx_ret3, hgx_istore_n_2i, hgx_istore_n_2r, hgx_istore_n_2f, hgx_istore_n_2n, hgx_istore_n_2l, hgx_iload_n_2, hgx_if_ge, hgx_bipush_m2, hgx_istore_n_3i, hgx_istore_n_3r, hgx_istore_n_3f, hgx_istore_n_3n, hgx_istore_n_3l, hgx_iload_n_3, hgx_iconst_0, hgx_sipush_999, hgx_invvirtual_3, hgx_if_ne, hgx_get0, hgx_istore_4i, hgx_istore_4r, hgx_istore_4f, hgx_istore_4n, hgx_istore_4l, hgx_iload_4, hgx_iload_n_1, hgx_invvirtual_6, hgx_iconst_1, hgv76_0, hgr76_0, hgu76_0, hgv76_20, hgr76_20, hgu76_20, hgv76_36, hgr76_36, hgu76_36, hgv76_52, hgr76_52, hgu76_52, hgv76_65, hgr76_65, hgu76_65, hgv76_85, hgr76_85, hgu76_85, hgI_SI, hgI_SJ, hgJ_SI, hgJ_SJ, if_true, if_false, reduceIte, Nat.reduceEqDiff, hgWf_SI, hgWf_SJ, hgO_SI, hgO_SJ, hgAr_SI, hgAr_SJ, hgRp_SI, hgRp_SJ, hgN_SI, hgN_SJ, hgO_g, hgO_d, hgO_rl, hgO_r, hgO_0, hgO_1, hgO_64, hgO_298, hgO_300, hgCd_0, hgCd_1, hgCd_2, hgCd_3, hgCd_4, hgCd_5, hgRecv_O, hgRecv_99, List.length_cons, List.length_nil, Nat.zero_add, Nat.add_zero, Nat.le_refl, Nat.zero_le, and_self, or_true, true_or, true_and, and_true, ne_eq, not_false_eq_true, Nat.reduceLT, Nat.reduceLeDiff, Nat.reduceAdd, Nat.reduceEqDiff, hgn_eq, hgn_lt, hgn_le, if_true, if_false, reduceIte, Nat.not_lt_zero, hw, g35, o47, k49', e1, b1, w1, e2, b2, w2, e3]
        | inl v =>
          obtain ⟨M3, e3, t1, t4, t3, l1, l2, f3⟩ := hgk_71a (X := X) ok2.1 (by omega) (by omega) hn1
          have ok3 := hgOkc_c ok2 hk f3 t1
          have w3 := t1.1
          show hgDo X 76 _ M t (sB (sNum t v.2 v.1 999) (fun z => .inl (z.2, vAr D (hgB b) (nI g) (nI g') (nI v.1) (nI z.1), f)))
          cases hn2 : sNum t v.2 v.1 999 with
          | inr e =>
            obtain ⟨M4, e4, u1, _, _⟩ := hgk_71b (X := X) ok3.1 (by omega) (by omega) hn2
            refine hgDo_n ?_ u1 (hgFd_t (hgFd_t (hgFd_c r3) (hgFd_c s3)) (hgFd_c f3))
            simp (maxDischargeDepth := 7) only [hgc76, hgM_t, hgM_f, hgM_n, hgx_aload_n_0, hgs_get_6_5, hgs_get_1_7, hgx_invvirtual_1, hgx_aft_e, hgx_aft_i, hgx_aft_l, hgx_aft_v, hgx_if_eq, hgx_bipush_m4, hgx_invvirtual_2, hgx_ret3, hgx_istore_n_2i, hgx_istore_n_2r, hgx_istore_n_2f, hgx_istore_n_2n, hgx_istore_n_2l, hgx_iload_n_2, hgx_if_ge, hgx_bipush_m2, hgx_istore_n_3i, hgx_istore_n_3r, hgx_istore_n_3f, hgx_istore_n_3n, hgx_istore_n_3l, hgx_iload_n_3, hgx_iconst_0, hgx_sipush_999, hgx_invvirtual_3, hgx_if_ne, hgx_get0, hgx_istore_4i, hgx_istore_4r, hgx_istore_4f, hgx_istore_4n, hgx_istore_4l, hgx_iload_4, hgx_iload_n_1, hgx_invvirtual_6, hgx_iconst_1, hgv76_0, hgr76_0, hgu76_0, hgv76_20, hgr76_20, hgu76_20, hgv76_36, hgr76_36, hgu76_36, hgv76_52, hgr76_52, hgu76_52, hgv76_65, hgr76_65, hgu76_65, hgv76_85, hgr76_85, hgu76_85, hgI_SI, hgI_SJ, hgJ_SI, hgJ_SJ, if_true, if_false, reduceIte, Nat.reduceEqDiff, hgWf_SI, hgWf_SJ, hgO_SI, hgO_SJ, hgAr_SI, hgAr_SJ, hgRp_SI, hgRp_SJ, hgN_SI, hgN_SJ, hgO_g, hgO_d, hgO_rl, hgO_r, hgO_0, hgO_1, hgO_64, hgO_298, hgO_300, hgCd_0, hgCd_1, hgCd_2, hgCd_3, hgCd_4, hgCd_5, hgRecv_O, hgRecv_99, List.length_cons, List.length_nil, Nat.zero_add, Nat.add_zero, Nat.le_refl, Nat.zero_le, and_self, or_true, true_or, true_and, and_true, ne_eq, not_false_eq_true, Nat.reduceLT, Nat.reduceLeDiff, Nat.reduceAdd, Nat.reduceEqDiff, hgn_eq, hgn_lt, hgn_le, if_true, if_false, reduceIte, Nat.not_lt_zero, hw, g35, o47, k49', e1, b1, w1, e2, b2, w2, e3, w3, t4, e4]
          | inl c =>
            obtain ⟨M4, e4, u1, u4, u3, l5, l6, f4⟩ := hgk_71a (X := X) ok3.1 (by omega) (by omega) hn2
            have ok4 := hgOkc_c ok3 hk f4 u1
            have w4 := u1.1
            have k50 := hgk_50 (X := X) (g := 35) (x := hgB b) (y := nI g) (z := nI g') (w := nI v.1) (v := nI c.1) w4 g35 ok4.2.1.2.2.1 q1 (hgB_o b)
            obtain ⟨v1, v2⟩ := hgCV_ar (x1 := hgB b) (x2 := nI g) (x3 := nI g') (x4 := nI v.1) (x5 := nI c.1) w4 (hgDk_sm hk) q1 ok4.2.1
            have v3 := hgFn_m (Q := fun b => 35 ≤ b ∧ b < 35 + 29) v2 (fun b hb => by omega)
            have o474 : hgO M4 47 5 := hgO_rl w4 g35
            refine hgDo_l ?_ (hgOkc_v ok4 v3 v1) (hgFd_t (hgFd_t (hgFd_t (hgFd_t (hgFd_c r3) (hgFd_c s3)) (hgFd_c f3)) (hgFd_c f4)) (hgFd_v v3))
            clear v1 v2 v3
            obtain ⟨M5, hM5⟩ : ∃ M5, M5 = (hgSI (hgSI (hgSI (hgSI (hgSI (hgSI M4 (hgRp M4 35 (vR D)) 0 (hgB b)) (hgRp M4 35 (vR D)) 1 (nI g)) (hgRp M4 35 (vR D)) 2 (nI g')) (hgRp M4 35 (vR D)) 3 (nI v.1)) (hgRp M4 35 (vR D)) 4 (nI c.1)) (35 + 12) 1 (nI (vR D + 1))) := ⟨_, rfl⟩
            rw [← hM5] at k50 ⊢
            have k50' : hgWC X 50 [.ref 47, .int (hgB b), .int (nI g), .int (nI g'), .int (nI v.1), .int (nI c.1)] M4 = some (.inl .null, M5) := k50
            simp (maxDischargeDepth := 7) only [hgc76, hgM_t, hgM_f, hgM_n, hgx_aload_n_0, hgs_get_6_5, hgs_get_1_7, hgx_invvirtual_1, hgx_aft_e, hgx_aft_i, hgx_aft_l, hgx_aft_v, hgx_if_eq, hgx_bipush_m4, hgx_invvirtual_2, hgx_ret3, hgx_istore_n_2i, hgx_istore_n_2r, hgx_istore_n_2f, hgx_istore_n_2n, hgx_istore_n_2l, hgx_iload_n_2, hgx_if_ge, hgx_bipush_m2, hgx_istore_n_3i, hgx_istore_n_3r, hgx_istore_n_3f, hgx_istore_n_3n, hgx_istore_n_3l, hgx_iload_n_3, hgx_iconst_0, hgx_sipush_999, hgx_invvirtual_3, hgx_if_ne, hgx_get0, hgx_istore_4i, hgx_istore_4r, hgx_istore_4f, hgx_istore_4n, hgx_istore_4l, hgx_iload_4, hgx_iload_n_1, hgx_invvirtual_6, hgx_iconst_1, hgv76_0, hgr76_0, hgu76_0, hgv76_20, hgr76_20, hgu76_20, hgv76_36, hgr76_36, hgu76_36, hgv76_52, hgr76_52, hgu76_52, hgv76_65, hgr76_65, hgu76_65, hgv76_85, hgr76_85, hgu76_85, hgI_SI, hgI_SJ, hgJ_SI, hgJ_SJ, if_true, if_false, reduceIte, Nat.reduceEqDiff, hgWf_SI, hgWf_SJ, hgO_SI, hgO_SJ, hgAr_SI, hgAr_SJ, hgRp_SI, hgRp_SJ, hgN_SI, hgN_SJ, hgO_g, hgO_d, hgO_rl, hgO_r, hgO_0, hgO_1, hgO_64, hgO_298, hgO_300, hgCd_0, hgCd_1, hgCd_2, hgCd_3, hgCd_4, hgCd_5, hgRecv_O, hgRecv_99, List.length_cons, List.length_nil, Nat.zero_add, Nat.add_zero, Nat.le_refl, Nat.zero_le, and_self, or_true, true_or, true_and, and_true, ne_eq, not_false_eq_true, Nat.reduceLT, Nat.reduceLeDiff, Nat.reduceAdd, Nat.reduceEqDiff, hgn_eq, hgn_lt, hgn_le, if_true, if_false, reduceIte, Nat.not_lt_zero, hw, g35, o47, k49', e1, b1, w1, e2, b2, w2, e3, w3, t4, e4, w4, u4, o474, k50']
/-- component: isNumberNext -/
theorem hgk_78 (h : hgRc M t p) : ∃ M', hgWC X 78 [.ref 298] M = some (.inl (.int (hgB (tDg t (tSk t p)))), M') ∧ hgRc M' t (tSk t p) ∧ hgFc M M' := by
  obtain ⟨M1, e, r1, r2, r3, _⟩ := hgk_66 (X := X) h
  have hw := h.1
  have w1 := r1.1
  have p1 := r1.2.2.1
  have k65 := hgk_65 (X := X) r1 r1.2.2.2.1
  have bo := hgB_o (tDg t (tSk t p))
  refine ⟨M1, ?_, r1, r3⟩
  simp (maxDischargeDepth := 7) only [hgc78, hgM_t, hgM_f, hgM_n, hgx_aload_n_0, hgx_invvirtual_1, hgx_aft_e, hgx_aft_i, hgx_aft_l, hgx_aft_v, hgx_get0, hgx_invvirtual_2, hgx_ret3, hgv78_0, hgr78_0, hgu78_0, hgI_SI, hgI_SJ, hgJ_SI, hgJ_SJ, if_true, if_false, reduceIte, Nat.reduceEqDiff, hgWf_SI, hgWf_SJ, hgO_SI, hgO_SJ, hgAr_SI, hgAr_SJ, hgRp_SI, hgRp_SJ, hgN_SI, hgN_SJ, hgO_g, hgO_d, hgO_rl, hgO_r, hgO_0, hgO_1, hgO_64, hgO_298, hgO_300, hgCd_0, hgCd_1, hgCd_2, hgCd_3, hgCd_4, hgCd_5, hgRecv_O, hgRecv_99, List.length_cons, List.length_nil, Nat.zero_add, Nat.add_zero, Nat.le_refl, Nat.zero_le, and_self, or_true, true_or, true_and, and_true, ne_eq, not_false_eq_true, Nat.reduceLT, Nat.reduceLeDiff, Nat.reduceAdd, Nat.reduceEqDiff, hgn_eq, hgn_lt, hgn_le, if_true, if_false, reduceIte, Nat.not_lt_zero, hw, e, w1, p1, k65, bo]
theorem sWk1_k (h : p ≤ t.2) : sWk1 t (tSk t p) D f = sWk1 t p D f := by
  unfold sWk1 sNum
  rw [tSk_i h]
theorem hgk_79 (h : hgOkc M t (p, D, f)) (hk : hgDk D) : hgDo X 79 [.ref 298] M t (sWk1 t p D f) := by
  have hw := h.1.1
  have g35 := hg35
  have n8 := hk.2.2.1
  unfold sWk1
  cases hn1 : sNum t p 0 999 with
  | inr e =>
    obtain ⟨M1, e1, t1, _, _⟩ := hgk_71b (X := X) h.1 (by omega) (by omega) hn1
    refine hgDo_n ?_ t1 hgFd_r
    simp (maxDischargeDepth := 7) only [hgc79, hgM_t, hgM_f, hgM_n, hgx_aload_n_0, hgx_iconst_0, hgx_sipush_999, hgx_invvirtual_3, hgx_aft_e, hgx_aft_i, hgx_aft_l, hgx_aft_v, hgx_if_ne, hgx_ret3, hgs_get_6_5, hgx_get0, hgx_invvirtual_2, hgx_if_eq, hgx_bipush_m3, hgx_bipush_8, hgx_ic_lt, hgx_bipush_m4, hgx_iconst_1, hgv79_0, hgr79_0, hgu79_0, hgv79_13, hgr79_13, hgu79_13, hgv79_34, hgr79_34, hgu79_34, hgv79_53, hgr79_53, hgu79_53, hgI_SI, hgI_SJ, hgJ_SI, hgJ_SJ, if_true, if_false, reduceIte, Nat.reduceEqDiff, hgWf_SI, hgWf_SJ, hgO_SI, hgO_SJ, hgAr_SI, hgAr_SJ, hgRp_SI, hgRp_SJ, hgN_SI, hgN_SJ, hgO_g, hgO_d, hgO_rl, hgO_r, hgO_0, hgO_1, hgO_64, hgO_298, hgO_300, hgCd_0, hgCd_1, hgCd_2, hgCd_3, hgCd_4, hgCd_5, hgRecv_O, hgRecv_99, List.length_cons, List.length_nil, Nat.zero_add, Nat.add_zero, Nat.le_refl, Nat.zero_le, and_self, or_true, true_or, true_and, and_true, ne_eq, not_false_eq_true, Nat.reduceLT, Nat.reduceLeDiff, Nat.reduceAdd, Nat.reduceEqDiff, hgn_eq, hgn_lt, hgn_le, if_true, if_false, reduceIte, Nat.not_lt_zero, hw, g35, e1]
  | inl v =>
    obtain ⟨M1, e1, t1, t4, t3, l1, l2, f1⟩ := hgk_71a (X := X) h.1 (by omega) (by omega) hn1
    have ok1 := hgOkc_c h hk f1 t1
    have w1 := t1.1
    have k13 := hgCV_13 (X := X) (x := nI v.1) w1 (hgDk_sm hk) ok1.2.1
    have h9 := ok1.2.1.2.2.2.1
    show hgDo X 79 _ M t (if vWk D (nI v.1) = true then .inr (-3, tSk t p) else if vW D = 8 then .inr (-4, tSk t p) else .inl (v.2, vAw D v.1, f))
    by_cases q : vWk D (nI v.1) = true
    · rw [if_pos q]
      rw [q, hgB_t] at k13
      have k62 := hgk_62 (X := X) (x := -3) w1
      refine hgDo_f ?_ w1 t3 (hgFd_c f1)
      simp (maxDischargeDepth := 7) only [hgc79, hgM_t, hgM_f, hgM_n, hgx_aload_n_0, hgx_iconst_0, hgx_sipush_999, hgx_invvirtual_3, hgx_aft_e, hgx_aft_i, hgx_aft_l, hgx_aft_v, hgx_if_ne, hgx_ret3, hgs_get_6_5, hgx_get0, hgx_invvirtual_2, hgx_if_eq, hgx_bipush_m3, hgx_bipush_8, hgx_ic_lt, hgx_bipush_m4, hgx_iconst_1, hgv79_0, hgr79_0, hgu79_0, hgv79_13, hgr79_13, hgu79_13, hgv79_34, hgr79_34, hgu79_34, hgv79_53, hgr79_53, hgu79_53, hgI_SI, hgI_SJ, hgJ_SI, hgJ_SJ, if_true, if_false, reduceIte, Nat.reduceEqDiff, hgWf_SI, hgWf_SJ, hgO_SI, hgO_SJ, hgAr_SI, hgAr_SJ, hgRp_SI, hgRp_SJ, hgN_SI, hgN_SJ, hgO_g, hgO_d, hgO_rl, hgO_r, hgO_0, hgO_1, hgO_64, hgO_298, hgO_300, hgCd_0, hgCd_1, hgCd_2, hgCd_3, hgCd_4, hgCd_5, hgRecv_O, hgRecv_99, List.length_cons, List.length_nil, Nat.zero_add, Nat.add_zero, Nat.le_refl, Nat.zero_le, and_self, or_true, true_or, true_and, and_true, ne_eq, not_false_eq_true, Nat.reduceLT, Nat.reduceLeDiff, Nat.reduceAdd, Nat.reduceEqDiff, hgn_eq, hgn_lt, hgn_le, if_true, if_false, reduceIte, Nat.not_lt_zero, hw, g35, e1, w1, t4, k13, k62]
    · rw [if_neg q]
      rw [Bool.eq_false_iff.mpr q, hgB_f] at k13
      by_cases q8 : vW D = 8
      · rw [if_pos q8]
        rw [q8] at h9
        have k62 := hgk_62 (X := X) (x := -4) w1
        refine hgDo_f ?_ w1 t3 (hgFd_c f1)
        simp (maxDischargeDepth := 7) only [hgc79, hgM_t, hgM_f, hgM_n, hgx_aload_n_0, hgx_iconst_0, hgx_sipush_999, hgx_invvirtual_3, hgx_aft_e, hgx_aft_i, hgx_aft_l, hgx_aft_v, hgx_if_ne, hgx_ret3, hgs_get_6_5, hgx_get0, hgx_invvirtual_2, hgx_if_eq, hgx_bipush_m3, hgx_bipush_8, hgx_ic_lt, hgx_bipush_m4, hgx_iconst_1, hgv79_0, hgr79_0, hgu79_0, hgv79_13, hgr79_13, hgu79_13, hgv79_34, hgr79_34, hgu79_34, hgv79_53, hgr79_53, hgu79_53, hgI_SI, hgI_SJ, hgJ_SI, hgJ_SJ, if_true, if_false, reduceIte, Nat.reduceEqDiff, hgWf_SI, hgWf_SJ, hgO_SI, hgO_SJ, hgAr_SI, hgAr_SJ, hgRp_SI, hgRp_SJ, hgN_SI, hgN_SJ, hgO_g, hgO_d, hgO_rl, hgO_r, hgO_0, hgO_1, hgO_64, hgO_298, hgO_300, hgCd_0, hgCd_1, hgCd_2, hgCd_3, hgCd_4, hgCd_5, hgRecv_O, hgRecv_99, List.length_cons, List.length_nil, Nat.zero_add, Nat.add_zero, Nat.le_refl, Nat.zero_le, and_self, or_true, true_or, true_and, and_true, ne_eq, not_false_eq_true, Nat.reduceLT, Nat.reduceLeDiff, Nat.reduceAdd, Nat.reduceEqDiff, hgn_eq, hgn_lt, hgn_le, if_true, if_false, reduceIte, Nat.not_lt_zero, hw, g35, e1, w1, t4, k13, h9, k62]
      · rw [if_neg q8]
        have q7 : vW D < 8 := by omega
        have b1 : vW D < 2147483648 := by omega
        obtain ⟨M2, e2, v1, v2⟩ := hgk_12 (X := X) (p := v.1) w1 hk q7 ok1.2.1
        refine hgDo_l ?_ (hgOkc_v ok1 v2 v1) (hgFd_t (hgFd_c f1) (hgFd_v v2))
        simp (maxDischargeDepth := 7) only [hgc79, hgM_t, hgM_f, hgM_n, hgx_aload_n_0, hgx_iconst_0, hgx_sipush_999, hgx_invvirtual_3, hgx_aft_e, hgx_aft_i, hgx_aft_l, hgx_aft_v, hgx_if_ne, hgx_ret3, hgs_get_6_5, hgx_get0, hgx_invvirtual_2, hgx_if_eq, hgx_bipush_m3, hgx_bipush_8, hgx_ic_lt, hgx_bipush_m4, hgx_iconst_1, hgv79_0, hgr79_0, hgu79_0, hgv79_13, hgr79_13, hgu79_13, hgv79_34, hgr79_34, hgu79_34, hgv79_53, hgr79_53, hgu79_53, hgI_SI, hgI_SJ, hgJ_SI, hgJ_SJ, if_true, if_false, reduceIte, Nat.reduceEqDiff, hgWf_SI, hgWf_SJ, hgO_SI, hgO_SJ, hgAr_SI, hgAr_SJ, hgRp_SI, hgRp_SJ, hgN_SI, hgN_SJ, hgO_g, hgO_d, hgO_rl, hgO_r, hgO_0, hgO_1, hgO_64, hgO_298, hgO_300, hgCd_0, hgCd_1, hgCd_2, hgCd_3, hgCd_4, hgCd_5, hgRecv_O, hgRecv_99, List.length_cons, List.length_nil, Nat.zero_add, Nat.add_zero, Nat.le_refl, Nat.zero_le, and_self, or_true, true_or, true_and, and_true, ne_eq, not_false_eq_true, Nat.reduceLT, Nat.reduceLeDiff, Nat.reduceAdd, Nat.reduceEqDiff, hgn_eq, hgn_lt, hgn_le, if_true, if_false, reduceIte, Nat.not_lt_zero, hw, g35, e1, w1, t4, k13, h9, b1, q7, e2]
theorem hgk_77z (hi : i < 2147483648) : hgW X 77 26 [some (.ref 298), some (.int (nI 0)), some (.int (nI i))] [] (0, 0) M = some (.inl (.int (nI 0)), M) := by
  rw [hgu77_26]
  by_cases q : 8 ≤ i
  · simp (maxDischargeDepth := 7) only [hgM_t, hgM_f, hgM_n, hgx_aload_n_0, hgx_get3, hgx_if_eq, hgx_bipush_m2, hgx_invvirtual_2, hgx_aft_e, hgx_aft_i, hgx_aft_l, hgx_aft_v, hgx_ret3, hgx_iconst_1, hgx_put3, hgx_invvirtual_1, hgx_istore_n_1i, hgx_istore_n_1r, hgx_istore_n_1f, hgx_istore_n_1n, hgx_istore_n_1l, hgx_iconst_0, hgx_istore_n_2i, hgx_istore_n_2r, hgx_istore_n_2f, hgx_istore_n_2n, hgx_istore_n_2l, hgx_iload_n_2, hgx_bipush_8, hgx_ic_ge, hgx_iload_n_1, hgx_iinc_2_1, hgx_goto, hgv77_0, hgr77_0, hgu77_0, hgv77_14, hgr77_14, hgu77_14, hgv77_26, hgr77_26, hgv77_54, hgr77_54, hgu77_54, hgI_SI, hgI_SJ, hgJ_SI, hgJ_SJ, if_true, if_false, reduceIte, Nat.reduceEqDiff, hgWf_SI, hgWf_SJ, hgO_SI, hgO_SJ, hgAr_SI, hgAr_SJ, hgRp_SI, hgRp_SJ, hgN_SI, hgN_SJ, hgO_g, hgO_d, hgO_rl, hgO_r, hgO_0, hgO_1, hgO_64, hgO_298, hgO_300, hgCd_0, hgCd_1, hgCd_2, hgCd_3, hgCd_4, hgCd_5, hgRecv_O, hgRecv_99, List.length_cons, List.length_nil, Nat.zero_add, Nat.add_zero, Nat.le_refl, Nat.zero_le, and_self, or_true, true_or, true_and, and_true, ne_eq, not_false_eq_true, Nat.reduceLT, Nat.reduceLeDiff, Nat.reduceAdd, Nat.reduceEqDiff, hgn_eq, hgn_lt, hgn_le, if_true, if_false, reduceIte, Nat.not_lt_zero, hi, q]
  · simp (maxDischargeDepth := 7) only [hgM_t, hgM_f, hgM_n, hgx_aload_n_0, hgx_get3, hgx_if_eq, hgx_bipush_m2, hgx_invvirtual_2, hgx_aft_e, hgx_aft_i, hgx_aft_l, hgx_aft_v, hgx_ret3, hgx_iconst_1, hgx_put3, hgx_invvirtual_1, hgx_istore_n_1i, hgx_istore_n_1r, hgx_istore_n_1f, hgx_istore_n_1n, hgx_istore_n_1l, hgx_iconst_0, hgx_istore_n_2i, hgx_istore_n_2r, hgx_istore_n_2f, hgx_istore_n_2n, hgx_istore_n_2l, hgx_iload_n_2, hgx_bipush_8, hgx_ic_ge, hgx_iload_n_1, hgx_iinc_2_1, hgx_goto, hgv77_0, hgr77_0, hgu77_0, hgv77_14, hgr77_14, hgu77_14, hgv77_26, hgr77_26, hgv77_54, hgr77_54, hgu77_54, hgI_SI, hgI_SJ, hgJ_SI, hgJ_SJ, if_true, if_false, reduceIte, Nat.reduceEqDiff, hgWf_SI, hgWf_SJ, hgO_SI, hgO_SJ, hgAr_SI, hgAr_SJ, hgRp_SI, hgRp_SJ, hgN_SI, hgN_SJ, hgO_g, hgO_d, hgO_rl, hgO_r, hgO_0, hgO_1, hgO_64, hgO_298, hgO_300, hgCd_0, hgCd_1, hgCd_2, hgCd_3, hgCd_4, hgCd_5, hgRecv_O, hgRecv_99, List.length_cons, List.length_nil, Nat.zero_add, Nat.add_zero, Nat.le_refl, Nat.zero_le, and_self, or_true, true_or, true_and, and_true, ne_eq, not_false_eq_true, Nat.reduceLT, Nat.reduceLeDiff, Nat.reduceAdd, Nat.reduceEqDiff, hgn_eq, hgn_lt, hgn_le, if_true, if_false, reduceIte, Nat.not_lt_zero, hi, q]
theorem sWk1_w (h : sWk1 t p D f = .inl z) : vW z.2.1 = vW D + 1 := by
  unfold sWk1 at h
  cases hn1 : sNum t p 0 999 with
  | inr e =>
    rw [hn1] at h
    cases h
  | inl v =>
    rw [hn1] at h
    have h2 : (if vWk D (nI v.1) = true then (.inr (-3, tSk t p) : hgQt) else if vW D = 8 then .inr (-4, tSk t p) else .inl (v.2, vAw D v.1, f)) = .inl z := h
    split at h2
    · cases h2
    · split at h2
      · cases h2
      · injection h2 with h2
        rw [← h2]
        rfl
theorem hgk_77l : ∀ (k : Nat) (z : hgPt) (i : Nat) (M : hgMem), k + vW z.2.1 = 9 → i + 1 ≤ vW z.2.1 → hgOkc M t z → hgDk z.2.1 → ∃ M', hgW X 77 26 [some (.ref 298), some (.int (nI 1)), some (.int (nI i))] [] (0, 0) M = some (.inl (.int (hgRb (sWkL t k z))), M') ∧ hgOuc M' t (sWkL t k z) ∧ hgFd M M' := by
  intro k
  induction k with
  | zero =>
    intro z i M h1 h2 h3 h4
    have := h4.2.2.1
    omega
  | succ k ih =>
    intro z i M h1 h2 h3 h4
    have n8 := h4.2.2.1
    have hw := h3.1.1
    have b1 : i < 2147483648 := by omega
    have b2 : ¬ 8 ≤ i := by omega
    obtain ⟨M1, e1, r1, r3⟩ := hgk_78 (X := X) h3.1
    have ok1 : hgOkc M1 t (tSk t z.1, z.2.1, z.2.2) := hgOkc_c h3 h4 r3 r1
    have w1 := r1.1
    unfold sWkL
    by_cases q : tDg t (tSk t z.1) = true
    · rw [if_pos q]
      rw [q, hgB_t] at e1
      obtain ⟨M2, e2, o2, f2⟩ := hgk_79 (X := X) ok1 h4
      rw [sWk1_k h3.1.2.2.2.1] at e2 o2
      have nx := sWk1_n (f := z.2.2) h3.1.2.2.2.1 h4
      cases hr : sWk1 t z.1 z.2.1 z.2.2 with
      | inr e =>
        rw [hr] at e2 o2
        have e2' : hgWC X 79 [.ref 298] M1 = some (.inl (.int (nI 0)), M2) := e2
        refine ⟨M2, ?_, o2, hgFd_t (hgFd_c r3) f2⟩
        refine Eq.trans ?_ (hgk_77z (X := X) (i := i + 1) (by omega))
        rw [hgu77_26]
        simp (maxDischargeDepth := 7) only [hgM_t, hgM_f, hgM_n, hgx_aload_n_0, hgx_get3, hgx_if_eq, hgx_bipush_m2, hgx_invvirtual_2, hgx_aft_e, hgx_aft_i, hgx_aft_l, hgx_aft_v, hgx_ret3, hgx_iconst_1, hgx_put3, hgx_invvirtual_1, hgx_istore_n_1i, hgx_istore_n_1r, hgx_istore_n_1f, hgx_istore_n_1n, hgx_istore_n_1l, hgx_iconst_0, hgx_istore_n_2i, hgx_istore_n_2r, hgx_istore_n_2f, hgx_istore_n_2n, hgx_istore_n_2l, hgx_iload_n_2, hgx_bipush_8, hgx_ic_ge, hgx_iload_n_1, hgx_iinc_2_1, hgx_goto, hgv77_0, hgr77_0, hgu77_0, hgv77_14, hgr77_14, hgu77_14, hgv77_26, hgr77_26, hgv77_54, hgr77_54, hgu77_54, hgI_SI, hgI_SJ, hgJ_SI, hgJ_SJ, if_true, if_false, reduceIte, Nat.reduceEqDiff, hgWf_SI, hgWf_SJ, hgO_SI, hgO_SJ, hgAr_SI, hgAr_SJ, hgRp_SI, hgRp_SJ, hgN_SI, hgN_SJ, hgO_g, hgO_d, hgO_rl, hgO_r, hgO_0, hgO_1, hgO_64, hgO_298, hgO_300, hgCd_0, hgCd_1, hgCd_2, hgCd_3, hgCd_4, hgCd_5, hgRecv_O, hgRecv_99, List.length_cons, List.length_nil, Nat.zero_add, Nat.add_zero, Nat.le_refl, Nat.zero_le, and_self, or_true, true_or, true_and, and_true, ne_eq, not_false_eq_true, Nat.reduceLT, Nat.reduceLeDiff, Nat.reduceAdd, Nat.reduceEqDiff, hgn_eq, hgn_lt, hgn_le, if_true, if_false, reduceIte, Nat.not_lt_zero, hgn_add, hgn_mul, hw, b1, b2, e1, w1, e2']
      | inl y =>
        rw [hr] at e2 o2 nx
        have e2' : hgWC X 79 [.ref 298] M1 = some (.inl (.int (nI 1)), M2) := e2
        have vw := sWk1_w hr
        obtain ⟨M3, e3, o3, f3⟩ := ih y (i + 1) M2 (by omega) (by omega) o2 nx.2.2
        refine ⟨M3, ?_, o3, hgFd_t (hgFd_t (hgFd_c r3) f2) f3⟩
        refine Eq.trans ?_ e3
        rw [hgu77_26]
        simp (maxDischargeDepth := 7) only [hgM_t, hgM_f, hgM_n, hgx_aload_n_0, hgx_get3, hgx_if_eq, hgx_bipush_m2, hgx_invvirtual_2, hgx_aft_e, hgx_aft_i, hgx_aft_l, hgx_aft_v, hgx_ret3, hgx_iconst_1, hgx_put3, hgx_invvirtual_1, hgx_istore_n_1i, hgx_istore_n_1r, hgx_istore_n_1f, hgx_istore_n_1n, hgx_istore_n_1l, hgx_iconst_0, hgx_istore_n_2i, hgx_istore_n_2r, hgx_istore_n_2f, hgx_istore_n_2n, hgx_istore_n_2l, hgx_iload_n_2, hgx_bipush_8, hgx_ic_ge, hgx_iload_n_1, hgx_iinc_2_1, hgx_goto, hgv77_0, hgr77_0, hgu77_0, hgv77_14, hgr77_14, hgu77_14, hgv77_26, hgr77_26, hgv77_54, hgr77_54, hgu77_54, hgI_SI, hgI_SJ, hgJ_SI, hgJ_SJ, if_true, if_false, reduceIte, Nat.reduceEqDiff, hgWf_SI, hgWf_SJ, hgO_SI, hgO_SJ, hgAr_SI, hgAr_SJ, hgRp_SI, hgRp_SJ, hgN_SI, hgN_SJ, hgO_g, hgO_d, hgO_rl, hgO_r, hgO_0, hgO_1, hgO_64, hgO_298, hgO_300, hgCd_0, hgCd_1, hgCd_2, hgCd_3, hgCd_4, hgCd_5, hgRecv_O, hgRecv_99, List.length_cons, List.length_nil, Nat.zero_add, Nat.add_zero, Nat.le_refl, Nat.zero_le, and_self, or_true, true_or, true_and, and_true, ne_eq, not_false_eq_true, Nat.reduceLT, Nat.reduceLeDiff, Nat.reduceAdd, Nat.reduceEqDiff, hgn_eq, hgn_lt, hgn_le, if_true, if_false, reduceIte, Nat.not_lt_zero, hgn_add, hgn_mul, hw, b1, b2, e1, w1, e2']
    · rw [if_neg q]
      rw [Bool.eq_false_iff.mpr q, hgB_f] at e1
      refine ⟨M1, ?_, ok1, hgFd_c r3⟩
      rw [hgu77_26]
      show _ = some (Sum.inl (Value.int (nI 1)), M1)
      simp (maxDischargeDepth := 7) only [hgM_t, hgM_f, hgM_n, hgx_aload_n_0, hgx_get3, hgx_if_eq, hgx_bipush_m2, hgx_invvirtual_2, hgx_aft_e, hgx_aft_i, hgx_aft_l, hgx_aft_v, hgx_ret3, hgx_iconst_1, hgx_put3, hgx_invvirtual_1, hgx_istore_n_1i, hgx_istore_n_1r, hgx_istore_n_1f, hgx_istore_n_1n, hgx_istore_n_1l, hgx_iconst_0, hgx_istore_n_2i, hgx_istore_n_2r, hgx_istore_n_2f, hgx_istore_n_2n, hgx_istore_n_2l, hgx_iload_n_2, hgx_bipush_8, hgx_ic_ge, hgx_iload_n_1, hgx_iinc_2_1, hgx_goto, hgv77_0, hgr77_0, hgu77_0, hgv77_14, hgr77_14, hgu77_14, hgv77_26, hgr77_26, hgv77_54, hgr77_54, hgu77_54, hgI_SI, hgI_SJ, hgJ_SI, hgJ_SJ, if_true, if_false, reduceIte, Nat.reduceEqDiff, hgWf_SI, hgWf_SJ, hgO_SI, hgO_SJ, hgAr_SI, hgAr_SJ, hgRp_SI, hgRp_SJ, hgN_SI, hgN_SJ, hgO_g, hgO_d, hgO_rl, hgO_r, hgO_0, hgO_1, hgO_64, hgO_298, hgO_300, hgCd_0, hgCd_1, hgCd_2, hgCd_3, hgCd_4, hgCd_5, hgRecv_O, hgRecv_99, List.length_cons, List.length_nil, Nat.zero_add, Nat.add_zero, Nat.le_refl, Nat.zero_le, and_self, or_true, true_or, true_and, and_true, ne_eq, not_false_eq_true, Nat.reduceLT, Nat.reduceLeDiff, Nat.reduceAdd, Nat.reduceEqDiff, hgn_eq, hgn_lt, hgn_le, if_true, if_false, reduceIte, Nat.not_lt_zero, hgn_add, hgn_mul, hw, b1, b2, e1]
theorem hgOkc_6 (h : hgOkc M t (p, D, f)) (hk : hgDk D) : hgOkc (hgSI M 298 6 (nI 1)) t (p, D, fS f 0) := by
  have fe : ∀ g, f (2 + g) = fS f 0 (2 + g) := fun g => by unfold fS; rw [if_neg (by omega)]
  obtain ⟨h1, h2, h3, h4, h5⟩ := h
  have fr : hgFn (fun b => b = 298) M (hgSI M 298 6 (nI 1)) := hgFn_SI hgFn_r rfl
  exact ⟨hgRc_s h1 (by omega), hgCV_fm h1.1 (hgDk_sm hk) (hgFn_f fr) (fun b hb => by omega) h2, ⟨hgI_at, (hgI_nk (by omega)).trans h3.2.1, fun g hg => (hgI_na (by omega)).trans ((h3.2.2 g hg).trans (congrArg hgB (fe g)))⟩, (hgI_nk (by omega)).trans h4, (hgI_nk (by omega)).trans h5⟩
theorem hgOkc_7 (h : hgOkc M t (p, D, f)) (hk : hgDk D) : hgOkc (hgSI M 298 7 (nI 1)) t (p, D, fS f 1) := by
  have fe : ∀ g, f (2 + g) = fS f 1 (2 + g) := fun g => by unfold fS; rw [if_neg (by omega)]
  obtain ⟨h1, h2, h3, h4, h5⟩ := h
  have fr : hgFn (fun b => b = 298) M (hgSI M 298 7 (nI 1)) := hgFn_SI hgFn_r rfl
  exact ⟨hgRc_s h1 (by omega), hgCV_fm h1.1 (hgDk_sm hk) (hgFn_f fr) (fun b hb => by omega) h2, ⟨(hgI_nk (by omega)).trans h3.1, hgI_at, fun g hg => (hgI_na (by omega)).trans ((h3.2.2 g hg).trans (congrArg hgB (fe g)))⟩, (hgI_nk (by omega)).trans h4, (hgI_nk (by omega)).trans h5⟩
theorem hgOkc_q (h : hgOkc M t (p, D, f)) (hk : hgDk D) (hg : g < 3) : hgOkc (hgSI M 299 g (nI 1)) t (p, D, fS f (2 + g)) := by
  have f0 : f 0 = fS f (2 + g) 0 := by unfold fS; rw [if_neg (by omega)]
  have f1 : f 1 = fS f (2 + g) 1 := by unfold fS; rw [if_neg (by omega)]
  obtain ⟨⟨b1, b2, b3, b4, b5, b6⟩, h2, h3, h4, h5⟩ := h
  have fr : hgFn (fun b => b = 299) M (hgSI M 299 g (nI 1)) := hgFn_SI hgFn_r rfl
  refine ⟨⟨b1, by rw [hgI_na (by omega)]; exact b2, by rw [hgI_na (by omega)]; exact b3, b4, b5, fun k hk => by rw [hgI_na (by omega)]; exact b6 k hk⟩, hgCV_fm b1 (hgDk_sm hk) (hgFn_f fr) (fun b hb => by omega) h2, ⟨by rw [hgI_na (by omega)]; exact h3.1.trans (congrArg hgB f0), by rw [hgI_na (by omega)]; exact h3.2.1.trans (congrArg hgB f1), fun j hj => ?_⟩, by rw [hgI_na (by omega)]; exact h4, by rw [hgI_na (by omega)]; exact h5⟩
  show _ = hgB (if 2 + j = 2 + g then true else f (2 + j))
  by_cases e : j = g
  · rw [e, if_pos rfl, hgI_at, hgB_t]
  · rw [if_neg (by omega), hgI_nk e]
    exact h3.2.2 j hj
theorem hgk_77 (h : hgOkc M t (p, D, f)) (hk : hgDk D) (h3 : hgI M 298 3 = nI s) : hgDo X 77 [.ref 298] M t (sWak t p s D f) := by
  have hw := h.1.1
  have h6 : hgI M 298 6 = hgB (f 0) := h.2.2.1.1
  unfold sWak
  by_cases q : f 0 = true
  · rw [if_pos q]
    rw [q, hgB_t] at h6
    have k62 := hgk_62 (X := X) (x := -2) hw
    refine hgDo_f ?_ hw h3 hgFd_r
    simp (maxDischargeDepth := 7) only [hgc77, hgM_t, hgM_f, hgM_n, hgx_aload_n_0, hgx_get3, hgx_if_eq, hgx_bipush_m2, hgx_invvirtual_2, hgx_aft_e, hgx_aft_i, hgx_aft_l, hgx_aft_v, hgx_ret3, hgx_iconst_1, hgx_put3, hgx_invvirtual_1, hgx_istore_n_1i, hgx_istore_n_1r, hgx_istore_n_1f, hgx_istore_n_1n, hgx_istore_n_1l, hgx_iconst_0, hgx_istore_n_2i, hgx_istore_n_2r, hgx_istore_n_2f, hgx_istore_n_2n, hgx_istore_n_2l, hgx_iload_n_2, hgx_bipush_8, hgx_ic_ge, hgx_iload_n_1, hgx_iinc_2_1, hgx_goto, hgv77_0, hgr77_0, hgu77_0, hgv77_14, hgr77_14, hgu77_14, hgv77_26, ← hgu77_26, hgv77_54, hgr77_54, hgu77_54, hgI_SI, hgI_SJ, hgJ_SI, hgJ_SJ, if_true, if_false, reduceIte, Nat.reduceEqDiff, hgWf_SI, hgWf_SJ, hgO_SI, hgO_SJ, hgAr_SI, hgAr_SJ, hgRp_SI, hgRp_SJ, hgN_SI, hgN_SJ, hgO_g, hgO_d, hgO_rl, hgO_r, hgO_0, hgO_1, hgO_64, hgO_298, hgO_300, hgCd_0, hgCd_1, hgCd_2, hgCd_3, hgCd_4, hgCd_5, hgRecv_O, hgRecv_99, List.length_cons, List.length_nil, Nat.zero_add, Nat.add_zero, Nat.le_refl, Nat.zero_le, and_self, or_true, true_or, true_and, and_true, ne_eq, not_false_eq_true, Nat.reduceLT, Nat.reduceLeDiff, Nat.reduceAdd, Nat.reduceEqDiff, hgn_eq, hgn_lt, hgn_le, if_true, if_false, reduceIte, Nat.not_lt_zero, hw, h6, k62]
  · rw [if_neg q]
    rw [Bool.eq_false_iff.mpr q, hgB_f] at h6
    have ok0 := hgOkc_6 h hk
    have f0 : hgFd M (hgSI M 298 6 (nI 1)) := hgFn_SI hgFn_r (by omega)
    obtain ⟨M2, e2, o2, f2⟩ := hgk_79 (X := X) ok0 hk
    have nx := sWk1_n (f := fS f 0) h.1.2.2.2.1 hk
    cases hr : sWk1 t p D (fS f 0) with
    | inr e =>
      rw [hr] at e2 o2
      have e2' : hgWC X 79 [.ref 298] (hgSI M 298 6 (nI 1)) = some (.inl (.int (nI 0)), M2) := e2
      refine ⟨M2, ?_, o2, hgFd_t f0 f2⟩
      refine Eq.trans ?_ (hgk_77z (X := X) (i := 0) (by omega))
      simp (maxDischargeDepth := 7) only [hgc77, hgM_t, hgM_f, hgM_n, hgx_aload_n_0, hgx_get3, hgx_if_eq, hgx_bipush_m2, hgx_invvirtual_2, hgx_aft_e, hgx_aft_i, hgx_aft_l, hgx_aft_v, hgx_ret3, hgx_iconst_1, hgx_put3, hgx_invvirtual_1, hgx_istore_n_1i, hgx_istore_n_1r, hgx_istore_n_1f, hgx_istore_n_1n, hgx_istore_n_1l, hgx_iconst_0, hgx_istore_n_2i, hgx_istore_n_2r, hgx_istore_n_2f, hgx_istore_n_2n, hgx_istore_n_2l, hgx_iload_n_2, hgx_bipush_8, hgx_ic_ge, hgx_iload_n_1, hgx_iinc_2_1, hgx_goto, hgv77_0, hgr77_0, hgu77_0, hgv77_14, hgr77_14, hgu77_14, hgv77_26, ← hgu77_26, hgv77_54, hgr77_54, hgu77_54, hgI_SI, hgI_SJ, hgJ_SI, hgJ_SJ, if_true, if_false, reduceIte, Nat.reduceEqDiff, hgWf_SI, hgWf_SJ, hgO_SI, hgO_SJ, hgAr_SI, hgAr_SJ, hgRp_SI, hgRp_SJ, hgN_SI, hgN_SJ, hgO_g, hgO_d, hgO_rl, hgO_r, hgO_0, hgO_1, hgO_64, hgO_298, hgO_300, hgCd_0, hgCd_1, hgCd_2, hgCd_3, hgCd_4, hgCd_5, hgRecv_O, hgRecv_99, List.length_cons, List.length_nil, Nat.zero_add, Nat.add_zero, Nat.le_refl, Nat.zero_le, and_self, or_true, true_or, true_and, and_true, ne_eq, not_false_eq_true, Nat.reduceLT, Nat.reduceLeDiff, Nat.reduceAdd, Nat.reduceEqDiff, hgn_eq, hgn_lt, hgn_le, if_true, if_false, reduceIte, Nat.not_lt_zero, hgn_add, hgn_mul, hw, h6, e2']
    | inl y =>
      rw [hr] at e2 o2 nx
      have e2' : hgWC X 79 [.ref 298] (hgSI M 298 6 (nI 1)) = some (.inl (.int (nI 1)), M2) := e2
      have vw := sWk1_w hr
      have n8 := nx.2.2.2.2.1
      obtain ⟨M3, e3, o3, f3⟩ := hgk_77l (X := X) (9 - vW y.2.1) y 0 M2 (by omega) (by omega) o2 nx.2.2
      refine ⟨M3, ?_, o3, hgFd_t (hgFd_t f0 f2) f3⟩
      refine Eq.trans ?_ e3
      simp (maxDischargeDepth := 7) only [hgc77, hgM_t, hgM_f, hgM_n, hgx_aload_n_0, hgx_get3, hgx_if_eq, hgx_bipush_m2, hgx_invvirtual_2, hgx_aft_e, hgx_aft_i, hgx_aft_l, hgx_aft_v, hgx_ret3, hgx_iconst_1, hgx_put3, hgx_invvirtual_1, hgx_istore_n_1i, hgx_istore_n_1r, hgx_istore_n_1f, hgx_istore_n_1n, hgx_istore_n_1l, hgx_iconst_0, hgx_istore_n_2i, hgx_istore_n_2r, hgx_istore_n_2f, hgx_istore_n_2n, hgx_istore_n_2l, hgx_iload_n_2, hgx_bipush_8, hgx_ic_ge, hgx_iload_n_1, hgx_iinc_2_1, hgx_goto, hgv77_0, hgr77_0, hgu77_0, hgv77_14, hgr77_14, hgu77_14, hgv77_26, ← hgu77_26, hgv77_54, hgr77_54, hgu77_54, hgI_SI, hgI_SJ, hgJ_SI, hgJ_SJ, if_true, if_false, reduceIte, Nat.reduceEqDiff, hgWf_SI, hgWf_SJ, hgO_SI, hgO_SJ, hgAr_SI, hgAr_SJ, hgRp_SI, hgRp_SJ, hgN_SI, hgN_SJ, hgO_g, hgO_d, hgO_rl, hgO_r, hgO_0, hgO_1, hgO_64, hgO_298, hgO_300, hgCd_0, hgCd_1, hgCd_2, hgCd_3, hgCd_4, hgCd_5, hgRecv_O, hgRecv_99, List.length_cons, List.length_nil, Nat.zero_add, Nat.add_zero, Nat.le_refl, Nat.zero_le, and_self, or_true, true_or, true_and, and_true, ne_eq, not_false_eq_true, Nat.reduceLT, Nat.reduceLeDiff, Nat.reduceAdd, Nat.reduceEqDiff, hgn_eq, hgn_lt, hgn_le, if_true, if_false, reduceIte, Nat.not_lt_zero, hgn_add, hgn_mul, hw, h6, e2']
theorem hgnb1 : vp_nar .boolean (nI 1) = nI 1 := by decide
theorem hgnb0 : vp_nar .boolean (nI 0) = nI 0 := by decide
theorem hgk_80 (h : hgOkc M t (p, D, f)) (hk : hgDk D) : hgDo X 80 [.ref 298] M t (sQut t p D f) := by
  have hw := h.1.1
  have g35 := hg35
  have m1 : (-1 : Int32) < nI 0 := by decide
  obtain ⟨d1, d2, d3⟩ := hgDk_dy hk
  obtain ⟨M1, e1, r1, r2, r3⟩ := hgk_72 (X := X) h.1
  have w1 := r1.1
  have ok1 := hgOkc_c h hk r3 r1
  have k62 := hgk_62 (X := X) (x := -2) w1
  unfold sQut
  cases hs : sSel t p with
  | none =>
    rw [hs, hgOi_n] at e1
    refine hgDo_f ?_ w1 r2 (hgFd_c r3)
    simp (maxDischargeDepth := 7) only [hgc80, hgM_t, hgM_f, hgM_n, hgx_aload_n_0, hgx_invvirtual_1, hgx_aft_e, hgx_aft_i, hgx_aft_l, hgx_aft_v, hgx_istore_n_1i, hgx_istore_n_1r, hgx_istore_n_1f, hgx_istore_n_1n, hgx_istore_n_1l, hgx_iload_n_1, hgx_if_lt, hgx_iconst_3, hgx_ic_ge, hgs_get_6_8, hgx_if_eq, hgx_bipush_m2, hgx_invvirtual_2, hgx_ret3, hgx_iconst_1, hgx_iconst_0, hgs_get_6_5, hgx_get0, hgx_isub, hgx_invvirtual_3, hgx_if_ne, hgx_istore_n_2i, hgx_istore_n_2r, hgx_istore_n_2f, hgx_istore_n_2n, hgx_istore_n_2l, hgx_iload_n_2, hgx_invvirtual_4, hgv80_0, hgr80_0, hgu80_0, hgv80_23, hgr80_23, hgu80_23, hgv80_30, hgr80_30, hgu80_30, hgv80_56, hgr80_56, hgu80_56, hgv80_80, hgr80_80, hgu80_80, hgI_SI, hgI_SJ, hgJ_SI, hgJ_SJ, if_true, if_false, reduceIte, Nat.reduceEqDiff, hgWf_SI, hgWf_SJ, hgO_SI, hgO_SJ, hgAr_SI, hgAr_SJ, hgRp_SI, hgRp_SJ, hgN_SI, hgN_SJ, hgO_g, hgO_d, hgO_rl, hgO_r, hgO_0, hgO_1, hgO_64, hgO_298, hgO_300, hgCd_0, hgCd_1, hgCd_2, hgCd_3, hgCd_4, hgCd_5, hgRecv_O, hgRecv_99, List.length_cons, List.length_nil, Nat.zero_add, Nat.add_zero, Nat.le_refl, Nat.zero_le, and_self, or_true, true_or, true_and, and_true, ne_eq, not_false_eq_true, Nat.reduceLT, Nat.reduceLeDiff, Nat.reduceAdd, Nat.reduceEqDiff, hgn_eq, hgn_lt, hgn_le, if_true, if_false, reduceIte, Nat.not_lt_zero, hw, e1, m1, w1, k62]
  | some g =>
    have g4 := sSel_lt hs
    have b1 : g < 2147483648 := by omega
    rw [hs, hgOi_s] at e1
    dsimp only
    by_cases g3 : 3 ≤ g
    · rw [if_neg (by omega)]
      refine hgDo_f ?_ w1 r2 (hgFd_c r3)
      simp (maxDischargeDepth := 7) only [hgc80, hgM_t, hgM_f, hgM_n, hgx_aload_n_0, hgx_invvirtual_1, hgx_aft_e, hgx_aft_i, hgx_aft_l, hgx_aft_v, hgx_istore_n_1i, hgx_istore_n_1r, hgx_istore_n_1f, hgx_istore_n_1n, hgx_istore_n_1l, hgx_iload_n_1, hgx_if_lt, hgx_iconst_3, hgx_ic_ge, hgs_get_6_8, hgx_if_eq, hgx_bipush_m2, hgx_invvirtual_2, hgx_ret3, hgx_iconst_1, hgx_iconst_0, hgs_get_6_5, hgx_get0, hgx_isub, hgx_invvirtual_3, hgx_if_ne, hgx_istore_n_2i, hgx_istore_n_2r, hgx_istore_n_2f, hgx_istore_n_2n, hgx_istore_n_2l, hgx_iload_n_2, hgx_invvirtual_4, hgv80_0, hgr80_0, hgu80_0, hgv80_23, hgr80_23, hgu80_23, hgv80_30, hgr80_30, hgu80_30, hgv80_56, hgr80_56, hgu80_56, hgv80_80, hgr80_80, hgu80_80, hgI_SI, hgI_SJ, hgJ_SI, hgJ_SJ, if_true, if_false, reduceIte, Nat.reduceEqDiff, hgWf_SI, hgWf_SJ, hgO_SI, hgO_SJ, hgAr_SI, hgAr_SJ, hgRp_SI, hgRp_SJ, hgN_SI, hgN_SJ, hgO_g, hgO_d, hgO_rl, hgO_r, hgO_0, hgO_1, hgO_64, hgO_298, hgO_300, hgCd_0, hgCd_1, hgCd_2, hgCd_3, hgCd_4, hgCd_5, hgRecv_O, hgRecv_99, List.length_cons, List.length_nil, Nat.zero_add, Nat.add_zero, Nat.le_refl, Nat.zero_le, and_self, or_true, true_or, true_and, and_true, ne_eq, not_false_eq_true, Nat.reduceLT, Nat.reduceLeDiff, Nat.reduceAdd, Nat.reduceEqDiff, hgn_eq, hgn_lt, hgn_le, if_true, if_false, reduceIte, Nat.not_lt_zero, hw, e1, b1, g3, w1, k62]
    · have g2 : g < 3 := by omega
      have hq := ok1.2.2.1.2.2 g g2
      by_cases q : f (2 + g) = false
      · rw [if_pos ⟨g2, q⟩]
        have hq' : hgI M1 299 g = nI 0 := by rw [hq]; show hgB (f (2 + g)) = nI 0; rw [q, hgB_f]
        have ok1' := hgOkc_q ok1 hk g2
        have f1' : hgFd M1 (hgSI M1 299 g (nI 1)) := hgFn_SI hgFn_r (by omega)
        have y1 : hgI M1 35 3 = nI (vDy D) := ok1.2.1.2.2.2.2.2.2.1.trans d3
        cases hn1 : sNum t (tWe t (tSk t p)) 0 (vDy D - 1) with
        | inr e =>
          obtain ⟨M2, e2, s1, _, _⟩ := hgk_71b (X := X) ok1'.1 (by omega) (by omega) hn1
          refine hgDo_n ?_ s1 (hgFd_t (hgFd_c r3) f1')
          simp (maxDischargeDepth := 7) only [hgc80, hgM_t, hgM_f, hgM_n, hgx_aload_n_0, hgx_invvirtual_1, hgx_aft_e, hgx_aft_i, hgx_aft_l, hgx_aft_v, hgx_istore_n_1i, hgx_istore_n_1r, hgx_istore_n_1f, hgx_istore_n_1n, hgx_istore_n_1l, hgx_iload_n_1, hgx_if_lt, hgx_iconst_3, hgx_ic_ge, hgs_get_6_8, hgx_if_eq, hgx_bipush_m2, hgx_invvirtual_2, hgx_ret3, hgx_iconst_1, hgx_iconst_0, hgs_get_6_5, hgx_get0, hgx_isub, hgx_invvirtual_3, hgx_if_ne, hgx_istore_n_2i, hgx_istore_n_2r, hgx_istore_n_2f, hgx_istore_n_2n, hgx_istore_n_2l, hgx_iload_n_2, hgx_invvirtual_4, hgv80_0, hgr80_0, hgu80_0, hgv80_23, hgr80_23, hgu80_23, hgv80_30, hgr80_30, hgu80_30, hgv80_56, hgr80_56, hgu80_56, hgv80_80, hgr80_80, hgu80_80, hgI_SI, hgI_SJ, hgJ_SI, hgJ_SJ, if_true, if_false, reduceIte, Nat.reduceEqDiff, hgWf_SI, hgWf_SJ, hgO_SI, hgO_SJ, hgAr_SI, hgAr_SJ, hgRp_SI, hgRp_SJ, hgN_SI, hgN_SJ, hgO_g, hgO_d, hgO_rl, hgO_r, hgO_0, hgO_1, hgO_64, hgO_298, hgO_300, hgCd_0, hgCd_1, hgCd_2, hgCd_3, hgCd_4, hgCd_5, hgRecv_O, hgRecv_99, List.length_cons, List.length_nil, Nat.zero_add, Nat.add_zero, Nat.le_refl, Nat.zero_le, and_self, or_true, true_or, true_and, and_true, ne_eq, not_false_eq_true, Nat.reduceLT, Nat.reduceLeDiff, Nat.reduceAdd, Nat.reduceEqDiff, hgn_eq, hgn_lt, hgn_le, if_true, if_false, reduceIte, Nat.not_lt_zero, hgs_aa_d, hgs_aa_r, hgs_aa_h, hgs_aa_m, hgs_aa_t, hgs_ld_wp, hgs_st_wp, hgs_ld_qf, hgs_st_qf, hgs_ld_qt, hgs_st_qt, hgs_ld_2, hgs_st_2, hgs_ld_3, hgs_st_3, hgs_ld_4, hgs_st_4, hgs_ld_301, hgs_st_301, hgs_ld_D, hgs_st_D, hgs_ld_s, hgs_ld_T, hgs_st_T, hgs_ld_o, hgs_st_o, hgs_ld_b, hgs_st_b, hgs_ld_z, hgs_st_z, hgs_al_b, hgx_alen_s, hgnb1, hw, g35, e1, b1, g2, g3, w1, hq', y1, d1, hgn_sub, e2]
        | inl v =>
          obtain ⟨M2, e2, s1, s4, s3, l1, l2, f2⟩ := hgk_71a (X := X) ok1'.1 (by omega) (by omega) hn1
          have ok2 := hgOkc_c ok1' hk f2 s1
          have w2 := s1.1
          have y2 : hgI M2 35 3 = nI (vDy D) := ok2.2.1.2.2.2.2.2.2.1.trans d3
          show hgDo X 80 _ M t (sB (sNum t v.2 0 (vDy D - 1)) (fun b => .inl (b.2, vAh D g v.1 b.1, fS f (2 + g))))
          cases hn2 : sNum t v.2 0 (vDy D - 1) with
          | inr e =>
            obtain ⟨M3, e3, t1, _, _⟩ := hgk_71b (X := X) ok2.1 (by omega) (by omega) hn2
            refine hgDo_n ?_ t1 (hgFd_t (hgFd_t (hgFd_c r3) f1') (hgFd_c f2))
            simp (maxDischargeDepth := 7) only [hgc80, hgM_t, hgM_f, hgM_n, hgx_aload_n_0, hgx_invvirtual_1, hgx_aft_e, hgx_aft_i, hgx_aft_l, hgx_aft_v, hgx_istore_n_1i, hgx_istore_n_1r, hgx_istore_n_1f, hgx_istore_n_1n, hgx_istore_n_1l, hgx_iload_n_1, hgx_if_lt, hgx_iconst_3, hgx_ic_ge, hgs_get_6_8, hgx_if_eq, hgx_bipush_m2, hgx_invvirtual_2, hgx_ret3, hgx_iconst_1, hgx_iconst_0, hgs_get_6_5, hgx_get0, hgx_isub, hgx_invvirtual_3, hgx_if_ne, hgx_istore_n_2i, hgx_istore_n_2r, hgx_istore_n_2f, hgx_istore_n_2n, hgx_istore_n_2l, hgx_iload_n_2, hgx_invvirtual_4, hgv80_0, hgr80_0, hgu80_0, hgv80_23, hgr80_23, hgu80_23, hgv80_30, hgr80_30, hgu80_30, hgv80_56, hgr80_56, hgu80_56, hgv80_80, hgr80_80, hgu80_80, hgI_SI, hgI_SJ, hgJ_SI, hgJ_SJ, if_true, if_false, reduceIte, Nat.reduceEqDiff, hgWf_SI, hgWf_SJ, hgO_SI, hgO_SJ, hgAr_SI, hgAr_SJ, hgRp_SI, hgRp_SJ, hgN_SI, hgN_SJ, hgO_g, hgO_d, hgO_rl, hgO_r, hgO_0, hgO_1, hgO_64, hgO_298, hgO_300, hgCd_0, hgCd_1, hgCd_2, hgCd_3, hgCd_4, hgCd_5, hgRecv_O, hgRecv_99, List.length_cons, List.length_nil, Nat.zero_add, Nat.add_zero, Nat.le_refl, Nat.zero_le, and_self, or_true, true_or, true_and, and_true, ne_eq, not_false_eq_true, Nat.reduceLT, Nat.reduceLeDiff, Nat.reduceAdd, Nat.reduceEqDiff, hgn_eq, hgn_lt, hgn_le, if_true, if_false, reduceIte, Nat.not_lt_zero, hgs_aa_d, hgs_aa_r, hgs_aa_h, hgs_aa_m, hgs_aa_t, hgs_ld_wp, hgs_st_wp, hgs_ld_qf, hgs_st_qf, hgs_ld_qt, hgs_st_qt, hgs_ld_2, hgs_st_2, hgs_ld_3, hgs_st_3, hgs_ld_4, hgs_st_4, hgs_ld_301, hgs_st_301, hgs_ld_D, hgs_st_D, hgs_ld_s, hgs_ld_T, hgs_st_T, hgs_ld_o, hgs_st_o, hgs_ld_b, hgs_st_b, hgs_ld_z, hgs_st_z, hgs_al_b, hgx_alen_s, hgnb1, hw, g35, e1, b1, g2, g3, w1, hq', y1, d1, hgn_sub, e2, w2, s4, y2, e3]
          | inl c =>
            obtain ⟨M3, e3, t1, t4, t3, l3, l4, f3⟩ := hgk_71a (X := X) ok2.1 (by omega) (by omega) hn2
            have ok3 := hgOkc_c ok2 hk f3 t1
            have w3 := t1.1
            obtain ⟨v1, v2⟩ := hgCV_ah (q := g) (i := v.1) (j := c.1) w3 hk ok3.2.1
            have k14 := hgk_14 (X := X) (x := nI v.1) (y := nI c.1) w3 g35 g2
            refine hgDo_l ?_ (hgOkc_v ok3 v2 v1) (hgFd_t (hgFd_t (hgFd_t (hgFd_t (hgFd_c r3) f1') (hgFd_c f2)) (hgFd_c f3)) (hgFd_v v2))
            clear v1 v2
            obtain ⟨M4, hM4⟩ : ∃ M4, M4 = hgSI (hgSI M3 (35 + 27) g (nI v.1)) (35 + 28) g (nI c.1) := ⟨_, rfl⟩
            rw [← hM4] at k14 ⊢
            simp (maxDischargeDepth := 7) only [hgc80, hgM_t, hgM_f, hgM_n, hgx_aload_n_0, hgx_invvirtual_1, hgx_aft_e, hgx_aft_i, hgx_aft_l, hgx_aft_v, hgx_istore_n_1i, hgx_istore_n_1r, hgx_istore_n_1f, hgx_istore_n_1n, hgx_istore_n_1l, hgx_iload_n_1, hgx_if_lt, hgx_iconst_3, hgx_ic_ge, hgs_get_6_8, hgx_if_eq, hgx_bipush_m2, hgx_invvirtual_2, hgx_ret3, hgx_iconst_1, hgx_iconst_0, hgs_get_6_5, hgx_get0, hgx_isub, hgx_invvirtual_3, hgx_if_ne, hgx_istore_n_2i, hgx_istore_n_2r, hgx_istore_n_2f, hgx_istore_n_2n, hgx_istore_n_2l, hgx_iload_n_2, hgx_invvirtual_4, hgv80_0, hgr80_0, hgu80_0, hgv80_23, hgr80_23, hgu80_23, hgv80_30, hgr80_30, hgu80_30, hgv80_56, hgr80_56, hgu80_56, hgv80_80, hgr80_80, hgu80_80, hgI_SI, hgI_SJ, hgJ_SI, hgJ_SJ, if_true, if_false, reduceIte, Nat.reduceEqDiff, hgWf_SI, hgWf_SJ, hgO_SI, hgO_SJ, hgAr_SI, hgAr_SJ, hgRp_SI, hgRp_SJ, hgN_SI, hgN_SJ, hgO_g, hgO_d, hgO_rl, hgO_r, hgO_0, hgO_1, hgO_64, hgO_298, hgO_300, hgCd_0, hgCd_1, hgCd_2, hgCd_3, hgCd_4, hgCd_5, hgRecv_O, hgRecv_99, List.length_cons, List.length_nil, Nat.zero_add, Nat.add_zero, Nat.le_refl, Nat.zero_le, and_self, or_true, true_or, true_and, and_true, ne_eq, not_false_eq_true, Nat.reduceLT, Nat.reduceLeDiff, Nat.reduceAdd, Nat.reduceEqDiff, hgn_eq, hgn_lt, hgn_le, if_true, if_false, reduceIte, Nat.not_lt_zero, hgs_aa_d, hgs_aa_r, hgs_aa_h, hgs_aa_m, hgs_aa_t, hgs_ld_wp, hgs_st_wp, hgs_ld_qf, hgs_st_qf, hgs_ld_qt, hgs_st_qt, hgs_ld_2, hgs_st_2, hgs_ld_3, hgs_st_3, hgs_ld_4, hgs_st_4, hgs_ld_301, hgs_st_301, hgs_ld_D, hgs_st_D, hgs_ld_s, hgs_ld_T, hgs_st_T, hgs_ld_o, hgs_st_o, hgs_ld_b, hgs_st_b, hgs_ld_z, hgs_st_z, hgs_al_b, hgx_alen_s, hgnb1, hw, g35, e1, b1, g2, g3, w1, hq', y1, d1, hgn_sub, e2, w2, s4, y2, e3, w3, t4, k14]
      · rw [if_neg (fun z => q z.2)]
        have hq' : hgI M1 299 g = nI 1 := by rw [hq]; show hgB (f (2 + g)) = nI 1; rw [show f (2 + g) = true by cases hb : f (2 + g) with | true => rfl | false => exact absurd hb q, hgB_t]
        refine hgDo_f ?_ w1 r2 (hgFd_c r3)
        simp (maxDischargeDepth := 7) only [hgc80, hgM_t, hgM_f, hgM_n, hgx_aload_n_0, hgx_invvirtual_1, hgx_aft_e, hgx_aft_i, hgx_aft_l, hgx_aft_v, hgx_istore_n_1i, hgx_istore_n_1r, hgx_istore_n_1f, hgx_istore_n_1n, hgx_istore_n_1l, hgx_iload_n_1, hgx_if_lt, hgx_iconst_3, hgx_ic_ge, hgs_get_6_8, hgx_if_eq, hgx_bipush_m2, hgx_invvirtual_2, hgx_ret3, hgx_iconst_1, hgx_iconst_0, hgs_get_6_5, hgx_get0, hgx_isub, hgx_invvirtual_3, hgx_if_ne, hgx_istore_n_2i, hgx_istore_n_2r, hgx_istore_n_2f, hgx_istore_n_2n, hgx_istore_n_2l, hgx_iload_n_2, hgx_invvirtual_4, hgv80_0, hgr80_0, hgu80_0, hgv80_23, hgr80_23, hgu80_23, hgv80_30, hgr80_30, hgu80_30, hgv80_56, hgr80_56, hgu80_56, hgv80_80, hgr80_80, hgu80_80, hgI_SI, hgI_SJ, hgJ_SI, hgJ_SJ, if_true, if_false, reduceIte, Nat.reduceEqDiff, hgWf_SI, hgWf_SJ, hgO_SI, hgO_SJ, hgAr_SI, hgAr_SJ, hgRp_SI, hgRp_SJ, hgN_SI, hgN_SJ, hgO_g, hgO_d, hgO_rl, hgO_r, hgO_0, hgO_1, hgO_64, hgO_298, hgO_300, hgCd_0, hgCd_1, hgCd_2, hgCd_3, hgCd_4, hgCd_5, hgRecv_O, hgRecv_99, List.length_cons, List.length_nil, Nat.zero_add, Nat.add_zero, Nat.le_refl, Nat.zero_le, and_self, or_true, true_or, true_and, and_true, ne_eq, not_false_eq_true, Nat.reduceLT, Nat.reduceLeDiff, Nat.reduceAdd, Nat.reduceEqDiff, hgn_eq, hgn_lt, hgn_le, if_true, if_false, reduceIte, Nat.not_lt_zero, hgs_aa_d, hgs_aa_r, hgs_aa_h, hgs_aa_m, hgs_aa_t, hgs_ld_wp, hgs_st_wp, hgs_ld_qf, hgs_st_qf, hgs_ld_qt, hgs_st_qt, hgs_ld_2, hgs_st_2, hgs_ld_3, hgs_st_3, hgs_ld_4, hgs_st_4, hgs_ld_301, hgs_st_301, hgs_ld_D, hgs_st_D, hgs_ld_s, hgs_ld_T, hgs_st_T, hgs_ld_o, hgs_st_o, hgs_ld_b, hgs_st_b, hgs_ld_z, hgs_st_z, hgs_al_b, hgx_alen_s, hw, e1, b1, g2, g3, w1, hq', k62]
theorem hgk_81 (h : hgOkc M t (p, D, f)) (hk : hgDk D) (h3 : hgI M 298 3 = nI s) : hgDo X 81 [.ref 298] M t (sLim t p s D f) := by
  have hw := h.1.1
  have g35 := hg35
  have h7 : hgI M 298 7 = hgB (f 1) := h.2.2.1.2.1
  unfold sLim
  by_cases q : f 1 = true
  · rw [if_pos q]
    rw [q, hgB_t] at h7
    have k62 := hgk_62 (X := X) (x := -2) hw
    refine hgDo_f ?_ hw h3 hgFd_r
    simp (maxDischargeDepth := 7) only [hgc81, hgM_t, hgM_f, hgM_n, hgx_aload_n_0, hgx_get3, hgx_if_eq, hgx_bipush_m2, hgx_invvirtual_2, hgx_aft_e, hgx_aft_i, hgx_aft_l, hgx_aft_v, hgx_ret3, hgx_iconst_1, hgx_put3, hgx_sipush_999, hgx_invvirtual_3, hgx_if_ne, hgx_iconst_0, hgs_get_6_5, hgx_get0, hgx_put0, hgv81_0, hgr81_0, hgu81_0, hgv81_14, hgr81_14, hgu81_14, hgv81_32, hgr81_32, hgu81_32, hgI_SI, hgI_SJ, hgJ_SI, hgJ_SJ, if_true, if_false, reduceIte, Nat.reduceEqDiff, hgWf_SI, hgWf_SJ, hgO_SI, hgO_SJ, hgAr_SI, hgAr_SJ, hgRp_SI, hgRp_SJ, hgN_SI, hgN_SJ, hgO_g, hgO_d, hgO_rl, hgO_r, hgO_0, hgO_1, hgO_64, hgO_298, hgO_300, hgCd_0, hgCd_1, hgCd_2, hgCd_3, hgCd_4, hgCd_5, hgRecv_O, hgRecv_99, List.length_cons, List.length_nil, Nat.zero_add, Nat.add_zero, Nat.le_refl, Nat.zero_le, and_self, or_true, true_or, true_and, and_true, ne_eq, not_false_eq_true, Nat.reduceLT, Nat.reduceLeDiff, Nat.reduceAdd, Nat.reduceEqDiff, hgn_eq, hgn_lt, hgn_le, if_true, if_false, reduceIte, Nat.not_lt_zero, hw, h7, k62]
  · rw [if_neg q]
    rw [Bool.eq_false_iff.mpr q, hgB_f] at h7
    have ok0 := hgOkc_7 h hk
    have f0 : hgFd M (hgSI M 298 7 (nI 1)) := hgFn_SI hgFn_r (by omega)
    cases hn1 : sNum t p 1 999 with
    | inr e =>
      obtain ⟨M2, e2, s1, _, _⟩ := hgk_71b (X := X) ok0.1 (by omega) (by omega) hn1
      refine hgDo_n ?_ s1 f0
      simp (maxDischargeDepth := 7) only [hgc81, hgM_t, hgM_f, hgM_n, hgx_aload_n_0, hgx_get3, hgx_if_eq, hgx_bipush_m2, hgx_invvirtual_2, hgx_aft_e, hgx_aft_i, hgx_aft_l, hgx_aft_v, hgx_ret3, hgx_iconst_1, hgx_put3, hgx_sipush_999, hgx_invvirtual_3, hgx_if_ne, hgx_iconst_0, hgs_get_6_5, hgx_get0, hgx_put0, hgv81_0, hgr81_0, hgu81_0, hgv81_14, hgr81_14, hgu81_14, hgv81_32, hgr81_32, hgu81_32, hgI_SI, hgI_SJ, hgJ_SI, hgJ_SJ, if_true, if_false, reduceIte, Nat.reduceEqDiff, hgWf_SI, hgWf_SJ, hgO_SI, hgO_SJ, hgAr_SI, hgAr_SJ, hgRp_SI, hgRp_SJ, hgN_SI, hgN_SJ, hgO_g, hgO_d, hgO_rl, hgO_r, hgO_0, hgO_1, hgO_64, hgO_298, hgO_300, hgCd_0, hgCd_1, hgCd_2, hgCd_3, hgCd_4, hgCd_5, hgRecv_O, hgRecv_99, List.length_cons, List.length_nil, Nat.zero_add, Nat.add_zero, Nat.le_refl, Nat.zero_le, and_self, or_true, true_or, true_and, and_true, ne_eq, not_false_eq_true, Nat.reduceLT, Nat.reduceLeDiff, Nat.reduceAdd, Nat.reduceEqDiff, hgn_eq, hgn_lt, hgn_le, if_true, if_false, reduceIte, Nat.not_lt_zero, hw, h7, e2]
    | inl v =>
      obtain ⟨M2, e2, s1, s4, s3, l1, l2, f2⟩ := hgk_71a (X := X) ok0.1 (by omega) (by omega) hn1
      have ok2 := hgOkc_c ok0 hk f2 s1
      have w2 := s1.1
      have v1 := hgCV_ss (k := 6) (n := 4) (x := nI v.1) w2 (hgDk_sm hk) (by omega) ok2.2.1
      have v2 : hgFn (fun b => 35 ≤ b ∧ b < 35 + 29) M2 (hgSI M2 35 4 (nI v.1)) := hgFn_SI hgFn_r (by omega)
      refine hgDo_l ?_ (hgOkc_v ok2 v2 v1) (hgFd_t (hgFd_t f0 (hgFd_c f2)) (hgFd_v v2))
      simp (maxDischargeDepth := 7) only [hgc81, hgM_t, hgM_f, hgM_n, hgx_aload_n_0, hgx_get3, hgx_if_eq, hgx_bipush_m2, hgx_invvirtual_2, hgx_aft_e, hgx_aft_i, hgx_aft_l, hgx_aft_v, hgx_ret3, hgx_iconst_1, hgx_put3, hgx_sipush_999, hgx_invvirtual_3, hgx_if_ne, hgx_iconst_0, hgs_get_6_5, hgx_get0, hgx_put0, hgv81_0, hgr81_0, hgu81_0, hgv81_14, hgr81_14, hgu81_14, hgv81_32, hgr81_32, hgu81_32, hgI_SI, hgI_SJ, hgJ_SI, hgJ_SJ, if_true, if_false, reduceIte, Nat.reduceEqDiff, hgWf_SI, hgWf_SJ, hgO_SI, hgO_SJ, hgAr_SI, hgAr_SJ, hgRp_SI, hgRp_SJ, hgN_SI, hgN_SJ, hgO_g, hgO_d, hgO_rl, hgO_r, hgO_0, hgO_1, hgO_64, hgO_298, hgO_300, hgCd_0, hgCd_1, hgCd_2, hgCd_3, hgCd_4, hgCd_5, hgRecv_O, hgRecv_99, List.length_cons, List.length_nil, Nat.zero_add, Nat.add_zero, Nat.le_refl, Nat.zero_le, and_self, or_true, true_or, true_and, and_true, ne_eq, not_false_eq_true, Nat.reduceLT, Nat.reduceLeDiff, Nat.reduceAdd, Nat.reduceEqDiff, hgn_eq, hgn_lt, hgn_le, if_true, if_false, reduceIte, Nat.not_lt_zero, hw, g35, h7, e2, w2, s4]
end HGRD2

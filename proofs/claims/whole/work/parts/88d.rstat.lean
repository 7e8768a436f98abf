/-! STATEMENTS, the reference's. -/
section HGRST
variable {X : hgX} {M M' M0 M1 M2 M3 Mo : hgMem} {t : hgTxt} {i j k a b n p q N l s lo hi g w d c m : Nat} {x y x1 x2 x3 x4 x5 : Int32} {D V : hgV} {f f' : Nat → Bool} {A : List Value} {z : hgPt} {e : Int32 × Nat} {r : hgQt}
theorem hgOkr_d (h : hgOkr M t (p, D, f)) (hv : hgRD M1 V) (hf : hgFn (fun b => b = 303) M M1) : hgOkr M1 t (p, V, f) := by
  obtain ⟨⟨b1, b2, b3, b4, b5, b6, b7⟩, h2, h3, h4⟩ := h
  have o : ∀ b, b ≠ 303 → ∀ k, hgI M1 b k = hgI M b k := fun b hb k => (hf.2.2 b hb k).1
  exact ⟨⟨hgFn_w hf b1, by rw [o _ (by omega)]; exact b2, by rw [o _ (by omega)]; exact b3, b4, b5, by rw [o _ (by omega)]; exact b6, fun k hk => by rw [o _ (by omega)]; exact b7 k hk⟩, hv, by rw [o _ (by omega)]; exact h3, by rw [o _ (by omega)]; exact h4⟩
theorem hgFh_n (hf : hgFn (fun b => b = 303) M M1) : hgFh M M1 := ⟨hgFn_m hf (fun b hb => Or.inr hb), fun k _ _ _ _ _ => (hf.2.2 300 (by omega) k).1⟩
theorem hgk_147 (h : hgOkr M t (p, D, f)) (hk : hgDk D) : hgDr X 147 [.ref 300, .int (nI s)] M t (sDev t p s D f) := by
  have hr := h.1
  have hw := hr.1
  have hp := hr.2.2.2.1
  have n0 : hgI M 303 0 = nI (vN D) := h.2.1.1
  have n10 := hk.1
  have a0 := hgAr_303 hw
  unfold sDev
  by_cases q : vN D = 10
  · rw [if_pos q]
    rw [q] at n0
    have k137 := hgk_137 (X := X) (x := -4) (y := nI s) hr
    have em : hgEm (hgSI (hgSI M 300 5 (-4)) 300 6 (nI s)) (-4, s) := hgEm_i hr (Or.inr (Or.inr rfl))
    have fh : hgFh M (hgSI (hgSI M 300 5 (-4)) 300 6 (nI s)) := hgFh_s (hgFh_s hgFh_r (by omega)) (by omega)
    refine hgDr_e ?_ em fh
    generalize hgSI (hgSI M 300 5 (-4)) 300 6 (nI s) = M1 at *
    have w1 := em.1
    have k145 := hgk_145e (X := X) em
    have k1 := hgk_143e (X := X) (x := nI 1) (y := nI 9) em
    have k2 := hgk_143e (X := X) (x := nI 0) (y := nI 9) em
    have k3 := hgk_143e (X := X) (x := nI 0) (y := nI 99) em
    have k136 := hgk_136e (X := X) em
    simp (maxDischargeDepth := 7) only [hgc147, hgM_t, hgM_f, hgM_n, hgx_aload_n_0, hgs_get_8_9, hgx_iconst_0, hgx_bipush_10, hgx_ic_ne, hgx_bipush_m4, hgx_iload_n_1, hgx_invvirtual_3, hgx_aft_e, hgx_aft_i, hgx_aft_l, hgx_aft_v, hgx_invvirtual_1, hgx_istore_n_2i, hgx_istore_n_2r, hgx_istore_n_2f, hgx_istore_n_2n, hgx_istore_n_2l, hgx_iconst_1, hgx_bipush_9, hgx_istore_n_3i, hgx_istore_n_3r, hgx_istore_n_3f, hgx_istore_n_3n, hgx_istore_n_3l, hgx_istore_4i, hgx_istore_4r, hgx_istore_4f, hgx_istore_4n, hgx_istore_4l, hgx_bipush_99, hgx_istore_5i, hgx_istore_5r, hgx_istore_5f, hgx_istore_5n, hgx_istore_5l, hgx_if_ne, hgx_vret, hgx_invstatic_1, hgx_istore_6i, hgx_istore_6r, hgx_istore_6f, hgx_istore_6n, hgx_istore_6l, hgx_iload_6, hgx_iload_n_2, hgx_iadd, hgx_iload_n_3, hgx_iconst_2, hgx_iload_4, hgx_iconst_3, hgx_iload_5, hgx_bipush_8, hgx_iconst_m1, hgx_dup2, hgv147_0, hgr147_0, hgu147_0, hgv147_18, hgr147_18, hgu147_18, hgv147_57, hgr147_57, hgu147_57, hgI_SI, hgI_SJ, hgJ_SI, hgJ_SJ, if_true, if_false, reduceIte, Nat.reduceEqDiff, hgWf_SI, hgWf_SJ, hgO_SI, hgO_SJ, hgAr_SI, hgAr_SJ, hgRp_SI, hgRp_SJ, hgN_SI, hgN_SJ, hgO_g, hgO_d, hgO_rl, hgO_r, hgO_0, hgO_1, hgO_64, hgO_298, hgO_300, hgCd_0, hgCd_1, hgCd_2, hgCd_3, hgCd_4, hgCd_5, hgRecv_O, hgRecv_99, List.length_cons, List.length_nil, Nat.zero_add, Nat.add_zero, Nat.le_refl, Nat.zero_le, and_self, or_true, true_or, true_and, and_true, ne_eq, not_false_eq_true, Nat.reduceLT, Nat.reduceLeDiff, Nat.reduceAdd, Nat.reduceEqDiff, hgn_eq, hgn_lt, hgn_le, if_true, if_false, reduceIte, Nat.not_lt_zero, hgs_aa_d, hgs_aa_r, hgs_aa_h, hgs_aa_m, hgs_aa_t, hgs_ld_wp, hgs_st_wp, hgs_ld_qf, hgs_st_qf, hgs_ld_qt, hgs_st_qt, hgs_ld_2, hgs_st_2, hgs_ld_3, hgs_st_3, hgs_ld_4, hgs_st_4, hgs_ld_301, hgs_st_301, hgs_ld_D, hgs_st_D, hgs_ld_s, hgs_ld_T, hgs_st_T, hgs_ld_o, hgs_st_o, hgs_ld_b, hgs_st_b, hgs_ld_z, hgs_st_z, hgs_al_b, hgx_alen_s, hw, a0, n0, k137, w1, k145, k1, k2, k3, k136]
  · rw [if_neg q]
    have q1 : vN D < 10 := by omega
    have b0 : vN D < 2147483648 := by omega
    have q2 : ¬ vN D = 10 := q
    cases hg : sGrp t p with
    | none =>
      obtain ⟨M1, e1, em, f1⟩ := hgk_145b (X := X) hr hp rfl hg
      have w1 := em.1
      have k1 := hgk_143e (X := X) (x := nI 1) (y := nI 9) em
      have k2 := hgk_143e (X := X) (x := nI 0) (y := nI 9) em
      have k3 := hgk_143e (X := X) (x := nI 0) (y := nI 99) em
      have k136 := hgk_136e (X := X) em
      have kk : hgWC X 147 [.ref 300, .int (nI s)] M = some (.inl .null, M1) := by
        simp (maxDischargeDepth := 7) only [hgc147, hgM_t, hgM_f, hgM_n, hgx_aload_n_0, hgs_get_8_9, hgx_iconst_0, hgx_bipush_10, hgx_ic_ne, hgx_bipush_m4, hgx_iload_n_1, hgx_invvirtual_3, hgx_aft_e, hgx_aft_i, hgx_aft_l, hgx_aft_v, hgx_invvirtual_1, hgx_istore_n_2i, hgx_istore_n_2r, hgx_istore_n_2f, hgx_istore_n_2n, hgx_istore_n_2l, hgx_iconst_1, hgx_bipush_9, hgx_istore_n_3i, hgx_istore_n_3r, hgx_istore_n_3f, hgx_istore_n_3n, hgx_istore_n_3l, hgx_istore_4i, hgx_istore_4r, hgx_istore_4f, hgx_istore_4n, hgx_istore_4l, hgx_bipush_99, hgx_istore_5i, hgx_istore_5r, hgx_istore_5f, hgx_istore_5n, hgx_istore_5l, hgx_if_ne, hgx_vret, hgx_invstatic_1, hgx_istore_6i, hgx_istore_6r, hgx_istore_6f, hgx_istore_6n, hgx_istore_6l, hgx_iload_6, hgx_iload_n_2, hgx_iadd, hgx_iload_n_3, hgx_iconst_2, hgx_iload_4, hgx_iconst_3, hgx_iload_5, hgx_bipush_8, hgx_iconst_m1, hgx_dup2, hgv147_0, hgr147_0, hgu147_0, hgv147_18, hgr147_18, hgu147_18, hgv147_57, hgr147_57, hgu147_57, hgI_SI, hgI_SJ, hgJ_SI, hgJ_SJ, if_true, if_false, reduceIte, Nat.reduceEqDiff, hgWf_SI, hgWf_SJ, hgO_SI, hgO_SJ, hgAr_SI, hgAr_SJ, hgRp_SI, hgRp_SJ, hgN_SI, hgN_SJ, hgO_g, hgO_d, hgO_rl, hgO_r, hgO_0, hgO_1, hgO_64, hgO_298, hgO_300, hgCd_0, hgCd_1, hgCd_2, hgCd_3, hgCd_4, hgCd_5, hgRecv_O, hgRecv_99, List.length_cons, List.length_nil, Nat.zero_add, Nat.add_zero, Nat.le_refl, Nat.zero_le, and_self, or_true, true_or, true_and, and_true, ne_eq, not_false_eq_true, Nat.reduceLT, Nat.reduceLeDiff, Nat.reduceAdd, Nat.reduceEqDiff, hgn_eq, hgn_lt, hgn_le, if_true, if_false, reduceIte, Nat.not_lt_zero, hgs_aa_d, hgs_aa_r, hgs_aa_h, hgs_aa_m, hgs_aa_t, hgs_ld_wp, hgs_st_wp, hgs_ld_qf, hgs_st_qf, hgs_ld_qt, hgs_st_qt, hgs_ld_2, hgs_st_2, hgs_ld_3, hgs_st_3, hgs_ld_4, hgs_st_4, hgs_ld_301, hgs_st_301, hgs_ld_D, hgs_st_D, hgs_ld_s, hgs_ld_T, hgs_st_T, hgs_ld_o, hgs_st_o, hgs_ld_b, hgs_st_b, hgs_ld_z, hgs_st_z, hgs_al_b, hgx_alen_s, hw, a0, n0, b0, q2, e1, w1, k1, k2, k3, k136]
      rcases sGrp_o hg with hs | ⟨g, g3, hs⟩
      · rw [hs]
        exact hgDr_e kk em f1
      · rw [hs]
        dsimp only
        rw [if_neg (by omega)]
        exact hgDr_e kk em f1
    | some g =>
      obtain ⟨g3, hs⟩ := sGrp_s hg
      rw [hs]
      dsimp only
      rw [if_pos g3]
      obtain ⟨M1, e1, r1, f1⟩ := hgk_145a (X := X) hr hp rfl hg
      have ok1 := hgOkr_g h f1 r1
      have w1 := r1.1
      cases hn1 : sNum t (tWe t (tSk t p)) 1 9 with
      | inr e =>
        obtain ⟨y1, M2, e2, em, f2⟩ := hgk_143b (X := X) r1 (by omega) (by omega) hn1
        have w2 := em.1
        have k2 := hgk_143e (X := X) (x := nI 0) (y := nI 9) em
        have k3 := hgk_143e (X := X) (x := nI 0) (y := nI 99) em
        have k136 := hgk_136e (X := X) em
        refine hgDr_e ?_ em (hgFh_t (hgFh_g f1) f2)
        simp (maxDischargeDepth := 7) only [hgc147, hgM_t, hgM_f, hgM_n, hgx_aload_n_0, hgs_get_8_9, hgx_iconst_0, hgx_bipush_10, hgx_ic_ne, hgx_bipush_m4, hgx_iload_n_1, hgx_invvirtual_3, hgx_aft_e, hgx_aft_i, hgx_aft_l, hgx_aft_v, hgx_invvirtual_1, hgx_istore_n_2i, hgx_istore_n_2r, hgx_istore_n_2f, hgx_istore_n_2n, hgx_istore_n_2l, hgx_iconst_1, hgx_bipush_9, hgx_istore_n_3i, hgx_istore_n_3r, hgx_istore_n_3f, hgx_istore_n_3n, hgx_istore_n_3l, hgx_istore_4i, hgx_istore_4r, hgx_istore_4f, hgx_istore_4n, hgx_istore_4l, hgx_bipush_99, hgx_istore_5i, hgx_istore_5r, hgx_istore_5f, hgx_istore_5n, hgx_istore_5l, hgx_if_ne, hgx_vret, hgx_invstatic_1, hgx_istore_6i, hgx_istore_6r, hgx_istore_6f, hgx_istore_6n, hgx_istore_6l, hgx_iload_6, hgx_iload_n_2, hgx_iadd, hgx_iload_n_3, hgx_iconst_2, hgx_iload_4, hgx_iconst_3, hgx_iload_5, hgx_bipush_8, hgx_iconst_m1, hgx_dup2, hgv147_0, hgr147_0, hgu147_0, hgv147_18, hgr147_18, hgu147_18, hgv147_57, hgr147_57, hgu147_57, hgI_SI, hgI_SJ, hgJ_SI, hgJ_SJ, if_true, if_false, reduceIte, Nat.reduceEqDiff, hgWf_SI, hgWf_SJ, hgO_SI, hgO_SJ, hgAr_SI, hgAr_SJ, hgRp_SI, hgRp_SJ, hgN_SI, hgN_SJ, hgO_g, hgO_d, hgO_rl, hgO_r, hgO_0, hgO_1, hgO_64, hgO_298, hgO_300, hgCd_0, hgCd_1, hgCd_2, hgCd_3, hgCd_4, hgCd_5, hgRecv_O, hgRecv_99, List.length_cons, List.length_nil, Nat.zero_add, Nat.add_zero, Nat.le_refl, Nat.zero_le, and_self, or_true, true_or, true_and, and_true, ne_eq, not_false_eq_true, Nat.reduceLT, Nat.reduceLeDiff, Nat.reduceAdd, Nat.reduceEqDiff, hgn_eq, hgn_lt, hgn_le, if_true, if_false, reduceIte, Nat.not_lt_zero, hgs_aa_d, hgs_aa_r, hgs_aa_h, hgs_aa_m, hgs_aa_t, hgs_ld_wp, hgs_st_wp, hgs_ld_qf, hgs_st_qf, hgs_ld_qt, hgs_st_qt, hgs_ld_2, hgs_st_2, hgs_ld_3, hgs_st_3, hgs_ld_4, hgs_st_4, hgs_ld_301, hgs_st_301, hgs_ld_D, hgs_st_D, hgs_ld_s, hgs_ld_T, hgs_st_T, hgs_ld_o, hgs_st_o, hgs_ld_b, hgs_st_b, hgs_ld_z, hgs_st_z, hgs_al_b, hgx_alen_s, hw, a0, n0, b0, q2, e1, w1, e2, w2, k2, k3, k136]
      | inl v =>
        obtain ⟨M2, e2, r2, s2, l1, l2, f2⟩ := hgk_143a (X := X) r1 (by omega) (by omega) hn1
        have ok2 := hgOkr_g ok1 f2 r2
        have w2 := r2.1
        show hgDr X 147 _ M t (sB (sNum t v.2 0 9) (fun d => sB (sNum t d.2 0 99) (fun z => .inl (z.2, vAd D g v.1 d.1 z.1, f))))
        cases hn2 : sNum t v.2 0 9 with
        | inr e =>
          obtain ⟨y1, M3, e3, em, f3⟩ := hgk_143b (X := X) r2 (by omega) (by omega) hn2
          have w3 := em.1
          have k3 := hgk_143e (X := X) (x := nI 0) (y := nI 99) em
          have k136 := hgk_136e (X := X) em
          refine hgDr_e ?_ em (hgFh_t (hgFh_g (hgFg_t f1 f2)) f3)
          simp (maxDischargeDepth := 7) only [hgc147, hgM_t, hgM_f, hgM_n, hgx_aload_n_0, hgs_get_8_9, hgx_iconst_0, hgx_bipush_10, hgx_ic_ne, hgx_bipush_m4, hgx_iload_n_1, hgx_invvirtual_3, hgx_aft_e, hgx_aft_i, hgx_aft_l, hgx_aft_v, hgx_invvirtual_1, hgx_istore_n_2i, hgx_istore_n_2r, hgx_istore_n_2f, hgx_istore_n_2n, hgx_istore_n_2l, hgx_iconst_1, hgx_bipush_9, hgx_istore_n_3i, hgx_istore_n_3r, hgx_istore_n_3f, hgx_istore_n_3n, hgx_istore_n_3l, hgx_istore_4i, hgx_istore_4r, hgx_istore_4f, hgx_istore_4n, hgx_istore_4l, hgx_bipush_99, hgx_istore_5i, hgx_istore_5r, hgx_istore_5f, hgx_istore_5n, hgx_istore_5l, hgx_if_ne, hgx_vret, hgx_invstatic_1, hgx_istore_6i, hgx_istore_6r, hgx_istore_6f, hgx_istore_6n, hgx_istore_6l, hgx_iload_6, hgx_iload_n_2, hgx_iadd, hgx_iload_n_3, hgx_iconst_2, hgx_iload_4, hgx_iconst_3, hgx_iload_5, hgx_bipush_8, hgx_iconst_m1, hgx_dup2, hgv147_0, hgr147_0, hgu147_0, hgv147_18, hgr147_18, hgu147_18, hgv147_57, hgr147_57, hgu147_57, hgI_SI, hgI_SJ, hgJ_SI, hgJ_SJ, if_true, if_false, reduceIte, Nat.reduceEqDiff, hgWf_SI, hgWf_SJ, hgO_SI, hgO_SJ, hgAr_SI, hgAr_SJ, hgRp_SI, hgRp_SJ, hgN_SI, hgN_SJ, hgO_g, hgO_d, hgO_rl, hgO_r, hgO_0, hgO_1, hgO_64, hgO_298, hgO_300, hgCd_0, hgCd_1, hgCd_2, hgCd_3, hgCd_4, hgCd_5, hgRecv_O, hgRecv_99, List.length_cons, List.length_nil, Nat.zero_add, Nat.add_zero, Nat.le_refl, Nat.zero_le, and_self, or_true, true_or, true_and, and_true, ne_eq, not_false_eq_true, Nat.reduceLT, Nat.reduceLeDiff, Nat.reduceAdd, Nat.reduceEqDiff, hgn_eq, hgn_lt, hgn_le, if_true, if_false, reduceIte, Nat.not_lt_zero, hgs_aa_d, hgs_aa_r, hgs_aa_h, hgs_aa_m, hgs_aa_t, hgs_ld_wp, hgs_st_wp, hgs_ld_qf, hgs_st_qf, hgs_ld_qt, hgs_st_qt, hgs_ld_2, hgs_st_2, hgs_ld_3, hgs_st_3, hgs_ld_4, hgs_st_4, hgs_ld_301, hgs_st_301, hgs_ld_D, hgs_st_D, hgs_ld_s, hgs_ld_T, hgs_st_T, hgs_ld_o, hgs_st_o, hgs_ld_b, hgs_st_b, hgs_ld_z, hgs_st_z, hgs_al_b, hgx_alen_s, hw, a0, n0, b0, q2, e1, w1, e2, w2, e3, w3, k3, k136]
        | inl d =>
          obtain ⟨M3, e3, r3, s3, l3, l4, f3⟩ := hgk_143a (X := X) r2 (by omega) (by omega) hn2
          have ok3 := hgOkr_g ok2 f3 r3
          have w3 := r3.1
          show hgDr X 147 _ M t (sB (sNum t d.2 0 99) (fun z => .inl (z.2, vAd D g v.1 d.1 z.1, f)))
          cases hn3 : sNum t d.2 0 99 with
          | inr e =>
            obtain ⟨y1, M4, e4, em, f4⟩ := hgk_143b (X := X) r3 (by omega) (by omega) hn3
            have w4 := em.1
            have k136 := hgk_136e (X := X) em
            refine hgDr_e ?_ em (hgFh_t (hgFh_g (hgFg_t (hgFg_t f1 f2) f3)) f4)
            simp (maxDischargeDepth := 7) only [hgc147, hgM_t, hgM_f, hgM_n, hgx_aload_n_0, hgs_get_8_9, hgx_iconst_0, hgx_bipush_10, hgx_ic_ne, hgx_bipush_m4, hgx_iload_n_1, hgx_invvirtual_3, hgx_aft_e, hgx_aft_i, hgx_aft_l, hgx_aft_v, hgx_invvirtual_1, hgx_istore_n_2i, hgx_istore_n_2r, hgx_istore_n_2f, hgx_istore_n_2n, hgx_istore_n_2l, hgx_iconst_1, hgx_bipush_9, hgx_istore_n_3i, hgx_istore_n_3r, hgx_istore_n_3f, hgx_istore_n_3n, hgx_istore_n_3l, hgx_istore_4i, hgx_istore_4r, hgx_istore_4f, hgx_istore_4n, hgx_istore_4l, hgx_bipush_99, hgx_istore_5i, hgx_istore_5r, hgx_istore_5f, hgx_istore_5n, hgx_istore_5l, hgx_if_ne, hgx_vret, hgx_invstatic_1, hgx_istore_6i, hgx_istore_6r, hgx_istore_6f, hgx_istore_6n, hgx_istore_6l, hgx_iload_6, hgx_iload_n_2, hgx_iadd, hgx_iload_n_3, hgx_iconst_2, hgx_iload_4, hgx_iconst_3, hgx_iload_5, hgx_bipush_8, hgx_iconst_m1, hgx_dup2, hgv147_0, hgr147_0, hgu147_0, hgv147_18, hgr147_18, hgu147_18, hgv147_57, hgr147_57, hgu147_57, hgI_SI, hgI_SJ, hgJ_SI, hgJ_SJ, if_true, if_false, reduceIte, Nat.reduceEqDiff, hgWf_SI, hgWf_SJ, hgO_SI, hgO_SJ, hgAr_SI, hgAr_SJ, hgRp_SI, hgRp_SJ, hgN_SI, hgN_SJ, hgO_g, hgO_d, hgO_rl, hgO_r, hgO_0, hgO_1, hgO_64, hgO_298, hgO_300, hgCd_0, hgCd_1, hgCd_2, hgCd_3, hgCd_4, hgCd_5, hgRecv_O, hgRecv_99, List.length_cons, List.length_nil, Nat.zero_add, Nat.add_zero, Nat.le_refl, Nat.zero_le, and_self, or_true, true_or, true_and, and_true, ne_eq, not_false_eq_true, Nat.reduceLT, Nat.reduceLeDiff, Nat.reduceAdd, Nat.reduceEqDiff, hgn_eq, hgn_lt, hgn_le, if_true, if_false, reduceIte, Nat.not_lt_zero, hgs_aa_d, hgs_aa_r, hgs_aa_h, hgs_aa_m, hgs_aa_t, hgs_ld_wp, hgs_st_wp, hgs_ld_qf, hgs_st_qf, hgs_ld_qt, hgs_st_qt, hgs_ld_2, hgs_st_2, hgs_ld_3, hgs_st_3, hgs_ld_4, hgs_st_4, hgs_ld_301, hgs_st_301, hgs_ld_D, hgs_st_D, hgs_ld_s, hgs_ld_T, hgs_st_T, hgs_ld_o, hgs_st_o, hgs_ld_b, hgs_st_b, hgs_ld_z, hgs_st_z, hgs_al_b, hgx_alen_s, hw, a0, n0, b0, q2, e1, w1, e2, w2, e3, w3, e4, w4, k136]
          | inl c =>
            obtain ⟨M4, e4, r4, s4, l5, l6, f4⟩ := hgk_143a (X := X) r3 (by omega) (by omega) hn3
            have ok4 := hgOkr_g ok3 f4 r4
            have w4 := r4.1
            have a4 := hgAr_303 w4
            have k136 := hgk_136g (X := X) r4
            have m0 : hgI M4 303 0 = nI (vN D) := ok4.2.1.1
            have vd := hgRD_ad (g := g) (w := v.1) (d := d.1) (p := c.1) (hgDk_sm hk) q1 ok4.2.1
            have fd : hgFn (fun b => b = 303) M4 (hgSI (hgSI (hgSI (hgSI (hgSI (hgSI M4 303 (27 + 10 * vN D) (nI g)) 303 (27 + 10 * vN D + 1) (nI v.1)) 303 (27 + 10 * vN D + 2) (nI d.1)) 303 (27 + 10 * vN D + 3) (nI c.1)) 303 (27 + 10 * vN D + 8) (-1)) 303 0 (nI (vN D + 1))) := hgFn_SI (hgFn_SI (hgFn_SI (hgFn_SI (hgFn_SI (hgFn_SI hgFn_r rfl) rfl) rfl) rfl) rfl) rfl
            refine hgDr_l ?_ (hgOkr_d ok4 vd fd) (hgFh_t (hgFh_g (hgFg_t (hgFg_t (hgFg_t f1 f2) f3) f4)) (hgFh_n fd))
            have d0 : 27 + 10 * vN D < 20187 := by omega
            have d1 : 27 + 10 * vN D + 1 < 20187 := by omega
            have d2 : 27 + 10 * vN D + 2 < 20187 := by omega
            have d3 : 27 + 10 * vN D + 3 < 20187 := by omega
            have d8 : 27 + 10 * vN D + 8 < 20187 := by omega
            have c0 : ¬ 0 = 27 + 10 * vN D := by omega
            have c1 : ¬ 0 = 27 + 10 * vN D + 1 := by omega
            have c2 : ¬ 0 = 27 + 10 * vN D + 2 := by omega
            have c3 : ¬ 0 = 27 + 10 * vN D + 3 := by omega
            have c8 : ¬ 0 = 27 + 10 * vN D + 8 := by omega
            simp (maxDischargeDepth := 7) only [hgc147, hgM_t, hgM_f, hgM_n, hgx_aload_n_0, hgs_get_8_9, hgx_iconst_0, hgx_bipush_10, hgx_ic_ne, hgx_bipush_m4, hgx_iload_n_1, hgx_invvirtual_3, hgx_aft_e, hgx_aft_i, hgx_aft_l, hgx_aft_v, hgx_invvirtual_1, hgx_istore_n_2i, hgx_istore_n_2r, hgx_istore_n_2f, hgx_istore_n_2n, hgx_istore_n_2l, hgx_iconst_1, hgx_bipush_9, hgx_istore_n_3i, hgx_istore_n_3r, hgx_istore_n_3f, hgx_istore_n_3n, hgx_istore_n_3l, hgx_istore_4i, hgx_istore_4r, hgx_istore_4f, hgx_istore_4n, hgx_istore_4l, hgx_bipush_99, hgx_istore_5i, hgx_istore_5r, hgx_istore_5f, hgx_istore_5n, hgx_istore_5l, hgx_if_ne, hgx_vret, hgx_invstatic_1, hgx_istore_6i, hgx_istore_6r, hgx_istore_6f, hgx_istore_6n, hgx_istore_6l, hgx_iload_6, hgx_iload_n_2, hgx_iadd, hgx_iload_n_3, hgx_iconst_2, hgx_iload_4, hgx_iconst_3, hgx_iload_5, hgx_bipush_8, hgx_iconst_m1, hgx_dup2, hgv147_0, hgr147_0, hgu147_0, hgv147_18, hgr147_18, hgu147_18, hgv147_57, hgr147_57, hgu147_57, hgI_SI, hgI_SJ, hgJ_SI, hgJ_SJ, if_true, if_false, reduceIte, Nat.reduceEqDiff, hgWf_SI, hgWf_SJ, hgO_SI, hgO_SJ, hgAr_SI, hgAr_SJ, hgRp_SI, hgRp_SJ, hgN_SI, hgN_SJ, hgO_g, hgO_d, hgO_rl, hgO_r, hgO_0, hgO_1, hgO_64, hgO_298, hgO_300, hgCd_0, hgCd_1, hgCd_2, hgCd_3, hgCd_4, hgCd_5, hgRecv_O, hgRecv_99, List.length_cons, List.length_nil, Nat.zero_add, Nat.add_zero, Nat.le_refl, Nat.zero_le, and_self, or_true, true_or, true_and, and_true, ne_eq, not_false_eq_true, Nat.reduceLT, Nat.reduceLeDiff, Nat.reduceAdd, Nat.reduceEqDiff, hgn_eq, hgn_lt, hgn_le, if_true, if_false, reduceIte, Nat.not_lt_zero, hgs_aa_d, hgs_aa_r, hgs_aa_h, hgs_aa_m, hgs_aa_t, hgs_ld_wp, hgs_st_wp, hgs_ld_qf, hgs_st_qf, hgs_ld_qt, hgs_st_qt, hgs_ld_2, hgs_st_2, hgs_ld_3, hgs_st_3, hgs_ld_4, hgs_st_4, hgs_ld_301, hgs_st_301, hgs_ld_D, hgs_st_D, hgs_ld_s, hgs_ld_T, hgs_st_T, hgs_ld_o, hgs_st_o, hgs_ld_b, hgs_st_b, hgs_ld_z, hgs_st_z, hgs_al_b, hgx_alen_s, hgn_add, hgn_mul, hw, a0, n0, b0, q2, e1, w1, e2, w2, e3, w3, e4, w4, a4, k136, m0, hgk_128, d0, d1, d2, d3, d8, c0, c1, c2, c3, c8]
theorem hgk_149 {b : Bool} (h : hgOkr M t (p, D, f)) (hk : hgDk D) : hgDr X 149 [.ref 300, .int (nI s), .int (hgB b)] M t (sRul t p s b D f) := by
  have hr := h.1
  have hw := hr.1
  have hp := hr.2.2.2.1
  have n0 : hgI M 303 1 = nI (vR D) := h.2.1.2.1
  have n10 := hk.2.1
  have a0 := hgAr_303 hw
  unfold sRul
  by_cases q : vR D = 12
  · rw [if_pos q]
    rw [q] at n0
    have k137 := hgk_137 (X := X) (x := -4) (y := nI s) hr
    have em : hgEm (hgSI (hgSI M 300 5 (-4)) 300 6 (nI s)) (-4, s) := hgEm_i hr (Or.inr (Or.inr rfl))
    have fh : hgFh M (hgSI (hgSI M 300 5 (-4)) 300 6 (nI s)) := hgFh_s (hgFh_s hgFh_r (by omega)) (by omega)
    refine hgDr_e ?_ em fh
    generalize hgSI (hgSI M 300 5 (-4)) 300 6 (nI s) = M1 at *
    have w1 := em.1
    have k146 := hgk_146e (X := X) em
    have k1 := hgk_143e (X := X) (x := nI 0) (y := nI 999) em
    have k136 := hgk_136e (X := X) em
    simp (maxDischargeDepth := 7) only [hgc149, hgM_t, hgM_f, hgM_n, hgx_aload_n_0, hgs_get_8_9, hgx_iconst_1, hgx_bipush_12, hgx_ic_ne, hgx_bipush_m4, hgx_iload_n_1, hgx_invvirtual_3, hgx_aft_e, hgx_aft_i, hgx_aft_l, hgx_aft_v, hgx_invvirtual_1, hgx_istore_n_3i, hgx_istore_n_3r, hgx_istore_n_3f, hgx_istore_n_3n, hgx_istore_n_3l, hgx_istore_4i, hgx_istore_4r, hgx_istore_4f, hgx_istore_4n, hgx_istore_4l, hgx_iconst_0, hgx_sipush_999, hgx_istore_5i, hgx_istore_5r, hgx_istore_5f, hgx_istore_5n, hgx_istore_5l, hgx_iload_5, hgx_istore_6i, hgx_istore_6r, hgx_istore_6f, hgx_istore_6n, hgx_istore_6l, hgx_if_ne, hgx_vret, hgx_iload_n_2, hgx_iload_n_3, hgx_iload_4, hgx_iload_6, hgx_invstatic_7, hgx_dup2, hgx_iadd, hgv149_0, hgr149_0, hgu149_0, hgv149_18, hgr149_18, hgu149_18, hgv149_58, hgr149_58, hgu149_58, hgI_SI, hgI_SJ, hgJ_SI, hgJ_SJ, if_true, if_false, reduceIte, Nat.reduceEqDiff, hgWf_SI, hgWf_SJ, hgO_SI, hgO_SJ, hgAr_SI, hgAr_SJ, hgRp_SI, hgRp_SJ, hgN_SI, hgN_SJ, hgO_g, hgO_d, hgO_rl, hgO_r, hgO_0, hgO_1, hgO_64, hgO_298, hgO_300, hgCd_0, hgCd_1, hgCd_2, hgCd_3, hgCd_4, hgCd_5, hgRecv_O, hgRecv_99, List.length_cons, List.length_nil, Nat.zero_add, Nat.add_zero, Nat.le_refl, Nat.zero_le, and_self, or_true, true_or, true_and, and_true, ne_eq, not_false_eq_true, Nat.reduceLT, Nat.reduceLeDiff, Nat.reduceAdd, Nat.reduceEqDiff, hgn_eq, hgn_lt, hgn_le, if_true, if_false, reduceIte, Nat.not_lt_zero, hgs_aa_d, hgs_aa_r, hgs_aa_h, hgs_aa_m, hgs_aa_t, hgs_ld_wp, hgs_st_wp, hgs_ld_qf, hgs_st_qf, hgs_ld_qt, hgs_st_qt, hgs_ld_2, hgs_st_2, hgs_ld_3, hgs_st_3, hgs_ld_4, hgs_st_4, hgs_ld_301, hgs_st_301, hgs_ld_D, hgs_st_D, hgs_ld_s, hgs_ld_T, hgs_st_T, hgs_ld_o, hgs_st_o, hgs_ld_b, hgs_st_b, hgs_ld_z, hgs_st_z, hgs_al_b, hgx_alen_s, hw, a0, n0, k137, w1, k146, k1, k136]
  · rw [if_neg q]
    have q1 : vR D < 12 := by omega
    have b0 : vR D < 2147483648 := by omega
    have q2 : ¬ vR D = 12 := q
    cases hs : sSel t p with
    | none =>
      obtain ⟨M1, e1, em, f1⟩ := hgk_146b (X := X) hr hs
      have w1 := em.1
      have k146 := hgk_146e (X := X) em
      have k1 := hgk_143e (X := X) (x := nI 0) (y := nI 999) em
      have k136 := hgk_136e (X := X) em
      refine hgDr_e ?_ em f1
      simp (maxDischargeDepth := 7) only [hgc149, hgM_t, hgM_f, hgM_n, hgx_aload_n_0, hgs_get_8_9, hgx_iconst_1, hgx_bipush_12, hgx_ic_ne, hgx_bipush_m4, hgx_iload_n_1, hgx_invvirtual_3, hgx_aft_e, hgx_aft_i, hgx_aft_l, hgx_aft_v, hgx_invvirtual_1, hgx_istore_n_3i, hgx_istore_n_3r, hgx_istore_n_3f, hgx_istore_n_3n, hgx_istore_n_3l, hgx_istore_4i, hgx_istore_4r, hgx_istore_4f, hgx_istore_4n, hgx_istore_4l, hgx_iconst_0, hgx_sipush_999, hgx_istore_5i, hgx_istore_5r, hgx_istore_5f, hgx_istore_5n, hgx_istore_5l, hgx_iload_5, hgx_istore_6i, hgx_istore_6r, hgx_istore_6f, hgx_istore_6n, hgx_istore_6l, hgx_if_ne, hgx_vret, hgx_iload_n_2, hgx_iload_n_3, hgx_iload_4, hgx_iload_6, hgx_invstatic_7, hgx_dup2, hgx_iadd, hgv149_0, hgr149_0, hgu149_0, hgv149_18, hgr149_18, hgu149_18, hgv149_58, hgr149_58, hgu149_58, hgI_SI, hgI_SJ, hgJ_SI, hgJ_SJ, if_true, if_false, reduceIte, Nat.reduceEqDiff, hgWf_SI, hgWf_SJ, hgO_SI, hgO_SJ, hgAr_SI, hgAr_SJ, hgRp_SI, hgRp_SJ, hgN_SI, hgN_SJ, hgO_g, hgO_d, hgO_rl, hgO_r, hgO_0, hgO_1, hgO_64, hgO_298, hgO_300, hgCd_0, hgCd_1, hgCd_2, hgCd_3, hgCd_4, hgCd_5, hgRecv_O, hgRecv_99, List.length_cons, List.length_nil, Nat.zero_add, Nat.add_zero, Nat.le_refl, Nat.zero_le, and_self, or_true, true_or, true_and, and_true, ne_eq, not_false_eq_true, Nat.reduceLT, Nat.reduceLeDiff, Nat.reduceAdd, Nat.reduceEqDiff, hgn_eq, hgn_lt, hgn_le, if_true, if_false, reduceIte, Nat.not_lt_zero, hgs_aa_d, hgs_aa_r, hgs_aa_h, hgs_aa_m, hgs_aa_t, hgs_ld_wp, hgs_st_wp, hgs_ld_qf, hgs_st_qf, hgs_ld_qt, hgs_st_qt, hgs_ld_2, hgs_st_2, hgs_ld_3, hgs_st_3, hgs_ld_4, hgs_st_4, hgs_ld_301, hgs_st_301, hgs_ld_D, hgs_st_D, hgs_ld_s, hgs_ld_T, hgs_st_T, hgs_ld_o, hgs_st_o, hgs_ld_b, hgs_st_b, hgs_ld_z, hgs_st_z, hgs_al_b, hgx_alen_s, hw, a0, n0, b0, q2, e1, w1, k146, k1, k136]
    | some g =>
      dsimp only
      obtain ⟨M1, e1, r1, f1⟩ := hgk_146a (X := X) hr hs
      have ok1 := hgOkr_g h f1 r1
      have w1 := r1.1
      cases ht : sSel t (tWe t (tSk t p)) with
      | none =>
        obtain ⟨M2, e2, em, f2⟩ := hgk_146b (X := X) r1 ht
        have w2 := em.1
        have k1 := hgk_143e (X := X) (x := nI 0) (y := nI 999) em
        have k136 := hgk_136e (X := X) em
        refine hgDr_e ?_ em (hgFh_t (hgFh_g f1) f2)
        simp (maxDischargeDepth := 7) only [hgc149, hgM_t, hgM_f, hgM_n, hgx_aload_n_0, hgs_get_8_9, hgx_iconst_1, hgx_bipush_12, hgx_ic_ne, hgx_bipush_m4, hgx_iload_n_1, hgx_invvirtual_3, hgx_aft_e, hgx_aft_i, hgx_aft_l, hgx_aft_v, hgx_invvirtual_1, hgx_istore_n_3i, hgx_istore_n_3r, hgx_istore_n_3f, hgx_istore_n_3n, hgx_istore_n_3l, hgx_istore_4i, hgx_istore_4r, hgx_istore_4f, hgx_istore_4n, hgx_istore_4l, hgx_iconst_0, hgx_sipush_999, hgx_istore_5i, hgx_istore_5r, hgx_istore_5f, hgx_istore_5n, hgx_istore_5l, hgx_iload_5, hgx_istore_6i, hgx_istore_6r, hgx_istore_6f, hgx_istore_6n, hgx_istore_6l, hgx_if_ne, hgx_vret, hgx_iload_n_2, hgx_iload_n_3, hgx_iload_4, hgx_iload_6, hgx_invstatic_7, hgx_dup2, hgx_iadd, hgv149_0, hgr149_0, hgu149_0, hgv149_18, hgr149_18, hgu149_18, hgv149_58, hgr149_58, hgu149_58, hgI_SI, hgI_SJ, hgJ_SI, hgJ_SJ, if_true, if_false, reduceIte, Nat.reduceEqDiff, hgWf_SI, hgWf_SJ, hgO_SI, hgO_SJ, hgAr_SI, hgAr_SJ, hgRp_SI, hgRp_SJ, hgN_SI, hgN_SJ, hgO_g, hgO_d, hgO_rl, hgO_r, hgO_0, hgO_1, hgO_64, hgO_298, hgO_300, hgCd_0, hgCd_1, hgCd_2, hgCd_3, hgCd_4, hgCd_5, hgRecv_O, hgRecv_99, List.length_cons, List.length_nil, Nat.zero_add, Nat.add_zero, Nat.le_refl, Nat.zero_le, and_self, or_true, true_or, true_and, and_true, ne_eq, not_false_eq_true, Nat.reduceLT, Nat.reduceLeDiff, Nat.reduceAdd, Nat.reduceEqDiff, hgn_eq, hgn_lt, hgn_le, if_true, if_false, reduceIte, Nat.not_lt_zero, hgs_aa_d, hgs_aa_r, hgs_aa_h, hgs_aa_m, hgs_aa_t, hgs_ld_wp, hgs_st_wp, hgs_ld_qf, hgs_st_qf, hgs_ld_qt, hgs_st_qt, hgs_ld_2, hgs_st_2, hgs_ld_3, hgs_st_3, hgs_ld_4, hgs_st_4, hgs_ld_301, hgs_st_301, hgs_ld_D, hgs_st_D, hgs_ld_s, hgs_ld_T, hgs_st_T, hgs_ld_o, hgs_st_o, hgs_ld_b, hgs_st_b, hgs_ld_z, hgs_st_z, hgs_al_b, hgx_alen_s, hw, a0, n0, b0, q2, e1, w1, e2, w2, k1, k136]
      | some g' =>
        dsimp only
        obtain ⟨M2, e2, r2, f2⟩ := hgk_146a (X := X) r1 ht
        have ok2 := hgOkr_g ok1 f2 r2
        have w2 := r2.1
        cases hn1 : sNum t (tWe t (tSk t (tWe t (tSk t p)))) 0 999 with
        | inr e =>
          obtain ⟨y1, M3, e3, em, f3⟩ := hgk_143b (X := X) r2 (by omega) (by omega) hn1
          have w3 := em.1
          have k1 := hgk_143e (X := X) (x := y1) (y := nI 999) em
          have k136 := hgk_136e (X := X) em
          refine hgDr_e ?_ em (hgFh_t (hgFh_g (hgFg_t f1 f2)) f3)
          simp (maxDischargeDepth := 7) only [hgc149, hgM_t, hgM_f, hgM_n, hgx_aload_n_0, hgs_get_8_9, hgx_iconst_1, hgx_bipush_12, hgx_ic_ne, hgx_bipush_m4, hgx_iload_n_1, hgx_invvirtual_3, hgx_aft_e, hgx_aft_i, hgx_aft_l, hgx_aft_v, hgx_invvirtual_1, hgx_istore_n_3i, hgx_istore_n_3r, hgx_istore_n_3f, hgx_istore_n_3n, hgx_istore_n_3l, hgx_istore_4i, hgx_istore_4r, hgx_istore_4f, hgx_istore_4n, hgx_istore_4l, hgx_iconst_0, hgx_sipush_999, hgx_istore_5i, hgx_istore_5r, hgx_istore_5f, hgx_istore_5n, hgx_istore_5l, hgx_iload_5, hgx_istore_6i, hgx_istore_6r, hgx_istore_6f, hgx_istore_6n, hgx_istore_6l, hgx_if_ne, hgx_vret, hgx_iload_n_2, hgx_iload_n_3, hgx_iload_4, hgx_iload_6, hgx_invstatic_7, hgx_dup2, hgx_iadd, hgv149_0, hgr149_0, hgu149_0, hgv149_18, hgr149_18, hgu149_18, hgv149_58, hgr149_58, hgu149_58, hgI_SI, hgI_SJ, hgJ_SI, hgJ_SJ, if_true, if_false, reduceIte, Nat.reduceEqDiff, hgWf_SI, hgWf_SJ, hgO_SI, hgO_SJ, hgAr_SI, hgAr_SJ, hgRp_SI, hgRp_SJ, hgN_SI, hgN_SJ, hgO_g, hgO_d, hgO_rl, hgO_r, hgO_0, hgO_1, hgO_64, hgO_298, hgO_300, hgCd_0, hgCd_1, hgCd_2, hgCd_3, hgCd_4, hgCd_5, hgRecv_O, hgRecv_99, List.length_cons, List.length_nil, Nat.zero_add, Nat.add_zero, Nat.le_refl, Nat.zero_le, and_self, or_true, true_or, true_and, and_true, ne_eq, not_false_eq_true, Nat.reduceLT, Nat.reduceLeDiff, Nat.reduceAdd, Nat.reduceEqDiff, hgn_eq, hgn_lt, hgn_le, if_true, if_false, reduceIte, Nat.not_lt_zero, hgs_aa_d, hgs_aa_r, hgs_aa_h, hgs_aa_m, hgs_aa_t, hgs_ld_wp, hgs_st_wp, hgs_ld_qf, hgs_st_qf, hgs_ld_qt, hgs_st_qt, hgs_ld_2, hgs_st_2, hgs_ld_3, hgs_st_3, hgs_ld_4, hgs_st_4, hgs_ld_301, hgs_st_301, hgs_ld_D, hgs_st_D, hgs_ld_s, hgs_ld_T, hgs_st_T, hgs_ld_o, hgs_st_o, hgs_ld_b, hgs_st_b, hgs_ld_z, hgs_st_z, hgs_al_b, hgx_alen_s, hw, a0, n0, b0, q2, e1, w1, e2, w2, e3, w3, k1, k136]
        | inl v =>
          obtain ⟨M3, e3, r3, s3, l1, l2, f3⟩ := hgk_143a (X := X) r2 (by omega) (by omega) hn1
          have ok3 := hgOkr_g ok2 f3 r3
          have w3 := r3.1
          show hgDr X 149 _ M t (sB (sNum t v.2 v.1 999) (fun z => .inl (z.2, vAr D (hgB b) (nI g) (nI g') (nI v.1) (nI z.1), f)))
          cases hn2 : sNum t v.2 v.1 999 with
          | inr e =>
            obtain ⟨y1, M4, e4, em, f4⟩ := hgk_143b (X := X) r3 (by omega) (by omega) hn2
            have w4 := em.1
            have k136 := hgk_136e (X := X) em
            refine hgDr_e ?_ em (hgFh_t (hgFh_g (hgFg_t (hgFg_t f1 f2) f3)) f4)
            simp (maxDischargeDepth := 7) only [hgc149, hgM_t, hgM_f, hgM_n, hgx_aload_n_0, hgs_get_8_9, hgx_iconst_1, hgx_bipush_12, hgx_ic_ne, hgx_bipush_m4, hgx_iload_n_1, hgx_invvirtual_3, hgx_aft_e, hgx_aft_i, hgx_aft_l, hgx_aft_v, hgx_invvirtual_1, hgx_istore_n_3i, hgx_istore_n_3r, hgx_istore_n_3f, hgx_istore_n_3n, hgx_istore_n_3l, hgx_istore_4i, hgx_istore_4r, hgx_istore_4f, hgx_istore_4n, hgx_istore_4l, hgx_iconst_0, hgx_sipush_999, hgx_istore_5i, hgx_istore_5r, hgx_istore_5f, hgx_istore_5n, hgx_istore_5l, hgx_iload_5, hgx_istore_6i, hgx_istore_6r, hgx_istore_6f, hgx_istore_6n, hgx_istore_6l, hgx_if_ne, hgx_vret, hgx_iload_n_2, hgx_iload_n_3, hgx_iload_4, hgx_iload_6, hgx_invstatic_7, hgx_dup2, hgx_iadd, hgv149_0, hgr149_0, hgu149_0, hgv149_18, hgr149_18, hgu149_18, hgv149_58, hgr149_58, hgu149_58, hgI_SI, hgI_SJ, hgJ_SI, hgJ_SJ, if_true, if_false, reduceIte, Nat.reduceEqDiff, hgWf_SI, hgWf_SJ, hgO_SI, hgO_SJ, hgAr_SI, hgAr_SJ, hgRp_SI, hgRp_SJ, hgN_SI, hgN_SJ, hgO_g, hgO_d, hgO_rl, hgO_r, hgO_0, hgO_1, hgO_64, hgO_298, hgO_300, hgCd_0, hgCd_1, hgCd_2, hgCd_3, hgCd_4, hgCd_5, hgRecv_O, hgRecv_99, List.length_cons, List.length_nil, Nat.zero_add, Nat.add_zero, Nat.le_refl, Nat.zero_le, and_self, or_true, true_or, true_and, and_true, ne_eq, not_false_eq_true, Nat.reduceLT, Nat.reduceLeDiff, Nat.reduceAdd, Nat.reduceEqDiff, hgn_eq, hgn_lt, hgn_le, if_true, if_false, reduceIte, Nat.not_lt_zero, hgs_aa_d, hgs_aa_r, hgs_aa_h, hgs_aa_m, hgs_aa_t, hgs_ld_wp, hgs_st_wp, hgs_ld_qf, hgs_st_qf, hgs_ld_qt, hgs_st_qt, hgs_ld_2, hgs_st_2, hgs_ld_3, hgs_st_3, hgs_ld_4, hgs_st_4, hgs_ld_301, hgs_st_301, hgs_ld_D, hgs_st_D, hgs_ld_s, hgs_ld_T, hgs_st_T, hgs_ld_o, hgs_st_o, hgs_ld_b, hgs_st_b, hgs_ld_z, hgs_st_z, hgs_al_b, hgx_alen_s, hw, a0, n0, b0, q2, e1, w1, e2, w2, e3, w3, e4, w4, k136]
          | inl c =>
            obtain ⟨M4, e4, r4, s4, l5, l6, f4⟩ := hgk_143a (X := X) r3 (by omega) (by omega) hn2
            have ok4 := hgOkr_g ok3 f4 r4
            have w4 := r4.1
            have a4 := hgAr_303 w4
            have k136 := hgk_136g (X := X) r4
            have m0 : hgI M4 303 1 = nI (vR D) := ok4.2.1.2.1
            have k148 := hgk_148 (X := X) (d := 303) (x1 := hgB b) (x2 := nI g) (x3 := nI g') (x4 := nI v.1) (x5 := nI c.1) a4 (show 303 ≠ 2000 by omega) q1
            have vd := hgRD_ar (x1 := hgB b) (x2 := nI g) (x3 := nI g') (x4 := nI v.1) (x5 := nI c.1) (hgDk_sm hk) q1 ok4.2.1
            have fd0 : hgFn (fun b => b = 303) M4 (hgSI (hgSI (hgSI (hgSI (hgSI M4 303 (127 + 5 * vR D) (hgB b)) 303 (127 + 5 * vR D + 1) (nI g)) 303 (127 + 5 * vR D + 2) (nI g')) 303 (127 + 5 * vR D + 3) (nI v.1)) 303 (127 + 5 * vR D + 4) (nI c.1)) := hgFn_SI (hgFn_SI (hgFn_SI (hgFn_SI (hgFn_SI hgFn_r rfl) rfl) rfl) rfl) rfl
            have c0 : ¬ 1 = 127 + 5 * vR D := by omega
            have c1 : ¬ 1 = 127 + 5 * vR D + 1 := by omega
            have c2 : ¬ 1 = 127 + 5 * vR D + 2 := by omega
            have c3 : ¬ 1 = 127 + 5 * vR D + 3 := by omega
            have c4 : ¬ 1 = 127 + 5 * vR D + 4 := by omega
            have m1 : hgI (hgSI (hgSI (hgSI (hgSI (hgSI M4 303 (127 + 5 * vR D) (hgB b)) 303 (127 + 5 * vR D + 1) (nI g)) 303 (127 + 5 * vR D + 2) (nI g')) 303 (127 + 5 * vR D + 3) (nI v.1)) 303 (127 + 5 * vR D + 4) (nI c.1)) 303 1 = nI (vR D) := by rw [hgI_nk c4, hgI_nk c3, hgI_nk c2, hgI_nk c1, hgI_nk c0]; exact m0
            generalize hgSI (hgSI (hgSI (hgSI (hgSI M4 303 (127 + 5 * vR D) (hgB b)) 303 (127 + 5 * vR D + 1) (nI g)) 303 (127 + 5 * vR D + 2) (nI g')) 303 (127 + 5 * vR D + 3) (nI v.1)) 303 (127 + 5 * vR D + 4) (nI c.1) = M5 at *
            have w5 := hgFn_w fd0 w4
            have a5 := hgAr_303 w5
            have fd : hgFn (fun b => b = 303) M4 (hgSI M5 303 1 (nI (vR D + 1))) := hgFn_SI fd0 rfl
            refine hgDr_l ?_ (hgOkr_d ok4 vd fd) (hgFh_t (hgFh_g (hgFg_t (hgFg_t (hgFg_t f1 f2) f3) f4)) (hgFh_n fd))
            simp (maxDischargeDepth := 7) only [hgc149, hgM_t, hgM_f, hgM_n, hgx_aload_n_0, hgs_get_8_9, hgx_iconst_1, hgx_bipush_12, hgx_ic_ne, hgx_bipush_m4, hgx_iload_n_1, hgx_invvirtual_3, hgx_aft_e, hgx_aft_i, hgx_aft_l, hgx_aft_v, hgx_invvirtual_1, hgx_istore_n_3i, hgx_istore_n_3r, hgx_istore_n_3f, hgx_istore_n_3n, hgx_istore_n_3l, hgx_istore_4i, hgx_istore_4r, hgx_istore_4f, hgx_istore_4n, hgx_istore_4l, hgx_iconst_0, hgx_sipush_999, hgx_istore_5i, hgx_istore_5r, hgx_istore_5f, hgx_istore_5n, hgx_istore_5l, hgx_iload_5, hgx_istore_6i, hgx_istore_6r, hgx_istore_6f, hgx_istore_6n, hgx_istore_6l, hgx_if_ne, hgx_vret, hgx_iload_n_2, hgx_iload_n_3, hgx_iload_4, hgx_iload_6, hgx_invstatic_7, hgx_dup2, hgx_iadd, hgv149_0, hgr149_0, hgu149_0, hgv149_18, hgr149_18, hgu149_18, hgv149_58, hgr149_58, hgu149_58, hgI_SI, hgI_SJ, hgJ_SI, hgJ_SJ, if_true, if_false, reduceIte, Nat.reduceEqDiff, hgWf_SI, hgWf_SJ, hgO_SI, hgO_SJ, hgAr_SI, hgAr_SJ, hgRp_SI, hgRp_SJ, hgN_SI, hgN_SJ, hgO_g, hgO_d, hgO_rl, hgO_r, hgO_0, hgO_1, hgO_64, hgO_298, hgO_300, hgCd_0, hgCd_1, hgCd_2, hgCd_3, hgCd_4, hgCd_5, hgRecv_O, hgRecv_99, List.length_cons, List.length_nil, Nat.zero_add, Nat.add_zero, Nat.le_refl, Nat.zero_le, and_self, or_true, true_or, true_and, and_true, ne_eq, not_false_eq_true, Nat.reduceLT, Nat.reduceLeDiff, Nat.reduceAdd, Nat.reduceEqDiff, hgn_eq, hgn_lt, hgn_le, if_true, if_false, reduceIte, Nat.not_lt_zero, hgs_aa_d, hgs_aa_r, hgs_aa_h, hgs_aa_m, hgs_aa_t, hgs_ld_wp, hgs_st_wp, hgs_ld_qf, hgs_st_qf, hgs_ld_qt, hgs_st_qt, hgs_ld_2, hgs_st_2, hgs_ld_3, hgs_st_3, hgs_ld_4, hgs_st_4, hgs_ld_301, hgs_st_301, hgs_ld_D, hgs_st_D, hgs_ld_s, hgs_ld_T, hgs_st_T, hgs_ld_o, hgs_st_o, hgs_ld_b, hgs_st_b, hgs_ld_z, hgs_st_z, hgs_al_b, hgx_alen_s, hgn_add, hgn_mul, hw, a0, n0, b0, q2, e1, w1, e2, w2, e3, w3, e4, w4, a4, k136, m0, k148, w5, a5, m1]
end HGRST

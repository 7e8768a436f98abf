/-! ARRIVE, both sides. -/
section HGARR
variable {X : hgX} {M M' M1 M2 M3 : hgMem} {d t g h i j q c k a b n p N l r : Nat} {V V' V1 W U : hgV} {Hs Hs' : List hgV} {x y z x1 x2 x3 x4 x5 s : Int32} {u : Int64} {P : Nat → Prop} {o : Option Nat} {S : Nat → Bool} {Q : List (Int32 × Int32)} {B : List Nat} {w : Int32}
theorem hgPs_SI {lo : Option Nat} (h : hgPs M M1 a c lo) (ha : 6 ≤ a) : hgPs M (hgSI M1 a k x) a c lo := by
  obtain ⟨h1, h2, h3, h4, h5, h6⟩ := h
  exact ⟨h1, h2, by rw [hgI_na (by omega)]; exact h3, fun q hq => by rw [hgI_na (by omega), hgI_na (by omega)]; exact h4 q hq, fun q hq => by rw [hgI_na (by omega)]; exact h5 q hq, fun b hb1 hb2 k => ⟨by rw [hgI_na hb1]; exact (h6 b hb1 hb2 k).1, (h6 b hb1 hb2 k).2⟩⟩
theorem hgPs_pre {lo : Option Nat} (f : hgFn (fun b => b = a) M M1) (ha : 6 ≤ a) (h : hgPs M1 M2 a c lo) : hgPs M M2 a c lo := by
  obtain ⟨h1, h2, h3, h4, h5, h6⟩ := h
  exact ⟨h1.trans f.1, fun b k => (h2 b k).trans (f.2.1 b k), h3, fun q hq => ⟨(h4 q hq).1.trans (f.2.2 2 (by omega) q).1, (h4 q hq).2.trans (f.2.2 3 (by omega) q).1⟩, fun q hq => (h5 q hq).trans (f.2.2 4 (by omega) q).1, fun b hb1 hb2 k => ⟨(h6 b hb1 hb2 k).1.trans (f.2.2 b hb1 k).1, (h6 b hb1 hb2 k).2.trans (f.2.2 b hb1 k).2⟩⟩
theorem hgPs_w {lo : Option Nat} (h : hgPs M M1 a c lo) (hw : hgWf M) : hgWf M1 := hgWf_to hw h.1 h.2.1
/-- the end of take: the packet is put into the queue -/
theorem hgk_23t (hw : hgWf M) (hst : hgI M 1 3 = nI c) (hc : c < 512) (hk : hgVok V c) (hls : hgLs V V) (hi : i < vN V) (h : hgCV M g V) : ∃ M', hgW X 23 121 [some (.ref g), none, none, none, some (.int s), some (.ref (g + 2 + i))] [] (0, 0) M = some (.inl (.int (nI 0)), M') ∧ hgCV M' g (if vD V i 4 = nI 2 then vSd (vSd (vSq V i (vQ V i ++ [(s, vS V 3)]) (vB V i ++ [c])) i 4 (nI 1)) i 5 (vD V i 2) else vSq V i (vQ V i ++ [(s, vS V 3)]) (vB V i ++ [c])) ∧ hgPs M M' (g + 2 + i) c (vB V i).getLast? := by
  have hm := hgSm_ok hk
  have hN := hm.1
  have hg := h.1
  have hg2 := hgGw_le hg
  have i10 : i < 10 := by omega
  have hids : ∀ j, j < vN V → ∀ p ∈ vB V j, p < c := fun j hj => (hk.2.2.2.1 j hj).2.2.2.2.2.2.1
  have e12 := h.2.2.2.2.1
  obtain ⟨M1, hM1⟩ : ∃ M1, M1 = hgSI (hgSI (hgSI M 2 c s) 3 c (vS V 3)) 1 3 (nI (c + 1)) := ⟨_, rfl⟩
  have k37 := hgk_37 (X := X) (x := s) (y := vS V 3) hw hst hc
  rw [← hM1] at k37
  have w1 : hgWf M1 := by rw [hM1]; exact hw
  have s1 : hgI M1 1 3 = nI (c + 1) := by rw [hM1, hgI_at]
  have hd := h.2.2.2.2.2.2.2.2.2.2.2.1 i hi
  have a1 : ∀ k, hgI M1 (g + 2 + i) k = hgI M (g + 2 + i) k := fun k => by rw [hM1, hgI_na (by omega), hgI_na (by omega), hgI_na (by omega)]
  have step : ∃ M3, hgWC X 6 [.ref (g + 2 + i), .ref 1, .int (nI c)] M1 = some (.inl .null, M3) ∧ hgCV M3 g (vSq V i (vQ V i ++ [(s, vS V 3)]) (vB V i ++ [c])) ∧ hgPs M M3 (g + 2 + i) c (vB V i).getLast? := by
    by_cases h0 : (vQ V i).length = 0
    · have k6 := hgk_6a (X := X) w1 (hgO_d w1 hg i10) (by omega) s1 (by omega) (show c < c + 1 by omega) (by rw [a1, hd.2.2.1, h0])
      exact ⟨_, k6, hgCV_push0 hw hm hi hids h0 h hM1⟩
    · have hb : (vB V i).length = (vQ V i).length := by rw [hd.2.2.2.2.1.2, List.length_map]
      obtain ⟨l0, hl0⟩ : ∃ l0, (vB V i).getLast? = some l0 := by
        cases hB : (vB V i).getLast? with
        | none => rw [List.getLast?_eq_none_iff] at hB; rw [hB] at hb; exact absurd hb.symm h0
        | some l => exact ⟨l, rfl⟩
      have e11 := hgIds_l hd.2.2.2.2.1.1 hl0
      have l1 : l0 < c := hids i hi l0 (List.mem_of_getLast? hl0)
      have hlen := hm.2.2.2 i hi
      have k6 := hgk_6b (X := X) (l := l0) w1 (hgO_d w1 hg i10) (by omega) s1 (by omega) (show c < c + 1 by omega) (by rw [a1]; exact hd.2.2.1) (by omega) (by omega) (by rw [a1]; exact e11) (by omega)
      exact ⟨_, k6, hgCV_push1 hw hm hi hids hl0 hls h hM1⟩
  obtain ⟨M3, k6, v3, p3⟩ := step
  have w3 := hgPs_w p3 hw
  have od := hgO_d hw hg i10
  have od3 := hgO_d w3 hg i10
  have od1 := hgO_d w1 hg i10
  have d3 := v3.2.2.2.2.2.2.2.2.2.2.2.1 i hi
  have e4 : hgI M3 (g + 2 + i) 4 = vD V i 4 := d3.1 4 (by omega)
  have e2 : hgI M3 (g + 2 + i) 2 = vD V i 2 := d3.1 2 (by omega)
  by_cases hs2 : vD V i 4 = nI 2
  · have k3 := hgk_3 (X := X) od3
    rw [e2] at k3
    have hm2 : hgSm (vSq V i (vQ V i ++ [(s, vS V 3)]) (vB V i ++ [c])) := by
      refine ⟨hm.1, hm.2.1, hm.2.2.1, fun j hj => ?_⟩
      have := (hk.2.2.2.1 j hj).2.2.1
      rw [vQ_sq]
      split
      · next e => rw [← e, List.length_append, List.length_cons, List.length_nil]; omega
      · omega
    refine ⟨hgSI (hgSI M3 (g + 2 + i) 4 (nI 1)) (g + 2 + i) 5 (vD V i 2), ?_, ?_, hgPs_SI (hgPs_SI p3 (by omega)) (by omega)⟩
    · rw [hgu23_121]
      simp (maxDischargeDepth := 7) only [hgM_t, hgM_f, hgM_n, hgx_aload_n_0, hgx_iload_n_1, hgx_iload_n_2, hgx_iload_n_3, hgx_invvirtual_4, hgx_aft_e, hgx_aft_i, hgx_aft_l, hgx_aft_v, hgx_if_eq, hgx_dup_i, hgx_dup_f, hgx_dup_r, hgx_get0, hgx_iconst_1, hgx_iadd, hgx_put0, hgx_ret1, hgs_get_1_5, hgx_astore_5i, hgx_astore_5r, hgx_astore_5f, hgx_astore_5n, hgx_astore_5l, hgx_aload_5, hgx_iconst_2, hgx_ic_ne, hgx_invvirtual_2, hgx_if_ne, hgx_iload_4, hgx_ic_gt, hgs_get_1_0, hgx_invvirtual_1, hgx_iconst_3, hgx_get1, hgx_maxl, hgx_put1, hgx_invvirtual_3, hgx_iconst_0, hgv23_0, hgr23_0, hgu23_0, hgv23_22, hgr23_22, hgu23_22, hgv23_59, hgr23_59, hgu23_59, hgv23_84, hgr23_84, hgu23_84, hgv23_96, hgr23_96, hgu23_96, hgv23_121, hgr23_121, hgu23_121, hgv23_157, hgr23_157, hgu23_157, hgI_SI, hgI_SJ, hgJ_SI, hgJ_SJ, if_true, if_false, reduceIte, Nat.reduceEqDiff, hgWf_SI, hgWf_SJ, hgO_SI, hgO_SJ, hgAr_SI, hgAr_SJ, hgRp_SI, hgRp_SJ, hgN_SI, hgN_SJ, hgO_g, hgO_d, hgO_rl, hgO_r, hgO_0, hgO_1, hgO_64, hgO_298, hgO_300, hgCd_0, hgCd_1, hgCd_2, hgCd_3, hgCd_4, hgCd_5, hgRecv_O, hgRecv_99, List.length_cons, List.length_nil, Nat.zero_add, Nat.add_zero, Nat.le_refl, Nat.zero_le, and_self, or_true, true_or, true_and, and_true, ne_eq, not_false_eq_true, Nat.reduceLT, Nat.reduceLeDiff, Nat.reduceAdd, Nat.reduceEqDiff, hgn_eq, hgn_lt, hgn_le, if_true, if_false, reduceIte, Nat.not_lt_zero, hgs_aa_d, hgs_aa_r, hgs_aa_h, hgs_aa_m, hgs_aa_t, hgs_ld_wp, hgs_st_wp, hgs_ld_qf, hgs_st_qf, hgs_ld_qt, hgs_st_qt, hgs_ld_2, hgs_st_2, hgs_ld_3, hgs_st_3, hgs_ld_4, hgs_st_4, hgs_ld_301, hgs_st_301, hgs_ld_D, hgs_st_D, hgs_ld_s, hgs_ld_T, hgs_st_T, hgs_ld_o, hgs_st_o, hgs_ld_b, hgs_st_b, hgs_ld_z, hgs_st_z, hgs_al_b, hgx_alen_s, hw, hg, e12, k37, k6, od, od1, od3, w1, w3, e4, hs2, k3]
    · rw [if_pos hs2]
      exact hgCV_sd2 (k := 5) (hgCV_sd2 (k := 4) v3 w3 hm2 i10 (by omega)) w3 hm2 i10 (by omega)
  · refine ⟨M3, ?_, by rw [if_neg hs2]; exact v3, p3⟩
    rw [hgu23_121]
    simp (maxDischargeDepth := 7) only [hgM_t, hgM_f, hgM_n, hgx_aload_n_0, hgx_iload_n_1, hgx_iload_n_2, hgx_iload_n_3, hgx_invvirtual_4, hgx_aft_e, hgx_aft_i, hgx_aft_l, hgx_aft_v, hgx_if_eq, hgx_dup_i, hgx_dup_f, hgx_dup_r, hgx_get0, hgx_iconst_1, hgx_iadd, hgx_put0, hgx_ret1, hgs_get_1_5, hgx_astore_5i, hgx_astore_5r, hgx_astore_5f, hgx_astore_5n, hgx_astore_5l, hgx_aload_5, hgx_iconst_2, hgx_ic_ne, hgx_invvirtual_2, hgx_if_ne, hgx_iload_4, hgx_ic_gt, hgs_get_1_0, hgx_invvirtual_1, hgx_iconst_3, hgx_get1, hgx_maxl, hgx_put1, hgx_invvirtual_3, hgx_iconst_0, hgv23_0, hgr23_0, hgu23_0, hgv23_22, hgr23_22, hgu23_22, hgv23_59, hgr23_59, hgu23_59, hgv23_84, hgr23_84, hgu23_84, hgv23_96, hgr23_96, hgu23_96, hgv23_121, hgr23_121, hgu23_121, hgv23_157, hgr23_157, hgu23_157, hgI_SI, hgI_SJ, hgJ_SI, hgJ_SJ, if_true, if_false, reduceIte, Nat.reduceEqDiff, hgWf_SI, hgWf_SJ, hgO_SI, hgO_SJ, hgAr_SI, hgAr_SJ, hgRp_SI, hgRp_SJ, hgN_SI, hgN_SJ, hgO_g, hgO_d, hgO_rl, hgO_r, hgO_0, hgO_1, hgO_64, hgO_298, hgO_300, hgCd_0, hgCd_1, hgCd_2, hgCd_3, hgCd_4, hgCd_5, hgRecv_O, hgRecv_99, List.length_cons, List.length_nil, Nat.zero_add, Nat.add_zero, Nat.le_refl, Nat.zero_le, and_self, or_true, true_or, true_and, and_true, ne_eq, not_false_eq_true, Nat.reduceLT, Nat.reduceLeDiff, Nat.reduceAdd, Nat.reduceEqDiff, hgn_eq, hgn_lt, hgn_le, if_true, if_false, reduceIte, Nat.not_lt_zero, hgs_aa_d, hgs_aa_r, hgs_aa_h, hgs_aa_m, hgs_aa_t, hgs_ld_wp, hgs_st_wp, hgs_ld_qf, hgs_st_qf, hgs_ld_qt, hgs_st_qt, hgs_ld_2, hgs_st_2, hgs_ld_3, hgs_st_3, hgs_ld_4, hgs_st_4, hgs_ld_301, hgs_st_301, hgs_ld_D, hgs_st_D, hgs_ld_s, hgs_ld_T, hgs_st_T, hgs_ld_o, hgs_st_o, hgs_ld_b, hgs_st_b, hgs_ld_z, hgs_st_z, hgs_al_b, hgx_alen_s, hw, hg, e12, k37, k6, od, od1, od3, w1, w3, e4, hs2]
theorem hgCV_13 (hw : hgWf M) (hm : hgSm V) (h : hgCV M g V) : hgWC X 13 [.ref g, .int x] M = some (.inl (.int (hgB (vWk V x))), M) := by
  rw [hgk_13 hw h.1 h.2.2.2.1 hm.2.2.1]
  unfold vWk
  rw [hgAny_cg (f' := fun j => decide (vP V j = x)) (vW V) 0 (fun j _ hj => by
    rw [h.2.2.2.2.2.2.2.2.2.2.2.2.2.1 j (by omega)])]
theorem hgRV_150 (hm : hgSm V) (h : hgRV M d t V) : hgWC X 150 [.ref d, .int x] M = some (.inl (.int (hgB (vWk V x))), M) := by
  rw [hgk_150 h.1 h.2.1 h.2.2.2.2.2.1 hm.2.2.1]
  unfold vWk
  rw [hgAny_cg (f' := fun j => decide (vP V j = x)) (vW V) 0 (fun j _ hj => by
    rw [h.2.2.2.2.2.2.2.2.2.1 j (by omega)])]
theorem vQ1_f : vQ (vQ1 V i) = vQ V ∧ vB (vQ1 V i) = vB V ∧ vD (vQ1 V i) = vD V ∧ vN (vQ1 V i) = vN V ∧ vS (vQ1 V i) = vS V := by
  unfold vQ1
  split <;> exact ⟨rfl, rfl, rfl, rfl, rfl⟩
theorem hgk_23q (hw : hgWf M) (hst : hgI M 1 3 = nI c) (hc : c < 512) (hk : hgVok V c) (hls : hgLs V V) (hi : i < vN V) (h : hgCV M g V) (ho : ∀ i, o = some i → i < vN V) (hj : vJudge V o i x = nI 0) (hsl : vD V i 4 ≠ nI 2 ∨ vWk V x = true) (hlim : ¬ vS V 6 < hgBk (vQ V i) + s) : ∃ M', hgWC X 23 [.ref g, .int (hgOi o), .int (nI i), .int x, .int s] M = some (.inl (.int (nI 0)), M') ∧ hgCV M' g (vQ3 V i s c) ∧ hgPs M M' (g + 2 + i) c (vB V i).getLast? := by
  have hm := hgSm_ok hk
  have hN := hm.1
  have hg := h.1
  have hg2 := hgGw_le hg
  have i10 : i < 10 := by omega
  have od := hgO_d hw hg i10
  have hd := h.2.2.2.2.2.2.2.2.2.2.2.1 i hi
  have k20 := hgCV_20 (X := X) (z := x) hw h hk ho hi
  rw [hj] at k20
  have k13 := hgCV_13 (X := X) (x := x) hw hm h
  have k35 := hgk_35 (X := X) hw hst hc
  have e4 : hgI M (g + 2 + i) 4 = vD V i 4 := hd.1 4 (by omega)
  have e13 := hd.2.2.2.1
  have e12 := hd.2.2.1
  have e6 := h.2.2.2.2.2.2.2.1
  have f1 := vQ1_f (V := V) (i := i)
  have hl := hm.2.2.2 i hi
  have l1 : (vQ V i).length < 2147483648 := by omega
  by_cases h0 : (vQ V i).length = 0
  · have k24 := hgCV_24 (X := X) hw hm h
    have eT := hd.2.1
    have mx := vMx_c hk hi
    have v1 : hgCV (hgSJ M (g + 2 + i) 7 (vMx V i)) g (vQ1 V i) := by
      unfold vQ1
      rw [if_pos h0]
      exact hgCV_st hw hm i10 h
    have hk1 : hgVok (vQ1 V i) c := by
      unfold vQ1
      rw [if_pos h0]
      exact hgVok_mx hk hi h0
    have hls1 : hgLs (vQ1 V i) (vQ1 V i) := by
      unfold hgLs
      rw [f1.2.1, f1.2.2.2.1]
      exact hls
    obtain ⟨M', e, r1, r2⟩ := hgk_23t (X := X) (s := s) (M := hgSJ M (g + 2 + i) 7 (vMx V i)) hw hst hc hk1 hls1 (by rw [f1.2.2.2.1]; exact hi) v1
    rw [f1.1, f1.2.1, f1.2.2.1, f1.2.2.2.2] at r1
    rw [f1.2.1] at r2
    refine ⟨M', ?_, r1, hgPs_pre (hgFn_SJ hgFn_r rfl) (by omega) r2⟩
    rcases hsl with hsl | hsl
    · simp (maxDischargeDepth := 7) only [hgc23, hgM_t, hgM_f, hgM_n, hgx_aload_n_0, hgx_iload_n_1, hgx_iload_n_2, hgx_iload_n_3, hgx_invvirtual_4, hgx_aft_e, hgx_aft_i, hgx_aft_l, hgx_aft_v, hgx_if_eq, hgx_dup_i, hgx_dup_f, hgx_dup_r, hgx_get0, hgx_iconst_1, hgx_iadd, hgx_put0, hgx_ret1, hgs_get_1_5, hgx_astore_5i, hgx_astore_5r, hgx_astore_5f, hgx_astore_5n, hgx_astore_5l, hgx_aload_5, hgx_iconst_2, hgx_ic_ne, hgx_invvirtual_2, hgx_if_ne, hgx_iload_4, hgx_ic_gt, hgs_get_1_0, hgx_invvirtual_1, hgx_iconst_3, hgx_get1, hgx_maxl, hgx_put1, hgx_invvirtual_3, hgx_iconst_0, hgv23_0, hgr23_0, hgu23_0, hgv23_22, hgr23_22, hgu23_22, hgv23_59, hgr23_59, hgu23_59, hgv23_84, hgr23_84, hgu23_84, hgv23_96, hgr23_96, hgu23_96, hgv23_121, ← hgu23_121, hgv23_157, hgr23_157, hgu23_157, hgI_SI, hgI_SJ, hgJ_SI, hgJ_SJ, if_true, if_false, reduceIte, Nat.reduceEqDiff, hgWf_SI, hgWf_SJ, hgO_SI, hgO_SJ, hgAr_SI, hgAr_SJ, hgRp_SI, hgRp_SJ, hgN_SI, hgN_SJ, hgO_g, hgO_d, hgO_rl, hgO_r, hgO_0, hgO_1, hgO_64, hgO_298, hgO_300, hgCd_0, hgCd_1, hgCd_2, hgCd_3, hgCd_4, hgCd_5, hgRecv_O, hgRecv_99, List.length_cons, List.length_nil, Nat.zero_add, Nat.add_zero, Nat.le_refl, Nat.zero_le, and_self, or_true, true_or, true_and, and_true, ne_eq, not_false_eq_true, Nat.reduceLT, Nat.reduceLeDiff, Nat.reduceAdd, Nat.reduceEqDiff, hgn_eq, hgn_lt, hgn_le, if_true, if_false, reduceIte, Nat.not_lt_zero, hgs_aa_d, hgs_aa_r, hgs_aa_h, hgs_aa_m, hgs_aa_t, hgs_ld_wp, hgs_st_wp, hgs_ld_qf, hgs_st_qf, hgs_ld_qt, hgs_st_qt, hgs_ld_2, hgs_st_2, hgs_ld_3, hgs_st_3, hgs_ld_4, hgs_st_4, hgs_ld_301, hgs_st_301, hgs_ld_D, hgs_st_D, hgs_ld_s, hgs_ld_T, hgs_st_T, hgs_ld_o, hgs_st_o, hgs_ld_b, hgs_st_b, hgs_ld_z, hgs_st_z, hgs_al_b, hgx_alen_s, hw, hg, k20, i10, od, e4, hsl, e13, e6, hlim, k35, e12, h0, k24, eT, mx]
      exact e
    · by_cases hs2 : vD V i 4 = nI 2
      · simp (maxDischargeDepth := 7) only [hgc23, hgM_t, hgM_f, hgM_n, hgx_aload_n_0, hgx_iload_n_1, hgx_iload_n_2, hgx_iload_n_3, hgx_invvirtual_4, hgx_aft_e, hgx_aft_i, hgx_aft_l, hgx_aft_v, hgx_if_eq, hgx_dup_i, hgx_dup_f, hgx_dup_r, hgx_get0, hgx_iconst_1, hgx_iadd, hgx_put0, hgx_ret1, hgs_get_1_5, hgx_astore_5i, hgx_astore_5r, hgx_astore_5f, hgx_astore_5n, hgx_astore_5l, hgx_aload_5, hgx_iconst_2, hgx_ic_ne, hgx_invvirtual_2, hgx_if_ne, hgx_iload_4, hgx_ic_gt, hgs_get_1_0, hgx_invvirtual_1, hgx_iconst_3, hgx_get1, hgx_maxl, hgx_put1, hgx_invvirtual_3, hgx_iconst_0, hgv23_0, hgr23_0, hgu23_0, hgv23_22, hgr23_22, hgu23_22, hgv23_59, hgr23_59, hgu23_59, hgv23_84, hgr23_84, hgu23_84, hgv23_96, hgr23_96, hgu23_96, hgv23_121, ← hgu23_121, hgv23_157, hgr23_157, hgu23_157, hgI_SI, hgI_SJ, hgJ_SI, hgJ_SJ, if_true, if_false, reduceIte, Nat.reduceEqDiff, hgWf_SI, hgWf_SJ, hgO_SI, hgO_SJ, hgAr_SI, hgAr_SJ, hgRp_SI, hgRp_SJ, hgN_SI, hgN_SJ, hgO_g, hgO_d, hgO_rl, hgO_r, hgO_0, hgO_1, hgO_64, hgO_298, hgO_300, hgCd_0, hgCd_1, hgCd_2, hgCd_3, hgCd_4, hgCd_5, hgRecv_O, hgRecv_99, List.length_cons, List.length_nil, Nat.zero_add, Nat.add_zero, Nat.le_refl, Nat.zero_le, and_self, or_true, true_or, true_and, and_true, ne_eq, not_false_eq_true, Nat.reduceLT, Nat.reduceLeDiff, Nat.reduceAdd, Nat.reduceEqDiff, hgn_eq, hgn_lt, hgn_le, if_true, if_false, reduceIte, Nat.not_lt_zero, hgs_aa_d, hgs_aa_r, hgs_aa_h, hgs_aa_m, hgs_aa_t, hgs_ld_wp, hgs_st_wp, hgs_ld_qf, hgs_st_qf, hgs_ld_qt, hgs_st_qt, hgs_ld_2, hgs_st_2, hgs_ld_3, hgs_st_3, hgs_ld_4, hgs_st_4, hgs_ld_301, hgs_st_301, hgs_ld_D, hgs_st_D, hgs_ld_s, hgs_ld_T, hgs_st_T, hgs_ld_o, hgs_st_o, hgs_ld_b, hgs_st_b, hgs_ld_z, hgs_st_z, hgs_al_b, hgx_alen_s, hw, hg, k20, i10, od, e4, hs2, k13, hsl, hgB_t, e13, e6, hlim, k35, e12, h0, k24, eT, mx]
        exact e
      · simp (maxDischargeDepth := 7) only [hgc23, hgM_t, hgM_f, hgM_n, hgx_aload_n_0, hgx_iload_n_1, hgx_iload_n_2, hgx_iload_n_3, hgx_invvirtual_4, hgx_aft_e, hgx_aft_i, hgx_aft_l, hgx_aft_v, hgx_if_eq, hgx_dup_i, hgx_dup_f, hgx_dup_r, hgx_get0, hgx_iconst_1, hgx_iadd, hgx_put0, hgx_ret1, hgs_get_1_5, hgx_astore_5i, hgx_astore_5r, hgx_astore_5f, hgx_astore_5n, hgx_astore_5l, hgx_aload_5, hgx_iconst_2, hgx_ic_ne, hgx_invvirtual_2, hgx_if_ne, hgx_iload_4, hgx_ic_gt, hgs_get_1_0, hgx_invvirtual_1, hgx_iconst_3, hgx_get1, hgx_maxl, hgx_put1, hgx_invvirtual_3, hgx_iconst_0, hgv23_0, hgr23_0, hgu23_0, hgv23_22, hgr23_22, hgu23_22, hgv23_59, hgr23_59, hgu23_59, hgv23_84, hgr23_84, hgu23_84, hgv23_96, hgr23_96, hgu23_96, hgv23_121, ← hgu23_121, hgv23_157, hgr23_157, hgu23_157, hgI_SI, hgI_SJ, hgJ_SI, hgJ_SJ, if_true, if_false, reduceIte, Nat.reduceEqDiff, hgWf_SI, hgWf_SJ, hgO_SI, hgO_SJ, hgAr_SI, hgAr_SJ, hgRp_SI, hgRp_SJ, hgN_SI, hgN_SJ, hgO_g, hgO_d, hgO_rl, hgO_r, hgO_0, hgO_1, hgO_64, hgO_298, hgO_300, hgCd_0, hgCd_1, hgCd_2, hgCd_3, hgCd_4, hgCd_5, hgRecv_O, hgRecv_99, List.length_cons, List.length_nil, Nat.zero_add, Nat.add_zero, Nat.le_refl, Nat.zero_le, and_self, or_true, true_or, true_and, and_true, ne_eq, not_false_eq_true, Nat.reduceLT, Nat.reduceLeDiff, Nat.reduceAdd, Nat.reduceEqDiff, hgn_eq, hgn_lt, hgn_le, if_true, if_false, reduceIte, Nat.not_lt_zero, hgs_aa_d, hgs_aa_r, hgs_aa_h, hgs_aa_m, hgs_aa_t, hgs_ld_wp, hgs_st_wp, hgs_ld_qf, hgs_st_qf, hgs_ld_qt, hgs_st_qt, hgs_ld_2, hgs_st_2, hgs_ld_3, hgs_st_3, hgs_ld_4, hgs_st_4, hgs_ld_301, hgs_st_301, hgs_ld_D, hgs_st_D, hgs_ld_s, hgs_ld_T, hgs_st_T, hgs_ld_o, hgs_st_o, hgs_ld_b, hgs_st_b, hgs_ld_z, hgs_st_z, hgs_al_b, hgx_alen_s, hw, hg, k20, i10, od, e4, hs2, e13, e6, hlim, k35, e12, h0, k24, eT, mx]
        exact e
  · have v1 : hgCV M g (vQ1 V i) := by
      unfold vQ1
      rw [if_neg h0]
      exact h
    have hk1 : hgVok (vQ1 V i) c := by
      unfold vQ1
      rw [if_neg h0]
      exact hk
    have hls1 : hgLs (vQ1 V i) (vQ1 V i) := by
      unfold hgLs
      rw [f1.2.1, f1.2.2.2.1]
      exact hls
    obtain ⟨M', e, r1, r2⟩ := hgk_23t (X := X) (s := s) hw hst hc hk1 hls1 (by rw [f1.2.2.2.1]; exact hi) v1
    rw [f1.1, f1.2.1, f1.2.2.1, f1.2.2.2.2] at r1
    rw [f1.2.1] at r2
    refine ⟨M', ?_, r1, r2⟩
    rcases hsl with hsl | hsl
    · simp (maxDischargeDepth := 7) only [hgc23, hgM_t, hgM_f, hgM_n, hgx_aload_n_0, hgx_iload_n_1, hgx_iload_n_2, hgx_iload_n_3, hgx_invvirtual_4, hgx_aft_e, hgx_aft_i, hgx_aft_l, hgx_aft_v, hgx_if_eq, hgx_dup_i, hgx_dup_f, hgx_dup_r, hgx_get0, hgx_iconst_1, hgx_iadd, hgx_put0, hgx_ret1, hgs_get_1_5, hgx_astore_5i, hgx_astore_5r, hgx_astore_5f, hgx_astore_5n, hgx_astore_5l, hgx_aload_5, hgx_iconst_2, hgx_ic_ne, hgx_invvirtual_2, hgx_if_ne, hgx_iload_4, hgx_ic_gt, hgs_get_1_0, hgx_invvirtual_1, hgx_iconst_3, hgx_get1, hgx_maxl, hgx_put1, hgx_invvirtual_3, hgx_iconst_0, hgv23_0, hgr23_0, hgu23_0, hgv23_22, hgr23_22, hgu23_22, hgv23_59, hgr23_59, hgu23_59, hgv23_84, hgr23_84, hgu23_84, hgv23_96, hgr23_96, hgu23_96, hgv23_121, ← hgu23_121, hgv23_157, hgr23_157, hgu23_157, hgI_SI, hgI_SJ, hgJ_SI, hgJ_SJ, if_true, if_false, reduceIte, Nat.reduceEqDiff, hgWf_SI, hgWf_SJ, hgO_SI, hgO_SJ, hgAr_SI, hgAr_SJ, hgRp_SI, hgRp_SJ, hgN_SI, hgN_SJ, hgO_g, hgO_d, hgO_rl, hgO_r, hgO_0, hgO_1, hgO_64, hgO_298, hgO_300, hgCd_0, hgCd_1, hgCd_2, hgCd_3, hgCd_4, hgCd_5, hgRecv_O, hgRecv_99, List.length_cons, List.length_nil, Nat.zero_add, Nat.add_zero, Nat.le_refl, Nat.zero_le, and_self, or_true, true_or, true_and, and_true, ne_eq, not_false_eq_true, Nat.reduceLT, Nat.reduceLeDiff, Nat.reduceAdd, Nat.reduceEqDiff, hgn_eq, hgn_lt, hgn_le, if_true, if_false, reduceIte, Nat.not_lt_zero, hgs_aa_d, hgs_aa_r, hgs_aa_h, hgs_aa_m, hgs_aa_t, hgs_ld_wp, hgs_st_wp, hgs_ld_qf, hgs_st_qf, hgs_ld_qt, hgs_st_qt, hgs_ld_2, hgs_st_2, hgs_ld_3, hgs_st_3, hgs_ld_4, hgs_st_4, hgs_ld_301, hgs_st_301, hgs_ld_D, hgs_st_D, hgs_ld_s, hgs_ld_T, hgs_st_T, hgs_ld_o, hgs_st_o, hgs_ld_b, hgs_st_b, hgs_ld_z, hgs_st_z, hgs_al_b, hgx_alen_s, hw, hg, k20, i10, od, e4, hsl, e13, e6, hlim, k35, e12, h0, l1]
      exact e
    · by_cases hs2 : vD V i 4 = nI 2
      · simp (maxDischargeDepth := 7) only [hgc23, hgM_t, hgM_f, hgM_n, hgx_aload_n_0, hgx_iload_n_1, hgx_iload_n_2, hgx_iload_n_3, hgx_invvirtual_4, hgx_aft_e, hgx_aft_i, hgx_aft_l, hgx_aft_v, hgx_if_eq, hgx_dup_i, hgx_dup_f, hgx_dup_r, hgx_get0, hgx_iconst_1, hgx_iadd, hgx_put0, hgx_ret1, hgs_get_1_5, hgx_astore_5i, hgx_astore_5r, hgx_astore_5f, hgx_astore_5n, hgx_astore_5l, hgx_aload_5, hgx_iconst_2, hgx_ic_ne, hgx_invvirtual_2, hgx_if_ne, hgx_iload_4, hgx_ic_gt, hgs_get_1_0, hgx_invvirtual_1, hgx_iconst_3, hgx_get1, hgx_maxl, hgx_put1, hgx_invvirtual_3, hgx_iconst_0, hgv23_0, hgr23_0, hgu23_0, hgv23_22, hgr23_22, hgu23_22, hgv23_59, hgr23_59, hgu23_59, hgv23_84, hgr23_84, hgu23_84, hgv23_96, hgr23_96, hgu23_96, hgv23_121, ← hgu23_121, hgv23_157, hgr23_157, hgu23_157, hgI_SI, hgI_SJ, hgJ_SI, hgJ_SJ, if_true, if_false, reduceIte, Nat.reduceEqDiff, hgWf_SI, hgWf_SJ, hgO_SI, hgO_SJ, hgAr_SI, hgAr_SJ, hgRp_SI, hgRp_SJ, hgN_SI, hgN_SJ, hgO_g, hgO_d, hgO_rl, hgO_r, hgO_0, hgO_1, hgO_64, hgO_298, hgO_300, hgCd_0, hgCd_1, hgCd_2, hgCd_3, hgCd_4, hgCd_5, hgRecv_O, hgRecv_99, List.length_cons, List.length_nil, Nat.zero_add, Nat.add_zero, Nat.le_refl, Nat.zero_le, and_self, or_true, true_or, true_and, and_true, ne_eq, not_false_eq_true, Nat.reduceLT, Nat.reduceLeDiff, Nat.reduceAdd, Nat.reduceEqDiff, hgn_eq, hgn_lt, hgn_le, if_true, if_false, reduceIte, Nat.not_lt_zero, hgs_aa_d, hgs_aa_r, hgs_aa_h, hgs_aa_m, hgs_aa_t, hgs_ld_wp, hgs_st_wp, hgs_ld_qf, hgs_st_qf, hgs_ld_qt, hgs_st_qt, hgs_ld_2, hgs_st_2, hgs_ld_3, hgs_st_3, hgs_ld_4, hgs_st_4, hgs_ld_301, hgs_st_301, hgs_ld_D, hgs_st_D, hgs_ld_s, hgs_ld_T, hgs_st_T, hgs_ld_o, hgs_st_o, hgs_ld_b, hgs_st_b, hgs_ld_z, hgs_st_z, hgs_al_b, hgx_alen_s, hw, hg, k20, i10, od, e4, hs2, k13, hsl, hgB_t, e13, e6, hlim, k35, e12, h0, l1]
        exact e
      · simp (maxDischargeDepth := 7) only [hgc23, hgM_t, hgM_f, hgM_n, hgx_aload_n_0, hgx_iload_n_1, hgx_iload_n_2, hgx_iload_n_3, hgx_invvirtual_4, hgx_aft_e, hgx_aft_i, hgx_aft_l, hgx_aft_v, hgx_if_eq, hgx_dup_i, hgx_dup_f, hgx_dup_r, hgx_get0, hgx_iconst_1, hgx_iadd, hgx_put0, hgx_ret1, hgs_get_1_5, hgx_astore_5i, hgx_astore_5r, hgx_astore_5f, hgx_astore_5n, hgx_astore_5l, hgx_aload_5, hgx_iconst_2, hgx_ic_ne, hgx_invvirtual_2, hgx_if_ne, hgx_iload_4, hgx_ic_gt, hgs_get_1_0, hgx_invvirtual_1, hgx_iconst_3, hgx_get1, hgx_maxl, hgx_put1, hgx_invvirtual_3, hgx_iconst_0, hgv23_0, hgr23_0, hgu23_0, hgv23_22, hgr23_22, hgu23_22, hgv23_59, hgr23_59, hgu23_59, hgv23_84, hgr23_84, hgu23_84, hgv23_96, hgr23_96, hgu23_96, hgv23_121, ← hgu23_121, hgv23_157, hgr23_157, hgu23_157, hgI_SI, hgI_SJ, hgJ_SI, hgJ_SJ, if_true, if_false, reduceIte, Nat.reduceEqDiff, hgWf_SI, hgWf_SJ, hgO_SI, hgO_SJ, hgAr_SI, hgAr_SJ, hgRp_SI, hgRp_SJ, hgN_SI, hgN_SJ, hgO_g, hgO_d, hgO_rl, hgO_r, hgO_0, hgO_1, hgO_64, hgO_298, hgO_300, hgCd_0, hgCd_1, hgCd_2, hgCd_3, hgCd_4, hgCd_5, hgRecv_O, hgRecv_99, List.length_cons, List.length_nil, Nat.zero_add, Nat.add_zero, Nat.le_refl, Nat.zero_le, and_self, or_true, true_or, true_and, and_true, ne_eq, not_false_eq_true, Nat.reduceLT, Nat.reduceLeDiff, Nat.reduceAdd, Nat.reduceEqDiff, hgn_eq, hgn_lt, hgn_le, if_true, if_false, reduceIte, Nat.not_lt_zero, hgs_aa_d, hgs_aa_r, hgs_aa_h, hgs_aa_m, hgs_aa_t, hgs_ld_wp, hgs_st_wp, hgs_ld_qf, hgs_st_qf, hgs_ld_qt, hgs_st_qt, hgs_ld_2, hgs_st_2, hgs_ld_3, hgs_st_3, hgs_ld_4, hgs_st_4, hgs_ld_301, hgs_st_301, hgs_ld_D, hgs_st_D, hgs_ld_s, hgs_ld_T, hgs_st_T, hgs_ld_o, hgs_st_o, hgs_ld_b, hgs_st_b, hgs_ld_z, hgs_st_z, hgs_al_b, hgx_alen_s, hw, hg, k20, i10, od, e4, hs2, e13, e6, hlim, k35, e12, h0, l1]
        exact e
/-- take, where nothing is queued -/
theorem hgk_23r (hw : hgWf M) (hk : hgVok V c) (hi : i < vN V) (h : hgCV M g V) (ho : ∀ i, o = some i → i < vN V) (hj : vJudge V o i x ≠ nI 0) : hgWC X 23 [.ref g, .int (hgOi o), .int (nI i), .int x, .int s] M = some (.inl (.int (nI 1)), hgSI M g 13 (vS V 7 + nI 1)) ∧ hgCV (hgSI M g 13 (vS V 7 + nI 1)) g (vSs V 7 (vS V 7 + nI 1)) := by
  have hg := h.1
  have k20 := hgCV_20 (X := X) (z := x) hw h hk ho hi
  have e := h.2.2.2.2.2.2.2.2.1
  refine ⟨?_, hgCV_ss hw (hgSm_ok hk) (by omega) h⟩
  simp (maxDischargeDepth := 7) only [hgc23, hgM_t, hgM_f, hgM_n, hgx_aload_n_0, hgx_iload_n_1, hgx_iload_n_2, hgx_iload_n_3, hgx_invvirtual_4, hgx_aft_e, hgx_aft_i, hgx_aft_l, hgx_aft_v, hgx_if_eq, hgx_dup_i, hgx_dup_f, hgx_dup_r, hgx_get0, hgx_iconst_1, hgx_iadd, hgx_put0, hgx_ret1, hgs_get_1_5, hgx_astore_5i, hgx_astore_5r, hgx_astore_5f, hgx_astore_5n, hgx_astore_5l, hgx_aload_5, hgx_iconst_2, hgx_ic_ne, hgx_invvirtual_2, hgx_if_ne, hgx_iload_4, hgx_ic_gt, hgs_get_1_0, hgx_invvirtual_1, hgx_iconst_3, hgx_get1, hgx_maxl, hgx_put1, hgx_invvirtual_3, hgx_iconst_0, hgv23_0, hgr23_0, hgu23_0, hgv23_22, hgr23_22, hgu23_22, hgv23_59, hgr23_59, hgu23_59, hgv23_84, hgr23_84, hgu23_84, hgv23_96, hgr23_96, hgu23_96, hgv23_121, hgr23_121, hgu23_121, hgv23_157, hgr23_157, hgu23_157, hgI_SI, hgI_SJ, hgJ_SI, hgJ_SJ, if_true, if_false, reduceIte, Nat.reduceEqDiff, hgWf_SI, hgWf_SJ, hgO_SI, hgO_SJ, hgAr_SI, hgAr_SJ, hgRp_SI, hgRp_SJ, hgN_SI, hgN_SJ, hgO_g, hgO_d, hgO_rl, hgO_r, hgO_0, hgO_1, hgO_64, hgO_298, hgO_300, hgCd_0, hgCd_1, hgCd_2, hgCd_3, hgCd_4, hgCd_5, hgRecv_O, hgRecv_99, List.length_cons, List.length_nil, Nat.zero_add, Nat.add_zero, Nat.le_refl, Nat.zero_le, and_self, or_true, true_or, true_and, and_true, ne_eq, not_false_eq_true, Nat.reduceLT, Nat.reduceLeDiff, Nat.reduceAdd, Nat.reduceEqDiff, hgn_eq, hgn_lt, hgn_le, if_true, if_false, reduceIte, Nat.not_lt_zero, hgs_aa_d, hgs_aa_r, hgs_aa_h, hgs_aa_m, hgs_aa_t, hgs_ld_wp, hgs_st_wp, hgs_ld_qf, hgs_st_qf, hgs_ld_qt, hgs_st_qt, hgs_ld_2, hgs_st_2, hgs_ld_3, hgs_st_3, hgs_ld_4, hgs_st_4, hgs_ld_301, hgs_st_301, hgs_ld_D, hgs_st_D, hgs_ld_s, hgs_ld_T, hgs_st_T, hgs_ld_o, hgs_st_o, hgs_ld_b, hgs_st_b, hgs_ld_z, hgs_st_z, hgs_al_b, hgx_alen_s, hw, hg, k20, hj, e]
theorem hgk_23p (hw : hgWf M) (hk : hgVok V c) (hi : i < vN V) (h : hgCV M g V) (ho : ∀ i, o = some i → i < vN V) (hj : vJudge V o i x = nI 0) (hs : vD V i 4 = nI 2) (hwk : vWk V x = false) : hgWC X 23 [.ref g, .int (hgOi o), .int (nI i), .int x, .int s] M = some (.inl (.int (nI 2)), hgSI M g 14 (vS V 8 + nI 1)) ∧ hgCV (hgSI M g 14 (vS V 8 + nI 1)) g (vSs V 8 (vS V 8 + nI 1)) := by
  have hg := h.1
  have hm := hgSm_ok hk
  have hN := hm.1
  have i10 : i < 10 := by omega
  have od := hgO_d hw hg i10
  have k20 := hgCV_20 (X := X) (z := x) hw h hk ho hi
  rw [hj] at k20
  have k13 := hgCV_13 (X := X) (x := x) hw hm h
  have e4 : hgI M (g + 2 + i) 4 = vD V i 4 := (h.2.2.2.2.2.2.2.2.2.2.2.1 i hi).1 4 (by omega)
  have e := h.2.2.2.2.2.2.2.2.2.1
  refine ⟨?_, hgCV_ss hw hm (by omega) h⟩
  simp (maxDischargeDepth := 7) only [hgc23, hgM_t, hgM_f, hgM_n, hgx_aload_n_0, hgx_iload_n_1, hgx_iload_n_2, hgx_iload_n_3, hgx_invvirtual_4, hgx_aft_e, hgx_aft_i, hgx_aft_l, hgx_aft_v, hgx_if_eq, hgx_dup_i, hgx_dup_f, hgx_dup_r, hgx_get0, hgx_iconst_1, hgx_iadd, hgx_put0, hgx_ret1, hgs_get_1_5, hgx_astore_5i, hgx_astore_5r, hgx_astore_5f, hgx_astore_5n, hgx_astore_5l, hgx_aload_5, hgx_iconst_2, hgx_ic_ne, hgx_invvirtual_2, hgx_if_ne, hgx_iload_4, hgx_ic_gt, hgs_get_1_0, hgx_invvirtual_1, hgx_iconst_3, hgx_get1, hgx_maxl, hgx_put1, hgx_invvirtual_3, hgx_iconst_0, hgv23_0, hgr23_0, hgu23_0, hgv23_22, hgr23_22, hgu23_22, hgv23_59, hgr23_59, hgu23_59, hgv23_84, hgr23_84, hgu23_84, hgv23_96, hgr23_96, hgu23_96, hgv23_121, hgr23_121, hgu23_121, hgv23_157, hgr23_157, hgu23_157, hgI_SI, hgI_SJ, hgJ_SI, hgJ_SJ, if_true, if_false, reduceIte, Nat.reduceEqDiff, hgWf_SI, hgWf_SJ, hgO_SI, hgO_SJ, hgAr_SI, hgAr_SJ, hgRp_SI, hgRp_SJ, hgN_SI, hgN_SJ, hgO_g, hgO_d, hgO_rl, hgO_r, hgO_0, hgO_1, hgO_64, hgO_298, hgO_300, hgCd_0, hgCd_1, hgCd_2, hgCd_3, hgCd_4, hgCd_5, hgRecv_O, hgRecv_99, List.length_cons, List.length_nil, Nat.zero_add, Nat.add_zero, Nat.le_refl, Nat.zero_le, and_self, or_true, true_or, true_and, and_true, ne_eq, not_false_eq_true, Nat.reduceLT, Nat.reduceLeDiff, Nat.reduceAdd, Nat.reduceEqDiff, hgn_eq, hgn_lt, hgn_le, if_true, if_false, reduceIte, Nat.not_lt_zero, hgs_aa_d, hgs_aa_r, hgs_aa_h, hgs_aa_m, hgs_aa_t, hgs_ld_wp, hgs_st_wp, hgs_ld_qf, hgs_st_qf, hgs_ld_qt, hgs_st_qt, hgs_ld_2, hgs_st_2, hgs_ld_3, hgs_st_3, hgs_ld_4, hgs_st_4, hgs_ld_301, hgs_st_301, hgs_ld_D, hgs_st_D, hgs_ld_s, hgs_ld_T, hgs_st_T, hgs_ld_o, hgs_st_o, hgs_ld_b, hgs_st_b, hgs_ld_z, hgs_st_z, hgs_al_b, hgx_alen_s, hw, hg, k20, i10, od, e4, hs, k13, hwk, hgB_f, e]
theorem hgk_23d (hw : hgWf M) (hk : hgVok V c) (hi : i < vN V) (h : hgCV M g V) (ho : ∀ i, o = some i → i < vN V) (hj : vJudge V o i x = nI 0) (hsl : vD V i 4 ≠ nI 2 ∨ vWk V x = true) (hlim : vS V 6 < hgBk (vQ V i) + s) : hgWC X 23 [.ref g, .int (hgOi o), .int (nI i), .int x, .int s] M = some (.inl (.int (nI 3)), hgSI M g 15 (vS V 9 + nI 1)) ∧ hgCV (hgSI M g 15 (vS V 9 + nI 1)) g (vSs V 9 (vS V 9 + nI 1)) := by
  have hg := h.1
  have hm := hgSm_ok hk
  have hN := hm.1
  have i10 : i < 10 := by omega
  have od := hgO_d hw hg i10
  have k20 := hgCV_20 (X := X) (z := x) hw h hk ho hi
  rw [hj] at k20
  have k13 := hgCV_13 (X := X) (x := x) hw hm h
  have hd := h.2.2.2.2.2.2.2.2.2.2.2.1 i hi
  have e4 : hgI M (g + 2 + i) 4 = vD V i 4 := hd.1 4 (by omega)
  have e13 := hd.2.2.2.1
  have e6 := h.2.2.2.2.2.2.2.1
  have e := h.2.2.2.2.2.2.2.2.2.2.1
  refine ⟨?_, hgCV_ss hw hm (by omega) h⟩
  rcases hsl with hsl | hsl
  · simp (maxDischargeDepth := 7) only [hgc23, hgM_t, hgM_f, hgM_n, hgx_aload_n_0, hgx_iload_n_1, hgx_iload_n_2, hgx_iload_n_3, hgx_invvirtual_4, hgx_aft_e, hgx_aft_i, hgx_aft_l, hgx_aft_v, hgx_if_eq, hgx_dup_i, hgx_dup_f, hgx_dup_r, hgx_get0, hgx_iconst_1, hgx_iadd, hgx_put0, hgx_ret1, hgs_get_1_5, hgx_astore_5i, hgx_astore_5r, hgx_astore_5f, hgx_astore_5n, hgx_astore_5l, hgx_aload_5, hgx_iconst_2, hgx_ic_ne, hgx_invvirtual_2, hgx_if_ne, hgx_iload_4, hgx_ic_gt, hgs_get_1_0, hgx_invvirtual_1, hgx_iconst_3, hgx_get1, hgx_maxl, hgx_put1, hgx_invvirtual_3, hgx_iconst_0, hgv23_0, hgr23_0, hgu23_0, hgv23_22, hgr23_22, hgu23_22, hgv23_59, hgr23_59, hgu23_59, hgv23_84, hgr23_84, hgu23_84, hgv23_96, hgr23_96, hgu23_96, hgv23_121, hgr23_121, hgu23_121, hgv23_157, hgr23_157, hgu23_157, hgI_SI, hgI_SJ, hgJ_SI, hgJ_SJ, if_true, if_false, reduceIte, Nat.reduceEqDiff, hgWf_SI, hgWf_SJ, hgO_SI, hgO_SJ, hgAr_SI, hgAr_SJ, hgRp_SI, hgRp_SJ, hgN_SI, hgN_SJ, hgO_g, hgO_d, hgO_rl, hgO_r, hgO_0, hgO_1, hgO_64, hgO_298, hgO_300, hgCd_0, hgCd_1, hgCd_2, hgCd_3, hgCd_4, hgCd_5, hgRecv_O, hgRecv_99, List.length_cons, List.length_nil, Nat.zero_add, Nat.add_zero, Nat.le_refl, Nat.zero_le, and_self, or_true, true_or, true_and, and_true, ne_eq, not_false_eq_true, Nat.reduceLT, Nat.reduceLeDiff, Nat.reduceAdd, Nat.reduceEqDiff, hgn_eq, hgn_lt, hgn_le, if_true, if_false, reduceIte, Nat.not_lt_zero, hgs_aa_d, hgs_aa_r, hgs_aa_h, hgs_aa_m, hgs_aa_t, hgs_ld_wp, hgs_st_wp, hgs_ld_qf, hgs_st_qf, hgs_ld_qt, hgs_st_qt, hgs_ld_2, hgs_st_2, hgs_ld_3, hgs_st_3, hgs_ld_4, hgs_st_4, hgs_ld_301, hgs_st_301, hgs_ld_D, hgs_st_D, hgs_ld_s, hgs_ld_T, hgs_st_T, hgs_ld_o, hgs_st_o, hgs_ld_b, hgs_st_b, hgs_ld_z, hgs_st_z, hgs_al_b, hgx_alen_s, hw, hg, k20, i10, od, e4, hsl, e13, e6, hlim, e]
  · by_cases hs2 : vD V i 4 = nI 2
    · simp (maxDischargeDepth := 7) only [hgc23, hgM_t, hgM_f, hgM_n, hgx_aload_n_0, hgx_iload_n_1, hgx_iload_n_2, hgx_iload_n_3, hgx_invvirtual_4, hgx_aft_e, hgx_aft_i, hgx_aft_l, hgx_aft_v, hgx_if_eq, hgx_dup_i, hgx_dup_f, hgx_dup_r, hgx_get0, hgx_iconst_1, hgx_iadd, hgx_put0, hgx_ret1, hgs_get_1_5, hgx_astore_5i, hgx_astore_5r, hgx_astore_5f, hgx_astore_5n, hgx_astore_5l, hgx_aload_5, hgx_iconst_2, hgx_ic_ne, hgx_invvirtual_2, hgx_if_ne, hgx_iload_4, hgx_ic_gt, hgs_get_1_0, hgx_invvirtual_1, hgx_iconst_3, hgx_get1, hgx_maxl, hgx_put1, hgx_invvirtual_3, hgx_iconst_0, hgv23_0, hgr23_0, hgu23_0, hgv23_22, hgr23_22, hgu23_22, hgv23_59, hgr23_59, hgu23_59, hgv23_84, hgr23_84, hgu23_84, hgv23_96, hgr23_96, hgu23_96, hgv23_121, hgr23_121, hgu23_121, hgv23_157, hgr23_157, hgu23_157, hgI_SI, hgI_SJ, hgJ_SI, hgJ_SJ, if_true, if_false, reduceIte, Nat.reduceEqDiff, hgWf_SI, hgWf_SJ, hgO_SI, hgO_SJ, hgAr_SI, hgAr_SJ, hgRp_SI, hgRp_SJ, hgN_SI, hgN_SJ, hgO_g, hgO_d, hgO_rl, hgO_r, hgO_0, hgO_1, hgO_64, hgO_298, hgO_300, hgCd_0, hgCd_1, hgCd_2, hgCd_3, hgCd_4, hgCd_5, hgRecv_O, hgRecv_99, List.length_cons, List.length_nil, Nat.zero_add, Nat.add_zero, Nat.le_refl, Nat.zero_le, and_self, or_true, true_or, true_and, and_true, ne_eq, not_false_eq_true, Nat.reduceLT, Nat.reduceLeDiff, Nat.reduceAdd, Nat.reduceEqDiff, hgn_eq, hgn_lt, hgn_le, if_true, if_false, reduceIte, Nat.not_lt_zero, hgs_aa_d, hgs_aa_r, hgs_aa_h, hgs_aa_m, hgs_aa_t, hgs_ld_wp, hgs_st_wp, hgs_ld_qf, hgs_st_qf, hgs_ld_qt, hgs_st_qt, hgs_ld_2, hgs_st_2, hgs_ld_3, hgs_st_3, hgs_ld_4, hgs_st_4, hgs_ld_301, hgs_st_301, hgs_ld_D, hgs_st_D, hgs_ld_s, hgs_ld_T, hgs_st_T, hgs_ld_o, hgs_st_o, hgs_ld_b, hgs_st_b, hgs_ld_z, hgs_st_z, hgs_al_b, hgx_alen_s, hw, hg, k20, i10, od, e4, hs2, k13, hsl, hgB_t, e13, e6, hlim, e]
    · simp (maxDischargeDepth := 7) only [hgc23, hgM_t, hgM_f, hgM_n, hgx_aload_n_0, hgx_iload_n_1, hgx_iload_n_2, hgx_iload_n_3, hgx_invvirtual_4, hgx_aft_e, hgx_aft_i, hgx_aft_l, hgx_aft_v, hgx_if_eq, hgx_dup_i, hgx_dup_f, hgx_dup_r, hgx_get0, hgx_iconst_1, hgx_iadd, hgx_put0, hgx_ret1, hgs_get_1_5, hgx_astore_5i, hgx_astore_5r, hgx_astore_5f, hgx_astore_5n, hgx_astore_5l, hgx_aload_5, hgx_iconst_2, hgx_ic_ne, hgx_invvirtual_2, hgx_if_ne, hgx_iload_4, hgx_ic_gt, hgs_get_1_0, hgx_invvirtual_1, hgx_iconst_3, hgx_get1, hgx_maxl, hgx_put1, hgx_invvirtual_3, hgx_iconst_0, hgv23_0, hgr23_0, hgu23_0, hgv23_22, hgr23_22, hgu23_22, hgv23_59, hgr23_59, hgu23_59, hgv23_84, hgr23_84, hgu23_84, hgv23_96, hgr23_96, hgu23_96, hgv23_121, hgr23_121, hgu23_121, hgv23_157, hgr23_157, hgu23_157, hgI_SI, hgI_SJ, hgJ_SI, hgJ_SJ, if_true, if_false, reduceIte, Nat.reduceEqDiff, hgWf_SI, hgWf_SJ, hgO_SI, hgO_SJ, hgAr_SI, hgAr_SJ, hgRp_SI, hgRp_SJ, hgN_SI, hgN_SJ, hgO_g, hgO_d, hgO_rl, hgO_r, hgO_0, hgO_1, hgO_64, hgO_298, hgO_300, hgCd_0, hgCd_1, hgCd_2, hgCd_3, hgCd_4, hgCd_5, hgRecv_O, hgRecv_99, List.length_cons, List.length_nil, Nat.zero_add, Nat.add_zero, Nat.le_refl, Nat.zero_le, and_self, or_true, true_or, true_and, and_true, ne_eq, not_false_eq_true, Nat.reduceLT, Nat.reduceLeDiff, Nat.reduceAdd, Nat.reduceEqDiff, hgn_eq, hgn_lt, hgn_le, if_true, if_false, reduceIte, Nat.not_lt_zero, hgs_aa_d, hgs_aa_r, hgs_aa_h, hgs_aa_m, hgs_aa_t, hgs_ld_wp, hgs_st_wp, hgs_ld_qf, hgs_st_qf, hgs_ld_qt, hgs_st_qt, hgs_ld_2, hgs_st_2, hgs_ld_3, hgs_st_3, hgs_ld_4, hgs_st_4, hgs_ld_301, hgs_st_301, hgs_ld_D, hgs_st_D, hgs_ld_s, hgs_ld_T, hgs_st_T, hgs_ld_o, hgs_st_o, hgs_ld_b, hgs_st_b, hgs_ld_z, hgs_st_z, hgs_al_b, hgx_alen_s, hw, hg, k20, i10, od, e4, hs2, e13, e6, hlim, e]
end HGARR

/-! THE INVARIANT of the law's loop, and what a call of each side must do. -/
def hgBuf (M : hgMem) : Prop := ∃ bl, bl ≤ 900 ∧ hgI M 0 1 = nI bl ∧ hgI M 300 2 = nI bl ∧ hgI M 0 2 = hgI M 300 7 ∧ ∀ j, j < bl → hgI M 301 j = hgI M 5 j &&& nI 255
def hgLs (W V : hgV) : Prop := ∀ a, a < vN W → ∀ b, b < vN V → ∀ l, (vB V b).getLast? = some l → l ∉ (vB W a).dropLast
def hgSf (V : hgV) : Prop := ∀ a, a < vN V → ∀ b, b < vN V → a ≠ b → ∀ l, (vB V b).getLast? = some l → l ∉ vB V a
def hgCk (V : hgV) : Prop := ∃ t, t ≤ 100000 ∧ vS V 3 = nI t
/-- the pictures in their order: what a packet's follower may touch -/
def hgHi : hgV → List hgV → Prop
  | V, [] => hgLs V V ∧ hgSf V ∧ hgCk V
  | V, W :: Hs => hgLs V V ∧ hgSf V ∧ hgCk V ∧ (∀ U ∈ W :: Hs, hgLs U V) ∧ hgHi W Hs
def hgInv (M : hgMem) (N : Nat) : Prop := ∃ V Hs c, c ≤ N ∧ hgSC M V Hs c ∧ hgSM M V Hs c ∧ hgHi V Hs ∧ hgBuf M
/-- two calls with an answer -/
def hgAi (X : hgX) (l : Nat) (la : List Value) (r : Nat) (ra : List Value) (M : hgMem) (N : Nat) : Prop := ∃ a M1 M2, hgWC X l la M = some (.inl (.int a), M1) ∧ hgWC X r ra M1 = some (.inl (.int a), M2) ∧ hgWf M1 ∧ hgInv M2 (N + 1)
/-- two calls that may throw -/
def hgBi (X : hgX) (l : Nat) (la : List Value) (r : Nat) (ra : List Value) (M : hgMem) (N : Nat) : Prop := ∃ k b M1 M2, hgWC X l la M = some (.inl (.int k), M1) ∧ hgWC X r ra M1 = some (.inl (.int b), M2) ∧ hgWf M1 ∧ hgI M2 300 0 = k ∧ (k = nI 0 → hgJ M2 325 0 = b.toInt64) ∧ hgInv M2 (N + 1)
def hgBl (X : hgX) (l : Nat) (la : List Value) (r : Nat) (ra : List Value) (M : hgMem) (N : Nat) : Prop := ∃ k b M1 M2, hgWC X l la M = some (.inl (.int k), M1) ∧ hgWC X r ra M1 = some (.inl (.long b), M2) ∧ hgWf M1 ∧ hgI M2 300 0 = k ∧ (k = nI 0 → hgJ M2 325 0 = b) ∧ hgInv M2 (N + 1)
def hgBb (X : hgX) (l : Nat) (la : List Value) (r : Nat) (ra : List Value) (M : hgMem) (N : Nat) : Prop := ∃ k b M1 M2, hgWC X l la M = some (.inl (.int k), M1) ∧ hgWC X r ra M1 = some (.inl (.int (hgB b)), M2) ∧ hgWf M1 ∧ hgI M2 300 0 = k ∧ (k = nI 0 → hgJ M2 325 0 = if b = true then 1 else 0) ∧ hgInv M2 (N + 1)
section HGINV
variable {X : hgX} {M M' M1 M2 : hgMem} {d t g h i j q c k a b n p N : Nat} {V V' W : hgV} {Hs : List hgV} {x y z : Int32} {u : Int64} {P : Nat → Prop} {o : Option Nat}
theorem hgSM_C (f : hgFC M M1) (hw : hgWf M1) (h : hgSM M V Hs c) : hgSM M1 V Hs c := hgSM_fm f.1 hw (fun b hb => by omega) h
theorem hgSC_R (f : hgFR M M1) (hw : hgWf M1) (h : hgSC M V Hs c) : hgSC M1 V Hs c := hgSC_fm f.1 hw (fun b hb => by omega) h
theorem hgBuf_C (f : hgFC M M1) (h : hgBuf M) : hgBuf M1 := by
  obtain ⟨bl, b1, b2, b3, b4, b5⟩ := h
  refine ⟨bl, b1, by rw [f.2.1 1 (by omega)]; exact b2, by rw [(f.1.2 300 (by omega) 2).1]; exact b3, by rw [f.2.1 2 (by omega), (f.1.2 300 (by omega) 7).1]; exact b4, fun j hj => by rw [(f.1.2 301 (by omega) j).1, f.2.2 j]; exact b5 j hj⟩
theorem hgBuf_R (f : hgFR M M1) (h : hgBuf M) : hgBuf M1 := by
  obtain ⟨bl, b1, b2, b3, b4, b5⟩ := h
  refine ⟨bl, b1, by rw [(f.1.2 0 (by omega) 1).1]; exact b2, by rw [f.2.1 2 (by omega)]; exact b3, by rw [(f.1.2 0 (by omega) 2).1, f.2.1 7 (by omega)]; exact b4, fun j hj => by rw [(f.1.2 5 (by omega) j).1, f.2.2 j]; exact b5 j hj⟩
theorem hgInv_2 (hb : hgBuf M) (hC : hgSC M1 V Hs c) (fC : hgFC M M1) (hR : hgSM M2 V Hs c) (fR : hgFR M1 M2) (hH : hgHi V Hs) (hc : c ≤ N) : hgInv M2 N := ⟨V, Hs, c, hc, hgSC_R fR hR.1 hC, hR, hH, hgBuf_R fR (hgBuf_C fC hb)⟩
theorem hgFC_o : hgFC M (hgSJ M 325 0 u) := ⟨hgFm_SJ hgFm_r (Or.inr rfl), fun _ _ => rfl, fun _ => rfl⟩
theorem hgSC_o (h : hgSC M V Hs c) : hgSC (hgSJ M 325 0 u) V Hs c := hgSC_fm (P := fun b => b = 325) (hgFm_SJ hgFm_r rfl) h.1 (fun b hb => by omega) h
theorem hgFR_0 : hgFR M (hgSI M 300 0 x) := hgFR_300 (by omega) hgFR_r
theorem hgFR_1 : hgFR M (hgSI (hgSI M 300 0 x) 300 0 y) := hgFR_300 (by omega) (hgFR_300 (by omega) hgFR_r)
theorem hgSM_0 (h : hgSM M V Hs c) : hgSM (hgSI M 300 0 x) V Hs c := hgSM_300 (by omega) h
theorem hgSM_1 (h : hgSM M V Hs c) : hgSM (hgSI (hgSI M 300 0 x) 300 0 y) V Hs c := hgSM_0 (hgSM_0 h)
theorem hgSumN_bk {f : Nat → Int32} : ∀ (q : List (Int32 × Int32)) (s : Int32) (i : Nat), (∀ k z, q[k]? = some z → f (i + k) = z.1) → hgSumN f s i q.length = q.foldl (fun s z => s + z.1) s
  | [], s, i, _ => rfl
  | z :: q, s, i, h => by
    show hgSumN f (s + f i) (i + 1) q.length = q.foldl (fun s z => s + z.1) (s + z.1)
    have h00 : f i = z.1 := h 0 z rfl
    rw [h00, hgSumN_bk q (s + z.1) (i + 1) (fun k z9 hz => by
      rw [show i + 1 + k = i + (k + 1) by omega]
      exact h (k + 1) z9 (by rw [List.getElem?_cons_succ]; exact hz))]
theorem hgRV_174 (hw : hgWf M) (hm : hgSm V) (hi : i < vN V) (h : hgRV M 302 314 V) : hgWC X 174 [.ref 300, .int (nI i)] M = some (.inl (.int (hgBk (vQ V i))), M) := by
  have e := h.2.2.2.2.2.2.2.1 i hi
  have hN := hm.1
  have hl := hm.2.2.2 i hi
  rw [hgk_174 hw (by omega) e.2.1 (by omega), hgSumN_bk (vQ V i) (nI 0) 0 (fun k z hz => by rw [Nat.zero_add]; exact (e.2.2.2 k z hz).1)]
  rfl
theorem hgk_89a (h : hgSC M V Hs c) (hi : i < vN V) : hgWC X 89 [.ref 0, .int (nI i)] M = some (.inl (.int (vD V i 4)), M) := by
  obtain ⟨hw, g6, hn, hN, _, _⟩ := hgSC_6 h
  have k := hgk_117a (X := X) h hi
  have hd := h.2.2.1.2.2.2.2.2.2.2.2.2.2.2.1 i hi
  have i10 : i < 10 := by omega
  have e : hgI M (6 + 2 + i) 4 = vD V i 4 := hd.1 4 (by omega)
  have od := hgO_d hw g6 i10
  rw [show 6 + 2 + i = 8 + i from rfl] at e od
  simp (maxDischargeDepth := 7) only [hgc89, hgM_t, hgM_f, hgM_n, hgx_aload_n_0, hgx_iload_n_1, hgx_invvirtual_2, hgx_aft_e, hgx_aft_i, hgx_aft_l, hgx_aft_v, hgs_get_7_3, hgs_get_1_5, hgx_get0, hgx_ret1, hgv89_0, hgr89_0, hgu89_0, hgI_SI, hgI_SJ, hgJ_SI, hgJ_SJ, if_true, if_false, reduceIte, Nat.reduceEqDiff, hgWf_SI, hgWf_SJ, hgO_SI, hgO_SJ, hgAr_SI, hgAr_SJ, hgRp_SI, hgRp_SJ, hgN_SI, hgN_SJ, hgO_g, hgO_d, hgO_rl, hgO_r, hgO_0, hgO_1, hgO_64, hgO_298, hgO_300, hgCd_0, hgCd_1, hgCd_2, hgCd_3, hgCd_4, hgCd_5, hgRecv_O, hgRecv_99, List.length_cons, List.length_nil, Nat.zero_add, Nat.add_zero, Nat.le_refl, Nat.zero_le, and_self, or_true, true_or, true_and, and_true, ne_eq, not_false_eq_true, Nat.reduceLT, Nat.reduceLeDiff, Nat.reduceAdd, Nat.reduceEqDiff, hgn_eq, hgn_lt, hgn_le, if_true, if_false, reduceIte, Nat.not_lt_zero, hgs_aa_d, hgs_aa_r, hgs_aa_h, hgs_aa_m, hgs_aa_t, hgs_ld_wp, hgs_st_wp, hgs_ld_qf, hgs_st_qf, hgs_ld_qt, hgs_st_qt, hgs_ld_2, hgs_st_2, hgs_ld_3, hgs_st_3, hgs_ld_4, hgs_st_4, hgs_ld_301, hgs_st_301, hgs_ld_D, hgs_st_D, hgs_ld_s, hgs_ld_T, hgs_st_T, hgs_ld_o, hgs_st_o, hgs_ld_b, hgs_st_b, hgs_ld_z, hgs_st_z, hgs_al_b, hgx_alen_s, hw, g6, k, i10, e, od]
theorem hgk_89b (h : hgSC M V Hs c) (hx : ¬ ∃ i, i < vN V ∧ x = nI i) : hgWC X 89 [.ref 0, .int x] M = some (.inr 2, M) := by
  have hw := h.1
  have k := hgk_117b (X := X) h hx
  simp (maxDischargeDepth := 7) only [hgc89, hgM_t, hgM_f, hgM_n, hgx_aload_n_0, hgx_iload_n_1, hgx_invvirtual_2, hgx_aft_e, hgx_aft_i, hgx_aft_l, hgx_aft_v, hgs_get_7_3, hgs_get_1_5, hgx_get0, hgx_ret1, hgv89_0, hgr89_0, hgu89_0, hgI_SI, hgI_SJ, hgJ_SI, hgJ_SJ, if_true, if_false, reduceIte, Nat.reduceEqDiff, hgWf_SI, hgWf_SJ, hgO_SI, hgO_SJ, hgAr_SI, hgAr_SJ, hgRp_SI, hgRp_SJ, hgN_SI, hgN_SJ, hgO_g, hgO_d, hgO_rl, hgO_r, hgO_0, hgO_1, hgO_64, hgO_298, hgO_300, hgCd_0, hgCd_1, hgCd_2, hgCd_3, hgCd_4, hgCd_5, hgRecv_O, hgRecv_99, List.length_cons, List.length_nil, Nat.zero_add, Nat.add_zero, Nat.le_refl, Nat.zero_le, and_self, or_true, true_or, true_and, and_true, ne_eq, not_false_eq_true, Nat.reduceLT, Nat.reduceLeDiff, Nat.reduceAdd, Nat.reduceEqDiff, hgn_eq, hgn_lt, hgn_le, if_true, if_false, reduceIte, Nat.not_lt_zero, hw, k]
theorem hgk_206a (h : hgSC M V Hs c) (hi : i < vN V) : hgWC X 206 [.ref 0, .int (nI i), .ref 325] M = some (.inl (.int (nI 0)), hgSJ M 325 0 ((vD V i 4).toInt64)) := by
  have hw := h.1
  have k := hgk_89a (X := X) h hi
  simp (maxDischargeDepth := 7) only [hgc206, hgM_t, hgM_f, hgM_n, hgx_aload_n_2, hgx_iconst_0, hgx_aload_n_0, hgx_iload_n_1, hgx_invvirtual_2, hgx_aft_h, hgx_aft_e, hgx_aft_i, hgx_aft_l, hgx_aft_v, hgx_i2l, hgx_goto, hgx_iconst_1, hgx_ret1, hgv206_0, hgr206_0, hgu206_0, hgv206_13, hgr206_13, hgu206_13, hgv206_15, hgr206_15, hgu206_15, hgI_SI, hgI_SJ, hgJ_SI, hgJ_SJ, if_true, if_false, reduceIte, Nat.reduceEqDiff, hgWf_SI, hgWf_SJ, hgO_SI, hgO_SJ, hgAr_SI, hgAr_SJ, hgRp_SI, hgRp_SJ, hgN_SI, hgN_SJ, hgO_g, hgO_d, hgO_rl, hgO_r, hgO_0, hgO_1, hgO_64, hgO_298, hgO_300, hgCd_0, hgCd_1, hgCd_2, hgCd_3, hgCd_4, hgCd_5, hgRecv_O, hgRecv_99, List.length_cons, List.length_nil, Nat.zero_add, Nat.add_zero, Nat.le_refl, Nat.zero_le, and_self, or_true, true_or, true_and, and_true, ne_eq, not_false_eq_true, Nat.reduceLT, Nat.reduceLeDiff, Nat.reduceAdd, Nat.reduceEqDiff, hgn_eq, hgn_lt, hgn_le, if_true, if_false, reduceIte, Nat.not_lt_zero, hgs_aa_d, hgs_aa_r, hgs_aa_h, hgs_aa_m, hgs_aa_t, hgs_ld_wp, hgs_st_wp, hgs_ld_qf, hgs_st_qf, hgs_ld_qt, hgs_st_qt, hgs_ld_2, hgs_st_2, hgs_ld_3, hgs_st_3, hgs_ld_4, hgs_st_4, hgs_ld_301, hgs_st_301, hgs_ld_D, hgs_st_D, hgs_ld_s, hgs_ld_T, hgs_st_T, hgs_ld_o, hgs_st_o, hgs_ld_b, hgs_st_b, hgs_ld_z, hgs_st_z, hgs_al_b, hgx_alen_s, hw, k]
theorem hgk_206b (h : hgSC M V Hs c) (hx : ¬ ∃ i, i < vN V ∧ x = nI i) : hgWC X 206 [.ref 0, .int x, .ref 325] M = some (.inl (.int (nI 1)), M) := by
  have hw := h.1
  have k := hgk_89b (X := X) h hx
  simp (maxDischargeDepth := 7) only [hgc206, hgM_t, hgM_f, hgM_n, hgx_aload_n_2, hgx_iconst_0, hgx_aload_n_0, hgx_iload_n_1, hgx_invvirtual_2, hgx_aft_h, hgx_aft_e, hgx_aft_i, hgx_aft_l, hgx_aft_v, hgx_i2l, hgx_goto, hgx_iconst_1, hgx_ret1, hgv206_0, hgr206_0, hgu206_0, hgv206_13, hgr206_13, hgu206_13, hgv206_15, hgr206_15, hgu206_15, hgI_SI, hgI_SJ, hgJ_SI, hgJ_SJ, if_true, if_false, reduceIte, Nat.reduceEqDiff, hgWf_SI, hgWf_SJ, hgO_SI, hgO_SJ, hgAr_SI, hgAr_SJ, hgRp_SI, hgRp_SJ, hgN_SI, hgN_SJ, hgO_g, hgO_d, hgO_rl, hgO_r, hgO_0, hgO_1, hgO_64, hgO_298, hgO_300, hgCd_0, hgCd_1, hgCd_2, hgCd_3, hgCd_4, hgCd_5, hgRecv_O, hgRecv_99, List.length_cons, List.length_nil, Nat.zero_add, Nat.add_zero, Nat.le_refl, Nat.zero_le, and_self, or_true, true_or, true_and, and_true, ne_eq, not_false_eq_true, Nat.reduceLT, Nat.reduceLeDiff, Nat.reduceAdd, Nat.reduceEqDiff, hgn_eq, hgn_lt, hgn_le, if_true, if_false, reduceIte, Nat.not_lt_zero, hgs_aa_d, hgs_aa_r, hgs_aa_h, hgs_aa_m, hgs_aa_t, hgs_ld_wp, hgs_st_wp, hgs_ld_qf, hgs_st_qf, hgs_ld_qt, hgs_st_qt, hgs_ld_2, hgs_st_2, hgs_ld_3, hgs_st_3, hgs_ld_4, hgs_st_4, hgs_ld_301, hgs_st_301, hgs_ld_D, hgs_st_D, hgs_ld_s, hgs_ld_T, hgs_st_T, hgs_ld_o, hgs_st_o, hgs_ld_b, hgs_st_b, hgs_ld_z, hgs_st_z, hgs_al_b, hgx_alen_s, hw, k, hgHd]
theorem hgk_171a (h : hgSM M V Hs c) (hi : i < vN V) : hgWC X 171 [.ref 300, .int (nI i)] M = some (.inl (.int (vD V i 4)), hgSI M 300 0 (nI 0)) := by
  have h2 : hgSM (hgSI M 300 0 (nI 0)) V Hs c := hgSM_0 h
  have hw := h.1
  have hm := hgSm_ok h2.2.2.2.1
  have hN := hm.1
  have k := hgk_165a (X := X) h2 hgI_at ⟨i, hi, rfl⟩
  have hd := h2.2.1.2.2.2.2.2.2.2.1 i hi
  have i10 : i < 10 := by omega
  have b9 : 27 + 10 * i + 9 < 20187 := by omega
  have b8 : 27 + 10 * i + 8 < 20187 := by omega
  have b7 : 27 + 10 * i + 7 < 20187 := by omega
  have b4 : 27 + 10 * i + 4 < 20187 := by omega
  have b1 : 27 + 10 * i + 1 < 20187 := by omega
  have e := hd.1 4 (by omega)
  simp (maxDischargeDepth := 7) only [hgc171, hgM_t, hgM_f, hgM_n, hgx_aload_n_0, hgx_iconst_0, hgx_put0, hgx_iload_n_1, hgx_invvirtual_2, hgx_aft_e, hgx_aft_i, hgx_aft_l, hgx_aft_v, hgx_if_eq, hgx_goto, hgs_get_8_8, hgx_invstatic_1, hgx_iconst_4, hgx_iadd, hgx_ret1, hgv171_0, hgr171_0, hgu171_0, hgv171_17, hgr171_17, hgu171_17, hgv171_28, hgr171_28, hgu171_28, hgs_aa_d, hgs_aa_r, hgs_aa_h, hgs_aa_m, hgs_aa_t, hgs_ld_wp, hgs_st_wp, hgs_ld_qf, hgs_st_qf, hgs_ld_qt, hgs_st_qt, hgs_ld_2, hgs_st_2, hgs_ld_3, hgs_st_3, hgs_ld_4, hgs_st_4, hgs_ld_301, hgs_st_301, hgs_ld_D, hgs_st_D, hgs_ld_s, hgs_ld_T, hgs_st_T, hgs_ld_o, hgs_st_o, hgs_ld_b, hgs_st_b, hgs_ld_z, hgs_st_z, hgs_al_b, hgx_alen_s, hgWf_SI, hgWf_SJ, hgO_SI, hgO_SJ, hgAr_SI, hgAr_SJ, hgRp_SI, hgRp_SJ, hgN_SI, hgN_SJ, hgO_g, hgO_d, hgO_rl, hgO_r, hgO_0, hgO_1, hgO_64, hgO_298, hgO_300, hgCd_0, hgCd_1, hgCd_2, hgCd_3, hgCd_4, hgCd_5, hgRecv_O, hgRecv_99, List.length_cons, List.length_nil, Nat.zero_add, Nat.add_zero, Nat.le_refl, Nat.zero_le, and_self, or_true, true_or, true_and, and_true, ne_eq, not_false_eq_true, Nat.reduceLT, Nat.reduceLeDiff, Nat.reduceAdd, Nat.reduceEqDiff, hgn_eq, hgn_lt, hgn_le, if_true, if_false, reduceIte, Nat.not_lt_zero, hgn_add, hgn_mul, if_true, hw, hgAr_302 hw, hgAr_314 hw, k, hgk_128, i10, b9, b8, b7, b4, b1, e]
theorem hgk_171b (h : hgSM M V Hs c) (hx : ¬ ∃ i, i < vN V ∧ x = nI i) : hgWC X 171 [.ref 300, .int x] M = some (.inl (.int (nI 0)), hgSI (hgSI M 300 0 (nI 0)) 300 0 (nI 1)) := by
  have h2 : hgSM (hgSI M 300 0 (nI 0)) V Hs c := hgSM_0 h
  have hw := h.1
  have k := hgk_165b (X := X) h2 hgI_at hx
  simp (maxDischargeDepth := 7) only [hgc171, hgM_t, hgM_f, hgM_n, hgx_aload_n_0, hgx_iconst_0, hgx_put0, hgx_iload_n_1, hgx_invvirtual_2, hgx_aft_e, hgx_aft_i, hgx_aft_l, hgx_aft_v, hgx_if_eq, hgx_goto, hgs_get_8_8, hgx_invstatic_1, hgx_iconst_4, hgx_iadd, hgx_ret1, hgv171_0, hgr171_0, hgu171_0, hgv171_17, hgr171_17, hgu171_17, hgv171_28, hgr171_28, hgu171_28, hgWf_SI, hgWf_SJ, hgO_SI, hgO_SJ, hgAr_SI, hgAr_SJ, hgRp_SI, hgRp_SJ, hgN_SI, hgN_SJ, hgO_g, hgO_d, hgO_rl, hgO_r, hgO_0, hgO_1, hgO_64, hgO_298, hgO_300, hgCd_0, hgCd_1, hgCd_2, hgCd_3, hgCd_4, hgCd_5, hgRecv_O, hgRecv_99, List.length_cons, List.length_nil, Nat.zero_add, Nat.add_zero, Nat.le_refl, Nat.zero_le, and_self, or_true, true_or, true_and, and_true, ne_eq, not_false_eq_true, Nat.reduceLT, Nat.reduceLeDiff, Nat.reduceAdd, Nat.reduceEqDiff, hgn_eq, hgn_lt, hgn_le, if_true, if_false, reduceIte, Nat.not_lt_zero, hw, k]
theorem hgOp_206 (h : hgInv M N) : hgBi X 206 [.ref 0, .int x, .ref 325] 171 [.ref 300, .int x] M N := by
  obtain ⟨V, Hs, c, hc, hC, hR, hH, hb⟩ := h
  by_cases hx : ∃ i, i < vN V ∧ x = nI i
  · obtain ⟨i, hi, rfl⟩ := hx
    have hR2 : hgSM (hgSJ M 325 0 ((vD V i 4).toInt64)) V Hs c := hgSM_C hgFC_o hC.1 hR
    refine ⟨_, _, _, _, hgk_206a hC hi, hgk_171a hR2 hi, hC.1, hgI_at, fun _ => ?_, hgInv_2 hb (hgSC_o hC) hgFC_o (hgSM_0 hR2) hgFR_0 hH (by omega)⟩
    exact hgJ_at
  · refine ⟨_, _, _, _, hgk_206b hC hx, hgk_171b hR hx, hC.1, hgI_at, fun q => absurd q (by decide), hgInv_2 hb hC hgFC_r (hgSM_1 hR) hgFR_1 hH (by omega)⟩
theorem hgk_90a (h : hgSC M V Hs c) (hi : i < vN V) : hgWC X 90 [.ref 0, .int (nI i)] M = some (.inl (.int (vD V i 1)), M) := by
  obtain ⟨hw, g6, hn, hN, _, _⟩ := hgSC_6 h
  have k := hgk_117a (X := X) h hi
  have hd := h.2.2.1.2.2.2.2.2.2.2.2.2.2.2.1 i hi
  have i10 : i < 10 := by omega
  have e : hgI M (6 + 2 + i) 1 = vD V i 1 := hd.1 1 (by omega)
  have od := hgO_d hw g6 i10
  rw [show 6 + 2 + i = 8 + i from rfl] at e od
  simp (maxDischargeDepth := 7) only [hgc90, hgM_t, hgM_f, hgM_n, hgx_aload_n_0, hgx_iload_n_1, hgx_invvirtual_2, hgx_aft_e, hgx_aft_i, hgx_aft_l, hgx_aft_v, hgs_get_7_3, hgs_get_1_5, hgx_get0, hgx_ret1, hgv90_0, hgr90_0, hgu90_0, hgI_SI, hgI_SJ, hgJ_SI, hgJ_SJ, if_true, if_false, reduceIte, Nat.reduceEqDiff, hgWf_SI, hgWf_SJ, hgO_SI, hgO_SJ, hgAr_SI, hgAr_SJ, hgRp_SI, hgRp_SJ, hgN_SI, hgN_SJ, hgO_g, hgO_d, hgO_rl, hgO_r, hgO_0, hgO_1, hgO_64, hgO_298, hgO_300, hgCd_0, hgCd_1, hgCd_2, hgCd_3, hgCd_4, hgCd_5, hgRecv_O, hgRecv_99, List.length_cons, List.length_nil, Nat.zero_add, Nat.add_zero, Nat.le_refl, Nat.zero_le, and_self, or_true, true_or, true_and, and_true, ne_eq, not_false_eq_true, Nat.reduceLT, Nat.reduceLeDiff, Nat.reduceAdd, Nat.reduceEqDiff, hgn_eq, hgn_lt, hgn_le, if_true, if_false, reduceIte, Nat.not_lt_zero, hgs_aa_d, hgs_aa_r, hgs_aa_h, hgs_aa_m, hgs_aa_t, hgs_ld_wp, hgs_st_wp, hgs_ld_qf, hgs_st_qf, hgs_ld_qt, hgs_st_qt, hgs_ld_2, hgs_st_2, hgs_ld_3, hgs_st_3, hgs_ld_4, hgs_st_4, hgs_ld_301, hgs_st_301, hgs_ld_D, hgs_st_D, hgs_ld_s, hgs_ld_T, hgs_st_T, hgs_ld_o, hgs_st_o, hgs_ld_b, hgs_st_b, hgs_ld_z, hgs_st_z, hgs_al_b, hgx_alen_s, hw, g6, k, i10, e, od]
theorem hgk_90b (h : hgSC M V Hs c) (hx : ¬ ∃ i, i < vN V ∧ x = nI i) : hgWC X 90 [.ref 0, .int x] M = some (.inr 2, M) := by
  have hw := h.1
  have k := hgk_117b (X := X) h hx
  simp (maxDischargeDepth := 7) only [hgc90, hgM_t, hgM_f, hgM_n, hgx_aload_n_0, hgx_iload_n_1, hgx_invvirtual_2, hgx_aft_e, hgx_aft_i, hgx_aft_l, hgx_aft_v, hgs_get_7_3, hgs_get_1_5, hgx_get0, hgx_ret1, hgv90_0, hgr90_0, hgu90_0, hgI_SI, hgI_SJ, hgJ_SI, hgJ_SJ, if_true, if_false, reduceIte, Nat.reduceEqDiff, hgWf_SI, hgWf_SJ, hgO_SI, hgO_SJ, hgAr_SI, hgAr_SJ, hgRp_SI, hgRp_SJ, hgN_SI, hgN_SJ, hgO_g, hgO_d, hgO_rl, hgO_r, hgO_0, hgO_1, hgO_64, hgO_298, hgO_300, hgCd_0, hgCd_1, hgCd_2, hgCd_3, hgCd_4, hgCd_5, hgRecv_O, hgRecv_99, List.length_cons, List.length_nil, Nat.zero_add, Nat.add_zero, Nat.le_refl, Nat.zero_le, and_self, or_true, true_or, true_and, and_true, ne_eq, not_false_eq_true, Nat.reduceLT, Nat.reduceLeDiff, Nat.reduceAdd, Nat.reduceEqDiff, hgn_eq, hgn_lt, hgn_le, if_true, if_false, reduceIte, Nat.not_lt_zero, hw, k]
theorem hgk_207a (h : hgSC M V Hs c) (hi : i < vN V) : hgWC X 207 [.ref 0, .int (nI i), .ref 325] M = some (.inl (.int (nI 0)), hgSJ M 325 0 ((vD V i 1).toInt64)) := by
  have hw := h.1
  have k := hgk_90a (X := X) h hi
  simp (maxDischargeDepth := 7) only [hgc207, hgM_t, hgM_f, hgM_n, hgx_aload_n_2, hgx_iconst_0, hgx_aload_n_0, hgx_iload_n_1, hgx_invvirtual_2, hgx_aft_h, hgx_aft_e, hgx_aft_i, hgx_aft_l, hgx_aft_v, hgx_i2l, hgx_goto, hgx_iconst_1, hgx_ret1, hgv207_0, hgr207_0, hgu207_0, hgv207_13, hgr207_13, hgu207_13, hgv207_15, hgr207_15, hgu207_15, hgI_SI, hgI_SJ, hgJ_SI, hgJ_SJ, if_true, if_false, reduceIte, Nat.reduceEqDiff, hgWf_SI, hgWf_SJ, hgO_SI, hgO_SJ, hgAr_SI, hgAr_SJ, hgRp_SI, hgRp_SJ, hgN_SI, hgN_SJ, hgO_g, hgO_d, hgO_rl, hgO_r, hgO_0, hgO_1, hgO_64, hgO_298, hgO_300, hgCd_0, hgCd_1, hgCd_2, hgCd_3, hgCd_4, hgCd_5, hgRecv_O, hgRecv_99, List.length_cons, List.length_nil, Nat.zero_add, Nat.add_zero, Nat.le_refl, Nat.zero_le, and_self, or_true, true_or, true_and, and_true, ne_eq, not_false_eq_true, Nat.reduceLT, Nat.reduceLeDiff, Nat.reduceAdd, Nat.reduceEqDiff, hgn_eq, hgn_lt, hgn_le, if_true, if_false, reduceIte, Nat.not_lt_zero, hgs_aa_d, hgs_aa_r, hgs_aa_h, hgs_aa_m, hgs_aa_t, hgs_ld_wp, hgs_st_wp, hgs_ld_qf, hgs_st_qf, hgs_ld_qt, hgs_st_qt, hgs_ld_2, hgs_st_2, hgs_ld_3, hgs_st_3, hgs_ld_4, hgs_st_4, hgs_ld_301, hgs_st_301, hgs_ld_D, hgs_st_D, hgs_ld_s, hgs_ld_T, hgs_st_T, hgs_ld_o, hgs_st_o, hgs_ld_b, hgs_st_b, hgs_ld_z, hgs_st_z, hgs_al_b, hgx_alen_s, hw, k]
theorem hgk_207b (h : hgSC M V Hs c) (hx : ¬ ∃ i, i < vN V ∧ x = nI i) : hgWC X 207 [.ref 0, .int x, .ref 325] M = some (.inl (.int (nI 1)), M) := by
  have hw := h.1
  have k := hgk_90b (X := X) h hx
  simp (maxDischargeDepth := 7) only [hgc207, hgM_t, hgM_f, hgM_n, hgx_aload_n_2, hgx_iconst_0, hgx_aload_n_0, hgx_iload_n_1, hgx_invvirtual_2, hgx_aft_h, hgx_aft_e, hgx_aft_i, hgx_aft_l, hgx_aft_v, hgx_i2l, hgx_goto, hgx_iconst_1, hgx_ret1, hgv207_0, hgr207_0, hgu207_0, hgv207_13, hgr207_13, hgu207_13, hgv207_15, hgr207_15, hgu207_15, hgI_SI, hgI_SJ, hgJ_SI, hgJ_SJ, if_true, if_false, reduceIte, Nat.reduceEqDiff, hgWf_SI, hgWf_SJ, hgO_SI, hgO_SJ, hgAr_SI, hgAr_SJ, hgRp_SI, hgRp_SJ, hgN_SI, hgN_SJ, hgO_g, hgO_d, hgO_rl, hgO_r, hgO_0, hgO_1, hgO_64, hgO_298, hgO_300, hgCd_0, hgCd_1, hgCd_2, hgCd_3, hgCd_4, hgCd_5, hgRecv_O, hgRecv_99, List.length_cons, List.length_nil, Nat.zero_add, Nat.add_zero, Nat.le_refl, Nat.zero_le, and_self, or_true, true_or, true_and, and_true, ne_eq, not_false_eq_true, Nat.reduceLT, Nat.reduceLeDiff, Nat.reduceAdd, Nat.reduceEqDiff, hgn_eq, hgn_lt, hgn_le, if_true, if_false, reduceIte, Nat.not_lt_zero, hgs_aa_d, hgs_aa_r, hgs_aa_h, hgs_aa_m, hgs_aa_t, hgs_ld_wp, hgs_st_wp, hgs_ld_qf, hgs_st_qf, hgs_ld_qt, hgs_st_qt, hgs_ld_2, hgs_st_2, hgs_ld_3, hgs_st_3, hgs_ld_4, hgs_st_4, hgs_ld_301, hgs_st_301, hgs_ld_D, hgs_st_D, hgs_ld_s, hgs_ld_T, hgs_st_T, hgs_ld_o, hgs_st_o, hgs_ld_b, hgs_st_b, hgs_ld_z, hgs_st_z, hgs_al_b, hgx_alen_s, hw, k, hgHd]
theorem hgk_172a (h : hgSM M V Hs c) (hi : i < vN V) : hgWC X 172 [.ref 300, .int (nI i)] M = some (.inl (.int (vD V i 1)), hgSI M 300 0 (nI 0)) := by
  have h2 : hgSM (hgSI M 300 0 (nI 0)) V Hs c := hgSM_0 h
  have hw := h.1
  have hm := hgSm_ok h2.2.2.2.1
  have hN := hm.1
  have k := hgk_165a (X := X) h2 hgI_at ⟨i, hi, rfl⟩
  have hd := h2.2.1.2.2.2.2.2.2.2.1 i hi
  have i10 : i < 10 := by omega
  have b9 : 27 + 10 * i + 9 < 20187 := by omega
  have b8 : 27 + 10 * i + 8 < 20187 := by omega
  have b7 : 27 + 10 * i + 7 < 20187 := by omega
  have b4 : 27 + 10 * i + 4 < 20187 := by omega
  have b1 : 27 + 10 * i + 1 < 20187 := by omega
  have e := hd.1 1 (by omega)
  simp (maxDischargeDepth := 7) only [hgc172, hgM_t, hgM_f, hgM_n, hgx_aload_n_0, hgx_iconst_0, hgx_put0, hgx_iload_n_1, hgx_invvirtual_2, hgx_aft_e, hgx_aft_i, hgx_aft_l, hgx_aft_v, hgx_if_eq, hgx_goto, hgs_get_8_8, hgx_invstatic_1, hgx_iconst_1, hgx_iadd, hgx_ret1, hgv172_0, hgr172_0, hgu172_0, hgv172_17, hgr172_17, hgu172_17, hgv172_28, hgr172_28, hgu172_28, hgs_aa_d, hgs_aa_r, hgs_aa_h, hgs_aa_m, hgs_aa_t, hgs_ld_wp, hgs_st_wp, hgs_ld_qf, hgs_st_qf, hgs_ld_qt, hgs_st_qt, hgs_ld_2, hgs_st_2, hgs_ld_3, hgs_st_3, hgs_ld_4, hgs_st_4, hgs_ld_301, hgs_st_301, hgs_ld_D, hgs_st_D, hgs_ld_s, hgs_ld_T, hgs_st_T, hgs_ld_o, hgs_st_o, hgs_ld_b, hgs_st_b, hgs_ld_z, hgs_st_z, hgs_al_b, hgx_alen_s, hgWf_SI, hgWf_SJ, hgO_SI, hgO_SJ, hgAr_SI, hgAr_SJ, hgRp_SI, hgRp_SJ, hgN_SI, hgN_SJ, hgO_g, hgO_d, hgO_rl, hgO_r, hgO_0, hgO_1, hgO_64, hgO_298, hgO_300, hgCd_0, hgCd_1, hgCd_2, hgCd_3, hgCd_4, hgCd_5, hgRecv_O, hgRecv_99, List.length_cons, List.length_nil, Nat.zero_add, Nat.add_zero, Nat.le_refl, Nat.zero_le, and_self, or_true, true_or, true_and, and_true, ne_eq, not_false_eq_true, Nat.reduceLT, Nat.reduceLeDiff, Nat.reduceAdd, Nat.reduceEqDiff, hgn_eq, hgn_lt, hgn_le, if_true, if_false, reduceIte, Nat.not_lt_zero, hgn_add, hgn_mul, if_true, hw, hgAr_302 hw, hgAr_314 hw, k, hgk_128, i10, b9, b8, b7, b4, b1, e]
theorem hgk_172b (h : hgSM M V Hs c) (hx : ¬ ∃ i, i < vN V ∧ x = nI i) : hgWC X 172 [.ref 300, .int x] M = some (.inl (.int (nI 0)), hgSI (hgSI M 300 0 (nI 0)) 300 0 (nI 1)) := by
  have h2 : hgSM (hgSI M 300 0 (nI 0)) V Hs c := hgSM_0 h
  have hw := h.1
  have k := hgk_165b (X := X) h2 hgI_at hx
  simp (maxDischargeDepth := 7) only [hgc172, hgM_t, hgM_f, hgM_n, hgx_aload_n_0, hgx_iconst_0, hgx_put0, hgx_iload_n_1, hgx_invvirtual_2, hgx_aft_e, hgx_aft_i, hgx_aft_l, hgx_aft_v, hgx_if_eq, hgx_goto, hgs_get_8_8, hgx_invstatic_1, hgx_iconst_1, hgx_iadd, hgx_ret1, hgv172_0, hgr172_0, hgu172_0, hgv172_17, hgr172_17, hgu172_17, hgv172_28, hgr172_28, hgu172_28, hgWf_SI, hgWf_SJ, hgO_SI, hgO_SJ, hgAr_SI, hgAr_SJ, hgRp_SI, hgRp_SJ, hgN_SI, hgN_SJ, hgO_g, hgO_d, hgO_rl, hgO_r, hgO_0, hgO_1, hgO_64, hgO_298, hgO_300, hgCd_0, hgCd_1, hgCd_2, hgCd_3, hgCd_4, hgCd_5, hgRecv_O, hgRecv_99, List.length_cons, List.length_nil, Nat.zero_add, Nat.add_zero, Nat.le_refl, Nat.zero_le, and_self, or_true, true_or, true_and, and_true, ne_eq, not_false_eq_true, Nat.reduceLT, Nat.reduceLeDiff, Nat.reduceAdd, Nat.reduceEqDiff, hgn_eq, hgn_lt, hgn_le, if_true, if_false, reduceIte, Nat.not_lt_zero, hw, k]
theorem hgOp_207 (h : hgInv M N) : hgBi X 207 [.ref 0, .int x, .ref 325] 172 [.ref 300, .int x] M N := by
  obtain ⟨V, Hs, c, hc, hC, hR, hH, hb⟩ := h
  by_cases hx : ∃ i, i < vN V ∧ x = nI i
  · obtain ⟨i, hi, rfl⟩ := hx
    have hR2 : hgSM (hgSJ M 325 0 ((vD V i 1).toInt64)) V Hs c := hgSM_C hgFC_o hC.1 hR
    refine ⟨_, _, _, _, hgk_207a hC hi, hgk_172a hR2 hi, hC.1, hgI_at, fun _ => ?_, hgInv_2 hb (hgSC_o hC) hgFC_o (hgSM_0 hR2) hgFR_0 hH (by omega)⟩
    exact hgJ_at
  · refine ⟨_, _, _, _, hgk_207b hC hx, hgk_172b hR hx, hC.1, hgI_at, fun q => absurd q (by decide), hgInv_2 hb hC hgFC_r (hgSM_1 hR) hgFR_1 hH (by omega)⟩
theorem hgk_91a (h : hgSC M V Hs c) (hi : i < vN V) : hgWC X 91 [.ref 0, .int (nI i)] M = some (.inl (.int (nI (vQ V i).length)), M) := by
  obtain ⟨hw, g6, hn, hN, _, _⟩ := hgSC_6 h
  have k := hgk_117a (X := X) h hi
  have hd := h.2.2.1.2.2.2.2.2.2.2.2.2.2.2.1 i hi
  have i10 : i < 10 := by omega
  have e : hgI M (6 + 2 + i) 12 = nI (vQ V i).length := hd.2.2.1
  have od := hgO_d hw g6 i10
  rw [show 6 + 2 + i = 8 + i from rfl] at e od
  simp (maxDischargeDepth := 7) only [hgc91, hgM_t, hgM_f, hgM_n, hgx_aload_n_0, hgx_iload_n_1, hgx_invvirtual_2, hgx_aft_e, hgx_aft_i, hgx_aft_l, hgx_aft_v, hgs_get_7_3, hgs_get_1_5, hgx_get0, hgx_ret1, hgv91_0, hgr91_0, hgu91_0, hgI_SI, hgI_SJ, hgJ_SI, hgJ_SJ, if_true, if_false, reduceIte, Nat.reduceEqDiff, hgWf_SI, hgWf_SJ, hgO_SI, hgO_SJ, hgAr_SI, hgAr_SJ, hgRp_SI, hgRp_SJ, hgN_SI, hgN_SJ, hgO_g, hgO_d, hgO_rl, hgO_r, hgO_0, hgO_1, hgO_64, hgO_298, hgO_300, hgCd_0, hgCd_1, hgCd_2, hgCd_3, hgCd_4, hgCd_5, hgRecv_O, hgRecv_99, List.length_cons, List.length_nil, Nat.zero_add, Nat.add_zero, Nat.le_refl, Nat.zero_le, and_self, or_true, true_or, true_and, and_true, ne_eq, not_false_eq_true, Nat.reduceLT, Nat.reduceLeDiff, Nat.reduceAdd, Nat.reduceEqDiff, hgn_eq, hgn_lt, hgn_le, if_true, if_false, reduceIte, Nat.not_lt_zero, hgs_aa_d, hgs_aa_r, hgs_aa_h, hgs_aa_m, hgs_aa_t, hgs_ld_wp, hgs_st_wp, hgs_ld_qf, hgs_st_qf, hgs_ld_qt, hgs_st_qt, hgs_ld_2, hgs_st_2, hgs_ld_3, hgs_st_3, hgs_ld_4, hgs_st_4, hgs_ld_301, hgs_st_301, hgs_ld_D, hgs_st_D, hgs_ld_s, hgs_ld_T, hgs_st_T, hgs_ld_o, hgs_st_o, hgs_ld_b, hgs_st_b, hgs_ld_z, hgs_st_z, hgs_al_b, hgx_alen_s, hw, g6, k, i10, e, od]
theorem hgk_91b (h : hgSC M V Hs c) (hx : ¬ ∃ i, i < vN V ∧ x = nI i) : hgWC X 91 [.ref 0, .int x] M = some (.inr 2, M) := by
  have hw := h.1
  have k := hgk_117b (X := X) h hx
  simp (maxDischargeDepth := 7) only [hgc91, hgM_t, hgM_f, hgM_n, hgx_aload_n_0, hgx_iload_n_1, hgx_invvirtual_2, hgx_aft_e, hgx_aft_i, hgx_aft_l, hgx_aft_v, hgs_get_7_3, hgs_get_1_5, hgx_get0, hgx_ret1, hgv91_0, hgr91_0, hgu91_0, hgI_SI, hgI_SJ, hgJ_SI, hgJ_SJ, if_true, if_false, reduceIte, Nat.reduceEqDiff, hgWf_SI, hgWf_SJ, hgO_SI, hgO_SJ, hgAr_SI, hgAr_SJ, hgRp_SI, hgRp_SJ, hgN_SI, hgN_SJ, hgO_g, hgO_d, hgO_rl, hgO_r, hgO_0, hgO_1, hgO_64, hgO_298, hgO_300, hgCd_0, hgCd_1, hgCd_2, hgCd_3, hgCd_4, hgCd_5, hgRecv_O, hgRecv_99, List.length_cons, List.length_nil, Nat.zero_add, Nat.add_zero, Nat.le_refl, Nat.zero_le, and_self, or_true, true_or, true_and, and_true, ne_eq, not_false_eq_true, Nat.reduceLT, Nat.reduceLeDiff, Nat.reduceAdd, Nat.reduceEqDiff, hgn_eq, hgn_lt, hgn_le, if_true, if_false, reduceIte, Nat.not_lt_zero, hw, k]
theorem hgk_208a (h : hgSC M V Hs c) (hi : i < vN V) : hgWC X 208 [.ref 0, .int (nI i), .ref 325] M = some (.inl (.int (nI 0)), hgSJ M 325 0 ((nI (vQ V i).length).toInt64)) := by
  have hw := h.1
  have k := hgk_91a (X := X) h hi
  simp (maxDischargeDepth := 7) only [hgc208, hgM_t, hgM_f, hgM_n, hgx_aload_n_2, hgx_iconst_0, hgx_aload_n_0, hgx_iload_n_1, hgx_invvirtual_2, hgx_aft_h, hgx_aft_e, hgx_aft_i, hgx_aft_l, hgx_aft_v, hgx_i2l, hgx_goto, hgx_iconst_1, hgx_ret1, hgv208_0, hgr208_0, hgu208_0, hgv208_13, hgr208_13, hgu208_13, hgv208_15, hgr208_15, hgu208_15, hgI_SI, hgI_SJ, hgJ_SI, hgJ_SJ, if_true, if_false, reduceIte, Nat.reduceEqDiff, hgWf_SI, hgWf_SJ, hgO_SI, hgO_SJ, hgAr_SI, hgAr_SJ, hgRp_SI, hgRp_SJ, hgN_SI, hgN_SJ, hgO_g, hgO_d, hgO_rl, hgO_r, hgO_0, hgO_1, hgO_64, hgO_298, hgO_300, hgCd_0, hgCd_1, hgCd_2, hgCd_3, hgCd_4, hgCd_5, hgRecv_O, hgRecv_99, List.length_cons, List.length_nil, Nat.zero_add, Nat.add_zero, Nat.le_refl, Nat.zero_le, and_self, or_true, true_or, true_and, and_true, ne_eq, not_false_eq_true, Nat.reduceLT, Nat.reduceLeDiff, Nat.reduceAdd, Nat.reduceEqDiff, hgn_eq, hgn_lt, hgn_le, if_true, if_false, reduceIte, Nat.not_lt_zero, hgs_aa_d, hgs_aa_r, hgs_aa_h, hgs_aa_m, hgs_aa_t, hgs_ld_wp, hgs_st_wp, hgs_ld_qf, hgs_st_qf, hgs_ld_qt, hgs_st_qt, hgs_ld_2, hgs_st_2, hgs_ld_3, hgs_st_3, hgs_ld_4, hgs_st_4, hgs_ld_301, hgs_st_301, hgs_ld_D, hgs_st_D, hgs_ld_s, hgs_ld_T, hgs_st_T, hgs_ld_o, hgs_st_o, hgs_ld_b, hgs_st_b, hgs_ld_z, hgs_st_z, hgs_al_b, hgx_alen_s, hw, k]
theorem hgk_208b (h : hgSC M V Hs c) (hx : ¬ ∃ i, i < vN V ∧ x = nI i) : hgWC X 208 [.ref 0, .int x, .ref 325] M = some (.inl (.int (nI 1)), M) := by
  have hw := h.1
  have k := hgk_91b (X := X) h hx
  simp (maxDischargeDepth := 7) only [hgc208, hgM_t, hgM_f, hgM_n, hgx_aload_n_2, hgx_iconst_0, hgx_aload_n_0, hgx_iload_n_1, hgx_invvirtual_2, hgx_aft_h, hgx_aft_e, hgx_aft_i, hgx_aft_l, hgx_aft_v, hgx_i2l, hgx_goto, hgx_iconst_1, hgx_ret1, hgv208_0, hgr208_0, hgu208_0, hgv208_13, hgr208_13, hgu208_13, hgv208_15, hgr208_15, hgu208_15, hgI_SI, hgI_SJ, hgJ_SI, hgJ_SJ, if_true, if_false, reduceIte, Nat.reduceEqDiff, hgWf_SI, hgWf_SJ, hgO_SI, hgO_SJ, hgAr_SI, hgAr_SJ, hgRp_SI, hgRp_SJ, hgN_SI, hgN_SJ, hgO_g, hgO_d, hgO_rl, hgO_r, hgO_0, hgO_1, hgO_64, hgO_298, hgO_300, hgCd_0, hgCd_1, hgCd_2, hgCd_3, hgCd_4, hgCd_5, hgRecv_O, hgRecv_99, List.length_cons, List.length_nil, Nat.zero_add, Nat.add_zero, Nat.le_refl, Nat.zero_le, and_self, or_true, true_or, true_and, and_true, ne_eq, not_false_eq_true, Nat.reduceLT, Nat.reduceLeDiff, Nat.reduceAdd, Nat.reduceEqDiff, hgn_eq, hgn_lt, hgn_le, if_true, if_false, reduceIte, Nat.not_lt_zero, hgs_aa_d, hgs_aa_r, hgs_aa_h, hgs_aa_m, hgs_aa_t, hgs_ld_wp, hgs_st_wp, hgs_ld_qf, hgs_st_qf, hgs_ld_qt, hgs_st_qt, hgs_ld_2, hgs_st_2, hgs_ld_3, hgs_st_3, hgs_ld_4, hgs_st_4, hgs_ld_301, hgs_st_301, hgs_ld_D, hgs_st_D, hgs_ld_s, hgs_ld_T, hgs_st_T, hgs_ld_o, hgs_st_o, hgs_ld_b, hgs_st_b, hgs_ld_z, hgs_st_z, hgs_al_b, hgx_alen_s, hw, k, hgHd]
theorem hgk_173a (h : hgSM M V Hs c) (hi : i < vN V) : hgWC X 173 [.ref 300, .int (nI i)] M = some (.inl (.int (nI (vQ V i).length)), hgSI M 300 0 (nI 0)) := by
  have h2 : hgSM (hgSI M 300 0 (nI 0)) V Hs c := hgSM_0 h
  have hw := h.1
  have hm := hgSm_ok h2.2.2.2.1
  have hN := hm.1
  have k := hgk_165a (X := X) h2 hgI_at ⟨i, hi, rfl⟩
  have hd := h2.2.1.2.2.2.2.2.2.2.1 i hi
  have i10 : i < 10 := by omega
  have b9 : 27 + 10 * i + 9 < 20187 := by omega
  have b8 : 27 + 10 * i + 8 < 20187 := by omega
  have b7 : 27 + 10 * i + 7 < 20187 := by omega
  have b4 : 27 + 10 * i + 4 < 20187 := by omega
  have b1 : 27 + 10 * i + 1 < 20187 := by omega
  have e := hd.2.1
  simp (maxDischargeDepth := 7) only [hgc173, hgM_t, hgM_f, hgM_n, hgx_aload_n_0, hgx_iconst_0, hgx_put0, hgx_iload_n_1, hgx_invvirtual_2, hgx_aft_e, hgx_aft_i, hgx_aft_l, hgx_aft_v, hgx_if_eq, hgx_goto, hgs_get_8_8, hgx_invstatic_1, hgx_bipush_9, hgx_iadd, hgx_ret1, hgv173_0, hgr173_0, hgu173_0, hgv173_17, hgr173_17, hgu173_17, hgv173_29, hgr173_29, hgu173_29, hgs_aa_d, hgs_aa_r, hgs_aa_h, hgs_aa_m, hgs_aa_t, hgs_ld_wp, hgs_st_wp, hgs_ld_qf, hgs_st_qf, hgs_ld_qt, hgs_st_qt, hgs_ld_2, hgs_st_2, hgs_ld_3, hgs_st_3, hgs_ld_4, hgs_st_4, hgs_ld_301, hgs_st_301, hgs_ld_D, hgs_st_D, hgs_ld_s, hgs_ld_T, hgs_st_T, hgs_ld_o, hgs_st_o, hgs_ld_b, hgs_st_b, hgs_ld_z, hgs_st_z, hgs_al_b, hgx_alen_s, hgWf_SI, hgWf_SJ, hgO_SI, hgO_SJ, hgAr_SI, hgAr_SJ, hgRp_SI, hgRp_SJ, hgN_SI, hgN_SJ, hgO_g, hgO_d, hgO_rl, hgO_r, hgO_0, hgO_1, hgO_64, hgO_298, hgO_300, hgCd_0, hgCd_1, hgCd_2, hgCd_3, hgCd_4, hgCd_5, hgRecv_O, hgRecv_99, List.length_cons, List.length_nil, Nat.zero_add, Nat.add_zero, Nat.le_refl, Nat.zero_le, and_self, or_true, true_or, true_and, and_true, ne_eq, not_false_eq_true, Nat.reduceLT, Nat.reduceLeDiff, Nat.reduceAdd, Nat.reduceEqDiff, hgn_eq, hgn_lt, hgn_le, if_true, if_false, reduceIte, Nat.not_lt_zero, hgn_add, hgn_mul, if_true, hw, hgAr_302 hw, hgAr_314 hw, k, hgk_128, i10, b9, b8, b7, b4, b1, e]
theorem hgk_173b (h : hgSM M V Hs c) (hx : ¬ ∃ i, i < vN V ∧ x = nI i) : hgWC X 173 [.ref 300, .int x] M = some (.inl (.int (nI 0)), hgSI (hgSI M 300 0 (nI 0)) 300 0 (nI 1)) := by
  have h2 : hgSM (hgSI M 300 0 (nI 0)) V Hs c := hgSM_0 h
  have hw := h.1
  have k := hgk_165b (X := X) h2 hgI_at hx
  simp (maxDischargeDepth := 7) only [hgc173, hgM_t, hgM_f, hgM_n, hgx_aload_n_0, hgx_iconst_0, hgx_put0, hgx_iload_n_1, hgx_invvirtual_2, hgx_aft_e, hgx_aft_i, hgx_aft_l, hgx_aft_v, hgx_if_eq, hgx_goto, hgs_get_8_8, hgx_invstatic_1, hgx_bipush_9, hgx_iadd, hgx_ret1, hgv173_0, hgr173_0, hgu173_0, hgv173_17, hgr173_17, hgu173_17, hgv173_29, hgr173_29, hgu173_29, hgWf_SI, hgWf_SJ, hgO_SI, hgO_SJ, hgAr_SI, hgAr_SJ, hgRp_SI, hgRp_SJ, hgN_SI, hgN_SJ, hgO_g, hgO_d, hgO_rl, hgO_r, hgO_0, hgO_1, hgO_64, hgO_298, hgO_300, hgCd_0, hgCd_1, hgCd_2, hgCd_3, hgCd_4, hgCd_5, hgRecv_O, hgRecv_99, List.length_cons, List.length_nil, Nat.zero_add, Nat.add_zero, Nat.le_refl, Nat.zero_le, and_self, or_true, true_or, true_and, and_true, ne_eq, not_false_eq_true, Nat.reduceLT, Nat.reduceLeDiff, Nat.reduceAdd, Nat.reduceEqDiff, hgn_eq, hgn_lt, hgn_le, if_true, if_false, reduceIte, Nat.not_lt_zero, hw, k]
theorem hgOp_208 (h : hgInv M N) : hgBi X 208 [.ref 0, .int x, .ref 325] 173 [.ref 300, .int x] M N := by
  obtain ⟨V, Hs, c, hc, hC, hR, hH, hb⟩ := h
  by_cases hx : ∃ i, i < vN V ∧ x = nI i
  · obtain ⟨i, hi, rfl⟩ := hx
    have hR2 : hgSM (hgSJ M 325 0 ((nI (vQ V i).length).toInt64)) V Hs c := hgSM_C hgFC_o hC.1 hR
    refine ⟨_, _, _, _, hgk_208a hC hi, hgk_173a hR2 hi, hC.1, hgI_at, fun _ => ?_, hgInv_2 hb (hgSC_o hC) hgFC_o (hgSM_0 hR2) hgFR_0 hH (by omega)⟩
    exact hgJ_at
  · refine ⟨_, _, _, _, hgk_208b hC hx, hgk_173b hR hx, hC.1, hgI_at, fun q => absurd q (by decide), hgInv_2 hb hC hgFC_r (hgSM_1 hR) hgFR_1 hH (by omega)⟩
theorem hgk_92a (h : hgSC M V Hs c) (hi : i < vN V) : hgWC X 92 [.ref 0, .int (nI i)] M = some (.inl (.int (hgBk (vQ V i))), M) := by
  obtain ⟨hw, g6, hn, hN, _, _⟩ := hgSC_6 h
  have k := hgk_117a (X := X) h hi
  have hd := h.2.2.1.2.2.2.2.2.2.2.2.2.2.2.1 i hi
  have i10 : i < 10 := by omega
  have e : hgI M (6 + 2 + i) 13 = hgBk (vQ V i) := hd.2.2.2.1
  have od := hgO_d hw g6 i10
  rw [show 6 + 2 + i = 8 + i from rfl] at e od
  simp (maxDischargeDepth := 7) only [hgc92, hgM_t, hgM_f, hgM_n, hgx_aload_n_0, hgx_iload_n_1, hgx_invvirtual_2, hgx_aft_e, hgx_aft_i, hgx_aft_l, hgx_aft_v, hgs_get_7_3, hgs_get_1_5, hgx_get0, hgx_ret1, hgv92_0, hgr92_0, hgu92_0, hgI_SI, hgI_SJ, hgJ_SI, hgJ_SJ, if_true, if_false, reduceIte, Nat.reduceEqDiff, hgWf_SI, hgWf_SJ, hgO_SI, hgO_SJ, hgAr_SI, hgAr_SJ, hgRp_SI, hgRp_SJ, hgN_SI, hgN_SJ, hgO_g, hgO_d, hgO_rl, hgO_r, hgO_0, hgO_1, hgO_64, hgO_298, hgO_300, hgCd_0, hgCd_1, hgCd_2, hgCd_3, hgCd_4, hgCd_5, hgRecv_O, hgRecv_99, List.length_cons, List.length_nil, Nat.zero_add, Nat.add_zero, Nat.le_refl, Nat.zero_le, and_self, or_true, true_or, true_and, and_true, ne_eq, not_false_eq_true, Nat.reduceLT, Nat.reduceLeDiff, Nat.reduceAdd, Nat.reduceEqDiff, hgn_eq, hgn_lt, hgn_le, if_true, if_false, reduceIte, Nat.not_lt_zero, hgs_aa_d, hgs_aa_r, hgs_aa_h, hgs_aa_m, hgs_aa_t, hgs_ld_wp, hgs_st_wp, hgs_ld_qf, hgs_st_qf, hgs_ld_qt, hgs_st_qt, hgs_ld_2, hgs_st_2, hgs_ld_3, hgs_st_3, hgs_ld_4, hgs_st_4, hgs_ld_301, hgs_st_301, hgs_ld_D, hgs_st_D, hgs_ld_s, hgs_ld_T, hgs_st_T, hgs_ld_o, hgs_st_o, hgs_ld_b, hgs_st_b, hgs_ld_z, hgs_st_z, hgs_al_b, hgx_alen_s, hw, g6, k, i10, e, od]
theorem hgk_92b (h : hgSC M V Hs c) (hx : ¬ ∃ i, i < vN V ∧ x = nI i) : hgWC X 92 [.ref 0, .int x] M = some (.inr 2, M) := by
  have hw := h.1
  have k := hgk_117b (X := X) h hx
  simp (maxDischargeDepth := 7) only [hgc92, hgM_t, hgM_f, hgM_n, hgx_aload_n_0, hgx_iload_n_1, hgx_invvirtual_2, hgx_aft_e, hgx_aft_i, hgx_aft_l, hgx_aft_v, hgs_get_7_3, hgs_get_1_5, hgx_get0, hgx_ret1, hgv92_0, hgr92_0, hgu92_0, hgI_SI, hgI_SJ, hgJ_SI, hgJ_SJ, if_true, if_false, reduceIte, Nat.reduceEqDiff, hgWf_SI, hgWf_SJ, hgO_SI, hgO_SJ, hgAr_SI, hgAr_SJ, hgRp_SI, hgRp_SJ, hgN_SI, hgN_SJ, hgO_g, hgO_d, hgO_rl, hgO_r, hgO_0, hgO_1, hgO_64, hgO_298, hgO_300, hgCd_0, hgCd_1, hgCd_2, hgCd_3, hgCd_4, hgCd_5, hgRecv_O, hgRecv_99, List.length_cons, List.length_nil, Nat.zero_add, Nat.add_zero, Nat.le_refl, Nat.zero_le, and_self, or_true, true_or, true_and, and_true, ne_eq, not_false_eq_true, Nat.reduceLT, Nat.reduceLeDiff, Nat.reduceAdd, Nat.reduceEqDiff, hgn_eq, hgn_lt, hgn_le, if_true, if_false, reduceIte, Nat.not_lt_zero, hw, k]
theorem hgk_209a (h : hgSC M V Hs c) (hi : i < vN V) : hgWC X 209 [.ref 0, .int (nI i), .ref 325] M = some (.inl (.int (nI 0)), hgSJ M 325 0 ((hgBk (vQ V i)).toInt64)) := by
  have hw := h.1
  have k := hgk_92a (X := X) h hi
  simp (maxDischargeDepth := 7) only [hgc209, hgM_t, hgM_f, hgM_n, hgx_aload_n_2, hgx_iconst_0, hgx_aload_n_0, hgx_iload_n_1, hgx_invvirtual_2, hgx_aft_h, hgx_aft_e, hgx_aft_i, hgx_aft_l, hgx_aft_v, hgx_i2l, hgx_goto, hgx_iconst_1, hgx_ret1, hgv209_0, hgr209_0, hgu209_0, hgv209_13, hgr209_13, hgu209_13, hgv209_15, hgr209_15, hgu209_15, hgI_SI, hgI_SJ, hgJ_SI, hgJ_SJ, if_true, if_false, reduceIte, Nat.reduceEqDiff, hgWf_SI, hgWf_SJ, hgO_SI, hgO_SJ, hgAr_SI, hgAr_SJ, hgRp_SI, hgRp_SJ, hgN_SI, hgN_SJ, hgO_g, hgO_d, hgO_rl, hgO_r, hgO_0, hgO_1, hgO_64, hgO_298, hgO_300, hgCd_0, hgCd_1, hgCd_2, hgCd_3, hgCd_4, hgCd_5, hgRecv_O, hgRecv_99, List.length_cons, List.length_nil, Nat.zero_add, Nat.add_zero, Nat.le_refl, Nat.zero_le, and_self, or_true, true_or, true_and, and_true, ne_eq, not_false_eq_true, Nat.reduceLT, Nat.reduceLeDiff, Nat.reduceAdd, Nat.reduceEqDiff, hgn_eq, hgn_lt, hgn_le, if_true, if_false, reduceIte, Nat.not_lt_zero, hgs_aa_d, hgs_aa_r, hgs_aa_h, hgs_aa_m, hgs_aa_t, hgs_ld_wp, hgs_st_wp, hgs_ld_qf, hgs_st_qf, hgs_ld_qt, hgs_st_qt, hgs_ld_2, hgs_st_2, hgs_ld_3, hgs_st_3, hgs_ld_4, hgs_st_4, hgs_ld_301, hgs_st_301, hgs_ld_D, hgs_st_D, hgs_ld_s, hgs_ld_T, hgs_st_T, hgs_ld_o, hgs_st_o, hgs_ld_b, hgs_st_b, hgs_ld_z, hgs_st_z, hgs_al_b, hgx_alen_s, hw, k]
theorem hgk_209b (h : hgSC M V Hs c) (hx : ¬ ∃ i, i < vN V ∧ x = nI i) : hgWC X 209 [.ref 0, .int x, .ref 325] M = some (.inl (.int (nI 1)), M) := by
  have hw := h.1
  have k := hgk_92b (X := X) h hx
  simp (maxDischargeDepth := 7) only [hgc209, hgM_t, hgM_f, hgM_n, hgx_aload_n_2, hgx_iconst_0, hgx_aload_n_0, hgx_iload_n_1, hgx_invvirtual_2, hgx_aft_h, hgx_aft_e, hgx_aft_i, hgx_aft_l, hgx_aft_v, hgx_i2l, hgx_goto, hgx_iconst_1, hgx_ret1, hgv209_0, hgr209_0, hgu209_0, hgv209_13, hgr209_13, hgu209_13, hgv209_15, hgr209_15, hgu209_15, hgI_SI, hgI_SJ, hgJ_SI, hgJ_SJ, if_true, if_false, reduceIte, Nat.reduceEqDiff, hgWf_SI, hgWf_SJ, hgO_SI, hgO_SJ, hgAr_SI, hgAr_SJ, hgRp_SI, hgRp_SJ, hgN_SI, hgN_SJ, hgO_g, hgO_d, hgO_rl, hgO_r, hgO_0, hgO_1, hgO_64, hgO_298, hgO_300, hgCd_0, hgCd_1, hgCd_2, hgCd_3, hgCd_4, hgCd_5, hgRecv_O, hgRecv_99, List.length_cons, List.length_nil, Nat.zero_add, Nat.add_zero, Nat.le_refl, Nat.zero_le, and_self, or_true, true_or, true_and, and_true, ne_eq, not_false_eq_true, Nat.reduceLT, Nat.reduceLeDiff, Nat.reduceAdd, Nat.reduceEqDiff, hgn_eq, hgn_lt, hgn_le, if_true, if_false, reduceIte, Nat.not_lt_zero, hgs_aa_d, hgs_aa_r, hgs_aa_h, hgs_aa_m, hgs_aa_t, hgs_ld_wp, hgs_st_wp, hgs_ld_qf, hgs_st_qf, hgs_ld_qt, hgs_st_qt, hgs_ld_2, hgs_st_2, hgs_ld_3, hgs_st_3, hgs_ld_4, hgs_st_4, hgs_ld_301, hgs_st_301, hgs_ld_D, hgs_st_D, hgs_ld_s, hgs_ld_T, hgs_st_T, hgs_ld_o, hgs_st_o, hgs_ld_b, hgs_st_b, hgs_ld_z, hgs_st_z, hgs_al_b, hgx_alen_s, hw, k, hgHd]
theorem hgk_175a (h : hgSM M V Hs c) (hi : i < vN V) : hgWC X 175 [.ref 300, .int (nI i)] M = some (.inl (.int (hgBk (vQ V i))), hgSI M 300 0 (nI 0)) := by
  have h2 : hgSM (hgSI M 300 0 (nI 0)) V Hs c := hgSM_0 h
  have hw := h.1
  have hm := hgSm_ok h2.2.2.2.1
  have hN := hm.1
  have k := hgk_165a (X := X) h2 hgI_at ⟨i, hi, rfl⟩
  have hd := h2.2.1.2.2.2.2.2.2.2.1 i hi
  have i10 : i < 10 := by omega
  have b9 : 27 + 10 * i + 9 < 20187 := by omega
  have b8 : 27 + 10 * i + 8 < 20187 := by omega
  have b7 : 27 + 10 * i + 7 < 20187 := by omega
  have b4 : 27 + 10 * i + 4 < 20187 := by omega
  have b1 : 27 + 10 * i + 1 < 20187 := by omega
  have e := hgRV_174 (X := X) h2.1 hm hi h2.2.1
  simp (maxDischargeDepth := 7) only [hgc175, hgM_t, hgM_f, hgM_n, hgx_aload_n_0, hgx_iconst_0, hgx_put0, hgx_iload_n_1, hgx_invvirtual_2, hgx_aft_e, hgx_aft_i, hgx_aft_l, hgx_aft_v, hgx_if_eq, hgx_goto, hgx_ret1, hgv175_0, hgr175_0, hgu175_0, hgv175_17, hgr175_17, hgu175_17, hgv175_22, hgr175_22, hgu175_22, hgs_aa_d, hgs_aa_r, hgs_aa_h, hgs_aa_m, hgs_aa_t, hgs_ld_wp, hgs_st_wp, hgs_ld_qf, hgs_st_qf, hgs_ld_qt, hgs_st_qt, hgs_ld_2, hgs_st_2, hgs_ld_3, hgs_st_3, hgs_ld_4, hgs_st_4, hgs_ld_301, hgs_st_301, hgs_ld_D, hgs_st_D, hgs_ld_s, hgs_ld_T, hgs_st_T, hgs_ld_o, hgs_st_o, hgs_ld_b, hgs_st_b, hgs_ld_z, hgs_st_z, hgs_al_b, hgx_alen_s, hgWf_SI, hgWf_SJ, hgO_SI, hgO_SJ, hgAr_SI, hgAr_SJ, hgRp_SI, hgRp_SJ, hgN_SI, hgN_SJ, hgO_g, hgO_d, hgO_rl, hgO_r, hgO_0, hgO_1, hgO_64, hgO_298, hgO_300, hgCd_0, hgCd_1, hgCd_2, hgCd_3, hgCd_4, hgCd_5, hgRecv_O, hgRecv_99, List.length_cons, List.length_nil, Nat.zero_add, Nat.add_zero, Nat.le_refl, Nat.zero_le, and_self, or_true, true_or, true_and, and_true, ne_eq, not_false_eq_true, Nat.reduceLT, Nat.reduceLeDiff, Nat.reduceAdd, Nat.reduceEqDiff, hgn_eq, hgn_lt, hgn_le, if_true, if_false, reduceIte, Nat.not_lt_zero, hgn_add, hgn_mul, if_true, hw, hgAr_302 hw, hgAr_314 hw, k, hgk_128, i10, b9, b8, b7, b4, b1, e]
theorem hgk_175b (h : hgSM M V Hs c) (hx : ¬ ∃ i, i < vN V ∧ x = nI i) : hgWC X 175 [.ref 300, .int x] M = some (.inl (.int (nI 0)), hgSI (hgSI M 300 0 (nI 0)) 300 0 (nI 1)) := by
  have h2 : hgSM (hgSI M 300 0 (nI 0)) V Hs c := hgSM_0 h
  have hw := h.1
  have k := hgk_165b (X := X) h2 hgI_at hx
  simp (maxDischargeDepth := 7) only [hgc175, hgM_t, hgM_f, hgM_n, hgx_aload_n_0, hgx_iconst_0, hgx_put0, hgx_iload_n_1, hgx_invvirtual_2, hgx_aft_e, hgx_aft_i, hgx_aft_l, hgx_aft_v, hgx_if_eq, hgx_goto, hgx_ret1, hgv175_0, hgr175_0, hgu175_0, hgv175_17, hgr175_17, hgu175_17, hgv175_22, hgr175_22, hgu175_22, hgWf_SI, hgWf_SJ, hgO_SI, hgO_SJ, hgAr_SI, hgAr_SJ, hgRp_SI, hgRp_SJ, hgN_SI, hgN_SJ, hgO_g, hgO_d, hgO_rl, hgO_r, hgO_0, hgO_1, hgO_64, hgO_298, hgO_300, hgCd_0, hgCd_1, hgCd_2, hgCd_3, hgCd_4, hgCd_5, hgRecv_O, hgRecv_99, List.length_cons, List.length_nil, Nat.zero_add, Nat.add_zero, Nat.le_refl, Nat.zero_le, and_self, or_true, true_or, true_and, and_true, ne_eq, not_false_eq_true, Nat.reduceLT, Nat.reduceLeDiff, Nat.reduceAdd, Nat.reduceEqDiff, hgn_eq, hgn_lt, hgn_le, if_true, if_false, reduceIte, Nat.not_lt_zero, hw, k]
theorem hgOp_209 (h : hgInv M N) : hgBi X 209 [.ref 0, .int x, .ref 325] 175 [.ref 300, .int x] M N := by
  obtain ⟨V, Hs, c, hc, hC, hR, hH, hb⟩ := h
  by_cases hx : ∃ i, i < vN V ∧ x = nI i
  · obtain ⟨i, hi, rfl⟩ := hx
    have hR2 : hgSM (hgSJ M 325 0 ((hgBk (vQ V i)).toInt64)) V Hs c := hgSM_C hgFC_o hC.1 hR
    refine ⟨_, _, _, _, hgk_209a hC hi, hgk_175a hR2 hi, hC.1, hgI_at, fun _ => ?_, hgInv_2 hb (hgSC_o hC) hgFC_o (hgSM_0 hR2) hgFR_0 hH (by omega)⟩
    exact hgJ_at
  · refine ⟨_, _, _, _, hgk_209b hC hx, hgk_175b hR hx, hC.1, hgI_at, fun q => absurd q (by decide), hgInv_2 hb hC hgFC_r (hgSM_1 hR) hgFR_1 hH (by omega)⟩
theorem hgk_93a (h : hgSC M V Hs c) (hi : i < vN V) : hgWC X 93 [.ref 0, .int (nI i)] M = some (.inl (.long (vT V i)), M) := by
  obtain ⟨hw, g6, hn, hN, _, _⟩ := hgSC_6 h
  have k := hgk_117a (X := X) h hi
  have hd := h.2.2.1.2.2.2.2.2.2.2.2.2.2.2.1 i hi
  have i10 : i < 10 := by omega
  have e : hgJ M (6 + 2 + i) 7 = vT V i := hd.2.1
  have od := hgO_d hw g6 i10
  rw [show 6 + 2 + i = 8 + i from rfl] at e od
  simp (maxDischargeDepth := 7) only [hgc93, hgM_t, hgM_f, hgM_n, hgx_aload_n_0, hgx_iload_n_1, hgx_invvirtual_2, hgx_aft_e, hgx_aft_i, hgx_aft_l, hgx_aft_v, hgs_get_7_3, hgs_get_1_5, hgx_get1, hgx_lret, hgv93_0, hgr93_0, hgu93_0, hgI_SI, hgI_SJ, hgJ_SI, hgJ_SJ, if_true, if_false, reduceIte, Nat.reduceEqDiff, hgWf_SI, hgWf_SJ, hgO_SI, hgO_SJ, hgAr_SI, hgAr_SJ, hgRp_SI, hgRp_SJ, hgN_SI, hgN_SJ, hgO_g, hgO_d, hgO_rl, hgO_r, hgO_0, hgO_1, hgO_64, hgO_298, hgO_300, hgCd_0, hgCd_1, hgCd_2, hgCd_3, hgCd_4, hgCd_5, hgRecv_O, hgRecv_99, List.length_cons, List.length_nil, Nat.zero_add, Nat.add_zero, Nat.le_refl, Nat.zero_le, and_self, or_true, true_or, true_and, and_true, ne_eq, not_false_eq_true, Nat.reduceLT, Nat.reduceLeDiff, Nat.reduceAdd, Nat.reduceEqDiff, hgn_eq, hgn_lt, hgn_le, if_true, if_false, reduceIte, Nat.not_lt_zero, hgs_aa_d, hgs_aa_r, hgs_aa_h, hgs_aa_m, hgs_aa_t, hgs_ld_wp, hgs_st_wp, hgs_ld_qf, hgs_st_qf, hgs_ld_qt, hgs_st_qt, hgs_ld_2, hgs_st_2, hgs_ld_3, hgs_st_3, hgs_ld_4, hgs_st_4, hgs_ld_301, hgs_st_301, hgs_ld_D, hgs_st_D, hgs_ld_s, hgs_ld_T, hgs_st_T, hgs_ld_o, hgs_st_o, hgs_ld_b, hgs_st_b, hgs_ld_z, hgs_st_z, hgs_al_b, hgx_alen_s, hw, g6, k, i10, e, od]
theorem hgk_93b (h : hgSC M V Hs c) (hx : ¬ ∃ i, i < vN V ∧ x = nI i) : hgWC X 93 [.ref 0, .int x] M = some (.inr 2, M) := by
  have hw := h.1
  have k := hgk_117b (X := X) h hx
  simp (maxDischargeDepth := 7) only [hgc93, hgM_t, hgM_f, hgM_n, hgx_aload_n_0, hgx_iload_n_1, hgx_invvirtual_2, hgx_aft_e, hgx_aft_i, hgx_aft_l, hgx_aft_v, hgs_get_7_3, hgs_get_1_5, hgx_get1, hgx_lret, hgv93_0, hgr93_0, hgu93_0, hgI_SI, hgI_SJ, hgJ_SI, hgJ_SJ, if_true, if_false, reduceIte, Nat.reduceEqDiff, hgWf_SI, hgWf_SJ, hgO_SI, hgO_SJ, hgAr_SI, hgAr_SJ, hgRp_SI, hgRp_SJ, hgN_SI, hgN_SJ, hgO_g, hgO_d, hgO_rl, hgO_r, hgO_0, hgO_1, hgO_64, hgO_298, hgO_300, hgCd_0, hgCd_1, hgCd_2, hgCd_3, hgCd_4, hgCd_5, hgRecv_O, hgRecv_99, List.length_cons, List.length_nil, Nat.zero_add, Nat.add_zero, Nat.le_refl, Nat.zero_le, and_self, or_true, true_or, true_and, and_true, ne_eq, not_false_eq_true, Nat.reduceLT, Nat.reduceLeDiff, Nat.reduceAdd, Nat.reduceEqDiff, hgn_eq, hgn_lt, hgn_le, if_true, if_false, reduceIte, Nat.not_lt_zero, hw, k]
theorem hgk_210a (h : hgSC M V Hs c) (hi : i < vN V) : hgWC X 210 [.ref 0, .int (nI i), .ref 325] M = some (.inl (.int (nI 0)), hgSJ M 325 0 (vT V i)) := by
  have hw := h.1
  have k := hgk_93a (X := X) h hi
  simp (maxDischargeDepth := 7) only [hgc210, hgM_t, hgM_f, hgM_n, hgx_aload_n_2, hgx_iconst_0, hgx_aload_n_0, hgx_iload_n_1, hgx_invvirtual_2, hgx_aft_h, hgx_aft_e, hgx_aft_i, hgx_aft_l, hgx_aft_v, hgx_goto, hgx_iconst_1, hgx_ret1, hgv210_0, hgr210_0, hgu210_0, hgv210_12, hgr210_12, hgu210_12, hgv210_14, hgr210_14, hgu210_14, hgI_SI, hgI_SJ, hgJ_SI, hgJ_SJ, if_true, if_false, reduceIte, Nat.reduceEqDiff, hgWf_SI, hgWf_SJ, hgO_SI, hgO_SJ, hgAr_SI, hgAr_SJ, hgRp_SI, hgRp_SJ, hgN_SI, hgN_SJ, hgO_g, hgO_d, hgO_rl, hgO_r, hgO_0, hgO_1, hgO_64, hgO_298, hgO_300, hgCd_0, hgCd_1, hgCd_2, hgCd_3, hgCd_4, hgCd_5, hgRecv_O, hgRecv_99, List.length_cons, List.length_nil, Nat.zero_add, Nat.add_zero, Nat.le_refl, Nat.zero_le, and_self, or_true, true_or, true_and, and_true, ne_eq, not_false_eq_true, Nat.reduceLT, Nat.reduceLeDiff, Nat.reduceAdd, Nat.reduceEqDiff, hgn_eq, hgn_lt, hgn_le, if_true, if_false, reduceIte, Nat.not_lt_zero, hgs_aa_d, hgs_aa_r, hgs_aa_h, hgs_aa_m, hgs_aa_t, hgs_ld_wp, hgs_st_wp, hgs_ld_qf, hgs_st_qf, hgs_ld_qt, hgs_st_qt, hgs_ld_2, hgs_st_2, hgs_ld_3, hgs_st_3, hgs_ld_4, hgs_st_4, hgs_ld_301, hgs_st_301, hgs_ld_D, hgs_st_D, hgs_ld_s, hgs_ld_T, hgs_st_T, hgs_ld_o, hgs_st_o, hgs_ld_b, hgs_st_b, hgs_ld_z, hgs_st_z, hgs_al_b, hgx_alen_s, hw, k]
theorem hgk_210b (h : hgSC M V Hs c) (hx : ¬ ∃ i, i < vN V ∧ x = nI i) : hgWC X 210 [.ref 0, .int x, .ref 325] M = some (.inl (.int (nI 1)), M) := by
  have hw := h.1
  have k := hgk_93b (X := X) h hx
  simp (maxDischargeDepth := 7) only [hgc210, hgM_t, hgM_f, hgM_n, hgx_aload_n_2, hgx_iconst_0, hgx_aload_n_0, hgx_iload_n_1, hgx_invvirtual_2, hgx_aft_h, hgx_aft_e, hgx_aft_i, hgx_aft_l, hgx_aft_v, hgx_goto, hgx_iconst_1, hgx_ret1, hgv210_0, hgr210_0, hgu210_0, hgv210_12, hgr210_12, hgu210_12, hgv210_14, hgr210_14, hgu210_14, hgI_SI, hgI_SJ, hgJ_SI, hgJ_SJ, if_true, if_false, reduceIte, Nat.reduceEqDiff, hgWf_SI, hgWf_SJ, hgO_SI, hgO_SJ, hgAr_SI, hgAr_SJ, hgRp_SI, hgRp_SJ, hgN_SI, hgN_SJ, hgO_g, hgO_d, hgO_rl, hgO_r, hgO_0, hgO_1, hgO_64, hgO_298, hgO_300, hgCd_0, hgCd_1, hgCd_2, hgCd_3, hgCd_4, hgCd_5, hgRecv_O, hgRecv_99, List.length_cons, List.length_nil, Nat.zero_add, Nat.add_zero, Nat.le_refl, Nat.zero_le, and_self, or_true, true_or, true_and, and_true, ne_eq, not_false_eq_true, Nat.reduceLT, Nat.reduceLeDiff, Nat.reduceAdd, Nat.reduceEqDiff, hgn_eq, hgn_lt, hgn_le, if_true, if_false, reduceIte, Nat.not_lt_zero, hgs_aa_d, hgs_aa_r, hgs_aa_h, hgs_aa_m, hgs_aa_t, hgs_ld_wp, hgs_st_wp, hgs_ld_qf, hgs_st_qf, hgs_ld_qt, hgs_st_qt, hgs_ld_2, hgs_st_2, hgs_ld_3, hgs_st_3, hgs_ld_4, hgs_st_4, hgs_ld_301, hgs_st_301, hgs_ld_D, hgs_st_D, hgs_ld_s, hgs_ld_T, hgs_st_T, hgs_ld_o, hgs_st_o, hgs_ld_b, hgs_st_b, hgs_ld_z, hgs_st_z, hgs_al_b, hgx_alen_s, hw, k, hgHd]
theorem hgk_176a (h : hgSM M V Hs c) (hi : i < vN V) : hgWC X 176 [.ref 300, .int (nI i)] M = some (.inl (.long (vT V i)), hgSI M 300 0 (nI 0)) := by
  have h2 : hgSM (hgSI M 300 0 (nI 0)) V Hs c := hgSM_0 h
  have hw := h.1
  have hm := hgSm_ok h2.2.2.2.1
  have hN := hm.1
  have k := hgk_165a (X := X) h2 hgI_at ⟨i, hi, rfl⟩
  have hd := h2.2.1.2.2.2.2.2.2.2.1 i hi
  have i10 : i < 10 := by omega
  have b9 : 27 + 10 * i + 9 < 20187 := by omega
  have b8 : 27 + 10 * i + 8 < 20187 := by omega
  have b7 : 27 + 10 * i + 7 < 20187 := by omega
  have b4 : 27 + 10 * i + 4 < 20187 := by omega
  have b1 : 27 + 10 * i + 1 < 20187 := by omega
  have e := hd.2.2.1
  simp (maxDischargeDepth := 7) only [hgc176, hgM_t, hgM_f, hgM_n, hgx_aload_n_0, hgx_iconst_0, hgx_put0, hgx_iload_n_1, hgx_invvirtual_2, hgx_aft_e, hgx_aft_i, hgx_aft_l, hgx_aft_v, hgx_if_eq, hgx_lconst_0, hgx_goto, hgs_get_8_12, hgx_lret, hgv176_0, hgr176_0, hgu176_0, hgv176_17, hgr176_17, hgu176_17, hgv176_23, hgr176_23, hgu176_23, hgs_aa_d, hgs_aa_r, hgs_aa_h, hgs_aa_m, hgs_aa_t, hgs_ld_wp, hgs_st_wp, hgs_ld_qf, hgs_st_qf, hgs_ld_qt, hgs_st_qt, hgs_ld_2, hgs_st_2, hgs_ld_3, hgs_st_3, hgs_ld_4, hgs_st_4, hgs_ld_301, hgs_st_301, hgs_ld_D, hgs_st_D, hgs_ld_s, hgs_ld_T, hgs_st_T, hgs_ld_o, hgs_st_o, hgs_ld_b, hgs_st_b, hgs_ld_z, hgs_st_z, hgs_al_b, hgx_alen_s, hgWf_SI, hgWf_SJ, hgO_SI, hgO_SJ, hgAr_SI, hgAr_SJ, hgRp_SI, hgRp_SJ, hgN_SI, hgN_SJ, hgO_g, hgO_d, hgO_rl, hgO_r, hgO_0, hgO_1, hgO_64, hgO_298, hgO_300, hgCd_0, hgCd_1, hgCd_2, hgCd_3, hgCd_4, hgCd_5, hgRecv_O, hgRecv_99, List.length_cons, List.length_nil, Nat.zero_add, Nat.add_zero, Nat.le_refl, Nat.zero_le, and_self, or_true, true_or, true_and, and_true, ne_eq, not_false_eq_true, Nat.reduceLT, Nat.reduceLeDiff, Nat.reduceAdd, Nat.reduceEqDiff, hgn_eq, hgn_lt, hgn_le, if_true, if_false, reduceIte, Nat.not_lt_zero, hgn_add, hgn_mul, if_true, hw, hgAr_302 hw, hgAr_314 hw, k, hgk_128, i10, b9, b8, b7, b4, b1, e]
theorem hgk_176b (h : hgSM M V Hs c) (hx : ¬ ∃ i, i < vN V ∧ x = nI i) : hgWC X 176 [.ref 300, .int x] M = some (.inl (.long (lN 0)), hgSI (hgSI M 300 0 (nI 0)) 300 0 (nI 1)) := by
  have h2 : hgSM (hgSI M 300 0 (nI 0)) V Hs c := hgSM_0 h
  have hw := h.1
  have k := hgk_165b (X := X) h2 hgI_at hx
  simp (maxDischargeDepth := 7) only [hgc176, hgM_t, hgM_f, hgM_n, hgx_aload_n_0, hgx_iconst_0, hgx_put0, hgx_iload_n_1, hgx_invvirtual_2, hgx_aft_e, hgx_aft_i, hgx_aft_l, hgx_aft_v, hgx_if_eq, hgx_lconst_0, hgx_goto, hgs_get_8_12, hgx_lret, hgv176_0, hgr176_0, hgu176_0, hgv176_17, hgr176_17, hgu176_17, hgv176_23, hgr176_23, hgu176_23, hgWf_SI, hgWf_SJ, hgO_SI, hgO_SJ, hgAr_SI, hgAr_SJ, hgRp_SI, hgRp_SJ, hgN_SI, hgN_SJ, hgO_g, hgO_d, hgO_rl, hgO_r, hgO_0, hgO_1, hgO_64, hgO_298, hgO_300, hgCd_0, hgCd_1, hgCd_2, hgCd_3, hgCd_4, hgCd_5, hgRecv_O, hgRecv_99, List.length_cons, List.length_nil, Nat.zero_add, Nat.add_zero, Nat.le_refl, Nat.zero_le, and_self, or_true, true_or, true_and, and_true, ne_eq, not_false_eq_true, Nat.reduceLT, Nat.reduceLeDiff, Nat.reduceAdd, Nat.reduceEqDiff, hgn_eq, hgn_lt, hgn_le, if_true, if_false, reduceIte, Nat.not_lt_zero, hw, k]
theorem hgOp_210 (h : hgInv M N) : hgBl X 210 [.ref 0, .int x, .ref 325] 176 [.ref 300, .int x] M N := by
  obtain ⟨V, Hs, c, hc, hC, hR, hH, hb⟩ := h
  by_cases hx : ∃ i, i < vN V ∧ x = nI i
  · obtain ⟨i, hi, rfl⟩ := hx
    have hR2 : hgSM (hgSJ M 325 0 (vT V i)) V Hs c := hgSM_C hgFC_o hC.1 hR
    refine ⟨_, _, _, _, hgk_210a hC hi, hgk_176a hR2 hi, hC.1, hgI_at, fun _ => ?_, hgInv_2 hb (hgSC_o hC) hgFC_o (hgSM_0 hR2) hgFR_0 hH (by omega)⟩
    exact hgJ_at
  · refine ⟨_, _, _, _, hgk_210b hC hx, hgk_176b hR hx, hC.1, hgI_at, fun q => absurd q (by decide), hgInv_2 hb hC hgFC_r (hgSM_1 hR) hgFR_1 hH (by omega)⟩
theorem hgk_94a (h : hgSC M V Hs c) (hi : i < vN V) : hgWC X 94 [.ref 0, .int (nI i)] M = some (.inl (.int (vD V i 7)), M) := by
  obtain ⟨hw, g6, hn, hN, _, _⟩ := hgSC_6 h
  have k := hgk_117a (X := X) h hi
  have hd := h.2.2.1.2.2.2.2.2.2.2.2.2.2.2.1 i hi
  have i10 : i < 10 := by omega
  have e : hgI M (6 + 2 + i) 8 = vD V i 7 := hd.1 7 (by omega)
  have od := hgO_d hw g6 i10
  rw [show 6 + 2 + i = 8 + i from rfl] at e od
  simp (maxDischargeDepth := 7) only [hgc94, hgM_t, hgM_f, hgM_n, hgx_aload_n_0, hgx_iload_n_1, hgx_invvirtual_2, hgx_aft_e, hgx_aft_i, hgx_aft_l, hgx_aft_v, hgs_get_7_3, hgs_get_1_5, hgx_get0, hgx_ret1, hgv94_0, hgr94_0, hgu94_0, hgI_SI, hgI_SJ, hgJ_SI, hgJ_SJ, if_true, if_false, reduceIte, Nat.reduceEqDiff, hgWf_SI, hgWf_SJ, hgO_SI, hgO_SJ, hgAr_SI, hgAr_SJ, hgRp_SI, hgRp_SJ, hgN_SI, hgN_SJ, hgO_g, hgO_d, hgO_rl, hgO_r, hgO_0, hgO_1, hgO_64, hgO_298, hgO_300, hgCd_0, hgCd_1, hgCd_2, hgCd_3, hgCd_4, hgCd_5, hgRecv_O, hgRecv_99, List.length_cons, List.length_nil, Nat.zero_add, Nat.add_zero, Nat.le_refl, Nat.zero_le, and_self, or_true, true_or, true_and, and_true, ne_eq, not_false_eq_true, Nat.reduceLT, Nat.reduceLeDiff, Nat.reduceAdd, Nat.reduceEqDiff, hgn_eq, hgn_lt, hgn_le, if_true, if_false, reduceIte, Nat.not_lt_zero, hgs_aa_d, hgs_aa_r, hgs_aa_h, hgs_aa_m, hgs_aa_t, hgs_ld_wp, hgs_st_wp, hgs_ld_qf, hgs_st_qf, hgs_ld_qt, hgs_st_qt, hgs_ld_2, hgs_st_2, hgs_ld_3, hgs_st_3, hgs_ld_4, hgs_st_4, hgs_ld_301, hgs_st_301, hgs_ld_D, hgs_st_D, hgs_ld_s, hgs_ld_T, hgs_st_T, hgs_ld_o, hgs_st_o, hgs_ld_b, hgs_st_b, hgs_ld_z, hgs_st_z, hgs_al_b, hgx_alen_s, hw, g6, k, i10, e, od]
theorem hgk_94b (h : hgSC M V Hs c) (hx : ¬ ∃ i, i < vN V ∧ x = nI i) : hgWC X 94 [.ref 0, .int x] M = some (.inr 2, M) := by
  have hw := h.1
  have k := hgk_117b (X := X) h hx
  simp (maxDischargeDepth := 7) only [hgc94, hgM_t, hgM_f, hgM_n, hgx_aload_n_0, hgx_iload_n_1, hgx_invvirtual_2, hgx_aft_e, hgx_aft_i, hgx_aft_l, hgx_aft_v, hgs_get_7_3, hgs_get_1_5, hgx_get0, hgx_ret1, hgv94_0, hgr94_0, hgu94_0, hgI_SI, hgI_SJ, hgJ_SI, hgJ_SJ, if_true, if_false, reduceIte, Nat.reduceEqDiff, hgWf_SI, hgWf_SJ, hgO_SI, hgO_SJ, hgAr_SI, hgAr_SJ, hgRp_SI, hgRp_SJ, hgN_SI, hgN_SJ, hgO_g, hgO_d, hgO_rl, hgO_r, hgO_0, hgO_1, hgO_64, hgO_298, hgO_300, hgCd_0, hgCd_1, hgCd_2, hgCd_3, hgCd_4, hgCd_5, hgRecv_O, hgRecv_99, List.length_cons, List.length_nil, Nat.zero_add, Nat.add_zero, Nat.le_refl, Nat.zero_le, and_self, or_true, true_or, true_and, and_true, ne_eq, not_false_eq_true, Nat.reduceLT, Nat.reduceLeDiff, Nat.reduceAdd, Nat.reduceEqDiff, hgn_eq, hgn_lt, hgn_le, if_true, if_false, reduceIte, Nat.not_lt_zero, hw, k]
theorem hgk_211a (h : hgSC M V Hs c) (hi : i < vN V) : hgWC X 211 [.ref 0, .int (nI i), .ref 325] M = some (.inl (.int (nI 0)), hgSJ M 325 0 ((vD V i 7).toInt64)) := by
  have hw := h.1
  have k := hgk_94a (X := X) h hi
  simp (maxDischargeDepth := 7) only [hgc211, hgM_t, hgM_f, hgM_n, hgx_aload_n_2, hgx_iconst_0, hgx_aload_n_0, hgx_iload_n_1, hgx_invvirtual_2, hgx_aft_h, hgx_aft_e, hgx_aft_i, hgx_aft_l, hgx_aft_v, hgx_i2l, hgx_goto, hgx_iconst_1, hgx_ret1, hgv211_0, hgr211_0, hgu211_0, hgv211_13, hgr211_13, hgu211_13, hgv211_15, hgr211_15, hgu211_15, hgI_SI, hgI_SJ, hgJ_SI, hgJ_SJ, if_true, if_false, reduceIte, Nat.reduceEqDiff, hgWf_SI, hgWf_SJ, hgO_SI, hgO_SJ, hgAr_SI, hgAr_SJ, hgRp_SI, hgRp_SJ, hgN_SI, hgN_SJ, hgO_g, hgO_d, hgO_rl, hgO_r, hgO_0, hgO_1, hgO_64, hgO_298, hgO_300, hgCd_0, hgCd_1, hgCd_2, hgCd_3, hgCd_4, hgCd_5, hgRecv_O, hgRecv_99, List.length_cons, List.length_nil, Nat.zero_add, Nat.add_zero, Nat.le_refl, Nat.zero_le, and_self, or_true, true_or, true_and, and_true, ne_eq, not_false_eq_true, Nat.reduceLT, Nat.reduceLeDiff, Nat.reduceAdd, Nat.reduceEqDiff, hgn_eq, hgn_lt, hgn_le, if_true, if_false, reduceIte, Nat.not_lt_zero, hgs_aa_d, hgs_aa_r, hgs_aa_h, hgs_aa_m, hgs_aa_t, hgs_ld_wp, hgs_st_wp, hgs_ld_qf, hgs_st_qf, hgs_ld_qt, hgs_st_qt, hgs_ld_2, hgs_st_2, hgs_ld_3, hgs_st_3, hgs_ld_4, hgs_st_4, hgs_ld_301, hgs_st_301, hgs_ld_D, hgs_st_D, hgs_ld_s, hgs_ld_T, hgs_st_T, hgs_ld_o, hgs_st_o, hgs_ld_b, hgs_st_b, hgs_ld_z, hgs_st_z, hgs_al_b, hgx_alen_s, hw, k]
theorem hgk_211b (h : hgSC M V Hs c) (hx : ¬ ∃ i, i < vN V ∧ x = nI i) : hgWC X 211 [.ref 0, .int x, .ref 325] M = some (.inl (.int (nI 1)), M) := by
  have hw := h.1
  have k := hgk_94b (X := X) h hx
  simp (maxDischargeDepth := 7) only [hgc211, hgM_t, hgM_f, hgM_n, hgx_aload_n_2, hgx_iconst_0, hgx_aload_n_0, hgx_iload_n_1, hgx_invvirtual_2, hgx_aft_h, hgx_aft_e, hgx_aft_i, hgx_aft_l, hgx_aft_v, hgx_i2l, hgx_goto, hgx_iconst_1, hgx_ret1, hgv211_0, hgr211_0, hgu211_0, hgv211_13, hgr211_13, hgu211_13, hgv211_15, hgr211_15, hgu211_15, hgI_SI, hgI_SJ, hgJ_SI, hgJ_SJ, if_true, if_false, reduceIte, Nat.reduceEqDiff, hgWf_SI, hgWf_SJ, hgO_SI, hgO_SJ, hgAr_SI, hgAr_SJ, hgRp_SI, hgRp_SJ, hgN_SI, hgN_SJ, hgO_g, hgO_d, hgO_rl, hgO_r, hgO_0, hgO_1, hgO_64, hgO_298, hgO_300, hgCd_0, hgCd_1, hgCd_2, hgCd_3, hgCd_4, hgCd_5, hgRecv_O, hgRecv_99, List.length_cons, List.length_nil, Nat.zero_add, Nat.add_zero, Nat.le_refl, Nat.zero_le, and_self, or_true, true_or, true_and, and_true, ne_eq, not_false_eq_true, Nat.reduceLT, Nat.reduceLeDiff, Nat.reduceAdd, Nat.reduceEqDiff, hgn_eq, hgn_lt, hgn_le, if_true, if_false, reduceIte, Nat.not_lt_zero, hgs_aa_d, hgs_aa_r, hgs_aa_h, hgs_aa_m, hgs_aa_t, hgs_ld_wp, hgs_st_wp, hgs_ld_qf, hgs_st_qf, hgs_ld_qt, hgs_st_qt, hgs_ld_2, hgs_st_2, hgs_ld_3, hgs_st_3, hgs_ld_4, hgs_st_4, hgs_ld_301, hgs_st_301, hgs_ld_D, hgs_st_D, hgs_ld_s, hgs_ld_T, hgs_st_T, hgs_ld_o, hgs_st_o, hgs_ld_b, hgs_st_b, hgs_ld_z, hgs_st_z, hgs_al_b, hgx_alen_s, hw, k, hgHd]
theorem hgk_177a (h : hgSM M V Hs c) (hi : i < vN V) : hgWC X 177 [.ref 300, .int (nI i)] M = some (.inl (.int (vD V i 7)), hgSI M 300 0 (nI 0)) := by
  have h2 : hgSM (hgSI M 300 0 (nI 0)) V Hs c := hgSM_0 h
  have hw := h.1
  have hm := hgSm_ok h2.2.2.2.1
  have hN := hm.1
  have k := hgk_165a (X := X) h2 hgI_at ⟨i, hi, rfl⟩
  have hd := h2.2.1.2.2.2.2.2.2.2.1 i hi
  have i10 : i < 10 := by omega
  have b9 : 27 + 10 * i + 9 < 20187 := by omega
  have b8 : 27 + 10 * i + 8 < 20187 := by omega
  have b7 : 27 + 10 * i + 7 < 20187 := by omega
  have b4 : 27 + 10 * i + 4 < 20187 := by omega
  have b1 : 27 + 10 * i + 1 < 20187 := by omega
  have e := hd.1 7 (by omega)
  simp (maxDischargeDepth := 7) only [hgc177, hgM_t, hgM_f, hgM_n, hgx_aload_n_0, hgx_iconst_0, hgx_put0, hgx_iload_n_1, hgx_invvirtual_2, hgx_aft_e, hgx_aft_i, hgx_aft_l, hgx_aft_v, hgx_if_eq, hgx_goto, hgs_get_8_8, hgx_invstatic_1, hgx_bipush_7, hgx_iadd, hgx_ret1, hgv177_0, hgr177_0, hgu177_0, hgv177_17, hgr177_17, hgu177_17, hgv177_29, hgr177_29, hgu177_29, hgs_aa_d, hgs_aa_r, hgs_aa_h, hgs_aa_m, hgs_aa_t, hgs_ld_wp, hgs_st_wp, hgs_ld_qf, hgs_st_qf, hgs_ld_qt, hgs_st_qt, hgs_ld_2, hgs_st_2, hgs_ld_3, hgs_st_3, hgs_ld_4, hgs_st_4, hgs_ld_301, hgs_st_301, hgs_ld_D, hgs_st_D, hgs_ld_s, hgs_ld_T, hgs_st_T, hgs_ld_o, hgs_st_o, hgs_ld_b, hgs_st_b, hgs_ld_z, hgs_st_z, hgs_al_b, hgx_alen_s, hgWf_SI, hgWf_SJ, hgO_SI, hgO_SJ, hgAr_SI, hgAr_SJ, hgRp_SI, hgRp_SJ, hgN_SI, hgN_SJ, hgO_g, hgO_d, hgO_rl, hgO_r, hgO_0, hgO_1, hgO_64, hgO_298, hgO_300, hgCd_0, hgCd_1, hgCd_2, hgCd_3, hgCd_4, hgCd_5, hgRecv_O, hgRecv_99, List.length_cons, List.length_nil, Nat.zero_add, Nat.add_zero, Nat.le_refl, Nat.zero_le, and_self, or_true, true_or, true_and, and_true, ne_eq, not_false_eq_true, Nat.reduceLT, Nat.reduceLeDiff, Nat.reduceAdd, Nat.reduceEqDiff, hgn_eq, hgn_lt, hgn_le, if_true, if_false, reduceIte, Nat.not_lt_zero, hgn_add, hgn_mul, if_true, hw, hgAr_302 hw, hgAr_314 hw, k, hgk_128, i10, b9, b8, b7, b4, b1, e]
theorem hgk_177b (h : hgSM M V Hs c) (hx : ¬ ∃ i, i < vN V ∧ x = nI i) : hgWC X 177 [.ref 300, .int x] M = some (.inl (.int (nI 0)), hgSI (hgSI M 300 0 (nI 0)) 300 0 (nI 1)) := by
  have h2 : hgSM (hgSI M 300 0 (nI 0)) V Hs c := hgSM_0 h
  have hw := h.1
  have k := hgk_165b (X := X) h2 hgI_at hx
  simp (maxDischargeDepth := 7) only [hgc177, hgM_t, hgM_f, hgM_n, hgx_aload_n_0, hgx_iconst_0, hgx_put0, hgx_iload_n_1, hgx_invvirtual_2, hgx_aft_e, hgx_aft_i, hgx_aft_l, hgx_aft_v, hgx_if_eq, hgx_goto, hgs_get_8_8, hgx_invstatic_1, hgx_bipush_7, hgx_iadd, hgx_ret1, hgv177_0, hgr177_0, hgu177_0, hgv177_17, hgr177_17, hgu177_17, hgv177_29, hgr177_29, hgu177_29, hgWf_SI, hgWf_SJ, hgO_SI, hgO_SJ, hgAr_SI, hgAr_SJ, hgRp_SI, hgRp_SJ, hgN_SI, hgN_SJ, hgO_g, hgO_d, hgO_rl, hgO_r, hgO_0, hgO_1, hgO_64, hgO_298, hgO_300, hgCd_0, hgCd_1, hgCd_2, hgCd_3, hgCd_4, hgCd_5, hgRecv_O, hgRecv_99, List.length_cons, List.length_nil, Nat.zero_add, Nat.add_zero, Nat.le_refl, Nat.zero_le, and_self, or_true, true_or, true_and, and_true, ne_eq, not_false_eq_true, Nat.reduceLT, Nat.reduceLeDiff, Nat.reduceAdd, Nat.reduceEqDiff, hgn_eq, hgn_lt, hgn_le, if_true, if_false, reduceIte, Nat.not_lt_zero, hw, k]
theorem hgOp_211 (h : hgInv M N) : hgBi X 211 [.ref 0, .int x, .ref 325] 177 [.ref 300, .int x] M N := by
  obtain ⟨V, Hs, c, hc, hC, hR, hH, hb⟩ := h
  by_cases hx : ∃ i, i < vN V ∧ x = nI i
  · obtain ⟨i, hi, rfl⟩ := hx
    have hR2 : hgSM (hgSJ M 325 0 ((vD V i 7).toInt64)) V Hs c := hgSM_C hgFC_o hC.1 hR
    refine ⟨_, _, _, _, hgk_211a hC hi, hgk_177a hR2 hi, hC.1, hgI_at, fun _ => ?_, hgInv_2 hb (hgSC_o hC) hgFC_o (hgSM_0 hR2) hgFR_0 hH (by omega)⟩
    exact hgJ_at
  · refine ⟨_, _, _, _, hgk_211b hC hx, hgk_177b hR hx, hC.1, hgI_at, fun q => absurd q (by decide), hgInv_2 hb hC hgFC_r (hgSM_1 hR) hgFR_1 hH (by omega)⟩
theorem hgk_95a (h : hgSC M V Hs c) (hi : i < vN V) : hgWC X 95 [.ref 0, .int (nI i)] M = some (.inl (.int (vD V i 8)), M) := by
  obtain ⟨hw, g6, hn, hN, _, _⟩ := hgSC_6 h
  have k := hgk_117a (X := X) h hi
  have hd := h.2.2.1.2.2.2.2.2.2.2.2.2.2.2.1 i hi
  have i10 : i < 10 := by omega
  have e : hgI M (6 + 2 + i) 9 = vD V i 8 := hd.1 8 (by omega)
  have od := hgO_d hw g6 i10
  rw [show 6 + 2 + i = 8 + i from rfl] at e od
  simp (maxDischargeDepth := 7) only [hgc95, hgM_t, hgM_f, hgM_n, hgx_aload_n_0, hgx_iload_n_1, hgx_invvirtual_2, hgx_aft_e, hgx_aft_i, hgx_aft_l, hgx_aft_v, hgs_get_7_3, hgs_get_1_5, hgx_get0, hgx_ret1, hgv95_0, hgr95_0, hgu95_0, hgI_SI, hgI_SJ, hgJ_SI, hgJ_SJ, if_true, if_false, reduceIte, Nat.reduceEqDiff, hgWf_SI, hgWf_SJ, hgO_SI, hgO_SJ, hgAr_SI, hgAr_SJ, hgRp_SI, hgRp_SJ, hgN_SI, hgN_SJ, hgO_g, hgO_d, hgO_rl, hgO_r, hgO_0, hgO_1, hgO_64, hgO_298, hgO_300, hgCd_0, hgCd_1, hgCd_2, hgCd_3, hgCd_4, hgCd_5, hgRecv_O, hgRecv_99, List.length_cons, List.length_nil, Nat.zero_add, Nat.add_zero, Nat.le_refl, Nat.zero_le, and_self, or_true, true_or, true_and, and_true, ne_eq, not_false_eq_true, Nat.reduceLT, Nat.reduceLeDiff, Nat.reduceAdd, Nat.reduceEqDiff, hgn_eq, hgn_lt, hgn_le, if_true, if_false, reduceIte, Nat.not_lt_zero, hgs_aa_d, hgs_aa_r, hgs_aa_h, hgs_aa_m, hgs_aa_t, hgs_ld_wp, hgs_st_wp, hgs_ld_qf, hgs_st_qf, hgs_ld_qt, hgs_st_qt, hgs_ld_2, hgs_st_2, hgs_ld_3, hgs_st_3, hgs_ld_4, hgs_st_4, hgs_ld_301, hgs_st_301, hgs_ld_D, hgs_st_D, hgs_ld_s, hgs_ld_T, hgs_st_T, hgs_ld_o, hgs_st_o, hgs_ld_b, hgs_st_b, hgs_ld_z, hgs_st_z, hgs_al_b, hgx_alen_s, hw, g6, k, i10, e, od]
theorem hgk_95b (h : hgSC M V Hs c) (hx : ¬ ∃ i, i < vN V ∧ x = nI i) : hgWC X 95 [.ref 0, .int x] M = some (.inr 2, M) := by
  have hw := h.1
  have k := hgk_117b (X := X) h hx
  simp (maxDischargeDepth := 7) only [hgc95, hgM_t, hgM_f, hgM_n, hgx_aload_n_0, hgx_iload_n_1, hgx_invvirtual_2, hgx_aft_e, hgx_aft_i, hgx_aft_l, hgx_aft_v, hgs_get_7_3, hgs_get_1_5, hgx_get0, hgx_ret1, hgv95_0, hgr95_0, hgu95_0, hgI_SI, hgI_SJ, hgJ_SI, hgJ_SJ, if_true, if_false, reduceIte, Nat.reduceEqDiff, hgWf_SI, hgWf_SJ, hgO_SI, hgO_SJ, hgAr_SI, hgAr_SJ, hgRp_SI, hgRp_SJ, hgN_SI, hgN_SJ, hgO_g, hgO_d, hgO_rl, hgO_r, hgO_0, hgO_1, hgO_64, hgO_298, hgO_300, hgCd_0, hgCd_1, hgCd_2, hgCd_3, hgCd_4, hgCd_5, hgRecv_O, hgRecv_99, List.length_cons, List.length_nil, Nat.zero_add, Nat.add_zero, Nat.le_refl, Nat.zero_le, and_self, or_true, true_or, true_and, and_true, ne_eq, not_false_eq_true, Nat.reduceLT, Nat.reduceLeDiff, Nat.reduceAdd, Nat.reduceEqDiff, hgn_eq, hgn_lt, hgn_le, if_true, if_false, reduceIte, Nat.not_lt_zero, hw, k]
theorem hgk_212a (h : hgSC M V Hs c) (hi : i < vN V) : hgWC X 212 [.ref 0, .int (nI i), .ref 325] M = some (.inl (.int (nI 0)), hgSJ M 325 0 ((vD V i 8).toInt64)) := by
  have hw := h.1
  have k := hgk_95a (X := X) h hi
  simp (maxDischargeDepth := 7) only [hgc212, hgM_t, hgM_f, hgM_n, hgx_aload_n_2, hgx_iconst_0, hgx_aload_n_0, hgx_iload_n_1, hgx_invvirtual_2, hgx_aft_h, hgx_aft_e, hgx_aft_i, hgx_aft_l, hgx_aft_v, hgx_i2l, hgx_goto, hgx_iconst_1, hgx_ret1, hgv212_0, hgr212_0, hgu212_0, hgv212_13, hgr212_13, hgu212_13, hgv212_15, hgr212_15, hgu212_15, hgI_SI, hgI_SJ, hgJ_SI, hgJ_SJ, if_true, if_false, reduceIte, Nat.reduceEqDiff, hgWf_SI, hgWf_SJ, hgO_SI, hgO_SJ, hgAr_SI, hgAr_SJ, hgRp_SI, hgRp_SJ, hgN_SI, hgN_SJ, hgO_g, hgO_d, hgO_rl, hgO_r, hgO_0, hgO_1, hgO_64, hgO_298, hgO_300, hgCd_0, hgCd_1, hgCd_2, hgCd_3, hgCd_4, hgCd_5, hgRecv_O, hgRecv_99, List.length_cons, List.length_nil, Nat.zero_add, Nat.add_zero, Nat.le_refl, Nat.zero_le, and_self, or_true, true_or, true_and, and_true, ne_eq, not_false_eq_true, Nat.reduceLT, Nat.reduceLeDiff, Nat.reduceAdd, Nat.reduceEqDiff, hgn_eq, hgn_lt, hgn_le, if_true, if_false, reduceIte, Nat.not_lt_zero, hgs_aa_d, hgs_aa_r, hgs_aa_h, hgs_aa_m, hgs_aa_t, hgs_ld_wp, hgs_st_wp, hgs_ld_qf, hgs_st_qf, hgs_ld_qt, hgs_st_qt, hgs_ld_2, hgs_st_2, hgs_ld_3, hgs_st_3, hgs_ld_4, hgs_st_4, hgs_ld_301, hgs_st_301, hgs_ld_D, hgs_st_D, hgs_ld_s, hgs_ld_T, hgs_st_T, hgs_ld_o, hgs_st_o, hgs_ld_b, hgs_st_b, hgs_ld_z, hgs_st_z, hgs_al_b, hgx_alen_s, hw, k]
theorem hgk_212b (h : hgSC M V Hs c) (hx : ¬ ∃ i, i < vN V ∧ x = nI i) : hgWC X 212 [.ref 0, .int x, .ref 325] M = some (.inl (.int (nI 1)), M) := by
  have hw := h.1
  have k := hgk_95b (X := X) h hx
  simp (maxDischargeDepth := 7) only [hgc212, hgM_t, hgM_f, hgM_n, hgx_aload_n_2, hgx_iconst_0, hgx_aload_n_0, hgx_iload_n_1, hgx_invvirtual_2, hgx_aft_h, hgx_aft_e, hgx_aft_i, hgx_aft_l, hgx_aft_v, hgx_i2l, hgx_goto, hgx_iconst_1, hgx_ret1, hgv212_0, hgr212_0, hgu212_0, hgv212_13, hgr212_13, hgu212_13, hgv212_15, hgr212_15, hgu212_15, hgI_SI, hgI_SJ, hgJ_SI, hgJ_SJ, if_true, if_false, reduceIte, Nat.reduceEqDiff, hgWf_SI, hgWf_SJ, hgO_SI, hgO_SJ, hgAr_SI, hgAr_SJ, hgRp_SI, hgRp_SJ, hgN_SI, hgN_SJ, hgO_g, hgO_d, hgO_rl, hgO_r, hgO_0, hgO_1, hgO_64, hgO_298, hgO_300, hgCd_0, hgCd_1, hgCd_2, hgCd_3, hgCd_4, hgCd_5, hgRecv_O, hgRecv_99, List.length_cons, List.length_nil, Nat.zero_add, Nat.add_zero, Nat.le_refl, Nat.zero_le, and_self, or_true, true_or, true_and, and_true, ne_eq, not_false_eq_true, Nat.reduceLT, Nat.reduceLeDiff, Nat.reduceAdd, Nat.reduceEqDiff, hgn_eq, hgn_lt, hgn_le, if_true, if_false, reduceIte, Nat.not_lt_zero, hgs_aa_d, hgs_aa_r, hgs_aa_h, hgs_aa_m, hgs_aa_t, hgs_ld_wp, hgs_st_wp, hgs_ld_qf, hgs_st_qf, hgs_ld_qt, hgs_st_qt, hgs_ld_2, hgs_st_2, hgs_ld_3, hgs_st_3, hgs_ld_4, hgs_st_4, hgs_ld_301, hgs_st_301, hgs_ld_D, hgs_st_D, hgs_ld_s, hgs_ld_T, hgs_st_T, hgs_ld_o, hgs_st_o, hgs_ld_b, hgs_st_b, hgs_ld_z, hgs_st_z, hgs_al_b, hgx_alen_s, hw, k, hgHd]
theorem hgk_178a (h : hgSM M V Hs c) (hi : i < vN V) : hgWC X 178 [.ref 300, .int (nI i)] M = some (.inl (.int (vD V i 8)), hgSI M 300 0 (nI 0)) := by
  have h2 : hgSM (hgSI M 300 0 (nI 0)) V Hs c := hgSM_0 h
  have hw := h.1
  have hm := hgSm_ok h2.2.2.2.1
  have hN := hm.1
  have k := hgk_165a (X := X) h2 hgI_at ⟨i, hi, rfl⟩
  have hd := h2.2.1.2.2.2.2.2.2.2.1 i hi
  have i10 : i < 10 := by omega
  have b9 : 27 + 10 * i + 9 < 20187 := by omega
  have b8 : 27 + 10 * i + 8 < 20187 := by omega
  have b7 : 27 + 10 * i + 7 < 20187 := by omega
  have b4 : 27 + 10 * i + 4 < 20187 := by omega
  have b1 : 27 + 10 * i + 1 < 20187 := by omega
  have e := hd.1 8 (by omega)
  simp (maxDischargeDepth := 7) only [hgc178, hgM_t, hgM_f, hgM_n, hgx_aload_n_0, hgx_iconst_0, hgx_put0, hgx_iload_n_1, hgx_invvirtual_2, hgx_aft_e, hgx_aft_i, hgx_aft_l, hgx_aft_v, hgx_if_eq, hgx_goto, hgs_get_8_8, hgx_invstatic_1, hgx_bipush_8, hgx_iadd, hgx_ret1, hgv178_0, hgr178_0, hgu178_0, hgv178_17, hgr178_17, hgu178_17, hgv178_29, hgr178_29, hgu178_29, hgs_aa_d, hgs_aa_r, hgs_aa_h, hgs_aa_m, hgs_aa_t, hgs_ld_wp, hgs_st_wp, hgs_ld_qf, hgs_st_qf, hgs_ld_qt, hgs_st_qt, hgs_ld_2, hgs_st_2, hgs_ld_3, hgs_st_3, hgs_ld_4, hgs_st_4, hgs_ld_301, hgs_st_301, hgs_ld_D, hgs_st_D, hgs_ld_s, hgs_ld_T, hgs_st_T, hgs_ld_o, hgs_st_o, hgs_ld_b, hgs_st_b, hgs_ld_z, hgs_st_z, hgs_al_b, hgx_alen_s, hgWf_SI, hgWf_SJ, hgO_SI, hgO_SJ, hgAr_SI, hgAr_SJ, hgRp_SI, hgRp_SJ, hgN_SI, hgN_SJ, hgO_g, hgO_d, hgO_rl, hgO_r, hgO_0, hgO_1, hgO_64, hgO_298, hgO_300, hgCd_0, hgCd_1, hgCd_2, hgCd_3, hgCd_4, hgCd_5, hgRecv_O, hgRecv_99, List.length_cons, List.length_nil, Nat.zero_add, Nat.add_zero, Nat.le_refl, Nat.zero_le, and_self, or_true, true_or, true_and, and_true, ne_eq, not_false_eq_true, Nat.reduceLT, Nat.reduceLeDiff, Nat.reduceAdd, Nat.reduceEqDiff, hgn_eq, hgn_lt, hgn_le, if_true, if_false, reduceIte, Nat.not_lt_zero, hgn_add, hgn_mul, if_true, hw, hgAr_302 hw, hgAr_314 hw, k, hgk_128, i10, b9, b8, b7, b4, b1, e]
theorem hgk_178b (h : hgSM M V Hs c) (hx : ¬ ∃ i, i < vN V ∧ x = nI i) : hgWC X 178 [.ref 300, .int x] M = some (.inl (.int (nI 0)), hgSI (hgSI M 300 0 (nI 0)) 300 0 (nI 1)) := by
  have h2 : hgSM (hgSI M 300 0 (nI 0)) V Hs c := hgSM_0 h
  have hw := h.1
  have k := hgk_165b (X := X) h2 hgI_at hx
  simp (maxDischargeDepth := 7) only [hgc178, hgM_t, hgM_f, hgM_n, hgx_aload_n_0, hgx_iconst_0, hgx_put0, hgx_iload_n_1, hgx_invvirtual_2, hgx_aft_e, hgx_aft_i, hgx_aft_l, hgx_aft_v, hgx_if_eq, hgx_goto, hgs_get_8_8, hgx_invstatic_1, hgx_bipush_8, hgx_iadd, hgx_ret1, hgv178_0, hgr178_0, hgu178_0, hgv178_17, hgr178_17, hgu178_17, hgv178_29, hgr178_29, hgu178_29, hgWf_SI, hgWf_SJ, hgO_SI, hgO_SJ, hgAr_SI, hgAr_SJ, hgRp_SI, hgRp_SJ, hgN_SI, hgN_SJ, hgO_g, hgO_d, hgO_rl, hgO_r, hgO_0, hgO_1, hgO_64, hgO_298, hgO_300, hgCd_0, hgCd_1, hgCd_2, hgCd_3, hgCd_4, hgCd_5, hgRecv_O, hgRecv_99, List.length_cons, List.length_nil, Nat.zero_add, Nat.add_zero, Nat.le_refl, Nat.zero_le, and_self, or_true, true_or, true_and, and_true, ne_eq, not_false_eq_true, Nat.reduceLT, Nat.reduceLeDiff, Nat.reduceAdd, Nat.reduceEqDiff, hgn_eq, hgn_lt, hgn_le, if_true, if_false, reduceIte, Nat.not_lt_zero, hw, k]
theorem hgOp_212 (h : hgInv M N) : hgBi X 212 [.ref 0, .int x, .ref 325] 178 [.ref 300, .int x] M N := by
  obtain ⟨V, Hs, c, hc, hC, hR, hH, hb⟩ := h
  by_cases hx : ∃ i, i < vN V ∧ x = nI i
  · obtain ⟨i, hi, rfl⟩ := hx
    have hR2 : hgSM (hgSJ M 325 0 ((vD V i 8).toInt64)) V Hs c := hgSM_C hgFC_o hC.1 hR
    refine ⟨_, _, _, _, hgk_212a hC hi, hgk_178a hR2 hi, hC.1, hgI_at, fun _ => ?_, hgInv_2 hb (hgSC_o hC) hgFC_o (hgSM_0 hR2) hgFR_0 hH (by omega)⟩
    exact hgJ_at
  · refine ⟨_, _, _, _, hgk_212b hC hx, hgk_178b hR hx, hC.1, hgI_at, fun q => absurd q (by decide), hgInv_2 hb hC hgFC_r (hgSM_1 hR) hgFR_1 hH (by omega)⟩
theorem hgk_86 (h : hgSC M V Hs c) : hgWC X 86 [.ref 0] M = some (.inl (.int (nI (vN V))), M) := by
  obtain ⟨hw, g6, _, _, _, _⟩ := hgSC_6 h
  have e := h.2.2.1.2.1
  have o18 : hgO M 18 5 := hgO_rl hw g6
  simp (maxDischargeDepth := 7) only [hgc86, hgM_t, hgM_f, hgM_n, hgx_aload_n_0, hgs_get_7_3, hgx_get0, hgx_ret1, hgv86_0, hgr86_0, hgu86_0, hgI_SI, hgI_SJ, hgJ_SI, hgJ_SJ, if_true, if_false, reduceIte, Nat.reduceEqDiff, hgWf_SI, hgWf_SJ, hgO_SI, hgO_SJ, hgAr_SI, hgAr_SJ, hgRp_SI, hgRp_SJ, hgN_SI, hgN_SJ, hgO_g, hgO_d, hgO_rl, hgO_r, hgO_0, hgO_1, hgO_64, hgO_298, hgO_300, hgCd_0, hgCd_1, hgCd_2, hgCd_3, hgCd_4, hgCd_5, hgRecv_O, hgRecv_99, List.length_cons, List.length_nil, Nat.zero_add, Nat.add_zero, Nat.le_refl, Nat.zero_le, and_self, or_true, true_or, true_and, and_true, ne_eq, not_false_eq_true, Nat.reduceLT, Nat.reduceLeDiff, Nat.reduceAdd, Nat.reduceEqDiff, hgn_eq, hgn_lt, hgn_le, if_true, if_false, reduceIte, Nat.not_lt_zero, hw, g6, e, o18]
theorem hgk_168 (h : hgSM M V Hs c) : hgWC X 168 [.ref 300] M = some (.inl (.int (nI (vN V))), hgSI M 300 0 (nI 0)) := by
  have h2 : hgSM (hgSI M 300 0 (nI 0)) V Hs c := hgSM_0 h
  have hw := h.1
  have e := h2.2.1.2.2.2.1
  simp (maxDischargeDepth := 7) only [hgc168, hgM_t, hgM_f, hgM_n, hgx_aload_n_0, hgx_iconst_0, hgx_put0, hgs_get_8_8, hgx_ret1, hgv168_0, hgr168_0, hgu168_0, hgs_aa_d, hgs_aa_r, hgs_aa_h, hgs_aa_m, hgs_aa_t, hgs_ld_wp, hgs_st_wp, hgs_ld_qf, hgs_st_qf, hgs_ld_qt, hgs_st_qt, hgs_ld_2, hgs_st_2, hgs_ld_3, hgs_st_3, hgs_ld_4, hgs_st_4, hgs_ld_301, hgs_st_301, hgs_ld_D, hgs_st_D, hgs_ld_s, hgs_ld_T, hgs_st_T, hgs_ld_o, hgs_st_o, hgs_ld_b, hgs_st_b, hgs_ld_z, hgs_st_z, hgs_al_b, hgx_alen_s, hgWf_SI, hgWf_SJ, hgO_SI, hgO_SJ, hgAr_SI, hgAr_SJ, hgRp_SI, hgRp_SJ, hgN_SI, hgN_SJ, hgO_g, hgO_d, hgO_rl, hgO_r, hgO_0, hgO_1, hgO_64, hgO_298, hgO_300, hgCd_0, hgCd_1, hgCd_2, hgCd_3, hgCd_4, hgCd_5, hgRecv_O, hgRecv_99, List.length_cons, List.length_nil, Nat.zero_add, Nat.add_zero, Nat.le_refl, Nat.zero_le, and_self, or_true, true_or, true_and, and_true, ne_eq, not_false_eq_true, Nat.reduceLT, Nat.reduceLeDiff, Nat.reduceAdd, Nat.reduceEqDiff, hgn_eq, hgn_lt, hgn_le, if_true, if_false, reduceIte, Nat.not_lt_zero, hw, hgAr_302 hw, e]
theorem hgOp_86 (h : hgInv M N) : hgAi X 86 [.ref 0] 168 [.ref 300] M N := by
  obtain ⟨V, Hs, c, hc, hC, hR, hH, hb⟩ := h
  exact ⟨_, _, _, hgk_86 hC, hgk_168 hR, hC.1, hgInv_2 hb hC hgFC_r (hgSM_0 hR) hgFR_0 hH (by omega)⟩
theorem hgk_87 (h : hgSC M V Hs c) : hgWC X 87 [.ref 0] M = some (.inl (.int (nI (vR V))), M) := by
  obtain ⟨hw, g6, _, _, _, _⟩ := hgSC_6 h
  have e := h.2.2.1.2.2.1
  have o18 : hgO M 18 5 := hgO_rl hw g6
  simp (maxDischargeDepth := 7) only [hgc87, hgM_t, hgM_f, hgM_n, hgx_aload_n_0, hgs_get_7_3, hgs_get_1_7, hgx_get0, hgx_ret1, hgv87_0, hgr87_0, hgu87_0, hgI_SI, hgI_SJ, hgJ_SI, hgJ_SJ, if_true, if_false, reduceIte, Nat.reduceEqDiff, hgWf_SI, hgWf_SJ, hgO_SI, hgO_SJ, hgAr_SI, hgAr_SJ, hgRp_SI, hgRp_SJ, hgN_SI, hgN_SJ, hgO_g, hgO_d, hgO_rl, hgO_r, hgO_0, hgO_1, hgO_64, hgO_298, hgO_300, hgCd_0, hgCd_1, hgCd_2, hgCd_3, hgCd_4, hgCd_5, hgRecv_O, hgRecv_99, List.length_cons, List.length_nil, Nat.zero_add, Nat.add_zero, Nat.le_refl, Nat.zero_le, and_self, or_true, true_or, true_and, and_true, ne_eq, not_false_eq_true, Nat.reduceLT, Nat.reduceLeDiff, Nat.reduceAdd, Nat.reduceEqDiff, hgn_eq, hgn_lt, hgn_le, if_true, if_false, reduceIte, Nat.not_lt_zero, hw, g6, e, o18]
theorem hgk_169 (h : hgSM M V Hs c) : hgWC X 169 [.ref 300] M = some (.inl (.int (nI (vR V))), hgSI M 300 0 (nI 0)) := by
  have h2 : hgSM (hgSI M 300 0 (nI 0)) V Hs c := hgSM_0 h
  have hw := h.1
  have e := h2.2.1.2.2.2.2.1
  simp (maxDischargeDepth := 7) only [hgc169, hgM_t, hgM_f, hgM_n, hgx_aload_n_0, hgx_iconst_0, hgx_put0, hgs_get_8_8, hgx_iconst_1, hgx_ret1, hgv169_0, hgr169_0, hgu169_0, hgs_aa_d, hgs_aa_r, hgs_aa_h, hgs_aa_m, hgs_aa_t, hgs_ld_wp, hgs_st_wp, hgs_ld_qf, hgs_st_qf, hgs_ld_qt, hgs_st_qt, hgs_ld_2, hgs_st_2, hgs_ld_3, hgs_st_3, hgs_ld_4, hgs_st_4, hgs_ld_301, hgs_st_301, hgs_ld_D, hgs_st_D, hgs_ld_s, hgs_ld_T, hgs_st_T, hgs_ld_o, hgs_st_o, hgs_ld_b, hgs_st_b, hgs_ld_z, hgs_st_z, hgs_al_b, hgx_alen_s, hgWf_SI, hgWf_SJ, hgO_SI, hgO_SJ, hgAr_SI, hgAr_SJ, hgRp_SI, hgRp_SJ, hgN_SI, hgN_SJ, hgO_g, hgO_d, hgO_rl, hgO_r, hgO_0, hgO_1, hgO_64, hgO_298, hgO_300, hgCd_0, hgCd_1, hgCd_2, hgCd_3, hgCd_4, hgCd_5, hgRecv_O, hgRecv_99, List.length_cons, List.length_nil, Nat.zero_add, Nat.add_zero, Nat.le_refl, Nat.zero_le, and_self, or_true, true_or, true_and, and_true, ne_eq, not_false_eq_true, Nat.reduceLT, Nat.reduceLeDiff, Nat.reduceAdd, Nat.reduceEqDiff, hgn_eq, hgn_lt, hgn_le, if_true, if_false, reduceIte, Nat.not_lt_zero, hw, hgAr_302 hw, e]
theorem hgOp_87 (h : hgInv M N) : hgAi X 87 [.ref 0] 169 [.ref 300] M N := by
  obtain ⟨V, Hs, c, hc, hC, hR, hH, hb⟩ := h
  exact ⟨_, _, _, hgk_87 hC, hgk_169 hR, hC.1, hgInv_2 hb hC hgFC_r (hgSM_0 hR) hgFR_0 hH (by omega)⟩
theorem hgk_88 (h : hgSC M V Hs c) : hgWC X 88 [.ref 0] M = some (.inl (.int (vS V 3)), M) := by
  obtain ⟨hw, g6, _, _, _, _⟩ := hgSC_6 h
  have e := h.2.2.1.2.2.2.2.1
  have o18 : hgO M 18 5 := hgO_rl hw g6
  simp (maxDischargeDepth := 7) only [hgc88, hgM_t, hgM_f, hgM_n, hgx_aload_n_0, hgs_get_7_3, hgx_get0, hgx_ret1, hgv88_0, hgr88_0, hgu88_0, hgI_SI, hgI_SJ, hgJ_SI, hgJ_SJ, if_true, if_false, reduceIte, Nat.reduceEqDiff, hgWf_SI, hgWf_SJ, hgO_SI, hgO_SJ, hgAr_SI, hgAr_SJ, hgRp_SI, hgRp_SJ, hgN_SI, hgN_SJ, hgO_g, hgO_d, hgO_rl, hgO_r, hgO_0, hgO_1, hgO_64, hgO_298, hgO_300, hgCd_0, hgCd_1, hgCd_2, hgCd_3, hgCd_4, hgCd_5, hgRecv_O, hgRecv_99, List.length_cons, List.length_nil, Nat.zero_add, Nat.add_zero, Nat.le_refl, Nat.zero_le, and_self, or_true, true_or, true_and, and_true, ne_eq, not_false_eq_true, Nat.reduceLT, Nat.reduceLeDiff, Nat.reduceAdd, Nat.reduceEqDiff, hgn_eq, hgn_lt, hgn_le, if_true, if_false, reduceIte, Nat.not_lt_zero, hw, g6, e, o18]
theorem hgk_170 (h : hgSM M V Hs c) : hgWC X 170 [.ref 300] M = some (.inl (.int (vS V 3)), hgSI M 300 0 (nI 0)) := by
  have h2 : hgSM (hgSI M 300 0 (nI 0)) V Hs c := hgSM_0 h
  have hw := h.1
  have e := h2.2.1.2.2.2.2.2.2.1 3 (by omega) (by omega)
  simp (maxDischargeDepth := 7) only [hgc170, hgM_t, hgM_f, hgM_n, hgx_aload_n_0, hgx_iconst_0, hgx_put0, hgs_get_8_8, hgx_iconst_3, hgx_ret1, hgv170_0, hgr170_0, hgu170_0, hgs_aa_d, hgs_aa_r, hgs_aa_h, hgs_aa_m, hgs_aa_t, hgs_ld_wp, hgs_st_wp, hgs_ld_qf, hgs_st_qf, hgs_ld_qt, hgs_st_qt, hgs_ld_2, hgs_st_2, hgs_ld_3, hgs_st_3, hgs_ld_4, hgs_st_4, hgs_ld_301, hgs_st_301, hgs_ld_D, hgs_st_D, hgs_ld_s, hgs_ld_T, hgs_st_T, hgs_ld_o, hgs_st_o, hgs_ld_b, hgs_st_b, hgs_ld_z, hgs_st_z, hgs_al_b, hgx_alen_s, hgWf_SI, hgWf_SJ, hgO_SI, hgO_SJ, hgAr_SI, hgAr_SJ, hgRp_SI, hgRp_SJ, hgN_SI, hgN_SJ, hgO_g, hgO_d, hgO_rl, hgO_r, hgO_0, hgO_1, hgO_64, hgO_298, hgO_300, hgCd_0, hgCd_1, hgCd_2, hgCd_3, hgCd_4, hgCd_5, hgRecv_O, hgRecv_99, List.length_cons, List.length_nil, Nat.zero_add, Nat.add_zero, Nat.le_refl, Nat.zero_le, and_self, or_true, true_or, true_and, and_true, ne_eq, not_false_eq_true, Nat.reduceLT, Nat.reduceLeDiff, Nat.reduceAdd, Nat.reduceEqDiff, hgn_eq, hgn_lt, hgn_le, if_true, if_false, reduceIte, Nat.not_lt_zero, hw, hgAr_302 hw, e]
theorem hgOp_88 (h : hgInv M N) : hgAi X 88 [.ref 0] 170 [.ref 300] M N := by
  obtain ⟨V, Hs, c, hc, hC, hR, hH, hb⟩ := h
  exact ⟨_, _, _, hgk_88 hC, hgk_170 hR, hC.1, hgInv_2 hb hC hgFC_r (hgSM_0 hR) hgFR_0 hH (by omega)⟩
theorem hgk_96 (h : hgSC M V Hs c) : hgWC X 96 [.ref 0] M = some (.inl (.int (vS V 7)), M) := by
  obtain ⟨hw, g6, _, _, _, _⟩ := hgSC_6 h
  have e := h.2.2.1.2.2.2.2.2.2.2.2.1
  have o18 : hgO M 18 5 := hgO_rl hw g6
  simp (maxDischargeDepth := 7) only [hgc96, hgM_t, hgM_f, hgM_n, hgx_aload_n_0, hgs_get_7_3, hgx_get0, hgx_ret1, hgv96_0, hgr96_0, hgu96_0, hgI_SI, hgI_SJ, hgJ_SI, hgJ_SJ, if_true, if_false, reduceIte, Nat.reduceEqDiff, hgWf_SI, hgWf_SJ, hgO_SI, hgO_SJ, hgAr_SI, hgAr_SJ, hgRp_SI, hgRp_SJ, hgN_SI, hgN_SJ, hgO_g, hgO_d, hgO_rl, hgO_r, hgO_0, hgO_1, hgO_64, hgO_298, hgO_300, hgCd_0, hgCd_1, hgCd_2, hgCd_3, hgCd_4, hgCd_5, hgRecv_O, hgRecv_99, List.length_cons, List.length_nil, Nat.zero_add, Nat.add_zero, Nat.le_refl, Nat.zero_le, and_self, or_true, true_or, true_and, and_true, ne_eq, not_false_eq_true, Nat.reduceLT, Nat.reduceLeDiff, Nat.reduceAdd, Nat.reduceEqDiff, hgn_eq, hgn_lt, hgn_le, if_true, if_false, reduceIte, Nat.not_lt_zero, hw, g6, e, o18]
theorem hgk_179 (h : hgSM M V Hs c) : hgWC X 179 [.ref 300] M = some (.inl (.int (vS V 7)), hgSI M 300 0 (nI 0)) := by
  have h2 : hgSM (hgSI M 300 0 (nI 0)) V Hs c := hgSM_0 h
  have hw := h.1
  have e := h2.2.1.2.2.2.2.2.2.1 7 (by omega) (by omega)
  simp (maxDischargeDepth := 7) only [hgc179, hgM_t, hgM_f, hgM_n, hgx_aload_n_0, hgx_iconst_0, hgx_put0, hgs_get_8_8, hgx_bipush_7, hgx_ret1, hgv179_0, hgr179_0, hgu179_0, hgs_aa_d, hgs_aa_r, hgs_aa_h, hgs_aa_m, hgs_aa_t, hgs_ld_wp, hgs_st_wp, hgs_ld_qf, hgs_st_qf, hgs_ld_qt, hgs_st_qt, hgs_ld_2, hgs_st_2, hgs_ld_3, hgs_st_3, hgs_ld_4, hgs_st_4, hgs_ld_301, hgs_st_301, hgs_ld_D, hgs_st_D, hgs_ld_s, hgs_ld_T, hgs_st_T, hgs_ld_o, hgs_st_o, hgs_ld_b, hgs_st_b, hgs_ld_z, hgs_st_z, hgs_al_b, hgx_alen_s, hgWf_SI, hgWf_SJ, hgO_SI, hgO_SJ, hgAr_SI, hgAr_SJ, hgRp_SI, hgRp_SJ, hgN_SI, hgN_SJ, hgO_g, hgO_d, hgO_rl, hgO_r, hgO_0, hgO_1, hgO_64, hgO_298, hgO_300, hgCd_0, hgCd_1, hgCd_2, hgCd_3, hgCd_4, hgCd_5, hgRecv_O, hgRecv_99, List.length_cons, List.length_nil, Nat.zero_add, Nat.add_zero, Nat.le_refl, Nat.zero_le, and_self, or_true, true_or, true_and, and_true, ne_eq, not_false_eq_true, Nat.reduceLT, Nat.reduceLeDiff, Nat.reduceAdd, Nat.reduceEqDiff, hgn_eq, hgn_lt, hgn_le, if_true, if_false, reduceIte, Nat.not_lt_zero, hw, hgAr_302 hw, e]
theorem hgOp_96 (h : hgInv M N) : hgAi X 96 [.ref 0] 179 [.ref 300] M N := by
  obtain ⟨V, Hs, c, hc, hC, hR, hH, hb⟩ := h
  exact ⟨_, _, _, hgk_96 hC, hgk_179 hR, hC.1, hgInv_2 hb hC hgFC_r (hgSM_0 hR) hgFR_0 hH (by omega)⟩
theorem hgk_97 (h : hgSC M V Hs c) : hgWC X 97 [.ref 0] M = some (.inl (.int (vS V 8)), M) := by
  obtain ⟨hw, g6, _, _, _, _⟩ := hgSC_6 h
  have e := h.2.2.1.2.2.2.2.2.2.2.2.2.1
  have o18 : hgO M 18 5 := hgO_rl hw g6
  simp (maxDischargeDepth := 7) only [hgc97, hgM_t, hgM_f, hgM_n, hgx_aload_n_0, hgs_get_7_3, hgx_get0, hgx_ret1, hgv97_0, hgr97_0, hgu97_0, hgI_SI, hgI_SJ, hgJ_SI, hgJ_SJ, if_true, if_false, reduceIte, Nat.reduceEqDiff, hgWf_SI, hgWf_SJ, hgO_SI, hgO_SJ, hgAr_SI, hgAr_SJ, hgRp_SI, hgRp_SJ, hgN_SI, hgN_SJ, hgO_g, hgO_d, hgO_rl, hgO_r, hgO_0, hgO_1, hgO_64, hgO_298, hgO_300, hgCd_0, hgCd_1, hgCd_2, hgCd_3, hgCd_4, hgCd_5, hgRecv_O, hgRecv_99, List.length_cons, List.length_nil, Nat.zero_add, Nat.add_zero, Nat.le_refl, Nat.zero_le, and_self, or_true, true_or, true_and, and_true, ne_eq, not_false_eq_true, Nat.reduceLT, Nat.reduceLeDiff, Nat.reduceAdd, Nat.reduceEqDiff, hgn_eq, hgn_lt, hgn_le, if_true, if_false, reduceIte, Nat.not_lt_zero, hw, g6, e, o18]
theorem hgk_180 (h : hgSM M V Hs c) : hgWC X 180 [.ref 300] M = some (.inl (.int (vS V 8)), hgSI M 300 0 (nI 0)) := by
  have h2 : hgSM (hgSI M 300 0 (nI 0)) V Hs c := hgSM_0 h
  have hw := h.1
  have e := h2.2.1.2.2.2.2.2.2.1 8 (by omega) (by omega)
  simp (maxDischargeDepth := 7) only [hgc180, hgM_t, hgM_f, hgM_n, hgx_aload_n_0, hgx_iconst_0, hgx_put0, hgs_get_8_8, hgx_bipush_8, hgx_ret1, hgv180_0, hgr180_0, hgu180_0, hgs_aa_d, hgs_aa_r, hgs_aa_h, hgs_aa_m, hgs_aa_t, hgs_ld_wp, hgs_st_wp, hgs_ld_qf, hgs_st_qf, hgs_ld_qt, hgs_st_qt, hgs_ld_2, hgs_st_2, hgs_ld_3, hgs_st_3, hgs_ld_4, hgs_st_4, hgs_ld_301, hgs_st_301, hgs_ld_D, hgs_st_D, hgs_ld_s, hgs_ld_T, hgs_st_T, hgs_ld_o, hgs_st_o, hgs_ld_b, hgs_st_b, hgs_ld_z, hgs_st_z, hgs_al_b, hgx_alen_s, hgWf_SI, hgWf_SJ, hgO_SI, hgO_SJ, hgAr_SI, hgAr_SJ, hgRp_SI, hgRp_SJ, hgN_SI, hgN_SJ, hgO_g, hgO_d, hgO_rl, hgO_r, hgO_0, hgO_1, hgO_64, hgO_298, hgO_300, hgCd_0, hgCd_1, hgCd_2, hgCd_3, hgCd_4, hgCd_5, hgRecv_O, hgRecv_99, List.length_cons, List.length_nil, Nat.zero_add, Nat.add_zero, Nat.le_refl, Nat.zero_le, and_self, or_true, true_or, true_and, and_true, ne_eq, not_false_eq_true, Nat.reduceLT, Nat.reduceLeDiff, Nat.reduceAdd, Nat.reduceEqDiff, hgn_eq, hgn_lt, hgn_le, if_true, if_false, reduceIte, Nat.not_lt_zero, hw, hgAr_302 hw, e]
theorem hgOp_97 (h : hgInv M N) : hgAi X 97 [.ref 0] 180 [.ref 300] M N := by
  obtain ⟨V, Hs, c, hc, hC, hR, hH, hb⟩ := h
  exact ⟨_, _, _, hgk_97 hC, hgk_180 hR, hC.1, hgInv_2 hb hC hgFC_r (hgSM_0 hR) hgFR_0 hH (by omega)⟩
theorem hgk_98 (h : hgSC M V Hs c) : hgWC X 98 [.ref 0] M = some (.inl (.int (vS V 9)), M) := by
  obtain ⟨hw, g6, _, _, _, _⟩ := hgSC_6 h
  have e := h.2.2.1.2.2.2.2.2.2.2.2.2.2.1
  have o18 : hgO M 18 5 := hgO_rl hw g6
  simp (maxDischargeDepth := 7) only [hgc98, hgM_t, hgM_f, hgM_n, hgx_aload_n_0, hgs_get_7_3, hgx_get0, hgx_ret1, hgv98_0, hgr98_0, hgu98_0, hgI_SI, hgI_SJ, hgJ_SI, hgJ_SJ, if_true, if_false, reduceIte, Nat.reduceEqDiff, hgWf_SI, hgWf_SJ, hgO_SI, hgO_SJ, hgAr_SI, hgAr_SJ, hgRp_SI, hgRp_SJ, hgN_SI, hgN_SJ, hgO_g, hgO_d, hgO_rl, hgO_r, hgO_0, hgO_1, hgO_64, hgO_298, hgO_300, hgCd_0, hgCd_1, hgCd_2, hgCd_3, hgCd_4, hgCd_5, hgRecv_O, hgRecv_99, List.length_cons, List.length_nil, Nat.zero_add, Nat.add_zero, Nat.le_refl, Nat.zero_le, and_self, or_true, true_or, true_and, and_true, ne_eq, not_false_eq_true, Nat.reduceLT, Nat.reduceLeDiff, Nat.reduceAdd, Nat.reduceEqDiff, hgn_eq, hgn_lt, hgn_le, if_true, if_false, reduceIte, Nat.not_lt_zero, hw, g6, e, o18]
theorem hgk_181 (h : hgSM M V Hs c) : hgWC X 181 [.ref 300] M = some (.inl (.int (vS V 9)), hgSI M 300 0 (nI 0)) := by
  have h2 : hgSM (hgSI M 300 0 (nI 0)) V Hs c := hgSM_0 h
  have hw := h.1
  have e := h2.2.1.2.2.2.2.2.2.1 9 (by omega) (by omega)
  simp (maxDischargeDepth := 7) only [hgc181, hgM_t, hgM_f, hgM_n, hgx_aload_n_0, hgx_iconst_0, hgx_put0, hgs_get_8_8, hgx_bipush_9, hgx_ret1, hgv181_0, hgr181_0, hgu181_0, hgs_aa_d, hgs_aa_r, hgs_aa_h, hgs_aa_m, hgs_aa_t, hgs_ld_wp, hgs_st_wp, hgs_ld_qf, hgs_st_qf, hgs_ld_qt, hgs_st_qt, hgs_ld_2, hgs_st_2, hgs_ld_3, hgs_st_3, hgs_ld_4, hgs_st_4, hgs_ld_301, hgs_st_301, hgs_ld_D, hgs_st_D, hgs_ld_s, hgs_ld_T, hgs_st_T, hgs_ld_o, hgs_st_o, hgs_ld_b, hgs_st_b, hgs_ld_z, hgs_st_z, hgs_al_b, hgx_alen_s, hgWf_SI, hgWf_SJ, hgO_SI, hgO_SJ, hgAr_SI, hgAr_SJ, hgRp_SI, hgRp_SJ, hgN_SI, hgN_SJ, hgO_g, hgO_d, hgO_rl, hgO_r, hgO_0, hgO_1, hgO_64, hgO_298, hgO_300, hgCd_0, hgCd_1, hgCd_2, hgCd_3, hgCd_4, hgCd_5, hgRecv_O, hgRecv_99, List.length_cons, List.length_nil, Nat.zero_add, Nat.add_zero, Nat.le_refl, Nat.zero_le, and_self, or_true, true_or, true_and, and_true, ne_eq, not_false_eq_true, Nat.reduceLT, Nat.reduceLeDiff, Nat.reduceAdd, Nat.reduceEqDiff, hgn_eq, hgn_lt, hgn_le, if_true, if_false, reduceIte, Nat.not_lt_zero, hw, hgAr_302 hw, e]
theorem hgOp_98 (h : hgInv M N) : hgAi X 98 [.ref 0] 181 [.ref 300] M N := by
  obtain ⟨V, Hs, c, hc, hC, hR, hH, hb⟩ := h
  exact ⟨_, _, _, hgk_98 hC, hgk_181 hR, hC.1, hgInv_2 hb hC hgFC_r (hgSM_0 hR) hgFR_0 hH (by omega)⟩
theorem hgOp_85 (h : hgInv M N) : hgAi X 85 [.ref 0] 155 [.ref 300] M N := by
  obtain ⟨V, Hs, c, hc, hC, hR, hH, hb⟩ := h
  have hw := hC.1
  have e : hgI M 0 2 = hgI M 300 7 := by
    obtain ⟨bl, b1, b2, b3, b4, b5⟩ := hb
    exact b4
  have k1 : hgWC X 85 [.ref 0] M = some (.inl (.int (hgI M 300 7)), M) := by
    simp (maxDischargeDepth := 7) only [hgc85, hgM_t, hgM_f, hgM_n, hgx_aload_n_0, hgx_get0, hgx_ret1, hgv85_0, hgr85_0, hgu85_0, hgI_SI, hgI_SJ, hgJ_SI, hgJ_SJ, if_true, if_false, reduceIte, Nat.reduceEqDiff, hgWf_SI, hgWf_SJ, hgO_SI, hgO_SJ, hgAr_SI, hgAr_SJ, hgRp_SI, hgRp_SJ, hgN_SI, hgN_SJ, hgO_g, hgO_d, hgO_rl, hgO_r, hgO_0, hgO_1, hgO_64, hgO_298, hgO_300, hgCd_0, hgCd_1, hgCd_2, hgCd_3, hgCd_4, hgCd_5, hgRecv_O, hgRecv_99, List.length_cons, List.length_nil, Nat.zero_add, Nat.add_zero, Nat.le_refl, Nat.zero_le, and_self, or_true, true_or, true_and, and_true, ne_eq, not_false_eq_true, Nat.reduceLT, Nat.reduceLeDiff, Nat.reduceAdd, Nat.reduceEqDiff, hgn_eq, hgn_lt, hgn_le, if_true, if_false, reduceIte, Nat.not_lt_zero, hw, e]
  have k2 : hgWC X 155 [.ref 300] M = some (.inl (.int (hgI M 300 7)), hgSI M 300 0 (nI 0)) := by
    simp (maxDischargeDepth := 7) only [hgc155, hgM_t, hgM_f, hgM_n, hgx_aload_n_0, hgx_iconst_0, hgx_put0, hgx_get0, hgx_ret1, hgv155_0, hgr155_0, hgu155_0, hgI_SI, hgI_SJ, hgJ_SI, hgJ_SJ, if_true, if_false, reduceIte, Nat.reduceEqDiff, hgWf_SI, hgWf_SJ, hgO_SI, hgO_SJ, hgAr_SI, hgAr_SJ, hgRp_SI, hgRp_SJ, hgN_SI, hgN_SJ, hgO_g, hgO_d, hgO_rl, hgO_r, hgO_0, hgO_1, hgO_64, hgO_298, hgO_300, hgCd_0, hgCd_1, hgCd_2, hgCd_3, hgCd_4, hgCd_5, hgRecv_O, hgRecv_99, List.length_cons, List.length_nil, Nat.zero_add, Nat.add_zero, Nat.le_refl, Nat.zero_le, and_self, or_true, true_or, true_and, and_true, ne_eq, not_false_eq_true, Nat.reduceLT, Nat.reduceLeDiff, Nat.reduceAdd, Nat.reduceEqDiff, hgn_eq, hgn_lt, hgn_le, if_true, if_false, reduceIte, Nat.not_lt_zero, hw]
  exact ⟨_, _, _, k1, k2, hC.1, hgInv_2 hb hC hgFC_r (hgSM_0 hR) hgFR_0 hH (by omega)⟩
end HGINV

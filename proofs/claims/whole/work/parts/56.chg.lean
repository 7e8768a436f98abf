/-! OPERATIONS THAT CHANGE the current picture: the history's order; sleep, wake, setWeight. -/
/-- every queue of V' is an end of V's queue -/
def hgSub (V V' : hgV) : Prop := ∀ b, b < vN V' → vB V' b = [] ∨ (b < vN V ∧ ∃ k, vB V' b = (vB V b).drop k)
theorem hgLast_drop {l : Nat} : ∀ {q : List Nat} {k : Nat}, (q.drop k).getLast? = some l → q.getLast? = some l
  | q, 0, h => h
  | [], k + 1, h => by rw [List.drop_nil] at h; exact h
  | a :: q, k + 1, h => by
    rw [List.drop_succ_cons] at h
    have := hgLast_drop h
    cases q with
    | nil => rw [List.getLast?_nil] at this; cases this
    | cons b r => rw [List.getLast?_cons_cons]; exact this
theorem hgDropLast_drop {l : Nat} : ∀ {q : List Nat} {k : Nat}, l ∈ (q.drop k).dropLast → l ∈ q.dropLast
  | q, 0, h => h
  | [], k + 1, h => by rw [List.drop_nil] at h; exact h
  | a :: q, k + 1, h => by
    rw [List.drop_succ_cons] at h
    have := hgDropLast_drop h
    cases q with
    | nil => cases this
    | cons b r => rw [List.dropLast_cons_of_ne_nil (by simp)]; exact List.mem_cons_of_mem _ this
section HGCHG
variable {X : hgX} {M M' M1 M2 : hgMem} {d t g h i j q c k a b n p N l r : Nat} {V V' V1 W U : hgV} {Hs Hs' : List hgV} {x y z x1 x2 x3 x4 x5 ans : Int32} {u : Int64} {P : Nat → Prop} {o : Option Nat} {S : Nat → Bool}
theorem hgSub_r : hgSub V V := fun b hb => Or.inr ⟨hb, 0, rfl⟩
theorem hgSub_e (h1 : vN V' = vN V) (h2 : vB V' = vB V) : hgSub V V' := fun b hb => Or.inr ⟨by omega, 0, by rw [h2]; rfl⟩
theorem hgSub_t (h1 : hgSub V V1) (h2 : hgSub V1 V') : hgSub V V' := fun b hb => by
  rcases h2 b hb with e | ⟨hb1, k, e⟩
  · exact Or.inl e
  · rcases h1 b hb1 with e1 | ⟨hb2, k1, e1⟩
    · exact Or.inl (by rw [e, e1, List.drop_nil])
    · exact Or.inr ⟨hb2, k1 + k, by rw [e, e1, List.drop_drop]⟩
theorem hgLs_sub (h : hgLs U V) (hs : hgSub V V') : hgLs U V' := fun a ha b hb l hl => by
  rcases hs b hb with e | ⟨hb1, k, e⟩
  · rw [e] at hl; cases hl
  · rw [e] at hl
    exact h a ha b hb1 l (hgLast_drop hl)
theorem hgLs_sub2 (h : hgLs V V) (hs : hgSub V V') : hgLs V' V' := fun a ha b hb l hl hm => by
  rcases hs a ha with e | ⟨ha1, k, e⟩
  · rw [e] at hm; cases hm
  · rw [e] at hm
    exact hgLs_sub h hs a ha1 b hb l hl (hgDropLast_drop hm)
theorem hgSf_sub (h : hgSf V) (hs : hgSub V V') : hgSf V' := fun a ha b hb hab l hl hm => by
  rcases hs a ha with e | ⟨ha1, k, e⟩
  · rw [e] at hm; cases hm
  · rcases hs b hb with e2 | ⟨hb1, k2, e2⟩
    · rw [e2] at hl; cases hl
    · rw [e] at hm
      rw [e2] at hl
      exact h a ha1 b hb1 hab l (hgLast_drop hl) (List.mem_of_mem_drop hm)
theorem hgHi_3 (h : hgHi V Hs) : hgLs V V ∧ hgSf V ∧ hgCk V := by
  cases Hs with
  | nil => exact h
  | cons W Hs => exact ⟨h.1, h.2.1, h.2.2.1⟩
theorem hgHi_all (h : hgHi V Hs) : ∀ U ∈ V :: Hs, hgLs U V := by
  cases Hs with
  | nil =>
    intro U hU
    rcases List.mem_cons.mp hU with e | e
    · rw [e]; exact h.1
    · cases e
  | cons W Hs =>
    intro U hU
    rcases List.mem_cons.mp hU with e | e
    · rw [e]; exact h.1
    · exact h.2.2.2.1 U e
theorem hgHi_take : ∀ {Hs : List hgV} {V : hgV} {n : Nat}, hgHi V Hs → hgHi V (Hs.take n)
  | [], V, n, h => by rw [List.take_nil]; exact h
  | W :: Hs, V, 0, h => ⟨h.1, h.2.1, h.2.2.1⟩
  | W :: Hs, V, n + 1, h => by
    rw [List.take_succ_cons]
    exact ⟨h.1, h.2.1, h.2.2.1, fun U hU => h.2.2.2.1 U (by
      rcases List.mem_cons.mp hU with e | e
      · rw [e]; exact List.mem_cons_self
      · exact List.mem_cons_of_mem _ (List.mem_of_mem_take e)), hgHi_take h.2.2.2.2⟩
theorem hgHi_sub (h : hgHi V Hs) (hs : hgSub V V') (hc : hgCk V') : hgHi V' ((V :: Hs).take 8) :=
  hgHi_take ⟨hgLs_sub2 (hgHi_3 h).1 hs, hgSf_sub (hgHi_3 h).2.1 hs, hc, fun U hU => hgLs_sub (hgHi_all h U hU) hs, h⟩
/-- the current picture is changed -/
theorem hgSC_cur (h : hgSC M V Hs c) (f : hgFm P M M') (hP : ∀ b, P b → 6 ≤ b ∧ b < 35) (hw : hgWf M') (hv : hgCV M' 6 V') (hk : hgVok V' c) : hgSC M' V' Hs c := by
  obtain ⟨a1, a2, a3, a4, a5, a6, nx, n1, n2, n3, n4⟩ := h
  have o : ∀ b, b < 6 ∨ 35 ≤ b → ¬ P b := fun b hb z => by have := hP b z; omega
  exact ⟨hw, by rw [(f.2 1 (o _ (by omega)) 3).1]; exact a2, hv, a4, hk, a6, nx, n1, by rw [(f.2 64 (o _ (by omega)) 1).1]; exact n2, by rw [(f.2 64 (o _ (by omega)) 2).1]; exact n3, fun k hk => hgCV_fm a1 (hgSm_ok (a6 _ (hgGd_mem hk))) f (fun b hb => by have := hP b hb; omega) (n4 k hk)⟩
theorem hgSM_cur (h : hgSM M V Hs c) (f : hgFm P M M') (hP : ∀ b, P b → b = 302 ∨ b = 314) (hw : hgWf M') (hv : hgRV M' 302 314 V') (hk : hgVok V' c) : hgSM M' V' Hs c := by
  obtain ⟨a1, a2, a3, a4, a5, a6, a7⟩ := h
  have o : ∀ b, b ≠ 302 → b ≠ 314 → ¬ P b := fun b h1 h2 z => by have := hP b z; omega
  exact ⟨hw, hv, a3, hk, a5, by rw [(f.2 300 (o _ (by omega) (by omega)) 15).1]; exact a6, fun j hj => hgRV_to f.1 (fun k => (f.2 _ (o _ (by omega) (by omega)) k).1) (fun k => (f.2 _ (o _ (by omega) (by omega)) k).2.1) (a7 j hj)⟩
theorem hgVok_d5 (hk : hgVok V c) (hx : ∃ w, w ≤ 9 ∧ x = nI w) : hgVok (vSd V i 5 x) c := by
  obtain ⟨k1, k2, k3, k4, k5⟩ := hk
  refine ⟨k1, k2, k3, fun j hj => ?_, k5⟩
  have w := k4 j hj
  simp only [vN_ss, vR_ss, vW_ss, vS_ss, vD_ss, vT_ss, vQ_ss, vU_ss, vP_ss, vH_ss, vB_ss, vN_sd, vR_sd, vW_sd, vS_sd, vD_sd, vT_sd, vQ_sd, vU_sd, vP_sd, vH_sd, vB_sd, vN_st, vR_st, vW_st, vS_st, vD_st, vT_st, vQ_st, vU_st, vP_st, vH_st, vB_st, vN_sq, vR_sq, vW_sq, vS_sq, vD_sq, vT_sq, vQ_sq, vU_sq, vP_sq, vH_sq, vB_sq, Nat.reduceEqDiff, and_false, if_false, reduceIte, and_true]
  obtain ⟨w1, w2, w3, w4, w5, w6, w7⟩ := w
  refine ⟨w1, w2, w3, w4, w5, ?_, w7⟩
  by_cases e : j = i
  · rw [if_pos e]; exact hx
  · rw [if_neg e]; exact w6
theorem hgVok_d1 (hk : hgVok V c) (hx : ∃ w, 1 ≤ w ∧ w ≤ 9 ∧ x = nI w) : hgVok (vSd V i 1 x) c := by
  obtain ⟨k1, k2, k3, k4, k5⟩ := hk
  refine ⟨k1, k2, k3, fun j hj => ?_, k5⟩
  have w := k4 j hj
  simp only [vN_ss, vR_ss, vW_ss, vS_ss, vD_ss, vT_ss, vQ_ss, vU_ss, vP_ss, vH_ss, vB_ss, vN_sd, vR_sd, vW_sd, vS_sd, vD_sd, vT_sd, vQ_sd, vU_sd, vP_sd, vH_sd, vB_sd, vN_st, vR_st, vW_st, vS_st, vD_st, vT_st, vQ_st, vU_st, vP_st, vH_st, vB_st, vN_sq, vR_sq, vW_sq, vS_sq, vD_sq, vT_sq, vQ_sq, vU_sq, vP_sq, vH_sq, vB_sq, Nat.reduceEqDiff, and_false, if_false, reduceIte, and_true]
  obtain ⟨w1, w2, w3⟩ := w
  refine ⟨w1, ?_, w3⟩
  by_cases e : j = i
  · rw [if_pos e]; exact hx
  · rw [if_neg e]; exact w2
theorem hgFC_32 (f : hgFm (fun b => 64 ≤ b ∧ b < 298) M M') : hgFC M M' := hgFC_m f (fun b hb => by omega)
/-- sleep, the component -/
theorem hgk_108a (h : hgSC M V Hs c) (hi : i < vN V) (hs : vD V i 4 ≠ nI 2) : ∃ M', hgWC X 108 [.ref 0, .int (nI i)] M = some (.inl (.int (vD V i 4)), M') ∧ hgSC M' (vSd V i 4 (nI 2)) ((V :: Hs).take 8) c ∧ hgFC M M' := by
  obtain ⟨hw, g6, hn, hN, _, _⟩ := hgSC_6 h
  have k := hgk_117a (X := X) h hi
  have e : hgI M (8 + i) 4 = vD V i 4 := (h.2.2.1.2.2.2.2.2.2.2.2.2.2.2.1 i hi).1 4 (by omega)
  have i10 : i < 10 := by omega
  have od : hgO M (8 + i) 0 := hgO_d hw g6 i10
  obtain ⟨M1, e1, h1, f1⟩ := hgk_32 (X := X) h
  have w1 := h1.1
  have od1 : hgO M1 (8 + i) 0 := hgO_d w1 g6 i10
  have hk := hgVok_d6 (i := i) (k := 4) (x := nI 2) h1.2.2.2.2.1 (by omega)
  refine ⟨hgSI M1 (8 + i) 4 (nI 2), ?_, hgSC_cur (P := fun b => b = 8 + i) h1 (hgFm_SI hgFm_r rfl) (fun b hb => by omega) w1 (hgCV_sd (i := i) (k := 4) (x := nI 2) w1 (hgSm_ok h1.2.2.2.2.1) i10 (by omega) h1.2.2.1) hk, hgFC_t (hgFC_32 f1) (hgFC_m (P := fun b => b = 8 + i) (hgFm_SI hgFm_r rfl) (fun b hb => by omega))⟩
  simp (maxDischargeDepth := 7) only [hgc108, hgM_t, hgM_f, hgM_n, hgx_aload_n_0, hgx_iload_n_1, hgx_invvirtual_2, hgx_aft_e, hgx_aft_i, hgx_aft_l, hgx_aft_v, hgs_get_7_3, hgs_get_1_5, hgx_get0, hgx_istore_n_2i, hgx_istore_n_2r, hgx_istore_n_2f, hgx_istore_n_2n, hgx_istore_n_2l, hgx_iload_n_2, hgx_iconst_2, hgx_ic_ne, hgx_throw, hgs_get_7_5, hgx_put0, hgx_ret1, hgv108_0, hgr108_0, hgu108_0, hgv108_33, hgr108_33, hgu108_33, hgI_SI, hgI_SJ, hgJ_SI, hgJ_SJ, if_true, if_false, reduceIte, Nat.reduceEqDiff, hgWf_SI, hgWf_SJ, hgO_SI, hgO_SJ, hgAr_SI, hgAr_SJ, hgRp_SI, hgRp_SJ, hgN_SI, hgN_SJ, hgO_g, hgO_d, hgO_rl, hgO_r, hgO_0, hgO_1, hgO_64, hgO_298, hgO_300, hgCd_0, hgCd_1, hgCd_2, hgCd_3, hgCd_4, hgCd_5, hgRecv_O, hgRecv_99, List.length_cons, List.length_nil, Nat.zero_add, Nat.add_zero, Nat.le_refl, Nat.zero_le, and_self, or_true, true_or, true_and, and_true, ne_eq, not_false_eq_true, Nat.reduceLT, Nat.reduceLeDiff, Nat.reduceAdd, Nat.reduceEqDiff, hgn_eq, hgn_lt, hgn_le, if_true, if_false, reduceIte, Nat.not_lt_zero, hgs_aa_d, hgs_aa_r, hgs_aa_h, hgs_aa_m, hgs_aa_t, hgs_ld_wp, hgs_st_wp, hgs_ld_qf, hgs_st_qf, hgs_ld_qt, hgs_st_qt, hgs_ld_2, hgs_st_2, hgs_ld_3, hgs_st_3, hgs_ld_4, hgs_st_4, hgs_ld_301, hgs_st_301, hgs_ld_D, hgs_st_D, hgs_ld_s, hgs_ld_T, hgs_st_T, hgs_ld_o, hgs_st_o, hgs_ld_b, hgs_st_b, hgs_ld_z, hgs_st_z, hgs_al_b, hgx_alen_s, hw, g6, k, i10, e, od, hs, e1, w1, od1]
theorem hgk_108b (h : hgSC M V Hs c) (hi : i < vN V) (hs : vD V i 4 = nI 2) : hgWC X 108 [.ref 0, .int (nI i)] M = some (.inr 1, M) := by
  obtain ⟨hw, g6, hn, hN, _, _⟩ := hgSC_6 h
  have k := hgk_117a (X := X) h hi
  have e : hgI M (8 + i) 4 = vD V i 4 := (h.2.2.1.2.2.2.2.2.2.2.2.2.2.2.1 i hi).1 4 (by omega)
  have i10 : i < 10 := by omega
  have od : hgO M (8 + i) 0 := hgO_d hw g6 i10
  simp (maxDischargeDepth := 7) only [hgc108, hgM_t, hgM_f, hgM_n, hgx_aload_n_0, hgx_iload_n_1, hgx_invvirtual_2, hgx_aft_e, hgx_aft_i, hgx_aft_l, hgx_aft_v, hgs_get_7_3, hgs_get_1_5, hgx_get0, hgx_istore_n_2i, hgx_istore_n_2r, hgx_istore_n_2f, hgx_istore_n_2n, hgx_istore_n_2l, hgx_iload_n_2, hgx_iconst_2, hgx_ic_ne, hgx_throw, hgs_get_7_5, hgx_put0, hgx_ret1, hgv108_0, hgr108_0, hgu108_0, hgv108_33, hgr108_33, hgu108_33, hgx_throw, hgI_SI, hgI_SJ, hgJ_SI, hgJ_SJ, if_true, if_false, reduceIte, Nat.reduceEqDiff, hgWf_SI, hgWf_SJ, hgO_SI, hgO_SJ, hgAr_SI, hgAr_SJ, hgRp_SI, hgRp_SJ, hgN_SI, hgN_SJ, hgO_g, hgO_d, hgO_rl, hgO_r, hgO_0, hgO_1, hgO_64, hgO_298, hgO_300, hgCd_0, hgCd_1, hgCd_2, hgCd_3, hgCd_4, hgCd_5, hgRecv_O, hgRecv_99, List.length_cons, List.length_nil, Nat.zero_add, Nat.add_zero, Nat.le_refl, Nat.zero_le, and_self, or_true, true_or, true_and, and_true, ne_eq, not_false_eq_true, Nat.reduceLT, Nat.reduceLeDiff, Nat.reduceAdd, Nat.reduceEqDiff, hgn_eq, hgn_lt, hgn_le, if_true, if_false, reduceIte, Nat.not_lt_zero, hgs_aa_d, hgs_aa_r, hgs_aa_h, hgs_aa_m, hgs_aa_t, hgs_ld_wp, hgs_st_wp, hgs_ld_qf, hgs_st_qf, hgs_ld_qt, hgs_st_qt, hgs_ld_2, hgs_st_2, hgs_ld_3, hgs_st_3, hgs_ld_4, hgs_st_4, hgs_ld_301, hgs_st_301, hgs_ld_D, hgs_st_D, hgs_ld_s, hgs_ld_T, hgs_st_T, hgs_ld_o, hgs_st_o, hgs_ld_b, hgs_st_b, hgs_ld_z, hgs_st_z, hgs_al_b, hgx_alen_s, hw, g6, k, i10, e, od, hs]
theorem hgk_108c (h : hgSC M V Hs c) (hx : ¬ ∃ i, i < vN V ∧ x = nI i) : hgWC X 108 [.ref 0, .int x] M = some (.inr 2, M) := by
  have hw := h.1
  have k := hgk_117b (X := X) h hx
  simp (maxDischargeDepth := 7) only [hgc108, hgM_t, hgM_f, hgM_n, hgx_aload_n_0, hgx_iload_n_1, hgx_invvirtual_2, hgx_aft_e, hgx_aft_i, hgx_aft_l, hgx_aft_v, hgs_get_7_3, hgs_get_1_5, hgx_get0, hgx_istore_n_2i, hgx_istore_n_2r, hgx_istore_n_2f, hgx_istore_n_2n, hgx_istore_n_2l, hgx_iload_n_2, hgx_iconst_2, hgx_ic_ne, hgx_throw, hgs_get_7_5, hgx_put0, hgx_ret1, hgv108_0, hgr108_0, hgu108_0, hgv108_33, hgr108_33, hgu108_33, hgI_SI, hgI_SJ, hgJ_SI, hgJ_SJ, if_true, if_false, reduceIte, Nat.reduceEqDiff, hgWf_SI, hgWf_SJ, hgO_SI, hgO_SJ, hgAr_SI, hgAr_SJ, hgRp_SI, hgRp_SJ, hgN_SI, hgN_SJ, hgO_g, hgO_d, hgO_rl, hgO_r, hgO_0, hgO_1, hgO_64, hgO_298, hgO_300, hgCd_0, hgCd_1, hgCd_2, hgCd_3, hgCd_4, hgCd_5, hgRecv_O, hgRecv_99, List.length_cons, List.length_nil, Nat.zero_add, Nat.add_zero, Nat.le_refl, Nat.zero_le, and_self, or_true, true_or, true_and, and_true, ne_eq, not_false_eq_true, Nat.reduceLT, Nat.reduceLeDiff, Nat.reduceAdd, Nat.reduceEqDiff, hgn_eq, hgn_lt, hgn_le, if_true, if_false, reduceIte, Nat.not_lt_zero, hw, k]
/-- what the reference does after its checks: it remembers, then changes -/
theorem hgSM_rem (h : hgSM M V Hs c) (h0 : hgI M 300 0 = nI 0) : ∃ M1, hgWC X 190 [.ref 300] M = some (.inl .null, M1) ∧ hgSM M1 V ((V :: Hs).take 8) c ∧ hgFR M M1 ∧ hgWf M1 ∧ hgI M1 300 0 = nI 0 := by
  obtain ⟨M1, e1, h1, f1, w1, o1⟩ := hgk_190 (X := X) h
  exact ⟨M1, e1, h1, f1, w1, by rw [o1 0 (by omega)]; exact h0⟩
theorem hgFR_302 : hgFR M (hgSI M 302 k x) := hgFR_m (P := fun b => b = 302) (hgFm_SI hgFm_r rfl) (fun b hb => by omega)
theorem hgOp_221 (h : hgInv M N) : hgBi X 221 [.ref 0, .int x, .ref 325] 195 [.ref 300, .int x] M N := by
  obtain ⟨V, Hs, c, hc, hC, hR, hH, hb⟩ := h
  have hw := hC.1
  by_cases hx : ∃ i, i < vN V ∧ x = nI i
  · obtain ⟨i, hi, rfl⟩ := hx
    have hN := hC.2.2.2.2.1.1
    have i10 : i < 10 := by omega
    have b4 : 27 + 10 * i + 4 < 20187 := by omega
    by_cases hs : vD V i 4 = nI 2
    · refine hgBi_no hb hgn20 (hgL_221_1 hw (hgk_108b hC hi hs)) ⟨nI 0, ?_⟩ hC hR hH (by omega)
      have h2 : hgSM (hgSI M 300 0 (nI 0)) V Hs c := hgSM_0 hR
      have k1 := hgk_165a (X := X) h2 hgI_at ⟨i, hi, rfl⟩
      have e4 := (h2.2.1.2.2.2.2.2.2.2.1 i hi).1 4 (by omega)
      have k0 := hgk_124b (X := X) (M := hgSI M 300 0 (nI 0)) (y := nI 2) hw hgI_at hgn20
      simp (maxDischargeDepth := 7) only [hgc195, hgM_t, hgM_f, hgM_n, hgx_aload_n_0, hgx_iconst_0, hgx_put0, hgx_iload_n_1, hgx_invvirtual_2, hgx_aft_e, hgx_aft_i, hgx_aft_l, hgx_aft_v, hgx_if_eq, hgx_ret1, hgs_get_8_8, hgx_invstatic_1, hgx_iconst_4, hgx_iadd, hgx_istore_n_2i, hgx_istore_n_2r, hgx_istore_n_2f, hgx_istore_n_2n, hgx_istore_n_2l, hgx_iload_n_2, hgx_iconst_2, hgx_ic_ne, hgx_iconst_1, hgx_goto, hgx_invvirtual_3, hgx_invvirtual_1, hgv195_0, hgr195_0, hgu195_0, hgv195_15, hgr195_15, hgu195_15, hgv195_37, hgr195_37, hgu195_37, hgv195_38, hgr195_38, hgu195_38, hgv195_47, hgr195_47, hgu195_47, hgs_aa_d, hgs_aa_r, hgs_aa_h, hgs_aa_m, hgs_aa_t, hgs_ld_wp, hgs_st_wp, hgs_ld_qf, hgs_st_qf, hgs_ld_qt, hgs_st_qt, hgs_ld_2, hgs_st_2, hgs_ld_3, hgs_st_3, hgs_ld_4, hgs_st_4, hgs_ld_301, hgs_st_301, hgs_ld_D, hgs_st_D, hgs_ld_s, hgs_ld_T, hgs_st_T, hgs_ld_o, hgs_st_o, hgs_ld_b, hgs_st_b, hgs_ld_z, hgs_st_z, hgs_al_b, hgx_alen_s, hgWf_SI, hgWf_SJ, hgO_SI, hgO_SJ, hgAr_SI, hgAr_SJ, hgRp_SI, hgRp_SJ, hgN_SI, hgN_SJ, hgO_g, hgO_d, hgO_rl, hgO_r, hgO_0, hgO_1, hgO_64, hgO_298, hgO_300, hgCd_0, hgCd_1, hgCd_2, hgCd_3, hgCd_4, hgCd_5, hgRecv_O, hgRecv_99, List.length_cons, List.length_nil, Nat.zero_add, Nat.add_zero, Nat.le_refl, Nat.zero_le, and_self, or_true, true_or, true_and, and_true, ne_eq, not_false_eq_true, Nat.reduceLT, Nat.reduceLeDiff, Nat.reduceAdd, Nat.reduceEqDiff, hgn_eq, hgn_lt, hgn_le, if_true, if_false, reduceIte, Nat.not_lt_zero, hgn_add, hgn_mul, hw, hgAr_302 hw, k1, hgk_128, b4, e4, hs, k0]
    · obtain ⟨M1, e1, h1, f1⟩ := hgk_108a (X := X) hC hi hs
      have w1 := h1.1
      refine hgBi_ok hb (hgL_221 hw w1 e1) h1 f1 ?_ (hgHi_sub hH (hgSub_e rfl rfl) (hgHi_3 hH).2.2) (by omega)
      have hR1 : hgSM (hgSJ M1 325 0 (vD V i 4).toInt64) V Hs c := hgSM_o (hgSM_C f1 w1 hR)
      obtain ⟨Mo, hMo⟩ : ∃ Mo, Mo = hgSJ M1 325 0 (vD V i 4).toInt64 := ⟨_, rfl⟩
      rw [← hMo] at hR1 ⊢
      have h2 : hgSM (hgSI Mo 300 0 (nI 0)) V Hs c := hgSM_0 hR1
      have wo := hR1.1
      have k1 := hgk_165a (X := X) h2 hgI_at ⟨i, hi, rfl⟩
      have e4 := (h2.2.1.2.2.2.2.2.2.2.1 i hi).1 4 (by omega)
      have k0 := hgk_124a (X := X) (M := hgSI Mo 300 0 (nI 0)) (y := nI 2) wo hgI_at
      obtain ⟨M2, e2, h3, f3, w3, o3⟩ := hgSM_rem (X := X) h2 hgI_at
      refine ⟨hgSI M2 302 (27 + 10 * i + 4) (nI 2), ?_, hgSM_cur (P := fun b => b = 302) h3 (hgFm_SI hgFm_r rfl) (fun b hb => Or.inl hb) w3 (hgRV_sd (hgSm_ok h3.2.2.2.1) i10 (by omega) h3.2.1) (hgVok_d6 h3.2.2.2.1 (by omega)), hgFR_t (hgFR_t hgFR_0 f3) hgFR_302, by rw [hgI_na (by omega)]; exact o3⟩
      simp (maxDischargeDepth := 7) only [hgc195, hgM_t, hgM_f, hgM_n, hgx_aload_n_0, hgx_iconst_0, hgx_put0, hgx_iload_n_1, hgx_invvirtual_2, hgx_aft_e, hgx_aft_i, hgx_aft_l, hgx_aft_v, hgx_if_eq, hgx_ret1, hgs_get_8_8, hgx_invstatic_1, hgx_iconst_4, hgx_iadd, hgx_istore_n_2i, hgx_istore_n_2r, hgx_istore_n_2f, hgx_istore_n_2n, hgx_istore_n_2l, hgx_iload_n_2, hgx_iconst_2, hgx_ic_ne, hgx_iconst_1, hgx_goto, hgx_invvirtual_3, hgx_invvirtual_1, hgv195_0, hgr195_0, hgu195_0, hgv195_15, hgr195_15, hgu195_15, hgv195_37, hgr195_37, hgu195_37, hgv195_38, hgr195_38, hgu195_38, hgv195_47, hgr195_47, hgu195_47, hgs_aa_d, hgs_aa_r, hgs_aa_h, hgs_aa_m, hgs_aa_t, hgs_ld_wp, hgs_st_wp, hgs_ld_qf, hgs_st_qf, hgs_ld_qt, hgs_st_qt, hgs_ld_2, hgs_st_2, hgs_ld_3, hgs_st_3, hgs_ld_4, hgs_st_4, hgs_ld_301, hgs_st_301, hgs_ld_D, hgs_st_D, hgs_ld_s, hgs_ld_T, hgs_st_T, hgs_ld_o, hgs_st_o, hgs_ld_b, hgs_st_b, hgs_ld_z, hgs_st_z, hgs_al_b, hgx_alen_s, hgWf_SI, hgWf_SJ, hgO_SI, hgO_SJ, hgAr_SI, hgAr_SJ, hgRp_SI, hgRp_SJ, hgN_SI, hgN_SJ, hgO_g, hgO_d, hgO_rl, hgO_r, hgO_0, hgO_1, hgO_64, hgO_298, hgO_300, hgCd_0, hgCd_1, hgCd_2, hgCd_3, hgCd_4, hgCd_5, hgRecv_O, hgRecv_99, List.length_cons, List.length_nil, Nat.zero_add, Nat.add_zero, Nat.le_refl, Nat.zero_le, and_self, or_true, true_or, true_and, and_true, ne_eq, not_false_eq_true, Nat.reduceLT, Nat.reduceLeDiff, Nat.reduceAdd, Nat.reduceEqDiff, hgn_eq, hgn_lt, hgn_le, if_true, if_false, reduceIte, Nat.not_lt_zero, hgn_add, hgn_mul, wo, hgAr_302 wo, k1, hgk_128, b4, e4, hs, k0, e2, w3, hgAr_302 w3]
  · refine hgBi_no hb hgn10 (hgL_221_2 hw (hgk_108c hC hx)) ⟨nI 0, ?_⟩ hC hR hH (by omega)
    have h2 : hgSM (hgSI M 300 0 (nI 0)) V Hs c := hgSM_0 hR
    have k1 := hgk_165b (X := X) h2 hgI_at hx
    simp (maxDischargeDepth := 7) only [hgc195, hgM_t, hgM_f, hgM_n, hgx_aload_n_0, hgx_iconst_0, hgx_put0, hgx_iload_n_1, hgx_invvirtual_2, hgx_aft_e, hgx_aft_i, hgx_aft_l, hgx_aft_v, hgx_if_eq, hgx_ret1, hgs_get_8_8, hgx_invstatic_1, hgx_iconst_4, hgx_iadd, hgx_istore_n_2i, hgx_istore_n_2r, hgx_istore_n_2f, hgx_istore_n_2n, hgx_istore_n_2l, hgx_iload_n_2, hgx_iconst_2, hgx_ic_ne, hgx_iconst_1, hgx_goto, hgx_invvirtual_3, hgx_invvirtual_1, hgv195_0, hgr195_0, hgu195_0, hgv195_15, hgr195_15, hgu195_15, hgv195_37, hgr195_37, hgu195_37, hgv195_38, hgr195_38, hgu195_38, hgv195_47, hgr195_47, hgu195_47, hgWf_SI, hgWf_SJ, hgO_SI, hgO_SJ, hgAr_SI, hgAr_SJ, hgRp_SI, hgRp_SJ, hgN_SI, hgN_SJ, hgO_g, hgO_d, hgO_rl, hgO_r, hgO_0, hgO_1, hgO_64, hgO_298, hgO_300, hgCd_0, hgCd_1, hgCd_2, hgCd_3, hgCd_4, hgCd_5, hgRecv_O, hgRecv_99, List.length_cons, List.length_nil, Nat.zero_add, Nat.add_zero, Nat.le_refl, Nat.zero_le, and_self, or_true, true_or, true_and, and_true, ne_eq, not_false_eq_true, Nat.reduceLT, Nat.reduceLeDiff, Nat.reduceAdd, Nat.reduceEqDiff, hgn_eq, hgn_lt, hgn_le, if_true, if_false, reduceIte, Nat.not_lt_zero, hw, k1]
/-- wake -/
theorem hgk_109a (h : hgSC M V Hs c) (hi : i < vN V) (hs : vD V i 4 = nI 2) : ∃ M', hgWC X 109 [.ref 0, .int (nI i)] M = some (.inl (.int (vD V i 2)), M') ∧ hgSC M' (vSd (vSd V i 4 (nI 1)) i 5 (vD V i 2)) ((V :: Hs).take 8) c ∧ hgFC M M' := by
  obtain ⟨hw, g6, hn, hN, _, _⟩ := hgSC_6 h
  have k := hgk_117a (X := X) h hi
  have e : hgI M (8 + i) 4 = vD V i 4 := (h.2.2.1.2.2.2.2.2.2.2.2.2.2.2.1 i hi).1 4 (by omega)
  have i10 : i < 10 := by omega
  have od : hgO M (8 + i) 0 := hgO_d hw g6 i10
  obtain ⟨M1, e1, h1, f1⟩ := hgk_32 (X := X) h
  have w1 := h1.1
  have od1 : hgO M1 (8 + i) 0 := hgO_d w1 g6 i10
  have e2 : hgI M1 (8 + i) 2 = vD V i 2 := (h1.2.2.1.2.2.2.2.2.2.2.2.2.2.2.1 i hi).1 2 (by omega)
  have hm := hgSm_ok h1.2.2.2.2.1
  have k3 := hgk_3 (X := X) od1
  rw [e2] at k3
  have hk := hgVok_d5 (i := i) (x := vD V i 2) (hgVok_d6 (i := i) (k := 4) (x := nI 1) h1.2.2.2.2.1 (by omega)) (h1.2.2.2.2.1.2.2.2.1 i hi).2.2.2.2.1
  refine ⟨hgSI (hgSI M1 (8 + i) 4 (nI 1)) (8 + i) 5 (vD V i 2), ?_, hgSC_cur (P := fun b => b = 8 + i) h1 (hgFm_SI (hgFm_SI hgFm_r rfl) rfl) (fun b hb => by omega) w1 (hgCV_sd2 (i := i) (k := 5) (x := vD V i 2) (hgCV_sd2 (i := i) (k := 4) (x := nI 1) h1.2.2.1 w1 hm i10 (by omega)) w1 hm i10 (by omega)) hk, hgFC_t (hgFC_32 f1) (hgFC_m (P := fun b => b = 8 + i) (hgFm_SI (hgFm_SI hgFm_r rfl) rfl) (fun b hb => by omega))⟩
  simp (maxDischargeDepth := 7) only [hgc109, hgM_t, hgM_f, hgM_n, hgx_aload_n_0, hgx_iload_n_1, hgx_invvirtual_2, hgx_aft_e, hgx_aft_i, hgx_aft_l, hgx_aft_v, hgs_get_7_3, hgs_get_1_5, hgx_get0, hgx_iconst_2, hgx_ic_eq, hgx_throw, hgs_get_7_5, hgx_invvirtual_1, hgx_ret1, hgv109_0, hgr109_0, hgu109_0, hgv109_31, hgr109_31, hgu109_31, hgI_SI, hgI_SJ, hgJ_SI, hgJ_SJ, if_true, if_false, reduceIte, Nat.reduceEqDiff, hgWf_SI, hgWf_SJ, hgO_SI, hgO_SJ, hgAr_SI, hgAr_SJ, hgRp_SI, hgRp_SJ, hgN_SI, hgN_SJ, hgO_g, hgO_d, hgO_rl, hgO_r, hgO_0, hgO_1, hgO_64, hgO_298, hgO_300, hgCd_0, hgCd_1, hgCd_2, hgCd_3, hgCd_4, hgCd_5, hgRecv_O, hgRecv_99, List.length_cons, List.length_nil, Nat.zero_add, Nat.add_zero, Nat.le_refl, Nat.zero_le, and_self, or_true, true_or, true_and, and_true, ne_eq, not_false_eq_true, Nat.reduceLT, Nat.reduceLeDiff, Nat.reduceAdd, Nat.reduceEqDiff, hgn_eq, hgn_lt, hgn_le, if_true, if_false, reduceIte, Nat.not_lt_zero, hgs_aa_d, hgs_aa_r, hgs_aa_h, hgs_aa_m, hgs_aa_t, hgs_ld_wp, hgs_st_wp, hgs_ld_qf, hgs_st_qf, hgs_ld_qt, hgs_st_qt, hgs_ld_2, hgs_st_2, hgs_ld_3, hgs_st_3, hgs_ld_4, hgs_st_4, hgs_ld_301, hgs_st_301, hgs_ld_D, hgs_st_D, hgs_ld_s, hgs_ld_T, hgs_st_T, hgs_ld_o, hgs_st_o, hgs_ld_b, hgs_st_b, hgs_ld_z, hgs_st_z, hgs_al_b, hgx_alen_s, hw, g6, k, i10, e, od, hs, e1, w1, od1, k3, e2]
theorem hgk_109b (h : hgSC M V Hs c) (hi : i < vN V) (hs : vD V i 4 ≠ nI 2) : hgWC X 109 [.ref 0, .int (nI i)] M = some (.inr 1, M) := by
  obtain ⟨hw, g6, hn, hN, _, _⟩ := hgSC_6 h
  have k := hgk_117a (X := X) h hi
  have e : hgI M (8 + i) 4 = vD V i 4 := (h.2.2.1.2.2.2.2.2.2.2.2.2.2.2.1 i hi).1 4 (by omega)
  have i10 : i < 10 := by omega
  have od : hgO M (8 + i) 0 := hgO_d hw g6 i10
  simp (maxDischargeDepth := 7) only [hgc109, hgM_t, hgM_f, hgM_n, hgx_aload_n_0, hgx_iload_n_1, hgx_invvirtual_2, hgx_aft_e, hgx_aft_i, hgx_aft_l, hgx_aft_v, hgs_get_7_3, hgs_get_1_5, hgx_get0, hgx_iconst_2, hgx_ic_eq, hgx_throw, hgs_get_7_5, hgx_invvirtual_1, hgx_ret1, hgv109_0, hgr109_0, hgu109_0, hgv109_31, hgr109_31, hgu109_31, hgx_throw, hgI_SI, hgI_SJ, hgJ_SI, hgJ_SJ, if_true, if_false, reduceIte, Nat.reduceEqDiff, hgWf_SI, hgWf_SJ, hgO_SI, hgO_SJ, hgAr_SI, hgAr_SJ, hgRp_SI, hgRp_SJ, hgN_SI, hgN_SJ, hgO_g, hgO_d, hgO_rl, hgO_r, hgO_0, hgO_1, hgO_64, hgO_298, hgO_300, hgCd_0, hgCd_1, hgCd_2, hgCd_3, hgCd_4, hgCd_5, hgRecv_O, hgRecv_99, List.length_cons, List.length_nil, Nat.zero_add, Nat.add_zero, Nat.le_refl, Nat.zero_le, and_self, or_true, true_or, true_and, and_true, ne_eq, not_false_eq_true, Nat.reduceLT, Nat.reduceLeDiff, Nat.reduceAdd, Nat.reduceEqDiff, hgn_eq, hgn_lt, hgn_le, if_true, if_false, reduceIte, Nat.not_lt_zero, hgs_aa_d, hgs_aa_r, hgs_aa_h, hgs_aa_m, hgs_aa_t, hgs_ld_wp, hgs_st_wp, hgs_ld_qf, hgs_st_qf, hgs_ld_qt, hgs_st_qt, hgs_ld_2, hgs_st_2, hgs_ld_3, hgs_st_3, hgs_ld_4, hgs_st_4, hgs_ld_301, hgs_st_301, hgs_ld_D, hgs_st_D, hgs_ld_s, hgs_ld_T, hgs_st_T, hgs_ld_o, hgs_st_o, hgs_ld_b, hgs_st_b, hgs_ld_z, hgs_st_z, hgs_al_b, hgx_alen_s, hw, g6, k, i10, e, od, hs]
theorem hgk_109c (h : hgSC M V Hs c) (hx : ¬ ∃ i, i < vN V ∧ x = nI i) : hgWC X 109 [.ref 0, .int x] M = some (.inr 2, M) := by
  have hw := h.1
  have k := hgk_117b (X := X) h hx
  simp (maxDischargeDepth := 7) only [hgc109, hgM_t, hgM_f, hgM_n, hgx_aload_n_0, hgx_iload_n_1, hgx_invvirtual_2, hgx_aft_e, hgx_aft_i, hgx_aft_l, hgx_aft_v, hgs_get_7_3, hgs_get_1_5, hgx_get0, hgx_iconst_2, hgx_ic_eq, hgx_throw, hgs_get_7_5, hgx_invvirtual_1, hgx_ret1, hgv109_0, hgr109_0, hgu109_0, hgv109_31, hgr109_31, hgu109_31, hgI_SI, hgI_SJ, hgJ_SI, hgJ_SJ, if_true, if_false, reduceIte, Nat.reduceEqDiff, hgWf_SI, hgWf_SJ, hgO_SI, hgO_SJ, hgAr_SI, hgAr_SJ, hgRp_SI, hgRp_SJ, hgN_SI, hgN_SJ, hgO_g, hgO_d, hgO_rl, hgO_r, hgO_0, hgO_1, hgO_64, hgO_298, hgO_300, hgCd_0, hgCd_1, hgCd_2, hgCd_3, hgCd_4, hgCd_5, hgRecv_O, hgRecv_99, List.length_cons, List.length_nil, Nat.zero_add, Nat.add_zero, Nat.le_refl, Nat.zero_le, and_self, or_true, true_or, true_and, and_true, ne_eq, not_false_eq_true, Nat.reduceLT, Nat.reduceLeDiff, Nat.reduceAdd, Nat.reduceEqDiff, hgn_eq, hgn_lt, hgn_le, if_true, if_false, reduceIte, Nat.not_lt_zero, hw, k]
theorem hgk_192 (hw : hgWf M) (hi : i < 10) : hgWC X 192 [.ref 300, .int (nI i)] M = some (.inl .null, hgSI (hgSI M 302 (27 + 10 * i + 4) (nI 1)) 302 (27 + 10 * i + 5) (hgI M 302 (27 + 10 * i + 2))) := by
  have b4 : 27 + 10 * i + 4 < 20187 := by omega
  have b5 : 27 + 10 * i + 5 < 20187 := by omega
  have b2 : 27 + 10 * i + 2 < 20187 := by omega
  have c2 : ¬ 27 + 10 * i + 2 = 27 + 10 * i + 4 := by omega
  have c3 : ¬ 27 + 10 * i = 27 + 10 * i + 2 := by omega
  simp (maxDischargeDepth := 7) only [hgc192, hgM_t, hgM_f, hgM_n, hgx_aload_n_0, hgs_get_8_8, hgx_iload_n_1, hgx_invstatic_1, hgx_aft_e, hgx_aft_i, hgx_aft_l, hgx_aft_v, hgx_iconst_4, hgx_iadd, hgx_iconst_1, hgx_iconst_5, hgx_iconst_2, hgx_vret, hgv192_0, hgr192_0, hgu192_0, hgs_aa_d, hgs_aa_r, hgs_aa_h, hgs_aa_m, hgs_aa_t, hgs_ld_wp, hgs_st_wp, hgs_ld_qf, hgs_st_qf, hgs_ld_qt, hgs_st_qt, hgs_ld_2, hgs_st_2, hgs_ld_3, hgs_st_3, hgs_ld_4, hgs_st_4, hgs_ld_301, hgs_st_301, hgs_ld_D, hgs_st_D, hgs_ld_s, hgs_ld_T, hgs_st_T, hgs_ld_o, hgs_st_o, hgs_ld_b, hgs_st_b, hgs_ld_z, hgs_st_z, hgs_al_b, hgx_alen_s, hgWf_SI, hgWf_SJ, hgO_SI, hgO_SJ, hgAr_SI, hgAr_SJ, hgRp_SI, hgRp_SJ, hgN_SI, hgN_SJ, hgO_g, hgO_d, hgO_rl, hgO_r, hgO_0, hgO_1, hgO_64, hgO_298, hgO_300, hgCd_0, hgCd_1, hgCd_2, hgCd_3, hgCd_4, hgCd_5, hgRecv_O, hgRecv_99, List.length_cons, List.length_nil, Nat.zero_add, Nat.add_zero, Nat.le_refl, Nat.zero_le, and_self, or_true, true_or, true_and, and_true, ne_eq, not_false_eq_true, Nat.reduceLT, Nat.reduceLeDiff, Nat.reduceAdd, Nat.reduceEqDiff, hgn_eq, hgn_lt, hgn_le, if_true, if_false, reduceIte, Nat.not_lt_zero, hgn_add, hgn_mul, hgI_SI, hgI_SJ, hgJ_SI, hgJ_SJ, if_true, if_false, reduceIte, Nat.reduceEqDiff, hw, hgAr_302 hw, hgk_128, b4, b5, b2, c2, c3]
theorem hgOp_222 (h : hgInv M N) : hgBi X 222 [.ref 0, .int x, .ref 325] 196 [.ref 300, .int x] M N := by
  obtain ⟨V, Hs, c, hc, hC, hR, hH, hb⟩ := h
  have hw := hC.1
  by_cases hx : ∃ i, i < vN V ∧ x = nI i
  · obtain ⟨i, hi, rfl⟩ := hx
    have hN := hC.2.2.2.2.1.1
    have i10 : i < 10 := by omega
    have b4 : 27 + 10 * i + 4 < 20187 := by omega
    have b2 : 27 + 10 * i + 2 < 20187 := by omega
    have c2 : ¬ 27 + 10 * i + 2 = 27 + 10 * i + 4 := by omega
    have c3 : ¬ 27 + 10 * i = 27 + 10 * i + 2 := by omega
    by_cases hs : vD V i 4 = nI 2
    · obtain ⟨M1, e1, h1, f1⟩ := hgk_109a (X := X) hC hi hs
      have w1 := h1.1
      refine hgBi_ok hb (hgL_222 hw w1 e1) h1 f1 ?_ (hgHi_sub hH (hgSub_e rfl rfl) (hgHi_3 hH).2.2) (by omega)
      have hR1 : hgSM (hgSJ M1 325 0 (vD V i 2).toInt64) V Hs c := hgSM_o (hgSM_C f1 w1 hR)
      obtain ⟨Mo, hMo⟩ : ∃ Mo, Mo = hgSJ M1 325 0 (vD V i 2).toInt64 := ⟨_, rfl⟩
      rw [← hMo] at hR1 ⊢
      have h2 : hgSM (hgSI Mo 300 0 (nI 0)) V Hs c := hgSM_0 hR1
      have wo := hR1.1
      have k1 := hgk_165a (X := X) h2 hgI_at ⟨i, hi, rfl⟩
      have e4 := (h2.2.1.2.2.2.2.2.2.2.1 i hi).1 4 (by omega)
      have k0 := hgk_124a (X := X) (M := hgSI Mo 300 0 (nI 0)) (y := nI 2) wo hgI_at
      obtain ⟨M2, e2, h3, f3, w3, o3⟩ := hgSM_rem (X := X) h2 hgI_at
      have k192 := hgk_192 (X := X) w3 i10
      have e5 := (h3.2.1.2.2.2.2.2.2.2.1 i hi).1 2 (by omega)
      rw [e5] at k192
      have hm := hgSm_ok h3.2.2.2.1
      refine ⟨hgSI (hgSI M2 302 (27 + 10 * i + 4) (nI 1)) 302 (27 + 10 * i + 5) (vD V i 2), ?_, hgSM_cur (P := fun b => b = 302) h3 (hgFm_SI (hgFm_SI hgFm_r rfl) rfl) (fun b hb => Or.inl hb) w3 (hgRV_sd2 (hgRV_sd2 h3.2.1 hm i10 (by omega)) hm i10 (by omega)) (hgVok_d5 (hgVok_d6 h3.2.2.2.1 (by omega)) (h3.2.2.2.1.2.2.2.1 i hi).2.2.2.2.1), hgFR_t (hgFR_t (hgFR_t hgFR_0 f3) hgFR_302) hgFR_302, by rw [hgI_na (by omega), hgI_na (by omega)]; exact o3⟩
      have c5 : ¬ 27 + 10 * i + 2 = 27 + 10 * i + 5 := by omega
      have e6 : hgI (hgSI (hgSI M2 302 (27 + 10 * i + 4) (nI 1)) 302 (27 + 10 * i + 5) (vD V i 2)) 302 (27 + 10 * i + 2) = vD V i 2 := by rw [hgI_nk c5, hgI_nk c2]; exact e5
      simp (maxDischargeDepth := 7) only [hgc196, hgM_t, hgM_f, hgM_n, hgx_aload_n_0, hgx_iconst_0, hgx_put0, hgx_iload_n_1, hgx_invvirtual_2, hgx_aft_e, hgx_aft_i, hgx_aft_l, hgx_aft_v, hgx_if_ne, hgs_get_8_8, hgx_invstatic_1, hgx_iconst_4, hgx_iadd, hgx_iconst_2, hgx_ic_eq, hgx_iconst_1, hgx_goto, hgx_invvirtual_3, hgx_if_eq, hgx_ret1, hgx_invvirtual_1, hgv196_0, hgr196_0, hgu196_0, hgv196_33, hgr196_33, hgu196_33, hgv196_34, hgr196_34, hgu196_34, hgv196_41, hgr196_41, hgu196_41, hgv196_43, hgr196_43, hgu196_43, hgs_aa_d, hgs_aa_r, hgs_aa_h, hgs_aa_m, hgs_aa_t, hgs_ld_wp, hgs_st_wp, hgs_ld_qf, hgs_st_qf, hgs_ld_qt, hgs_st_qt, hgs_ld_2, hgs_st_2, hgs_ld_3, hgs_st_3, hgs_ld_4, hgs_st_4, hgs_ld_301, hgs_st_301, hgs_ld_D, hgs_st_D, hgs_ld_s, hgs_ld_T, hgs_st_T, hgs_ld_o, hgs_st_o, hgs_ld_b, hgs_st_b, hgs_ld_z, hgs_st_z, hgs_al_b, hgx_alen_s, hgWf_SI, hgWf_SJ, hgO_SI, hgO_SJ, hgAr_SI, hgAr_SJ, hgRp_SI, hgRp_SJ, hgN_SI, hgN_SJ, hgO_g, hgO_d, hgO_rl, hgO_r, hgO_0, hgO_1, hgO_64, hgO_298, hgO_300, hgCd_0, hgCd_1, hgCd_2, hgCd_3, hgCd_4, hgCd_5, hgRecv_O, hgRecv_99, List.length_cons, List.length_nil, Nat.zero_add, Nat.add_zero, Nat.le_refl, Nat.zero_le, and_self, or_true, true_or, true_and, and_true, ne_eq, not_false_eq_true, Nat.reduceLT, Nat.reduceLeDiff, Nat.reduceAdd, Nat.reduceEqDiff, hgn_eq, hgn_lt, hgn_le, if_true, if_false, reduceIte, Nat.not_lt_zero, hgn_add, hgn_mul, wo, hgAr_302 wo, k1, hgk_128, b4, b2, e4, hs, k0, e2, w3, k192, hgAr_302 w3, e6]
    · refine hgBi_no hb hgn20 (hgL_222_1 hw (hgk_109b hC hi hs)) ⟨nI 0, ?_⟩ hC hR hH (by omega)
      have h2 : hgSM (hgSI M 300 0 (nI 0)) V Hs c := hgSM_0 hR
      have k1 := hgk_165a (X := X) h2 hgI_at ⟨i, hi, rfl⟩
      have e4 := (h2.2.1.2.2.2.2.2.2.2.1 i hi).1 4 (by omega)
      have k0 := hgk_124b (X := X) (M := hgSI M 300 0 (nI 0)) (y := nI 2) hw hgI_at hgn20
      simp (maxDischargeDepth := 7) only [hgc196, hgM_t, hgM_f, hgM_n, hgx_aload_n_0, hgx_iconst_0, hgx_put0, hgx_iload_n_1, hgx_invvirtual_2, hgx_aft_e, hgx_aft_i, hgx_aft_l, hgx_aft_v, hgx_if_ne, hgs_get_8_8, hgx_invstatic_1, hgx_iconst_4, hgx_iadd, hgx_iconst_2, hgx_ic_eq, hgx_iconst_1, hgx_goto, hgx_invvirtual_3, hgx_if_eq, hgx_ret1, hgx_invvirtual_1, hgv196_0, hgr196_0, hgu196_0, hgv196_33, hgr196_33, hgu196_33, hgv196_34, hgr196_34, hgu196_34, hgv196_41, hgr196_41, hgu196_41, hgv196_43, hgr196_43, hgu196_43, hgs_aa_d, hgs_aa_r, hgs_aa_h, hgs_aa_m, hgs_aa_t, hgs_ld_wp, hgs_st_wp, hgs_ld_qf, hgs_st_qf, hgs_ld_qt, hgs_st_qt, hgs_ld_2, hgs_st_2, hgs_ld_3, hgs_st_3, hgs_ld_4, hgs_st_4, hgs_ld_301, hgs_st_301, hgs_ld_D, hgs_st_D, hgs_ld_s, hgs_ld_T, hgs_st_T, hgs_ld_o, hgs_st_o, hgs_ld_b, hgs_st_b, hgs_ld_z, hgs_st_z, hgs_al_b, hgx_alen_s, hgWf_SI, hgWf_SJ, hgO_SI, hgO_SJ, hgAr_SI, hgAr_SJ, hgRp_SI, hgRp_SJ, hgN_SI, hgN_SJ, hgO_g, hgO_d, hgO_rl, hgO_r, hgO_0, hgO_1, hgO_64, hgO_298, hgO_300, hgCd_0, hgCd_1, hgCd_2, hgCd_3, hgCd_4, hgCd_5, hgRecv_O, hgRecv_99, List.length_cons, List.length_nil, Nat.zero_add, Nat.add_zero, Nat.le_refl, Nat.zero_le, and_self, or_true, true_or, true_and, and_true, ne_eq, not_false_eq_true, Nat.reduceLT, Nat.reduceLeDiff, Nat.reduceAdd, Nat.reduceEqDiff, hgn_eq, hgn_lt, hgn_le, if_true, if_false, reduceIte, Nat.not_lt_zero, hgn_add, hgn_mul, hw, hgAr_302 hw, k1, hgk_128, b4, e4, hs, k0]
  · refine hgBi_no hb hgn10 (hgL_222_2 hw (hgk_109c hC hx)) ⟨nI 0, ?_⟩ hC hR hH (by omega)
    have h2 : hgSM (hgSI M 300 0 (nI 0)) V Hs c := hgSM_0 hR
    have k1 := hgk_165b (X := X) h2 hgI_at hx
    simp (maxDischargeDepth := 7) only [hgc196, hgM_t, hgM_f, hgM_n, hgx_aload_n_0, hgx_iconst_0, hgx_put0, hgx_iload_n_1, hgx_invvirtual_2, hgx_aft_e, hgx_aft_i, hgx_aft_l, hgx_aft_v, hgx_if_ne, hgs_get_8_8, hgx_invstatic_1, hgx_iconst_4, hgx_iadd, hgx_iconst_2, hgx_ic_eq, hgx_iconst_1, hgx_goto, hgx_invvirtual_3, hgx_if_eq, hgx_ret1, hgx_invvirtual_1, hgv196_0, hgr196_0, hgu196_0, hgv196_33, hgr196_33, hgu196_33, hgv196_34, hgr196_34, hgu196_34, hgv196_41, hgr196_41, hgu196_41, hgv196_43, hgr196_43, hgu196_43, hgWf_SI, hgWf_SJ, hgO_SI, hgO_SJ, hgAr_SI, hgAr_SJ, hgRp_SI, hgRp_SJ, hgN_SI, hgN_SJ, hgO_g, hgO_d, hgO_rl, hgO_r, hgO_0, hgO_1, hgO_64, hgO_298, hgO_300, hgCd_0, hgCd_1, hgCd_2, hgCd_3, hgCd_4, hgCd_5, hgRecv_O, hgRecv_99, List.length_cons, List.length_nil, Nat.zero_add, Nat.add_zero, Nat.le_refl, Nat.zero_le, and_self, or_true, true_or, true_and, and_true, ne_eq, not_false_eq_true, Nat.reduceLT, Nat.reduceLeDiff, Nat.reduceAdd, Nat.reduceEqDiff, hgn_eq, hgn_lt, hgn_le, if_true, if_false, reduceIte, Nat.not_lt_zero, hw, k1]
/-- setWeight -/
theorem hgOp_223 (h : hgInv M N) : hgBi X 223 [.ref 0, .int x, .int y, .ref 325] 197 [.ref 300, .int x, .int y] M N := by
  obtain ⟨V, Hs, c, hc, hC, hR, hH, hb⟩ := h
  obtain ⟨hw, g6, hn, hN, _, _⟩ := hgSC_6 hC
  have h2 : hgSM (hgSI M 300 0 (nI 0)) V Hs c := hgSM_0 hR
  by_cases hx : ∃ i, i < vN V ∧ x = nI i
  · obtain ⟨i, hi, rfl⟩ := hx
    have i10 : i < 10 := by omega
    have b1 : 27 + 10 * i + 1 < 20187 := by omega
    have k := hgk_117a (X := X) hC hi
    by_cases hy : 1 ≤ y.toInt ∧ y.toInt ≤ 9
    · have y1 : ¬ y < nI 1 := by rw [hglt_i, hgn_int (by omega)]; omega
      have y2 : y ≤ nI 9 := by rw [hgle_i, hgn_int (by omega)]; omega
      have bt : hgBtw y (nI 1) (nI 9) = true := by rw [hgBtw_i, hgn_int (by omega), hgn_int (by omega), decide_eq_true_iff]; omega
      obtain ⟨w, hw1, hw2⟩ := (hgin_i (x := y) (n := 10) (by omega)).mpr ⟨by omega, by omega⟩
      have hwy : ∃ w, 1 ≤ w ∧ w ≤ 9 ∧ y = nI w := ⟨w, by
        rw [hw2, hgn_int (by omega)] at hy
        omega, by omega, hw2⟩
      obtain ⟨M1, e1, h1, f1⟩ := hgk_32 (X := X) hC
      have w1 := h1.1
      have od1 : hgO M1 (8 + i) 0 := hgO_d w1 g6 i10
      have ew : hgI M1 (8 + i) 1 = vD V i 1 := (h1.2.2.1.2.2.2.2.2.2.2.2.2.2.2.1 i hi).1 1 (by omega)
      have kc : hgWC X 110 [.ref 0, .int (nI i), .int y] M = some (.inl (.int (vD V i 1)), hgSI M1 (8 + i) 1 y) := by
        simp (maxDischargeDepth := 7) only [hgc110, hgM_t, hgM_f, hgM_n, hgx_aload_n_0, hgx_iload_n_1, hgx_invvirtual_2, hgx_aft_e, hgx_aft_i, hgx_aft_l, hgx_aft_v, hgx_iload_n_2, hgx_iconst_1, hgx_ic_lt, hgx_bipush_9, hgx_ic_le, hgx_throw, hgs_get_7_5, hgs_get_7_3, hgs_get_1_5, hgx_get0, hgx_istore_n_3i, hgx_istore_n_3r, hgx_istore_n_3f, hgx_istore_n_3n, hgx_istore_n_3l, hgx_put0, hgx_iload_n_3, hgx_ret1, hgv110_0, hgr110_0, hgu110_0, hgv110_16, hgr110_16, hgu110_16, hgv110_26, hgr110_26, hgu110_26, hgI_SI, hgI_SJ, hgJ_SI, hgJ_SJ, if_true, if_false, reduceIte, Nat.reduceEqDiff, hgWf_SI, hgWf_SJ, hgO_SI, hgO_SJ, hgAr_SI, hgAr_SJ, hgRp_SI, hgRp_SJ, hgN_SI, hgN_SJ, hgO_g, hgO_d, hgO_rl, hgO_r, hgO_0, hgO_1, hgO_64, hgO_298, hgO_300, hgCd_0, hgCd_1, hgCd_2, hgCd_3, hgCd_4, hgCd_5, hgRecv_O, hgRecv_99, List.length_cons, List.length_nil, Nat.zero_add, Nat.add_zero, Nat.le_refl, Nat.zero_le, and_self, or_true, true_or, true_and, and_true, ne_eq, not_false_eq_true, Nat.reduceLT, Nat.reduceLeDiff, Nat.reduceAdd, Nat.reduceEqDiff, hgn_eq, hgn_lt, hgn_le, if_true, if_false, reduceIte, Nat.not_lt_zero, hgs_aa_d, hgs_aa_r, hgs_aa_h, hgs_aa_m, hgs_aa_t, hgs_ld_wp, hgs_st_wp, hgs_ld_qf, hgs_st_qf, hgs_ld_qt, hgs_st_qt, hgs_ld_2, hgs_st_2, hgs_ld_3, hgs_st_3, hgs_ld_4, hgs_st_4, hgs_ld_301, hgs_st_301, hgs_ld_D, hgs_st_D, hgs_ld_s, hgs_ld_T, hgs_st_T, hgs_ld_o, hgs_st_o, hgs_ld_b, hgs_st_b, hgs_ld_z, hgs_st_z, hgs_al_b, hgx_alen_s, hw, g6, k, i10, y1, y2, e1, w1, od1, ew]
      have hC1 : hgSC (hgSI M1 (8 + i) 1 y) (vSd V i 1 y) ((V :: Hs).take 8) c := hgSC_cur (P := fun b => b = 8 + i) h1 (hgFm_SI hgFm_r rfl) (fun b hb => by omega) w1 (hgCV_sd (i := i) (k := 1) (x := y) w1 (hgSm_ok h1.2.2.2.2.1) i10 (by omega) h1.2.2.1) (hgVok_d1 h1.2.2.2.2.1 hwy)
      have fC : hgFC M (hgSI M1 (8 + i) 1 y) := hgFC_t (hgFC_32 f1) (hgFC_m (P := fun b => b = 8 + i) (hgFm_SI hgFm_r rfl) (fun b hb => by omega))
      refine hgBi_ok hb (hgL_223 hw (show hgWf (hgSI M1 (8 + i) 1 y) from w1) kc) hC1 fC ?_ (hgHi_sub hH (hgSub_e rfl rfl) (hgHi_3 hH).2.2) (by omega)
      have hR1 : hgSM (hgSJ (hgSI M1 (8 + i) 1 y) 325 0 (vD V i 1).toInt64) V Hs c := hgSM_o (hgSM_C fC w1 hR)
      obtain ⟨Mo, hMo⟩ : ∃ Mo, Mo = hgSJ (hgSI M1 (8 + i) 1 y) 325 0 (vD V i 1).toInt64 := ⟨_, rfl⟩
      rw [← hMo] at hR1 ⊢
      have h3 : hgSM (hgSI Mo 300 0 (nI 0)) V Hs c := hgSM_0 hR1
      have wo := hR1.1
      have k1 := hgk_165a (X := X) h3 hgI_at ⟨i, hi, rfl⟩
      have k0 := hgk_124a (X := X) (M := hgSI Mo 300 0 (nI 0)) (y := nI 2) wo hgI_at
      obtain ⟨M2, e2, h4, f3, w3, o3⟩ := hgSM_rem (X := X) h3 hgI_at
      have e5 := (h4.2.1.2.2.2.2.2.2.2.1 i hi).1 1 (by omega)
      refine ⟨hgSI M2 302 (27 + 10 * i + 1) y, ?_, hgSM_cur (P := fun b => b = 302) h4 (hgFm_SI hgFm_r rfl) (fun b hb => Or.inl hb) w3 (hgRV_sd2 h4.2.1 (hgSm_ok h4.2.2.2.1) i10 (by omega)) (hgVok_d1 h4.2.2.2.1 hwy), hgFR_t (hgFR_t hgFR_0 f3) hgFR_302, by rw [hgI_na (by omega)]; exact o3⟩
      simp (maxDischargeDepth := 7) only [hgc197, hgM_t, hgM_f, hgM_n, hgx_aload_n_0, hgx_iconst_0, hgx_put0, hgx_iload_n_1, hgx_invvirtual_2, hgx_aft_e, hgx_aft_i, hgx_aft_l, hgx_aft_v, hgx_if_ne, hgx_iload_n_2, hgx_iconst_1, hgx_bipush_9, hgx_invstatic_3, hgx_goto, hgx_iconst_2, hgx_invvirtual_3, hgx_if_eq, hgx_ret1, hgx_invvirtual_1, hgs_get_8_8, hgx_invstatic_1, hgx_iadd, hgx_istore_n_3i, hgx_istore_n_3r, hgx_istore_n_3f, hgx_istore_n_3n, hgx_istore_n_3l, hgx_iload_n_3, hgv197_0, hgr197_0, hgu197_0, hgv197_28, hgr197_28, hgu197_28, hgv197_29, hgr197_29, hgu197_29, hgv197_36, hgr197_36, hgu197_36, hgv197_38, hgr197_38, hgu197_38, hgs_aa_d, hgs_aa_r, hgs_aa_h, hgs_aa_m, hgs_aa_t, hgs_ld_wp, hgs_st_wp, hgs_ld_qf, hgs_st_qf, hgs_ld_qt, hgs_st_qt, hgs_ld_2, hgs_st_2, hgs_ld_3, hgs_st_3, hgs_ld_4, hgs_st_4, hgs_ld_301, hgs_st_301, hgs_ld_D, hgs_st_D, hgs_ld_s, hgs_ld_T, hgs_st_T, hgs_ld_o, hgs_st_o, hgs_ld_b, hgs_st_b, hgs_ld_z, hgs_st_z, hgs_al_b, hgx_alen_s, hgWf_SI, hgWf_SJ, hgO_SI, hgO_SJ, hgAr_SI, hgAr_SJ, hgRp_SI, hgRp_SJ, hgN_SI, hgN_SJ, hgO_g, hgO_d, hgO_rl, hgO_r, hgO_0, hgO_1, hgO_64, hgO_298, hgO_300, hgCd_0, hgCd_1, hgCd_2, hgCd_3, hgCd_4, hgCd_5, hgRecv_O, hgRecv_99, List.length_cons, List.length_nil, Nat.zero_add, Nat.add_zero, Nat.le_refl, Nat.zero_le, and_self, or_true, true_or, true_and, and_true, ne_eq, not_false_eq_true, Nat.reduceLT, Nat.reduceLeDiff, Nat.reduceAdd, Nat.reduceEqDiff, hgn_eq, hgn_lt, hgn_le, if_true, if_false, reduceIte, Nat.not_lt_zero, hgn_add, hgn_mul, wo, k1, hgk_125, bt, hgB_t, hgk_128, b1, k0, e2, w3, hgAr_302 w3, e5]
    · have bt : hgBtw y (nI 1) (nI 9) = false := by rw [hgBtw_i, hgn_int (by omega), hgn_int (by omega), decide_eq_false_iff_not]; omega
      have kc : hgWC X 110 [.ref 0, .int (nI i), .int y] M = some (.inr 0, M) := by
        by_cases q : y < nI 1
        · simp (maxDischargeDepth := 7) only [hgc110, hgM_t, hgM_f, hgM_n, hgx_aload_n_0, hgx_iload_n_1, hgx_invvirtual_2, hgx_aft_e, hgx_aft_i, hgx_aft_l, hgx_aft_v, hgx_iload_n_2, hgx_iconst_1, hgx_ic_lt, hgx_bipush_9, hgx_ic_le, hgx_throw, hgs_get_7_5, hgs_get_7_3, hgs_get_1_5, hgx_get0, hgx_istore_n_3i, hgx_istore_n_3r, hgx_istore_n_3f, hgx_istore_n_3n, hgx_istore_n_3l, hgx_put0, hgx_iload_n_3, hgx_ret1, hgv110_0, hgr110_0, hgu110_0, hgv110_16, hgr110_16, hgu110_16, hgv110_26, hgr110_26, hgu110_26, hgx_throw, hgI_SI, hgI_SJ, hgJ_SI, hgJ_SJ, if_true, if_false, reduceIte, Nat.reduceEqDiff, hgWf_SI, hgWf_SJ, hgO_SI, hgO_SJ, hgAr_SI, hgAr_SJ, hgRp_SI, hgRp_SJ, hgN_SI, hgN_SJ, hgO_g, hgO_d, hgO_rl, hgO_r, hgO_0, hgO_1, hgO_64, hgO_298, hgO_300, hgCd_0, hgCd_1, hgCd_2, hgCd_3, hgCd_4, hgCd_5, hgRecv_O, hgRecv_99, List.length_cons, List.length_nil, Nat.zero_add, Nat.add_zero, Nat.le_refl, Nat.zero_le, and_self, or_true, true_or, true_and, and_true, ne_eq, not_false_eq_true, Nat.reduceLT, Nat.reduceLeDiff, Nat.reduceAdd, Nat.reduceEqDiff, hgn_eq, hgn_lt, hgn_le, if_true, if_false, reduceIte, Nat.not_lt_zero, hw, k, q]
        · have q2 : ¬ y ≤ nI 9 := by
            rw [hglt_i, hgn_int (by omega)] at q
            rw [hgle_i, hgn_int (by omega)]
            omega
          simp (maxDischargeDepth := 7) only [hgc110, hgM_t, hgM_f, hgM_n, hgx_aload_n_0, hgx_iload_n_1, hgx_invvirtual_2, hgx_aft_e, hgx_aft_i, hgx_aft_l, hgx_aft_v, hgx_iload_n_2, hgx_iconst_1, hgx_ic_lt, hgx_bipush_9, hgx_ic_le, hgx_throw, hgs_get_7_5, hgs_get_7_3, hgs_get_1_5, hgx_get0, hgx_istore_n_3i, hgx_istore_n_3r, hgx_istore_n_3f, hgx_istore_n_3n, hgx_istore_n_3l, hgx_put0, hgx_iload_n_3, hgx_ret1, hgv110_0, hgr110_0, hgu110_0, hgv110_16, hgr110_16, hgu110_16, hgv110_26, hgr110_26, hgu110_26, hgx_throw, hgI_SI, hgI_SJ, hgJ_SI, hgJ_SJ, if_true, if_false, reduceIte, Nat.reduceEqDiff, hgWf_SI, hgWf_SJ, hgO_SI, hgO_SJ, hgAr_SI, hgAr_SJ, hgRp_SI, hgRp_SJ, hgN_SI, hgN_SJ, hgO_g, hgO_d, hgO_rl, hgO_r, hgO_0, hgO_1, hgO_64, hgO_298, hgO_300, hgCd_0, hgCd_1, hgCd_2, hgCd_3, hgCd_4, hgCd_5, hgRecv_O, hgRecv_99, List.length_cons, List.length_nil, Nat.zero_add, Nat.add_zero, Nat.le_refl, Nat.zero_le, and_self, or_true, true_or, true_and, and_true, ne_eq, not_false_eq_true, Nat.reduceLT, Nat.reduceLeDiff, Nat.reduceAdd, Nat.reduceEqDiff, hgn_eq, hgn_lt, hgn_le, if_true, if_false, reduceIte, Nat.not_lt_zero, hw, k, q, q2]
      refine hgBi_no hb hgn20 (hgL_223_0 hw kc) ⟨nI 0, ?_⟩ hC hR hH (by omega)
      have k1 := hgk_165a (X := X) h2 hgI_at ⟨i, hi, rfl⟩
      have k0 := hgk_124b (X := X) (M := hgSI M 300 0 (nI 0)) (y := nI 2) hw hgI_at hgn20
      simp (maxDischargeDepth := 7) only [hgc197, hgM_t, hgM_f, hgM_n, hgx_aload_n_0, hgx_iconst_0, hgx_put0, hgx_iload_n_1, hgx_invvirtual_2, hgx_aft_e, hgx_aft_i, hgx_aft_l, hgx_aft_v, hgx_if_ne, hgx_iload_n_2, hgx_iconst_1, hgx_bipush_9, hgx_invstatic_3, hgx_goto, hgx_iconst_2, hgx_invvirtual_3, hgx_if_eq, hgx_ret1, hgx_invvirtual_1, hgs_get_8_8, hgx_invstatic_1, hgx_iadd, hgx_istore_n_3i, hgx_istore_n_3r, hgx_istore_n_3f, hgx_istore_n_3n, hgx_istore_n_3l, hgx_iload_n_3, hgv197_0, hgr197_0, hgu197_0, hgv197_28, hgr197_28, hgu197_28, hgv197_29, hgr197_29, hgu197_29, hgv197_36, hgr197_36, hgu197_36, hgv197_38, hgr197_38, hgu197_38, hgWf_SI, hgWf_SJ, hgO_SI, hgO_SJ, hgAr_SI, hgAr_SJ, hgRp_SI, hgRp_SJ, hgN_SI, hgN_SJ, hgO_g, hgO_d, hgO_rl, hgO_r, hgO_0, hgO_1, hgO_64, hgO_298, hgO_300, hgCd_0, hgCd_1, hgCd_2, hgCd_3, hgCd_4, hgCd_5, hgRecv_O, hgRecv_99, List.length_cons, List.length_nil, Nat.zero_add, Nat.add_zero, Nat.le_refl, Nat.zero_le, and_self, or_true, true_or, true_and, and_true, ne_eq, not_false_eq_true, Nat.reduceLT, Nat.reduceLeDiff, Nat.reduceAdd, Nat.reduceEqDiff, hgn_eq, hgn_lt, hgn_le, if_true, if_false, reduceIte, Nat.not_lt_zero, hw, k1, hgk_125, bt, hgB_f, k0]
  · have k := hgk_117b (X := X) hC hx
    have kc : hgWC X 110 [.ref 0, .int x, .int y] M = some (.inr 2, M) := by
      simp (maxDischargeDepth := 7) only [hgc110, hgM_t, hgM_f, hgM_n, hgx_aload_n_0, hgx_iload_n_1, hgx_invvirtual_2, hgx_aft_e, hgx_aft_i, hgx_aft_l, hgx_aft_v, hgx_iload_n_2, hgx_iconst_1, hgx_ic_lt, hgx_bipush_9, hgx_ic_le, hgx_throw, hgs_get_7_5, hgs_get_7_3, hgs_get_1_5, hgx_get0, hgx_istore_n_3i, hgx_istore_n_3r, hgx_istore_n_3f, hgx_istore_n_3n, hgx_istore_n_3l, hgx_put0, hgx_iload_n_3, hgx_ret1, hgv110_0, hgr110_0, hgu110_0, hgv110_16, hgr110_16, hgu110_16, hgv110_26, hgr110_26, hgu110_26, hgI_SI, hgI_SJ, hgJ_SI, hgJ_SJ, if_true, if_false, reduceIte, Nat.reduceEqDiff, hgWf_SI, hgWf_SJ, hgO_SI, hgO_SJ, hgAr_SI, hgAr_SJ, hgRp_SI, hgRp_SJ, hgN_SI, hgN_SJ, hgO_g, hgO_d, hgO_rl, hgO_r, hgO_0, hgO_1, hgO_64, hgO_298, hgO_300, hgCd_0, hgCd_1, hgCd_2, hgCd_3, hgCd_4, hgCd_5, hgRecv_O, hgRecv_99, List.length_cons, List.length_nil, Nat.zero_add, Nat.add_zero, Nat.le_refl, Nat.zero_le, and_self, or_true, true_or, true_and, and_true, ne_eq, not_false_eq_true, Nat.reduceLT, Nat.reduceLeDiff, Nat.reduceAdd, Nat.reduceEqDiff, hgn_eq, hgn_lt, hgn_le, if_true, if_false, reduceIte, Nat.not_lt_zero, hw, k]
    refine hgBi_no hb hgn10 (hgL_223_2 hw kc) ⟨nI 0, ?_⟩ hC hR hH (by omega)
    have k1 := hgk_165b (X := X) h2 hgI_at hx
    simp (maxDischargeDepth := 7) only [hgc197, hgM_t, hgM_f, hgM_n, hgx_aload_n_0, hgx_iconst_0, hgx_put0, hgx_iload_n_1, hgx_invvirtual_2, hgx_aft_e, hgx_aft_i, hgx_aft_l, hgx_aft_v, hgx_if_ne, hgx_iload_n_2, hgx_iconst_1, hgx_bipush_9, hgx_invstatic_3, hgx_goto, hgx_iconst_2, hgx_invvirtual_3, hgx_if_eq, hgx_ret1, hgx_invvirtual_1, hgs_get_8_8, hgx_invstatic_1, hgx_iadd, hgx_istore_n_3i, hgx_istore_n_3r, hgx_istore_n_3f, hgx_istore_n_3n, hgx_istore_n_3l, hgx_iload_n_3, hgv197_0, hgr197_0, hgu197_0, hgv197_28, hgr197_28, hgu197_28, hgv197_29, hgr197_29, hgu197_29, hgv197_36, hgr197_36, hgu197_36, hgv197_38, hgr197_38, hgu197_38, hgWf_SI, hgWf_SJ, hgO_SI, hgO_SJ, hgAr_SI, hgAr_SJ, hgRp_SI, hgRp_SJ, hgN_SI, hgN_SJ, hgO_g, hgO_d, hgO_rl, hgO_r, hgO_0, hgO_1, hgO_64, hgO_298, hgO_300, hgCd_0, hgCd_1, hgCd_2, hgCd_3, hgCd_4, hgCd_5, hgRecv_O, hgRecv_99, List.length_cons, List.length_nil, Nat.zero_add, Nat.add_zero, Nat.le_refl, Nat.zero_le, and_self, or_true, true_or, true_and, and_true, ne_eq, not_false_eq_true, Nat.reduceLT, Nat.reduceLeDiff, Nat.reduceAdd, Nat.reduceEqDiff, hgn_eq, hgn_lt, hgn_le, if_true, if_false, reduceIte, Nat.not_lt_zero, hw, k1]
end HGCHG

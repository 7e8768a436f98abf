/-! ARRIVE, the operation. -/
section HGAR3
variable {X : hgX} {M M' M1 M2 M3 Mo : hgMem} {d t g h i j q c k a b n p N l r : Nat} {V V' V1 W U : hgV} {Hs Hs' : List hgV} {x y z x1 x2 x3 x4 x5 s ans : Int32} {u : Int64} {P : Nat → Prop} {o : Option Nat}
theorem hgSM_up (h : hgSM M V Hs c) (hc : c < 512) : hgSM M V Hs (c + 1) := by
  obtain ⟨a1, a2, a3, a4, a5, a6, a7⟩ := h
  exact ⟨a1, a2, a3, hgVok_up a4 hc, fun W hW => hgVok_up (a5 W hW) hc, a6, a7⟩
/-- the reference's way to its receive -/
theorem hgk_193p (h : hgSM M V Hs c) (ho : ∀ i, o = some i → i < vN V) (hi : i < vN V) (h3 : ∃ i, i < 1000 ∧ x3 = nI i) (h4 : 1 ≤ x4.toInt ∧ x4.toInt ≤ 99) : ∃ M2, hgSM M2 V ((V :: Hs).take 8) c ∧ hgFR M M2 ∧ hgWf M2 ∧ hgI M2 300 0 = nI 0 ∧ (∀ M3, hgWf M3 → hgWC X 191 [.ref 300, .int (hgOi o), .int (nI i), .int x3, .int x4] M2 = some (.inl (.int (nI 0)), M3) → hgWC X 193 [.ref 300, .int (hgOi o), .int (nI i), .int x3, .int x4] M = some (.inl (.int (nI 0)), M3)) ∧ (∀ w, 1 ≤ w → w ≤ 3 → hgWC X 191 [.ref 300, .int (hgOi o), .int (nI i), .int x3, .int x4] M2 = some (.inl (.int (nI w)), M2) → hgWC X 193 [.ref 300, .int (hgOi o), .int (nI i), .int x3, .int x4] M = some (.inl (.int (nI w)), hgSI M2 302 (6 + w) (hgI M2 302 (6 + w) + nI 1))) := by
  have hw := h.1
  have h2 : hgSM (hgSI M 300 0 (nI 0)) V Hs c := hgSM_0 h
  have r1 := hgk_166a (X := X) h2 hgI_at ⟨o, ho, rfl⟩
  have r2 := hgk_165a (X := X) h2 hgI_at ⟨i, hi, rfl⟩
  have b3 : hgBtw x3 (nI 0) (nI 999) = true := by
    rw [hgBtw_i, hgn_0, hgn_int (by omega), decide_eq_true_iff]
    have := (hgin_i (by omega)).mp h3
    omega
  have b4 : hgBtw x4 (nI 1) (nI 99) = true := by
    rw [hgBtw_i, hgn_int (a := 1) (by omega), hgn_int (a := 99) (by omega), decide_eq_true_iff]
    exact h4
  have k0 := hgk_124a (X := X) (M := hgSI M 300 0 (nI 0)) (y := nI 2) hw hgI_at
  obtain ⟨M2, e2, r3, f3, w3, o3⟩ := hgSM_rem (X := X) h2 hgI_at
  refine ⟨M2, r3, hgFR_t hgFR_0 f3, w3, o3, fun M3 w4 k9 => ?_, fun w w1 w2 k9 => ?_⟩
  · simp (maxDischargeDepth := 7) only [hgc193, hgM_t, hgM_f, hgM_n, hgx_aload_n_0, hgx_iconst_0, hgx_put0, hgx_iload_n_1, hgx_invvirtual_2, hgx_aft_e, hgx_aft_i, hgx_aft_l, hgx_aft_v, hgx_if_ne, hgx_iload_n_2, hgx_iload_n_3, hgx_invstatic_1, hgx_if_eq, hgx_iload_4, hgx_iconst_1, hgx_bipush_99, hgx_invstatic_3, hgx_goto, hgx_iconst_2, hgx_invvirtual_3, hgx_ret1, hgx_invvirtual_1, hgx_invvirtual_5, hgx_istore_5i, hgx_istore_5r, hgx_istore_5f, hgx_istore_5n, hgx_istore_5l, hgx_iload_5, hgx_if_le, hgs_get_8_8, hgx_bipush_7, hgx_iadd, hgx_isub, hgx_dup2, hgv193_0, hgr193_0, hgu193_0, hgv193_40, hgr193_40, hgu193_40, hgv193_44, hgr193_44, hgu193_44, hgv193_45, hgr193_45, hgu193_45, hgv193_52, hgr193_52, hgu193_52, hgv193_54, hgr193_54, hgu193_54, hgv193_90, hgr193_90, hgu193_90, hgs_aa_d, hgs_aa_r, hgs_aa_h, hgs_aa_m, hgs_aa_t, hgs_ld_wp, hgs_st_wp, hgs_ld_qf, hgs_st_qf, hgs_ld_qt, hgs_st_qt, hgs_ld_2, hgs_st_2, hgs_ld_3, hgs_st_3, hgs_ld_4, hgs_st_4, hgs_ld_301, hgs_st_301, hgs_ld_D, hgs_st_D, hgs_ld_s, hgs_ld_T, hgs_st_T, hgs_ld_o, hgs_st_o, hgs_ld_b, hgs_st_b, hgs_ld_z, hgs_st_z, hgs_al_b, hgx_alen_s, hgWf_SI, hgWf_SJ, hgO_SI, hgO_SJ, hgAr_SI, hgAr_SJ, hgRp_SI, hgRp_SJ, hgN_SI, hgN_SJ, hgO_g, hgO_d, hgO_rl, hgO_r, hgO_0, hgO_1, hgO_64, hgO_298, hgO_300, hgCd_0, hgCd_1, hgCd_2, hgCd_3, hgCd_4, hgCd_5, hgRecv_O, hgRecv_99, List.length_cons, List.length_nil, Nat.zero_add, Nat.add_zero, Nat.le_refl, Nat.zero_le, and_self, or_true, true_or, true_and, and_true, ne_eq, not_false_eq_true, Nat.reduceLT, Nat.reduceLeDiff, Nat.reduceAdd, Nat.reduceEqDiff, hgn_eq, hgn_lt, hgn_le, if_true, if_false, reduceIte, Nat.not_lt_zero, hgn_add, hgn_mul, hw, r1, r2, hgk_160, hgk_125, b3, b4, hgB_t, k0, e2, w3, k9]
  · have c1 : ¬ w ≤ 0 := by omega
    have c2 : w < 2147483648 := by omega
    have c3 : 7 + w - 1 = 6 + w := by omega
    have c4 : 6 + w < 20187 := by omega
    have c5 : 1 ≤ 7 + w := by omega
    simp (maxDischargeDepth := 7) only [hgc193, hgM_t, hgM_f, hgM_n, hgx_aload_n_0, hgx_iconst_0, hgx_put0, hgx_iload_n_1, hgx_invvirtual_2, hgx_aft_e, hgx_aft_i, hgx_aft_l, hgx_aft_v, hgx_if_ne, hgx_iload_n_2, hgx_iload_n_3, hgx_invstatic_1, hgx_if_eq, hgx_iload_4, hgx_iconst_1, hgx_bipush_99, hgx_invstatic_3, hgx_goto, hgx_iconst_2, hgx_invvirtual_3, hgx_ret1, hgx_invvirtual_1, hgx_invvirtual_5, hgx_istore_5i, hgx_istore_5r, hgx_istore_5f, hgx_istore_5n, hgx_istore_5l, hgx_iload_5, hgx_if_le, hgs_get_8_8, hgx_bipush_7, hgx_iadd, hgx_isub, hgx_dup2, hgv193_0, hgr193_0, hgu193_0, hgv193_40, hgr193_40, hgu193_40, hgv193_44, hgr193_44, hgu193_44, hgv193_45, hgr193_45, hgu193_45, hgv193_52, hgr193_52, hgu193_52, hgv193_54, hgr193_54, hgu193_54, hgv193_90, hgr193_90, hgu193_90, hgs_aa_d, hgs_aa_r, hgs_aa_h, hgs_aa_m, hgs_aa_t, hgs_ld_wp, hgs_st_wp, hgs_ld_qf, hgs_st_qf, hgs_ld_qt, hgs_st_qt, hgs_ld_2, hgs_st_2, hgs_ld_3, hgs_st_3, hgs_ld_4, hgs_st_4, hgs_ld_301, hgs_st_301, hgs_ld_D, hgs_st_D, hgs_ld_s, hgs_ld_T, hgs_st_T, hgs_ld_o, hgs_st_o, hgs_ld_b, hgs_st_b, hgs_ld_z, hgs_st_z, hgs_al_b, hgx_alen_s, hgWf_SI, hgWf_SJ, hgO_SI, hgO_SJ, hgAr_SI, hgAr_SJ, hgRp_SI, hgRp_SJ, hgN_SI, hgN_SJ, hgO_g, hgO_d, hgO_rl, hgO_r, hgO_0, hgO_1, hgO_64, hgO_298, hgO_300, hgCd_0, hgCd_1, hgCd_2, hgCd_3, hgCd_4, hgCd_5, hgRecv_O, hgRecv_99, List.length_cons, List.length_nil, Nat.zero_add, Nat.add_zero, Nat.le_refl, Nat.zero_le, and_self, or_true, true_or, true_and, and_true, ne_eq, not_false_eq_true, Nat.reduceLT, Nat.reduceLeDiff, Nat.reduceAdd, Nat.reduceEqDiff, hgn_eq, hgn_lt, hgn_le, if_true, if_false, reduceIte, Nat.not_lt_zero, hgn_add, hgn_mul, hw, r1, r2, hgk_160, hgk_125, b3, b4, hgB_t, k0, e2, w3, k9, c1, c2, hgn_sub, c3, c4, c5, hgAr_302 w3]
/-- the component's way to its take -/
theorem hgk_106p (h : hgSC M V Hs c) (ho : ∀ i, o = some i → i < vN V) (hi : i < vN V) (h3 : ∃ i, i < 1000 ∧ x3 = nI i) (h4 : 1 ≤ x4.toInt ∧ x4.toInt ≤ 99) : ∃ M1, hgSC M1 V ((V :: Hs).take 8) c ∧ hgFC M M1 ∧ (∀ v M2, hgWC X 23 [.ref 6, .int (hgOi o), .int (nI i), .int x3, .int x4] M1 = some (.inl (.int v), M2) → hgWC X 106 [.ref 0, .int (hgOi o), .int (nI i), .int x3, .int x4] M = some (.inl (.int v), M2)) := by
  obtain ⟨hw, g6, _, _, _, _⟩ := hgSC_6 h
  have k1 := hgk_118a (X := X) h ho
  have k2 := hgk_117a (X := X) h hi
  have k3 := hgk_120a (X := X) (M := M) h3
  obtain ⟨M1, e1, r1, f1⟩ := hgk_32 (X := X) h
  have w1 := r1.1
  have y1 : ¬ x4 < nI 1 := by rw [hglt_i, hgn_int (by omega)]; omega
  have y2 : x4 ≤ nI 99 := by rw [hgle_i, hgn_int (by omega)]; omega
  refine ⟨M1, r1, hgFC_32 f1, fun v M2 k9 => ?_⟩
  simp (maxDischargeDepth := 7) only [hgc106, hgM_t, hgM_f, hgM_n, hgx_aload_n_0, hgx_iload_n_1, hgx_invvirtual_2, hgx_aft_e, hgx_aft_i, hgx_aft_l, hgx_aft_v, hgx_iload_n_2, hgx_iload_n_3, hgx_invstatic_1, hgx_iload_4, hgx_iconst_1, hgx_ic_lt, hgx_bipush_99, hgx_ic_le, hgx_throw, hgs_get_7_5, hgs_get_7_3, hgx_invvirtual_5, hgx_ret1, hgv106_0, hgr106_0, hgu106_0, hgv106_27, hgr106_27, hgu106_27, hgv106_37, hgr106_37, hgu106_37, hgI_SI, hgI_SJ, hgJ_SI, hgJ_SJ, if_true, if_false, reduceIte, Nat.reduceEqDiff, hgWf_SI, hgWf_SJ, hgO_SI, hgO_SJ, hgAr_SI, hgAr_SJ, hgRp_SI, hgRp_SJ, hgN_SI, hgN_SJ, hgO_g, hgO_d, hgO_rl, hgO_r, hgO_0, hgO_1, hgO_64, hgO_298, hgO_300, hgCd_0, hgCd_1, hgCd_2, hgCd_3, hgCd_4, hgCd_5, hgRecv_O, hgRecv_99, List.length_cons, List.length_nil, Nat.zero_add, Nat.add_zero, Nat.le_refl, Nat.zero_le, and_self, or_true, true_or, true_and, and_true, ne_eq, not_false_eq_true, Nat.reduceLT, Nat.reduceLeDiff, Nat.reduceAdd, Nat.reduceEqDiff, hgn_eq, hgn_lt, hgn_le, if_true, if_false, reduceIte, Nat.not_lt_zero, hw, g6, k1, k2, k3, y1, y2, e1, w1, k9]
theorem vQ3_f : vN (vQ3 V i s c) = vN V ∧ vS (vQ3 V i s c) 3 = vS V 3 ∧ ∀ b, vB (vQ3 V i s c) b = if b = i then vB V i ++ [c] else vB V b := by
  have f1 := vQ1_f (V := V) (i := i)
  have e : ∀ b, vB (vQ2 V i s c) b = if b = i then vB V i ++ [c] else vB V b := fun b => by
    unfold vQ2
    rw [vB_sq, f1.2.1]
  have eN : vN (vQ2 V i s c) = vN V := f1.2.2.2.1
  have eS : vS (vQ2 V i s c) 3 = vS V 3 := congrFun f1.2.2.2.2 3
  unfold vQ3
  split
  · exact ⟨eN, eS, e⟩
  · exact ⟨eN, eS, e⟩
/-- a count goes up -/
theorem hgSC_cnt (h : hgSC M V Hs c) (hk2 : (k = 7 ∧ n = 13) ∨ (k = 8 ∧ n = 14) ∨ (k = 9 ∧ n = 15)) : hgSC (hgSI M 6 n x) (vSs V k x) Hs c ∧ hgFC M (hgSI M 6 n x) := by
  refine ⟨hgSC_cur (P := fun b => b = 6) h (hgFm_SI hgFm_r rfl) (fun b hb => by omega) h.1 (hgCV_ss h.1 (hgSm_ok h.2.2.2.2.1) (by omega) h.2.2.1) (hgVok_s h.2.2.2.2.1 (by omega)), hgFC_m (P := fun b => b = 6) (hgFm_SI hgFm_r rfl) (fun b hb => by omega)⟩
theorem hgSM_cnt (h : hgSM M V Hs c) (hk2 : k = 7 ∨ k = 8 ∨ k = 9) : hgSM (hgSI M 302 k x) (vSs V k x) Hs c := hgSM_cur (P := fun b => b = 302) h (hgFm_SI hgFm_r rfl) (fun b hb => Or.inl hb) h.1 (hgRV_ss (hgSm_ok h.2.2.2.1) (by omega) (by omega) (by omega) h.2.1) (hgVok_s h.2.2.2.1 (by omega))
theorem hgOp_219 (h : hgInv M N) (hN5 : N < 512) : hgBi X 219 [.ref 0, .int x1, .int x2, .int x3, .int x4, .ref 325] 193 [.ref 300, .int x1, .int x2, .int x3, .int x4] M N := by
  obtain ⟨V, Hs, c, hc, hC, hR, hH, hb⟩ := h
  obtain ⟨hw, g6, _, hN, _, _⟩ := hgSC_6 hC
  have h2 : hgSM (hgSI M 300 0 (nI 0)) V Hs c := hgSM_0 hR
  by_cases q1 : ∃ o : Option Nat, (∀ i, o = some i → i < vN V) ∧ x1 = hgOi o
  · have r1 := hgk_166a (X := X) h2 hgI_at q1
    obtain ⟨o, ho, rfl⟩ := q1
    have k1 := hgk_118a (X := X) hC ho
    by_cases q2 : ∃ i, i < vN V ∧ x2 = nI i
    · have r2 := hgk_165a (X := X) h2 hgI_at q2
      obtain ⟨i, hi, rfl⟩ := q2
      have k2 := hgk_117a (X := X) hC hi
      have k0 := hgk_124b (X := X) (M := hgSI M 300 0 (nI 0)) (y := nI 2) hw hgI_at hgn20
      by_cases q3 : ∃ i, i < 1000 ∧ x3 = nI i
      · have b3 : hgBtw x3 (nI 0) (nI 999) = true := by
          rw [hgBtw_i, hgn_0, hgn_int (by omega), decide_eq_true_iff]
          have := (hgin_i (by omega)).mp q3
          omega
        have k3 := hgk_120a (X := X) (M := M) q3
        by_cases q4 : 1 ≤ x4.toInt ∧ x4.toInt ≤ 99
        · obtain ⟨M1, s1, f1, c1⟩ := hgk_106p (X := X) hC ho hi q3 q4
          have hk := s1.2.2.2.2.1
          have w1 := s1.1
          have rp := fun Mo (hm : hgSM Mo V Hs c) => hgk_193p (X := X) hm ho hi q3 q4
          have hsm : ∀ u M2, hgFC M M2 → hgWf M2 → hgSM (hgSJ M2 325 0 u) V Hs c := fun u M2 f w => hgSM_o (hgSM_C f w hR)
          have hs4 : ∃ w, 1 ≤ w ∧ w ≤ 99 ∧ x4 = nI w := by
            obtain ⟨w, w1, w2⟩ := (hgin_i (x := x4) (n := 100) (by omega)).mpr ⟨by omega, by omega⟩
            exact ⟨w, by rw [w2, hgn_int (by omega)] at q4; omega, by omega, w2⟩
          by_cases qj : vJudge V o i x3 = nI 0
          · by_cases qs : vD V i 4 = nI 2 ∧ vWk V x3 = false
            · -- proxied
              obtain ⟨kc, _⟩ := hgk_23p (X := X) (s := x4) w1 hk hi s1.2.2.1 ho qj qs.1 qs.2
              have s2 := hgSC_cnt (x := vS V 8 + nI 1) s1 (k := 8) (n := 14) (by omega)
              refine hgBi_ok hb (hgL_219 hw s2.1.1 (c1 _ _ kc)) s2.1 (hgFC_t f1 s2.2) ?_ (hgHi_sub hH (hgSub_e rfl rfl) (hgHi_3 hH).2.2) (by omega)
              obtain ⟨M2, t1, t2, t3, t4, _, t6⟩ := rp _ (hsm (nI 2).toInt64 _ (hgFC_t f1 s2.2) s2.1.1)
              have e8 := t1.2.1.2.2.2.2.2.2.1 8 (by omega) (by omega)
              have kr := t6 2 (by omega) (by omega) ((hgk_191n (X := X) (s := x4) t3 t1.2.2.2.1 hi t1.2.1 ho).2.1 qj qs.1 qs.2)
              rw [show 6 + 2 = 8 from rfl, e8] at kr
              exact ⟨_, kr, hgSM_cnt t1 (by omega), hgFR_t t2 hgFR_302, by rw [hgI_na (by omega)]; exact t4⟩
            · have hsl : vD V i 4 ≠ nI 2 ∨ vWk V x3 = true := by
                by_cases e : vD V i 4 = nI 2
                · refine Or.inr ?_
                  cases hh : vWk V x3 with
                  | true => rfl
                  | false => exact absurd ⟨e, hh⟩ qs
                · exact Or.inl e
              by_cases ql : vS V 6 < hgBk (vQ V i) + x4
              · -- dropped
                obtain ⟨kc, _⟩ := hgk_23d (X := X) (s := x4) w1 hk hi s1.2.2.1 ho qj hsl ql
                have s2 := hgSC_cnt (x := vS V 9 + nI 1) s1 (k := 9) (n := 15) (by omega)
                refine hgBi_ok hb (hgL_219 hw s2.1.1 (c1 _ _ kc)) s2.1 (hgFC_t f1 s2.2) ?_ (hgHi_sub hH (hgSub_e rfl rfl) (hgHi_3 hH).2.2) (by omega)
                obtain ⟨M2, t1, t2, t3, t4, _, t6⟩ := rp _ (hsm (nI 3).toInt64 _ (hgFC_t f1 s2.2) s2.1.1)
                have e8 := t1.2.1.2.2.2.2.2.2.1 9 (by omega) (by omega)
                have kr := t6 3 (by omega) (by omega) ((hgk_191n (X := X) (s := x4) t3 t1.2.2.2.1 hi t1.2.1 ho).2.2 qj hsl ql)
                rw [show 6 + 3 = 9 from rfl, e8] at kr
                exact ⟨_, kr, hgSM_cnt t1 (by omega), hgFR_t t2 hgFR_302, by rw [hgI_na (by omega)]; exact t4⟩
              · -- queued
                have c5 : c < 512 := by omega
                obtain ⟨M2, kc, v2, p2⟩ := hgk_23q (X := X) (s := x4) w1 s1.2.1 c5 hk (hgHi_3 hH).1 hi s1.2.2.1 ho qj hsl ql
                have s2 := hgSC_push s1 (fun W hW => hgHi_all hH W (List.mem_of_mem_take hW)) hi p2 v2 (hgVok_q3 hk c5 hi hs4) c5
                have hid : ∀ U ∈ V :: Hs, ∀ a, a < vN U → ∀ p ∈ vB U a, p < c := fun U hU a ha p hp => by
                  rcases List.mem_cons.mp hU with e | e
                  · rw [e] at ha hp
                    exact (hk.2.2.2.1 a ha).2.2.2.2.2.2.1 p hp
                  · exact ((hC.2.2.2.2.2.1 U e).2.2.2.1 a ha).2.2.2.2.2.2.1 p hp
                have vf := vQ3_f (V := V) (i := i) (s := x4) (c := c)
                refine hgBi_ok hb (hgL_219 hw s2.1.1 (c1 _ _ kc)) s2.1 (hgFC_t f1 s2.2) ?_ (hgHi_push hH hid vf.2.2 vf.1 vf.2.1 hi) (by omega)
                obtain ⟨M3, t1, t2, t3, t4, t5, _⟩ := rp _ (hsm (nI 0).toInt64 _ (hgFC_t f1 s2.2) s2.1.1)
                obtain ⟨M4, y1, y2, y3, y4⟩ := hgk_191q (X := X) (s := x4) t3 t1.2.2.2.1 hi t1.2.1 ho qj hsl ql
                exact ⟨M4, t5 M4 y2 y1, hgSM_cur (hgSM_up t1 c5) y4 (fun b hb => hb) y2 y3 (hgVok_q3 hk c5 hi hs4), hgFR_t t2 (hgFR_m y4 (fun b hb => by omega)), by rw [(y4.2 300 (by omega) 0).1]; exact t4⟩
          · -- rejected
            obtain ⟨kc, _⟩ := hgk_23r (X := X) (s := x4) w1 hk hi s1.2.2.1 ho qj
            have s2 := hgSC_cnt (x := vS V 7 + nI 1) s1 (k := 7) (n := 13) (by omega)
            refine hgBi_ok hb (hgL_219 hw s2.1.1 (c1 _ _ kc)) s2.1 (hgFC_t f1 s2.2) ?_ (hgHi_sub hH (hgSub_e rfl rfl) (hgHi_3 hH).2.2) (by omega)
            obtain ⟨M2, t1, t2, t3, t4, _, t6⟩ := rp _ (hsm (nI 1).toInt64 _ (hgFC_t f1 s2.2) s2.1.1)
            have e8 := t1.2.1.2.2.2.2.2.2.1 7 (by omega) (by omega)
            have kr := t6 1 (by omega) (by omega) ((hgk_191n (X := X) (s := x4) t3 t1.2.2.2.1 hi t1.2.1 ho).1 qj)
            rw [show 6 + 1 = 7 from rfl, e8] at kr
            exact ⟨_, kr, hgSM_cnt t1 (by omega), hgFR_t t2 hgFR_302, by rw [hgI_na (by omega)]; exact t4⟩
        · have b4 : hgBtw x4 (nI 1) (nI 99) = false := by
            rw [hgBtw_i, hgn_int (a := 1) (by omega), hgn_int (a := 99) (by omega), decide_eq_false_iff_not]
            exact q4
          have kc : hgWC X 106 [.ref 0, .int (hgOi o), .int (nI i), .int x3, .int x4] M = some (.inr 0, M) := by
            by_cases q : x4 < nI 1
            · simp (maxDischargeDepth := 7) only [hgc106, hgM_t, hgM_f, hgM_n, hgx_aload_n_0, hgx_iload_n_1, hgx_invvirtual_2, hgx_aft_e, hgx_aft_i, hgx_aft_l, hgx_aft_v, hgx_iload_n_2, hgx_iload_n_3, hgx_invstatic_1, hgx_iload_4, hgx_iconst_1, hgx_ic_lt, hgx_bipush_99, hgx_ic_le, hgx_throw, hgs_get_7_5, hgs_get_7_3, hgx_invvirtual_5, hgx_ret1, hgv106_0, hgr106_0, hgu106_0, hgv106_27, hgr106_27, hgu106_27, hgv106_37, hgr106_37, hgu106_37, hgx_throw, hgI_SI, hgI_SJ, hgJ_SI, hgJ_SJ, if_true, if_false, reduceIte, Nat.reduceEqDiff, hgWf_SI, hgWf_SJ, hgO_SI, hgO_SJ, hgAr_SI, hgAr_SJ, hgRp_SI, hgRp_SJ, hgN_SI, hgN_SJ, hgO_g, hgO_d, hgO_rl, hgO_r, hgO_0, hgO_1, hgO_64, hgO_298, hgO_300, hgCd_0, hgCd_1, hgCd_2, hgCd_3, hgCd_4, hgCd_5, hgRecv_O, hgRecv_99, List.length_cons, List.length_nil, Nat.zero_add, Nat.add_zero, Nat.le_refl, Nat.zero_le, and_self, or_true, true_or, true_and, and_true, ne_eq, not_false_eq_true, Nat.reduceLT, Nat.reduceLeDiff, Nat.reduceAdd, Nat.reduceEqDiff, hgn_eq, hgn_lt, hgn_le, if_true, if_false, reduceIte, Nat.not_lt_zero, hw, k1, k2, k3, q]
            · have q2 : ¬ x4 ≤ nI 99 := by
                rw [hglt_i, hgn_int (by omega)] at q
                rw [hgle_i, hgn_int (by omega)]
                omega
              simp (maxDischargeDepth := 7) only [hgc106, hgM_t, hgM_f, hgM_n, hgx_aload_n_0, hgx_iload_n_1, hgx_invvirtual_2, hgx_aft_e, hgx_aft_i, hgx_aft_l, hgx_aft_v, hgx_iload_n_2, hgx_iload_n_3, hgx_invstatic_1, hgx_iload_4, hgx_iconst_1, hgx_ic_lt, hgx_bipush_99, hgx_ic_le, hgx_throw, hgs_get_7_5, hgs_get_7_3, hgx_invvirtual_5, hgx_ret1, hgv106_0, hgr106_0, hgu106_0, hgv106_27, hgr106_27, hgu106_27, hgv106_37, hgr106_37, hgu106_37, hgx_throw, hgI_SI, hgI_SJ, hgJ_SI, hgJ_SJ, if_true, if_false, reduceIte, Nat.reduceEqDiff, hgWf_SI, hgWf_SJ, hgO_SI, hgO_SJ, hgAr_SI, hgAr_SJ, hgRp_SI, hgRp_SJ, hgN_SI, hgN_SJ, hgO_g, hgO_d, hgO_rl, hgO_r, hgO_0, hgO_1, hgO_64, hgO_298, hgO_300, hgCd_0, hgCd_1, hgCd_2, hgCd_3, hgCd_4, hgCd_5, hgRecv_O, hgRecv_99, List.length_cons, List.length_nil, Nat.zero_add, Nat.add_zero, Nat.le_refl, Nat.zero_le, and_self, or_true, true_or, true_and, and_true, ne_eq, not_false_eq_true, Nat.reduceLT, Nat.reduceLeDiff, Nat.reduceAdd, Nat.reduceEqDiff, hgn_eq, hgn_lt, hgn_le, if_true, if_false, reduceIte, Nat.not_lt_zero, hw, k1, k2, k3, q, q2]
          refine hgBi_no hb hgn20 (hgL_219_0 hw kc) ⟨nI 0, ?_⟩ hC hR hH (by omega)
          simp (maxDischargeDepth := 7) only [hgc193, hgM_t, hgM_f, hgM_n, hgx_aload_n_0, hgx_iconst_0, hgx_put0, hgx_iload_n_1, hgx_invvirtual_2, hgx_aft_e, hgx_aft_i, hgx_aft_l, hgx_aft_v, hgx_if_ne, hgx_iload_n_2, hgx_iload_n_3, hgx_invstatic_1, hgx_if_eq, hgx_iload_4, hgx_iconst_1, hgx_bipush_99, hgx_invstatic_3, hgx_goto, hgx_iconst_2, hgx_invvirtual_3, hgx_ret1, hgx_invvirtual_1, hgx_invvirtual_5, hgx_istore_5i, hgx_istore_5r, hgx_istore_5f, hgx_istore_5n, hgx_istore_5l, hgx_iload_5, hgx_if_le, hgs_get_8_8, hgx_bipush_7, hgx_iadd, hgx_isub, hgx_dup2, hgv193_0, hgr193_0, hgu193_0, hgv193_40, hgr193_40, hgu193_40, hgv193_44, hgr193_44, hgu193_44, hgv193_45, hgr193_45, hgu193_45, hgv193_52, hgr193_52, hgu193_52, hgv193_54, hgr193_54, hgu193_54, hgv193_90, hgr193_90, hgu193_90, hgWf_SI, hgWf_SJ, hgO_SI, hgO_SJ, hgAr_SI, hgAr_SJ, hgRp_SI, hgRp_SJ, hgN_SI, hgN_SJ, hgO_g, hgO_d, hgO_rl, hgO_r, hgO_0, hgO_1, hgO_64, hgO_298, hgO_300, hgCd_0, hgCd_1, hgCd_2, hgCd_3, hgCd_4, hgCd_5, hgRecv_O, hgRecv_99, List.length_cons, List.length_nil, Nat.zero_add, Nat.add_zero, Nat.le_refl, Nat.zero_le, and_self, or_true, true_or, true_and, and_true, ne_eq, not_false_eq_true, Nat.reduceLT, Nat.reduceLeDiff, Nat.reduceAdd, Nat.reduceEqDiff, hgn_eq, hgn_lt, hgn_le, if_true, if_false, reduceIte, Nat.not_lt_zero, hw, r1, r2, hgk_160, hgk_125, b3, b4, hgB_t, hgB_f, k0]
      · have b3 : hgBtw x3 (nI 0) (nI 999) = false := by
          rw [hgBtw_i, hgn_0, hgn_int (by omega), decide_eq_false_iff_not]
          rw [hgin_i (by omega)] at q3
          omega
        have k3 := hgk_120b (X := X) (M := M) q3
        have kc : hgWC X 106 [.ref 0, .int (hgOi o), .int (nI i), .int x3, .int x4] M = some (.inr 0, M) := by
          simp (maxDischargeDepth := 7) only [hgc106, hgM_t, hgM_f, hgM_n, hgx_aload_n_0, hgx_iload_n_1, hgx_invvirtual_2, hgx_aft_e, hgx_aft_i, hgx_aft_l, hgx_aft_v, hgx_iload_n_2, hgx_iload_n_3, hgx_invstatic_1, hgx_iload_4, hgx_iconst_1, hgx_ic_lt, hgx_bipush_99, hgx_ic_le, hgx_throw, hgs_get_7_5, hgs_get_7_3, hgx_invvirtual_5, hgx_ret1, hgv106_0, hgr106_0, hgu106_0, hgv106_27, hgr106_27, hgu106_27, hgv106_37, hgr106_37, hgu106_37, hgI_SI, hgI_SJ, hgJ_SI, hgJ_SJ, if_true, if_false, reduceIte, Nat.reduceEqDiff, hgWf_SI, hgWf_SJ, hgO_SI, hgO_SJ, hgAr_SI, hgAr_SJ, hgRp_SI, hgRp_SJ, hgN_SI, hgN_SJ, hgO_g, hgO_d, hgO_rl, hgO_r, hgO_0, hgO_1, hgO_64, hgO_298, hgO_300, hgCd_0, hgCd_1, hgCd_2, hgCd_3, hgCd_4, hgCd_5, hgRecv_O, hgRecv_99, List.length_cons, List.length_nil, Nat.zero_add, Nat.add_zero, Nat.le_refl, Nat.zero_le, and_self, or_true, true_or, true_and, and_true, ne_eq, not_false_eq_true, Nat.reduceLT, Nat.reduceLeDiff, Nat.reduceAdd, Nat.reduceEqDiff, hgn_eq, hgn_lt, hgn_le, if_true, if_false, reduceIte, Nat.not_lt_zero, hw, k1, k2, k3]
        refine hgBi_no hb hgn20 (hgL_219_0 hw kc) ⟨nI 0, ?_⟩ hC hR hH (by omega)
        simp (maxDischargeDepth := 7) only [hgc193, hgM_t, hgM_f, hgM_n, hgx_aload_n_0, hgx_iconst_0, hgx_put0, hgx_iload_n_1, hgx_invvirtual_2, hgx_aft_e, hgx_aft_i, hgx_aft_l, hgx_aft_v, hgx_if_ne, hgx_iload_n_2, hgx_iload_n_3, hgx_invstatic_1, hgx_if_eq, hgx_iload_4, hgx_iconst_1, hgx_bipush_99, hgx_invstatic_3, hgx_goto, hgx_iconst_2, hgx_invvirtual_3, hgx_ret1, hgx_invvirtual_1, hgx_invvirtual_5, hgx_istore_5i, hgx_istore_5r, hgx_istore_5f, hgx_istore_5n, hgx_istore_5l, hgx_iload_5, hgx_if_le, hgs_get_8_8, hgx_bipush_7, hgx_iadd, hgx_isub, hgx_dup2, hgv193_0, hgr193_0, hgu193_0, hgv193_40, hgr193_40, hgu193_40, hgv193_44, hgr193_44, hgu193_44, hgv193_45, hgr193_45, hgu193_45, hgv193_52, hgr193_52, hgu193_52, hgv193_54, hgr193_54, hgu193_54, hgv193_90, hgr193_90, hgu193_90, hgWf_SI, hgWf_SJ, hgO_SI, hgO_SJ, hgAr_SI, hgAr_SJ, hgRp_SI, hgRp_SJ, hgN_SI, hgN_SJ, hgO_g, hgO_d, hgO_rl, hgO_r, hgO_0, hgO_1, hgO_64, hgO_298, hgO_300, hgCd_0, hgCd_1, hgCd_2, hgCd_3, hgCd_4, hgCd_5, hgRecv_O, hgRecv_99, List.length_cons, List.length_nil, Nat.zero_add, Nat.add_zero, Nat.le_refl, Nat.zero_le, and_self, or_true, true_or, true_and, and_true, ne_eq, not_false_eq_true, Nat.reduceLT, Nat.reduceLeDiff, Nat.reduceAdd, Nat.reduceEqDiff, hgn_eq, hgn_lt, hgn_le, if_true, if_false, reduceIte, Nat.not_lt_zero, hw, r1, r2, hgk_160, b3, hgB_f, k0]
    · have r2 := hgk_165b (X := X) h2 hgI_at q2
      have k2 := hgk_117b (X := X) hC q2
      have kc : hgWC X 106 [.ref 0, .int (hgOi o), .int x2, .int x3, .int x4] M = some (.inr 2, M) := by
        simp (maxDischargeDepth := 7) only [hgc106, hgM_t, hgM_f, hgM_n, hgx_aload_n_0, hgx_iload_n_1, hgx_invvirtual_2, hgx_aft_e, hgx_aft_i, hgx_aft_l, hgx_aft_v, hgx_iload_n_2, hgx_iload_n_3, hgx_invstatic_1, hgx_iload_4, hgx_iconst_1, hgx_ic_lt, hgx_bipush_99, hgx_ic_le, hgx_throw, hgs_get_7_5, hgs_get_7_3, hgx_invvirtual_5, hgx_ret1, hgv106_0, hgr106_0, hgu106_0, hgv106_27, hgr106_27, hgu106_27, hgv106_37, hgr106_37, hgu106_37, hgI_SI, hgI_SJ, hgJ_SI, hgJ_SJ, if_true, if_false, reduceIte, Nat.reduceEqDiff, hgWf_SI, hgWf_SJ, hgO_SI, hgO_SJ, hgAr_SI, hgAr_SJ, hgRp_SI, hgRp_SJ, hgN_SI, hgN_SJ, hgO_g, hgO_d, hgO_rl, hgO_r, hgO_0, hgO_1, hgO_64, hgO_298, hgO_300, hgCd_0, hgCd_1, hgCd_2, hgCd_3, hgCd_4, hgCd_5, hgRecv_O, hgRecv_99, List.length_cons, List.length_nil, Nat.zero_add, Nat.add_zero, Nat.le_refl, Nat.zero_le, and_self, or_true, true_or, true_and, and_true, ne_eq, not_false_eq_true, Nat.reduceLT, Nat.reduceLeDiff, Nat.reduceAdd, Nat.reduceEqDiff, hgn_eq, hgn_lt, hgn_le, if_true, if_false, reduceIte, Nat.not_lt_zero, hw, k1, k2]
      refine hgBi_no hb hgn10 (hgL_219_2 hw kc) ⟨nI 0, ?_⟩ hC hR hH (by omega)
      simp (maxDischargeDepth := 7) only [hgc193, hgM_t, hgM_f, hgM_n, hgx_aload_n_0, hgx_iconst_0, hgx_put0, hgx_iload_n_1, hgx_invvirtual_2, hgx_aft_e, hgx_aft_i, hgx_aft_l, hgx_aft_v, hgx_if_ne, hgx_iload_n_2, hgx_iload_n_3, hgx_invstatic_1, hgx_if_eq, hgx_iload_4, hgx_iconst_1, hgx_bipush_99, hgx_invstatic_3, hgx_goto, hgx_iconst_2, hgx_invvirtual_3, hgx_ret1, hgx_invvirtual_1, hgx_invvirtual_5, hgx_istore_5i, hgx_istore_5r, hgx_istore_5f, hgx_istore_5n, hgx_istore_5l, hgx_iload_5, hgx_if_le, hgs_get_8_8, hgx_bipush_7, hgx_iadd, hgx_isub, hgx_dup2, hgv193_0, hgr193_0, hgu193_0, hgv193_40, hgr193_40, hgu193_40, hgv193_44, hgr193_44, hgu193_44, hgv193_45, hgr193_45, hgu193_45, hgv193_52, hgr193_52, hgu193_52, hgv193_54, hgr193_54, hgu193_54, hgv193_90, hgr193_90, hgu193_90, hgWf_SI, hgWf_SJ, hgO_SI, hgO_SJ, hgAr_SI, hgAr_SJ, hgRp_SI, hgRp_SJ, hgN_SI, hgN_SJ, hgO_g, hgO_d, hgO_rl, hgO_r, hgO_0, hgO_1, hgO_64, hgO_298, hgO_300, hgCd_0, hgCd_1, hgCd_2, hgCd_3, hgCd_4, hgCd_5, hgRecv_O, hgRecv_99, List.length_cons, List.length_nil, Nat.zero_add, Nat.add_zero, Nat.le_refl, Nat.zero_le, and_self, or_true, true_or, true_and, and_true, ne_eq, not_false_eq_true, Nat.reduceLT, Nat.reduceLeDiff, Nat.reduceAdd, Nat.reduceEqDiff, hgn_eq, hgn_lt, hgn_le, if_true, if_false, reduceIte, Nat.not_lt_zero, hw, r1, r2]
  · have r1 := hgk_166b (X := X) h2 hgI_at q1
    have k1 := hgk_118b (X := X) hC q1
    have kc : hgWC X 106 [.ref 0, .int x1, .int x2, .int x3, .int x4] M = some (.inr 2, M) := by
      simp (maxDischargeDepth := 7) only [hgc106, hgM_t, hgM_f, hgM_n, hgx_aload_n_0, hgx_iload_n_1, hgx_invvirtual_2, hgx_aft_e, hgx_aft_i, hgx_aft_l, hgx_aft_v, hgx_iload_n_2, hgx_iload_n_3, hgx_invstatic_1, hgx_iload_4, hgx_iconst_1, hgx_ic_lt, hgx_bipush_99, hgx_ic_le, hgx_throw, hgs_get_7_5, hgs_get_7_3, hgx_invvirtual_5, hgx_ret1, hgv106_0, hgr106_0, hgu106_0, hgv106_27, hgr106_27, hgu106_27, hgv106_37, hgr106_37, hgu106_37, hgI_SI, hgI_SJ, hgJ_SI, hgJ_SJ, if_true, if_false, reduceIte, Nat.reduceEqDiff, hgWf_SI, hgWf_SJ, hgO_SI, hgO_SJ, hgAr_SI, hgAr_SJ, hgRp_SI, hgRp_SJ, hgN_SI, hgN_SJ, hgO_g, hgO_d, hgO_rl, hgO_r, hgO_0, hgO_1, hgO_64, hgO_298, hgO_300, hgCd_0, hgCd_1, hgCd_2, hgCd_3, hgCd_4, hgCd_5, hgRecv_O, hgRecv_99, List.length_cons, List.length_nil, Nat.zero_add, Nat.add_zero, Nat.le_refl, Nat.zero_le, and_self, or_true, true_or, true_and, and_true, ne_eq, not_false_eq_true, Nat.reduceLT, Nat.reduceLeDiff, Nat.reduceAdd, Nat.reduceEqDiff, hgn_eq, hgn_lt, hgn_le, if_true, if_false, reduceIte, Nat.not_lt_zero, hw, k1]
    refine hgBi_no hb hgn10 (hgL_219_2 hw kc) ⟨nI 0, ?_⟩ hC hR hH (by omega)
    simp (maxDischargeDepth := 7) only [hgc193, hgM_t, hgM_f, hgM_n, hgx_aload_n_0, hgx_iconst_0, hgx_put0, hgx_iload_n_1, hgx_invvirtual_2, hgx_aft_e, hgx_aft_i, hgx_aft_l, hgx_aft_v, hgx_if_ne, hgx_iload_n_2, hgx_iload_n_3, hgx_invstatic_1, hgx_if_eq, hgx_iload_4, hgx_iconst_1, hgx_bipush_99, hgx_invstatic_3, hgx_goto, hgx_iconst_2, hgx_invvirtual_3, hgx_ret1, hgx_invvirtual_1, hgx_invvirtual_5, hgx_istore_5i, hgx_istore_5r, hgx_istore_5f, hgx_istore_5n, hgx_istore_5l, hgx_iload_5, hgx_if_le, hgs_get_8_8, hgx_bipush_7, hgx_iadd, hgx_isub, hgx_dup2, hgv193_0, hgr193_0, hgu193_0, hgv193_40, hgr193_40, hgu193_40, hgv193_44, hgr193_44, hgu193_44, hgv193_45, hgr193_45, hgu193_45, hgv193_52, hgr193_52, hgu193_52, hgv193_54, hgr193_54, hgu193_54, hgv193_90, hgr193_90, hgu193_90, hgWf_SI, hgWf_SJ, hgO_SI, hgO_SJ, hgAr_SI, hgAr_SJ, hgRp_SI, hgRp_SJ, hgN_SI, hgN_SJ, hgO_g, hgO_d, hgO_rl, hgO_r, hgO_0, hgO_1, hgO_64, hgO_298, hgO_300, hgCd_0, hgCd_1, hgCd_2, hgCd_3, hgCd_4, hgCd_5, hgRecv_O, hgRecv_99, List.length_cons, List.length_nil, Nat.zero_add, Nat.add_zero, Nat.le_refl, Nat.zero_le, and_self, or_true, true_or, true_and, and_true, ne_eq, not_false_eq_true, Nat.reduceLT, Nat.reduceLeDiff, Nat.reduceAdd, Nat.reduceEqDiff, hgn_eq, hgn_lt, hgn_le, if_true, if_false, reduceIte, Nat.not_lt_zero, hw, r1]
end HGAR3

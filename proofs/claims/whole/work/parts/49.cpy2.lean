/-! A WHOLE GATEWAY IS COPIED, the component's. -/
section HGCP2
variable {X : hgX} {M M' : hgMem} {d t g h i j q c k a b n p : Nat} {V V' : hgV} {x y : Int32} {z : Int32 × Int32} {u : Int64}
theorem hgk_9 (hw : hgWf M) (hg : hgGw g) (hne : g ≠ h) (hk : hgVok V c) (hv : hgCV M h V) : ∃ M', hgWC X 9 [.ref g, .ref h] M = some (.inl .null, M') ∧ hgFn (fun b => g ≤ b ∧ b < g + 29) M M' ∧ hgCV M' g V := by
  obtain ⟨a1, a2, a3, a4, a5, a6, a7, a8, a9, a10, a11, a12, a13, a14, a15, a16, a17⟩ := hv
  have dj := hgGw_dj hg a1 hne
  have hg2 := hgGw_le hg
  have hh2 := hgGw_le a1
  obtain ⟨m1, m2, m3, _⟩ := hgSm_ok hk
  have ehg : ¬ h = g := fun e => hne e.symm
  have f0 : hgFn (fun b => b = g) M (hgSI (hgSI (hgSI (hgSI (hgSI M g 1 (hgI M h 1)) g 2 (vS V 4)) g 3 (vS V 5)) g 4 (vS V 6)) g 6 (nI (vN V))) := hgFn_SI (hgFn_SI (hgFn_SI (hgFn_SI (hgFn_SI hgFn_r rfl) rfl) rfl) rfl) rfl
  obtain ⟨M0, hM0⟩ : ∃ M0, M0 = hgSI (hgSI (hgSI (hgSI (hgSI M g 1 (hgI M h 1)) g 2 (vS V 4)) g 3 (vS V 5)) g 4 (vS V 6)) g 6 (nI (vN V)) := ⟨_, rfl⟩
  rw [← hM0] at f0
  have s6 : hgI M0 g 6 = nI (vN V) := by rw [hM0]; simp (maxDischargeDepth := 7) only [hgI_SI, hgI_SJ, hgJ_SI, hgJ_SJ, if_true, if_false, reduceIte, Nat.reduceEqDiff]
  have s4 : hgI M0 g 4 = vS V 6 := by rw [hM0]; simp (maxDischargeDepth := 7) only [hgI_SI, hgI_SJ, hgJ_SI, hgJ_SJ, if_true, if_false, reduceIte, Nat.reduceEqDiff]
  have s3 : hgI M0 g 3 = vS V 5 := by rw [hM0]; simp (maxDischargeDepth := 7) only [hgI_SI, hgI_SJ, hgJ_SI, hgJ_SJ, if_true, if_false, reduceIte, Nat.reduceEqDiff]
  have s2 : hgI M0 g 2 = vS V 4 := by rw [hM0]; simp (maxDischargeDepth := 7) only [hgI_SI, hgI_SJ, hgJ_SI, hgJ_SJ, if_true, if_false, reduceIte, Nat.reduceEqDiff]
  have s1 : hgI M0 g 1 = hgI M h 1 := by rw [hM0]; simp (maxDischargeDepth := 7) only [hgI_SI, hgI_SJ, hgJ_SI, hgJ_SJ, if_true, if_false, reduceIte, Nat.reduceEqDiff]
  have w0 := hgFn_w f0 hw
  obtain ⟨M1, e1, f1, d1⟩ := hgk_9a (X := X) hg a1 hne m1 (vN V) 0 M0 (by omega) s6 w0 (fun j hj => by
    rw [(f0.2.2 (h + 2 + j) (by omega) 14).1]
    exact (a12 j hj).2.2.2.2.2)
  have w1 := hgFn_w f1 w0
  have F1 : hgFn (fun b => g ≤ b ∧ b < g + 29) M M1 := hgFn_t (hgFn_m f0 (fun b hb => ⟨by omega, by omega⟩)) (hgFn_m f1 (fun b hb => ⟨by omega, by omega⟩))
  have rf1 : ∀ j, j < 12 → ∀ q, hgRf M1 h j q = hgRf M h j q := fun j hj q => hgRf_to (fun a k z1 z2 => (F1.2.2 a (by omega) k).1) (F1.2.1 _) hw a1 hj
  obtain ⟨M2, e2, f2, n2, r2⟩ := hgk_48 (X := X) w1 hg a1 hne (by rw [(F1.2.2 (h + 12) (by omega) 1).1]; exact a3) m2 (fun j hj => by
    rw [rf1 j (by omega), a13 j hj 0 (by omega)]
    exact hk.2.2.2.2.1 j hj)
  have w2 := hgFn_w f2 w1
  have F2 : hgFn (fun b => g ≤ b ∧ b < g + 29) M M2 := hgFn_t F1 (hgFn_m f2 (fun b hb => ⟨by omega, by omega⟩))
  have s9 : hgI M2 h 9 = nI (vW V) := by rw [(F2.2.2 h (by omega) 9).1]; exact a4
  have f3 : hgFn (fun b => b = g) M2 (hgSI M2 g 9 (nI (vW V))) := hgFn_SI hgFn_r rfl
  obtain ⟨M4, e4, f4, _, p4⟩ := hgk_9b (X := X) hg a1 hne m3 (vW V) 0 (hgSI M2 g 9 (nI (vW V))) (by omega) hgI_at w2
  have w4 : hgWf M4 := hgFn_w f4 w2
  have F4 : hgFn (fun b => g ≤ b ∧ b < g + 29) M M4 := hgFn_t (hgFn_t F2 (hgFn_m f3 (fun b hb => ⟨by omega, by omega⟩))) (hgFn_m f4 (fun b hb => ⟨by omega, by omega⟩))
  obtain ⟨M5, e5, f5, _, q5⟩ := hgk_9c (X := X) hg a1 hne 3 0 M4 (by omega) w4
  have w5 : hgWf M5 := hgFn_w f5 w4
  have F5 : hgFn (fun b => g ≤ b ∧ b < g + 29) M M5 := hgFn_t F4 (hgFn_m f5 (fun b hb => ⟨by omega, by omega⟩))
  have h5 : ∀ q, hgI M5 h q = hgI M h q := fun q => (F5.2.2 h (by omega) q).1
  have h12 := (h5 12).trans a5
  have h13 := (h5 13).trans a9
  have h14 := (h5 14).trans a10
  have h15 := (h5 15).trans a11
  have gg : ∀ q, q ≠ 9 → hgI M5 g q = hgI M0 g q := fun q hq => by
    rw [(f5.2.2 g (by omega) q).1, (f4.2.2 g (by omega) q).1, hgI_nk hq, (f2.2.2 g (by omega) q).1, (f1.2.2 g (by omega) q).1]
  have g9 : hgI M5 g 9 = nI (vW V) := by rw [(f5.2.2 g (by omega) 9).1, (f4.2.2 g (by omega) 9).1, hgI_at]
  have F6 : hgFn (fun b => b = g) M5 (hgSI (hgSI (hgSI (hgSI M5 g 12 (vS V 3)) g 13 (vS V 7)) g 14 (vS V 8)) g 15 (vS V 9)) := hgFn_SI (hgFn_SI (hgFn_SI (hgFn_SI hgFn_r rfl) rfl) rfl) rfl
  refine ⟨hgSI (hgSI (hgSI (hgSI M5 g 12 (vS V 3)) g 13 (vS V 7)) g 14 (vS V 8)) g 15 (vS V 9), ?_, hgFn_t F5 (hgFn_m F6 (fun b hb => ⟨by omega, by omega⟩)), ?_⟩
  · simp (maxDischargeDepth := 7) only [hgc9, hgM_t, hgM_f, hgM_n, hgx_aload_n_0, hgx_aload_n_1, hgx_get3, hgx_put3, hgx_get0, hgx_put0, hgx_iconst_0, hgx_istore_n_2i, hgx_istore_n_2r, hgx_istore_n_2f, hgx_istore_n_2n, hgx_istore_n_2l, hgx_iload_n_2, hgx_ic_ge, hgs_get_1_5, hgx_invvirtual_2, hgx_aft_e, hgx_aft_i, hgx_aft_l, hgx_aft_v, hgx_iinc_2_1, hgx_goto, hgs_get_1_7, hgs_get_1_8, hgx_iconst_3, hgs_get_1_10, hgs_get_1_11, hgx_vret, hgv9_0, hgr9_0, hgu9_0, hgv9_42, ← hgu9_42, hgv9_71, hgr9_71, hgu9_71, hgv9_92, ← hgu9_92, hgv9_118, hgr9_118, hgu9_118, hgv9_120, ← hgu9_120, hgv9_155, hgr9_155, hgu9_155, hgI_SI, hgI_SJ, hgJ_SI, hgJ_SJ, if_true, if_false, reduceIte, Nat.reduceEqDiff, hgWf_SI, hgWf_SJ, hgO_SI, hgO_SJ, hgAr_SI, hgAr_SJ, hgRp_SI, hgRp_SJ, hgN_SI, hgN_SJ, hgO_g, hgO_d, hgO_rl, hgO_r, hgO_0, hgO_1, hgO_64, hgO_298, hgO_300, hgCd_0, hgCd_1, hgCd_2, hgCd_3, hgCd_4, hgCd_5, hgRecv_O, hgRecv_99, List.length_cons, List.length_nil, Nat.zero_add, Nat.add_zero, Nat.le_refl, Nat.zero_le, and_self, or_true, true_or, true_and, and_true, ne_eq, not_false_eq_true, Nat.reduceLT, Nat.reduceLeDiff, Nat.reduceAdd, Nat.reduceEqDiff, hgn_eq, hgn_lt, hgn_le, if_true, if_false, reduceIte, Nat.not_lt_zero, hw, hg, a1, ehg, a2, a6, a7, a8, a16]
    rw [← hM0, e1, hgu9_71]
    simp (maxDischargeDepth := 7) only [hgM_t, hgM_f, hgM_n, hgx_aload_n_0, hgx_aload_n_1, hgx_get3, hgx_put3, hgx_get0, hgx_put0, hgx_iconst_0, hgx_istore_n_2i, hgx_istore_n_2r, hgx_istore_n_2f, hgx_istore_n_2n, hgx_istore_n_2l, hgx_iload_n_2, hgx_ic_ge, hgs_get_1_5, hgx_invvirtual_2, hgx_aft_e, hgx_aft_i, hgx_aft_l, hgx_aft_v, hgx_iinc_2_1, hgx_goto, hgs_get_1_7, hgs_get_1_8, hgx_iconst_3, hgs_get_1_10, hgs_get_1_11, hgx_vret, hgv9_0, hgr9_0, hgu9_0, hgv9_42, ← hgu9_42, hgv9_71, hgr9_71, hgu9_71, hgv9_92, ← hgu9_92, hgv9_118, hgr9_118, hgu9_118, hgv9_120, ← hgu9_120, hgv9_155, hgr9_155, hgu9_155, hgI_SI, hgI_SJ, hgJ_SI, hgJ_SJ, if_true, if_false, reduceIte, Nat.reduceEqDiff, hgWf_SI, hgWf_SJ, hgO_SI, hgO_SJ, hgAr_SI, hgAr_SJ, hgRp_SI, hgRp_SJ, hgN_SI, hgN_SJ, hgO_g, hgO_d, hgO_rl, hgO_r, hgO_0, hgO_1, hgO_64, hgO_298, hgO_300, hgCd_0, hgCd_1, hgCd_2, hgCd_3, hgCd_4, hgCd_5, hgRecv_O, hgRecv_99, List.length_cons, List.length_nil, Nat.zero_add, Nat.add_zero, Nat.le_refl, Nat.zero_le, and_self, or_true, true_or, true_and, and_true, ne_eq, not_false_eq_true, Nat.reduceLT, Nat.reduceLeDiff, Nat.reduceAdd, Nat.reduceEqDiff, hgn_eq, hgn_lt, hgn_le, if_true, if_false, reduceIte, Nat.not_lt_zero, w1, hg, a1, e2, w2, s9]
    rw [e4, e5, hgu9_155]
    simp (maxDischargeDepth := 7) only [hgM_t, hgM_f, hgM_n, hgx_aload_n_0, hgx_aload_n_1, hgx_get3, hgx_put3, hgx_get0, hgx_put0, hgx_iconst_0, hgx_istore_n_2i, hgx_istore_n_2r, hgx_istore_n_2f, hgx_istore_n_2n, hgx_istore_n_2l, hgx_iload_n_2, hgx_ic_ge, hgs_get_1_5, hgx_invvirtual_2, hgx_aft_e, hgx_aft_i, hgx_aft_l, hgx_aft_v, hgx_iinc_2_1, hgx_goto, hgs_get_1_7, hgs_get_1_8, hgx_iconst_3, hgs_get_1_10, hgs_get_1_11, hgx_vret, hgv9_0, hgr9_0, hgu9_0, hgv9_42, ← hgu9_42, hgv9_71, hgr9_71, hgu9_71, hgv9_92, ← hgu9_92, hgv9_118, hgr9_118, hgu9_118, hgv9_120, ← hgu9_120, hgv9_155, hgr9_155, hgu9_155, hgI_SI, hgI_SJ, hgJ_SI, hgJ_SJ, if_true, if_false, reduceIte, Nat.reduceEqDiff, hgWf_SI, hgWf_SJ, hgO_SI, hgO_SJ, hgAr_SI, hgAr_SJ, hgRp_SI, hgRp_SJ, hgN_SI, hgN_SJ, hgO_g, hgO_d, hgO_rl, hgO_r, hgO_0, hgO_1, hgO_64, hgO_298, hgO_300, hgCd_0, hgCd_1, hgCd_2, hgCd_3, hgCd_4, hgCd_5, hgRecv_O, hgRecv_99, List.length_cons, List.length_nil, Nat.zero_add, Nat.add_zero, Nat.le_refl, Nat.zero_le, and_self, or_true, true_or, true_and, and_true, ne_eq, not_false_eq_true, Nat.reduceLT, Nat.reduceLeDiff, Nat.reduceAdd, Nat.reduceEqDiff, hgn_eq, hgn_lt, hgn_le, if_true, if_false, reduceIte, Nat.not_lt_zero, w5, hg, a1, ehg, h12, h13, h14, h15]
  · have o6 : ∀ b, b ≠ g → ∀ q, hgI (hgSI (hgSI (hgSI (hgSI M5 g 12 (vS V 3)) g 13 (vS V 7)) g 14 (vS V 8)) g 15 (vS V 9)) b q = hgI M5 b q := fun b hb q => (F6.2.2 b hb q).1
    refine ⟨hg, ?_, ?_, ?_, ?_, ?_, ?_, ?_, ?_, ?_, ?_, fun j hj => ?_, fun j hj q hq => ?_, fun j hj => ?_, fun q hq => ?_, ?_, ?_⟩
    · simp (maxDischargeDepth := 7) only [hgI_SI, hgI_SJ, hgJ_SI, hgJ_SJ, if_true, if_false, reduceIte, Nat.reduceEqDiff, gg 6 (by omega), s6]
    · rw [o6 _ (by omega), (f5.2.2 _ (by omega) 1).1, (f4.2.2 _ (by omega) 1).1, hgI_na (by omega)]
      exact n2
    · simp (maxDischargeDepth := 7) only [hgI_SI, hgI_SJ, hgJ_SI, hgJ_SJ, if_true, if_false, reduceIte, Nat.reduceEqDiff, g9]
    · simp (maxDischargeDepth := 7) only [hgI_SI, hgI_SJ, hgJ_SI, hgJ_SJ, if_true, if_false, reduceIte, Nat.reduceEqDiff]
    · simp (maxDischargeDepth := 7) only [hgI_SI, hgI_SJ, hgJ_SI, hgJ_SJ, if_true, if_false, reduceIte, Nat.reduceEqDiff, gg 2 (by omega), s2]
    · simp (maxDischargeDepth := 7) only [hgI_SI, hgI_SJ, hgJ_SI, hgJ_SJ, if_true, if_false, reduceIte, Nat.reduceEqDiff, gg 3 (by omega), s3]
    · simp (maxDischargeDepth := 7) only [hgI_SI, hgI_SJ, hgJ_SI, hgJ_SJ, if_true, if_false, reduceIte, Nat.reduceEqDiff, gg 4 (by omega), s4]
    · simp (maxDischargeDepth := 7) only [hgI_SI, hgI_SJ, hgJ_SI, hgJ_SJ, if_true, if_false, reduceIte, Nat.reduceEqDiff]
    · simp (maxDischargeDepth := 7) only [hgI_SI, hgI_SJ, hgJ_SI, hgJ_SJ, if_true, if_false, reduceIte, Nat.reduceEqDiff]
    · simp (maxDischargeDepth := 7) only [hgI_SI, hgI_SJ, hgJ_SI, hgJ_SJ, if_true, if_false, reduceIte, Nat.reduceEqDiff]
    · have e : ∀ q, hgI (hgSI (hgSI (hgSI (hgSI M5 g 12 (vS V 3)) g 13 (vS V 7)) g 14 (vS V 8)) g 15 (vS V 9)) (g + 2 + j) q = hgI M1 (g + 2 + j) q := fun q => by
        rw [o6 _ (by omega), (f5.2.2 _ (by omega) q).1, (f4.2.2 _ (by omega) q).1, hgI_na (by omega), (f2.2.2 _ (by omega) q).1]
      have ej : hgJ (hgSI (hgSI (hgSI (hgSI M5 g 12 (vS V 3)) g 13 (vS V 7)) g 14 (vS V 8)) g 15 (vS V 9)) (g + 2 + j) 7 = hgJ M1 (g + 2 + j) 7 := by
        rw [(F6.2.2 _ (by omega) 7).2, (f5.2.2 _ (by omega) 7).2, (f4.2.2 _ (by omega) 7).2, hgJ_SI, (f2.2.2 _ (by omega) 7).2]
      have st : ∀ b, b < 6 → ∀ q, hgI (hgSI (hgSI (hgSI (hgSI M5 g 12 (vS V 3)) g 13 (vS V 7)) g 14 (vS V 8)) g 15 (vS V 9)) b q = hgI M b q := fun b hb q => by
        rw [o6 _ (by omega), (F5.2.2 b (by omega) q).1]
      refine hgDv_cp (M := M) (b := h + 2 + j) (fun q q1 q2 => ?_) ?_ (st 2 (by omega)) (st 3 (by omega)) (st 4 (by omega)) (a12 j hj)
      · rw [e, (d1 j (by omega) hj).1 q q1 q2, (f0.2.2 _ (by omega) q).1]
      · rw [ej, (d1 j (by omega) hj).2, (f0.2.2 _ (by omega) 7).2]
    · have e : hgRf (hgSI (hgSI (hgSI (hgSI M5 g 12 (vS V 3)) g 13 (vS V 7)) g 14 (vS V 8)) g 15 (vS V 9)) g j q = hgRf M2 g j q := hgRf_to (M := M2) (fun a k z1 z2 => by
        rw [o6 _ (by omega), (f5.2.2 _ (by omega) k).1, (f4.2.2 _ (by omega) k).1, hgI_na (by omega)]) (fun k => ((f5.2.1 _ k).trans (f4.2.1 _ k))) w2 hg (by omega)
      rw [e, r2 j hj q hq, rf1 j (by omega)]
      exact a13 j hj q hq
    · rw [o6 _ (by omega), (f5.2.2 _ (by omega) j).1, p4 j (by omega) hj, hgI_na (by omega), (F2.2.2 _ (by omega) j).1]
      exact a14 j hj
    · rw [o6 _ (by omega), o6 _ (by omega), (q5 q (by omega) hq).1, (q5 q (by omega) hq).2, (F4.2.2 _ (by omega) q).1, (F4.2.2 _ (by omega) q).1]
      exact a15 q hq
    · simp (maxDischargeDepth := 7) only [hgI_SI, hgI_SJ, hgJ_SI, hgJ_SJ, if_true, if_false, reduceIte, Nat.reduceEqDiff, gg 1 (by omega), s1]
      exact a16
    · simp (maxDischargeDepth := 7) only [hgI_SI, hgI_SJ, hgJ_SI, hgJ_SJ, if_true, if_false, reduceIte, Nat.reduceEqDiff, gg 1 (by omega), s1]
      exact a17
/-- the reference copies times -/
theorem hgCpJ_J {d e : Nat} (h : d ≠ e) : ∀ (k i : Nat) (M : hgMem) (b j : Nat), hgJ (hgCpJ d e i k M) b j = if b = e ∧ i ≤ j ∧ j < i + k then hgJ M d j else hgJ M b j
  | 0, i, M, b, j => by rw [if_neg (by omega)]; rfl
  | k + 1, i, M, b, j => by
    show hgJ (hgCpJ d e (i + 1) k (hgSJ M e i (hgJ M d i))) b j = _
    rw [hgCpJ_J h k (i + 1)]
    by_cases h1 : b = e ∧ i + 1 ≤ j ∧ j < i + 1 + k
    · rw [if_pos h1, if_pos (by omega), hgJ_na h]
    · rw [if_neg h1]
      by_cases h2 : b = e ∧ i ≤ j ∧ j < i + (k + 1)
      · have : j = i := by omega
        rw [if_pos h2, h2.1, this, hgJ_at]
      · rw [if_neg h2]
        by_cases h3 : b = e
        · exact hgJ_nk (by omega)
        · exact hgJ_na h3
theorem hgCpJ_N {d e : Nat} : ∀ (k i : Nat) (M : hgMem), (hgCpJ d e i k M).1 = M.1 ∧ (∀ b j, hgR (hgCpJ d e i k M) b j = hgR M b j) ∧ (∀ b j, hgI (hgCpJ d e i k M) b j = hgI M b j)
  | 0, i, M => ⟨rfl, fun _ _ => rfl, fun _ _ => rfl⟩
  | k + 1, i, M => hgCpJ_N k (i + 1) (hgSJ M e i (hgJ M d i))
theorem hgRV_cp {e u : Nat} (hm : hgSm V) (hE : hgAr M e 20 20187) (he : e ≠ 2000) (hU : hgAr M u 21 10) (hde : d ≠ e) (htu : t ≠ u) (h : hgRV M d t V) : ∃ M1 M2, hgWC X 132 [.ref d, .ref e] M = some (.inl .null, M1) ∧ hgWC X 133 [.ref t, .ref u] M1 = some (.inl .null, M2) ∧ hgFn (fun b => b = e ∨ b = u) M M1 ∧ hgFn (fun b => b = e ∨ b = u) M M2 ∧ hgRV M2 e u V := by
  obtain ⟨a1, a2, a3, a4, a5, a6, a7, a8, a9, a10, a11⟩ := h
  obtain ⟨m1, m2, m3, m4⟩ := hm
  have k1 := hgk_132 (X := X) (len := fun q => (vQ V q).length) a1 hE a2 he hde a4 m1 (fun q hq => ⟨(a8 q hq).2.1, by have := m4 q hq; omega⟩)
  obtain ⟨M1, hM1⟩ : ∃ M1, M1 = hgCpQ d e (fun q => (vQ V q).length) 0 (vN V) (hgCpA d e 0 187 M) := ⟨_, rfl⟩
  have cN := hgCpQ_N (d := d) (e := e) (len := fun q => (vQ V q).length) (vN V) 0 (hgCpA d e 0 187 M)
  have lenb : ∀ q, q < 0 + vN V → (vQ V q).length ≤ 1000 := fun q hq => by have := m4 q (by omega); omega
  have rd : ∀ b j, _ := fun b j => hgCpQ_I hde (len := fun q => (vQ V q).length) (vN V) 0 (hgCpA d e 0 187 M) b j lenb
  have rA : ∀ b j, hgI (hgCpA d e 0 187 M) b j = if b = e ∧ 0 ≤ j ∧ j < 0 + 187 then hgI M d j else hgI M b j := fun b j => hgCpA_I hde 187 0 M b j
  rw [← hM1] at k1 cN
  rw [← hM1] at rd
  have f1 : hgFn (fun b => b = e) M M1 := ⟨cN.1.trans (hgCpA_N _ _ _), fun b k => (cN.2.1 b k).trans (hgCpA_R _ _ _ _ _), fun b hb k => ⟨by
    rw [(rd b k).2 (Or.inl hb), rA, if_neg (fun z => hb z.1)], (cN.2.2 b k).trans (hgCpA_J _ _ _ _ _)⟩⟩
  have lo : ∀ k, k < 187 → hgI M1 e k = hgI M d k := fun k hk => by
    rw [(rd e k).2 (Or.inr (fun z => by obtain ⟨q, z1, z2, z3, z4⟩ := z; omega)), rA, if_pos ⟨rfl, by omega, by omega⟩]
  have hi : ∀ i k, i < vN V → k < (vQ V i).length → hgI M1 e (187 + 2 * (1000 * i + k)) = hgI M d (187 + 2 * (1000 * i + k)) ∧ hgI M1 e (187 + 2 * (1000 * i + k) + 1) = hgI M d (187 + 2 * (1000 * i + k) + 1) := fun i k hi hk => by
    have := m4 i hi
    refine ⟨?_, ?_⟩
    · rw [(rd e _).1 rfl ⟨i, by omega, by omega, by omega, by show 187 + 2 * (1000 * i + k) < 187 + 2000 * i + 2 * (vQ V i).length; omega⟩, rA, if_neg (fun z => hde z.1)]
    · rw [(rd e _).1 rfl ⟨i, by omega, by omega, by omega, by show 187 + 2 * (1000 * i + k) + 1 < 187 + 2000 * i + 2 * (vQ V i).length; omega⟩, rA, if_neg (fun z => hde z.1)]
  have k2 := hgk_133 (X := X) (M := M1) (hgAr_to a3 f1.1) (hgAr_to hU f1.1)
  have jN := hgCpJ_N (d := t) (e := u) 10 0 M1
  have jr := fun b j => hgCpJ_J htu 10 0 M1 b j
  refine ⟨M1, hgCpJ t u 0 10 M1, k1, k2, hgFn_m f1 (fun b hb => Or.inl hb), ?_, ?_⟩
  · refine hgFn_t (hgFn_m f1 (fun b hb => Or.inl hb)) ⟨jN.1, jN.2.1, fun b hb k => ⟨jN.2.2 b k, ?_⟩⟩
    rw [jr, if_neg (fun z => hb (Or.inr z.1))]
  · refine ⟨hgAr_to hE (jN.1.trans f1.1), he, hgAr_to hU (jN.1.trans f1.1), ?_, ?_, ?_, fun k k1 k2 => ?_, fun i hi2 => ⟨fun k hk => ?_, ?_, ?_, fun k z hz => ?_⟩, fun j hj k hk => ?_, fun k hk => ?_, fun q hq => ?_⟩
    · rw [jN.2.2, lo 0 (by omega)]; exact a4
    · rw [jN.2.2, lo 1 (by omega)]; exact a5
    · rw [jN.2.2, lo 2 (by omega)]; exact a6
    · rw [jN.2.2, lo k (by omega)]; exact a7 k k1 k2
    · rw [jN.2.2, lo _ (by omega)]; exact (a8 i hi2).1 k hk
    · rw [jN.2.2, lo _ (by omega)]; exact (a8 i hi2).2.1
    · rw [jr, if_pos ⟨rfl, by omega, by omega⟩, (f1.2.2 t (fun z => ?_) i).2]
      · exact (a8 i hi2).2.2.1
      · have q1 := a3.2
        have q2 := hE.2
        rw [z, q2] at q1
        exact absurd (congrArg (fun w => w.1) q1) (by decide)
    · have lt : k < (vQ V i).length := by
        rw [List.getElem?_eq_some_iff] at hz
        exact hz.1
      rw [jN.2.2, jN.2.2, (hi i k hi2 lt).1, (hi i k hi2 lt).2]
      exact (a8 i hi2).2.2.2 k z hz
    · rw [jN.2.2, lo _ (by omega)]; exact a9 j hj k hk
    · rw [jN.2.2, lo _ (by omega)]; exact a10 k hk
    · rw [jN.2.2, jN.2.2, jN.2.2, lo _ (by omega), lo _ (by omega), lo _ (by omega)]; exact a11 q hq
end HGCP2

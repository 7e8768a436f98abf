/-! LOAD, the reference's; and the call of load on both sides. -/
/-- what is left when the text is read -/
def hgOw (M : hgMem) : hgQt → Prop
  | .inl z => hgWf M ∧ hgRD M z.2.1 ∧ hgI M 300 5 = nI 0 ∧ hgI M 300 6 = -1
  | .inr e => hgEm M e
section HGRLD
variable {X : hgX} {M M' M1 M2 M3 : hgMem} {t : hgTxt} {i j k a b n p q N c d : Nat} {x y : Int32} {D V : hgV} {f : Nat → Bool} {z : hgPt} {e : Int32 × Nat} {r : hgQt} {Hs : List hgV}
theorem hgSM_fh (h : hgSM M V Hs c) (f : hgFh M M1) : hgSM M1 V Hs c := by
  obtain ⟨a1, a2, a3, a4, a5, a6, a7⟩ := h
  exact ⟨hgFn_w f.1 a1, hgRV_fn f.1 (by omega) (by omega) a2, a3, a4, a5, by rw [f.2 15 (by omega) (by omega) (by omega) (by omega) (by omega)]; exact a6, fun j hj => hgRV_fn f.1 (by omega) (by omega) (a7 j hj)⟩
theorem hgan_255 (y : Int32) : ∃ m, m ≤ 255 ∧ y &&& nI 255 = nI m := by
  refine ⟨(y &&& nI 255).toBitVec.toNat, ?_, ?_⟩
  · have h : (nI 255).toBitVec.toNat = 255 := by decide
    rw [Int32.toBitVec_and, BitVec.toNat_and, h]
    exact Nat.and_le_right
  · apply Int32.toBitVec_inj.mp
    show (y &&& nI 255).toBitVec = BitVec.ofNat 32 ((y &&& nI 255).toBitVec.toNat)
    first
      | (rw [BitVec.ofNat_toNat, BitVec.setWidth_eq]; done)
      | simp
/-- the draft is cleared -/
theorem hgk_154l : ∀ (k i : Nat) (M : hgMem) (u : Option Value), i + k = 187 → hgWf M → ∃ M', hgW X 154 64 [some (.ref 300), u, some (.int (nI i))] [] (0, 0) M = hgW X 154 84 [some (.ref 300), none, none] [] (0, 0) M' ∧ hgFn (fun b => b = 303) M M' ∧ (∀ j, i ≤ j → j < 187 → hgI M' 303 j = nI 0) ∧ ∀ j, j < i → hgI M' 303 j = hgI M 303 j := by
  intro k
  induction k with
  | zero =>
    intro i M u hi hw
    have h1 : i < 2147483648 := by omega
    have h3 : 187 ≤ i := by omega
    refine ⟨M, ?_, hgFn_r, fun j j1 j2 => by omega, fun j _ => rfl⟩
    rw [hgu154_64]
    simp (maxDischargeDepth := 7) only [hgM_t, hgM_f, hgM_n, hgx_iload_n_2, hgx_sipush_187, hgx_ic_ge, hgx_aload_n_0, hgs_get_8_9, hgx_iconst_0, hgx_iinc_2_1, hgx_goto, hgv154_64, hgr154_64, hgu154_64, hgv154_146, hgv154_205, hgv154_84, hgI_SI, hgI_SJ, hgJ_SI, hgJ_SJ, if_true, if_false, reduceIte, Nat.reduceEqDiff, hgWf_SI, hgWf_SJ, hgO_SI, hgO_SJ, hgAr_SI, hgAr_SJ, hgRp_SI, hgRp_SJ, hgN_SI, hgN_SJ, hgO_g, hgO_d, hgO_rl, hgO_r, hgO_0, hgO_1, hgO_64, hgO_298, hgO_300, hgCd_0, hgCd_1, hgCd_2, hgCd_3, hgCd_4, hgCd_5, hgRecv_O, hgRecv_99, List.length_cons, List.length_nil, Nat.zero_add, Nat.add_zero, Nat.le_refl, Nat.zero_le, and_self, or_true, true_or, true_and, and_true, ne_eq, not_false_eq_true, Nat.reduceLT, Nat.reduceLeDiff, Nat.reduceAdd, Nat.reduceEqDiff, hgn_eq, hgn_lt, hgn_le, if_true, if_false, reduceIte, Nat.not_lt_zero, hw, h1, h3]
  | succ k ih =>
    intro i M u hi hw
    have h1 : i < 2147483648 := by omega
    have h3 : ¬ 187 ≤ i := by omega
    have h4 : i < 20187 := by omega
    have a0 := hgAr_303 hw
    obtain ⟨M', e, f, r1, r2⟩ := ih (i + 1) (hgSI M 303 i (nI 0)) none (by omega) hw
    refine ⟨M', ?_, hgFn_t (hgFn_SI hgFn_r rfl) f, fun j j1 j2 => ?_, fun j hj => ?_⟩
    · refine Eq.trans ?_ e
      rw [hgu154_64]
      simp (maxDischargeDepth := 7) only [hgM_t, hgM_f, hgM_n, hgx_aload_n_0, hgx_iconst_0, hgx_put0, hgx_iload_n_1, hgx_get0, hgx_invstatic_3, hgx_aft_e, hgx_aft_i, hgx_aft_l, hgx_aft_v, hgx_if_ne, hgx_iconst_1, hgx_goto, hgx_invvirtual_3, hgx_if_eq, hgx_ret1, hgx_iconst_m1, hgx_istore_n_2i, hgx_istore_n_2r, hgx_istore_n_2f, hgx_istore_n_2n, hgx_istore_n_2l, hgx_iload_n_2, hgx_sipush_187, hgx_ic_ge, hgs_get_8_9, hgx_iinc_2_1, hgx_bipush_6, hgx_sipush_200, hgx_ldc_s, hgx_invvirtual_2, hgx_bipush_m2, hgx_iconst_4, hgx_sipush_999, hgx_iconst_5, hgx_bipush_100, hgx_bipush_59, hgx_invvirtual_1, hgx_ic_eq, hgs_get_8_8, hgx_invstatic_2, hgx_bipush_10, hgs_get_8_12, hgx_lconst_0, hgv154_0, hgr154_0, hgu154_0, hgv154_22, hgr154_22, hgu154_22, hgv154_23, hgr154_23, hgu154_23, hgv154_32, hgr154_32, hgu154_32, hgv154_64, hgr154_64, hgv154_84, hgr154_84, hgu154_84, hgv154_113, hgr154_113, hgu154_113, hgv154_146, ← hgu154_146, hgv154_168, hgr154_168, hgu154_168, hgv154_188, hgr154_188, hgu154_188, hgv154_205, ← hgu154_205, hgv154_224, hgr154_224, hgu154_224, hgI_SI, hgI_SJ, hgJ_SI, hgJ_SJ, if_true, if_false, reduceIte, Nat.reduceEqDiff, hgWf_SI, hgWf_SJ, hgO_SI, hgO_SJ, hgAr_SI, hgAr_SJ, hgRp_SI, hgRp_SJ, hgN_SI, hgN_SJ, hgO_g, hgO_d, hgO_rl, hgO_r, hgO_0, hgO_1, hgO_64, hgO_298, hgO_300, hgCd_0, hgCd_1, hgCd_2, hgCd_3, hgCd_4, hgCd_5, hgRecv_O, hgRecv_99, List.length_cons, List.length_nil, Nat.zero_add, Nat.add_zero, Nat.le_refl, Nat.zero_le, and_self, or_true, true_or, true_and, and_true, ne_eq, not_false_eq_true, Nat.reduceLT, Nat.reduceLeDiff, Nat.reduceAdd, Nat.reduceEqDiff, hgn_eq, hgn_lt, hgn_le, if_true, if_false, reduceIte, Nat.not_lt_zero, hgs_aa_d, hgs_aa_r, hgs_aa_h, hgs_aa_m, hgs_aa_t, hgs_ld_wp, hgs_st_wp, hgs_ld_qf, hgs_st_qf, hgs_ld_qt, hgs_st_qt, hgs_ld_2, hgs_st_2, hgs_ld_3, hgs_st_3, hgs_ld_4, hgs_st_4, hgs_ld_301, hgs_st_301, hgs_ld_D, hgs_st_D, hgs_ld_s, hgs_ld_T, hgs_st_T, hgs_ld_o, hgs_st_o, hgs_ld_b, hgs_st_b, hgs_ld_z, hgs_st_z, hgs_al_b, hgx_alen_s, hgn_add, hgn_mul, hw, a0, h1, h3, h4]
    · by_cases ej : j = i
      · rw [ej, r2 i (by omega), hgI_at]
      · exact r1 j (by omega) j2
    · rw [r2 j (by omega), hgI_nk (by omega)]
/-- the head of the text -/
theorem hgk_154h (h : hgRr M t 0) (h3 : ∀ k, k < 187 → hgI M 303 k = nI 0) (h17 : hgI M 300 17 = nI 0) (h6 : hgI M 300 6 = -1) : ∃ M', hgW X 154 84 [some (.ref 300), none, none] [] (0, 0) M = hgW X 154 146 [some (.ref 300), none, none] [] (0, 0) M' ∧ hgOur M' t (sB (sHed t) (sSem t)) ∧ hgFh M M' := by
  have hw := h.1
  have a0 := hgAr_303 hw
  have f0 : hgFh M (hgSI M 303 6 (nI 200)) := hgFh_d hgFh_r
  have r0 : hgRr (hgSI M 303 6 (nI 200)) t 0 := hgRr_d h
  have z0 : ∀ k, k < 187 → hgI (hgSI M 303 6 (nI 200)) 303 k = if k = 6 then nI 200 else nI 0 := fun k hk => by
    by_cases e : k = 6
    · rw [e, hgI_at, if_pos rfl]
    · rw [hgI_nk e, if_neg e]
      exact h3 k hk
  have s17 : hgI (hgSI M 303 6 (nI 200)) 300 17 = nI 0 := by rw [hgI_na (by omega)]; exact h17
  have s6 : hgI (hgSI M 303 6 (nI 200)) 300 6 = -1 := by rw [hgI_na (by omega)]; exact h6
  obtain ⟨M1, eM⟩ : ∃ M1, hgSI M 303 6 (nI 200) = M1 := ⟨_, rfl⟩
  rw [eM] at f0 r0 z0 s17 s6
  have w1 := r0.1
  unfold sHed
  cases c1 : tWd t 0 [103, 97, 116, 101, 119, 97, 121] with
  | false =>
    rw [if_neg (by decide)]
    obtain ⟨M2, e2, r2, f2⟩ := hgk_141b (X := X) (s := 5) r0 rfl (by omega) c1
    have e2' : hgWC X 141 [.ref 300, .ref 1005] M1 = some (.inl (.int (nI 0)), M2) := e2
    have w2 := r2.1
    have p2 := r2.2.2.1
    have k137 := hgk_137 (X := X) (x := -2) (y := nI (tSk t 0)) r2
    have em : hgEm (hgSI (hgSI M2 300 5 (-2)) 300 6 (nI (tSk t 0))) (-2, tSk t 0) := hgEm_i r2 (Or.inl rfl)
    have fm : hgFh M (hgSI (hgSI M2 300 5 (-2)) 300 6 (nI (tSk t 0))) := hgFh_s (hgFh_s (hgFh_t f0 (hgFh_g f2)) (by omega)) (by omega)
    generalize hgSI (hgSI M2 300 5 (-2)) 300 6 (nI (tSk t 0)) = M3 at *
    have w3 := em.1
    have a3 := hgAr_303 w3
    have kk1 := hgk_143e (X := X) (x := nI 1) (y := nI 999) em
    have em4 := hgEm_d (k := 4) (x := nI 0) em
    have kk2 := hgk_143e (X := X) (x := nI 1) (y := nI 100) em4
    have em5 := hgEm_d (k := 5) (x := nI 0) em4
    have k142 := hgk_142e (X := X) (x := nI 59) em5
    refine ⟨hgSI (hgSI M3 303 4 (nI 0)) 303 5 (nI 0), ?_, em5, hgFh_d (hgFh_d fm)⟩
    rw [hgu154_84]
    simp (maxDischargeDepth := 7) only [hgM_t, hgM_f, hgM_n, hgx_aload_n_0, hgx_iconst_0, hgx_put0, hgx_iload_n_1, hgx_get0, hgx_invstatic_3, hgx_aft_e, hgx_aft_i, hgx_aft_l, hgx_aft_v, hgx_if_ne, hgx_iconst_1, hgx_goto, hgx_invvirtual_3, hgx_if_eq, hgx_ret1, hgx_iconst_m1, hgx_istore_n_2i, hgx_istore_n_2r, hgx_istore_n_2f, hgx_istore_n_2n, hgx_istore_n_2l, hgx_iload_n_2, hgx_sipush_187, hgx_ic_ge, hgs_get_8_9, hgx_iinc_2_1, hgx_bipush_6, hgx_sipush_200, hgx_ldc_s, hgx_invvirtual_2, hgx_bipush_m2, hgx_iconst_4, hgx_sipush_999, hgx_iconst_5, hgx_bipush_100, hgx_bipush_59, hgx_invvirtual_1, hgx_ic_eq, hgs_get_8_8, hgx_invstatic_2, hgx_bipush_10, hgs_get_8_12, hgx_lconst_0, hgv154_0, hgr154_0, hgu154_0, hgv154_22, hgr154_22, hgu154_22, hgv154_23, hgr154_23, hgu154_23, hgv154_32, hgr154_32, hgu154_32, hgv154_64, ← hgu154_64, hgv154_84, hgr154_84, hgu154_84, hgv154_113, hgr154_113, hgu154_113, hgv154_146, ← hgu154_146, hgv154_168, hgr154_168, hgu154_168, hgv154_188, hgr154_188, hgu154_188, hgv154_205, ← hgu154_205, hgv154_224, hgr154_224, hgu154_224, hgI_SI, hgI_SJ, hgJ_SI, hgJ_SJ, if_true, if_false, reduceIte, Nat.reduceEqDiff, hgWf_SI, hgWf_SJ, hgO_SI, hgO_SJ, hgAr_SI, hgAr_SJ, hgRp_SI, hgRp_SJ, hgN_SI, hgN_SJ, hgO_g, hgO_d, hgO_rl, hgO_r, hgO_0, hgO_1, hgO_64, hgO_298, hgO_300, hgCd_0, hgCd_1, hgCd_2, hgCd_3, hgCd_4, hgCd_5, hgRecv_O, hgRecv_99, List.length_cons, List.length_nil, Nat.zero_add, Nat.add_zero, Nat.le_refl, Nat.zero_le, and_self, or_true, true_or, true_and, and_true, ne_eq, not_false_eq_true, Nat.reduceLT, Nat.reduceLeDiff, Nat.reduceAdd, Nat.reduceEqDiff, hgn_eq, hgn_lt, hgn_le, if_true, if_false, reduceIte, Nat.not_lt_zero, hgs_aa_d, hgs_aa_r, hgs_aa_h, hgs_aa_m, hgs_aa_t, hgs_ld_wp, hgs_st_wp, hgs_ld_qf, hgs_st_qf, hgs_ld_qt, hgs_st_qt, hgs_ld_2, hgs_st_2, hgs_ld_3, hgs_st_3, hgs_ld_4, hgs_st_4, hgs_ld_301, hgs_st_301, hgs_ld_D, hgs_st_D, hgs_ld_s, hgs_ld_T, hgs_st_T, hgs_ld_o, hgs_st_o, hgs_ld_b, hgs_st_b, hgs_ld_z, hgs_st_z, hgs_al_b, hgx_alen_s, hw, a0, eM, w1, e2', w2, p2, k137, w3, a3, kk1, kk2, k142]
  | true =>
    rw [if_pos rfl]
    obtain ⟨M2, e2, r2, f2⟩ := hgk_141a (X := X) (s := 5) r0 rfl (by omega) c1
    have e2' : hgWC X 141 [.ref 300, .ref 1005] M1 = some (.inl (.int (nI 1)), M2) := e2
    have w2 := r2.1
    have F2 := hgFh_t f0 (hgFh_g f2)
    cases hn1 : sNum t (tWe t (tSk t 0)) 1 999 with
    | inr e =>
      obtain ⟨y1, M3, e3, em, f3⟩ := hgk_143b (X := X) r2 (by omega) (by omega) hn1
      have w3 := em.1
      have a3 := hgAr_303 w3
      have em4 := hgEm_d (k := 4) (x := y1) em
      have kk2 := hgk_143e (X := X) (x := nI 1) (y := nI 100) em4
      have em5 := hgEm_d (k := 5) (x := nI 0) em4
      have k142 := hgk_142e (X := X) (x := nI 59) em5
      refine ⟨hgSI (hgSI M3 303 4 y1) 303 5 (nI 0), ?_, em5, hgFh_d (hgFh_d (hgFh_t F2 f3))⟩
      rw [hgu154_84]
      simp (maxDischargeDepth := 7) only [hgM_t, hgM_f, hgM_n, hgx_aload_n_0, hgx_iconst_0, hgx_put0, hgx_iload_n_1, hgx_get0, hgx_invstatic_3, hgx_aft_e, hgx_aft_i, hgx_aft_l, hgx_aft_v, hgx_if_ne, hgx_iconst_1, hgx_goto, hgx_invvirtual_3, hgx_if_eq, hgx_ret1, hgx_iconst_m1, hgx_istore_n_2i, hgx_istore_n_2r, hgx_istore_n_2f, hgx_istore_n_2n, hgx_istore_n_2l, hgx_iload_n_2, hgx_sipush_187, hgx_ic_ge, hgs_get_8_9, hgx_iinc_2_1, hgx_bipush_6, hgx_sipush_200, hgx_ldc_s, hgx_invvirtual_2, hgx_bipush_m2, hgx_iconst_4, hgx_sipush_999, hgx_iconst_5, hgx_bipush_100, hgx_bipush_59, hgx_invvirtual_1, hgx_ic_eq, hgs_get_8_8, hgx_invstatic_2, hgx_bipush_10, hgs_get_8_12, hgx_lconst_0, hgv154_0, hgr154_0, hgu154_0, hgv154_22, hgr154_22, hgu154_22, hgv154_23, hgr154_23, hgu154_23, hgv154_32, hgr154_32, hgu154_32, hgv154_64, ← hgu154_64, hgv154_84, hgr154_84, hgu154_84, hgv154_113, hgr154_113, hgu154_113, hgv154_146, ← hgu154_146, hgv154_168, hgr154_168, hgu154_168, hgv154_188, hgr154_188, hgu154_188, hgv154_205, ← hgu154_205, hgv154_224, hgr154_224, hgu154_224, hgI_SI, hgI_SJ, hgJ_SI, hgJ_SJ, if_true, if_false, reduceIte, Nat.reduceEqDiff, hgWf_SI, hgWf_SJ, hgO_SI, hgO_SJ, hgAr_SI, hgAr_SJ, hgRp_SI, hgRp_SJ, hgN_SI, hgN_SJ, hgO_g, hgO_d, hgO_rl, hgO_r, hgO_0, hgO_1, hgO_64, hgO_298, hgO_300, hgCd_0, hgCd_1, hgCd_2, hgCd_3, hgCd_4, hgCd_5, hgRecv_O, hgRecv_99, List.length_cons, List.length_nil, Nat.zero_add, Nat.add_zero, Nat.le_refl, Nat.zero_le, and_self, or_true, true_or, true_and, and_true, ne_eq, not_false_eq_true, Nat.reduceLT, Nat.reduceLeDiff, Nat.reduceAdd, Nat.reduceEqDiff, hgn_eq, hgn_lt, hgn_le, if_true, if_false, reduceIte, Nat.not_lt_zero, hgs_aa_d, hgs_aa_r, hgs_aa_h, hgs_aa_m, hgs_aa_t, hgs_ld_wp, hgs_st_wp, hgs_ld_qf, hgs_st_qf, hgs_ld_qt, hgs_st_qt, hgs_ld_2, hgs_st_2, hgs_ld_3, hgs_st_3, hgs_ld_4, hgs_st_4, hgs_ld_301, hgs_st_301, hgs_ld_D, hgs_st_D, hgs_ld_s, hgs_ld_T, hgs_st_T, hgs_ld_o, hgs_st_o, hgs_ld_b, hgs_st_b, hgs_ld_z, hgs_st_z, hgs_al_b, hgx_alen_s, hw, a0, eM, w1, e2', w2, e3, w3, a3, kk2, k142]
    | inl v =>
      obtain ⟨M3, e3, r3, s3, l1, l2, f3⟩ := hgk_143a (X := X) r2 (by omega) (by omega) hn1
      have w3 := r3.1
      have a3 := hgAr_303 w3
      have r4 : hgRr (hgSI M3 303 4 (nI v.1)) t v.2 := hgRr_d r3
      have F4 : hgFh M (hgSI M3 303 4 (nI v.1)) := hgFh_d (hgFh_t F2 (hgFh_g f3))
      show ∃ M', _ ∧ hgOur M' t (sB (sB (sNum t v.2 1 100) (fun d => .inl (d.2, vHd v.1 d.1, fun _ => false))) (sSem t)) ∧ _
      cases hn2 : sNum t v.2 1 100 with
      | inr e =>
        obtain ⟨y1, M5, e5, em, f5⟩ := hgk_143b (X := X) r4 (by omega) (by omega) hn2
        have w5 := em.1
        have a5 := hgAr_303 w5
        have em5 := hgEm_d (k := 5) (x := y1) em
        have k142 := hgk_142e (X := X) (x := nI 59) em5
        refine ⟨hgSI M5 303 5 y1, ?_, em5, hgFh_d (hgFh_t F4 f5)⟩
        rw [hgu154_84]
        simp (maxDischargeDepth := 7) only [hgM_t, hgM_f, hgM_n, hgx_aload_n_0, hgx_iconst_0, hgx_put0, hgx_iload_n_1, hgx_get0, hgx_invstatic_3, hgx_aft_e, hgx_aft_i, hgx_aft_l, hgx_aft_v, hgx_if_ne, hgx_iconst_1, hgx_goto, hgx_invvirtual_3, hgx_if_eq, hgx_ret1, hgx_iconst_m1, hgx_istore_n_2i, hgx_istore_n_2r, hgx_istore_n_2f, hgx_istore_n_2n, hgx_istore_n_2l, hgx_iload_n_2, hgx_sipush_187, hgx_ic_ge, hgs_get_8_9, hgx_iinc_2_1, hgx_bipush_6, hgx_sipush_200, hgx_ldc_s, hgx_invvirtual_2, hgx_bipush_m2, hgx_iconst_4, hgx_sipush_999, hgx_iconst_5, hgx_bipush_100, hgx_bipush_59, hgx_invvirtual_1, hgx_ic_eq, hgs_get_8_8, hgx_invstatic_2, hgx_bipush_10, hgs_get_8_12, hgx_lconst_0, hgv154_0, hgr154_0, hgu154_0, hgv154_22, hgr154_22, hgu154_22, hgv154_23, hgr154_23, hgu154_23, hgv154_32, hgr154_32, hgu154_32, hgv154_64, ← hgu154_64, hgv154_84, hgr154_84, hgu154_84, hgv154_113, hgr154_113, hgu154_113, hgv154_146, ← hgu154_146, hgv154_168, hgr154_168, hgu154_168, hgv154_188, hgr154_188, hgu154_188, hgv154_205, ← hgu154_205, hgv154_224, hgr154_224, hgu154_224, hgI_SI, hgI_SJ, hgJ_SI, hgJ_SJ, if_true, if_false, reduceIte, Nat.reduceEqDiff, hgWf_SI, hgWf_SJ, hgO_SI, hgO_SJ, hgAr_SI, hgAr_SJ, hgRp_SI, hgRp_SJ, hgN_SI, hgN_SJ, hgO_g, hgO_d, hgO_rl, hgO_r, hgO_0, hgO_1, hgO_64, hgO_298, hgO_300, hgCd_0, hgCd_1, hgCd_2, hgCd_3, hgCd_4, hgCd_5, hgRecv_O, hgRecv_99, List.length_cons, List.length_nil, Nat.zero_add, Nat.add_zero, Nat.le_refl, Nat.zero_le, and_self, or_true, true_or, true_and, and_true, ne_eq, not_false_eq_true, Nat.reduceLT, Nat.reduceLeDiff, Nat.reduceAdd, Nat.reduceEqDiff, hgn_eq, hgn_lt, hgn_le, if_true, if_false, reduceIte, Nat.not_lt_zero, hgs_aa_d, hgs_aa_r, hgs_aa_h, hgs_aa_m, hgs_aa_t, hgs_ld_wp, hgs_st_wp, hgs_ld_qf, hgs_st_qf, hgs_ld_qt, hgs_st_qt, hgs_ld_2, hgs_st_2, hgs_ld_3, hgs_st_3, hgs_ld_4, hgs_st_4, hgs_ld_301, hgs_st_301, hgs_ld_D, hgs_st_D, hgs_ld_s, hgs_ld_T, hgs_st_T, hgs_ld_o, hgs_st_o, hgs_ld_b, hgs_st_b, hgs_ld_z, hgs_st_z, hgs_al_b, hgx_alen_s, hw, a0, eM, w1, e2', w2, e3, w3, a3, e5, w5, a5, k142]
      | inl d =>
        obtain ⟨M5, e5, r5, s5, l3, l4, f5⟩ := hgk_143a (X := X) r4 (by omega) (by omega) hn2
        have w5 := r5.1
        have a5 := hgAr_303 w5
        have rd : hgRD (hgSI M5 303 5 (nI d.1)) (vHd v.1 d.1) := by
          refine hgRD_to (hgRD_hd (M := M3) (a := v.1) (b := d.1) (fun k hk => ?_)) (fun k => ?_)
          · rw [(f3.1.2.2 303 (by omega) k).1, (f2.1.2.2 303 (by omega) k).1]
            exact z0 k hk
          · by_cases e : k = 5
            · rw [e, hgI_at, hgI_at]
            · rw [hgI_nk e, hgI_nk e, (f5.1.2.2 303 (by omega) k).1]
        have ok : hgOkr (hgSI M5 303 5 (nI d.1)) t (d.2, vHd v.1 d.1, fun _ => false) := by
          refine ⟨hgRr_d r5, rd, ?_, ?_⟩
          · have e17 : hgI (hgSI M5 303 5 (nI d.1)) 300 17 = nI 0 := by rw [hgI_na (by omega), f5.2 17 (by omega) (by omega), hgI_na (by omega), f3.2 17 (by omega) (by omega), f2.2 17 (by omega) (by omega)]; exact s17
            rw [e17]
            exact hgMk_0
          · rw [hgI_na (by omega), f5.2 6 (by omega) (by omega), hgI_na (by omega), f3.2 6 (by omega) (by omega), f2.2 6 (by omega) (by omega)]
            exact s6
        obtain ⟨M6, e6, o6, f6⟩ := hgk_142r (X := X) (r := .inl (d.2, vHd v.1 d.1, fun _ => false)) ok
        refine ⟨M6, ?_, o6, hgFh_t (hgFh_d (hgFh_t F4 (hgFh_g f5))) f6⟩
        rw [hgu154_84]
        simp (maxDischargeDepth := 7) only [hgM_t, hgM_f, hgM_n, hgx_aload_n_0, hgx_iconst_0, hgx_put0, hgx_iload_n_1, hgx_get0, hgx_invstatic_3, hgx_aft_e, hgx_aft_i, hgx_aft_l, hgx_aft_v, hgx_if_ne, hgx_iconst_1, hgx_goto, hgx_invvirtual_3, hgx_if_eq, hgx_ret1, hgx_iconst_m1, hgx_istore_n_2i, hgx_istore_n_2r, hgx_istore_n_2f, hgx_istore_n_2n, hgx_istore_n_2l, hgx_iload_n_2, hgx_sipush_187, hgx_ic_ge, hgs_get_8_9, hgx_iinc_2_1, hgx_bipush_6, hgx_sipush_200, hgx_ldc_s, hgx_invvirtual_2, hgx_bipush_m2, hgx_iconst_4, hgx_sipush_999, hgx_iconst_5, hgx_bipush_100, hgx_bipush_59, hgx_invvirtual_1, hgx_ic_eq, hgs_get_8_8, hgx_invstatic_2, hgx_bipush_10, hgs_get_8_12, hgx_lconst_0, hgv154_0, hgr154_0, hgu154_0, hgv154_22, hgr154_22, hgu154_22, hgv154_23, hgr154_23, hgu154_23, hgv154_32, hgr154_32, hgu154_32, hgv154_64, ← hgu154_64, hgv154_84, hgr154_84, hgu154_84, hgv154_113, hgr154_113, hgu154_113, hgv154_146, ← hgu154_146, hgv154_168, hgr154_168, hgu154_168, hgv154_188, hgr154_188, hgu154_188, hgv154_205, ← hgu154_205, hgv154_224, hgr154_224, hgu154_224, hgI_SI, hgI_SJ, hgJ_SI, hgJ_SJ, if_true, if_false, reduceIte, Nat.reduceEqDiff, hgWf_SI, hgWf_SJ, hgO_SI, hgO_SJ, hgAr_SI, hgAr_SJ, hgRp_SI, hgRp_SJ, hgN_SI, hgN_SJ, hgO_g, hgO_d, hgO_rl, hgO_r, hgO_0, hgO_1, hgO_64, hgO_298, hgO_300, hgCd_0, hgCd_1, hgCd_2, hgCd_3, hgCd_4, hgCd_5, hgRecv_O, hgRecv_99, List.length_cons, List.length_nil, Nat.zero_add, Nat.add_zero, Nat.le_refl, Nat.zero_le, and_self, or_true, true_or, true_and, and_true, ne_eq, not_false_eq_true, Nat.reduceLT, Nat.reduceLeDiff, Nat.reduceAdd, Nat.reduceEqDiff, hgn_eq, hgn_lt, hgn_le, if_true, if_false, reduceIte, Nat.not_lt_zero, hgs_aa_d, hgs_aa_r, hgs_aa_h, hgs_aa_m, hgs_aa_t, hgs_ld_wp, hgs_st_wp, hgs_ld_qf, hgs_st_qf, hgs_ld_qt, hgs_st_qt, hgs_ld_2, hgs_st_2, hgs_ld_3, hgs_st_3, hgs_ld_4, hgs_st_4, hgs_ld_301, hgs_st_301, hgs_ld_D, hgs_st_D, hgs_ld_s, hgs_ld_T, hgs_st_T, hgs_ld_o, hgs_st_o, hgs_ld_b, hgs_st_b, hgs_ld_z, hgs_st_z, hgs_al_b, hgx_alen_s, hw, a0, eM, w1, e2', w2, e3, w3, a3, e5, w5, a5, e6]
theorem hgk_154r (h : hgEm M e) : hgW X 154 146 [some (.ref 300), none, none] [] (0, 0) M = hgW X 154 168 [some (.ref 300), none, none] [] (0, 0) M := by
  have hw := h.1
  have k136 := hgk_136e (X := X) h
  rw [hgu154_146]
  simp (maxDischargeDepth := 7) only [hgM_t, hgM_f, hgM_n, hgx_aload_n_0, hgx_invvirtual_1, hgx_aft_e, hgx_aft_i, hgx_aft_l, hgx_aft_v, hgx_if_eq, hgx_iconst_m1, hgx_ic_eq, hgx_goto, hgv154_146, hgr154_146, hgu154_146, hgv154_64, hgv154_205, hgv154_168, hgI_SI, hgI_SJ, hgJ_SI, hgJ_SJ, if_true, if_false, reduceIte, Nat.reduceEqDiff, hgWf_SI, hgWf_SJ, hgO_SI, hgO_SJ, hgAr_SI, hgAr_SJ, hgRp_SI, hgRp_SJ, hgN_SI, hgN_SJ, hgO_g, hgO_d, hgO_rl, hgO_r, hgO_0, hgO_1, hgO_64, hgO_298, hgO_300, hgCd_0, hgCd_1, hgCd_2, hgCd_3, hgCd_4, hgCd_5, hgRecv_O, hgRecv_99, List.length_cons, List.length_nil, Nat.zero_add, Nat.add_zero, Nat.le_refl, Nat.zero_le, and_self, or_true, true_or, true_and, and_true, ne_eq, not_false_eq_true, Nat.reduceLT, Nat.reduceLeDiff, Nat.reduceAdd, Nat.reduceEqDiff, hgn_eq, hgn_lt, hgn_le, if_true, if_false, reduceIte, Nat.not_lt_zero, hw, k136]
theorem hgk_154q (h : hgOkr M t z) (q : ¬ tSk t z.1 < t.2) : ∃ M', hgW X 154 146 [some (.ref 300), none, none] [] (0, 0) M = hgW X 154 168 [some (.ref 300), none, none] [] (0, 0) M' ∧ hgOw M' (.inl z) ∧ hgFh M M' := by
  have hw := h.1.1
  have k136 := hgk_136g (X := X) h.1
  obtain ⟨M1, e1, r1, f1⟩ := hgk_138 (X := X) h.1
  rw [tBy_g q] at e1
  have w1 := r1.1
  have h0 : hgOkr M t (z.1, z.2.1, z.2.2) := h
  have ok1 := hgOkr_g h0 f1 r1
  refine ⟨M1, ?_, ⟨w1, ok1.2.1, r1.2.2.2.2.2.1, ok1.2.2.2⟩, hgFh_g f1⟩
  rw [hgu154_146]
  simp (maxDischargeDepth := 7) only [hgM_t, hgM_f, hgM_n, hgx_aload_n_0, hgx_invvirtual_1, hgx_aft_e, hgx_aft_i, hgx_aft_l, hgx_aft_v, hgx_if_eq, hgx_iconst_m1, hgx_ic_eq, hgx_goto, hgv154_146, hgr154_146, hgu154_146, hgv154_64, hgv154_205, hgv154_168, hgI_SI, hgI_SJ, hgJ_SI, hgJ_SJ, if_true, if_false, reduceIte, Nat.reduceEqDiff, hgWf_SI, hgWf_SJ, hgO_SI, hgO_SJ, hgAr_SI, hgAr_SJ, hgRp_SI, hgRp_SJ, hgN_SI, hgN_SJ, hgO_g, hgO_d, hgO_rl, hgO_r, hgO_0, hgO_1, hgO_64, hgO_298, hgO_300, hgCd_0, hgCd_1, hgCd_2, hgCd_3, hgCd_4, hgCd_5, hgRecv_O, hgRecv_99, List.length_cons, List.length_nil, Nat.zero_add, Nat.add_zero, Nat.le_refl, Nat.zero_le, and_self, or_true, true_or, true_and, and_true, ne_eq, not_false_eq_true, Nat.reduceLT, Nat.reduceLeDiff, Nat.reduceAdd, Nat.reduceEqDiff, hgn_eq, hgn_lt, hgn_le, if_true, if_false, reduceIte, Nat.not_lt_zero, hw, k136, e1, w1]
/-- the statements -/
theorem hgk_154m : ∀ (k : Nat) (z : hgPt) (M : hgMem), t.2 ≤ z.1 + k → hgOkr M t z → hgDk z.2.1 → ∃ M', hgW X 154 146 [some (.ref 300), none, none] [] (0, 0) M = hgW X 154 168 [some (.ref 300), none, none] [] (0, 0) M' ∧ hgOw M' (sLop t k z) ∧ hgFh M M' := by
  intro k
  induction k with
  | zero =>
    intro z M h1 h hk
    have sk := tSk_f h.1.2.2.2.1
    exact hgk_154q h (by omega)
  | succ k ih =>
    intro z M h1 h hk
    have hw := h.1.1
    have hp := h.1.2.2.2.1
    unfold sLop
    by_cases q : tSk t z.1 < t.2
    · rw [if_pos q]
      have k136 := hgk_136g (X := X) h.1
      obtain ⟨M1, e1, r1, f1⟩ := hgk_138 (X := X) h.1
      rw [tBy_l q] at e1
      have w1 := r1.1
      have by1 := (h.1.2.2.2.2.2.2 _ q).2
      have ne : ¬ nI (t.1 (tSk t z.1)) = -1 := by
        rw [hgm1_nI (by omega)]
        exact id
      have h0 : hgOkr M t (z.1, z.2.1, z.2.2) := h
      have ok1 := hgOkr_g h0 f1 r1
      obtain ⟨M2, e2, o2, f2⟩ := hgk_153 (X := X) ok1 hk
      have es : sSta t (tSk t z.1) z.2.1 z.2.2 = sSta t z.1 z.2.1 z.2.2 := by
        unfold sSta tWd
        rw [tSk_i hp]
      rw [es] at o2
      have nx := sStm_n (f := z.2.2) hp hk
      have w2 := hgOur_w o2
      generalize sB (sSta t z.1 z.2.1 z.2.2) (sSem t) = r at o2 nx ⊢
      cases r with
      | inr e =>
        refine ⟨M2, ?_, o2, hgFh_t (hgFh_g f1) f2⟩
        refine Eq.trans ?_ (hgk_154r (X := X) o2)
        rw [hgu154_146]
        simp (maxDischargeDepth := 7) only [hgM_t, hgM_f, hgM_n, hgx_aload_n_0, hgx_iconst_0, hgx_put0, hgx_iload_n_1, hgx_get0, hgx_invstatic_3, hgx_aft_e, hgx_aft_i, hgx_aft_l, hgx_aft_v, hgx_if_ne, hgx_iconst_1, hgx_goto, hgx_invvirtual_3, hgx_if_eq, hgx_ret1, hgx_iconst_m1, hgx_istore_n_2i, hgx_istore_n_2r, hgx_istore_n_2f, hgx_istore_n_2n, hgx_istore_n_2l, hgx_iload_n_2, hgx_sipush_187, hgx_ic_ge, hgs_get_8_9, hgx_iinc_2_1, hgx_bipush_6, hgx_sipush_200, hgx_ldc_s, hgx_invvirtual_2, hgx_bipush_m2, hgx_iconst_4, hgx_sipush_999, hgx_iconst_5, hgx_bipush_100, hgx_bipush_59, hgx_invvirtual_1, hgx_ic_eq, hgs_get_8_8, hgx_invstatic_2, hgx_bipush_10, hgs_get_8_12, hgx_lconst_0, hgv154_0, hgr154_0, hgu154_0, hgv154_22, hgr154_22, hgu154_22, hgv154_23, hgr154_23, hgu154_23, hgv154_32, hgr154_32, hgu154_32, hgv154_64, ← hgu154_64, hgv154_84, hgr154_84, hgu154_84, hgv154_113, hgr154_113, hgu154_113, hgv154_146, hgr154_146, hgv154_168, hgr154_168, hgu154_168, hgv154_188, hgr154_188, hgu154_188, hgv154_205, ← hgu154_205, hgv154_224, hgr154_224, hgu154_224, hgI_SI, hgI_SJ, hgJ_SI, hgJ_SJ, if_true, if_false, reduceIte, Nat.reduceEqDiff, hgWf_SI, hgWf_SJ, hgO_SI, hgO_SJ, hgAr_SI, hgAr_SJ, hgRp_SI, hgRp_SJ, hgN_SI, hgN_SJ, hgO_g, hgO_d, hgO_rl, hgO_r, hgO_0, hgO_1, hgO_64, hgO_298, hgO_300, hgCd_0, hgCd_1, hgCd_2, hgCd_3, hgCd_4, hgCd_5, hgRecv_O, hgRecv_99, List.length_cons, List.length_nil, Nat.zero_add, Nat.add_zero, Nat.le_refl, Nat.zero_le, and_self, or_true, true_or, true_and, and_true, ne_eq, not_false_eq_true, Nat.reduceLT, Nat.reduceLeDiff, Nat.reduceAdd, Nat.reduceEqDiff, hgn_eq, hgn_lt, hgn_le, if_true, if_false, reduceIte, Nat.not_lt_zero, hw, k136, e1, w1, ne, e2, w2]
      | inl y =>
        have n1 : z.1 + 1 ≤ y.1 := nx.1
        obtain ⟨M3, e3, o3, f3⟩ := ih y M2 (by omega) o2 nx.2.2
        refine ⟨M3, ?_, o3, hgFh_t (hgFh_t (hgFh_g f1) f2) f3⟩
        refine Eq.trans ?_ e3
        rw [hgu154_146]
        simp (maxDischargeDepth := 7) only [hgM_t, hgM_f, hgM_n, hgx_aload_n_0, hgx_iconst_0, hgx_put0, hgx_iload_n_1, hgx_get0, hgx_invstatic_3, hgx_aft_e, hgx_aft_i, hgx_aft_l, hgx_aft_v, hgx_if_ne, hgx_iconst_1, hgx_goto, hgx_invvirtual_3, hgx_if_eq, hgx_ret1, hgx_iconst_m1, hgx_istore_n_2i, hgx_istore_n_2r, hgx_istore_n_2f, hgx_istore_n_2n, hgx_istore_n_2l, hgx_iload_n_2, hgx_sipush_187, hgx_ic_ge, hgs_get_8_9, hgx_iinc_2_1, hgx_bipush_6, hgx_sipush_200, hgx_ldc_s, hgx_invvirtual_2, hgx_bipush_m2, hgx_iconst_4, hgx_sipush_999, hgx_iconst_5, hgx_bipush_100, hgx_bipush_59, hgx_invvirtual_1, hgx_ic_eq, hgs_get_8_8, hgx_invstatic_2, hgx_bipush_10, hgs_get_8_12, hgx_lconst_0, hgv154_0, hgr154_0, hgu154_0, hgv154_22, hgr154_22, hgu154_22, hgv154_23, hgr154_23, hgu154_23, hgv154_32, hgr154_32, hgu154_32, hgv154_64, ← hgu154_64, hgv154_84, hgr154_84, hgu154_84, hgv154_113, hgr154_113, hgu154_113, hgv154_146, hgr154_146, hgv154_168, hgr154_168, hgu154_168, hgv154_188, hgr154_188, hgu154_188, hgv154_205, ← hgu154_205, hgv154_224, hgr154_224, hgu154_224, hgI_SI, hgI_SJ, hgJ_SI, hgJ_SJ, if_true, if_false, reduceIte, Nat.reduceEqDiff, hgWf_SI, hgWf_SJ, hgO_SI, hgO_SJ, hgAr_SI, hgAr_SJ, hgRp_SI, hgRp_SJ, hgN_SI, hgN_SJ, hgO_g, hgO_d, hgO_rl, hgO_r, hgO_0, hgO_1, hgO_64, hgO_298, hgO_300, hgCd_0, hgCd_1, hgCd_2, hgCd_3, hgCd_4, hgCd_5, hgRecv_O, hgRecv_99, List.length_cons, List.length_nil, Nat.zero_add, Nat.add_zero, Nat.le_refl, Nat.zero_le, and_self, or_true, true_or, true_and, and_true, ne_eq, not_false_eq_true, Nat.reduceLT, Nat.reduceLeDiff, Nat.reduceAdd, Nat.reduceEqDiff, hgn_eq, hgn_lt, hgn_le, if_true, if_false, reduceIte, Nat.not_lt_zero, hw, k136, e1, w1, ne, e2, w2]
    · rw [if_neg q]
      exact hgk_154q h q
theorem hgk_154e (h : hgEm M e) : hgW X 154 168 [some (.ref 300), none, none] [] (0, 0) M = some (.inl (.int e.1), hgSI M 300 7 (nI e.2)) := by
  have hw := h.1
  have h5 := h.2.1
  have h6 := h.2.2.1
  have k136 := hgk_136e (X := X) (hgEm_s (k := 7) (x := nI e.2) h (by omega))
  rw [hgu154_168]
  simp (maxDischargeDepth := 7) only [hgM_t, hgM_f, hgM_n, hgx_aload_n_0, hgx_iconst_0, hgx_put0, hgx_iload_n_1, hgx_get0, hgx_invstatic_3, hgx_aft_e, hgx_aft_i, hgx_aft_l, hgx_aft_v, hgx_if_ne, hgx_iconst_1, hgx_goto, hgx_invvirtual_3, hgx_if_eq, hgx_ret1, hgx_iconst_m1, hgx_istore_n_2i, hgx_istore_n_2r, hgx_istore_n_2f, hgx_istore_n_2n, hgx_istore_n_2l, hgx_iload_n_2, hgx_sipush_187, hgx_ic_ge, hgs_get_8_9, hgx_iinc_2_1, hgx_bipush_6, hgx_sipush_200, hgx_ldc_s, hgx_invvirtual_2, hgx_bipush_m2, hgx_iconst_4, hgx_sipush_999, hgx_iconst_5, hgx_bipush_100, hgx_bipush_59, hgx_invvirtual_1, hgx_ic_eq, hgs_get_8_8, hgx_invstatic_2, hgx_bipush_10, hgs_get_8_12, hgx_lconst_0, hgv154_0, hgr154_0, hgu154_0, hgv154_22, hgr154_22, hgu154_22, hgv154_23, hgr154_23, hgu154_23, hgv154_32, hgr154_32, hgu154_32, hgv154_64, ← hgu154_64, hgv154_84, hgr154_84, hgu154_84, hgv154_113, hgr154_113, hgu154_113, hgv154_146, ← hgu154_146, hgv154_168, hgr154_168, hgu154_168, hgv154_188, hgr154_188, hgu154_188, hgv154_205, ← hgu154_205, hgv154_224, hgr154_224, hgu154_224, hgI_SI, hgI_SJ, hgJ_SI, hgJ_SJ, if_true, if_false, reduceIte, Nat.reduceEqDiff, hgWf_SI, hgWf_SJ, hgO_SI, hgO_SJ, hgAr_SI, hgAr_SJ, hgRp_SI, hgRp_SJ, hgN_SI, hgN_SJ, hgO_g, hgO_d, hgO_rl, hgO_r, hgO_0, hgO_1, hgO_64, hgO_298, hgO_300, hgCd_0, hgCd_1, hgCd_2, hgCd_3, hgCd_4, hgCd_5, hgRecv_O, hgRecv_99, List.length_cons, List.length_nil, Nat.zero_add, Nat.add_zero, Nat.le_refl, Nat.zero_le, and_self, or_true, true_or, true_and, and_true, ne_eq, not_false_eq_true, Nat.reduceLT, Nat.reduceLeDiff, Nat.reduceAdd, Nat.reduceEqDiff, hgn_eq, hgn_lt, hgn_le, if_true, if_false, reduceIte, Nat.not_lt_zero, hw, h5, h6, k136]
theorem hgk_154n (hw : hgWf M) (h5 : hgI M 300 5 = nI 0) (h6 : hgI M 300 6 = -1) : hgW X 154 168 [some (.ref 300), none, none] [] (0, 0) M = hgW X 154 188 [some (.ref 300), none, none] [] (0, 0) (hgSI M 300 7 (-1)) := by
  have k136 := hgk_136 (X := X) (M := hgSI M 300 7 (-1)) hw
  have e5 : hgI (hgSI M 300 7 (-1)) 300 5 = nI 0 := by rw [hgI_nk (by omega)]; exact h5
  rw [decide_eq_true e5, hgB_t] at k136
  rw [hgu154_168]
  simp (maxDischargeDepth := 7) only [hgM_t, hgM_f, hgM_n, hgx_aload_n_0, hgx_get0, hgx_put0, hgx_invvirtual_1, hgx_aft_e, hgx_aft_i, hgx_aft_l, hgx_aft_v, hgx_if_ne, hgx_ret1, hgv154_168, hgr154_168, hgu154_168, hgv154_64, hgv154_146, hgv154_205, hgv154_188, hgI_SI, hgI_SJ, hgJ_SI, hgJ_SJ, if_true, if_false, reduceIte, Nat.reduceEqDiff, hgWf_SI, hgWf_SJ, hgO_SI, hgO_SJ, hgAr_SI, hgAr_SJ, hgRp_SI, hgRp_SJ, hgN_SI, hgN_SJ, hgO_g, hgO_d, hgO_rl, hgO_r, hgO_0, hgO_1, hgO_64, hgO_298, hgO_300, hgCd_0, hgCd_1, hgCd_2, hgCd_3, hgCd_4, hgCd_5, hgRecv_O, hgRecv_99, List.length_cons, List.length_nil, Nat.zero_add, Nat.add_zero, Nat.le_refl, Nat.zero_le, and_self, or_true, true_or, true_and, and_true, ne_eq, not_false_eq_true, Nat.reduceLT, Nat.reduceLeDiff, Nat.reduceAdd, Nat.reduceEqDiff, hgn_eq, hgn_lt, hgn_le, if_true, if_false, reduceIte, Nat.not_lt_zero, hw, h6, k136]
/-- remembering leaves the draft alone -/
theorem hgk_190x (h : hgSM M V Hs c) : ∃ M', hgWC X 190 [.ref 300] M = some (.inl .null, M') ∧ ∀ k, hgI M' 303 k = hgI M 303 k := by
  obtain ⟨a1, a2, a3, a4, a5, a6, a7⟩ := h
  have hm := hgSm_ok a4
  by_cases hl : Hs.length = 8
  · rw [hl] at a6 a7
    obtain ⟨M1, e1, r1, f1⟩ := hgk_190l (X := X) (sl := fun j => Hs.getD (7 - j) hgV0) (fun j hj => hgSm_ok (a5 _ (hgGd_mem (by omega)))) 7 0 M (by omega) a1 (fun j j1 j2 => a7 j j2)
    have w1 := hgFn_w f1 a1
    have s1 : hgI M1 300 15 = nI 8 := by rw [(f1.2.2 300 (by omega) 15).1]; exact a6
    have v1 := hgRV_fn f1 (by omega) (by omega) a2
    obtain ⟨M2, e2, r2, s2, f2, o2⟩ := hgk_190c (X := X) (v1 := none) (M := hgSI M1 300 15 (nI 7)) w1 hm (hgRV_to (M := M1) rfl (fun k => hgI_na (by omega)) (fun k => rfl) v1) hgI_at (by omega)
    refine ⟨M2, ?_, fun k => by rw [(f2.2.2 303 (by omega) k).1, hgI_na (by omega), (f1.2.2 303 (by omega) k).1]⟩
    have b7 : nI 8 - nI 1 = nI 7 := hgn_sub (by omega)
    simp (maxDischargeDepth := 7) only [hgc190, hgM_t, hgM_f, hgM_n, hgx_aload_n_0, hgx_get0, hgx_bipush_8, hgx_ic_ne, hgx_iconst_1, hgx_istore_n_1i, hgx_istore_n_1r, hgx_istore_n_1f, hgx_istore_n_1n, hgx_istore_n_1l, hgx_iload_n_1, hgx_ic_ge, hgs_get_8_11, hgx_isub, hgx_invstatic_2, hgx_aft_e, hgx_aft_i, hgx_aft_l, hgx_aft_v, hgs_get_8_14, hgx_iinc_1_1, hgx_goto, hgx_dup_i, hgx_dup_f, hgx_dup_r, hgx_put0, hgs_get_8_8, hgs_get_8_12, hgx_iadd, hgx_vret, hgv190_0, hgr190_0, hgu190_0, hgv190_11, ← hgu190_11, hgv190_57, hgr190_57, hgu190_57, hgv190_67, hgr190_67, hgu190_67, hgI_SI, hgI_SJ, hgJ_SI, hgJ_SJ, if_true, if_false, reduceIte, Nat.reduceEqDiff, hgWf_SI, hgWf_SJ, hgO_SI, hgO_SJ, hgAr_SI, hgAr_SJ, hgRp_SI, hgRp_SJ, hgN_SI, hgN_SJ, hgO_g, hgO_d, hgO_rl, hgO_r, hgO_0, hgO_1, hgO_64, hgO_298, hgO_300, hgCd_0, hgCd_1, hgCd_2, hgCd_3, hgCd_4, hgCd_5, hgRecv_O, hgRecv_99, List.length_cons, List.length_nil, Nat.zero_add, Nat.add_zero, Nat.le_refl, Nat.zero_le, and_self, or_true, true_or, true_and, and_true, ne_eq, not_false_eq_true, Nat.reduceLT, Nat.reduceLeDiff, Nat.reduceAdd, Nat.reduceEqDiff, hgn_eq, hgn_lt, hgn_le, if_true, if_false, reduceIte, Nat.not_lt_zero, hgs_aa_d, hgs_aa_r, hgs_aa_h, hgs_aa_m, hgs_aa_t, hgs_ld_wp, hgs_st_wp, hgs_ld_qf, hgs_st_qf, hgs_ld_qt, hgs_st_qt, hgs_ld_2, hgs_st_2, hgs_ld_3, hgs_st_3, hgs_ld_4, hgs_st_4, hgs_ld_301, hgs_st_301, hgs_ld_D, hgs_st_D, hgs_ld_s, hgs_ld_T, hgs_st_T, hgs_ld_o, hgs_st_o, hgs_ld_b, hgs_st_b, hgs_ld_z, hgs_st_z, hgs_al_b, hgx_alen_s, hgn_add, hgn_mul, a1, a6]
    rw [show nI 1 = nI (0 + 1) from rfl, e1, hgu190_57]
    rw [hgu190_67] at e2
    simp (maxDischargeDepth := 7) only [hgr190_57, hgx_aload_n_0, hgx_dup_r, hgx_get0, hgx_iconst_1, hgx_isub, hgx_put0, hgI_SI, hgI_SJ, hgJ_SI, hgJ_SJ, if_true, if_false, reduceIte, Nat.reduceEqDiff, hgWf_SI, hgWf_SJ, hgO_SI, hgO_SJ, hgAr_SI, hgAr_SJ, hgRp_SI, hgRp_SJ, hgN_SI, hgN_SJ, hgO_g, hgO_d, hgO_rl, hgO_r, hgO_0, hgO_1, hgO_64, hgO_298, hgO_300, hgCd_0, hgCd_1, hgCd_2, hgCd_3, hgCd_4, hgCd_5, hgRecv_O, hgRecv_99, List.length_cons, List.length_nil, Nat.zero_add, Nat.add_zero, Nat.le_refl, Nat.zero_le, and_self, or_true, true_or, true_and, and_true, ne_eq, not_false_eq_true, Nat.reduceLT, Nat.reduceLeDiff, Nat.reduceAdd, Nat.reduceEqDiff, hgn_eq, hgn_lt, hgn_le, if_true, if_false, reduceIte, Nat.not_lt_zero, w1, s1, b7]
    exact e2
  · have hn8 : Hs.length < 8 := by omega
    obtain ⟨M2, e2, r2, s2, f2, o2⟩ := hgk_190c (X := X) (v1 := none) a1 hm a2 a6 hn8
    have b1 : Hs.length < 2147483648 := by omega
    refine ⟨M2, ?_, fun k => (f2.2.2 303 (by omega) k).1⟩
    rw [hgu190_67] at e2
    simp (maxDischargeDepth := 7) only [hgc190, hgu190_0, hgr190_0, hgx_aload_n_0, hgx_get0, hgx_bipush_8, hgx_ic_ne, hgv190_67, hgu190_67, hgM_t, hgM_f, hgM_n, hgI_SI, hgI_SJ, hgJ_SI, hgJ_SJ, if_true, if_false, reduceIte, Nat.reduceEqDiff, hgWf_SI, hgWf_SJ, hgO_SI, hgO_SJ, hgAr_SI, hgAr_SJ, hgRp_SI, hgRp_SJ, hgN_SI, hgN_SJ, hgO_g, hgO_d, hgO_rl, hgO_r, hgO_0, hgO_1, hgO_64, hgO_298, hgO_300, hgCd_0, hgCd_1, hgCd_2, hgCd_3, hgCd_4, hgCd_5, hgRecv_O, hgRecv_99, List.length_cons, List.length_nil, Nat.zero_add, Nat.add_zero, Nat.le_refl, Nat.zero_le, and_self, or_true, true_or, true_and, and_true, ne_eq, not_false_eq_true, Nat.reduceLT, Nat.reduceLeDiff, Nat.reduceAdd, Nat.reduceEqDiff, hgn_eq, hgn_lt, hgn_le, if_true, if_false, reduceIte, Nat.not_lt_zero, hgs_aa_d, hgs_aa_r, hgs_aa_h, hgs_aa_m, hgs_aa_t, hgs_ld_wp, hgs_st_wp, hgs_ld_qf, hgs_st_qf, hgs_ld_qt, hgs_st_qt, hgs_ld_2, hgs_st_2, hgs_ld_3, hgs_st_3, hgs_ld_4, hgs_st_4, hgs_ld_301, hgs_st_301, hgs_ld_D, hgs_st_D, hgs_ld_s, hgs_ld_T, hgs_st_T, hgs_ld_o, hgs_st_o, hgs_ld_b, hgs_st_b, hgs_ld_z, hgs_st_z, hgs_al_b, hgx_alen_s, hgn_add, hgn_mul, a1, a6, b1, hl]
    exact e2
/-- the times are cleared -/
theorem hgk_154t : ∀ (k d : Nat) (M : hgMem), d + k = 10 → hgWf M → ∃ M', hgW X 154 205 [some (.ref 300), none, some (.int (nI d))] [] (0, 0) M = hgW X 154 224 [some (.ref 300), none, none] [] (0, 0) M' ∧ hgFn (fun b => b = 314) M M' ∧ (∀ j, d ≤ j → j < 10 → hgJ M' 314 j = lN 0) ∧ ∀ j, j < d → hgJ M' 314 j = hgJ M 314 j := by
  intro k
  induction k with
  | zero =>
    intro d M hd hw
    have h1 : d < 2147483648 := by omega
    have h3 : 10 ≤ d := by omega
    refine ⟨M, ?_, hgFn_r, fun j j1 j2 => by omega, fun j _ => rfl⟩
    rw [hgu154_205]
    simp (maxDischargeDepth := 7) only [hgM_t, hgM_f, hgM_n, hgx_iload_n_2, hgx_bipush_10, hgx_ic_ge, hgx_aload_n_0, hgs_get_8_12, hgx_lconst_0, hgx_iinc_2_1, hgx_goto, hgv154_205, hgr154_205, hgu154_205, hgv154_64, hgv154_146, hgv154_224, hgI_SI, hgI_SJ, hgJ_SI, hgJ_SJ, if_true, if_false, reduceIte, Nat.reduceEqDiff, hgWf_SI, hgWf_SJ, hgO_SI, hgO_SJ, hgAr_SI, hgAr_SJ, hgRp_SI, hgRp_SJ, hgN_SI, hgN_SJ, hgO_g, hgO_d, hgO_rl, hgO_r, hgO_0, hgO_1, hgO_64, hgO_298, hgO_300, hgCd_0, hgCd_1, hgCd_2, hgCd_3, hgCd_4, hgCd_5, hgRecv_O, hgRecv_99, List.length_cons, List.length_nil, Nat.zero_add, Nat.add_zero, Nat.le_refl, Nat.zero_le, and_self, or_true, true_or, true_and, and_true, ne_eq, not_false_eq_true, Nat.reduceLT, Nat.reduceLeDiff, Nat.reduceAdd, Nat.reduceEqDiff, hgn_eq, hgn_lt, hgn_le, if_true, if_false, reduceIte, Nat.not_lt_zero, hw, h1, h3]
  | succ k ih =>
    intro d M hd hw
    have h1 : d < 2147483648 := by omega
    have h3 : ¬ 10 ≤ d := by omega
    have h4 : d < 10 := by omega
    have a0 := hgAr_314 hw
    obtain ⟨M', e, f, r1, r2⟩ := ih (d + 1) (hgSJ M 314 d (lN 0)) (by omega) hw
    refine ⟨M', ?_, hgFn_t (hgFn_SJ hgFn_r rfl) f, fun j j1 j2 => ?_, fun j hj => ?_⟩
    · refine Eq.trans ?_ e
      rw [hgu154_205]
      simp (maxDischargeDepth := 7) only [hgM_t, hgM_f, hgM_n, hgx_aload_n_0, hgx_iconst_0, hgx_put0, hgx_iload_n_1, hgx_get0, hgx_invstatic_3, hgx_aft_e, hgx_aft_i, hgx_aft_l, hgx_aft_v, hgx_if_ne, hgx_iconst_1, hgx_goto, hgx_invvirtual_3, hgx_if_eq, hgx_ret1, hgx_iconst_m1, hgx_istore_n_2i, hgx_istore_n_2r, hgx_istore_n_2f, hgx_istore_n_2n, hgx_istore_n_2l, hgx_iload_n_2, hgx_sipush_187, hgx_ic_ge, hgs_get_8_9, hgx_iinc_2_1, hgx_bipush_6, hgx_sipush_200, hgx_ldc_s, hgx_invvirtual_2, hgx_bipush_m2, hgx_iconst_4, hgx_sipush_999, hgx_iconst_5, hgx_bipush_100, hgx_bipush_59, hgx_invvirtual_1, hgx_ic_eq, hgs_get_8_8, hgx_invstatic_2, hgx_bipush_10, hgs_get_8_12, hgx_lconst_0, hgv154_0, hgr154_0, hgu154_0, hgv154_22, hgr154_22, hgu154_22, hgv154_23, hgr154_23, hgu154_23, hgv154_32, hgr154_32, hgu154_32, hgv154_64, ← hgu154_64, hgv154_84, hgr154_84, hgu154_84, hgv154_113, hgr154_113, hgu154_113, hgv154_146, ← hgu154_146, hgv154_168, hgr154_168, hgu154_168, hgv154_188, hgr154_188, hgu154_188, hgv154_205, hgr154_205, hgv154_224, hgr154_224, hgu154_224, hgI_SI, hgI_SJ, hgJ_SI, hgJ_SJ, if_true, if_false, reduceIte, Nat.reduceEqDiff, hgWf_SI, hgWf_SJ, hgO_SI, hgO_SJ, hgAr_SI, hgAr_SJ, hgRp_SI, hgRp_SJ, hgN_SI, hgN_SJ, hgO_g, hgO_d, hgO_rl, hgO_r, hgO_0, hgO_1, hgO_64, hgO_298, hgO_300, hgCd_0, hgCd_1, hgCd_2, hgCd_3, hgCd_4, hgCd_5, hgRecv_O, hgRecv_99, List.length_cons, List.length_nil, Nat.zero_add, Nat.add_zero, Nat.le_refl, Nat.zero_le, and_self, or_true, true_or, true_and, and_true, ne_eq, not_false_eq_true, Nat.reduceLT, Nat.reduceLeDiff, Nat.reduceAdd, Nat.reduceEqDiff, hgn_eq, hgn_lt, hgn_le, if_true, if_false, reduceIte, Nat.not_lt_zero, hgs_aa_d, hgs_aa_r, hgs_aa_h, hgs_aa_m, hgs_aa_t, hgs_ld_wp, hgs_st_wp, hgs_ld_qf, hgs_st_qf, hgs_ld_qt, hgs_st_qt, hgs_ld_2, hgs_st_2, hgs_ld_3, hgs_st_3, hgs_ld_4, hgs_st_4, hgs_ld_301, hgs_st_301, hgs_ld_D, hgs_st_D, hgs_ld_s, hgs_ld_T, hgs_st_T, hgs_ld_o, hgs_st_o, hgs_ld_b, hgs_st_b, hgs_ld_z, hgs_st_z, hgs_al_b, hgx_alen_s, hgn_add, hgn_mul, hw, a0, h1, h3, h4]
    · by_cases ej : j = d
      · rw [ej, r2 d (by omega), hgJ_at]
      · exact r1 j (by omega) j2
    · rw [r2 j (by omega), hgJ_nk (by omega)]
/-- the draft becomes the current picture -/
theorem hgk_154z (h : hgSM M V Hs c) (hk : hgDk D) (hd : hgRD M D) : ∃ M', hgW X 154 188 [some (.ref 300), none, none] [] (0, 0) M = some (.inl (.int (nI (vN D))), M') ∧ hgSM M' D ((V :: Hs).take 8) c ∧ hgFm (fun b => 300 ≤ b ∧ b < 325) M M' ∧ ∀ k, k ≠ 15 → hgI M' 300 k = hgI M 300 k := by
  have hw := h.1
  obtain ⟨M1, e1, s1, f1, w1, o1⟩ := hgk_190 (X := X) h
  obtain ⟨M9, e9, d1⟩ := hgk_190x (X := X) h
  have em : M9 = M1 := by
    rw [e1] at e9
    injection e9 with q
    injection q with q1 q2
    exact q2.symm
  rw [em] at d1
  have hd1 : hgRD M1 D := hgRD_to hd d1
  have n0 : hgI M1 303 0 = nI (vN D) := hd1.1
  have k132 := hgk_132 (X := X) (len := fun _ => 0) (hgAr_303 w1) (hgAr_302 w1) (by omega) (by omega) (by omega) n0 hk.1 (fun q hq => ⟨hd1.2.2.2.2.2.1 q hq, Nat.zero_le _⟩)
  obtain ⟨M2, hM2⟩ : ∃ M2, M2 = hgCpQ 303 302 (fun _ => 0) 0 (vN D) (hgCpA 303 302 0 187 M1) := ⟨_, rfl⟩
  rw [← hM2] at k132
  have cN := hgCpQ_N (d := 303) (e := 302) (len := fun _ => 0) (vN D) 0 (hgCpA 303 302 0 187 M1)
  have rd : ∀ b j, hgI M2 b j = hgI (hgCpA 303 302 0 187 M1) b j := fun b j => by
    rw [hM2]
    exact (hgCpQ_I (d := 303) (e := 302) (by omega) (len := fun _ => 0) (vN D) 0 (hgCpA 303 302 0 187 M1) b j (fun _ _ => Nat.zero_le _)).2 (Or.inr (by
      rintro ⟨q, q1, q2, q3, q4⟩
      have q5 : j < 187 + 2000 * q + 2 * 0 := q4
      omega))
  have f2 : hgFn (fun b => b = 302) M1 M2 := ⟨by rw [hM2, cN.1, hgCpA_N], fun b k => by rw [hM2, cN.2.1, hgCpA_R], fun b hb k => ⟨by rw [rd, hgCpA_I (by omega), if_neg (fun z => hb z.1)], by rw [hM2, cN.2.2, hgCpA_J]⟩⟩
  have o2 : ∀ j, j < 187 → hgI M2 302 j = hgI M1 303 j := fun j hj => by rw [rd, hgCpA_I (by omega), if_pos ⟨rfl, by omega, by omega⟩]
  have w2 := hgFn_w f2 w1
  obtain ⟨M3, e3, f3, t3, _⟩ := hgk_154t (X := X) 10 0 M2 (by omega) w2
  have w3 := hgFn_w f3 w2
  have a3 := hgAr_302 w3
  have n3 : hgI M3 302 0 = nI (vN D) := by rw [(f3.2.2 302 (by omega) 0).1, o2 0 (by omega)]; exact n0
  have v3 : hgRV M3 302 314 D := hgRD_RV hk hd1 (hgAr_302 w3) (hgAr_314 w3) (fun k hk => by rw [(f3.2.2 302 (by omega) k).1]; exact o2 k hk) (fun i hi => t3 i (Nat.zero_le _) hi)
  have f23 : hgFn (fun b => b = 302 ∨ b = 314) M1 M3 := hgFn_t (hgFn_m f2 (fun b hb => Or.inl hb)) (hgFn_m f3 (fun b hb => Or.inr hb))
  have hok : hgVok D c := hgDk_ok hk h.2.2.2.1.2.2.2.2.2.2.2.2
  have k224 : hgW X 154 224 [some (.ref 300), none, none] [] (0, 0) M3 = some (.inl (.int (nI (vN D))), M3) := by
    rw [hgu154_224]
    simp (maxDischargeDepth := 7) only [hgM_t, hgM_f, hgM_n, hgx_aload_n_0, hgx_iconst_0, hgx_put0, hgx_iload_n_1, hgx_get0, hgx_invstatic_3, hgx_aft_e, hgx_aft_i, hgx_aft_l, hgx_aft_v, hgx_if_ne, hgx_iconst_1, hgx_goto, hgx_invvirtual_3, hgx_if_eq, hgx_ret1, hgx_iconst_m1, hgx_istore_n_2i, hgx_istore_n_2r, hgx_istore_n_2f, hgx_istore_n_2n, hgx_istore_n_2l, hgx_iload_n_2, hgx_sipush_187, hgx_ic_ge, hgs_get_8_9, hgx_iinc_2_1, hgx_bipush_6, hgx_sipush_200, hgx_ldc_s, hgx_invvirtual_2, hgx_bipush_m2, hgx_iconst_4, hgx_sipush_999, hgx_iconst_5, hgx_bipush_100, hgx_bipush_59, hgx_invvirtual_1, hgx_ic_eq, hgs_get_8_8, hgx_invstatic_2, hgx_bipush_10, hgs_get_8_12, hgx_lconst_0, hgv154_0, hgr154_0, hgu154_0, hgv154_22, hgr154_22, hgu154_22, hgv154_23, hgr154_23, hgu154_23, hgv154_32, hgr154_32, hgu154_32, hgv154_64, ← hgu154_64, hgv154_84, hgr154_84, hgu154_84, hgv154_113, hgr154_113, hgu154_113, hgv154_146, ← hgu154_146, hgv154_168, hgr154_168, hgu154_168, hgv154_188, hgr154_188, hgu154_188, hgv154_205, ← hgu154_205, hgv154_224, hgr154_224, hgu154_224, hgI_SI, hgI_SJ, hgJ_SI, hgJ_SJ, if_true, if_false, reduceIte, Nat.reduceEqDiff, hgWf_SI, hgWf_SJ, hgO_SI, hgO_SJ, hgAr_SI, hgAr_SJ, hgRp_SI, hgRp_SJ, hgN_SI, hgN_SJ, hgO_g, hgO_d, hgO_rl, hgO_r, hgO_0, hgO_1, hgO_64, hgO_298, hgO_300, hgCd_0, hgCd_1, hgCd_2, hgCd_3, hgCd_4, hgCd_5, hgRecv_O, hgRecv_99, List.length_cons, List.length_nil, Nat.zero_add, Nat.add_zero, Nat.le_refl, Nat.zero_le, and_self, or_true, true_or, true_and, and_true, ne_eq, not_false_eq_true, Nat.reduceLT, Nat.reduceLeDiff, Nat.reduceAdd, Nat.reduceEqDiff, hgn_eq, hgn_lt, hgn_le, if_true, if_false, reduceIte, Nat.not_lt_zero, hgs_aa_d, hgs_aa_r, hgs_aa_h, hgs_aa_m, hgs_aa_t, hgs_ld_wp, hgs_st_wp, hgs_ld_qf, hgs_st_qf, hgs_ld_qt, hgs_st_qt, hgs_ld_2, hgs_st_2, hgs_ld_3, hgs_st_3, hgs_ld_4, hgs_st_4, hgs_ld_301, hgs_st_301, hgs_ld_D, hgs_st_D, hgs_ld_s, hgs_ld_T, hgs_st_T, hgs_ld_o, hgs_st_o, hgs_ld_b, hgs_st_b, hgs_ld_z, hgs_st_z, hgs_al_b, hgx_alen_s, w3, a3, n3]
  refine ⟨M3, ?_, hgSM_cur s1 (hgFn_f f23) (fun b hb => hb) w3 v3 hok, hgFm_t f1.1 (hgFm_m (hgFn_f f23) (fun b hb => by omega)), fun k hk => by rw [(f23.2.2 300 (by omega) k).1]; exact o1 k hk⟩
  refine Eq.trans ?_ (e3.trans k224)
  rw [hgu154_188]
  simp (maxDischargeDepth := 7) only [hgM_t, hgM_f, hgM_n, hgx_aload_n_0, hgx_iconst_0, hgx_put0, hgx_iload_n_1, hgx_get0, hgx_invstatic_3, hgx_aft_e, hgx_aft_i, hgx_aft_l, hgx_aft_v, hgx_if_ne, hgx_iconst_1, hgx_goto, hgx_invvirtual_3, hgx_if_eq, hgx_ret1, hgx_iconst_m1, hgx_istore_n_2i, hgx_istore_n_2r, hgx_istore_n_2f, hgx_istore_n_2n, hgx_istore_n_2l, hgx_iload_n_2, hgx_sipush_187, hgx_ic_ge, hgs_get_8_9, hgx_iinc_2_1, hgx_bipush_6, hgx_sipush_200, hgx_ldc_s, hgx_invvirtual_2, hgx_bipush_m2, hgx_iconst_4, hgx_sipush_999, hgx_iconst_5, hgx_bipush_100, hgx_bipush_59, hgx_invvirtual_1, hgx_ic_eq, hgs_get_8_8, hgx_invstatic_2, hgx_bipush_10, hgs_get_8_12, hgx_lconst_0, hgv154_0, hgr154_0, hgu154_0, hgv154_22, hgr154_22, hgu154_22, hgv154_23, hgr154_23, hgu154_23, hgv154_32, hgr154_32, hgu154_32, hgv154_64, ← hgu154_64, hgv154_84, hgr154_84, hgu154_84, hgv154_113, hgr154_113, hgu154_113, hgv154_146, ← hgu154_146, hgv154_168, hgr154_168, hgu154_168, hgv154_188, hgr154_188, hgu154_188, hgv154_205, ← hgu154_205, hgv154_224, hgr154_224, hgu154_224, hgI_SI, hgI_SJ, hgJ_SI, hgJ_SJ, if_true, if_false, reduceIte, Nat.reduceEqDiff, hgWf_SI, hgWf_SJ, hgO_SI, hgO_SJ, hgAr_SI, hgAr_SJ, hgRp_SI, hgRp_SJ, hgN_SI, hgN_SJ, hgO_g, hgO_d, hgO_rl, hgO_r, hgO_0, hgO_1, hgO_64, hgO_298, hgO_300, hgCd_0, hgCd_1, hgCd_2, hgCd_3, hgCd_4, hgCd_5, hgRecv_O, hgRecv_99, List.length_cons, List.length_nil, Nat.zero_add, Nat.add_zero, Nat.le_refl, Nat.zero_le, and_self, or_true, true_or, true_and, and_true, ne_eq, not_false_eq_true, Nat.reduceLT, Nat.reduceLeDiff, Nat.reduceAdd, Nat.reduceEqDiff, hgn_eq, hgn_lt, hgn_le, if_true, if_false, reduceIte, Nat.not_lt_zero, hgs_aa_d, hgs_aa_r, hgs_aa_h, hgs_aa_m, hgs_aa_t, hgs_ld_wp, hgs_st_wp, hgs_ld_qf, hgs_st_qf, hgs_ld_qt, hgs_st_qt, hgs_ld_2, hgs_st_2, hgs_ld_3, hgs_st_3, hgs_ld_4, hgs_st_4, hgs_ld_301, hgs_st_301, hgs_ld_D, hgs_st_D, hgs_ld_s, hgs_ld_T, hgs_st_T, hgs_ld_o, hgs_st_o, hgs_ld_b, hgs_st_b, hgs_ld_z, hgs_st_z, hgs_al_b, hgx_alen_s, hw, e1, w1, k132, w2]
/-- reference: load -/
theorem hgk_154 (h : hgSM M V Hs c) (hbl : hgI M 300 2 = nI b) (hb9 : b ≤ 900) (hn : n ≤ b) (ht : t.2 = n) (hb : ∀ k, k < n → hgI M 301 k = nI (t.1 k) ∧ t.1 k ≤ 255) : ∃ M', hgWC X 154 [.ref 300, .int (nI n)] M = some (.inl (.int (rA (sTxt t))), M') ∧ hgSM M' (rV V (sTxt t)) (rH V Hs (sTxt t)) c ∧ hgI M' 300 0 = nI 0 ∧ hgI M' 300 2 = nI 0 ∧ hgI M' 300 7 = rO (sTxt t) ∧ hgFm (fun b => 300 ≤ b ∧ b < 325) M M' := by
  have hw := h.1
  have k125 := hgk_125 (X := X) (M := hgSI M 300 0 (nI 0)) (x := nI n) (y := nI 0) (z := nI b)
  rw [hgBtw_nn (by omega) (by omega) (by omega), decide_eq_true (Nat.zero_le n), decide_eq_true hn, Bool.and_self, hgB_t] at k125
  have k124 := hgk_124a (X := X) (M := hgSI M 300 0 (nI 0)) (y := nI 1) hw hgI_at
  obtain ⟨M1, hM1⟩ : ∃ M1, M1 = hgSI (hgSI (hgSI (hgSI (hgSI (hgSI (hgSI M 300 0 (nI 0)) 300 2 (nI 0)) 300 3 (nI n)) 300 4 (nI 0)) 300 5 (nI 0)) 300 6 (-1)) 300 17 (nI 0) := ⟨_, rfl⟩
  have start : hgWC X 154 [.ref 300, .int (nI n)] M = hgW X 154 64 [some (.ref 300), some (.int (nI n)), some (.int (nI 0))] [] (0, 0) M1 := by
    rw [hM1]
    simp (maxDischargeDepth := 7) only [hgc154, hgM_t, hgM_f, hgM_n, hgx_aload_n_0, hgx_iconst_0, hgx_put0, hgx_iload_n_1, hgx_get0, hgx_invstatic_3, hgx_aft_e, hgx_aft_i, hgx_aft_l, hgx_aft_v, hgx_if_ne, hgx_iconst_1, hgx_goto, hgx_invvirtual_3, hgx_if_eq, hgx_ret1, hgx_iconst_m1, hgx_istore_n_2i, hgx_istore_n_2r, hgx_istore_n_2f, hgx_istore_n_2n, hgx_istore_n_2l, hgx_iload_n_2, hgx_sipush_187, hgx_ic_ge, hgs_get_8_9, hgx_iinc_2_1, hgx_bipush_6, hgx_sipush_200, hgx_ldc_s, hgx_invvirtual_2, hgx_bipush_m2, hgx_iconst_4, hgx_sipush_999, hgx_iconst_5, hgx_bipush_100, hgx_bipush_59, hgx_invvirtual_1, hgx_ic_eq, hgs_get_8_8, hgx_invstatic_2, hgx_bipush_10, hgs_get_8_12, hgx_lconst_0, hgv154_0, hgr154_0, hgu154_0, hgv154_22, hgr154_22, hgu154_22, hgv154_23, hgr154_23, hgu154_23, hgv154_32, hgr154_32, hgu154_32, hgv154_64, ← hgu154_64, hgv154_84, hgr154_84, hgu154_84, hgv154_113, hgr154_113, hgu154_113, hgv154_146, ← hgu154_146, hgv154_168, hgr154_168, hgu154_168, hgv154_188, hgr154_188, hgu154_188, hgv154_205, ← hgu154_205, hgv154_224, hgr154_224, hgu154_224, hgI_SI, hgI_SJ, hgJ_SI, hgJ_SJ, if_true, if_false, reduceIte, Nat.reduceEqDiff, hgWf_SI, hgWf_SJ, hgO_SI, hgO_SJ, hgAr_SI, hgAr_SJ, hgRp_SI, hgRp_SJ, hgN_SI, hgN_SJ, hgO_g, hgO_d, hgO_rl, hgO_r, hgO_0, hgO_1, hgO_64, hgO_298, hgO_300, hgCd_0, hgCd_1, hgCd_2, hgCd_3, hgCd_4, hgCd_5, hgRecv_O, hgRecv_99, List.length_cons, List.length_nil, Nat.zero_add, Nat.add_zero, Nat.le_refl, Nat.zero_le, and_self, or_true, true_or, true_and, and_true, ne_eq, not_false_eq_true, Nat.reduceLT, Nat.reduceLeDiff, Nat.reduceAdd, Nat.reduceEqDiff, hgn_eq, hgn_lt, hgn_le, if_true, if_false, reduceIte, Nat.not_lt_zero, hw, hbl, k125, k124]
  have s1 : hgSM M1 V Hs c := by
    rw [hM1]
    exact hgSM_300 (by omega) (hgSM_300 (by omega) (hgSM_300 (by omega) (hgSM_300 (by omega) (hgSM_300 (by omega) (hgSM_300 (by omega) (hgSM_300 (by omega) h))))))
  have f1 : hgFm (fun b => 300 ≤ b ∧ b < 325) M M1 := by
    rw [hM1]
    exact hgFm_SI (hgFm_SI (hgFm_SI (hgFm_SI (hgFm_SI (hgFm_SI (hgFm_SI hgFm_r (by omega)) (by omega)) (by omega)) (by omega)) (by omega)) (by omega)) (by omega)
  have w1 := s1.1
  obtain ⟨M2, e2, f2, z2, _⟩ := hgk_154l (X := X) 187 0 M1 (some (.int (nI n))) (by omega) w1
  have w2 := hgFn_w f2 w1
  have g2 : ∀ b, b ≠ 303 → ∀ k, hgI M2 b k = hgI M1 b k := fun b hb k => (f2.2.2 b hb k).1
  have i0 : hgI M2 300 0 = nI 0 := by rw [g2 _ (by omega), hM1]; simp only [hgI_SI, hgI_SJ, hgJ_SI, hgJ_SJ, if_true, if_false, reduceIte, Nat.reduceEqDiff]
  have i2 : hgI M2 300 2 = nI 0 := by rw [g2 _ (by omega), hM1]; simp only [hgI_SI, hgI_SJ, hgJ_SI, hgJ_SJ, if_true, if_false, reduceIte, Nat.reduceEqDiff]
  have i3 : hgI M2 300 3 = nI t.2 := by rw [g2 _ (by omega), hM1, ht]; simp only [hgI_SI, hgI_SJ, hgJ_SI, hgJ_SJ, if_true, if_false, reduceIte, Nat.reduceEqDiff]
  have i4 : hgI M2 300 4 = nI 0 := by rw [g2 _ (by omega), hM1]; simp only [hgI_SI, hgI_SJ, hgJ_SI, hgJ_SJ, if_true, if_false, reduceIte, Nat.reduceEqDiff]
  have i5 : hgI M2 300 5 = nI 0 := by rw [g2 _ (by omega), hM1]; simp only [hgI_SI, hgI_SJ, hgJ_SI, hgJ_SJ, if_true, if_false, reduceIte, Nat.reduceEqDiff]
  have i6 : hgI M2 300 6 = -1 := by rw [g2 _ (by omega), hM1]; simp only [hgI_SI, hgI_SJ, hgJ_SI, hgJ_SJ, if_true, if_false, reduceIte, Nat.reduceEqDiff]
  have i17 : hgI M2 300 17 = nI 0 := by rw [g2 _ (by omega), hM1]; simp only [hgI_SI, hgI_SJ, hgJ_SI, hgJ_SJ, if_true, if_false, reduceIte, Nat.reduceEqDiff]
  have r2 : hgRr M2 t 0 := ⟨w2, i3, i4, Nat.zero_le _, by omega, i5, fun k hk => by
    rw [g2 _ (by omega), hM1, hgI_na (by omega), hgI_na (by omega), hgI_na (by omega), hgI_na (by omega), hgI_na (by omega), hgI_na (by omega), hgI_na (by omega)]
    exact hb k (by omega)⟩
  have s2 : hgSM M2 V Hs c := hgSM_fh s1 (hgFh_n f2)
  obtain ⟨M3, e3, o3, f3⟩ := hgk_154h (X := X) r2 (fun k hk => z2 k (Nat.zero_le _) hk) i17 i6
  obtain ⟨M4, e4, o4, f4⟩ : ∃ M4, hgW X 154 146 [some (.ref 300), none, none] [] (0, 0) M3 = hgW X 154 168 [some (.ref 300), none, none] [] (0, 0) M4 ∧ hgOw M4 (sTxt t) ∧ hgFh M3 M4 := by
    unfold sTxt
    have nx : hgNx t 0 (sB (sHed t) (sSem t)) := hgNx_b (sHed_n t) (fun y y1 y2 y3 => hgNx_m (Nat.zero_le _) (sSem_n y2 y3))
    generalize sB (sHed t) (sSem t) = r at o3 nx ⊢
    cases r with
    | inr e => exact ⟨M3, hgk_154r o3, o3, hgFh_r⟩
    | inl y => exact hgk_154m 900 y M3 (by omega) o3 nx.2.2
  have f24 := hgFh_t f3 f4
  have s4 := hgSM_fh s2 f24
  have run := start.trans (e2.trans (e3.trans e4))
  have F4 : hgFm (fun b => 300 ≤ b ∧ b < 325) M M4 := hgFm_t (hgFm_t f1 (hgFm_m (hgFn_f f2) (fun b hb => by omega))) (hgFm_m (hgFn_f f24.1) (fun b hb => by omega))
  have j0 : hgI M4 300 0 = nI 0 := by rw [f24.2 0 (by omega) (by omega) (by omega) (by omega) (by omega)]; exact i0
  have j2 : hgI M4 300 2 = nI 0 := by rw [f24.2 2 (by omega) (by omega) (by omega) (by omega) (by omega)]; exact i2
  have nx := sTxt_n t
  cases hr : sTxt t with
  | inr e =>
    rw [hr] at o4
    exact ⟨hgSI M4 300 7 (nI e.2), run.trans (hgk_154e o4), hgSM_300 (by omega) s4, by rw [hgI_nk (by omega)]; exact j0, by rw [hgI_nk (by omega)]; exact j2, hgI_at, hgFm_SI F4 (by omega)⟩
  | inl z =>
    rw [hr] at o4 nx
    obtain ⟨w4, d4, h5, h6⟩ := o4
    have k1 := hgk_154n (X := X) w4 h5 h6
    obtain ⟨M5, e5, s5, f5, o5⟩ := hgk_154z (X := X) (M := hgSI M4 300 7 (-1)) (hgSM_300 (by omega) s4) nx.2.2 (hgRD_to d4 (fun k => hgI_na (by omega)))
    refine ⟨M5, run.trans (k1.trans e5), s5, by rw [o5 0 (by omega), hgI_nk (by omega)]; exact j0, by rw [o5 2 (by omega), hgI_nk (by omega)]; exact j2, by rw [o5 7 (by omega)]; exact hgI_at, hgFm_t (hgFm_SI F4 (by omega)) f5⟩
/-- the call of load -/
theorem hgOp_205 (h : hgInv M N) : hgBi X 205 [.ref 0, .int x, .ref 325] 154 [.ref 300, .int x] M N := by
  obtain ⟨V, Hs, c, hc, hC, hR, hH, hb⟩ := h
  have hb0 := hb
  obtain ⟨bl, b1, b2, b3, b4, b5⟩ := hb0
  have hw := hC.1
  have e : (nI bl).toInt = bl := hgn_int (by omega)
  by_cases q : 0 ≤ x.toInt ∧ x.toInt < ((bl + 1 : Nat) : Int)
  · obtain ⟨n, hn, hx⟩ := (hgin_i (show bl + 1 < 2147483648 by omega)).mpr q
    rw [hx]
    obtain ⟨t, et⟩ : ∃ t : hgTxt, t = (fun k => (hgI M 301 k).toNatClampNeg, n) := ⟨_, rfl⟩
    have t2 : t.2 = n := by rw [et]
    have t1 : ∀ k, t.1 k = (hgI M 301 k).toNatClampNeg := fun k => by rw [et]
    have tb : ∀ k, k < n → hgI M 301 k = nI (t.1 k) ∧ t.1 k ≤ 255 := fun k hk => by
      obtain ⟨m, m1, m2⟩ := hgan_255 (hgI M 5 k)
      rw [t1, b5 k (by omega), m2, hgn_cl (by omega)]
      exact ⟨rfl, m1⟩
    obtain ⟨M1, e1, s1, i1, i2, f1⟩ := hgk_84 (X := X) hC b2 b1 (show n ≤ bl by omega) t2 (fun k hk => by rw [← b5 k (by omega)]; exact tb k hk)
    have w1 := s1.1
    have l1 := hgL_205 hw w1 e1
    have F1 : hgFm (fun b => b < 300 ∨ b = 325) M (hgSJ M1 325 0 (rA (sTxt t)).toInt64) := hgFm_SJ (hgFm_m f1 (fun b hb => Or.inl hb)) (Or.inr rfl)
    have R1 : hgSM (hgSJ M1 325 0 (rA (sTxt t)).toInt64) V Hs c := hgSM_fm F1 w1 (fun b hb => by omega) hR
    have C1 := hgSC_o (u := (rA (sTxt t)).toInt64) s1
    obtain ⟨M2, e2, s2, j0, j2, j7, f2⟩ := hgk_154 (X := X) R1 (by rw [(F1.2 300 (by omega) 2).1]; exact b3) b1 (show n ≤ bl by omega) t2 (fun k hk => by rw [(F1.2 301 (by omega) k).1]; exact tb k hk)
    have C2 := hgSC_fm f2 s2.1 (fun b hb => by omega) C1
    refine ⟨nI 0, rA (sTxt t), _, M2, l1, e2, w1, j0, fun _ => ?_, rV V (sTxt t), rH V Hs (sTxt t), c, by omega, C2, s2, ?_, 0, by omega, ?_, j2, ?_, fun j hj => absurd hj (Nat.not_lt_zero j)⟩
    · rw [(f2.2 325 (by omega) 0).2.1, hgJ_at]
    · have nx := sTxt_n t
      cases hr : sTxt t with
      | inr e => exact hH
      | inl z =>
        rw [hr] at nx
        have hk : hgDk z.2.1 := nx.2.2
        exact hgHi_sub hH (fun b hb => Or.inl (hk.2.2.2.2.2.2.2.2 b).2.1) ⟨0, by omega, hk.2.2.2.2.2.2.2.1⟩
    · rw [(f2.2 0 (by omega) 1).1]
      exact i1
    · rw [(f2.2 0 (by omega) 2).1, j7]
      exact i2
  · have kc : hgWC X 84 [.ref 0, .int x] M = some (.inr 0, M) := by
      by_cases q0 : x < nI 0
      · simp (maxDischargeDepth := 7) only [hgc84, hgM_t, hgM_f, hgM_n, hgx_iload_n_1, hgx_if_lt, hgx_aload_n_0, hgx_get0, hgx_ic_le, hgx_throw, hgs_get_7_6, hgx_invvirtual_2, hgx_aft_e, hgx_aft_i, hgx_aft_l, hgx_aft_v, hgx_istore_n_2i, hgx_istore_n_2r, hgx_istore_n_2f, hgx_istore_n_2n, hgx_istore_n_2l, hgx_iconst_0, hgx_put0, hgx_iload_n_2, hgx_if_eq, hgx_ret1, hgs_get_7_5, hgs_get_7_3, hgs_get_7_4, hgv84_0, hgr84_0, hgu84_0, hgv84_12, hgr84_12, hgu84_12, hgv84_22, hgr84_22, hgu84_22, hgv84_53, hgr84_53, hgu84_53, hgI_SI, hgI_SJ, hgJ_SI, hgJ_SJ, if_true, if_false, reduceIte, Nat.reduceEqDiff, hgWf_SI, hgWf_SJ, hgO_SI, hgO_SJ, hgAr_SI, hgAr_SJ, hgRp_SI, hgRp_SJ, hgN_SI, hgN_SJ, hgO_g, hgO_d, hgO_rl, hgO_r, hgO_0, hgO_1, hgO_64, hgO_298, hgO_300, hgCd_0, hgCd_1, hgCd_2, hgCd_3, hgCd_4, hgCd_5, hgRecv_O, hgRecv_99, List.length_cons, List.length_nil, Nat.zero_add, Nat.add_zero, Nat.le_refl, Nat.zero_le, and_self, or_true, true_or, true_and, and_true, ne_eq, not_false_eq_true, Nat.reduceLT, Nat.reduceLeDiff, Nat.reduceAdd, Nat.reduceEqDiff, hgn_eq, hgn_lt, hgn_le, if_true, if_false, reduceIte, Nat.not_lt_zero, hw, q0]
      · have q1 : ¬ x ≤ nI bl := by
          rw [hglt_i, hgn_0] at q0
          rw [hgle_i, e]
          omega
        simp (maxDischargeDepth := 7) only [hgc84, hgM_t, hgM_f, hgM_n, hgx_iload_n_1, hgx_if_lt, hgx_aload_n_0, hgx_get0, hgx_ic_le, hgx_throw, hgs_get_7_6, hgx_invvirtual_2, hgx_aft_e, hgx_aft_i, hgx_aft_l, hgx_aft_v, hgx_istore_n_2i, hgx_istore_n_2r, hgx_istore_n_2f, hgx_istore_n_2n, hgx_istore_n_2l, hgx_iconst_0, hgx_put0, hgx_iload_n_2, hgx_if_eq, hgx_ret1, hgs_get_7_5, hgs_get_7_3, hgs_get_7_4, hgv84_0, hgr84_0, hgu84_0, hgv84_12, hgr84_12, hgu84_12, hgv84_22, hgr84_22, hgu84_22, hgv84_53, hgr84_53, hgu84_53, hgI_SI, hgI_SJ, hgJ_SI, hgJ_SJ, if_true, if_false, reduceIte, Nat.reduceEqDiff, hgWf_SI, hgWf_SJ, hgO_SI, hgO_SJ, hgAr_SI, hgAr_SJ, hgRp_SI, hgRp_SJ, hgN_SI, hgN_SJ, hgO_g, hgO_d, hgO_rl, hgO_r, hgO_0, hgO_1, hgO_64, hgO_298, hgO_300, hgCd_0, hgCd_1, hgCd_2, hgCd_3, hgCd_4, hgCd_5, hgRecv_O, hgRecv_99, List.length_cons, List.length_nil, Nat.zero_add, Nat.add_zero, Nat.le_refl, Nat.zero_le, and_self, or_true, true_or, true_and, and_true, ne_eq, not_false_eq_true, Nat.reduceLT, Nat.reduceLeDiff, Nat.reduceAdd, Nat.reduceEqDiff, hgn_eq, hgn_lt, hgn_le, if_true, if_false, reduceIte, Nat.not_lt_zero, hw, q0, b2, q1]
    have bt : hgBtw x (nI 0) (nI bl) = false := by
      rw [hgBtw_i, hgn_0, e, decide_eq_false_iff_not]
      omega
    have k9 := hgk_124b (X := X) (M := hgSI M 300 0 (nI 0)) (y := nI 1) hw hgI_at hgn10
    refine hgBi_no hb hgn10 (hgL_205_0 hw kc) ⟨nI 0, ?_⟩ hC hR hH (by omega)
    simp (maxDischargeDepth := 7) only [hgc154, hgM_t, hgM_f, hgM_n, hgx_aload_n_0, hgx_iconst_0, hgx_put0, hgx_iload_n_1, hgx_get0, hgx_invstatic_3, hgx_aft_e, hgx_aft_i, hgx_aft_l, hgx_aft_v, hgx_if_ne, hgx_iconst_1, hgx_goto, hgx_invvirtual_3, hgx_if_eq, hgx_ret1, hgx_iconst_m1, hgx_istore_n_2i, hgx_istore_n_2r, hgx_istore_n_2f, hgx_istore_n_2n, hgx_istore_n_2l, hgx_iload_n_2, hgx_sipush_187, hgx_ic_ge, hgs_get_8_9, hgx_iinc_2_1, hgx_bipush_6, hgx_sipush_200, hgx_ldc_s, hgx_invvirtual_2, hgx_bipush_m2, hgx_iconst_4, hgx_sipush_999, hgx_iconst_5, hgx_bipush_100, hgx_bipush_59, hgx_invvirtual_1, hgx_ic_eq, hgs_get_8_8, hgx_invstatic_2, hgx_bipush_10, hgs_get_8_12, hgx_lconst_0, hgv154_0, hgr154_0, hgu154_0, hgv154_22, hgr154_22, hgu154_22, hgv154_23, hgr154_23, hgu154_23, hgv154_32, hgr154_32, hgu154_32, hgv154_64, ← hgu154_64, hgv154_84, hgr154_84, hgu154_84, hgv154_113, hgr154_113, hgu154_113, hgv154_146, ← hgu154_146, hgv154_168, hgr154_168, hgu154_168, hgv154_188, hgr154_188, hgu154_188, hgv154_205, ← hgu154_205, hgv154_224, hgr154_224, hgu154_224, hgI_SI, hgI_SJ, hgJ_SI, hgJ_SJ, if_true, if_false, reduceIte, Nat.reduceEqDiff, hgWf_SI, hgWf_SJ, hgO_SI, hgO_SJ, hgAr_SI, hgAr_SJ, hgRp_SI, hgRp_SJ, hgN_SI, hgN_SJ, hgO_g, hgO_d, hgO_rl, hgO_r, hgO_0, hgO_1, hgO_64, hgO_298, hgO_300, hgCd_0, hgCd_1, hgCd_2, hgCd_3, hgCd_4, hgCd_5, hgRecv_O, hgRecv_99, List.length_cons, List.length_nil, Nat.zero_add, Nat.add_zero, Nat.le_refl, Nat.zero_le, and_self, or_true, true_or, true_and, and_true, ne_eq, not_false_eq_true, Nat.reduceLT, Nat.reduceLeDiff, Nat.reduceAdd, Nat.reduceEqDiff, hgn_eq, hgn_lt, hgn_le, if_true, if_false, reduceIte, Nat.not_lt_zero, hw, b3, hgk_125, bt, hgB_f, k9]
end HGRLD

/-! REMEMBERING, UNDOING, both sides. -/
def hgFC (M M' : hgMem) : Prop := hgFm (fun b => b < 300 ∨ b = 325) M M' ∧ (∀ k, k = 1 ∨ k = 2 → hgI M' 0 k = hgI M 0 k) ∧ ∀ k, hgI M' 5 k = hgI M 5 k
def hgFR (M M' : hgMem) : Prop := hgFm (fun b => 300 ≤ b ∧ b < 325) M M' ∧ (∀ k, k = 2 ∨ k = 7 → hgI M' 300 k = hgI M 300 k) ∧ ∀ k, hgI M' 301 k = hgI M 301 k
section HGMEM
variable {X : hgX} {M M' M1 M2 : hgMem} {d t g h i j q c k a b n p : Nat} {V V' W : hgV} {Hs : List hgV} {x y : Int32} {u : Int64} {P : Nat → Prop} {v1 : Option Value} {sl : Nat → hgV}
theorem hgFC_r : hgFC M M := ⟨hgFm_r, fun _ _ => rfl, fun _ => rfl⟩
theorem hgFC_t (h1 : hgFC M M1) (h2 : hgFC M1 M2) : hgFC M M2 := ⟨hgFm_t h1.1 h2.1, fun k hk => (h2.2.1 k hk).trans (h1.2.1 k hk), fun k => (h2.2.2 k).trans (h1.2.2 k)⟩
theorem hgFC_m (h : hgFm P M M1) (hp : ∀ b, P b → b < 300 ∧ b ≠ 0 ∧ b ≠ 5) : hgFC M M1 := ⟨hgFm_m h (fun b hb => Or.inl (hp b hb).1), fun k _ => (h.2 0 (fun z => (hp 0 z).2.1 rfl) k).1, fun k => (h.2 5 (fun z => (hp 5 z).2.2 rfl) k).1⟩
theorem hgFR_r : hgFR M M := ⟨hgFm_r, fun _ _ => rfl, fun _ => rfl⟩
theorem hgFR_t (h1 : hgFR M M1) (h2 : hgFR M1 M2) : hgFR M M2 := ⟨hgFm_t h1.1 h2.1, fun k hk => (h2.2.1 k hk).trans (h1.2.1 k hk), fun k => (h2.2.2 k).trans (h1.2.2 k)⟩
theorem hgFR_m (h : hgFm P M M1) (hp : ∀ b, P b → 302 ≤ b ∧ b < 325) : hgFR M M1 := ⟨hgFm_m h (fun b hb => by have := hp b hb; omega), fun k _ => (h.2 300 (fun z => by have := hp _ z; omega) k).1, fun k => (h.2 301 (fun z => by have := hp _ z; omega) k).1⟩
theorem hgFR_300 (hk : k ≠ 2 ∧ k ≠ 7) (h : hgFR M M1) : hgFR M (hgSI M1 300 k x) := ⟨hgFm_SI h.1 (by omega), fun j hj => by rw [hgI_nk (by omega)]; exact h.2.1 j hj, fun j => by rw [hgI_na (by omega)]; exact h.2.2 j⟩
theorem hgAr_m (hw : hgWf M) (hj : j < 8) : hgAr M (306 + j) 20 20187 := hgArf hw (by omega) (by unfold hgSh; rw [if_neg (by omega), if_neg (by omega), if_neg (by omega), if_neg (by omega), if_neg (by omega), if_neg (by omega), if_neg (by omega), if_neg (by omega), if_neg (by omega), if_neg (by omega), if_neg (by omega), if_neg (by omega), if_neg (by omega), if_neg (by omega), if_pos (by omega)])
theorem hgAr_t (hw : hgWf M) (hj : j < 8) : hgAr M (317 + j) 21 10 := hgArf hw (by omega) (by unfold hgSh; rw [if_neg (by omega), if_neg (by omega), if_neg (by omega), if_neg (by omega), if_neg (by omega), if_neg (by omega), if_neg (by omega), if_neg (by omega), if_neg (by omega), if_neg (by omega), if_neg (by omega), if_neg (by omega), if_neg (by omega), if_neg (by omega), if_neg (by omega), if_neg (by omega), if_neg (by omega), if_pos (by omega)])
theorem hgAr_303 (hw : hgWf M) : hgAr M 303 20 20187 := hgArf hw (by omega) (id rfl)
theorem hgAr_304 (hw : hgWf M) : hgAr M 304 20 20187 := hgArf hw (by omega) (id rfl)
theorem hgAr_314 (hw : hgWf M) : hgAr M 314 21 10 := hgArf hw (by omega) (id rfl)
theorem hgAr_315 (hw : hgWf M) : hgAr M 315 21 10 := hgArf hw (by omega) (id rfl)
theorem hgRV_fn (f : hgFn P M M') (hd : ¬ P d) (ht : ¬ P t) (h : hgRV M d t V) : hgRV M' d t V := hgRV_to f.1 (fun k => (f.2.2 d hd k).1) (fun k => (f.2.2 t ht k).2) h
theorem hgk_190l (hsl : ∀ j, j < 8 → hgSm (sl j)) : ∀ (k i : Nat) (M : hgMem), i + 1 + k = 8 → hgWf M → (∀ j, i + 1 ≤ j → j < 8 → hgRV M (306 + j) (317 + j) (sl j)) → ∃ M', hgW X 190 11 [some (.ref 300), some (.int (nI (i + 1)))] [] (0, 0) M = hgW X 190 57 [some (.ref 300), none] [] (0, 0) M' ∧ (∀ j, i ≤ j → j < 7 → hgRV M' (306 + j) (317 + j) (sl (j + 1))) ∧ hgFn (fun b => (306 + i ≤ b ∧ b < 313) ∨ (317 + i ≤ b ∧ b < 324)) M M' := by
  intro k
  induction k with
  | zero =>
    intro i M hi hw hS
    have h1 : i + 1 < 2147483648 := by omega
    have h3 : 8 ≤ i + 1 := by omega
    refine ⟨M, ?_, fun j j1 j2 => by omega, hgFn_r⟩
    rw [hgu190_11]
    simp (maxDischargeDepth := 7) only [hgx_iload_n_1, hgx_bipush_8, hgx_ic_ge, hgr190_11, hgv190_57, hgM_t, hgM_f, hgM_n, hgI_SI, hgI_SJ, hgJ_SI, hgJ_SJ, if_true, if_false, reduceIte, Nat.reduceEqDiff, hgWf_SI, hgWf_SJ, hgO_SI, hgO_SJ, hgAr_SI, hgAr_SJ, hgRp_SI, hgRp_SJ, hgN_SI, hgN_SJ, hgO_g, hgO_d, hgO_rl, hgO_r, hgO_0, hgO_1, hgO_64, hgO_298, hgO_300, hgCd_0, hgCd_1, hgCd_2, hgCd_3, hgCd_4, hgCd_5, hgRecv_O, hgRecv_99, List.length_cons, List.length_nil, Nat.zero_add, Nat.add_zero, Nat.le_refl, Nat.zero_le, and_self, or_true, true_or, true_and, and_true, ne_eq, not_false_eq_true, Nat.reduceLT, Nat.reduceLeDiff, Nat.reduceAdd, Nat.reduceEqDiff, hgn_eq, hgn_lt, hgn_le, if_true, if_false, reduceIte, Nat.not_lt_zero, hw, h1, h3]
  | succ k ih =>
    intro i M hi hw hS
    have h1 : i + 1 < 2147483648 := by omega
    have h3 : ¬ 8 ≤ i + 1 := by omega
    have h4 : i + 1 < 8 := by omega
    have h5 : i < 8 := by omega
    obtain ⟨M1, M2, e1, e2, f1, f2, v2⟩ := hgRV_cp (X := X) (hsl (i + 1) h4) (hgAr_m hw h5) (by omega) (hgAr_t hw h5) (show 306 + (i + 1) ≠ 306 + i by omega) (show 317 + (i + 1) ≠ 317 + i by omega) (hS (i + 1) (by omega) h4)
    have w1 := hgFn_w f1 hw
    have w2 := hgFn_w f2 hw
    obtain ⟨M', e, r1, r2⟩ := ih (i + 1) M2 (by omega) w2 (fun j j1 j2 => hgRV_fn f2 (by omega) (by omega) (hS j (by omega) j2))
    refine ⟨M', ?_, fun j j1 j2 => ?_, hgFn_t (hgFn_m f2 (fun b hb => by omega)) (hgFn_m r2 (fun b hb => by omega))⟩
    · refine Eq.trans ?_ e
      rw [hgu190_11]
      simp (maxDischargeDepth := 7) only [hgM_t, hgM_f, hgM_n, hgx_aload_n_0, hgx_get0, hgx_bipush_8, hgx_ic_ne, hgx_iconst_1, hgx_istore_n_1i, hgx_istore_n_1r, hgx_istore_n_1f, hgx_istore_n_1n, hgx_istore_n_1l, hgx_iload_n_1, hgx_ic_ge, hgs_get_8_11, hgx_isub, hgx_invstatic_2, hgx_aft_e, hgx_aft_i, hgx_aft_l, hgx_aft_v, hgs_get_8_14, hgx_iinc_1_1, hgx_goto, hgx_dup_i, hgx_dup_f, hgx_dup_r, hgx_put0, hgs_get_8_8, hgs_get_8_12, hgx_iadd, hgx_vret, hgv190_0, hgr190_0, hgu190_0, hgv190_11, hgr190_11, hgv190_57, hgr190_57, hgu190_57, hgv190_67, hgr190_67, hgu190_67, hgI_SI, hgI_SJ, hgJ_SI, hgJ_SJ, if_true, if_false, reduceIte, Nat.reduceEqDiff, hgWf_SI, hgWf_SJ, hgO_SI, hgO_SJ, hgAr_SI, hgAr_SJ, hgRp_SI, hgRp_SJ, hgN_SI, hgN_SJ, hgO_g, hgO_d, hgO_rl, hgO_r, hgO_0, hgO_1, hgO_64, hgO_298, hgO_300, hgCd_0, hgCd_1, hgCd_2, hgCd_3, hgCd_4, hgCd_5, hgRecv_O, hgRecv_99, List.length_cons, List.length_nil, Nat.zero_add, Nat.add_zero, Nat.le_refl, Nat.zero_le, and_self, or_true, true_or, true_and, and_true, ne_eq, not_false_eq_true, Nat.reduceLT, Nat.reduceLeDiff, Nat.reduceAdd, Nat.reduceEqDiff, hgn_eq, hgn_lt, hgn_le, if_true, if_false, reduceIte, Nat.not_lt_zero, hgs_aa_d, hgs_aa_r, hgs_aa_h, hgs_aa_m, hgs_aa_t, hgs_ld_wp, hgs_st_wp, hgs_ld_qf, hgs_st_qf, hgs_ld_qt, hgs_st_qt, hgs_ld_2, hgs_st_2, hgs_ld_3, hgs_st_3, hgs_ld_4, hgs_st_4, hgs_ld_301, hgs_st_301, hgs_ld_D, hgs_st_D, hgs_ld_s, hgs_ld_T, hgs_st_T, hgs_ld_o, hgs_st_o, hgs_ld_b, hgs_st_b, hgs_ld_z, hgs_st_z, hgs_al_b, hgx_alen_s, hgn_add, hgn_mul, hw, h1, h3, h4, h5, hgn_sub, Nat.le_add_left, Nat.add_sub_cancel, e1, w1, e2]
    · by_cases hji : j = i
      · rw [hji]
        exact hgRV_fn r2 (by omega) (by omega) v2
      · exact r1 j (by omega) j2
theorem hgk_190c (hw : hgWf M) (hm : hgSm V) (hv : hgRV M 302 314 V) (hn : hgI M 300 15 = nI n) (hn8 : n < 8) : ∃ M', hgW X 190 67 [some (.ref 300), v1] [] (0, 0) M = some (.inl .null, M') ∧ hgRV M' (306 + n) (317 + n) V ∧ hgI M' 300 15 = nI (n + 1) ∧ hgFn (fun b => b = 306 + n ∨ b = 317 + n ∨ b = 300) M M' ∧ ∀ k, k ≠ 15 → hgI M' 300 k = hgI M 300 k := by
  obtain ⟨M1, M2, e1, e2, f1, f2, v2⟩ := hgRV_cp (X := X) hm (hgAr_m hw hn8) (by omega) (hgAr_t hw hn8) (show 302 ≠ 306 + n by omega) (show 314 ≠ 317 + n by omega) hv
  have w1 := hgFn_w f1 hw
  have w2 := hgFn_w f2 hw
  have s1 : hgI M1 300 15 = nI n := by rw [(f1.2.2 300 (by omega) 15).1]; exact hn
  have s2 : hgI M2 300 15 = nI n := by rw [(f2.2.2 300 (by omega) 15).1]; exact hn
  refine ⟨hgSI M2 300 15 (nI (n + 1)), ?_, hgRV_to (M := M2) rfl (fun k => hgI_na (by omega)) (fun k => rfl) v2, hgI_at, hgFn_SI (hgFn_m f2 (fun b hb => by omega)) (Or.inr (Or.inr rfl)), fun k hk => by rw [hgI_nk hk, (f2.2.2 300 (by omega) k).1]⟩
  rw [hgu190_67]
  simp (maxDischargeDepth := 7) only [hgM_t, hgM_f, hgM_n, hgx_aload_n_0, hgx_get0, hgx_bipush_8, hgx_ic_ne, hgx_iconst_1, hgx_istore_n_1i, hgx_istore_n_1r, hgx_istore_n_1f, hgx_istore_n_1n, hgx_istore_n_1l, hgx_iload_n_1, hgx_ic_ge, hgs_get_8_11, hgx_isub, hgx_invstatic_2, hgx_aft_e, hgx_aft_i, hgx_aft_l, hgx_aft_v, hgs_get_8_14, hgx_iinc_1_1, hgx_goto, hgx_dup_i, hgx_dup_f, hgx_dup_r, hgx_put0, hgs_get_8_8, hgs_get_8_12, hgx_iadd, hgx_vret, hgv190_0, hgr190_0, hgu190_0, hgv190_11, ← hgu190_11, hgv190_57, hgr190_57, hgu190_57, hgv190_67, hgr190_67, hgu190_67, hgI_SI, hgI_SJ, hgJ_SI, hgJ_SJ, if_true, if_false, reduceIte, Nat.reduceEqDiff, hgWf_SI, hgWf_SJ, hgO_SI, hgO_SJ, hgAr_SI, hgAr_SJ, hgRp_SI, hgRp_SJ, hgN_SI, hgN_SJ, hgO_g, hgO_d, hgO_rl, hgO_r, hgO_0, hgO_1, hgO_64, hgO_298, hgO_300, hgCd_0, hgCd_1, hgCd_2, hgCd_3, hgCd_4, hgCd_5, hgRecv_O, hgRecv_99, List.length_cons, List.length_nil, Nat.zero_add, Nat.add_zero, Nat.le_refl, Nat.zero_le, and_self, or_true, true_or, true_and, and_true, ne_eq, not_false_eq_true, Nat.reduceLT, Nat.reduceLeDiff, Nat.reduceAdd, Nat.reduceEqDiff, hgn_eq, hgn_lt, hgn_le, if_true, if_false, reduceIte, Nat.not_lt_zero, hgs_aa_d, hgs_aa_r, hgs_aa_h, hgs_aa_m, hgs_aa_t, hgs_ld_wp, hgs_st_wp, hgs_ld_qf, hgs_st_qf, hgs_ld_qt, hgs_st_qt, hgs_ld_2, hgs_st_2, hgs_ld_3, hgs_st_3, hgs_ld_4, hgs_st_4, hgs_ld_301, hgs_st_301, hgs_ld_D, hgs_st_D, hgs_ld_s, hgs_ld_T, hgs_st_T, hgs_ld_o, hgs_st_o, hgs_ld_b, hgs_st_b, hgs_ld_z, hgs_st_z, hgs_al_b, hgx_alen_s, hgn_add, hgn_mul, hw, hn, hn8, e1, w1, s1, e2, w2, s2]
/-- the reference remembers -/
theorem hgk_190 (h : hgSM M V Hs c) : ∃ M', hgWC X 190 [.ref 300] M = some (.inl .null, M') ∧ hgSM M' V ((V :: Hs).take 8) c ∧ hgFR M M' ∧ hgWf M' ∧ ∀ k, k ≠ 15 → hgI M' 300 k = hgI M 300 k := by
  obtain ⟨a1, a2, a3, a4, a5, a6, a7⟩ := h
  have hm := hgSm_ok a4
  have mem : ∀ W ∈ (V :: Hs).take 8, hgVok W c := fun W hW => by
    have := List.mem_of_mem_take hW
    rcases List.mem_cons.mp this with e | e
    · rw [e]; exact a4
    · exact a5 W e
  by_cases hl : Hs.length = 8
  · rw [hl] at a6 a7
    obtain ⟨M1, e1, r1, f1⟩ := hgk_190l (X := X) (sl := fun j => Hs.getD (7 - j) hgV0) (fun j hj => hgSm_ok (a5 _ (hgGd_mem (by omega)))) 7 0 M (by omega) a1 (fun j j1 j2 => a7 j j2)
    have w1 := hgFn_w f1 a1
    have s1 : hgI M1 300 15 = nI 8 := by rw [(f1.2.2 300 (by omega) 15).1]; exact a6
    have v1 := hgRV_fn f1 (by omega) (by omega) a2
    obtain ⟨M2, e2, r2, s2, f2, o2⟩ := hgk_190c (X := X) (v1 := none) (M := hgSI M1 300 15 (nI 7)) w1 hm (hgRV_to (M := M1) rfl (fun k => hgI_na (by omega)) (fun k => rfl) v1) hgI_at (by omega)
    have f3 : hgFn (fun b => b = 300) M1 (hgSI M1 300 15 (nI 7)) := hgFn_SI hgFn_r rfl
    have lt : ((V :: Hs).take 8).length = 8 := by rw [List.length_take, List.length_cons]; omega
    refine ⟨M2, ?_, ⟨hgFn_w f2 w1, hgRV_fn f2 (by omega) (by omega) (hgRV_fn f3 (by omega) (by omega) v1), by omega, a4, mem, by rw [lt]; exact s2, fun j hj => ?_⟩, ⟨?_, fun k hk => ?_, fun k => ?_⟩, hgFn_w f2 w1, fun k hk => ?_⟩
    · have b7 : nI 8 - nI 1 = nI 7 := hgn_sub (by omega)
      simp (maxDischargeDepth := 7) only [hgc190, hgM_t, hgM_f, hgM_n, hgx_aload_n_0, hgx_get0, hgx_bipush_8, hgx_ic_ne, hgx_iconst_1, hgx_istore_n_1i, hgx_istore_n_1r, hgx_istore_n_1f, hgx_istore_n_1n, hgx_istore_n_1l, hgx_iload_n_1, hgx_ic_ge, hgs_get_8_11, hgx_isub, hgx_invstatic_2, hgx_aft_e, hgx_aft_i, hgx_aft_l, hgx_aft_v, hgs_get_8_14, hgx_iinc_1_1, hgx_goto, hgx_dup_i, hgx_dup_f, hgx_dup_r, hgx_put0, hgs_get_8_8, hgs_get_8_12, hgx_iadd, hgx_vret, hgv190_0, hgr190_0, hgu190_0, hgv190_11, ← hgu190_11, hgv190_57, hgr190_57, hgu190_57, hgv190_67, hgr190_67, hgu190_67, hgI_SI, hgI_SJ, hgJ_SI, hgJ_SJ, if_true, if_false, reduceIte, Nat.reduceEqDiff, hgWf_SI, hgWf_SJ, hgO_SI, hgO_SJ, hgAr_SI, hgAr_SJ, hgRp_SI, hgRp_SJ, hgN_SI, hgN_SJ, hgO_g, hgO_d, hgO_rl, hgO_r, hgO_0, hgO_1, hgO_64, hgO_298, hgO_300, hgCd_0, hgCd_1, hgCd_2, hgCd_3, hgCd_4, hgCd_5, hgRecv_O, hgRecv_99, List.length_cons, List.length_nil, Nat.zero_add, Nat.add_zero, Nat.le_refl, Nat.zero_le, and_self, or_true, true_or, true_and, and_true, ne_eq, not_false_eq_true, Nat.reduceLT, Nat.reduceLeDiff, Nat.reduceAdd, Nat.reduceEqDiff, hgn_eq, hgn_lt, hgn_le, if_true, if_false, reduceIte, Nat.not_lt_zero, hgs_aa_d, hgs_aa_r, hgs_aa_h, hgs_aa_m, hgs_aa_t, hgs_ld_wp, hgs_st_wp, hgs_ld_qf, hgs_st_qf, hgs_ld_qt, hgs_st_qt, hgs_ld_2, hgs_st_2, hgs_ld_3, hgs_st_3, hgs_ld_4, hgs_st_4, hgs_ld_301, hgs_st_301, hgs_ld_D, hgs_st_D, hgs_ld_s, hgs_ld_T, hgs_st_T, hgs_ld_o, hgs_st_o, hgs_ld_b, hgs_st_b, hgs_ld_z, hgs_st_z, hgs_al_b, hgx_alen_s, hgn_add, hgn_mul, a1, a6]
      rw [show nI 1 = nI (0 + 1) from rfl, e1, hgu190_57]
      rw [hgu190_67] at e2
      simp (maxDischargeDepth := 7) only [hgr190_57, hgx_aload_n_0, hgx_dup_r, hgx_get0, hgx_iconst_1, hgx_isub, hgx_put0, hgI_SI, hgI_SJ, hgJ_SI, hgJ_SJ, if_true, if_false, reduceIte, Nat.reduceEqDiff, hgWf_SI, hgWf_SJ, hgO_SI, hgO_SJ, hgAr_SI, hgAr_SJ, hgRp_SI, hgRp_SJ, hgN_SI, hgN_SJ, hgO_g, hgO_d, hgO_rl, hgO_r, hgO_0, hgO_1, hgO_64, hgO_298, hgO_300, hgCd_0, hgCd_1, hgCd_2, hgCd_3, hgCd_4, hgCd_5, hgRecv_O, hgRecv_99, List.length_cons, List.length_nil, Nat.zero_add, Nat.add_zero, Nat.le_refl, Nat.zero_le, and_self, or_true, true_or, true_and, and_true, ne_eq, not_false_eq_true, Nat.reduceLT, Nat.reduceLeDiff, Nat.reduceAdd, Nat.reduceEqDiff, hgn_eq, hgn_lt, hgn_le, if_true, if_false, reduceIte, Nat.not_lt_zero, w1, s1, b7]
      exact e2
    · rw [lt] at hj ⊢
      rw [hgGd_take (by omega)]
      by_cases h7 : j = 7
      · rw [h7]
        exact r2
      · have e : 8 - 1 - j = (6 - j) + 1 := by omega
        rw [e, List.getD_cons_succ]
        have r := r1 j (by omega) (by omega)
        rw [show 7 - (j + 1) = 6 - j by omega] at r
        exact hgRV_fn f2 (by omega) (by omega) (hgRV_fn f3 (by omega) (by omega) r)
    · exact hgFm_t (hgFm_t (hgFm_m (hgFn_f f1) (fun b hb => by omega)) (hgFm_m (hgFn_f f3) (fun b hb => by omega))) (hgFm_m (hgFn_f f2) (fun b hb => by omega))
    · rw [o2 k (by omega), hgI_nk (by omega), (f1.2.2 300 (by omega) k).1]
    · rw [(f2.2.2 301 (by omega) k).1, hgI_na (by omega), (f1.2.2 301 (by omega) k).1]
    · rw [o2 k hk, hgI_nk hk, (f1.2.2 300 (by omega) k).1]
  · have hn8 : Hs.length < 8 := by omega
    obtain ⟨M2, e2, r2, s2, f2, o2⟩ := hgk_190c (X := X) (v1 := none) a1 hm a2 a6 hn8
    have lt : ((V :: Hs).take 8).length = Hs.length + 1 := by rw [List.length_take, List.length_cons]; omega
    have b1 : Hs.length < 2147483648 := by omega
    refine ⟨M2, ?_, ⟨hgFn_w f2 a1, hgRV_fn f2 (by omega) (by omega) a2, by omega, a4, mem, by rw [lt]; exact s2, fun j hj => ?_⟩, ⟨hgFm_m (hgFn_f f2) (fun b hb => by omega), fun k hk => o2 k (by omega), fun k => (f2.2.2 301 (by omega) k).1⟩, hgFn_w f2 a1, o2⟩
    · rw [hgu190_67] at e2
      simp (maxDischargeDepth := 7) only [hgc190, hgu190_0, hgr190_0, hgx_aload_n_0, hgx_get0, hgx_bipush_8, hgx_ic_ne, hgv190_67, hgu190_67, hgM_t, hgM_f, hgM_n, hgI_SI, hgI_SJ, hgJ_SI, hgJ_SJ, if_true, if_false, reduceIte, Nat.reduceEqDiff, hgWf_SI, hgWf_SJ, hgO_SI, hgO_SJ, hgAr_SI, hgAr_SJ, hgRp_SI, hgRp_SJ, hgN_SI, hgN_SJ, hgO_g, hgO_d, hgO_rl, hgO_r, hgO_0, hgO_1, hgO_64, hgO_298, hgO_300, hgCd_0, hgCd_1, hgCd_2, hgCd_3, hgCd_4, hgCd_5, hgRecv_O, hgRecv_99, List.length_cons, List.length_nil, Nat.zero_add, Nat.add_zero, Nat.le_refl, Nat.zero_le, and_self, or_true, true_or, true_and, and_true, ne_eq, not_false_eq_true, Nat.reduceLT, Nat.reduceLeDiff, Nat.reduceAdd, Nat.reduceEqDiff, hgn_eq, hgn_lt, hgn_le, if_true, if_false, reduceIte, Nat.not_lt_zero, hgs_aa_d, hgs_aa_r, hgs_aa_h, hgs_aa_m, hgs_aa_t, hgs_ld_wp, hgs_st_wp, hgs_ld_qf, hgs_st_qf, hgs_ld_qt, hgs_st_qt, hgs_ld_2, hgs_st_2, hgs_ld_3, hgs_st_3, hgs_ld_4, hgs_st_4, hgs_ld_301, hgs_st_301, hgs_ld_D, hgs_st_D, hgs_ld_s, hgs_ld_T, hgs_st_T, hgs_ld_o, hgs_st_o, hgs_ld_b, hgs_st_b, hgs_ld_z, hgs_st_z, hgs_al_b, hgx_alen_s, hgn_add, hgn_mul, a1, a6, b1, hl]
      exact e2
    · rw [lt] at hj ⊢
      rw [hgGd_take (by omega)]
      by_cases h7 : j = Hs.length
      · rw [h7, show Hs.length + 1 - 1 - Hs.length = 0 by omega]
        exact r2
      · have e : Hs.length + 1 - 1 - j = (Hs.length - 1 - j) + 1 := by omega
        rw [e, List.getD_cons_succ]
        exact hgRV_fn f2 (by omega) (by omega) (a7 j (by omega))
theorem hgk_203 (h : hgSM M V (W :: Hs) c) : ∃ M', hgWC X 203 [.ref 300] M = some (.inl (.int (nI Hs.length)), M') ∧ hgSM M' W Hs c ∧ hgFR M M' ∧ hgI M' 300 0 = nI 0 := by
  obtain ⟨a1, a2, a3, a4, a5, a6, a7⟩ := h
  rw [List.length_cons] at a3 a6 a7
  have hW := a5 W List.mem_cons_self
  have hv := a7 Hs.length (by omega)
  rw [show Hs.length + 1 - 1 - Hs.length = 0 by omega, List.getD_cons_zero] at hv
  have b1 : Hs.length + 1 < 2147483648 := by omega
  have b2 : ¬ Hs.length + 1 = 0 := by omega
  have b3 : Hs.length < 8 := by omega
  have f0 : hgFn (fun b => b = 300) M (hgSI (hgSI M 300 0 (nI 0)) 300 15 (nI Hs.length)) := hgFn_SI (hgFn_SI hgFn_r rfl) rfl
  obtain ⟨M1, M2, e1, e2, f1, f2, v2⟩ := hgRV_cp (X := X) (M := hgSI (hgSI M 300 0 (nI 0)) 300 15 (nI Hs.length)) (hgSm_ok hW) (hgAr_302 a1) (by omega) (hgAr_314 a1) (show 306 + Hs.length ≠ 302 by omega) (show 317 + Hs.length ≠ 314 by omega) (hgRV_fn f0 (by omega) (by omega) hv)
  have w1 : hgWf M1 := hgFn_w f1 a1
  have w2 : hgWf M2 := hgFn_w f2 a1
  have s1 : hgI M1 300 15 = nI Hs.length := by rw [(f1.2.2 300 (by omega) 15).1, hgI_at]
  have s2 : hgI M2 300 15 = nI Hs.length := by rw [(f2.2.2 300 (by omega) 15).1, hgI_at]
  refine ⟨M2, ?_, ⟨w2, v2, by omega, hW, fun U hU => a5 U (List.mem_cons_of_mem _ hU), s2, fun j hj => ?_⟩, ⟨hgFm_t (hgFm_m (hgFn_f f0) (fun b hb => by omega)) (hgFm_m (hgFn_f f2) (fun b hb => by omega)), fun k hk => ?_, fun k => ?_⟩, ?_⟩
  · simp (maxDischargeDepth := 7) only [hgc203, hgM_t, hgM_f, hgM_n, hgx_aload_n_0, hgx_iconst_0, hgx_put0, hgx_get0, hgx_if_ne, hgx_iconst_m1, hgx_ret1, hgx_dup_i, hgx_dup_f, hgx_dup_r, hgx_iconst_1, hgx_isub, hgs_get_8_11, hgs_get_8_8, hgx_invstatic_2, hgx_aft_e, hgx_aft_i, hgx_aft_l, hgx_aft_v, hgs_get_8_14, hgs_get_8_12, hgv203_0, hgr203_0, hgu203_0, hgv203_14, hgr203_14, hgu203_14, hgI_SI, hgI_SJ, hgJ_SI, hgJ_SJ, if_true, if_false, reduceIte, Nat.reduceEqDiff, hgWf_SI, hgWf_SJ, hgO_SI, hgO_SJ, hgAr_SI, hgAr_SJ, hgRp_SI, hgRp_SJ, hgN_SI, hgN_SJ, hgO_g, hgO_d, hgO_rl, hgO_r, hgO_0, hgO_1, hgO_64, hgO_298, hgO_300, hgCd_0, hgCd_1, hgCd_2, hgCd_3, hgCd_4, hgCd_5, hgRecv_O, hgRecv_99, List.length_cons, List.length_nil, Nat.zero_add, Nat.add_zero, Nat.le_refl, Nat.zero_le, and_self, or_true, true_or, true_and, and_true, ne_eq, not_false_eq_true, Nat.reduceLT, Nat.reduceLeDiff, Nat.reduceAdd, Nat.reduceEqDiff, hgn_eq, hgn_lt, hgn_le, if_true, if_false, reduceIte, Nat.not_lt_zero, hgs_aa_d, hgs_aa_r, hgs_aa_h, hgs_aa_m, hgs_aa_t, hgs_ld_wp, hgs_st_wp, hgs_ld_qf, hgs_st_qf, hgs_ld_qt, hgs_st_qt, hgs_ld_2, hgs_st_2, hgs_ld_3, hgs_st_3, hgs_ld_4, hgs_st_4, hgs_ld_301, hgs_st_301, hgs_ld_D, hgs_st_D, hgs_ld_s, hgs_ld_T, hgs_st_T, hgs_ld_o, hgs_st_o, hgs_ld_b, hgs_st_b, hgs_ld_z, hgs_st_z, hgs_al_b, hgx_alen_s, hgn_add, hgn_mul, a1, a6, b1, b2, b3, hgn_sub, Nat.le_add_left, Nat.add_sub_cancel, e1, w1, s1, e2, w2, s2]
  · have r := a7 j (by omega)
    rw [show Hs.length + 1 - 1 - j = (Hs.length - 1 - j) + 1 by omega, List.getD_cons_succ] at r
    exact hgRV_fn f2 (by omega) (by omega) (hgRV_fn f0 (by omega) (by omega) r)
  · rw [(f2.2.2 300 (by omega) k).1, hgI_nk (by omega), hgI_nk (by omega)]
  · rw [(f2.2.2 301 (by omega) k).1, hgI_na (by omega), hgI_na (by omega)]
  · rw [(f2.2.2 300 (by omega) 0).1, hgI_nk (by omega), hgI_at]
theorem hgk_203n (h : hgSM M V [] c) : hgWC X 203 [.ref 300] M = some (.inl (.int (-1)), hgSI M 300 0 (nI 0)) := by
  have a1 := h.1
  have a6 : hgI M 300 15 = nI 0 := h.2.2.2.2.2.1
  simp (maxDischargeDepth := 7) only [hgc203, hgM_t, hgM_f, hgM_n, hgx_aload_n_0, hgx_iconst_0, hgx_put0, hgx_get0, hgx_if_ne, hgx_iconst_m1, hgx_ret1, hgx_dup_i, hgx_dup_f, hgx_dup_r, hgx_iconst_1, hgx_isub, hgs_get_8_11, hgs_get_8_8, hgx_invstatic_2, hgx_aft_e, hgx_aft_i, hgx_aft_l, hgx_aft_v, hgs_get_8_14, hgs_get_8_12, hgv203_0, hgr203_0, hgu203_0, hgv203_14, hgr203_14, hgu203_14, hgI_SI, hgI_SJ, hgJ_SI, hgJ_SJ, if_true, if_false, reduceIte, Nat.reduceEqDiff, hgWf_SI, hgWf_SJ, hgO_SI, hgO_SJ, hgAr_SI, hgAr_SJ, hgRp_SI, hgRp_SJ, hgN_SI, hgN_SJ, hgO_g, hgO_d, hgO_rl, hgO_r, hgO_0, hgO_1, hgO_64, hgO_298, hgO_300, hgCd_0, hgCd_1, hgCd_2, hgCd_3, hgCd_4, hgCd_5, hgRecv_O, hgRecv_99, List.length_cons, List.length_nil, Nat.zero_add, Nat.add_zero, Nat.le_refl, Nat.zero_le, and_self, or_true, true_or, true_and, and_true, ne_eq, not_false_eq_true, Nat.reduceLT, Nat.reduceLeDiff, Nat.reduceAdd, Nat.reduceEqDiff, hgn_eq, hgn_lt, hgn_le, if_true, if_false, reduceIte, Nat.not_lt_zero, hgs_aa_d, hgs_aa_r, hgs_aa_h, hgs_aa_m, hgs_aa_t, hgs_ld_wp, hgs_st_wp, hgs_ld_qf, hgs_st_qf, hgs_ld_qt, hgs_st_qt, hgs_ld_2, hgs_st_2, hgs_ld_3, hgs_st_3, hgs_ld_4, hgs_st_4, hgs_ld_301, hgs_st_301, hgs_ld_D, hgs_st_D, hgs_ld_s, hgs_ld_T, hgs_st_T, hgs_ld_o, hgs_st_o, hgs_ld_b, hgs_st_b, hgs_ld_z, hgs_st_z, hgs_al_b, hgx_alen_s, hgn_add, hgn_mul, a1, a6]
theorem hgk_114 (h : hgSC M V (W :: Hs) c) : ∃ M', hgWC X 114 [.ref 0] M = some (.inl (.int (nI Hs.length)), M') ∧ hgSC M' W Hs c ∧ hgFC M M' := by
  obtain ⟨M', e, h2, f⟩ := hgk_33 (X := X) h
  obtain ⟨a1, a2, a3, a4, a5, a6, nx, n1, n2, n3, n4⟩ := h
  have w1 := h2.1
  have h3 := h2
  obtain ⟨_, _, _, _, _, _, nx', _, _, n3', _⟩ := h3
  rw [List.length_cons] at a4 n3
  have b1 : Hs.length + 1 < 2147483648 := by omega
  have b2 : ¬ Hs.length + 1 = 0 := by omega
  refine ⟨M', ?_, h2, hgFC_m f (fun b hb => by omega)⟩
  simp (maxDischargeDepth := 7) only [hgc114, hgM_t, hgM_f, hgM_n, hgx_aload_n_0, hgs_get_7_5, hgx_get0, hgx_if_ne, hgx_iconst_m1, hgx_ret1, hgs_get_7_3, hgx_invvirtual_2, hgx_aft_e, hgx_aft_i, hgx_aft_l, hgx_aft_v, hgv114_0, hgr114_0, hgu114_0, hgv114_12, hgr114_12, hgu114_12, hgI_SI, hgI_SJ, hgJ_SI, hgJ_SJ, if_true, if_false, reduceIte, Nat.reduceEqDiff, hgWf_SI, hgWf_SJ, hgO_SI, hgO_SJ, hgAr_SI, hgAr_SJ, hgRp_SI, hgRp_SJ, hgN_SI, hgN_SJ, hgO_g, hgO_d, hgO_rl, hgO_r, hgO_0, hgO_1, hgO_64, hgO_298, hgO_300, hgCd_0, hgCd_1, hgCd_2, hgCd_3, hgCd_4, hgCd_5, hgRecv_O, hgRecv_99, List.length_cons, List.length_nil, Nat.zero_add, Nat.add_zero, Nat.le_refl, Nat.zero_le, and_self, or_true, true_or, true_and, and_true, ne_eq, not_false_eq_true, Nat.reduceLT, Nat.reduceLeDiff, Nat.reduceAdd, Nat.reduceEqDiff, hgn_eq, hgn_lt, hgn_le, if_true, if_false, reduceIte, Nat.not_lt_zero, hgs_aa_d, hgs_aa_r, hgs_aa_h, hgs_aa_m, hgs_aa_t, hgs_ld_wp, hgs_st_wp, hgs_ld_qf, hgs_st_qf, hgs_ld_qt, hgs_st_qt, hgs_ld_2, hgs_st_2, hgs_ld_3, hgs_st_3, hgs_ld_4, hgs_st_4, hgs_ld_301, hgs_st_301, hgs_ld_D, hgs_st_D, hgs_ld_s, hgs_ld_T, hgs_st_T, hgs_ld_o, hgs_st_o, hgs_ld_b, hgs_st_b, hgs_ld_z, hgs_st_z, hgs_al_b, hgx_alen_s, hgn_add, hgn_mul, a1, n3, b1, b2, e, w1, n3']
theorem hgk_114n (h : hgSC M V [] c) : hgWC X 114 [.ref 0] M = some (.inl (.int (-1)), M) := by
  obtain ⟨a1, a2, a3, a4, a5, a6, nx, n1, n2, n3, n4⟩ := h
  have n3' : hgI M 64 2 = nI 0 := n3
  simp (maxDischargeDepth := 7) only [hgc114, hgM_t, hgM_f, hgM_n, hgx_aload_n_0, hgs_get_7_5, hgx_get0, hgx_if_ne, hgx_iconst_m1, hgx_ret1, hgs_get_7_3, hgx_invvirtual_2, hgx_aft_e, hgx_aft_i, hgx_aft_l, hgx_aft_v, hgv114_0, hgr114_0, hgu114_0, hgv114_12, hgr114_12, hgu114_12, hgI_SI, hgI_SJ, hgJ_SI, hgJ_SJ, if_true, if_false, reduceIte, Nat.reduceEqDiff, hgWf_SI, hgWf_SJ, hgO_SI, hgO_SJ, hgAr_SI, hgAr_SJ, hgRp_SI, hgRp_SJ, hgN_SI, hgN_SJ, hgO_g, hgO_d, hgO_rl, hgO_r, hgO_0, hgO_1, hgO_64, hgO_298, hgO_300, hgCd_0, hgCd_1, hgCd_2, hgCd_3, hgCd_4, hgCd_5, hgRecv_O, hgRecv_99, List.length_cons, List.length_nil, Nat.zero_add, Nat.add_zero, Nat.le_refl, Nat.zero_le, and_self, or_true, true_or, true_and, and_true, ne_eq, not_false_eq_true, Nat.reduceLT, Nat.reduceLeDiff, Nat.reduceAdd, Nat.reduceEqDiff, hgn_eq, hgn_lt, hgn_le, if_true, if_false, reduceIte, Nat.not_lt_zero, hgs_aa_d, hgs_aa_r, hgs_aa_h, hgs_aa_m, hgs_aa_t, hgs_ld_wp, hgs_st_wp, hgs_ld_qf, hgs_st_qf, hgs_ld_qt, hgs_st_qt, hgs_ld_2, hgs_st_2, hgs_ld_3, hgs_st_3, hgs_ld_4, hgs_st_4, hgs_ld_301, hgs_st_301, hgs_ld_D, hgs_st_D, hgs_ld_s, hgs_ld_T, hgs_st_T, hgs_ld_o, hgs_st_o, hgs_ld_b, hgs_st_b, hgs_ld_z, hgs_st_z, hgs_al_b, hgx_alen_s, hgn_add, hgn_mul, a1, n3']
end HGMEM

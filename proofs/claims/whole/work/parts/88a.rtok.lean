/-! TOKENS, the reference's. -/
def tBy (t : hgTxt) (q : Nat) : Int32 := if q < t.2 then nI (t.1 q) else -1
def hgRr (M : hgMem) (t : hgTxt) (p : Nat) : Prop := hgWf M ∧ hgI M 300 3 = nI t.2 ∧ hgI M 300 4 = nI p ∧ p ≤ t.2 ∧ t.2 ≤ 900 ∧ hgI M 300 5 = nI 0 ∧ ∀ k, k < t.2 → hgI M 301 k = nI (t.1 k) ∧ t.1 k ≤ 255
def hgFg (M M' : hgMem) : Prop := hgFn (fun b => b = 300) M M' ∧ ∀ k, k ≠ 4 → k ≠ 16 → hgI M' 300 k = hgI M 300 k
/-- an error is there -/
def hgEm (M : hgMem) (e : Int32 × Nat) : Prop := hgWf M ∧ hgI M 300 5 = e.1 ∧ hgI M 300 6 = nI e.2 ∧ hgCo e.1
/-- what reading may change -/
def hgFh (M M' : hgMem) : Prop := hgFn (fun b => b = 300 ∨ b = 303) M M' ∧ ∀ k, k ≠ 4 → k ≠ 5 → k ≠ 6 → k ≠ 16 → k ≠ 17 → hgI M' 300 k = hgI M 300 k
section HGRTK
variable {X : hgX} {M M' M0 M1 M2 M3 Mo : hgMem} {t : hgTxt} {i j k a b n p q N l s lo hi g w d c m : Nat} {x y v : Int32} {D V : hgV} {f f' : Nat → Bool} {A : List Value} {z : hgPt} {e : Int32 × Nat} {r : hgQt}
theorem hgFg_r : hgFg M M := ⟨hgFn_r, fun _ _ _ => rfl⟩
theorem hgFg_t (h1 : hgFg M M1) (h2 : hgFg M1 M2) : hgFg M M2 := ⟨hgFn_t h1.1 h2.1, fun k a b => (h2.2 k a b).trans (h1.2 k a b)⟩
theorem hgFg_s (h : hgFg M M1) (hk : k = 4 ∨ k = 16) : hgFg M (hgSI M1 300 k x) := ⟨hgFn_SI h.1 rfl, fun j a b => by rw [hgI_nk (by omega)]; exact h.2 j a b⟩
theorem hgFh_r : hgFh M M := ⟨hgFn_r, fun _ _ _ _ _ _ => rfl⟩
theorem hgFh_t (h1 : hgFh M M1) (h2 : hgFh M1 M2) : hgFh M M2 := ⟨hgFn_t h1.1 h2.1, fun k a b c d e => (h2.2 k a b c d e).trans (h1.2 k a b c d e)⟩
theorem hgFh_g (h : hgFg M M1) : hgFh M M1 := ⟨hgFn_m h.1 (fun b hb => Or.inl hb), fun k a b c d e => h.2 k a d⟩
theorem hgFh_s (h : hgFh M M1) (hk : k = 4 ∨ k = 5 ∨ k = 6 ∨ k = 16 ∨ k = 17) : hgFh M (hgSI M1 300 k x) := ⟨hgFn_SI h.1 (Or.inl rfl), fun j a b c d e => by rw [hgI_nk (by omega)]; exact h.2 j a b c d e⟩
theorem hgFh_d (h : hgFh M M1) : hgFh M (hgSI M1 303 k x) := ⟨hgFn_SI h.1 (Or.inr rfl), fun j a b c d e => by rw [hgI_na (by omega)]; exact h.2 j a b c d e⟩
theorem hgRr_s (h : hgRr M t p) (hk : k ≠ 3 ∧ k ≠ 4 ∧ k ≠ 5) : hgRr (hgSI M 300 k x) t p := by
  obtain ⟨a1, a2, a3, a4, a5, a6, a7⟩ := h
  exact ⟨a1, by rw [hgI_nk (by omega)]; exact a2, by rw [hgI_nk (by omega)]; exact a3, a4, a5, by rw [hgI_nk (by omega)]; exact a6, fun k hk => by rw [hgI_na (by omega)]; exact a7 k hk⟩
theorem hgRr_p (h : hgRr M t p) (hq : q ≤ t.2) : hgRr (hgSI M 300 4 (nI q)) t q := by
  obtain ⟨a1, a2, a3, a4, a5, a6, a7⟩ := h
  exact ⟨a1, by rw [hgI_nk (by omega)]; exact a2, hgI_at, hq, a5, by rw [hgI_nk (by omega)]; exact a6, fun k hk => by rw [hgI_na (by omega)]; exact a7 k hk⟩
theorem hgRr_d (h : hgRr M t p) : hgRr (hgSI M 303 k x) t p := by
  obtain ⟨a1, a2, a3, a4, a5, a6, a7⟩ := h
  exact ⟨a1, by rw [hgI_na (by omega)]; exact a2, by rw [hgI_na (by omega)]; exact a3, a4, a5, by rw [hgI_na (by omega)]; exact a6, fun k hk => by rw [hgI_na (by omega)]; exact a7 k hk⟩
theorem hgBtw_nn (h1 : a < 2147483648) (h2 : b < 2147483648) (h3 : c < 2147483648) : hgBtw (nI a) (nI b) (nI c) = (decide (b ≤ a) && decide (a ≤ c)) := by
  unfold hgBtw
  simp only [hgn_le h2 h1, hgn_le h1 h3]
theorem tBy_l (h : q < t.2) : tBy t q = nI (t.1 q) := if_pos h
theorem tBy_g (h : ¬ q < t.2) : tBy t q = -1 := if_neg h
theorem tBy_d (h : hgRr M t p) : hgBtw (tBy t q) (nI 48) (nI 57) = tDg t q := by
  unfold tDg
  by_cases hq : q < t.2
  · have b := (h.2.2.2.2.2.2 q hq).2
    rw [tBy_l hq, hgBtw_nn (by omega) (by omega) (by omega), decide_eq_true hq, Bool.true_and]
  · rw [tBy_g hq, decide_eq_false hq, Bool.false_and]
    decide
theorem tBy_t (h : hgRr M t p) : hgBtw (tBy t q) (nI 97) (nI 122) = (decide (q < t.2) && (decide (97 ≤ t.1 q) && decide (t.1 q ≤ 122))) := by
  by_cases hq : q < t.2
  · have b := (h.2.2.2.2.2.2 q hq).2
    rw [tBy_l hq, hgBtw_nn (by omega) (by omega) (by omega), decide_eq_true hq, Bool.true_and]
  · rw [tBy_g hq, decide_eq_false hq, Bool.false_and]
    decide
theorem hgk_135 (h : hgRr M t p) (hq : q < 2000) : hgWC X 135 [.ref 300, .int (nI q)] M = some (.inl (.int (tBy t q)), M) := by
  obtain ⟨hw, a2, a3, a4, a5, a6, a7⟩ := h
  have h1 : q < 2147483648 := by omega
  have h2 : t.2 < 2147483648 := by omega
  by_cases hl : q < t.2
  · have h3 : ¬ t.2 ≤ q := by omega
    have h5 : q < 900 := by omega
    have e := (a7 q hl).1
    rw [tBy_l hl]
    simp (maxDischargeDepth := 7) only [hgc135, hgM_t, hgM_f, hgM_n, hgx_iload_n_1, hgx_aload_n_0, hgx_get0, hgx_ic_ge, hgs_get_8_1, hgx_goto, hgx_iconst_m1, hgx_ret1, hgv135_0, hgr135_0, hgu135_0, hgv135_17, hgr135_17, hgu135_17, hgv135_18, hgr135_18, hgu135_18, hgI_SI, hgI_SJ, hgJ_SI, hgJ_SJ, if_true, if_false, reduceIte, Nat.reduceEqDiff, hgWf_SI, hgWf_SJ, hgO_SI, hgO_SJ, hgAr_SI, hgAr_SJ, hgRp_SI, hgRp_SJ, hgN_SI, hgN_SJ, hgO_g, hgO_d, hgO_rl, hgO_r, hgO_0, hgO_1, hgO_64, hgO_298, hgO_300, hgCd_0, hgCd_1, hgCd_2, hgCd_3, hgCd_4, hgCd_5, hgRecv_O, hgRecv_99, List.length_cons, List.length_nil, Nat.zero_add, Nat.add_zero, Nat.le_refl, Nat.zero_le, and_self, or_true, true_or, true_and, and_true, ne_eq, not_false_eq_true, Nat.reduceLT, Nat.reduceLeDiff, Nat.reduceAdd, Nat.reduceEqDiff, hgn_eq, hgn_lt, hgn_le, if_true, if_false, reduceIte, Nat.not_lt_zero, hgs_aa_d, hgs_aa_r, hgs_aa_h, hgs_aa_m, hgs_aa_t, hgs_ld_wp, hgs_st_wp, hgs_ld_qf, hgs_st_qf, hgs_ld_qt, hgs_st_qt, hgs_ld_2, hgs_st_2, hgs_ld_3, hgs_st_3, hgs_ld_4, hgs_st_4, hgs_ld_301, hgs_st_301, hgs_ld_D, hgs_st_D, hgs_ld_s, hgs_ld_T, hgs_st_T, hgs_ld_o, hgs_st_o, hgs_ld_b, hgs_st_b, hgs_ld_z, hgs_st_z, hgs_al_b, hgx_alen_s, hw, a2, h1, h2, h3, h5, e]
  · have h3 : t.2 ≤ q := by omega
    rw [tBy_g hl]
    simp (maxDischargeDepth := 7) only [hgc135, hgM_t, hgM_f, hgM_n, hgx_iload_n_1, hgx_aload_n_0, hgx_get0, hgx_ic_ge, hgs_get_8_1, hgx_goto, hgx_iconst_m1, hgx_ret1, hgv135_0, hgr135_0, hgu135_0, hgv135_17, hgr135_17, hgu135_17, hgv135_18, hgr135_18, hgu135_18, hgI_SI, hgI_SJ, hgJ_SI, hgJ_SJ, if_true, if_false, reduceIte, Nat.reduceEqDiff, hgWf_SI, hgWf_SJ, hgO_SI, hgO_SJ, hgAr_SI, hgAr_SJ, hgRp_SI, hgRp_SJ, hgN_SI, hgN_SJ, hgO_g, hgO_d, hgO_rl, hgO_r, hgO_0, hgO_1, hgO_64, hgO_298, hgO_300, hgCd_0, hgCd_1, hgCd_2, hgCd_3, hgCd_4, hgCd_5, hgRecv_O, hgRecv_99, List.length_cons, List.length_nil, Nat.zero_add, Nat.add_zero, Nat.le_refl, Nat.zero_le, and_self, or_true, true_or, true_and, and_true, ne_eq, not_false_eq_true, Nat.reduceLT, Nat.reduceLeDiff, Nat.reduceAdd, Nat.reduceEqDiff, hgn_eq, hgn_lt, hgn_le, if_true, if_false, reduceIte, Nat.not_lt_zero, hgs_aa_d, hgs_aa_r, hgs_aa_h, hgs_aa_m, hgs_aa_t, hgs_ld_wp, hgs_st_wp, hgs_ld_qf, hgs_st_qf, hgs_ld_qt, hgs_st_qt, hgs_ld_2, hgs_st_2, hgs_ld_3, hgs_st_3, hgs_ld_4, hgs_st_4, hgs_ld_301, hgs_st_301, hgs_ld_D, hgs_st_D, hgs_ld_s, hgs_ld_T, hgs_st_T, hgs_ld_o, hgs_st_o, hgs_ld_b, hgs_st_b, hgs_ld_z, hgs_st_z, hgs_al_b, hgx_alen_s, hw, a2, h1, h2, h3]
theorem hgk_136g (h : hgRr M t p) : hgWC X 136 [.ref 300] M = some (.inl (.int (nI 1)), M) := by
  have k := hgk_136 (X := X) h.1
  rw [decide_eq_true h.2.2.2.2.2.1, hgB_t] at k
  exact k
theorem hgEm_n (h : hgEm M e) : hgI M 300 5 ≠ nI 0 := by
  rw [h.2.1]
  rcases h.2.2.2 with q | q | q <;> rw [q] <;> decide
theorem hgk_136e (h : hgEm M e) : hgWC X 136 [.ref 300] M = some (.inl (.int (nI 0)), M) := by
  have k := hgk_136 (X := X) h.1
  rw [decide_eq_false (hgEm_n h), hgB_f] at k
  exact k
theorem hgk_137 (h : hgRr M t p) : hgWC X 137 [.ref 300, .int x, .int y] M = some (.inl .null, hgSI (hgSI M 300 5 x) 300 6 y) := by
  have hw := h.1
  have h5 := h.2.2.2.2.2.1
  simp (maxDischargeDepth := 7) only [hgc137, hgM_t, hgM_f, hgM_n, hgx_aload_n_0, hgx_get0, hgx_if_eq, hgx_vret, hgx_iload_n_1, hgx_put0, hgx_iload_n_2, hgv137_0, hgr137_0, hgu137_0, hgv137_8, hgr137_8, hgu137_8, hgI_SI, hgI_SJ, hgJ_SI, hgJ_SJ, if_true, if_false, reduceIte, Nat.reduceEqDiff, hgWf_SI, hgWf_SJ, hgO_SI, hgO_SJ, hgAr_SI, hgAr_SJ, hgRp_SI, hgRp_SJ, hgN_SI, hgN_SJ, hgO_g, hgO_d, hgO_rl, hgO_r, hgO_0, hgO_1, hgO_64, hgO_298, hgO_300, hgCd_0, hgCd_1, hgCd_2, hgCd_3, hgCd_4, hgCd_5, hgRecv_O, hgRecv_99, List.length_cons, List.length_nil, Nat.zero_add, Nat.add_zero, Nat.le_refl, Nat.zero_le, and_self, or_true, true_or, true_and, and_true, ne_eq, not_false_eq_true, Nat.reduceLT, Nat.reduceLeDiff, Nat.reduceAdd, Nat.reduceEqDiff, hgn_eq, hgn_lt, hgn_le, if_true, if_false, reduceIte, Nat.not_lt_zero, hw, h5]
theorem hgk_137e (h : hgEm M e) : hgWC X 137 [.ref 300, .int x, .int y] M = some (.inl .null, M) := by
  have hw := h.1
  have h5 := hgEm_n h
  simp (maxDischargeDepth := 7) only [hgc137, hgM_t, hgM_f, hgM_n, hgx_aload_n_0, hgx_get0, hgx_if_eq, hgx_vret, hgx_iload_n_1, hgx_put0, hgx_iload_n_2, hgv137_0, hgr137_0, hgu137_0, hgv137_8, hgr137_8, hgu137_8, hgI_SI, hgI_SJ, hgJ_SI, hgJ_SJ, if_true, if_false, reduceIte, Nat.reduceEqDiff, hgWf_SI, hgWf_SJ, hgO_SI, hgO_SJ, hgAr_SI, hgAr_SJ, hgRp_SI, hgRp_SJ, hgN_SI, hgN_SJ, hgO_g, hgO_d, hgO_rl, hgO_r, hgO_0, hgO_1, hgO_64, hgO_298, hgO_300, hgCd_0, hgCd_1, hgCd_2, hgCd_3, hgCd_4, hgCd_5, hgRecv_O, hgRecv_99, List.length_cons, List.length_nil, Nat.zero_add, Nat.add_zero, Nat.le_refl, Nat.zero_le, and_self, or_true, true_or, true_and, and_true, ne_eq, not_false_eq_true, Nat.reduceLT, Nat.reduceLeDiff, Nat.reduceAdd, Nat.reduceEqDiff, hgn_eq, hgn_lt, hgn_le, if_true, if_false, reduceIte, Nat.not_lt_zero, hw, h5]
theorem hgEm_i (h : hgRr M t p) (hx : hgCo x) : hgEm (hgSI (hgSI M 300 5 x) 300 6 (nI n)) (x, n) := ⟨h.1, by rw [hgI_nk (by omega), hgI_at], hgI_at, hx⟩
theorem hgEm_d (h : hgEm M e) : hgEm (hgSI M 303 k x) e := ⟨h.1, by rw [hgI_na (by omega)]; exact h.2.1, by rw [hgI_na (by omega)]; exact h.2.2.1, h.2.2.2⟩
theorem hgEm_s (h : hgEm M e) (hk : k ≠ 5 ∧ k ≠ 6) : hgEm (hgSI M 300 k x) e := ⟨h.1, by rw [hgI_nk (by omega)]; exact h.2.1, by rw [hgI_nk (by omega)]; exact h.2.2.1, h.2.2.2⟩
theorem hgk_138l : ∀ (k p : Nat) (M : hgMem), p + k = t.2 → hgRr M t p → ∃ M', hgW X 138 0 [some (.ref 300)] [] (0, 0) M = some (.inl (.int (tBy t (pSk t k p))), M') ∧ hgRr M' t (pSk t k p) ∧ hgFg M M' := by
  intro k
  induction k with
  | zero =>
    intro p M hp h
    have h0 := h
    obtain ⟨hw, a2, a3, a4, a5, a6, a7⟩ := h0
    have k135 := hgk_135 (X := X) h (show p < 2000 by omega)
    have eb : tBy t p = -1 := tBy_g (by omega)
    have ne : ¬ (-1 : Int32) = nI 32 := by decide
    rw [eb] at k135
    refine ⟨M, ?_, h, hgFg_r⟩
    rw [hgu138_0]
    unfold pSk
    rw [eb]
    simp (maxDischargeDepth := 7) only [hgM_t, hgM_f, hgM_n, hgx_aload_n_0, hgx_get0, hgx_invvirtual_2, hgx_aft_e, hgx_aft_i, hgx_aft_l, hgx_aft_v, hgx_bipush_32, hgx_ic_ne, hgx_dup_i, hgx_dup_f, hgx_dup_r, hgx_iconst_1, hgx_iadd, hgx_put0, hgx_goto, hgx_ret1, hgv138_0, hgr138_0, hgv138_26, hgr138_26, hgu138_26, hgI_SI, hgI_SJ, hgJ_SI, hgJ_SJ, if_true, if_false, reduceIte, Nat.reduceEqDiff, hgWf_SI, hgWf_SJ, hgO_SI, hgO_SJ, hgAr_SI, hgAr_SJ, hgRp_SI, hgRp_SJ, hgN_SI, hgN_SJ, hgO_g, hgO_d, hgO_rl, hgO_r, hgO_0, hgO_1, hgO_64, hgO_298, hgO_300, hgCd_0, hgCd_1, hgCd_2, hgCd_3, hgCd_4, hgCd_5, hgRecv_O, hgRecv_99, List.length_cons, List.length_nil, Nat.zero_add, Nat.add_zero, Nat.le_refl, Nat.zero_le, and_self, or_true, true_or, true_and, and_true, ne_eq, not_false_eq_true, Nat.reduceLT, Nat.reduceLeDiff, Nat.reduceAdd, Nat.reduceEqDiff, hgn_eq, hgn_lt, hgn_le, if_true, if_false, reduceIte, Nat.not_lt_zero, hw, a3, k135, ne]
  | succ k ih =>
    intro p M hp h
    have h0 := h
    obtain ⟨hw, a2, a3, a4, a5, a6, a7⟩ := h0
    have hl : p < t.2 := by omega
    have k135 := hgk_135 (X := X) h (show p < 2000 by omega)
    rw [tBy_l hl] at k135
    have b := (a7 p hl).2
    have b1 : t.1 p < 2147483648 := by omega
    unfold pSk
    by_cases e : t.1 p = 32
    · rw [if_pos e]
      obtain ⟨M', e1, r1, r3⟩ := ih (p + 1) (hgSI M 300 4 (nI (p + 1))) (by omega) (hgRr_p h (by omega))
      refine ⟨M', ?_, r1, hgFg_t (hgFg_s hgFg_r (by omega)) r3⟩
      rw [e] at k135
      refine Eq.trans ?_ e1
      rw [hgu138_0]
      simp (maxDischargeDepth := 7) only [hgM_t, hgM_f, hgM_n, hgx_aload_n_0, hgx_get0, hgx_invvirtual_2, hgx_aft_e, hgx_aft_i, hgx_aft_l, hgx_aft_v, hgx_bipush_32, hgx_ic_ne, hgx_dup_i, hgx_dup_f, hgx_dup_r, hgx_iconst_1, hgx_iadd, hgx_put0, hgx_goto, hgx_ret1, hgv138_0, hgr138_0, hgv138_26, hgr138_26, hgu138_26, hgI_SI, hgI_SJ, hgJ_SI, hgJ_SJ, if_true, if_false, reduceIte, Nat.reduceEqDiff, hgWf_SI, hgWf_SJ, hgO_SI, hgO_SJ, hgAr_SI, hgAr_SJ, hgRp_SI, hgRp_SJ, hgN_SI, hgN_SJ, hgO_g, hgO_d, hgO_rl, hgO_r, hgO_0, hgO_1, hgO_64, hgO_298, hgO_300, hgCd_0, hgCd_1, hgCd_2, hgCd_3, hgCd_4, hgCd_5, hgRecv_O, hgRecv_99, List.length_cons, List.length_nil, Nat.zero_add, Nat.add_zero, Nat.le_refl, Nat.zero_le, and_self, or_true, true_or, true_and, and_true, ne_eq, not_false_eq_true, Nat.reduceLT, Nat.reduceLeDiff, Nat.reduceAdd, Nat.reduceEqDiff, hgn_eq, hgn_lt, hgn_le, if_true, if_false, reduceIte, Nat.not_lt_zero, hgn_add, hgn_mul, hw, a3, k135]
    · rw [if_neg e, tBy_l hl]
      refine ⟨M, ?_, h, hgFg_r⟩
      rw [hgu138_0]
      simp (maxDischargeDepth := 7) only [hgM_t, hgM_f, hgM_n, hgx_aload_n_0, hgx_get0, hgx_invvirtual_2, hgx_aft_e, hgx_aft_i, hgx_aft_l, hgx_aft_v, hgx_bipush_32, hgx_ic_ne, hgx_dup_i, hgx_dup_f, hgx_dup_r, hgx_iconst_1, hgx_iadd, hgx_put0, hgx_goto, hgx_ret1, hgv138_0, hgr138_0, hgv138_26, hgr138_26, hgu138_26, hgI_SI, hgI_SJ, hgJ_SI, hgJ_SJ, if_true, if_false, reduceIte, Nat.reduceEqDiff, hgWf_SI, hgWf_SJ, hgO_SI, hgO_SJ, hgAr_SI, hgAr_SJ, hgRp_SI, hgRp_SJ, hgN_SI, hgN_SJ, hgO_g, hgO_d, hgO_rl, hgO_r, hgO_0, hgO_1, hgO_64, hgO_298, hgO_300, hgCd_0, hgCd_1, hgCd_2, hgCd_3, hgCd_4, hgCd_5, hgRecv_O, hgRecv_99, List.length_cons, List.length_nil, Nat.zero_add, Nat.add_zero, Nat.le_refl, Nat.zero_le, and_self, or_true, true_or, true_and, and_true, ne_eq, not_false_eq_true, Nat.reduceLT, Nat.reduceLeDiff, Nat.reduceAdd, Nat.reduceEqDiff, hgn_eq, hgn_lt, hgn_le, if_true, if_false, reduceIte, Nat.not_lt_zero, hgn_add, hgn_mul, hw, a3, k135, b1, e]
theorem hgk_138 (h : hgRr M t p) : ∃ M', hgWC X 138 [.ref 300] M = some (.inl (.int (tBy t (tSk t p))), M') ∧ hgRr M' t (tSk t p) ∧ hgFg M M' := by
  have hp := h.2.2.2.1
  obtain ⟨M', e, r⟩ := hgk_138l (X := X) (t.2 - p) p M (by omega) h
  refine ⟨M', ?_, r⟩
  rw [hgc138]
  exact e
/-- the letters of a word, from i on -/
theorem hgk_141l (h : hgRr M t q) (hs : s < 12) : ∀ (k i : Nat), i + k = (hgStr.getD s []).length → q + i ≤ t.2 → hgW X 141 16 [some (.ref 300), some (.ref (1000 + s)), some (.int (nI i))] [] (0, 0) M = if q + (hgStr.getD s []).length ≤ t.2 ∧ tMw t (q + i) ((hgStr.getD s []).drop i) = true then hgW X 141 50 [some (.ref 300), some (.ref (1000 + s)), none] [] (0, 0) M else some (.inl (.int (nI 0)), M) := by
  intro k
  have hw := h.1
  have h4 := h.2.2.1
  have l9 := h.2.2.2.2.1
  obtain ⟨l7, lc⟩ := hgStr_l s hs
  induction k with
  | zero =>
    intro i hi hq
    have h1 : i < 2147483648 := by omega
    have h2 : (hgStr.getD s []).length < 2147483648 := by omega
    have h3 : (hgStr.getD s []).length ≤ i := by omega
    rw [List.drop_eq_nil_of_le h3, if_pos ⟨by omega, rfl⟩, hgu141_16]
    simp (maxDischargeDepth := 7) only [hgM_t, hgM_f, hgM_n, hgx_iload_n_2, hgx_aload_n_1, hgx_len, hgx_ic_ge, hgx_aload_n_0, hgx_get0, hgx_iadd, hgx_invvirtual_2, hgx_aft_e, hgx_aft_i, hgx_aft_l, hgx_aft_v, hgx_chr, hgx_ic_eq, hgx_iconst_0, hgx_ret3, hgv141_16, hgr141_16, hgu141_16, hgv141_50, hgI_SI, hgI_SJ, hgJ_SI, hgJ_SJ, if_true, if_false, reduceIte, Nat.reduceEqDiff, hgWf_SI, hgWf_SJ, hgO_SI, hgO_SJ, hgAr_SI, hgAr_SJ, hgRp_SI, hgRp_SJ, hgN_SI, hgN_SJ, hgO_g, hgO_d, hgO_rl, hgO_r, hgO_0, hgO_1, hgO_64, hgO_298, hgO_300, hgCd_0, hgCd_1, hgCd_2, hgCd_3, hgCd_4, hgCd_5, hgRecv_O, hgRecv_99, List.length_cons, List.length_nil, Nat.zero_add, Nat.add_zero, Nat.le_refl, Nat.zero_le, and_self, or_true, true_or, true_and, and_true, ne_eq, not_false_eq_true, Nat.reduceLT, Nat.reduceLeDiff, Nat.reduceAdd, Nat.reduceEqDiff, hgn_eq, hgn_lt, hgn_le, if_true, if_false, reduceIte, Nat.not_lt_zero, hw, hs, h1, h2, h3]
  | succ k ih =>
    intro i hi hq
    have h1 : i < 2147483648 := by omega
    have h2 : (hgStr.getD s []).length < 2147483648 := by omega
    have h3 : ¬ (hgStr.getD s []).length ≤ i := by omega
    have h5 : i < (hgStr.getD s []).length := by omega
    have k135 := hgk_135 (X := X) h (show q + i < 2000 by omega)
    have b2 : (hgStr.getD s []).getD i 0 < 2147483648 := by have := (lc i h5).2; omega
    have ed : (hgStr.getD s []).drop i = (hgStr.getD s []).getD i 0 :: (hgStr.getD s []).drop (i + 1) := by
      rw [List.drop_eq_getElem_cons h5]
      generalize hgStr.getD s [] = w at h5
      congr 1
      show w[i] = (w[i]?).getD 0
      rw [List.getElem?_eq_getElem h5]
      rfl
    rw [ed]
    unfold tMw
    by_cases hl : q + i < t.2
    · rw [tBy_l hl] at k135
      have b1 : t.1 (q + i) < 2147483648 := by have := (h.2.2.2.2.2.2 (q + i) hl).2; omega
      by_cases qe : t.1 (q + i) = (hgStr.getD s []).getD i 0
      · have ih' := ih (i + 1) (by omega) (by omega)
        rw [decide_eq_true qe, Bool.true_and, hgu141_16]
        rw [← Nat.add_assoc] at ih'
        refine Eq.trans ?_ ih'
        simp (maxDischargeDepth := 7) only [hgM_t, hgM_f, hgM_n, hgx_iload_n_2, hgx_aload_n_1, hgx_len, hgx_ic_ge, hgx_aload_n_0, hgx_get0, hgx_iadd, hgx_invvirtual_2, hgx_aft_e, hgx_aft_i, hgx_aft_l, hgx_aft_v, hgx_chr, hgx_ic_eq, hgx_iconst_0, hgx_ret3, hgx_iinc_2_1, hgx_goto, hgv141_16, hgr141_16, hgu141_16, hgv141_44, hgr141_44, hgu141_44, hgv141_16, hgI_SI, hgI_SJ, hgJ_SI, hgJ_SJ, if_true, if_false, reduceIte, Nat.reduceEqDiff, hgWf_SI, hgWf_SJ, hgO_SI, hgO_SJ, hgAr_SI, hgAr_SJ, hgRp_SI, hgRp_SJ, hgN_SI, hgN_SJ, hgO_g, hgO_d, hgO_rl, hgO_r, hgO_0, hgO_1, hgO_64, hgO_298, hgO_300, hgCd_0, hgCd_1, hgCd_2, hgCd_3, hgCd_4, hgCd_5, hgRecv_O, hgRecv_99, List.length_cons, List.length_nil, Nat.zero_add, Nat.add_zero, Nat.le_refl, Nat.zero_le, and_self, or_true, true_or, true_and, and_true, ne_eq, not_false_eq_true, Nat.reduceLT, Nat.reduceLeDiff, Nat.reduceAdd, Nat.reduceEqDiff, hgn_eq, hgn_lt, hgn_le, if_true, if_false, reduceIte, Nat.not_lt_zero, hgn_add, hgn_mul, hw, h4, hs, h1, h2, h3, h5, k135, b1, b2, qe]
      · rw [decide_eq_false qe, Bool.false_and, if_neg (by simp), hgu141_16]
        simp (maxDischargeDepth := 7) only [hgM_t, hgM_f, hgM_n, hgx_iload_n_2, hgx_aload_n_1, hgx_len, hgx_ic_ge, hgx_aload_n_0, hgx_get0, hgx_iadd, hgx_invvirtual_2, hgx_aft_e, hgx_aft_i, hgx_aft_l, hgx_aft_v, hgx_chr, hgx_ic_eq, hgx_iconst_0, hgx_ret3, hgv141_16, hgr141_16, hgu141_16, hgI_SI, hgI_SJ, hgJ_SI, hgJ_SJ, if_true, if_false, reduceIte, Nat.reduceEqDiff, hgWf_SI, hgWf_SJ, hgO_SI, hgO_SJ, hgAr_SI, hgAr_SJ, hgRp_SI, hgRp_SJ, hgN_SI, hgN_SJ, hgO_g, hgO_d, hgO_rl, hgO_r, hgO_0, hgO_1, hgO_64, hgO_298, hgO_300, hgCd_0, hgCd_1, hgCd_2, hgCd_3, hgCd_4, hgCd_5, hgRecv_O, hgRecv_99, List.length_cons, List.length_nil, Nat.zero_add, Nat.add_zero, Nat.le_refl, Nat.zero_le, and_self, or_true, true_or, true_and, and_true, ne_eq, not_false_eq_true, Nat.reduceLT, Nat.reduceLeDiff, Nat.reduceAdd, Nat.reduceEqDiff, hgn_eq, hgn_lt, hgn_le, if_true, if_false, reduceIte, Nat.not_lt_zero, hgn_add, hgn_mul, hw, h4, hs, h1, h2, h3, h5, k135, b1, b2, qe]
    · rw [tBy_g hl] at k135
      have ne : ¬ (-1 : Int32) = nI ((hgStr.getD s []).getD i 0) := by
        have l1 := lc i h5
        generalize (hgStr.getD s []).getD i 0 = w at l1
        intro z
        have z2 := hgm1_nI (i := w) (by omega)
        rw [← z] at z2
        exact z2 ▸ rfl
      rw [if_neg (by omega), hgu141_16]
      simp (maxDischargeDepth := 7) only [hgM_t, hgM_f, hgM_n, hgx_iload_n_2, hgx_aload_n_1, hgx_len, hgx_ic_ge, hgx_aload_n_0, hgx_get0, hgx_iadd, hgx_invvirtual_2, hgx_aft_e, hgx_aft_i, hgx_aft_l, hgx_aft_v, hgx_chr, hgx_ic_eq, hgx_iconst_0, hgx_ret3, hgv141_16, hgr141_16, hgu141_16, hgI_SI, hgI_SJ, hgJ_SI, hgJ_SJ, if_true, if_false, reduceIte, Nat.reduceEqDiff, hgWf_SI, hgWf_SJ, hgO_SI, hgO_SJ, hgAr_SI, hgAr_SJ, hgRp_SI, hgRp_SJ, hgN_SI, hgN_SJ, hgO_g, hgO_d, hgO_rl, hgO_r, hgO_0, hgO_1, hgO_64, hgO_298, hgO_300, hgCd_0, hgCd_1, hgCd_2, hgCd_3, hgCd_4, hgCd_5, hgRecv_O, hgRecv_99, List.length_cons, List.length_nil, Nat.zero_add, Nat.add_zero, Nat.le_refl, Nat.zero_le, and_self, or_true, true_or, true_and, and_true, ne_eq, not_false_eq_true, Nat.reduceLT, Nat.reduceLeDiff, Nat.reduceAdd, Nat.reduceEqDiff, hgn_eq, hgn_lt, hgn_le, if_true, if_false, reduceIte, Nat.not_lt_zero, hgn_add, hgn_mul, hw, h4, hs, h1, h2, h3, h5, k135, ne]
end HGRTK

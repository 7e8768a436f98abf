/-! CONSTRUCTORS: where everything lies at the start. -/
section HGCTR
variable {X : hgX} {rm : hgK} {C : Nat → List Value → hgMem → Option hgOut} {J : Nat → hgL → List Value → hgK → hgMem → Option hgOut} {l t : Nat} {ps : List Nat} {hs : List (Nat × Nat × Nat)} {rs : List hgRow} {L : hgL} {S : List Value} {K : hgK} {M M' M1 M2 : hgMem} {x y : Int32} {a b c ci n w idx g i j k kr N : Nat} {kd : ArrayType} {v1 : Option Value}
theorem hgx_new (h : hgSh M.1 = (ci, n)) (h1 : K.1 + 1 ≤ rm.1) (h2 : K.2 + n ≤ rm.2) : hgEx X rm C J ((.new idx, l, [1, ci, n, w], hs) :: rs) L S K M = hgEx X rm C J rs L (.ref M.1 :: S) (K.1 + 1, K.2 + n) (hgNew M) := if_pos ⟨h, h1, h2⟩
theorem hgx_anew (h : hgSh M.1 = (ci, n)) (hn : n < 2147483648) (h1 : K.1 + 1 ≤ rm.1) (h2 : K.2 + n ≤ rm.2) : hgEx X rm C J ((.anewarray idx, l, [ci, w], hs) :: rs) L (.int (nI n) :: S) K M = hgEx X rm C J rs L (.ref M.1 :: S) (K.1 + 1, K.2 + n) (hgNew M) := by
  have e := hgn_cl hn
  have p : ¬ (nI n) < 0 := fun q => by
    rw [hglt_i, hgn_int hn] at q
    have : (0 : Int32).toInt = 0 := by decide
    omega
  show (if hgSh M.1 = (ci, (nI n).toNatClampNeg) ∧ ¬ (nI n) < 0 ∧ K.1 + 1 ≤ rm.1 ∧ K.2 + (nI n).toNatClampNeg ≤ rm.2 then _ else _) = _
  rw [e, if_pos ⟨h, p, h1, h2⟩]
theorem hgx_newa (h : hgSh M.1 = (ci, n)) (hn : n < 2147483648) (h1 : K.1 + 1 ≤ rm.1) (h2 : K.2 + n ≤ rm.2) : hgEx X rm C J ((.newarray kd, l, [ci], hs) :: rs) L (.int (nI n) :: S) K M = hgEx X rm C J rs L (.ref M.1 :: S) (K.1 + 1, K.2 + n) (hgNew M) := by
  have e := hgn_cl hn
  have p : ¬ (nI n) < 0 := fun q => by
    rw [hglt_i, hgn_int hn] at q
    have : (0 : Int32).toInt = 0 := by decide
    omega
  show (if hgSh M.1 = (ci, (nI n).toNatClampNeg) ∧ ¬ (nI n) < 0 ∧ K.1 + 1 ≤ rm.1 ∧ K.2 + (nI n).toNatClampNeg ≤ rm.2 then _ else _) = _
  rw [e, if_pos ⟨h, p, h1, h2⟩]
theorem hgx_1005 {q1 q2 q3 q4 q5 q6 : Nat} (h : a < M.1) (hS : S.length ≤ 5) : hgEx X rm C J ((.invokespecial idx, l, [1005, q1, q2, q3, q4, q5, q6], hs) :: rs) L (.ref a :: S) K M = hgEx X rm C J rs L S K M := by
  show (if a < M.1 then (if S.length ≤ 5 then hgEx X rm C J rs L S K M else none) else none) = _
  rw [if_pos h, if_pos hS]
theorem hgNw_1 : (hgNew M).1 = M.1 + 1 := id rfl
theorem hgNw_I : hgI (hgNew M) b k = if b = M.1 then nI 0 else hgI M b k := id rfl
theorem hgNw_J : hgJ (hgNew M) b k = if b = M.1 then 0 else hgJ M b k := id rfl
theorem hgNw_R : hgR (hgNew M) b k = if b = M.1 then none else hgR M b k := id rfl
theorem hgSR_1 : (hgSR M a k b).1 = M.1 := id rfl
/-- below n nothing has changed -/
def hgBw (n : Nat) (M M' : hgMem) : Prop := ∀ b, b < n → ∀ k, hgI M' b k = hgI M b k ∧ hgJ M' b k = hgJ M b k ∧ hgR M' b k = hgR M b k
theorem hgBw_r : hgBw n M M := fun _ _ _ => ⟨rfl, rfl, rfl⟩
theorem hgBw_t (h1 : hgBw n M M1) (h2 : hgBw n M1 M2) : hgBw n M M2 := fun b hb k => ⟨(h2 b hb k).1.trans (h1 b hb k).1, (h2 b hb k).2.1.trans (h1 b hb k).2.1, (h2 b hb k).2.2.trans (h1 b hb k).2.2⟩
theorem hgBw_m {n' : Nat} (h : hgBw n M M1) (hn : n' ≤ n) : hgBw n' M M1 := fun b hb k => h b (by omega) k
theorem hgBw_new (h : n ≤ M.1) : hgBw n M (hgNew M) := fun b hb k => ⟨by rw [hgNw_I, if_neg (by omega)], by rw [hgNw_J, if_neg (by omega)], by rw [hgNw_R, if_neg (by omega)]⟩
theorem hgBw_SI (h : n ≤ a) : hgBw n M (hgSI M a k x) := fun b hb j => ⟨hgI_na (by omega), rfl, rfl⟩
theorem hgBw_SR (h : n ≤ a) : hgBw n M (hgSR M a k c) := fun b hb j => ⟨rfl, rfl, by rw [hgR_SR, if_neg (by omega)]⟩
theorem hgk_0 (h : hgO M a 0) : hgWC X 0 [.ref a] M = some (.inl .null, hgSI (hgSI M a 1 (nI 1)) a 9 (-1)) := by
  have h1 := h.1
  simp (maxDischargeDepth := 7) only [hgc0, hgM_t, hgM_f, hgM_n, hgx_aload_n_0, hgx_iconst_1, hgx_put0, hgx_iconst_m1, hgx_vret, hgv0_0, hgr0_0, hgu0_0, hgx_1005, hgI_SI, hgI_SJ, hgJ_SI, hgJ_SJ, if_true, if_false, reduceIte, Nat.reduceEqDiff, hgWf_SI, hgWf_SJ, hgO_SI, hgO_SJ, hgAr_SI, hgAr_SJ, hgRp_SI, hgRp_SJ, hgN_SI, hgN_SJ, hgO_g, hgO_d, hgO_rl, hgO_r, hgO_0, hgO_1, hgO_64, hgO_298, hgO_300, hgCd_0, hgCd_1, hgCd_2, hgCd_3, hgCd_4, hgCd_5, hgRecv_O, hgRecv_99, List.length_cons, List.length_nil, Nat.zero_add, Nat.add_zero, Nat.le_refl, Nat.zero_le, and_self, or_true, true_or, true_and, and_true, ne_eq, not_false_eq_true, Nat.reduceLT, Nat.reduceLeDiff, Nat.reduceAdd, Nat.reduceEqDiff, hgn_eq, hgn_lt, hgn_le, if_true, if_false, reduceIte, Nat.not_lt_zero, h, h1]
theorem hgk_42 (h : hgO M a 4) : hgWC X 42 [.ref a] M = some (.inl .null, hgSI M a 0 (nI 0)) := by
  have h1 := h.1
  simp (maxDischargeDepth := 7) only [hgc42, hgM_t, hgM_f, hgM_n, hgx_aload_n_0, hgx_iconst_0, hgx_put3, hgx_vret, hgv42_0, hgr42_0, hgu42_0, hgx_1005, hgI_SI, hgI_SJ, hgJ_SI, hgJ_SJ, if_true, if_false, reduceIte, Nat.reduceEqDiff, hgWf_SI, hgWf_SJ, hgO_SI, hgO_SJ, hgAr_SI, hgAr_SJ, hgRp_SI, hgRp_SJ, hgN_SI, hgN_SJ, hgO_g, hgO_d, hgO_rl, hgO_r, hgO_0, hgO_1, hgO_64, hgO_298, hgO_300, hgCd_0, hgCd_1, hgCd_2, hgCd_3, hgCd_4, hgCd_5, hgRecv_O, hgRecv_99, List.length_cons, List.length_nil, Nat.zero_add, Nat.add_zero, Nat.le_refl, Nat.zero_le, and_self, or_true, true_or, true_and, and_true, ne_eq, not_false_eq_true, Nat.reduceLT, Nat.reduceLeDiff, Nat.reduceAdd, Nat.reduceEqDiff, hgn_eq, hgn_lt, hgn_le, if_true, if_false, reduceIte, Nat.not_lt_zero, h, h1]
/-- the rules of a new list -/
theorem hgk_47l (hg : hgGw g) : ∀ (q i : Nat) (M : hgMem) (K1 K2 : Nat), i + q = 12 → M.1 = g + 14 + i → hgR M (g + 12) 0 = some (g + 13) → K1 + q ≤ 13 → K2 + 5 * q ≤ 72 → ∃ M', hgW X 47 15 [some (.ref (g + 12)), some (.int (nI i))] [] (K1, K2) M = some (.inl .null, M') ∧ M'.1 = g + 26 ∧ hgBw (g + 13) M M' ∧ (∀ j, i ≤ j → j < 12 → hgR M' (g + 13) j = some (g + 14 + j)) ∧ ∀ j, j < i → hgR M' (g + 13) j = hgR M (g + 13) j := by
  intro q
  have hg2 := hgGw_le hg
  induction q with
  | zero =>
    intro i M K1 K2 hi hN hR h1 h2
    have h3 : i < 2147483648 := by omega
    have h4 : 12 ≤ i := by omega
    refine ⟨M, ?_, by omega, hgBw_r, fun j j1 j2 => by omega, fun _ _ => rfl⟩
    rw [hgu47_15]
    simp (maxDischargeDepth := 7) only [hgM_t, hgM_f, hgM_n, hgx_aload_n_0, hgx_bipush_12, hgx_iconst_0, hgx_istore_n_1i, hgx_istore_n_1r, hgx_istore_n_1f, hgx_istore_n_1n, hgx_istore_n_1l, hgx_iload_n_1, hgx_ic_ge, hgs_get_5_0, hgx_dup_i, hgx_dup_f, hgx_dup_r, hgx_invspecial_1, hgx_aft_e, hgx_aft_i, hgx_aft_l, hgx_aft_v, hgx_iinc_1_1, hgx_goto, hgx_vret, hgv47_0, hgr47_0, hgu47_0, hgv47_15, hgr47_15, hgv47_40, hgr47_40, hgu47_40, hgI_SI, hgI_SJ, hgJ_SI, hgJ_SJ, if_true, if_false, reduceIte, Nat.reduceEqDiff, hgWf_SI, hgWf_SJ, hgO_SI, hgO_SJ, hgAr_SI, hgAr_SJ, hgRp_SI, hgRp_SJ, hgN_SI, hgN_SJ, hgO_g, hgO_d, hgO_rl, hgO_r, hgO_0, hgO_1, hgO_64, hgO_298, hgO_300, hgCd_0, hgCd_1, hgCd_2, hgCd_3, hgCd_4, hgCd_5, hgRecv_O, hgRecv_99, List.length_cons, List.length_nil, Nat.zero_add, Nat.add_zero, Nat.le_refl, Nat.zero_le, and_self, or_true, true_or, true_and, and_true, ne_eq, not_false_eq_true, Nat.reduceLT, Nat.reduceLeDiff, Nat.reduceAdd, Nat.reduceEqDiff, hgn_eq, hgn_lt, hgn_le, if_true, if_false, reduceIte, Nat.not_lt_zero, h3, h4]
  | succ q ih =>
    intro i M K1 K2 hi hN hR h1 h2
    have h3 : i < 2147483648 := by omega
    have h4 : ¬ 12 ≤ i := by omega
    have h5 : i < 12 := by omega
    have sh : hgSh M.1 = (4, 5) := by
      rw [hN, show g + 14 + i = g + (14 + i) by omega, hgSh_g hg (by omega)]
      unfold hgGsh
      rw [if_neg (by omega), if_neg (by omega), if_neg (by omega), if_neg (by omega), if_neg (by omega), if_pos (by omega)]
    have sh2 : (hgSh (g + 14 + i)).1 = 4 := by rw [← hN, sh]
    have o12 : hgO M (g + 12) 5 := ⟨by omega, by rw [hgSh_g hg (by omega)]; rfl⟩
    have on : hgO (hgNew M) (g + 14 + i) 4 := ⟨by rw [hgNw_1]; omega, sh2⟩
    have k42 := hgk_42 (X := X) on
    have ar : hgAr (hgSI (hgNew M) (g + 14 + i) 0 (nI 0)) (g + 13) 25 12 := ⟨by show g + 13 < (hgNew M).1; rw [hgNw_1]; omega, by rw [hgSh_g hg (by omega)]; rfl⟩
    have on2 : hgO (hgSI (hgNew M) (g + 14 + i) 0 (nI 0)) (g + 14 + i) 4 := on
    obtain ⟨M', e, n1, n2, n3, n4⟩ := ih (i + 1) (hgSR (hgSI (hgNew M) (g + 14 + i) 0 (nI 0)) (g + 13) i (g + 14 + i)) (K1 + 1) (K2 + 5) (by omega) (by show (hgNew M).1 = _; rw [hgNw_1]; omega) (by
      rw [hgR_SR, if_neg (by omega)]
      show hgR (hgNew M) (g + 12) 0 = _
      rw [hgNw_R, if_neg (by omega)]
      exact hR) (by omega) (by omega)
    have c1 : K1 + 1 ≤ 13 := by omega
    have c2 : K2 + 5 ≤ 72 := by omega
    refine ⟨M', ?_, n1, hgBw_t (hgBw_t (hgBw_t (hgBw_new (by omega)) (hgBw_SI (by omega))) (hgBw_SR (by omega))) n2, fun j j1 j2 => ?_, fun j hj => ?_⟩
    · rw [hgu47_15]
      simp (maxDischargeDepth := 7) only [hgM_t, hgM_f, hgM_n, hgx_aload_n_0, hgx_bipush_12, hgx_iconst_0, hgx_istore_n_1i, hgx_istore_n_1r, hgx_istore_n_1f, hgx_istore_n_1n, hgx_istore_n_1l, hgx_iload_n_1, hgx_ic_ge, hgs_get_5_0, hgx_dup_i, hgx_dup_f, hgx_dup_r, hgx_invspecial_1, hgx_aft_e, hgx_aft_i, hgx_aft_l, hgx_aft_v, hgx_iinc_1_1, hgx_goto, hgx_vret, hgv47_0, hgr47_0, hgu47_0, hgv47_15, hgr47_15, hgv47_40, hgr47_40, hgu47_40, hgx_new sh, hgI_SI, hgI_SJ, hgJ_SI, hgJ_SJ, if_true, if_false, reduceIte, Nat.reduceEqDiff, hgWf_SI, hgWf_SJ, hgO_SI, hgO_SJ, hgAr_SI, hgAr_SJ, hgRp_SI, hgRp_SJ, hgN_SI, hgN_SJ, hgO_g, hgO_d, hgO_rl, hgO_r, hgO_0, hgO_1, hgO_64, hgO_298, hgO_300, hgCd_0, hgCd_1, hgCd_2, hgCd_3, hgCd_4, hgCd_5, hgRecv_O, hgRecv_99, List.length_cons, List.length_nil, Nat.zero_add, Nat.add_zero, Nat.le_refl, Nat.zero_le, and_self, or_true, true_or, true_and, and_true, ne_eq, not_false_eq_true, Nat.reduceLT, Nat.reduceLeDiff, Nat.reduceAdd, Nat.reduceEqDiff, hgn_eq, hgn_lt, hgn_le, if_true, if_false, reduceIte, Nat.not_lt_zero, hgn_add, hgn_mul, h3, h4, hgx_get2 (b := g + 13) o12 hR, hN, k42, c1, c2, on, hgx_aastore (n := 12) (ci := 25) (d := 4) ar (by omega) on2 rfl h5 (by omega)]
      exact e
    · by_cases hji : j = i
      · rw [hji, n4 i (by omega), hgR_SR, if_pos rfl, if_pos rfl]
      · exact n3 j (by omega) j2
    · rw [n4 j (by omega), hgR_SR, if_pos rfl, if_neg (by omega)]
      show hgR (hgNew M) (g + 13) j = _
      rw [hgNw_R, if_neg (by omega)]
end HGCTR

/-! CONSTRUCTORS of all the rest; the state at the start. -/
theorem hgNews_f : ∀ (n : Nat) (M : hgMem), (hgNews n M).1 = M.1 + n ∧ (∀ b, b < M.1 → ∀ k, hgI (hgNews n M) b k = hgI M b k ∧ hgJ (hgNews n M) b k = hgJ M b k ∧ hgR (hgNews n M) b k = hgR M b k) ∧ ∀ b, M.1 ≤ b → b < M.1 + n → ∀ k, hgI (hgNews n M) b k = nI 0 ∧ hgJ (hgNews n M) b k = 0
  | 0, M => ⟨rfl, fun _ _ _ => ⟨rfl, rfl, rfl⟩, fun b h1 h2 => by omega⟩
  | n + 1, M => by
    obtain ⟨r1, r2, r3⟩ := hgNews_f n (hgNew M)
    have e : (hgNew M).1 = M.1 + 1 := rfl
    refine ⟨by show (hgNews n (hgNew M)).1 = _; rw [r1, e]; omega, fun b hb k => ?_, fun b h1 h2 k => ?_⟩
    · have w := r2 b (by omega) k
      refine ⟨w.1.trans ?_, w.2.1.trans ?_, w.2.2.trans ?_⟩
      · rw [hgNw_I, if_neg (by omega)]
      · rw [hgNw_J, if_neg (by omega)]
      · rw [hgNw_R, if_neg (by omega)]
    · by_cases h : b = M.1
      · have w := r2 b (by omega) k
        refine ⟨w.1.trans ?_, w.2.1.trans ?_⟩
        · rw [hgNw_I, if_pos h]
        · rw [hgNw_J, if_pos h]
      · exact r3 b (by omega) (by omega) k
theorem hgGrid_f {a : Nat} : ∀ (n : Nat) (M : hgMem), (hgGrid a n M).1 = M.1 ∧ (∀ b k, hgI (hgGrid a n M) b k = hgI M b k) ∧ (∀ b k, hgJ (hgGrid a n M) b k = hgJ M b k) ∧ ∀ b k, hgR (hgGrid a n M) b k = if b = a ∧ k < n then some (a + 1 + k) else hgR M b k
  | 0, M => ⟨rfl, fun _ _ => rfl, fun _ _ => rfl, fun b k => by rw [if_neg (by omega)]; rfl⟩
  | n + 1, M => by
    obtain ⟨r1, r2, r3, r4⟩ := hgGrid_f (a := a) n M
    refine ⟨r1, r2, r3, fun b k => ?_⟩
    show hgR (hgSR (hgGrid a n M) a n (a + 1 + n)) b k = _
    rw [hgR_SR, r4]
    by_cases h1 : b = a
    · rw [if_pos h1]
      by_cases h2 : k = n
      · rw [if_pos h2, if_pos (by omega), h2]
      · rw [if_neg h2]
        by_cases h3 : k < n
        · rw [if_pos ⟨h1, h3⟩, if_pos (by omega)]
        · rw [if_neg (by omega), if_neg (by omega)]
    · rw [if_neg h1, if_neg (by omega), if_neg (by omega)]
section HGCT3
variable {X : hgX} {rm : hgK} {C : Nat → List Value → hgMem → Option hgOut} {J : Nat → hgL → List Value → hgK → hgMem → Option hgOut} {l t : Nat} {ps : List Nat} {hs : List (Nat × Nat × Nat)} {rs : List hgRow} {L : hgL} {S : List Value} {K : hgK} {M M' M1 M2 : hgMem} {x y : Int32} {a b c ci n w idx g i j k kd kr N dm : Nat} {v1 : Option Value}
theorem hgx_multi (h : hgSh M.1 = (kd, n)) (h2 : (List.range n).all (fun j => decide (hgSh (M.1 + 1 + j) = (kr, w))) = true) (h3 : K.1 + (1 + n) ≤ rm.1) (h4 : K.2 + (n + n * w) ≤ rm.2) : hgEx X rm C J ((.multianewarray idx dm, l, [kd, kr, n, w, N], hs) :: rs) L (.int (nI w) :: .int (nI n) :: S) K M = hgEx X rm C J rs L (.ref M.1 :: S) (K.1 + (1 + n), K.2 + (n + n * w)) (hgGrid M.1 n (hgNews (1 + n) M)) := if_pos ⟨rfl, rfl, h, h2, h3, h4⟩
theorem hgk_34 (hN : M.1 = 2) : ∃ M', hgWC X 34 [.ref 1] M = some (.inl .null, M') ∧ M'.1 = 5 ∧ hgBw 1 M M' ∧ hgR M' 1 0 = some 2 ∧ hgR M' 1 1 = some 3 ∧ hgR M' 1 2 = some 4 ∧ ∀ k, hgI M' 1 k = hgI M 1 k := by
  have sh1 : hgSh M.1 = (20, 512) := by rw [hN]; rfl
  have o1 : hgO (hgNew M) 1 3 := ⟨by rw [hgNw_1]; omega, rfl⟩
  have l2 : 2 < (hgNew M).1 := by rw [hgNw_1]; omega
  obtain ⟨Ma, hMa⟩ : ∃ Ma, Ma = hgSR (hgNew M) 1 0 2 := ⟨_, rfl⟩
  have Na : Ma.1 = 3 := by rw [hMa]; show (hgNew M).1 = _; rw [hgNw_1]; omega
  have sh2 : hgSh Ma.1 = (20, 512) := by rw [Na]; rfl
  have o2 : hgO (hgNew Ma) 1 3 := ⟨by rw [hgNw_1]; omega, rfl⟩
  have l3 : 3 < (hgNew Ma).1 := by rw [hgNw_1]; omega
  obtain ⟨Mb, hMb⟩ : ∃ Mb, Mb = hgSR (hgNew Ma) 1 1 3 := ⟨_, rfl⟩
  have Nb : Mb.1 = 4 := by rw [hMb]; show (hgNew Ma).1 = _; rw [hgNw_1]; omega
  have sh3 : hgSh Mb.1 = (20, 512) := by rw [Nb]; rfl
  have o3 : hgO (hgNew Mb) 1 3 := ⟨by rw [hgNw_1]; omega, rfl⟩
  have l4 : 4 < (hgNew Mb).1 := by rw [hgNw_1]; omega
  have Ba : hgBw 1 M Ma := by rw [hMa]; exact hgBw_t (hgBw_new (by omega)) (hgBw_SR (by omega))
  have Bb : hgBw 1 Ma Mb := by rw [hMb]; exact hgBw_t (hgBw_new (by omega)) (hgBw_SR (by omega))
  have R : ∀ k, hgR (hgSR (hgNew Mb) 1 2 4) 1 k = if k = 2 then some 4 else if k = 1 then some 3 else if k = 0 then some 2 else hgR M 1 k := fun k => by
    rw [hgR_SR, if_pos rfl, hgNw_R, if_neg (show 1 ≠ Mb.1 by omega), hMb, hgR_SR, if_pos rfl, hgNw_R, if_neg (show 1 ≠ Ma.1 by omega), hMa, hgR_SR, if_pos rfl, hgNw_R, if_neg (show 1 ≠ M.1 by omega)]
  refine ⟨hgSR (hgNew Mb) 1 2 4, ?_, by show (hgNew Mb).1 = _; rw [hgNw_1]; omega, hgBw_t (hgBw_t Ba Bb) (hgBw_t (hgBw_new (by omega)) (hgBw_SR (by omega))), by rw [R]; rfl, by rw [R]; rfl, by rw [R]; rfl, fun k => ?_⟩
  · simp (maxDischargeDepth := 7) only [hgc34, hgM_t, hgM_f, hgM_n, hgx_aload_n_0, hgx_sipush_512, hgx_vret, hgv34_0, hgr34_0, hgu34_0, hgx_1005, hgx_newa sh1, hgx_put2, hgI_SI, hgI_SJ, hgJ_SI, hgJ_SJ, if_true, if_false, reduceIte, Nat.reduceEqDiff, hgWf_SI, hgWf_SJ, hgO_SI, hgO_SJ, hgAr_SI, hgAr_SJ, hgRp_SI, hgRp_SJ, hgN_SI, hgN_SJ, hgO_g, hgO_d, hgO_rl, hgO_r, hgO_0, hgO_1, hgO_64, hgO_298, hgO_300, hgCd_0, hgCd_1, hgCd_2, hgCd_3, hgCd_4, hgCd_5, hgRecv_O, hgRecv_99, List.length_cons, List.length_nil, Nat.zero_add, Nat.add_zero, Nat.le_refl, Nat.zero_le, and_self, or_true, true_or, true_and, and_true, ne_eq, not_false_eq_true, Nat.reduceLT, Nat.reduceLeDiff, Nat.reduceAdd, Nat.reduceEqDiff, hgn_eq, hgn_lt, hgn_le, if_true, if_false, reduceIte, Nat.not_lt_zero, hgn_add, hgn_mul, hN, o1, l2]
    rw [← hMa]
    simp (maxDischargeDepth := 7) only [hgM_t, hgM_f, hgM_n, hgx_aload_n_0, hgx_sipush_512, hgx_vret, hgv34_0, hgr34_0, hgu34_0, hgx_newa sh2, hgx_put2, hgI_SI, hgI_SJ, hgJ_SI, hgJ_SJ, if_true, if_false, reduceIte, Nat.reduceEqDiff, hgWf_SI, hgWf_SJ, hgO_SI, hgO_SJ, hgAr_SI, hgAr_SJ, hgRp_SI, hgRp_SJ, hgN_SI, hgN_SJ, hgO_g, hgO_d, hgO_rl, hgO_r, hgO_0, hgO_1, hgO_64, hgO_298, hgO_300, hgCd_0, hgCd_1, hgCd_2, hgCd_3, hgCd_4, hgCd_5, hgRecv_O, hgRecv_99, List.length_cons, List.length_nil, Nat.zero_add, Nat.add_zero, Nat.le_refl, Nat.zero_le, and_self, or_true, true_or, true_and, and_true, ne_eq, not_false_eq_true, Nat.reduceLT, Nat.reduceLeDiff, Nat.reduceAdd, Nat.reduceEqDiff, hgn_eq, hgn_lt, hgn_le, if_true, if_false, reduceIte, Nat.not_lt_zero, hgn_add, hgn_mul, Na, o2, l3]
    rw [← hMb]
    simp (maxDischargeDepth := 7) only [hgM_t, hgM_f, hgM_n, hgx_aload_n_0, hgx_sipush_512, hgx_vret, hgv34_0, hgr34_0, hgu34_0, hgx_newa sh3, hgx_put2, hgI_SI, hgI_SJ, hgJ_SI, hgJ_SJ, if_true, if_false, reduceIte, Nat.reduceEqDiff, hgWf_SI, hgWf_SJ, hgO_SI, hgO_SJ, hgAr_SI, hgAr_SJ, hgRp_SI, hgRp_SJ, hgN_SI, hgN_SJ, hgO_g, hgO_d, hgO_rl, hgO_r, hgO_0, hgO_1, hgO_64, hgO_298, hgO_300, hgCd_0, hgCd_1, hgCd_2, hgCd_3, hgCd_4, hgCd_5, hgRecv_O, hgRecv_99, List.length_cons, List.length_nil, Nat.zero_add, Nat.add_zero, Nat.le_refl, Nat.zero_le, and_self, or_true, true_or, true_and, and_true, ne_eq, not_false_eq_true, Nat.reduceLT, Nat.reduceLeDiff, Nat.reduceAdd, Nat.reduceEqDiff, hgn_eq, hgn_lt, hgn_le, if_true, if_false, reduceIte, Nat.not_lt_zero, hgn_add, hgn_mul, Nb, o3, l4]
  · show hgI (hgNew Mb) 1 k = _
    rw [hgNw_I, if_neg (by omega), hMb]
    show hgI (hgNew Ma) 1 k = _
    rw [hgNw_I, if_neg (by omega), hMa]
    show hgI (hgNew M) 1 k = _
    rw [hgNw_I, if_neg (by omega)]
set_option maxRecDepth 100000 in
theorem hgk_31l : ∀ (q i : Nat) (M : hgMem) (K1 K2 : Nat), i + q = 8 → M.1 = 66 + 29 * i → hgR M 64 0 = some 65 → K1 + 29 * q ≤ 233 → K2 + 264 * q ≤ 2120 → ∃ M', hgW X 31 15 [some (.ref 64), some (.ref 1), some (.int (nI i))] [] (K1, K2) M = some (.inl .null, M') ∧ M'.1 = 298 ∧ hgBw 65 M M' ∧ (∀ j, i ≤ j → j < 8 → hgR M' 65 j = some (66 + 29 * j) ∧ hgGk M' (66 + 29 * j)) ∧ (∀ j, j < i → hgR M' 65 j = hgR M 65 j) ∧ ∀ b, 66 ≤ b → b < 66 + 29 * i → ∀ k, hgI M' b k = hgI M b k ∧ hgJ M' b k = hgJ M b k ∧ hgR M' b k = hgR M b k := by
  intro q
  induction q with
  | zero =>
    intro i M K1 K2 hi hN hR h1 h2
    have h3 : i < 2147483648 := by omega
    have h4 : 8 ≤ i := by omega
    refine ⟨M, ?_, by omega, hgBw_r, fun j j1 j2 => by omega, fun _ _ => rfl, fun _ _ _ _ => ⟨rfl, rfl, rfl⟩⟩
    rw [hgu31_15]
    simp (maxDischargeDepth := 7) only [hgM_t, hgM_f, hgM_n, hgx_aload_n_0, hgx_bipush_8, hgx_iconst_0, hgx_istore_n_2i, hgx_istore_n_2r, hgx_istore_n_2f, hgx_istore_n_2n, hgx_istore_n_2l, hgx_iload_n_2, hgx_ic_ge, hgs_get_2_0, hgx_dup_i, hgx_dup_f, hgx_dup_r, hgx_aload_n_1, hgx_invspecial_2, hgx_aft_e, hgx_aft_i, hgx_aft_l, hgx_aft_v, hgx_iinc_2_1, hgx_goto, hgx_vret, hgv31_0, hgr31_0, hgu31_0, hgv31_15, hgr31_15, hgv31_41, hgr31_41, hgu31_41, hgI_SI, hgI_SJ, hgJ_SI, hgJ_SJ, if_true, if_false, reduceIte, Nat.reduceEqDiff, hgWf_SI, hgWf_SJ, hgO_SI, hgO_SJ, hgAr_SI, hgAr_SJ, hgRp_SI, hgRp_SJ, hgN_SI, hgN_SJ, hgO_g, hgO_d, hgO_rl, hgO_r, hgO_0, hgO_1, hgO_64, hgO_298, hgO_300, hgCd_0, hgCd_1, hgCd_2, hgCd_3, hgCd_4, hgCd_5, hgRecv_O, hgRecv_99, List.length_cons, List.length_nil, Nat.zero_add, Nat.add_zero, Nat.le_refl, Nat.zero_le, and_self, or_true, true_or, true_and, and_true, ne_eq, not_false_eq_true, Nat.reduceLT, Nat.reduceLeDiff, Nat.reduceAdd, Nat.reduceEqDiff, hgn_eq, hgn_lt, hgn_le, if_true, if_false, reduceIte, Nat.not_lt_zero, h3, h4]
  | succ q ih =>
    intro i M K1 K2 hi hN hR h1 h2
    have h3 : i < 2147483648 := by omega
    have h4 : ¬ 8 ≤ i := by omega
    have h5 : i < 8 := by omega
    have c1 : K1 + 1 ≤ 233 := Nat.le_trans (by omega) h1
    have c2 : K2 + 16 ≤ 2120 := Nat.le_trans (by omega) h2
    have c3 : K1 + 1 + 28 ≤ 233 := Nat.le_trans (by omega) h1
    have c4 : K2 + 16 + 248 ≤ 2120 := Nat.le_trans (show K2 + 16 + 248 ≤ K2 + 264 * (q + 1) by omega) h2
    have hg : hgGw (66 + 29 * i) := hgGw_s h5
    have sh : hgSh M.1 = (1, 16) := by rw [hN, show 66 + 29 * i = 66 + 29 * i + 0 from rfl, hgSh_g hg (by omega)]; rfl
    have o64 : hgO M 64 2 := ⟨by omega, rfl⟩
    have on : hgO (hgNew M) (66 + 29 * i) 1 := ⟨by rw [hgNw_1]; omega, by rw [← hN, sh]⟩
    obtain ⟨M1, e1, n1, b1, g1⟩ := hgk_8 (X := X) (M := hgNew M) hg (by rw [hgNw_1]; omega) (fun k => by rw [hgNw_I, if_pos hN.symm])
    have ar : hgAr M1 65 26 8 := ⟨by omega, rfl⟩
    have on2 : hgO M1 (66 + 29 * i) 1 := ⟨by omega, by rw [← hN, sh]⟩
    have low : ∀ b, b < 66 + 29 * i → ∀ k, hgI M1 b k = hgI M b k ∧ hgJ M1 b k = hgJ M b k ∧ hgR M1 b k = hgR M b k := fun b hb k => by
      have w := b1 b hb k
      have v := hgBw_new (M := M) (n := 66 + 29 * i) (by omega) b hb k
      exact ⟨w.1.trans v.1, w.2.1.trans v.2.1, w.2.2.trans v.2.2⟩
    obtain ⟨M', e, n2, n3, n4, n5, n6⟩ := ih (i + 1) (hgSR M1 65 i (66 + 29 * i)) (K1 + 29) (K2 + 264) (by omega) (by show M1.1 = _; omega) (by
      rw [hgR_SR, if_neg (by omega), (low 64 (by omega) 0).2.2]
      exact hR) (by omega) (by omega)
    refine ⟨M', ?_, n2, ?_, fun j j1 j2 => ?_, fun j hj => ?_, fun b h1 h2 k => ?_⟩
    · rw [hgu31_15]
      simp (maxDischargeDepth := 7) only [hgM_t, hgM_f, hgM_n, hgx_aload_n_0, hgx_bipush_8, hgx_iconst_0, hgx_istore_n_2i, hgx_istore_n_2r, hgx_istore_n_2f, hgx_istore_n_2n, hgx_istore_n_2l, hgx_iload_n_2, hgx_ic_ge, hgs_get_2_0, hgx_dup_i, hgx_dup_f, hgx_dup_r, hgx_aload_n_1, hgx_invspecial_2, hgx_aft_e, hgx_aft_i, hgx_aft_l, hgx_aft_v, hgx_iinc_2_1, hgx_goto, hgx_vret, hgv31_0, hgr31_0, hgu31_0, hgv31_15, hgr31_15, hgv31_41, hgr31_41, hgu31_41, hgx_new sh, hgI_SI, hgI_SJ, hgJ_SI, hgJ_SJ, if_true, if_false, reduceIte, Nat.reduceEqDiff, hgWf_SI, hgWf_SJ, hgO_SI, hgO_SJ, hgAr_SI, hgAr_SJ, hgRp_SI, hgRp_SJ, hgN_SI, hgN_SJ, hgO_g, hgO_d, hgO_rl, hgO_r, hgO_0, hgO_1, hgO_64, hgO_298, hgO_300, hgCd_0, hgCd_1, hgCd_2, hgCd_3, hgCd_4, hgCd_5, hgRecv_O, hgRecv_99, List.length_cons, List.length_nil, Nat.zero_add, Nat.add_zero, Nat.le_refl, Nat.zero_le, and_self, or_true, true_or, true_and, and_true, ne_eq, not_false_eq_true, Nat.reduceLT, Nat.reduceLeDiff, Nat.reduceAdd, Nat.reduceEqDiff, hgn_eq, hgn_lt, hgn_le, if_true, if_false, reduceIte, Nat.not_lt_zero, hgn_add, hgn_mul, h3, h4, hgx_get2 (b := 65) o64 hR, hN, c1, c2, c3, c4, on, e1, hgx_aastore (n := 8) (ci := 26) (d := 1) ar (by omega) on2 rfl h5 (by omega)]
      exact e
    · intro b hb k
      have w := n3 b hb k
      have v := low b (by omega) k
      exact ⟨w.1.trans v.1, w.2.1.trans v.2.1, w.2.2.trans ((by rw [hgR_SR, if_neg (by omega)] : hgR (hgSR M1 65 i (66 + 29 * i)) b k = hgR M1 b k).trans v.2.2)⟩
    · by_cases hji : j = i
      · subst hji
        refine ⟨by rw [n5 j (by omega), hgR_SR, if_pos rfl, if_pos rfl], ?_⟩
        obtain ⟨a1, a2, a3, a4, a5, a6, a7, a8, a9, a10, a11, a12⟩ := g1
        have o : ∀ b, 66 + 29 * j ≤ b → b < 66 + 29 * j + 29 → ∀ k, hgI M' b k = hgI M1 b k ∧ hgR M' b k = hgR M1 b k := fun b z1 z2 k => by
          have w := n6 b (by omega) (by omega) k
          exact ⟨w.1, w.2.2.trans (by rw [hgR_SR, if_neg (by omega)])⟩
        refine ⟨by rw [(o _ (by omega) (by omega) 0).2]; exact a1, by rw [(o _ (by omega) (by omega) 5).2]; exact a2, by rw [(o _ (by omega) (by omega) 7).2]; exact a3, by rw [(o _ (by omega) (by omega) 8).2]; exact a4, by rw [(o _ (by omega) (by omega) 10).2]; exact a5, by rw [(o _ (by omega) (by omega) 11).2]; exact a6, by rw [(o _ (by omega) (by omega) 0).2]; exact a7, fun j2 hj => by rw [(o _ (by omega) (by omega) j2).2]; exact a8 j2 hj, fun j2 hj => by rw [(o _ (by omega) (by omega) j2).2]; exact a9 j2 hj, fun k => by rw [(o _ (by omega) (by omega) k).1]; exact a10 k, fun k => by rw [(o _ (by omega) (by omega) k).1]; exact a11 k, fun k => by rw [(o _ (by omega) (by omega) k).1, (o _ (by omega) (by omega) k).1]; exact a12 k⟩
      · exact n4 j (by omega) j2
    · rw [n5 j (by omega), hgR_SR, if_pos rfl, if_neg (by omega), (low 65 (by omega) j).2.2]
    · have w := n6 b h1 (by omega) k
      have v := low b (by omega) k
      exact ⟨w.1.trans v.1, w.2.1.trans v.2.1, w.2.2.trans ((by rw [hgR_SR, if_neg (by omega)] : hgR (hgSR M1 65 i (66 + 29 * i)) b k = hgR M1 b k).trans v.2.2)⟩
theorem hgk_31 (hN : M.1 = 65) : ∃ M', hgWC X 31 [.ref 64, .ref 1] M = some (.inl .null, M') ∧ M'.1 = 298 ∧ hgBw 64 M M' ∧ hgR M' 64 0 = some 65 ∧ (∀ j, j < 8 → hgR M' 65 j = some (66 + 29 * j) ∧ hgGk M' (66 + 29 * j)) ∧ ∀ k, hgI M' 64 k = hgI M 64 k := by
  have sh : hgSh M.1 = (26, 8) := by rw [hN]; rfl
  have o64 : hgO (hgNew M) 64 2 := ⟨by rw [hgNw_1]; omega, rfl⟩
  have l65 : 65 < (hgNew M).1 := by rw [hgNw_1]; omega
  obtain ⟨M', e, n2, n3, n4, n5, n6⟩ := hgk_31l (X := X) 8 0 (hgSR (hgNew M) 64 0 65) 1 8 (by omega) (by show (hgNew M).1 = _; rw [hgNw_1]; omega) (by rw [hgR_SR, if_pos rfl, if_pos rfl]) (by omega) (by omega)
  refine ⟨M', ?_, n2, hgBw_t (hgBw_t (hgBw_new (by omega)) (hgBw_SR (by omega))) (hgBw_m n3 (by omega)), by rw [(n3 64 (by omega) 0).2.2, hgR_SR, if_pos rfl, if_pos rfl], fun j hj => n4 j (by omega) hj, fun k => ?_⟩
  · simp (maxDischargeDepth := 7) only [hgc31, hgM_t, hgM_f, hgM_n, hgx_aload_n_0, hgx_bipush_8, hgx_iconst_0, hgx_istore_n_2i, hgx_istore_n_2r, hgx_istore_n_2f, hgx_istore_n_2n, hgx_istore_n_2l, hgx_iload_n_2, hgx_ic_ge, hgs_get_2_0, hgx_dup_i, hgx_dup_f, hgx_dup_r, hgx_aload_n_1, hgx_invspecial_2, hgx_aft_e, hgx_aft_i, hgx_aft_l, hgx_aft_v, hgx_iinc_2_1, hgx_goto, hgx_vret, hgv31_0, hgr31_0, hgu31_0, hgv31_15, ← hgu31_15, hgv31_41, hgr31_41, hgu31_41, hgx_1005, hgx_anew sh, hgx_put2, hgI_SI, hgI_SJ, hgJ_SI, hgJ_SJ, if_true, if_false, reduceIte, Nat.reduceEqDiff, hgWf_SI, hgWf_SJ, hgO_SI, hgO_SJ, hgAr_SI, hgAr_SJ, hgRp_SI, hgRp_SJ, hgN_SI, hgN_SJ, hgO_g, hgO_d, hgO_rl, hgO_r, hgO_0, hgO_1, hgO_64, hgO_298, hgO_300, hgCd_0, hgCd_1, hgCd_2, hgCd_3, hgCd_4, hgCd_5, hgRecv_O, hgRecv_99, List.length_cons, List.length_nil, Nat.zero_add, Nat.add_zero, Nat.le_refl, Nat.zero_le, and_self, or_true, true_or, true_and, and_true, ne_eq, not_false_eq_true, Nat.reduceLT, Nat.reduceLeDiff, Nat.reduceAdd, Nat.reduceEqDiff, hgn_eq, hgn_lt, hgn_le, if_true, if_false, reduceIte, Nat.not_lt_zero, hgn_add, hgn_mul, hN, o64, l65]
    exact e
  · rw [(n3 64 (by omega) k).1]
    show hgI (hgNew M) 64 k = _
    rw [hgNw_I, if_neg (by omega)]
theorem hgk_60 (hN : M.1 = 299) : ∃ M', hgWC X 60 [.ref 298, .ref 5, .ref 35] M = some (.inl .null, M') ∧ M'.1 = 300 ∧ hgBw 298 M M' ∧ hgR M' 298 0 = some 5 ∧ hgR M' 298 5 = some 35 ∧ hgR M' 298 8 = some 299 := by
  have o298 : hgO M 298 6 := ⟨by omega, rfl⟩
  obtain ⟨Ma, hMa⟩ : ∃ Ma, Ma = hgSR (hgSR M 298 0 5) 298 5 35 := ⟨_, rfl⟩
  have Na : Ma.1 = 299 := by rw [hMa]; exact hN
  have o1 : hgO (hgSR M 298 0 5) 298 6 := o298
  have l5 : 5 < M.1 := by omega
  have l35 : 35 < (hgSR M 298 0 5).1 := by show 35 < M.1; omega
  have sh : hgSh Ma.1 = (23, 3) := by rw [Na]; rfl
  have o2 : hgO (hgNew Ma) 298 6 := ⟨by rw [hgNw_1]; omega, rfl⟩
  have l299 : 299 < (hgNew Ma).1 := by rw [hgNw_1]; omega
  have o3 : hgO (hgSR (hgNew Ma) 298 8 299) 298 6 := o2
  have Ba : hgBw 298 M Ma := by rw [hMa]; exact hgBw_t (hgBw_SR (by omega)) (hgBw_SR (by omega))
  have R : ∀ k, hgR (hgSI (hgSR (hgNew Ma) 298 8 299) 298 10 (-1)) 298 k = if k = 8 then some 299 else if k = 5 then some 35 else if k = 0 then some 5 else hgR M 298 k := fun k => by
    show hgR (hgSR (hgNew Ma) 298 8 299) 298 k = _
    rw [hgR_SR, if_pos rfl, hgNw_R, if_neg (show 298 ≠ Ma.1 by omega), hMa, hgR_SR, if_pos rfl, hgR_SR, if_pos rfl]
  refine ⟨hgSI (hgSR (hgNew Ma) 298 8 299) 298 10 (-1), ?_, by show (hgNew Ma).1 = _; rw [hgNw_1]; omega, hgBw_t Ba (hgBw_t (hgBw_t (hgBw_new (by omega)) (hgBw_SR (by omega))) (hgBw_SI (by omega))), by rw [R]; rfl, by rw [R]; rfl, by rw [R]; rfl⟩
  simp (maxDischargeDepth := 7) only [hgc60, hgM_t, hgM_f, hgM_n, hgx_aload_n_0, hgx_aload_n_1, hgx_aload_n_2, hgx_iconst_3, hgx_iconst_m1, hgx_put0, hgx_vret, hgv60_0, hgr60_0, hgu60_0, hgx_1005, hgx_put2, hgI_SI, hgI_SJ, hgJ_SI, hgJ_SJ, if_true, if_false, reduceIte, Nat.reduceEqDiff, hgWf_SI, hgWf_SJ, hgO_SI, hgO_SJ, hgAr_SI, hgAr_SJ, hgRp_SI, hgRp_SJ, hgN_SI, hgN_SJ, hgO_g, hgO_d, hgO_rl, hgO_r, hgO_0, hgO_1, hgO_64, hgO_298, hgO_300, hgCd_0, hgCd_1, hgCd_2, hgCd_3, hgCd_4, hgCd_5, hgRecv_O, hgRecv_99, List.length_cons, List.length_nil, Nat.zero_add, Nat.add_zero, Nat.le_refl, Nat.zero_le, and_self, or_true, true_or, true_and, and_true, ne_eq, not_false_eq_true, Nat.reduceLT, Nat.reduceLeDiff, Nat.reduceAdd, Nat.reduceEqDiff, hgn_eq, hgn_lt, hgn_le, if_true, if_false, reduceIte, Nat.not_lt_zero, hgn_add, hgn_mul, hN, o298, o1, hgSR_1]
  rw [← hMa]
  simp (maxDischargeDepth := 7) only [hgM_t, hgM_f, hgM_n, hgx_aload_n_0, hgx_aload_n_1, hgx_aload_n_2, hgx_iconst_3, hgx_iconst_m1, hgx_put0, hgx_vret, hgv60_0, hgr60_0, hgu60_0, hgx_newa sh, hgx_put2, hgI_SI, hgI_SJ, hgJ_SI, hgJ_SJ, if_true, if_false, reduceIte, Nat.reduceEqDiff, hgWf_SI, hgWf_SJ, hgO_SI, hgO_SJ, hgAr_SI, hgAr_SJ, hgRp_SI, hgRp_SJ, hgN_SI, hgN_SJ, hgO_g, hgO_d, hgO_rl, hgO_r, hgO_0, hgO_1, hgO_64, hgO_298, hgO_300, hgCd_0, hgCd_1, hgCd_2, hgCd_3, hgCd_4, hgCd_5, hgRecv_O, hgRecv_99, List.length_cons, List.length_nil, Nat.zero_add, Nat.add_zero, Nat.le_refl, Nat.zero_le, and_self, or_true, true_or, true_and, and_true, ne_eq, not_false_eq_true, Nat.reduceLT, Nat.reduceLeDiff, Nat.reduceAdd, Nat.reduceEqDiff, hgn_eq, hgn_lt, hgn_le, if_true, if_false, reduceIte, Nat.not_lt_zero, hgn_add, hgn_mul, Na, o2, l299, o3]
end HGCT3

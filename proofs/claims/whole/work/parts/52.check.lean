/-! NUMBERS WITHIN BOUNDS, and the checks of both sides. -/
theorem hgin_i {x : Int32} {n : Nat} (hn : n < 2147483648) : (∃ i, i < n ∧ x = nI i) ↔ (0 ≤ x.toInt ∧ x.toInt < n) := by
  constructor
  · rintro ⟨i, h1, h2⟩
    rw [h2, hgn_int (by omega)]
    omega
  · rintro ⟨h1, h2⟩
    refine ⟨x.toInt.toNat, by omega, ?_⟩
    apply Int32.toInt_inj.mp
    rw [hgn_int (by omega)]
    omega
theorem hgin_o {x : Int32} {n : Nat} (hn : n < 1000) : (∃ o : Option Nat, (∀ i, o = some i → i < n) ∧ x = hgOi o) ↔ (-1 ≤ x.toInt ∧ x.toInt < n) := by
  constructor
  · rintro ⟨o, h1, h2⟩
    rw [h2]
    cases o with
    | none =>
      have e : (hgOi none).toInt = -1 := by decide
      omega
    | some i =>
      have := h1 i rfl
      have e : (hgOi (some i)).toInt = i := hgn_int (by omega)
      omega
  · rintro ⟨h1, h2⟩
    by_cases h : 0 ≤ x.toInt
    · obtain ⟨i, q1, q2⟩ := (hgin_i (x := x) (n := n) (by omega)).mpr ⟨h, h2⟩
      exact ⟨some i, fun j hj => by cases hj; exact q1, q2⟩
    · refine ⟨none, (fun j hj => by cases hj), ?_⟩
      apply Int32.toInt_inj.mp
      have e : (hgOi none).toInt = -1 := by decide
      omega
theorem hgle_i {x y : Int32} : x ≤ y ↔ x.toInt ≤ y.toInt := Int32.le_iff_toInt_le
theorem hglt_i {x y : Int32} : x < y ↔ x.toInt < y.toInt := Int32.lt_iff_toInt_lt
theorem hgn_0 : (nI 0).toInt = 0 := hgn_int (by omega)
theorem hgn_m1 {n : Nat} (hn : n < 1000) : (nI n - nI 1).toInt = (n : Int) - 1 := by
  rw [Int32.toInt_sub, hgn_int (by omega), hgn_int (by omega)]
  rw [Int.bmod_eq_of_le] <;> omega
theorem hgBtw_i {x y z : Int32} : hgBtw x y z = decide (y.toInt ≤ x.toInt ∧ x.toInt ≤ z.toInt) := by
  unfold hgBtw
  by_cases h1 : y ≤ x <;> by_cases h2 : x ≤ z <;> simp only [h1, h2, decide_true, decide_false, Bool.and_true, Bool.and_false, Bool.true_and] <;> rw [hgle_i] at h1 h2
  · exact (decide_eq_true ⟨h1, h2⟩).symm
  · exact (decide_eq_false (fun q => h2 q.2)).symm
  · exact (decide_eq_false (fun q => h1 q.1)).symm
  · exact (decide_eq_false (fun q => h1 q.1)).symm
section HGCHK
variable {X : hgX} {M M' : hgMem} {d t g h i j q c k a b n p : Nat} {V V' W : hgV} {Hs : List hgV} {x y z : Int32} {u : Int64} {P : Nat → Prop} {o : Option Nat}
theorem hgBtw_n (hn : n < 1000) : hgBtw x (nI 0) (nI n - nI 1) = true ↔ ∃ i, i < n ∧ x = nI i := by
  rw [hgBtw_i, hgin_i (by omega), hgn_0, hgn_m1 hn, decide_eq_true_iff]
  omega
theorem hgBtw_m (hn : n < 1000) : hgBtw x (-1) (nI n - nI 1) = true ↔ ∃ o : Option Nat, (∀ i, o = some i → i < n) ∧ x = hgOi o := by
  rw [hgBtw_i, hgin_o (by omega), hgn_m1 hn, decide_eq_true_iff]
  have e : (-1 : Int32).toInt = -1 := by decide
  omega
theorem hgBtw_c {m : Nat} (hn : n < 1000) (hm : m + 1 = n) : hgBtw x (nI 0) (nI m) = true ↔ ∃ i, i < n ∧ x = nI i := by
  rw [hgBtw_i, hgin_i (by omega), hgn_0, hgn_int (by omega), decide_eq_true_iff]
  omega
theorem hgnot_lt0 (h : ∃ i, i < n ∧ x = nI i) (hn : n < 2147483648) : ¬ x < nI 0 ∧ x < nI n := by
  rw [hgin_i hn] at h
  rw [hglt_i, hglt_i, hgn_0, hgn_int hn]
  omega
theorem hgout_i (h : ¬ ∃ i, i < n ∧ x = nI i) (hn : n < 2147483648) (h2 : ¬ x < nI 0) : ¬ x < nI n := by
  rw [hgin_i hn] at h
  rw [hglt_i, hgn_0] at h2
  rw [hglt_i, hgn_int hn]
  omega
theorem hgout_o (h : ¬ ∃ o : Option Nat, (∀ i, o = some i → i < n) ∧ x = hgOi o) (hn : n < 1000) (h2 : ¬ x < -1) : ¬ x < nI n := by
  rw [hgin_o hn] at h
  have e : (-1 : Int32).toInt = -1 := by decide
  rw [hglt_i, e] at h2
  rw [hglt_i, hgn_int (by omega)]
  omega
theorem hgSC_6 (h : hgSC M V Hs c) : hgWf M ∧ hgGw 6 ∧ hgI M 6 6 = nI (vN V) ∧ vN V ≤ 10 ∧ hgI M 18 1 = nI (vR V) ∧ vR V ≤ 12 := ⟨h.1, Or.inl rfl, h.2.2.1.2.1, h.2.2.2.2.1.1, h.2.2.1.2.2.1, h.2.2.2.2.1.2.1⟩
theorem hgk_117a (h : hgSC M V Hs c) (hi : i < vN V) : hgWC X 117 [.ref 0, .int (nI i)] M = some (.inl .null, M) := by
  obtain ⟨hw, g6, hn, hN, _, _⟩ := hgSC_6 h
  have h1 : i < 2147483648 := by omega
  have h2 : vN V < 2147483648 := by omega
  simp (maxDischargeDepth := 7) only [hgc117, hgM_t, hgM_f, hgM_n, hgx_iload_n_1, hgx_if_lt, hgx_aload_n_0, hgs_get_7_3, hgx_get0, hgx_ic_lt, hgx_throw, hgx_vret, hgv117_0, hgr117_0, hgu117_0, hgv117_15, hgr117_15, hgu117_15, hgv117_25, hgr117_25, hgu117_25, hgI_SI, hgI_SJ, hgJ_SI, hgJ_SJ, if_true, if_false, reduceIte, Nat.reduceEqDiff, hgWf_SI, hgWf_SJ, hgO_SI, hgO_SJ, hgAr_SI, hgAr_SJ, hgRp_SI, hgRp_SJ, hgN_SI, hgN_SJ, hgO_g, hgO_d, hgO_rl, hgO_r, hgO_0, hgO_1, hgO_64, hgO_298, hgO_300, hgCd_0, hgCd_1, hgCd_2, hgCd_3, hgCd_4, hgCd_5, hgRecv_O, hgRecv_99, List.length_cons, List.length_nil, Nat.zero_add, Nat.add_zero, Nat.le_refl, Nat.zero_le, and_self, or_true, true_or, true_and, and_true, ne_eq, not_false_eq_true, Nat.reduceLT, Nat.reduceLeDiff, Nat.reduceAdd, Nat.reduceEqDiff, hgn_eq, hgn_lt, hgn_le, if_true, if_false, reduceIte, Nat.not_lt_zero, hw, g6, hn, h1, h2, hi]
theorem hgk_117b (h : hgSC M V Hs c) (hx : ¬ ∃ i, i < vN V ∧ x = nI i) : hgWC X 117 [.ref 0, .int x] M = some (.inr 2, M) := by
  obtain ⟨hw, g6, hn, hN, _, _⟩ := hgSC_6 h
  have h2 : vN V < 2147483648 := by omega
  by_cases q : x < nI 0
  · simp (maxDischargeDepth := 7) only [hgc117, hgM_t, hgM_f, hgM_n, hgx_iload_n_1, hgx_if_lt, hgx_aload_n_0, hgs_get_7_3, hgx_get0, hgx_ic_lt, hgx_throw, hgx_vret, hgv117_0, hgr117_0, hgu117_0, hgv117_15, hgr117_15, hgu117_15, hgv117_25, hgr117_25, hgu117_25, hgx_throw, hgI_SI, hgI_SJ, hgJ_SI, hgJ_SJ, if_true, if_false, reduceIte, Nat.reduceEqDiff, hgWf_SI, hgWf_SJ, hgO_SI, hgO_SJ, hgAr_SI, hgAr_SJ, hgRp_SI, hgRp_SJ, hgN_SI, hgN_SJ, hgO_g, hgO_d, hgO_rl, hgO_r, hgO_0, hgO_1, hgO_64, hgO_298, hgO_300, hgCd_0, hgCd_1, hgCd_2, hgCd_3, hgCd_4, hgCd_5, hgRecv_O, hgRecv_99, List.length_cons, List.length_nil, Nat.zero_add, Nat.add_zero, Nat.le_refl, Nat.zero_le, and_self, or_true, true_or, true_and, and_true, ne_eq, not_false_eq_true, Nat.reduceLT, Nat.reduceLeDiff, Nat.reduceAdd, Nat.reduceEqDiff, hgn_eq, hgn_lt, hgn_le, if_true, if_false, reduceIte, Nat.not_lt_zero, hw, g6, hn, q]
  · have q2 := hgout_i hx h2 q
    simp (maxDischargeDepth := 7) only [hgc117, hgM_t, hgM_f, hgM_n, hgx_iload_n_1, hgx_if_lt, hgx_aload_n_0, hgs_get_7_3, hgx_get0, hgx_ic_lt, hgx_throw, hgx_vret, hgv117_0, hgr117_0, hgu117_0, hgv117_15, hgr117_15, hgu117_15, hgv117_25, hgr117_25, hgu117_25, hgx_throw, hgI_SI, hgI_SJ, hgJ_SI, hgJ_SJ, if_true, if_false, reduceIte, Nat.reduceEqDiff, hgWf_SI, hgWf_SJ, hgO_SI, hgO_SJ, hgAr_SI, hgAr_SJ, hgRp_SI, hgRp_SJ, hgN_SI, hgN_SJ, hgO_g, hgO_d, hgO_rl, hgO_r, hgO_0, hgO_1, hgO_64, hgO_298, hgO_300, hgCd_0, hgCd_1, hgCd_2, hgCd_3, hgCd_4, hgCd_5, hgRecv_O, hgRecv_99, List.length_cons, List.length_nil, Nat.zero_add, Nat.add_zero, Nat.le_refl, Nat.zero_le, and_self, or_true, true_or, true_and, and_true, ne_eq, not_false_eq_true, Nat.reduceLT, Nat.reduceLeDiff, Nat.reduceAdd, Nat.reduceEqDiff, hgn_eq, hgn_lt, hgn_le, if_true, if_false, reduceIte, Nat.not_lt_zero, hw, g6, hn, q, q2]
theorem hgk_118a (h : hgSC M V Hs c) (ho : ∀ i, o = some i → i < vN V) : hgWC X 118 [.ref 0, .int (hgOi o)] M = some (.inl .null, M) := by
  obtain ⟨hw, g6, hn, hN, _, _⟩ := hgSC_6 h
  have h2 := (hgin_o (x := hgOi o) (n := vN V) (by omega)).mp ⟨o, ho, rfl⟩
  have e : (-1 : Int32).toInt = -1 := by decide
  have q1 : ¬ hgOi o < -1 := by rw [hglt_i, e]; omega
  have q2 : hgOi o < nI (vN V) := by rw [hglt_i, hgn_int (by omega)]; omega
  simp (maxDischargeDepth := 7) only [hgc118, hgM_t, hgM_f, hgM_n, hgx_iload_n_1, hgx_iconst_m1, hgx_ic_lt, hgx_aload_n_0, hgs_get_7_3, hgx_get0, hgx_throw, hgx_vret, hgv118_0, hgr118_0, hgu118_0, hgv118_16, hgr118_16, hgu118_16, hgv118_26, hgr118_26, hgu118_26, hgI_SI, hgI_SJ, hgJ_SI, hgJ_SJ, if_true, if_false, reduceIte, Nat.reduceEqDiff, hgWf_SI, hgWf_SJ, hgO_SI, hgO_SJ, hgAr_SI, hgAr_SJ, hgRp_SI, hgRp_SJ, hgN_SI, hgN_SJ, hgO_g, hgO_d, hgO_rl, hgO_r, hgO_0, hgO_1, hgO_64, hgO_298, hgO_300, hgCd_0, hgCd_1, hgCd_2, hgCd_3, hgCd_4, hgCd_5, hgRecv_O, hgRecv_99, List.length_cons, List.length_nil, Nat.zero_add, Nat.add_zero, Nat.le_refl, Nat.zero_le, and_self, or_true, true_or, true_and, and_true, ne_eq, not_false_eq_true, Nat.reduceLT, Nat.reduceLeDiff, Nat.reduceAdd, Nat.reduceEqDiff, hgn_eq, hgn_lt, hgn_le, if_true, if_false, reduceIte, Nat.not_lt_zero, hw, g6, hn, q1, q2]
theorem hgk_118b (h : hgSC M V Hs c) (hx : ¬ ∃ o : Option Nat, (∀ i, o = some i → i < vN V) ∧ x = hgOi o) : hgWC X 118 [.ref 0, .int x] M = some (.inr 2, M) := by
  obtain ⟨hw, g6, hn, hN, _, _⟩ := hgSC_6 h
  by_cases q : x < -1
  · simp (maxDischargeDepth := 7) only [hgc118, hgM_t, hgM_f, hgM_n, hgx_iload_n_1, hgx_iconst_m1, hgx_ic_lt, hgx_aload_n_0, hgs_get_7_3, hgx_get0, hgx_throw, hgx_vret, hgv118_0, hgr118_0, hgu118_0, hgv118_16, hgr118_16, hgu118_16, hgv118_26, hgr118_26, hgu118_26, hgx_throw, hgI_SI, hgI_SJ, hgJ_SI, hgJ_SJ, if_true, if_false, reduceIte, Nat.reduceEqDiff, hgWf_SI, hgWf_SJ, hgO_SI, hgO_SJ, hgAr_SI, hgAr_SJ, hgRp_SI, hgRp_SJ, hgN_SI, hgN_SJ, hgO_g, hgO_d, hgO_rl, hgO_r, hgO_0, hgO_1, hgO_64, hgO_298, hgO_300, hgCd_0, hgCd_1, hgCd_2, hgCd_3, hgCd_4, hgCd_5, hgRecv_O, hgRecv_99, List.length_cons, List.length_nil, Nat.zero_add, Nat.add_zero, Nat.le_refl, Nat.zero_le, and_self, or_true, true_or, true_and, and_true, ne_eq, not_false_eq_true, Nat.reduceLT, Nat.reduceLeDiff, Nat.reduceAdd, Nat.reduceEqDiff, hgn_eq, hgn_lt, hgn_le, if_true, if_false, reduceIte, Nat.not_lt_zero, hw, g6, hn, q]
  · have q2 := hgout_o hx (by omega) q
    simp (maxDischargeDepth := 7) only [hgc118, hgM_t, hgM_f, hgM_n, hgx_iload_n_1, hgx_iconst_m1, hgx_ic_lt, hgx_aload_n_0, hgs_get_7_3, hgx_get0, hgx_throw, hgx_vret, hgv118_0, hgr118_0, hgu118_0, hgv118_16, hgr118_16, hgu118_16, hgv118_26, hgr118_26, hgu118_26, hgx_throw, hgI_SI, hgI_SJ, hgJ_SI, hgJ_SJ, if_true, if_false, reduceIte, Nat.reduceEqDiff, hgWf_SI, hgWf_SJ, hgO_SI, hgO_SJ, hgAr_SI, hgAr_SJ, hgRp_SI, hgRp_SJ, hgN_SI, hgN_SJ, hgO_g, hgO_d, hgO_rl, hgO_r, hgO_0, hgO_1, hgO_64, hgO_298, hgO_300, hgCd_0, hgCd_1, hgCd_2, hgCd_3, hgCd_4, hgCd_5, hgRecv_O, hgRecv_99, List.length_cons, List.length_nil, Nat.zero_add, Nat.add_zero, Nat.le_refl, Nat.zero_le, and_self, or_true, true_or, true_and, and_true, ne_eq, not_false_eq_true, Nat.reduceLT, Nat.reduceLeDiff, Nat.reduceAdd, Nat.reduceEqDiff, hgn_eq, hgn_lt, hgn_le, if_true, if_false, reduceIte, Nat.not_lt_zero, hw, g6, hn, q, q2]
theorem hgk_119a (h : hgSC M V Hs c) (hi : i < vR V) : hgWC X 119 [.ref 0, .int (nI i)] M = some (.inl .null, M) := by
  obtain ⟨hw, g6, _, _, hn, hN⟩ := hgSC_6 h
  have h1 : i < 2147483648 := by omega
  have h2 : vR V < 2147483648 := by omega
  have o18 := hgO_rl hw g6
  simp (maxDischargeDepth := 7) only [hgc119, hgM_t, hgM_f, hgM_n, hgx_iload_n_1, hgx_if_lt, hgx_aload_n_0, hgs_get_7_3, hgs_get_1_7, hgx_get0, hgx_ic_lt, hgx_throw, hgx_vret, hgv119_0, hgr119_0, hgu119_0, hgv119_18, hgr119_18, hgu119_18, hgv119_28, hgr119_28, hgu119_28, hgI_SI, hgI_SJ, hgJ_SI, hgJ_SJ, if_true, if_false, reduceIte, Nat.reduceEqDiff, hgWf_SI, hgWf_SJ, hgO_SI, hgO_SJ, hgAr_SI, hgAr_SJ, hgRp_SI, hgRp_SJ, hgN_SI, hgN_SJ, hgO_g, hgO_d, hgO_rl, hgO_r, hgO_0, hgO_1, hgO_64, hgO_298, hgO_300, hgCd_0, hgCd_1, hgCd_2, hgCd_3, hgCd_4, hgCd_5, hgRecv_O, hgRecv_99, List.length_cons, List.length_nil, Nat.zero_add, Nat.add_zero, Nat.le_refl, Nat.zero_le, and_self, or_true, true_or, true_and, and_true, ne_eq, not_false_eq_true, Nat.reduceLT, Nat.reduceLeDiff, Nat.reduceAdd, Nat.reduceEqDiff, hgn_eq, hgn_lt, hgn_le, if_true, if_false, reduceIte, Nat.not_lt_zero, hw, g6, hn, h1, h2, hi, o18]
theorem hgk_119b (h : hgSC M V Hs c) (hx : ¬ ∃ i, i < vR V ∧ x = nI i) : hgWC X 119 [.ref 0, .int x] M = some (.inr 2, M) := by
  obtain ⟨hw, g6, _, _, hn, hN⟩ := hgSC_6 h
  have h2 : vR V < 2147483648 := by omega
  have o18 := hgO_rl hw g6
  by_cases q : x < nI 0
  · simp (maxDischargeDepth := 7) only [hgc119, hgM_t, hgM_f, hgM_n, hgx_iload_n_1, hgx_if_lt, hgx_aload_n_0, hgs_get_7_3, hgs_get_1_7, hgx_get0, hgx_ic_lt, hgx_throw, hgx_vret, hgv119_0, hgr119_0, hgu119_0, hgv119_18, hgr119_18, hgu119_18, hgv119_28, hgr119_28, hgu119_28, hgx_throw, hgI_SI, hgI_SJ, hgJ_SI, hgJ_SJ, if_true, if_false, reduceIte, Nat.reduceEqDiff, hgWf_SI, hgWf_SJ, hgO_SI, hgO_SJ, hgAr_SI, hgAr_SJ, hgRp_SI, hgRp_SJ, hgN_SI, hgN_SJ, hgO_g, hgO_d, hgO_rl, hgO_r, hgO_0, hgO_1, hgO_64, hgO_298, hgO_300, hgCd_0, hgCd_1, hgCd_2, hgCd_3, hgCd_4, hgCd_5, hgRecv_O, hgRecv_99, List.length_cons, List.length_nil, Nat.zero_add, Nat.add_zero, Nat.le_refl, Nat.zero_le, and_self, or_true, true_or, true_and, and_true, ne_eq, not_false_eq_true, Nat.reduceLT, Nat.reduceLeDiff, Nat.reduceAdd, Nat.reduceEqDiff, hgn_eq, hgn_lt, hgn_le, if_true, if_false, reduceIte, Nat.not_lt_zero, hw, g6, hn, q]
  · have q2 := hgout_i hx h2 q
    simp (maxDischargeDepth := 7) only [hgc119, hgM_t, hgM_f, hgM_n, hgx_iload_n_1, hgx_if_lt, hgx_aload_n_0, hgs_get_7_3, hgs_get_1_7, hgx_get0, hgx_ic_lt, hgx_throw, hgx_vret, hgv119_0, hgr119_0, hgu119_0, hgv119_18, hgr119_18, hgu119_18, hgv119_28, hgr119_28, hgu119_28, hgx_throw, hgI_SI, hgI_SJ, hgJ_SI, hgJ_SJ, if_true, if_false, reduceIte, Nat.reduceEqDiff, hgWf_SI, hgWf_SJ, hgO_SI, hgO_SJ, hgAr_SI, hgAr_SJ, hgRp_SI, hgRp_SJ, hgN_SI, hgN_SJ, hgO_g, hgO_d, hgO_rl, hgO_r, hgO_0, hgO_1, hgO_64, hgO_298, hgO_300, hgCd_0, hgCd_1, hgCd_2, hgCd_3, hgCd_4, hgCd_5, hgRecv_O, hgRecv_99, List.length_cons, List.length_nil, Nat.zero_add, Nat.add_zero, Nat.le_refl, Nat.zero_le, and_self, or_true, true_or, true_and, and_true, ne_eq, not_false_eq_true, Nat.reduceLT, Nat.reduceLeDiff, Nat.reduceAdd, Nat.reduceEqDiff, hgn_eq, hgn_lt, hgn_le, if_true, if_false, reduceIte, Nat.not_lt_zero, hw, g6, hn, q, q2, o18]
theorem hgk_120a (hx : ∃ i, i < 1000 ∧ x = nI i) : hgWC X 120 [.int x] M = some (.inl .null, M) := by
  have q := hgnot_lt0 hx (by omega)
  simp (maxDischargeDepth := 7) only [hgc120, hgM_t, hgM_f, hgM_n, hgx_iload_n_0, hgx_if_lt, hgx_sipush_1000, hgx_ic_lt, hgx_throw, hgx_vret, hgv120_0, hgr120_0, hgu120_0, hgv120_11, hgr120_11, hgu120_11, hgv120_21, hgr120_21, hgu120_21, hgI_SI, hgI_SJ, hgJ_SI, hgJ_SJ, if_true, if_false, reduceIte, Nat.reduceEqDiff, hgWf_SI, hgWf_SJ, hgO_SI, hgO_SJ, hgAr_SI, hgAr_SJ, hgRp_SI, hgRp_SJ, hgN_SI, hgN_SJ, hgO_g, hgO_d, hgO_rl, hgO_r, hgO_0, hgO_1, hgO_64, hgO_298, hgO_300, hgCd_0, hgCd_1, hgCd_2, hgCd_3, hgCd_4, hgCd_5, hgRecv_O, hgRecv_99, List.length_cons, List.length_nil, Nat.zero_add, Nat.add_zero, Nat.le_refl, Nat.zero_le, and_self, or_true, true_or, true_and, and_true, ne_eq, not_false_eq_true, Nat.reduceLT, Nat.reduceLeDiff, Nat.reduceAdd, Nat.reduceEqDiff, hgn_eq, hgn_lt, hgn_le, if_true, if_false, reduceIte, Nat.not_lt_zero, q.1, q.2]
theorem hgk_120b (hx : ¬ ∃ i, i < 1000 ∧ x = nI i) : hgWC X 120 [.int x] M = some (.inr 0, M) := by
  by_cases q : x < nI 0
  · simp (maxDischargeDepth := 7) only [hgc120, hgM_t, hgM_f, hgM_n, hgx_iload_n_0, hgx_if_lt, hgx_sipush_1000, hgx_ic_lt, hgx_throw, hgx_vret, hgv120_0, hgr120_0, hgu120_0, hgv120_11, hgr120_11, hgu120_11, hgv120_21, hgr120_21, hgu120_21, hgx_throw, hgI_SI, hgI_SJ, hgJ_SI, hgJ_SJ, if_true, if_false, reduceIte, Nat.reduceEqDiff, hgWf_SI, hgWf_SJ, hgO_SI, hgO_SJ, hgAr_SI, hgAr_SJ, hgRp_SI, hgRp_SJ, hgN_SI, hgN_SJ, hgO_g, hgO_d, hgO_rl, hgO_r, hgO_0, hgO_1, hgO_64, hgO_298, hgO_300, hgCd_0, hgCd_1, hgCd_2, hgCd_3, hgCd_4, hgCd_5, hgRecv_O, hgRecv_99, List.length_cons, List.length_nil, Nat.zero_add, Nat.add_zero, Nat.le_refl, Nat.zero_le, and_self, or_true, true_or, true_and, and_true, ne_eq, not_false_eq_true, Nat.reduceLT, Nat.reduceLeDiff, Nat.reduceAdd, Nat.reduceEqDiff, hgn_eq, hgn_lt, hgn_le, if_true, if_false, reduceIte, Nat.not_lt_zero, q]
  · have q2 := hgout_i hx (by omega) q
    simp (maxDischargeDepth := 7) only [hgc120, hgM_t, hgM_f, hgM_n, hgx_iload_n_0, hgx_if_lt, hgx_sipush_1000, hgx_ic_lt, hgx_throw, hgx_vret, hgv120_0, hgr120_0, hgu120_0, hgv120_11, hgr120_11, hgu120_11, hgv120_21, hgr120_21, hgu120_21, hgx_throw, hgI_SI, hgI_SJ, hgJ_SI, hgJ_SJ, if_true, if_false, reduceIte, Nat.reduceEqDiff, hgWf_SI, hgWf_SJ, hgO_SI, hgO_SJ, hgAr_SI, hgAr_SJ, hgRp_SI, hgRp_SJ, hgN_SI, hgN_SJ, hgO_g, hgO_d, hgO_rl, hgO_r, hgO_0, hgO_1, hgO_64, hgO_298, hgO_300, hgCd_0, hgCd_1, hgCd_2, hgCd_3, hgCd_4, hgCd_5, hgRecv_O, hgRecv_99, List.length_cons, List.length_nil, Nat.zero_add, Nat.add_zero, Nat.le_refl, Nat.zero_le, and_self, or_true, true_or, true_and, and_true, ne_eq, not_false_eq_true, Nat.reduceLT, Nat.reduceLeDiff, Nat.reduceAdd, Nat.reduceEqDiff, hgn_eq, hgn_lt, hgn_le, if_true, if_false, reduceIte, Nat.not_lt_zero, q, q2]
theorem hgk_121a (h : hgSC M V Hs c) (hx : vS V 4 ≠ nI 0) : hgWC X 121 [.ref 0] M = some (.inl .null, M) := by
  obtain ⟨hw, g6, _, _, _, _⟩ := hgSC_6 h
  have hv := h.2.2.1
  have e : hgI M 6 1 ≠ nI 0 := fun q => hx (hv.2.2.2.2.2.2.2.2.2.2.2.2.2.2.2.2.mp q)
  simp (maxDischargeDepth := 7) only [hgc121, hgM_t, hgM_f, hgM_n, hgx_aload_n_0, hgs_get_7_3, hgx_get3, hgx_if_ne, hgx_throw, hgx_vret, hgv121_0, hgr121_0, hgu121_0, hgv121_20, hgr121_20, hgu121_20, hgI_SI, hgI_SJ, hgJ_SI, hgJ_SJ, if_true, if_false, reduceIte, Nat.reduceEqDiff, hgWf_SI, hgWf_SJ, hgO_SI, hgO_SJ, hgAr_SI, hgAr_SJ, hgRp_SI, hgRp_SJ, hgN_SI, hgN_SJ, hgO_g, hgO_d, hgO_rl, hgO_r, hgO_0, hgO_1, hgO_64, hgO_298, hgO_300, hgCd_0, hgCd_1, hgCd_2, hgCd_3, hgCd_4, hgCd_5, hgRecv_O, hgRecv_99, List.length_cons, List.length_nil, Nat.zero_add, Nat.add_zero, Nat.le_refl, Nat.zero_le, and_self, or_true, true_or, true_and, and_true, ne_eq, not_false_eq_true, Nat.reduceLT, Nat.reduceLeDiff, Nat.reduceAdd, Nat.reduceEqDiff, hgn_eq, hgn_lt, hgn_le, if_true, if_false, reduceIte, Nat.not_lt_zero, hw, g6, e]
theorem hgk_121b (h : hgSC M V Hs c) (hx : vS V 4 = nI 0) : hgWC X 121 [.ref 0] M = some (.inr 1, M) := by
  obtain ⟨hw, g6, _, _, _, _⟩ := hgSC_6 h
  have hv := h.2.2.1
  have e : hgI M 6 1 = nI 0 := hv.2.2.2.2.2.2.2.2.2.2.2.2.2.2.2.2.mpr hx
  simp (maxDischargeDepth := 7) only [hgc121, hgM_t, hgM_f, hgM_n, hgx_aload_n_0, hgs_get_7_3, hgx_get3, hgx_if_ne, hgx_throw, hgx_vret, hgv121_0, hgr121_0, hgu121_0, hgv121_20, hgr121_20, hgu121_20, hgx_throw, hgI_SI, hgI_SJ, hgJ_SI, hgJ_SJ, if_true, if_false, reduceIte, Nat.reduceEqDiff, hgWf_SI, hgWf_SJ, hgO_SI, hgO_SJ, hgAr_SI, hgAr_SJ, hgRp_SI, hgRp_SJ, hgN_SI, hgN_SJ, hgO_g, hgO_d, hgO_rl, hgO_r, hgO_0, hgO_1, hgO_64, hgO_298, hgO_300, hgCd_0, hgCd_1, hgCd_2, hgCd_3, hgCd_4, hgCd_5, hgRecv_O, hgRecv_99, List.length_cons, List.length_nil, Nat.zero_add, Nat.add_zero, Nat.le_refl, Nat.zero_le, and_self, or_true, true_or, true_and, and_true, ne_eq, not_false_eq_true, Nat.reduceLT, Nat.reduceLeDiff, Nat.reduceAdd, Nat.reduceEqDiff, hgn_eq, hgn_lt, hgn_le, if_true, if_false, reduceIte, Nat.not_lt_zero, hw, g6, e]
/-- the reference's checks -/
theorem hgk_165a (h : hgSM M V Hs c) (h0 : hgI M 300 0 = nI 0) (hx : ∃ i, i < vN V ∧ x = nI i) : hgWC X 165 [.ref 300, .int x] M = some (.inl (.int (nI 0)), M) := by
  have hw := h.1
  have hn := h.2.1.2.2.2.1
  have hN := h.2.2.2.1.1
  have q := (hgBtw_n (by omega)).mpr hx
  simp (maxDischargeDepth := 7) only [hgc165, hgM_t, hgM_f, hgM_n, hgx_aload_n_0, hgx_iload_n_1, hgx_iconst_0, hgs_get_8_8, hgx_iconst_1, hgx_isub, hgx_invstatic_3, hgx_aft_e, hgx_aft_i, hgx_aft_l, hgx_aft_v, hgx_if_ne, hgx_goto, hgx_invvirtual_3, hgx_ret3, hgv165_0, hgr165_0, hgu165_0, hgv165_21, hgr165_21, hgu165_21, hgv165_22, hgr165_22, hgu165_22, hgI_SI, hgI_SJ, hgJ_SI, hgJ_SJ, if_true, if_false, reduceIte, Nat.reduceEqDiff, hgWf_SI, hgWf_SJ, hgO_SI, hgO_SJ, hgAr_SI, hgAr_SJ, hgRp_SI, hgRp_SJ, hgN_SI, hgN_SJ, hgO_g, hgO_d, hgO_rl, hgO_r, hgO_0, hgO_1, hgO_64, hgO_298, hgO_300, hgCd_0, hgCd_1, hgCd_2, hgCd_3, hgCd_4, hgCd_5, hgRecv_O, hgRecv_99, List.length_cons, List.length_nil, Nat.zero_add, Nat.add_zero, Nat.le_refl, Nat.zero_le, and_self, or_true, true_or, true_and, and_true, ne_eq, not_false_eq_true, Nat.reduceLT, Nat.reduceLeDiff, Nat.reduceAdd, Nat.reduceEqDiff, hgn_eq, hgn_lt, hgn_le, if_true, if_false, reduceIte, Nat.not_lt_zero, hgs_aa_d, hgs_aa_r, hgs_aa_h, hgs_aa_m, hgs_aa_t, hgs_ld_wp, hgs_st_wp, hgs_ld_qf, hgs_st_qf, hgs_ld_qt, hgs_st_qt, hgs_ld_2, hgs_st_2, hgs_ld_3, hgs_st_3, hgs_ld_4, hgs_st_4, hgs_ld_301, hgs_st_301, hgs_ld_D, hgs_st_D, hgs_ld_s, hgs_ld_T, hgs_st_T, hgs_ld_o, hgs_st_o, hgs_ld_b, hgs_st_b, hgs_ld_z, hgs_st_z, hgs_al_b, hgx_alen_s, hw, hgAr_302 hw, hn, hgk_125, q, hgB_t, hgk_124a hw h0]
theorem hgk_165b (h : hgSM M V Hs c) (h0 : hgI M 300 0 = nI 0) (hx : ¬ ∃ i, i < vN V ∧ x = nI i) : hgWC X 165 [.ref 300, .int x] M = some (.inl (.int (nI 1)), hgSI M 300 0 (nI 1)) := by
  have hw := h.1
  have hn := h.2.1.2.2.2.1
  have hN := h.2.2.2.1.1
  have q : hgBtw x (nI 0) (nI (vN V) - nI 1) = false := Bool.eq_false_iff.mpr (fun z => hx ((hgBtw_n (by omega)).mp z))
  have n10 : ¬ nI 1 = nI 0 := by decide
  simp (maxDischargeDepth := 7) only [hgc165, hgM_t, hgM_f, hgM_n, hgx_aload_n_0, hgx_iload_n_1, hgx_iconst_0, hgs_get_8_8, hgx_iconst_1, hgx_isub, hgx_invstatic_3, hgx_aft_e, hgx_aft_i, hgx_aft_l, hgx_aft_v, hgx_if_ne, hgx_goto, hgx_invvirtual_3, hgx_ret3, hgv165_0, hgr165_0, hgu165_0, hgv165_21, hgr165_21, hgu165_21, hgv165_22, hgr165_22, hgu165_22, hgI_SI, hgI_SJ, hgJ_SI, hgJ_SJ, if_true, if_false, reduceIte, Nat.reduceEqDiff, hgWf_SI, hgWf_SJ, hgO_SI, hgO_SJ, hgAr_SI, hgAr_SJ, hgRp_SI, hgRp_SJ, hgN_SI, hgN_SJ, hgO_g, hgO_d, hgO_rl, hgO_r, hgO_0, hgO_1, hgO_64, hgO_298, hgO_300, hgCd_0, hgCd_1, hgCd_2, hgCd_3, hgCd_4, hgCd_5, hgRecv_O, hgRecv_99, List.length_cons, List.length_nil, Nat.zero_add, Nat.add_zero, Nat.le_refl, Nat.zero_le, and_self, or_true, true_or, true_and, and_true, ne_eq, not_false_eq_true, Nat.reduceLT, Nat.reduceLeDiff, Nat.reduceAdd, Nat.reduceEqDiff, hgn_eq, hgn_lt, hgn_le, if_true, if_false, reduceIte, Nat.not_lt_zero, hgs_aa_d, hgs_aa_r, hgs_aa_h, hgs_aa_m, hgs_aa_t, hgs_ld_wp, hgs_st_wp, hgs_ld_qf, hgs_st_qf, hgs_ld_qt, hgs_st_qt, hgs_ld_2, hgs_st_2, hgs_ld_3, hgs_st_3, hgs_ld_4, hgs_st_4, hgs_ld_301, hgs_st_301, hgs_ld_D, hgs_st_D, hgs_ld_s, hgs_ld_T, hgs_st_T, hgs_ld_o, hgs_st_o, hgs_ld_b, hgs_st_b, hgs_ld_z, hgs_st_z, hgs_al_b, hgx_alen_s, hw, hgAr_302 hw, hn, hgk_125, q, hgB_f, hgk_124b hw h0 n10]
theorem hgk_166a (h : hgSM M V Hs c) (h0 : hgI M 300 0 = nI 0) (hx : ∃ o : Option Nat, (∀ i, o = some i → i < vN V) ∧ x = hgOi o) : hgWC X 166 [.ref 300, .int x] M = some (.inl (.int (nI 0)), M) := by
  have hw := h.1
  have hn := h.2.1.2.2.2.1
  have hN := h.2.2.2.1.1
  have q := (hgBtw_m (by omega)).mpr hx
  simp (maxDischargeDepth := 7) only [hgc166, hgM_t, hgM_f, hgM_n, hgx_aload_n_0, hgx_iload_n_1, hgx_iconst_m1, hgs_get_8_8, hgx_iconst_0, hgx_iconst_1, hgx_isub, hgx_invstatic_3, hgx_aft_e, hgx_aft_i, hgx_aft_l, hgx_aft_v, hgx_if_ne, hgx_goto, hgx_invvirtual_3, hgx_ret3, hgv166_0, hgr166_0, hgu166_0, hgv166_21, hgr166_21, hgu166_21, hgv166_22, hgr166_22, hgu166_22, hgI_SI, hgI_SJ, hgJ_SI, hgJ_SJ, if_true, if_false, reduceIte, Nat.reduceEqDiff, hgWf_SI, hgWf_SJ, hgO_SI, hgO_SJ, hgAr_SI, hgAr_SJ, hgRp_SI, hgRp_SJ, hgN_SI, hgN_SJ, hgO_g, hgO_d, hgO_rl, hgO_r, hgO_0, hgO_1, hgO_64, hgO_298, hgO_300, hgCd_0, hgCd_1, hgCd_2, hgCd_3, hgCd_4, hgCd_5, hgRecv_O, hgRecv_99, List.length_cons, List.length_nil, Nat.zero_add, Nat.add_zero, Nat.le_refl, Nat.zero_le, and_self, or_true, true_or, true_and, and_true, ne_eq, not_false_eq_true, Nat.reduceLT, Nat.reduceLeDiff, Nat.reduceAdd, Nat.reduceEqDiff, hgn_eq, hgn_lt, hgn_le, if_true, if_false, reduceIte, Nat.not_lt_zero, hgs_aa_d, hgs_aa_r, hgs_aa_h, hgs_aa_m, hgs_aa_t, hgs_ld_wp, hgs_st_wp, hgs_ld_qf, hgs_st_qf, hgs_ld_qt, hgs_st_qt, hgs_ld_2, hgs_st_2, hgs_ld_3, hgs_st_3, hgs_ld_4, hgs_st_4, hgs_ld_301, hgs_st_301, hgs_ld_D, hgs_st_D, hgs_ld_s, hgs_ld_T, hgs_st_T, hgs_ld_o, hgs_st_o, hgs_ld_b, hgs_st_b, hgs_ld_z, hgs_st_z, hgs_al_b, hgx_alen_s, hw, hgAr_302 hw, hn, hgk_125, q, hgB_t, hgk_124a hw h0]
theorem hgk_166b (h : hgSM M V Hs c) (h0 : hgI M 300 0 = nI 0) (hx : ¬ ∃ o : Option Nat, (∀ i, o = some i → i < vN V) ∧ x = hgOi o) : hgWC X 166 [.ref 300, .int x] M = some (.inl (.int (nI 1)), hgSI M 300 0 (nI 1)) := by
  have hw := h.1
  have hn := h.2.1.2.2.2.1
  have hN := h.2.2.2.1.1
  have q : hgBtw x (-1) (nI (vN V) - nI 1) = false := Bool.eq_false_iff.mpr (fun z => hx ((hgBtw_m (by omega)).mp z))
  have n10 : ¬ nI 1 = nI 0 := by decide
  simp (maxDischargeDepth := 7) only [hgc166, hgM_t, hgM_f, hgM_n, hgx_aload_n_0, hgx_iload_n_1, hgx_iconst_m1, hgs_get_8_8, hgx_iconst_0, hgx_iconst_1, hgx_isub, hgx_invstatic_3, hgx_aft_e, hgx_aft_i, hgx_aft_l, hgx_aft_v, hgx_if_ne, hgx_goto, hgx_invvirtual_3, hgx_ret3, hgv166_0, hgr166_0, hgu166_0, hgv166_21, hgr166_21, hgu166_21, hgv166_22, hgr166_22, hgu166_22, hgI_SI, hgI_SJ, hgJ_SI, hgJ_SJ, if_true, if_false, reduceIte, Nat.reduceEqDiff, hgWf_SI, hgWf_SJ, hgO_SI, hgO_SJ, hgAr_SI, hgAr_SJ, hgRp_SI, hgRp_SJ, hgN_SI, hgN_SJ, hgO_g, hgO_d, hgO_rl, hgO_r, hgO_0, hgO_1, hgO_64, hgO_298, hgO_300, hgCd_0, hgCd_1, hgCd_2, hgCd_3, hgCd_4, hgCd_5, hgRecv_O, hgRecv_99, List.length_cons, List.length_nil, Nat.zero_add, Nat.add_zero, Nat.le_refl, Nat.zero_le, and_self, or_true, true_or, true_and, and_true, ne_eq, not_false_eq_true, Nat.reduceLT, Nat.reduceLeDiff, Nat.reduceAdd, Nat.reduceEqDiff, hgn_eq, hgn_lt, hgn_le, if_true, if_false, reduceIte, Nat.not_lt_zero, hgs_aa_d, hgs_aa_r, hgs_aa_h, hgs_aa_m, hgs_aa_t, hgs_ld_wp, hgs_st_wp, hgs_ld_qf, hgs_st_qf, hgs_ld_qt, hgs_st_qt, hgs_ld_2, hgs_st_2, hgs_ld_3, hgs_st_3, hgs_ld_4, hgs_st_4, hgs_ld_301, hgs_st_301, hgs_ld_D, hgs_st_D, hgs_ld_s, hgs_ld_T, hgs_st_T, hgs_ld_o, hgs_st_o, hgs_ld_b, hgs_st_b, hgs_ld_z, hgs_st_z, hgs_al_b, hgx_alen_s, hw, hgAr_302 hw, hn, hgk_125, q, hgB_f, hgk_124b hw h0 n10]
theorem hgk_167a (h : hgSM M V Hs c) (h0 : hgI M 300 0 = nI 0) (hx : ∃ i, i < vR V ∧ x = nI i) : hgWC X 167 [.ref 300, .int x] M = some (.inl (.int (nI 0)), M) := by
  have hw := h.1
  have hn := h.2.1.2.2.2.2.1
  have hN := h.2.2.2.1.2.1
  have q := (hgBtw_n (by omega)).mpr hx
  simp (maxDischargeDepth := 7) only [hgc167, hgM_t, hgM_f, hgM_n, hgx_aload_n_0, hgx_iload_n_1, hgx_iconst_0, hgs_get_8_8, hgx_iconst_1, hgx_isub, hgx_invstatic_3, hgx_aft_e, hgx_aft_i, hgx_aft_l, hgx_aft_v, hgx_if_ne, hgx_goto, hgx_invvirtual_3, hgx_ret3, hgv167_0, hgr167_0, hgu167_0, hgv167_21, hgr167_21, hgu167_21, hgv167_22, hgr167_22, hgu167_22, hgI_SI, hgI_SJ, hgJ_SI, hgJ_SJ, if_true, if_false, reduceIte, Nat.reduceEqDiff, hgWf_SI, hgWf_SJ, hgO_SI, hgO_SJ, hgAr_SI, hgAr_SJ, hgRp_SI, hgRp_SJ, hgN_SI, hgN_SJ, hgO_g, hgO_d, hgO_rl, hgO_r, hgO_0, hgO_1, hgO_64, hgO_298, hgO_300, hgCd_0, hgCd_1, hgCd_2, hgCd_3, hgCd_4, hgCd_5, hgRecv_O, hgRecv_99, List.length_cons, List.length_nil, Nat.zero_add, Nat.add_zero, Nat.le_refl, Nat.zero_le, and_self, or_true, true_or, true_and, and_true, ne_eq, not_false_eq_true, Nat.reduceLT, Nat.reduceLeDiff, Nat.reduceAdd, Nat.reduceEqDiff, hgn_eq, hgn_lt, hgn_le, if_true, if_false, reduceIte, Nat.not_lt_zero, hgs_aa_d, hgs_aa_r, hgs_aa_h, hgs_aa_m, hgs_aa_t, hgs_ld_wp, hgs_st_wp, hgs_ld_qf, hgs_st_qf, hgs_ld_qt, hgs_st_qt, hgs_ld_2, hgs_st_2, hgs_ld_3, hgs_st_3, hgs_ld_4, hgs_st_4, hgs_ld_301, hgs_st_301, hgs_ld_D, hgs_st_D, hgs_ld_s, hgs_ld_T, hgs_st_T, hgs_ld_o, hgs_st_o, hgs_ld_b, hgs_st_b, hgs_ld_z, hgs_st_z, hgs_al_b, hgx_alen_s, hw, hgAr_302 hw, hn, hgk_125, q, hgB_t, hgk_124a hw h0]
theorem hgk_167b (h : hgSM M V Hs c) (h0 : hgI M 300 0 = nI 0) (hx : ¬ ∃ i, i < vR V ∧ x = nI i) : hgWC X 167 [.ref 300, .int x] M = some (.inl (.int (nI 1)), hgSI M 300 0 (nI 1)) := by
  have hw := h.1
  have hn := h.2.1.2.2.2.2.1
  have hN := h.2.2.2.1.2.1
  have q : hgBtw x (nI 0) (nI (vR V) - nI 1) = false := Bool.eq_false_iff.mpr (fun z => hx ((hgBtw_n (by omega)).mp z))
  have n10 : ¬ nI 1 = nI 0 := by decide
  simp (maxDischargeDepth := 7) only [hgc167, hgM_t, hgM_f, hgM_n, hgx_aload_n_0, hgx_iload_n_1, hgx_iconst_0, hgs_get_8_8, hgx_iconst_1, hgx_isub, hgx_invstatic_3, hgx_aft_e, hgx_aft_i, hgx_aft_l, hgx_aft_v, hgx_if_ne, hgx_goto, hgx_invvirtual_3, hgx_ret3, hgv167_0, hgr167_0, hgu167_0, hgv167_21, hgr167_21, hgu167_21, hgv167_22, hgr167_22, hgu167_22, hgI_SI, hgI_SJ, hgJ_SI, hgJ_SJ, if_true, if_false, reduceIte, Nat.reduceEqDiff, hgWf_SI, hgWf_SJ, hgO_SI, hgO_SJ, hgAr_SI, hgAr_SJ, hgRp_SI, hgRp_SJ, hgN_SI, hgN_SJ, hgO_g, hgO_d, hgO_rl, hgO_r, hgO_0, hgO_1, hgO_64, hgO_298, hgO_300, hgCd_0, hgCd_1, hgCd_2, hgCd_3, hgCd_4, hgCd_5, hgRecv_O, hgRecv_99, List.length_cons, List.length_nil, Nat.zero_add, Nat.add_zero, Nat.le_refl, Nat.zero_le, and_self, or_true, true_or, true_and, and_true, ne_eq, not_false_eq_true, Nat.reduceLT, Nat.reduceLeDiff, Nat.reduceAdd, Nat.reduceEqDiff, hgn_eq, hgn_lt, hgn_le, if_true, if_false, reduceIte, Nat.not_lt_zero, hgs_aa_d, hgs_aa_r, hgs_aa_h, hgs_aa_m, hgs_aa_t, hgs_ld_wp, hgs_st_wp, hgs_ld_qf, hgs_st_qf, hgs_ld_qt, hgs_st_qt, hgs_ld_2, hgs_st_2, hgs_ld_3, hgs_st_3, hgs_ld_4, hgs_st_4, hgs_ld_301, hgs_st_301, hgs_ld_D, hgs_st_D, hgs_ld_s, hgs_ld_T, hgs_st_T, hgs_ld_o, hgs_st_o, hgs_ld_b, hgs_st_b, hgs_ld_z, hgs_st_z, hgs_al_b, hgx_alen_s, hw, hgAr_302 hw, hn, hgk_125, q, hgB_f, hgk_124b hw h0 n10]
end HGCHK

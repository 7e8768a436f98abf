/-! COPIES, the reference's. -/
/-- k places from i on of d go into e -/
def hgCpA (d e : Nat) : Nat → Nat → hgMem → hgMem
  | _, 0, M => M
  | i, k + 1, M => hgCpA d e (i + 1) k (hgSI M e i (hgI M d i))
def hgCpJ (d e : Nat) : Nat → Nat → hgMem → hgMem
  | _, 0, M => M
  | i, k + 1, M => hgCpJ d e (i + 1) k (hgSJ M e i (hgJ M d i))
def hgCpQ (d e : Nat) (len : Nat → Nat) : Nat → Nat → hgMem → hgMem
  | _, 0, M => M
  | i, k + 1, M => hgCpQ d e len (i + 1) k (hgCpA d e (187 + 2 * (1000 * i)) (2 * len i) M)
theorem hgCpA_I {d e : Nat} (h : d ≠ e) : ∀ (k i : Nat) (M : hgMem) (b j : Nat), hgI (hgCpA d e i k M) b j = if b = e ∧ i ≤ j ∧ j < i + k then hgI M d j else hgI M b j
  | 0, i, M, b, j => by rw [if_neg (by omega)]; rfl
  | k + 1, i, M, b, j => by
    show hgI (hgCpA d e (i + 1) k (hgSI M e i (hgI M d i))) b j = _
    rw [hgCpA_I h k (i + 1)]
    by_cases h1 : b = e ∧ i + 1 ≤ j ∧ j < i + 1 + k
    · rw [if_pos h1, if_pos (by omega), hgI_na h]
    · rw [if_neg h1]
      by_cases h2 : b = e ∧ i ≤ j ∧ j < i + (k + 1)
      · have : j = i := by omega
        rw [if_pos h2, h2.1, this, hgI_at]
      · rw [if_neg h2]
        by_cases h3 : b = e
        · exact hgI_nk (by omega)
        · exact hgI_na h3
theorem hgCpA_J {d e : Nat} : ∀ (k i : Nat) (M : hgMem) (b j : Nat), hgJ (hgCpA d e i k M) b j = hgJ M b j
  | 0, i, M, b, j => rfl
  | k + 1, i, M, b, j => (hgCpA_J k (i + 1) _ b j).trans rfl
theorem hgCpA_R {d e : Nat} : ∀ (k i : Nat) (M : hgMem) (b j : Nat), hgR (hgCpA d e i k M) b j = hgR M b j
  | 0, i, M, b, j => rfl
  | k + 1, i, M, b, j => (hgCpA_R k (i + 1) _ b j).trans rfl
theorem hgCpA_N {d e : Nat} : ∀ (k i : Nat) (M : hgMem), (hgCpA d e i k M).1 = M.1
  | 0, i, M => rfl
  | k + 1, i, M => (hgCpA_N k (i + 1) _).trans rfl
theorem hgWf_to {M M' : hgMem} (h : hgWf M) (hN : M'.1 = M.1) (hR : ∀ b j, hgR M' b j = hgR M b j) : hgWf M' := by
  unfold hgWf at h ⊢
  simp only [hN, hR]
  exact h
theorem hgAr_to {M M' : hgMem} {a ci n : Nat} (h : hgAr M a ci n) (hN : M'.1 = M.1) : hgAr M' a ci n := ⟨by rw [hN]; exact h.1, h.2⟩
def hgQin (len : Nat → Nat) (i k j : Nat) : Prop := ∃ q, i ≤ q ∧ q < i + k ∧ 187 + 2000 * q ≤ j ∧ j < 187 + 2000 * q + 2 * len q
theorem hgCpQ_I {d e : Nat} (h : d ≠ e) {len : Nat → Nat} : ∀ (k i : Nat) (M : hgMem) (b j : Nat), (∀ q, q < i + k → len q ≤ 1000) → (b = e → hgQin len i k j → hgI (hgCpQ d e len i k M) b j = hgI M d j) ∧ (b ≠ e ∨ ¬ hgQin len i k j → hgI (hgCpQ d e len i k M) b j = hgI M b j)
  | 0, i, M, b, j, hl => ⟨fun _ h => by obtain ⟨q, h1, h2, _⟩ := h; omega, fun _ => rfl⟩
  | k + 1, i, M, b, j, hl => by
    have hli := hl i (by omega)
    obtain ⟨r1, r2⟩ := hgCpQ_I h (len := len) k (i + 1) (hgCpA d e (187 + 2 * (1000 * i)) (2 * len i) M) b j (fun q hq => hl q (by omega))
    have e1 := hgCpA_I h (2 * len i) (187 + 2 * (1000 * i)) M b j
    have e2 := hgCpA_I h (2 * len i) (187 + 2 * (1000 * i)) M d j
    rw [if_neg (fun z => h z.1)] at e2
    refine ⟨fun hb hq => ?_, fun hn => ?_⟩
    · show hgI (hgCpQ d e len (i + 1) k _) b j = _
      by_cases h1 : hgQin len (i + 1) k j
      · rw [r1 hb h1, e2]
      · rw [r2 (Or.inr h1), e1]
        obtain ⟨q, a1, a2, a3, a4⟩ := hq
        have hqi : q = i := Classical.byContradiction (fun hne => h1 ⟨q, by omega, by omega, a3, a4⟩)
        subst hqi
        rw [if_pos ⟨hb, by omega, by omega⟩]
    · show hgI (hgCpQ d e len (i + 1) k _) b j = _
      have h1 : b ≠ e ∨ ¬ hgQin len (i + 1) k j := hn.imp id (fun z w => z (by obtain ⟨q, a1, a2, a3, a4⟩ := w; exact ⟨q, by omega, by omega, a3, a4⟩))
      rw [r2 h1, e1, if_neg ?_]
      rintro ⟨z1, z2, z3⟩
      rcases hn with hn | hn
      · exact hn z1
      · exact hn ⟨i, by omega, by omega, by omega, by omega⟩
theorem hgCpQ_N {d e : Nat} {len : Nat → Nat} : ∀ (k i : Nat) (M : hgMem), (hgCpQ d e len i k M).1 = M.1 ∧ (∀ b j, hgR (hgCpQ d e len i k M) b j = hgR M b j) ∧ (∀ b j, hgJ (hgCpQ d e len i k M) b j = hgJ M b j)
  | 0, i, M => ⟨rfl, fun _ _ => rfl, fun _ _ => rfl⟩
  | k + 1, i, M => by
    have := hgCpQ_N (d := d) (e := e) (len := len) k (i + 1) (hgCpA d e (187 + 2 * (1000 * i)) (2 * len i) M)
    exact ⟨this.1.trans (hgCpA_N _ _ _), fun b j => (this.2.1 b j).trans (hgCpA_R _ _ _ b j), fun b j => (this.2.2 b j).trans (hgCpA_J _ _ _ b j)⟩
section HGCOP
variable {X : hgX} {M : hgMem} {a b d e g i j c p n m q : Nat} {x y z w v : Int32} {o : Option Nat} {v3 : Option Value}
theorem hgk_132a (hd2 : d ≠ 2000) (he2 : e ≠ 2000) : ∀ (k i : Nat) (M : hgMem), hgAr M d 20 20187 → hgAr M e 20 20187 → i + k = 187 → hgW X 132 2 [some (.ref d), some (.ref e), some (.int (nI i)), v3] [] (0, 0) M = hgW X 132 23 [some (.ref d), some (.ref e), some (.int (nI 0)), none] [] (0, 0) (hgCpA d e i k M) := by
  intro k
  induction k generalizing v3 with
  | zero =>
    intro i M hD hE hi
    have h1 : i < 2147483648 := by omega
    have h3 : 187 ≤ i := by omega
    rw [hgu132_2]
    simp (maxDischargeDepth := 7) only [hgM_t, hgM_f, hgM_n, hgx_iconst_0, hgx_istore_n_2i, hgx_istore_n_2r, hgx_istore_n_2f, hgx_istore_n_2n, hgx_istore_n_2l, hgx_iload_n_2, hgx_sipush_187, hgx_ic_ge, hgx_aload_n_1, hgx_aload_n_0, hgx_iinc_2_1, hgx_goto, hgx_invstatic_2, hgx_aft_e, hgx_aft_i, hgx_aft_l, hgx_aft_v, hgx_istore_n_3i, hgx_istore_n_3r, hgx_istore_n_3f, hgx_istore_n_3n, hgx_istore_n_3l, hgx_iload_n_3, hgx_invstatic_1, hgx_bipush_9, hgx_iadd, hgx_iinc_3_1, hgx_vret, hgv132_0, hgr132_0, hgu132_0, hgv132_2, hgr132_2, hgv132_21, hgr132_21, hgu132_21, hgv132_23, ← hgu132_23, hgv132_36, ← hgu132_36, hgv132_65, hgr132_65, hgu132_65, hgv132_71, hgr132_71, hgu132_71, hgI_SI, hgI_SJ, hgJ_SI, hgJ_SJ, if_true, if_false, reduceIte, Nat.reduceEqDiff, hgWf_SI, hgWf_SJ, hgO_SI, hgO_SJ, hgAr_SI, hgAr_SJ, hgRp_SI, hgRp_SJ, hgN_SI, hgN_SJ, hgO_g, hgO_d, hgO_rl, hgO_r, hgO_0, hgO_1, hgO_64, hgO_298, hgO_300, hgCd_0, hgCd_1, hgCd_2, hgCd_3, hgCd_4, hgCd_5, hgRecv_O, hgRecv_99, List.length_cons, List.length_nil, Nat.zero_add, Nat.add_zero, Nat.le_refl, Nat.zero_le, and_self, or_true, true_or, true_and, and_true, ne_eq, not_false_eq_true, Nat.reduceLT, Nat.reduceLeDiff, Nat.reduceAdd, Nat.reduceEqDiff, hgn_eq, hgn_lt, hgn_le, if_true, if_false, reduceIte, Nat.not_lt_zero, hgs_aa_d, hgs_aa_r, hgs_aa_h, hgs_aa_m, hgs_aa_t, hgs_ld_wp, hgs_st_wp, hgs_ld_qf, hgs_st_qf, hgs_ld_qt, hgs_st_qt, hgs_ld_2, hgs_st_2, hgs_ld_3, hgs_st_3, hgs_ld_4, hgs_st_4, hgs_ld_301, hgs_st_301, hgs_ld_D, hgs_st_D, hgs_ld_s, hgs_ld_T, hgs_st_T, hgs_ld_o, hgs_st_o, hgs_ld_b, hgs_st_b, hgs_ld_z, hgs_st_z, hgs_al_b, hgx_alen_s, hgn_add, hgn_mul, h1, h3, hgCpA]
  | succ k ih =>
    intro i M hD hE hi
    have h1 : i < 2147483648 := by omega
    have h3 : ¬ 187 ≤ i := by omega
    have h4 : i < 20187 := by omega
    have ih' := ih (v3 := none) (i + 1) (hgSI M e i (hgI M d i)) hD hE (by omega)
    rw [hgu132_2]
    simp (maxDischargeDepth := 7) only [hgM_t, hgM_f, hgM_n, hgx_iconst_0, hgx_istore_n_2i, hgx_istore_n_2r, hgx_istore_n_2f, hgx_istore_n_2n, hgx_istore_n_2l, hgx_iload_n_2, hgx_sipush_187, hgx_ic_ge, hgx_aload_n_1, hgx_aload_n_0, hgx_iinc_2_1, hgx_goto, hgx_invstatic_2, hgx_aft_e, hgx_aft_i, hgx_aft_l, hgx_aft_v, hgx_istore_n_3i, hgx_istore_n_3r, hgx_istore_n_3f, hgx_istore_n_3n, hgx_istore_n_3l, hgx_iload_n_3, hgx_invstatic_1, hgx_bipush_9, hgx_iadd, hgx_iinc_3_1, hgx_vret, hgv132_0, hgr132_0, hgu132_0, hgv132_2, hgr132_2, hgv132_21, hgr132_21, hgu132_21, hgv132_23, ← hgu132_23, hgv132_36, ← hgu132_36, hgv132_65, hgr132_65, hgu132_65, hgv132_71, hgr132_71, hgu132_71, hgI_SI, hgI_SJ, hgJ_SI, hgJ_SJ, if_true, if_false, reduceIte, Nat.reduceEqDiff, hgWf_SI, hgWf_SJ, hgO_SI, hgO_SJ, hgAr_SI, hgAr_SJ, hgRp_SI, hgRp_SJ, hgN_SI, hgN_SJ, hgO_g, hgO_d, hgO_rl, hgO_r, hgO_0, hgO_1, hgO_64, hgO_298, hgO_300, hgCd_0, hgCd_1, hgCd_2, hgCd_3, hgCd_4, hgCd_5, hgRecv_O, hgRecv_99, List.length_cons, List.length_nil, Nat.zero_add, Nat.add_zero, Nat.le_refl, Nat.zero_le, and_self, or_true, true_or, true_and, and_true, ne_eq, not_false_eq_true, Nat.reduceLT, Nat.reduceLeDiff, Nat.reduceAdd, Nat.reduceEqDiff, hgn_eq, hgn_lt, hgn_le, if_true, if_false, reduceIte, Nat.not_lt_zero, hgs_aa_d, hgs_aa_r, hgs_aa_h, hgs_aa_m, hgs_aa_t, hgs_ld_wp, hgs_st_wp, hgs_ld_qf, hgs_st_qf, hgs_ld_qt, hgs_st_qt, hgs_ld_2, hgs_st_2, hgs_ld_3, hgs_st_3, hgs_ld_4, hgs_st_4, hgs_ld_301, hgs_st_301, hgs_ld_D, hgs_st_D, hgs_ld_s, hgs_ld_T, hgs_st_T, hgs_ld_o, hgs_st_o, hgs_ld_b, hgs_st_b, hgs_ld_z, hgs_st_z, hgs_al_b, hgx_alen_s, hgn_add, hgn_mul, hD, hE, hd2, he2, h1, h3, h4, hgCpA, ih']
theorem hgk_132b (hd2 : d ≠ 2000) (he2 : e ≠ 2000) (hde : d ≠ e) (hj : j < 10) (hn2 : n ≤ 1000) : ∀ (k i : Nat) (M : hgMem), hgAr M d 20 20187 → hgAr M e 20 20187 → hgI M d (27 + 10 * j + 9) = nI n → i + k = 187 + 2 * (1000 * j + n) → hgW X 132 36 [some (.ref d), some (.ref e), some (.int (nI j)), some (.int (nI i))] [] (0, 0) M = hgW X 132 23 [some (.ref d), some (.ref e), some (.int (nI (j + 1))), none] [] (0, 0) (hgCpA d e i k M) := by
  intro k
  have h0 : 27 + 10 * j + 9 < 20187 := by omega
  have h5 : 187 + 2 * (1000 * j + n) < 2147483648 := by omega
  induction k with
  | zero =>
    intro i M hD hE hn hi
    have h1 : i < 2147483648 := by omega
    have h3 : 187 + 2 * (1000 * j + n) ≤ i := by omega
    rw [hgu132_36]
    simp (maxDischargeDepth := 7) only [hgM_t, hgM_f, hgM_n, hgx_iconst_0, hgx_istore_n_2i, hgx_istore_n_2r, hgx_istore_n_2f, hgx_istore_n_2n, hgx_istore_n_2l, hgx_iload_n_2, hgx_sipush_187, hgx_ic_ge, hgx_aload_n_1, hgx_aload_n_0, hgx_iinc_2_1, hgx_goto, hgx_invstatic_2, hgx_aft_e, hgx_aft_i, hgx_aft_l, hgx_aft_v, hgx_istore_n_3i, hgx_istore_n_3r, hgx_istore_n_3f, hgx_istore_n_3n, hgx_istore_n_3l, hgx_iload_n_3, hgx_invstatic_1, hgx_bipush_9, hgx_iadd, hgx_iinc_3_1, hgx_vret, hgv132_0, hgr132_0, hgu132_0, hgv132_2, ← hgu132_2, hgv132_21, hgr132_21, hgu132_21, hgv132_23, ← hgu132_23, hgv132_36, hgr132_36, hgv132_65, hgr132_65, hgu132_65, hgv132_71, hgr132_71, hgu132_71, hgI_SI, hgI_SJ, hgJ_SI, hgJ_SJ, if_true, if_false, reduceIte, Nat.reduceEqDiff, hgWf_SI, hgWf_SJ, hgO_SI, hgO_SJ, hgAr_SI, hgAr_SJ, hgRp_SI, hgRp_SJ, hgN_SI, hgN_SJ, hgO_g, hgO_d, hgO_rl, hgO_r, hgO_0, hgO_1, hgO_64, hgO_298, hgO_300, hgCd_0, hgCd_1, hgCd_2, hgCd_3, hgCd_4, hgCd_5, hgRecv_O, hgRecv_99, List.length_cons, List.length_nil, Nat.zero_add, Nat.add_zero, Nat.le_refl, Nat.zero_le, and_self, or_true, true_or, true_and, and_true, ne_eq, not_false_eq_true, Nat.reduceLT, Nat.reduceLeDiff, Nat.reduceAdd, Nat.reduceEqDiff, hgn_eq, hgn_lt, hgn_le, if_true, if_false, reduceIte, Nat.not_lt_zero, hgs_aa_d, hgs_aa_r, hgs_aa_h, hgs_aa_m, hgs_aa_t, hgs_ld_wp, hgs_st_wp, hgs_ld_qf, hgs_st_qf, hgs_ld_qt, hgs_st_qt, hgs_ld_2, hgs_st_2, hgs_ld_3, hgs_st_3, hgs_ld_4, hgs_st_4, hgs_ld_301, hgs_st_301, hgs_ld_D, hgs_st_D, hgs_ld_s, hgs_ld_T, hgs_st_T, hgs_ld_o, hgs_st_o, hgs_ld_b, hgs_st_b, hgs_ld_z, hgs_st_z, hgs_al_b, hgx_alen_s, hgn_add, hgn_mul, hD, hd2, h0, hn, h1, h3, h5, hgCpA, hgk_128, hgk_130]
  | succ k ih =>
    intro i M hD hE hn hi
    have h1 : i < 2147483648 := by omega
    have h3 : ¬ 187 + 2 * (1000 * j + n) ≤ i := by omega
    have h4 : i < 20187 := by omega
    have ih' := ih (i + 1) (hgSI M e i (hgI M d i)) hD hE (by rw [hgI_na hde]; exact hn) (by omega)
    rw [hgu132_36]
    simp (maxDischargeDepth := 7) only [hgM_t, hgM_f, hgM_n, hgx_iconst_0, hgx_istore_n_2i, hgx_istore_n_2r, hgx_istore_n_2f, hgx_istore_n_2n, hgx_istore_n_2l, hgx_iload_n_2, hgx_sipush_187, hgx_ic_ge, hgx_aload_n_1, hgx_aload_n_0, hgx_iinc_2_1, hgx_goto, hgx_invstatic_2, hgx_aft_e, hgx_aft_i, hgx_aft_l, hgx_aft_v, hgx_istore_n_3i, hgx_istore_n_3r, hgx_istore_n_3f, hgx_istore_n_3n, hgx_istore_n_3l, hgx_iload_n_3, hgx_invstatic_1, hgx_bipush_9, hgx_iadd, hgx_iinc_3_1, hgx_vret, hgv132_0, hgr132_0, hgu132_0, hgv132_2, ← hgu132_2, hgv132_21, hgr132_21, hgu132_21, hgv132_23, ← hgu132_23, hgv132_36, hgr132_36, hgv132_65, hgr132_65, hgu132_65, hgv132_71, hgr132_71, hgu132_71, hgI_SI, hgI_SJ, hgJ_SI, hgJ_SJ, if_true, if_false, reduceIte, Nat.reduceEqDiff, hgWf_SI, hgWf_SJ, hgO_SI, hgO_SJ, hgAr_SI, hgAr_SJ, hgRp_SI, hgRp_SJ, hgN_SI, hgN_SJ, hgO_g, hgO_d, hgO_rl, hgO_r, hgO_0, hgO_1, hgO_64, hgO_298, hgO_300, hgCd_0, hgCd_1, hgCd_2, hgCd_3, hgCd_4, hgCd_5, hgRecv_O, hgRecv_99, List.length_cons, List.length_nil, Nat.zero_add, Nat.add_zero, Nat.le_refl, Nat.zero_le, and_self, or_true, true_or, true_and, and_true, ne_eq, not_false_eq_true, Nat.reduceLT, Nat.reduceLeDiff, Nat.reduceAdd, Nat.reduceEqDiff, hgn_eq, hgn_lt, hgn_le, if_true, if_false, reduceIte, Nat.not_lt_zero, hgs_aa_d, hgs_aa_r, hgs_aa_h, hgs_aa_m, hgs_aa_t, hgs_ld_wp, hgs_st_wp, hgs_ld_qf, hgs_st_qf, hgs_ld_qt, hgs_st_qt, hgs_ld_2, hgs_st_2, hgs_ld_3, hgs_st_3, hgs_ld_4, hgs_st_4, hgs_ld_301, hgs_st_301, hgs_ld_D, hgs_st_D, hgs_ld_s, hgs_ld_T, hgs_st_T, hgs_ld_o, hgs_st_o, hgs_ld_b, hgs_st_b, hgs_ld_z, hgs_st_z, hgs_al_b, hgx_alen_s, hgn_add, hgn_mul, hD, hE, hd2, he2, h0, hn, h1, h3, h4, h5, hgCpA, hgk_128, hgk_130, ih']
theorem hgk_132c {len : Nat → Nat} (hd2 : d ≠ 2000) (he2 : e ≠ 2000) (hde : d ≠ e) (hn2 : n ≤ 10) : ∀ (k i : Nat) (M : hgMem), hgAr M d 20 20187 → hgAr M e 20 20187 → hgI M d 0 = nI n → (∀ q, q < n → hgI M d (27 + 10 * q + 9) = nI (len q) ∧ len q ≤ 1000) → i + k = n → hgW X 132 23 [some (.ref d), some (.ref e), some (.int (nI i)), v3] [] (0, 0) M = some (.inl .null, hgCpQ d e len i k M) := by
  intro k
  induction k generalizing v3 with
  | zero =>
    intro i M hD hE hn hl hi
    have h1 : i < 2147483648 := by omega
    have h2 : n < 2147483648 := by omega
    have h3 : n ≤ i := by omega
    rw [hgu132_23]
    simp (maxDischargeDepth := 7) only [hgM_t, hgM_f, hgM_n, hgx_iconst_0, hgx_istore_n_2i, hgx_istore_n_2r, hgx_istore_n_2f, hgx_istore_n_2n, hgx_istore_n_2l, hgx_iload_n_2, hgx_sipush_187, hgx_ic_ge, hgx_aload_n_1, hgx_aload_n_0, hgx_iinc_2_1, hgx_goto, hgx_invstatic_2, hgx_aft_e, hgx_aft_i, hgx_aft_l, hgx_aft_v, hgx_istore_n_3i, hgx_istore_n_3r, hgx_istore_n_3f, hgx_istore_n_3n, hgx_istore_n_3l, hgx_iload_n_3, hgx_invstatic_1, hgx_bipush_9, hgx_iadd, hgx_iinc_3_1, hgx_vret, hgv132_0, hgr132_0, hgu132_0, hgv132_2, ← hgu132_2, hgv132_21, hgr132_21, hgu132_21, hgv132_23, hgr132_23, hgv132_36, ← hgu132_36, hgv132_65, hgr132_65, hgu132_65, hgv132_71, hgr132_71, hgu132_71, hgI_SI, hgI_SJ, hgJ_SI, hgJ_SJ, if_true, if_false, reduceIte, Nat.reduceEqDiff, hgWf_SI, hgWf_SJ, hgO_SI, hgO_SJ, hgAr_SI, hgAr_SJ, hgRp_SI, hgRp_SJ, hgN_SI, hgN_SJ, hgO_g, hgO_d, hgO_rl, hgO_r, hgO_0, hgO_1, hgO_64, hgO_298, hgO_300, hgCd_0, hgCd_1, hgCd_2, hgCd_3, hgCd_4, hgCd_5, hgRecv_O, hgRecv_99, List.length_cons, List.length_nil, Nat.zero_add, Nat.add_zero, Nat.le_refl, Nat.zero_le, and_self, or_true, true_or, true_and, and_true, ne_eq, not_false_eq_true, Nat.reduceLT, Nat.reduceLeDiff, Nat.reduceAdd, Nat.reduceEqDiff, hgn_eq, hgn_lt, hgn_le, if_true, if_false, reduceIte, Nat.not_lt_zero, hgs_aa_d, hgs_aa_r, hgs_aa_h, hgs_aa_m, hgs_aa_t, hgs_ld_wp, hgs_st_wp, hgs_ld_qf, hgs_st_qf, hgs_ld_qt, hgs_st_qt, hgs_ld_2, hgs_st_2, hgs_ld_3, hgs_st_3, hgs_ld_4, hgs_st_4, hgs_ld_301, hgs_st_301, hgs_ld_D, hgs_st_D, hgs_ld_s, hgs_ld_T, hgs_st_T, hgs_ld_o, hgs_st_o, hgs_ld_b, hgs_st_b, hgs_ld_z, hgs_st_z, hgs_al_b, hgx_alen_s, hgn_add, hgn_mul, hD, hd2, hn, h1, h2, h3, hgCpQ]
  | succ k ih =>
    intro i M hD hE hn hl hi
    have h1 : i < 2147483648 := by omega
    have h2 : n < 2147483648 := by omega
    have h3 : ¬ n ≤ i := by omega
    have hli := hl i (by omega)
    have kb := hgk_132b (X := X) (e := e) hd2 he2 hde (show i < 10 by omega) hli.2 (2 * len i) (187 + 2 * (1000 * i)) M hD hE hli.1 (by omega)
    have ih' := ih (v3 := none) (i + 1) (hgCpA d e (187 + 2 * (1000 * i)) (2 * len i) M) (hgAr_to hD (hgCpA_N _ _ _)) (hgAr_to hE (hgCpA_N _ _ _)) (by rw [hgCpA_I hde, if_neg (fun z => hde z.1)]; exact hn) (fun q hq => by rw [hgCpA_I hde, if_neg (fun z => hde z.1)]; exact hl q hq) (by omega)
    rw [hgu132_23]
    simp (maxDischargeDepth := 7) only [hgM_t, hgM_f, hgM_n, hgx_iconst_0, hgx_istore_n_2i, hgx_istore_n_2r, hgx_istore_n_2f, hgx_istore_n_2n, hgx_istore_n_2l, hgx_iload_n_2, hgx_sipush_187, hgx_ic_ge, hgx_aload_n_1, hgx_aload_n_0, hgx_iinc_2_1, hgx_goto, hgx_invstatic_2, hgx_aft_e, hgx_aft_i, hgx_aft_l, hgx_aft_v, hgx_istore_n_3i, hgx_istore_n_3r, hgx_istore_n_3f, hgx_istore_n_3n, hgx_istore_n_3l, hgx_iload_n_3, hgx_invstatic_1, hgx_bipush_9, hgx_iadd, hgx_iinc_3_1, hgx_vret, hgv132_0, hgr132_0, hgu132_0, hgv132_2, ← hgu132_2, hgv132_21, hgr132_21, hgu132_21, hgv132_23, hgr132_23, hgv132_36, ← hgu132_36, hgv132_65, hgr132_65, hgu132_65, hgv132_71, hgr132_71, hgu132_71, hgI_SI, hgI_SJ, hgJ_SI, hgJ_SJ, if_true, if_false, reduceIte, Nat.reduceEqDiff, hgWf_SI, hgWf_SJ, hgO_SI, hgO_SJ, hgAr_SI, hgAr_SJ, hgRp_SI, hgRp_SJ, hgN_SI, hgN_SJ, hgO_g, hgO_d, hgO_rl, hgO_r, hgO_0, hgO_1, hgO_64, hgO_298, hgO_300, hgCd_0, hgCd_1, hgCd_2, hgCd_3, hgCd_4, hgCd_5, hgRecv_O, hgRecv_99, List.length_cons, List.length_nil, Nat.zero_add, Nat.add_zero, Nat.le_refl, Nat.zero_le, and_self, or_true, true_or, true_and, and_true, ne_eq, not_false_eq_true, Nat.reduceLT, Nat.reduceLeDiff, Nat.reduceAdd, Nat.reduceEqDiff, hgn_eq, hgn_lt, hgn_le, if_true, if_false, reduceIte, Nat.not_lt_zero, hgs_aa_d, hgs_aa_r, hgs_aa_h, hgs_aa_m, hgs_aa_t, hgs_ld_wp, hgs_st_wp, hgs_ld_qf, hgs_st_qf, hgs_ld_qt, hgs_st_qt, hgs_ld_2, hgs_st_2, hgs_ld_3, hgs_st_3, hgs_ld_4, hgs_st_4, hgs_ld_301, hgs_st_301, hgs_ld_D, hgs_st_D, hgs_ld_s, hgs_ld_T, hgs_st_T, hgs_ld_o, hgs_st_o, hgs_ld_b, hgs_st_b, hgs_ld_z, hgs_st_z, hgs_al_b, hgx_alen_s, hgn_add, hgn_mul, hD, hd2, hn, h1, h2, h3, hgCpQ, hgk_130, kb, ih']
theorem hgk_132 {len : Nat → Nat} (hD : hgAr M d 20 20187) (hE : hgAr M e 20 20187) (hd2 : d ≠ 2000) (he2 : e ≠ 2000) (hde : d ≠ e) (hn : hgI M d 0 = nI n) (hn2 : n ≤ 10) (hl : ∀ q, q < n → hgI M d (27 + 10 * q + 9) = nI (len q) ∧ len q ≤ 1000) : hgWC X 132 [.ref d, .ref e] M = some (.inl .null, hgCpQ d e len 0 n (hgCpA d e 0 187 M)) := by
  have ka := hgk_132a (X := X) (e := e) (v3 := none) hd2 he2 187 0 M hD hE (by omega)
  have kc := hgk_132c (X := X) (v3 := none) hd2 he2 hde hn2 n 0 (hgCpA d e 0 187 M) (hgAr_to hD (hgCpA_N _ _ _)) (hgAr_to hE (hgCpA_N _ _ _)) (by rw [hgCpA_I hde, if_neg (fun z => hde z.1)]; exact hn) (fun q hq => by rw [hgCpA_I hde, if_neg (fun z => hde z.1)]; exact hl q hq) (by omega)
  simp (maxDischargeDepth := 7) only [hgc132, hgM_t, hgM_f, hgM_n, hgx_iconst_0, hgx_istore_n_2i, hgx_istore_n_2r, hgx_istore_n_2f, hgx_istore_n_2n, hgx_istore_n_2l, hgx_iload_n_2, hgx_sipush_187, hgx_ic_ge, hgx_aload_n_1, hgx_aload_n_0, hgx_iinc_2_1, hgx_goto, hgx_invstatic_2, hgx_aft_e, hgx_aft_i, hgx_aft_l, hgx_aft_v, hgx_istore_n_3i, hgx_istore_n_3r, hgx_istore_n_3f, hgx_istore_n_3n, hgx_istore_n_3l, hgx_iload_n_3, hgx_invstatic_1, hgx_bipush_9, hgx_iadd, hgx_iinc_3_1, hgx_vret, hgv132_0, hgr132_0, hgu132_0, hgv132_2, ← hgu132_2, hgv132_21, hgr132_21, hgu132_21, hgv132_23, ← hgu132_23, hgv132_36, ← hgu132_36, hgv132_65, hgr132_65, hgu132_65, hgv132_71, hgr132_71, hgu132_71, hgI_SI, hgI_SJ, hgJ_SI, hgJ_SJ, if_true, if_false, reduceIte, Nat.reduceEqDiff, hgWf_SI, hgWf_SJ, hgO_SI, hgO_SJ, hgAr_SI, hgAr_SJ, hgRp_SI, hgRp_SJ, hgN_SI, hgN_SJ, hgO_g, hgO_d, hgO_rl, hgO_r, hgO_0, hgO_1, hgO_64, hgO_298, hgO_300, hgCd_0, hgCd_1, hgCd_2, hgCd_3, hgCd_4, hgCd_5, hgRecv_O, hgRecv_99, List.length_cons, List.length_nil, Nat.zero_add, Nat.add_zero, Nat.le_refl, Nat.zero_le, and_self, or_true, true_or, true_and, and_true, ne_eq, not_false_eq_true, Nat.reduceLT, Nat.reduceLeDiff, Nat.reduceAdd, Nat.reduceEqDiff, hgn_eq, hgn_lt, hgn_le, if_true, if_false, reduceIte, Nat.not_lt_zero, hgs_aa_d, hgs_aa_r, hgs_aa_h, hgs_aa_m, hgs_aa_t, hgs_ld_wp, hgs_st_wp, hgs_ld_qf, hgs_st_qf, hgs_ld_qt, hgs_st_qt, hgs_ld_2, hgs_st_2, hgs_ld_3, hgs_st_3, hgs_ld_4, hgs_st_4, hgs_ld_301, hgs_st_301, hgs_ld_D, hgs_st_D, hgs_ld_s, hgs_ld_T, hgs_st_T, hgs_ld_o, hgs_st_o, hgs_ld_b, hgs_st_b, hgs_ld_z, hgs_st_z, hgs_al_b, hgx_alen_s, hgn_add, hgn_mul, ka, kc]
theorem hgk_133l : ∀ (k i : Nat) (M : hgMem), hgAr M d 21 10 → hgAr M e 21 10 → i + k = 10 → hgW X 133 2 [some (.ref d), some (.ref e), some (.int (nI i))] [] (0, 0) M = some (.inl .null, hgCpJ d e i k M) := by
  intro k
  induction k with
  | zero =>
    intro i M hD hE hi
    have h1 : i < 2147483648 := by omega
    have h3 : 10 ≤ i := by omega
    rw [hgu133_2]
    simp (maxDischargeDepth := 7) only [hgM_t, hgM_f, hgM_n, hgx_iconst_0, hgx_istore_n_2i, hgx_istore_n_2r, hgx_istore_n_2f, hgx_istore_n_2n, hgx_istore_n_2l, hgx_iload_n_2, hgx_bipush_10, hgx_ic_ge, hgx_aload_n_1, hgx_aload_n_0, hgx_iinc_2_1, hgx_goto, hgx_vret, hgv133_0, hgr133_0, hgu133_0, hgv133_2, hgr133_2, hgv133_20, hgr133_20, hgu133_20, hgI_SI, hgI_SJ, hgJ_SI, hgJ_SJ, if_true, if_false, reduceIte, Nat.reduceEqDiff, hgWf_SI, hgWf_SJ, hgO_SI, hgO_SJ, hgAr_SI, hgAr_SJ, hgRp_SI, hgRp_SJ, hgN_SI, hgN_SJ, hgO_g, hgO_d, hgO_rl, hgO_r, hgO_0, hgO_1, hgO_64, hgO_298, hgO_300, hgCd_0, hgCd_1, hgCd_2, hgCd_3, hgCd_4, hgCd_5, hgRecv_O, hgRecv_99, List.length_cons, List.length_nil, Nat.zero_add, Nat.add_zero, Nat.le_refl, Nat.zero_le, and_self, or_true, true_or, true_and, and_true, ne_eq, not_false_eq_true, Nat.reduceLT, Nat.reduceLeDiff, Nat.reduceAdd, Nat.reduceEqDiff, hgn_eq, hgn_lt, hgn_le, if_true, if_false, reduceIte, Nat.not_lt_zero, hgs_aa_d, hgs_aa_r, hgs_aa_h, hgs_aa_m, hgs_aa_t, hgs_ld_wp, hgs_st_wp, hgs_ld_qf, hgs_st_qf, hgs_ld_qt, hgs_st_qt, hgs_ld_2, hgs_st_2, hgs_ld_3, hgs_st_3, hgs_ld_4, hgs_st_4, hgs_ld_301, hgs_st_301, hgs_ld_D, hgs_st_D, hgs_ld_s, hgs_ld_T, hgs_st_T, hgs_ld_o, hgs_st_o, hgs_ld_b, hgs_st_b, hgs_ld_z, hgs_st_z, hgs_al_b, hgx_alen_s, hgn_add, hgn_mul, h1, h3, hgCpJ]
  | succ k ih =>
    intro i M hD hE hi
    have h1 : i < 2147483648 := by omega
    have h3 : ¬ 10 ≤ i := by omega
    have h4 : i < 10 := by omega
    have ih' := ih (i + 1) (hgSJ M e i (hgJ M d i)) hD hE (by omega)
    rw [hgu133_2]
    simp (maxDischargeDepth := 7) only [hgM_t, hgM_f, hgM_n, hgx_iconst_0, hgx_istore_n_2i, hgx_istore_n_2r, hgx_istore_n_2f, hgx_istore_n_2n, hgx_istore_n_2l, hgx_iload_n_2, hgx_bipush_10, hgx_ic_ge, hgx_aload_n_1, hgx_aload_n_0, hgx_iinc_2_1, hgx_goto, hgx_vret, hgv133_0, hgr133_0, hgu133_0, hgv133_2, hgr133_2, hgv133_20, hgr133_20, hgu133_20, hgI_SI, hgI_SJ, hgJ_SI, hgJ_SJ, if_true, if_false, reduceIte, Nat.reduceEqDiff, hgWf_SI, hgWf_SJ, hgO_SI, hgO_SJ, hgAr_SI, hgAr_SJ, hgRp_SI, hgRp_SJ, hgN_SI, hgN_SJ, hgO_g, hgO_d, hgO_rl, hgO_r, hgO_0, hgO_1, hgO_64, hgO_298, hgO_300, hgCd_0, hgCd_1, hgCd_2, hgCd_3, hgCd_4, hgCd_5, hgRecv_O, hgRecv_99, List.length_cons, List.length_nil, Nat.zero_add, Nat.add_zero, Nat.le_refl, Nat.zero_le, and_self, or_true, true_or, true_and, and_true, ne_eq, not_false_eq_true, Nat.reduceLT, Nat.reduceLeDiff, Nat.reduceAdd, Nat.reduceEqDiff, hgn_eq, hgn_lt, hgn_le, if_true, if_false, reduceIte, Nat.not_lt_zero, hgs_aa_d, hgs_aa_r, hgs_aa_h, hgs_aa_m, hgs_aa_t, hgs_ld_wp, hgs_st_wp, hgs_ld_qf, hgs_st_qf, hgs_ld_qt, hgs_st_qt, hgs_ld_2, hgs_st_2, hgs_ld_3, hgs_st_3, hgs_ld_4, hgs_st_4, hgs_ld_301, hgs_st_301, hgs_ld_D, hgs_st_D, hgs_ld_s, hgs_ld_T, hgs_st_T, hgs_ld_o, hgs_st_o, hgs_ld_b, hgs_st_b, hgs_ld_z, hgs_st_z, hgs_al_b, hgx_alen_s, hgn_add, hgn_mul, hD, hE, h1, h3, h4, hgCpJ, ih']
theorem hgk_133 (hD : hgAr M d 21 10) (hE : hgAr M e 21 10) : hgWC X 133 [.ref d, .ref e] M = some (.inl .null, hgCpJ d e 0 10 M) := by
  have k := hgk_133l (X := X) 10 0 M hD hE (by omega)
  simp (maxDischargeDepth := 7) only [hgc133, hgM_t, hgM_f, hgM_n, hgx_iconst_0, hgx_istore_n_2i, hgx_istore_n_2r, hgx_istore_n_2f, hgx_istore_n_2n, hgx_istore_n_2l, hgx_iload_n_2, hgx_bipush_10, hgx_ic_ge, hgx_aload_n_1, hgx_aload_n_0, hgx_iinc_2_1, hgx_goto, hgx_vret, hgv133_0, hgr133_0, hgu133_0, hgv133_2, ← hgu133_2, hgv133_20, hgr133_20, hgu133_20, hgI_SI, hgI_SJ, hgJ_SI, hgJ_SJ, if_true, if_false, reduceIte, Nat.reduceEqDiff, hgWf_SI, hgWf_SJ, hgO_SI, hgO_SJ, hgAr_SI, hgAr_SJ, hgRp_SI, hgRp_SJ, hgN_SI, hgN_SJ, hgO_g, hgO_d, hgO_rl, hgO_r, hgO_0, hgO_1, hgO_64, hgO_298, hgO_300, hgCd_0, hgCd_1, hgCd_2, hgCd_3, hgCd_4, hgCd_5, hgRecv_O, hgRecv_99, List.length_cons, List.length_nil, Nat.zero_add, Nat.add_zero, Nat.le_refl, Nat.zero_le, and_self, or_true, true_or, true_and, and_true, ne_eq, not_false_eq_true, Nat.reduceLT, Nat.reduceLeDiff, Nat.reduceAdd, Nat.reduceEqDiff, hgn_eq, hgn_lt, hgn_le, if_true, if_false, reduceIte, Nat.not_lt_zero]
  exact k
end HGCOP

/-! FAIRNESS, both sides. -/
def vFx (V : hgV) (i : Nat) : UInt32 := FP.fdiv (FP.fmul FP.fconst1 (FP.i2f (vD V i 7))) (FP.i2f (vD V i 1))
def vFs (V : hgV) : Nat → Nat → UInt32 → UInt32 → UInt32 × UInt32
  | _, 0, s, q => (s, q)
  | i, k + 1, s, q => vFs V (i + 1) k (FP.fadd s (vFx V i)) (FP.fadd q (FP.fmul (vFx V i) (vFx V i)))
def vFr (V : hgV) : Int32 := if (vFs V 0 (vN V) FP.fconst0 FP.fconst0).2.toNat = 0 then nI 1000 else FP.f2i (FP.fdiv (FP.fmul (FP.fmul (UInt32.ofNat 1148846080) (vFs V 0 (vN V) FP.fconst0 FP.fconst0).1) (vFs V 0 (vN V) FP.fconst0 FP.fconst0).1) (FP.fmul (FP.i2f (nI (vN V))) (vFs V 0 (vN V) FP.fconst0 FP.fconst0).2))
/-- what the sums keep -/
def hgFq (i : Nat) (s q : UInt32) : Prop := s.toNat % 2 ^ 31 < (147 + 2 * i) * 2 ^ 23 ∧ q.toNat % 2 ^ 31 < (168 + 2 * i) * 2 ^ 23 ∧ q.toNat < 2 ^ 31
theorem hgcv_e : Op.cmpValue (some .eq) .l = nI 0 := by decide
theorem hgcv_g : Op.cmpValue (some .gt) .l = nI 1 := by decide
section HGFA2
variable {X : hgX} {M M' M1 M2 M3 Mo : hgMem} {d t g h i j c k a b n p N l : Nat} {V V' V1 W U : hgV} {Hs Hs' : List hgV} {x y z r : Int32} {s q : UInt32} {v4 : Option Value}
theorem vFx_k (hk : hgVok V c) (hi : i < vN V) : (FP.fmul FP.fconst1 (FP.i2f (vD V i 7))) &&& 0x7fffffff ≤ 0x7f800000 ∧ (vFx V i) &&& 0x7fffffff ≤ 0x7f800000 ∧ (vFx V i).toNat % 2 ^ 31 < 147 * 2 ^ 23 := by
  obtain ⟨w, w1, w2, w3⟩ := (hk.2.2.2.1 i hi).2.1
  obtain ⟨n, n1, n2⟩ := (hk.2.2.2.1 i hi).2.2.2.2.2.2.2.1
  have hc := hk.2.2.2.2.2.2.2.2
  have hx := hgF_x (n := n) (w := w) (by omega) w1 w2
  unfold vFx
  rw [n1, w3]
  exact ⟨hgF_k hx.1 (by omega), hgF_k hx.2 (by omega), hx.2⟩
theorem hgFq_s (hk : hgVok V c) (hi : i < vN V) (h : hgFq i s q) : hgFq (i + 1) (FP.fadd s (vFx V i)) (FP.fadd q (FP.fmul (vFx V i) (vFx V i))) ∧ (FP.fadd s (vFx V i)) &&& 0x7fffffff ≤ 0x7f800000 ∧ (FP.fmul (vFx V i) (vFx V i)) &&& 0x7fffffff ≤ 0x7f800000 ∧ (FP.fadd q (FP.fmul (vFx V i) (vFx V i))) &&& 0x7fffffff ≤ 0x7f800000 := by
  obtain ⟨x1, x2, x3⟩ := vFx_k hk hi
  have hN := hk.1
  obtain ⟨s1, q1, q2⟩ := h
  obtain ⟨y1, y2⟩ := hgF_sq x3
  have l1 : 147 ≤ 147 + 2 * i := Nat.le_add_right _ _
  have l2 : 168 ≤ 168 + 2 * i := Nat.le_add_right _ _
  have l3 : 147 + 2 * i ≤ 255 := by omega
  have l4 : 168 + 2 * i ≤ 255 := by omega
  have l5 : 147 + 2 * i + 2 ≤ 255 := by omega
  have l6 : 168 + 2 * i + 2 ≤ 255 := by omega
  have a1 := FP.Core.fadd_mag (K := 147 + 2 * i) (b := vFx V i) s1 (Nat.lt_of_lt_of_le x3 (Nat.mul_le_mul_right _ l1)) l3
  have y1' := Nat.lt_of_lt_of_le y1 (Nat.mul_le_mul_right (2 ^ 23) l2)
  have a2 := FP.Core.fadd_mag (K := 168 + 2 * i) (b := FP.Core.fmul (vFx V i) (vFx V i)) q1 y1' l4
  have a3 := hgF_add (K := 168 + 2 * i) q1 y1' l4 q2 y2
  exact ⟨⟨a1, a2, a3⟩, hgF_k (K := 147 + 2 * i + 2) a1 l5, hgF_k (K := 168) y1 (by decide), hgF_k (K := 168 + 2 * i + 2) a2 l6⟩
theorem hgFq_f (hk : hgVok V c) : ∀ (k i : Nat) (s q : UInt32), i + k = vN V → hgFq i s q → hgFq (vN V) (vFs V i k s q).1 (vFs V i k s q).2
  | 0, i, s, q, hi, h => by
    have : i = vN V := by omega
    rw [← this]
    exact h
  | k + 1, i, s, q, hi, h => hgFq_f hk k (i + 1) _ _ (by omega) (hgFq_s hk (by omega) h).1
theorem hgk_22l (hw : hgWf M) (hk : hgVok V c) (h : hgCV M g V) : ∀ (k i : Nat) (s q : UInt32) (v4 : Option Value), i + k = vN V → hgFq i s q → hgW X 22 6 [some (.ref g), some (.float s), some (.float q), some (.int (nI i)), v4] [] (0, 0) M = hgW X 22 70 [some (.ref g), some (.float (vFs V i k s q).1), some (.float (vFs V i k s q).2), none, none] [] (0, 0) M := by
  intro k
  have hN := hk.1
  have hg := h.1
  have hn := h.2.1
  induction k with
  | zero =>
    intro i s q v4 hi hf
    have h1 : i < 2147483648 := by omega
    have h2 : vN V < 2147483648 := by omega
    have h3 : vN V ≤ i := by omega
    rw [hgu22_6]
    simp (maxDischargeDepth := 7) only [hgx_iload_n_3, hgx_aload_n_0, hgx_get0, hgx_ic_ge, hgr22_6, hgv22_70, hgM_t, hgM_f, hgM_n, hgI_SI, hgI_SJ, hgJ_SI, hgJ_SJ, if_true, if_false, reduceIte, Nat.reduceEqDiff, hgWf_SI, hgWf_SJ, hgO_SI, hgO_SJ, hgAr_SI, hgAr_SJ, hgRp_SI, hgRp_SJ, hgN_SI, hgN_SJ, hgO_g, hgO_d, hgO_rl, hgO_r, hgO_0, hgO_1, hgO_64, hgO_298, hgO_300, hgCd_0, hgCd_1, hgCd_2, hgCd_3, hgCd_4, hgCd_5, hgRecv_O, hgRecv_99, List.length_cons, List.length_nil, Nat.zero_add, Nat.add_zero, Nat.le_refl, Nat.zero_le, and_self, or_true, true_or, true_and, and_true, ne_eq, not_false_eq_true, Nat.reduceLT, Nat.reduceLeDiff, Nat.reduceAdd, Nat.reduceEqDiff, hgn_eq, hgn_lt, hgn_le, if_true, if_false, reduceIte, Nat.not_lt_zero, hw, hg, hn, h1, h2, h3, vFs]
  | succ k ih =>
    intro i s q v4 hi hf
    have h1 : i < 2147483648 := by omega
    have h2 : vN V < 2147483648 := by omega
    have h3 : ¬ vN V ≤ i := by omega
    have h4 : i < 10 := by omega
    have od := hgO_d hw hg h4
    have hd := h.2.2.2.2.2.2.2.2.2.2.2.1 i (by omega)
    have e1 : hgI M (g + 2 + i) 1 = vD V i 1 := hd.1 1 (by omega)
    have e8 : hgI M (g + 2 + i) 8 = vD V i 7 := hd.1 7 (by omega)
    obtain ⟨w, w1, w2, w3⟩ := (hk.2.2.2.1 i (by omega)).2.1
    have w0 : ¬ vD V i 1 ≤ nI 0 := by rw [w3, hgn_le (by omega) (by omega)]; omega
    obtain ⟨x1, x2, x3⟩ := vFx_k hk (show i < vN V by omega)
    obtain ⟨f1, f2, f3, f4⟩ := hgFq_s hk (show i < vN V by omega) hf
    have ih' := ih (i + 1) _ _ none (by omega) f1
    refine Eq.trans ?_ ih'
    rw [hgu22_6]
    unfold vFx at x2 f2 f3 f4 ⊢
    simp (maxDischargeDepth := 7) only [hgM_t, hgM_f, hgM_n, hgx_fconst_0, hgx_fstore_n_1i, hgx_fstore_n_1r, hgx_fstore_n_1f, hgx_fstore_n_1n, hgx_fstore_n_1l, hgx_fstore_n_2i, hgx_fstore_n_2r, hgx_fstore_n_2f, hgx_fstore_n_2n, hgx_fstore_n_2l, hgx_iconst_0, hgx_istore_n_3i, hgx_istore_n_3r, hgx_istore_n_3f, hgx_istore_n_3n, hgx_istore_n_3l, hgx_iload_n_3, hgx_aload_n_0, hgx_get0, hgx_ic_ge, hgs_get_1_5, hgx_if_le, hgx_fconst_1, hgx_i2f, hgx_fmul, hgx_fdiv, hgx_fstore_4i, hgx_fstore_4r, hgx_fstore_4f, hgx_fstore_4n, hgx_fstore_4l, hgx_fload_n_1, hgx_fload_4, hgx_fadd, hgx_fload_n_2, hgx_iinc_3_1, hgx_goto, hgx_fcmp, hgx_ldc_f, hgx_f2i, hgx_ret1, hgx_sipush_1000, hgv22_0, hgr22_0, hgu22_0, hgv22_6, ← hgu22_6, hgv22_64, hgr22_64, hgu22_64, hgv22_70, ← hgu22_70, hgv22_99, hgr22_99, hgu22_99, hgr22_6, hgI_SI, hgI_SJ, hgJ_SI, hgJ_SJ, if_true, if_false, reduceIte, Nat.reduceEqDiff, hgWf_SI, hgWf_SJ, hgO_SI, hgO_SJ, hgAr_SI, hgAr_SJ, hgRp_SI, hgRp_SJ, hgN_SI, hgN_SJ, hgO_g, hgO_d, hgO_rl, hgO_r, hgO_0, hgO_1, hgO_64, hgO_298, hgO_300, hgCd_0, hgCd_1, hgCd_2, hgCd_3, hgCd_4, hgCd_5, hgRecv_O, hgRecv_99, List.length_cons, List.length_nil, Nat.zero_add, Nat.add_zero, Nat.le_refl, Nat.zero_le, and_self, or_true, true_or, true_and, and_true, ne_eq, not_false_eq_true, Nat.reduceLT, Nat.reduceLeDiff, Nat.reduceAdd, Nat.reduceEqDiff, hgn_eq, hgn_lt, hgn_le, if_true, if_false, reduceIte, Nat.not_lt_zero, hgs_aa_d, hgs_aa_r, hgs_aa_h, hgs_aa_m, hgs_aa_t, hgs_ld_wp, hgs_st_wp, hgs_ld_qf, hgs_st_qf, hgs_ld_qt, hgs_st_qt, hgs_ld_2, hgs_st_2, hgs_ld_3, hgs_st_3, hgs_ld_4, hgs_st_4, hgs_ld_301, hgs_st_301, hgs_ld_D, hgs_st_D, hgs_ld_s, hgs_ld_T, hgs_st_T, hgs_ld_o, hgs_st_o, hgs_ld_b, hgs_st_b, hgs_ld_z, hgs_st_z, hgs_al_b, hgx_alen_s, hgn_add, hgn_mul, hw, hg, hn, h1, h2, h3, h4, od, e1, e8, w0, x1, x2, f2, f3, f4]
theorem hgFqe (hk : hgVok V c) (h0 : (vFs V 0 (vN V) FP.fconst0 FP.fconst0).2.toNat ≠ 0) (hf : hgFq (vN V) (vFs V 0 (vN V) FP.fconst0 FP.fconst0).1 (vFs V 0 (vN V) FP.fconst0 FP.fconst0).2) : 0 < vN V ∧ (FP.fmul (UInt32.ofNat 1148846080) (vFs V 0 (vN V) FP.fconst0 FP.fconst0).1) &&& 0x7fffffff ≤ 0x7f800000 ∧ (FP.fmul (FP.fmul (UInt32.ofNat 1148846080) (vFs V 0 (vN V) FP.fconst0 FP.fconst0).1) (vFs V 0 (vN V) FP.fconst0 FP.fconst0).1) &&& 0x7fffffff ≤ 0x7f800000 ∧ (FP.fmul (FP.i2f (nI (vN V))) (vFs V 0 (vN V) FP.fconst0 FP.fconst0).2) &&& 0x7fffffff ≤ 0x7f800000 ∧ (FP.fdiv (FP.fmul (FP.fmul (UInt32.ofNat 1148846080) (vFs V 0 (vN V) FP.fconst0 FP.fconst0).1) (vFs V 0 (vN V) FP.fconst0 FP.fconst0).1) (FP.fmul (FP.i2f (nI (vN V))) (vFs V 0 (vN V) FP.fconst0 FP.fconst0).2)) &&& 0x7fffffff ≤ 0x7f800000 := by
  have hN := hk.1
  have n0 : 0 < vN V := by
    by_cases e : vN V = 0
    · exfalso
      apply h0
      rw [e]
      rfl
    · omega
  obtain ⟨s1, q1, q2⟩ := hf
  have s1' := Nat.lt_of_lt_of_le s1 (show (147 + 2 * vN V) * 2 ^ 23 ≤ 167 * 2 ^ 23 by omega)
  have q1' := Nat.lt_of_lt_of_le q1 (show (168 + 2 * vN V) * 2 ^ 23 ≤ 188 * 2 ^ 23 by omega)
  have k1 : (UInt32.ofNat 1148846080).toNat % 2 ^ 31 < 137 * 2 ^ 23 := by decide
  have m1 := FP.Core.fmul_mag k1 s1' (by omega) (by omega)
  have m2 := FP.Core.fmul_mag (Ka := 178) m1 s1' (by omega) (by omega)
  have m3 := FP.Core.fmul_mag (hgF_i (n := vN V) (by omega)) q1' (by omega) (by omega)
  have den := hgF_den (n := vN V) (K := 188) (y := (vFs V 0 (vN V) FP.fconst0 FP.fconst0).2) (by omega) n0 q1' (by omega) (by omega)
  exact ⟨n0, hgF_k m1 (by omega), hgF_k m2 (by omega), hgF_k m3 (by omega), hgF_div (K := 219) (L := 206) m2 (by omega) m3 (by omega) den⟩
theorem hgFq_0 : hgFq 0 FP.fconst0 FP.fconst0 := by
  unfold hgFq
  decide
theorem hgCV_22 (hw : hgWf M) (hk : hgVok V c) (h : hgCV M g V) : hgWC X 22 [.ref g] M = some (.inl (.int (vFr V)), M) := by
  have hN := hk.1
  have hg := h.1
  have hn := h.2.1
  have kl := hgk_22l (X := X) hw hk h (vN V) 0 FP.fconst0 FP.fconst0 none (by omega) hgFq_0
  have hf := hgFq_f hk (vN V) 0 FP.fconst0 FP.fconst0 (by omega) hgFq_0
  have hcmp := hgF_cmp hf.2.2 (by have := hf.2.1; have := hf.2.2; omega)
  have h2 : vN V < 2147483648 := by omega
  simp (maxDischargeDepth := 7) only [hgc22, hgM_t, hgM_f, hgM_n, hgx_fconst_0, hgx_fstore_n_1i, hgx_fstore_n_1r, hgx_fstore_n_1f, hgx_fstore_n_1n, hgx_fstore_n_1l, hgx_fstore_n_2i, hgx_fstore_n_2r, hgx_fstore_n_2f, hgx_fstore_n_2n, hgx_fstore_n_2l, hgx_iconst_0, hgx_istore_n_3i, hgx_istore_n_3r, hgx_istore_n_3f, hgx_istore_n_3n, hgx_istore_n_3l, hgx_iload_n_3, hgx_aload_n_0, hgx_get0, hgx_ic_ge, hgs_get_1_5, hgx_if_le, hgx_fconst_1, hgx_i2f, hgx_fmul, hgx_fdiv, hgx_fstore_4i, hgx_fstore_4r, hgx_fstore_4f, hgx_fstore_4n, hgx_fstore_4l, hgx_fload_n_1, hgx_fload_4, hgx_fadd, hgx_fload_n_2, hgx_iinc_3_1, hgx_goto, hgx_fcmp, hgx_ldc_f, hgx_f2i, hgx_ret1, hgx_sipush_1000, hgv22_0, hgr22_0, hgu22_0, hgv22_6, ← hgu22_6, hgv22_64, hgr22_64, hgu22_64, hgv22_70, ← hgu22_70, hgv22_99, hgr22_99, hgu22_99, hgI_SI, hgI_SJ, hgJ_SI, hgJ_SJ, if_true, if_false, reduceIte, Nat.reduceEqDiff, hgWf_SI, hgWf_SJ, hgO_SI, hgO_SJ, hgAr_SI, hgAr_SJ, hgRp_SI, hgRp_SJ, hgN_SI, hgN_SJ, hgO_g, hgO_d, hgO_rl, hgO_r, hgO_0, hgO_1, hgO_64, hgO_298, hgO_300, hgCd_0, hgCd_1, hgCd_2, hgCd_3, hgCd_4, hgCd_5, hgRecv_O, hgRecv_99, List.length_cons, List.length_nil, Nat.zero_add, Nat.add_zero, Nat.le_refl, Nat.zero_le, and_self, or_true, true_or, true_and, and_true, ne_eq, not_false_eq_true, Nat.reduceLT, Nat.reduceLeDiff, Nat.reduceAdd, Nat.reduceEqDiff, hgn_eq, hgn_lt, hgn_le, if_true, if_false, reduceIte, Nat.not_lt_zero]
  refine Eq.trans kl ?_
  rw [hgu22_70]
  unfold vFr
  by_cases e : (vFs V 0 (vN V) FP.fconst0 FP.fconst0).2.toNat = 0
  · rw [if_pos e] at hcmp ⊢
    by_cases z : vN V ≤ 0
    · simp (maxDischargeDepth := 7) only [hgM_t, hgM_f, hgM_n, hgx_fconst_0, hgx_fstore_n_1i, hgx_fstore_n_1r, hgx_fstore_n_1f, hgx_fstore_n_1n, hgx_fstore_n_1l, hgx_fstore_n_2i, hgx_fstore_n_2r, hgx_fstore_n_2f, hgx_fstore_n_2n, hgx_fstore_n_2l, hgx_iconst_0, hgx_istore_n_3i, hgx_istore_n_3r, hgx_istore_n_3f, hgx_istore_n_3n, hgx_istore_n_3l, hgx_iload_n_3, hgx_aload_n_0, hgx_get0, hgx_ic_ge, hgs_get_1_5, hgx_if_le, hgx_fconst_1, hgx_i2f, hgx_fmul, hgx_fdiv, hgx_fstore_4i, hgx_fstore_4r, hgx_fstore_4f, hgx_fstore_4n, hgx_fstore_4l, hgx_fload_n_1, hgx_fload_4, hgx_fadd, hgx_fload_n_2, hgx_iinc_3_1, hgx_goto, hgx_fcmp, hgx_ldc_f, hgx_f2i, hgx_ret1, hgx_sipush_1000, hgv22_0, hgr22_0, hgu22_0, hgv22_6, ← hgu22_6, hgv22_64, hgr22_64, hgu22_64, hgv22_70, hgr22_70, hgu22_70, hgv22_99, hgr22_99, hgu22_99, hgI_SI, hgI_SJ, hgJ_SI, hgJ_SJ, if_true, if_false, reduceIte, Nat.reduceEqDiff, hgWf_SI, hgWf_SJ, hgO_SI, hgO_SJ, hgAr_SI, hgAr_SJ, hgRp_SI, hgRp_SJ, hgN_SI, hgN_SJ, hgO_g, hgO_d, hgO_rl, hgO_r, hgO_0, hgO_1, hgO_64, hgO_298, hgO_300, hgCd_0, hgCd_1, hgCd_2, hgCd_3, hgCd_4, hgCd_5, hgRecv_O, hgRecv_99, List.length_cons, List.length_nil, Nat.zero_add, Nat.add_zero, Nat.le_refl, Nat.zero_le, and_self, or_true, true_or, true_and, and_true, ne_eq, not_false_eq_true, Nat.reduceLT, Nat.reduceLeDiff, Nat.reduceAdd, Nat.reduceEqDiff, hgn_eq, hgn_lt, hgn_le, if_true, if_false, reduceIte, Nat.not_lt_zero, hw, hg, hn, h2, z]
    · simp (maxDischargeDepth := 7) only [hgM_t, hgM_f, hgM_n, hgx_fconst_0, hgx_fstore_n_1i, hgx_fstore_n_1r, hgx_fstore_n_1f, hgx_fstore_n_1n, hgx_fstore_n_1l, hgx_fstore_n_2i, hgx_fstore_n_2r, hgx_fstore_n_2f, hgx_fstore_n_2n, hgx_fstore_n_2l, hgx_iconst_0, hgx_istore_n_3i, hgx_istore_n_3r, hgx_istore_n_3f, hgx_istore_n_3n, hgx_istore_n_3l, hgx_iload_n_3, hgx_aload_n_0, hgx_get0, hgx_ic_ge, hgs_get_1_5, hgx_if_le, hgx_fconst_1, hgx_i2f, hgx_fmul, hgx_fdiv, hgx_fstore_4i, hgx_fstore_4r, hgx_fstore_4f, hgx_fstore_4n, hgx_fstore_4l, hgx_fload_n_1, hgx_fload_4, hgx_fadd, hgx_fload_n_2, hgx_iinc_3_1, hgx_goto, hgx_fcmp, hgx_ldc_f, hgx_f2i, hgx_ret1, hgx_sipush_1000, hgv22_0, hgr22_0, hgu22_0, hgv22_6, ← hgu22_6, hgv22_64, hgr22_64, hgu22_64, hgv22_70, hgr22_70, hgu22_70, hgv22_99, hgr22_99, hgu22_99, hgI_SI, hgI_SJ, hgJ_SI, hgJ_SJ, if_true, if_false, reduceIte, Nat.reduceEqDiff, hgWf_SI, hgWf_SJ, hgO_SI, hgO_SJ, hgAr_SI, hgAr_SJ, hgRp_SI, hgRp_SJ, hgN_SI, hgN_SJ, hgO_g, hgO_d, hgO_rl, hgO_r, hgO_0, hgO_1, hgO_64, hgO_298, hgO_300, hgCd_0, hgCd_1, hgCd_2, hgCd_3, hgCd_4, hgCd_5, hgRecv_O, hgRecv_99, List.length_cons, List.length_nil, Nat.zero_add, Nat.add_zero, Nat.le_refl, Nat.zero_le, and_self, or_true, true_or, true_and, and_true, ne_eq, not_false_eq_true, Nat.reduceLT, Nat.reduceLeDiff, Nat.reduceAdd, Nat.reduceEqDiff, hgn_eq, hgn_lt, hgn_le, if_true, if_false, reduceIte, Nat.not_lt_zero, hw, hg, hn, h2, z, hcmp, hgcv_e]
  · rw [if_neg e] at hcmp ⊢
    obtain ⟨n0, g1, g2, g3, g4⟩ := hgFqe hk e hf
    have z : ¬ vN V ≤ 0 := by omega
    simp (maxDischargeDepth := 7) only [hgM_t, hgM_f, hgM_n, hgx_fconst_0, hgx_fstore_n_1i, hgx_fstore_n_1r, hgx_fstore_n_1f, hgx_fstore_n_1n, hgx_fstore_n_1l, hgx_fstore_n_2i, hgx_fstore_n_2r, hgx_fstore_n_2f, hgx_fstore_n_2n, hgx_fstore_n_2l, hgx_iconst_0, hgx_istore_n_3i, hgx_istore_n_3r, hgx_istore_n_3f, hgx_istore_n_3n, hgx_istore_n_3l, hgx_iload_n_3, hgx_aload_n_0, hgx_get0, hgx_ic_ge, hgs_get_1_5, hgx_if_le, hgx_fconst_1, hgx_i2f, hgx_fmul, hgx_fdiv, hgx_fstore_4i, hgx_fstore_4r, hgx_fstore_4f, hgx_fstore_4n, hgx_fstore_4l, hgx_fload_n_1, hgx_fload_4, hgx_fadd, hgx_fload_n_2, hgx_iinc_3_1, hgx_goto, hgx_fcmp, hgx_ldc_f, hgx_f2i, hgx_ret1, hgx_sipush_1000, hgv22_0, hgr22_0, hgu22_0, hgv22_6, ← hgu22_6, hgv22_64, hgr22_64, hgu22_64, hgv22_70, hgr22_70, hgu22_70, hgv22_99, hgr22_99, hgu22_99, hgI_SI, hgI_SJ, hgJ_SI, hgJ_SJ, if_true, if_false, reduceIte, Nat.reduceEqDiff, hgWf_SI, hgWf_SJ, hgO_SI, hgO_SJ, hgAr_SI, hgAr_SJ, hgRp_SI, hgRp_SJ, hgN_SI, hgN_SJ, hgO_g, hgO_d, hgO_rl, hgO_r, hgO_0, hgO_1, hgO_64, hgO_298, hgO_300, hgCd_0, hgCd_1, hgCd_2, hgCd_3, hgCd_4, hgCd_5, hgRecv_O, hgRecv_99, List.length_cons, List.length_nil, Nat.zero_add, Nat.add_zero, Nat.le_refl, Nat.zero_le, and_self, or_true, true_or, true_and, and_true, ne_eq, not_false_eq_true, Nat.reduceLT, Nat.reduceLeDiff, Nat.reduceAdd, Nat.reduceEqDiff, hgn_eq, hgn_lt, hgn_le, if_true, if_false, reduceIte, Nat.not_lt_zero, hw, hg, hn, h2, z, hcmp, hgcv_g, g1, g2, g3, g4]
theorem hgk_187l (hw : hgWf M) (hk : hgVok V c) (h : hgRV M 302 314 V) : ∀ (k i : Nat) (s q : UInt32) (v4 : Option Value), i + k = vN V → hgFq i s q → hgW X 187 11 [some (.ref 300), some (.float s), some (.float q), some (.int (nI i)), v4] [] (0, 0) M = hgW X 187 70 [some (.ref 300), some (.float (vFs V i k s q).1), some (.float (vFs V i k s q).2), none, none] [] (0, 0) M := by
  intro k
  have hN := hk.1
  have hn := h.2.2.2.1
  induction k with
  | zero =>
    intro i s q v4 hi hf
    have h1 : i < 2147483648 := by omega
    have h2 : vN V < 2147483648 := by omega
    have h3 : vN V ≤ i := by omega
    rw [hgu187_11]
    simp (maxDischargeDepth := 7) only [hgx_iload_n_3, hgx_aload_n_0, hgs_get_8_8, hgx_iconst_0, hgx_ic_ge, hgr187_11, hgv187_70, hgM_t, hgM_f, hgM_n, hgI_SI, hgI_SJ, hgJ_SI, hgJ_SJ, if_true, if_false, reduceIte, Nat.reduceEqDiff, hgWf_SI, hgWf_SJ, hgO_SI, hgO_SJ, hgAr_SI, hgAr_SJ, hgRp_SI, hgRp_SJ, hgN_SI, hgN_SJ, hgO_g, hgO_d, hgO_rl, hgO_r, hgO_0, hgO_1, hgO_64, hgO_298, hgO_300, hgCd_0, hgCd_1, hgCd_2, hgCd_3, hgCd_4, hgCd_5, hgRecv_O, hgRecv_99, List.length_cons, List.length_nil, Nat.zero_add, Nat.add_zero, Nat.le_refl, Nat.zero_le, and_self, or_true, true_or, true_and, and_true, ne_eq, not_false_eq_true, Nat.reduceLT, Nat.reduceLeDiff, Nat.reduceAdd, Nat.reduceEqDiff, hgn_eq, hgn_lt, hgn_le, if_true, if_false, reduceIte, Nat.not_lt_zero, hgs_aa_d, hgs_aa_r, hgs_aa_h, hgs_aa_m, hgs_aa_t, hgs_ld_wp, hgs_st_wp, hgs_ld_qf, hgs_st_qf, hgs_ld_qt, hgs_st_qt, hgs_ld_2, hgs_st_2, hgs_ld_3, hgs_st_3, hgs_ld_4, hgs_st_4, hgs_ld_301, hgs_st_301, hgs_ld_D, hgs_st_D, hgs_ld_s, hgs_ld_T, hgs_st_T, hgs_ld_o, hgs_st_o, hgs_ld_b, hgs_st_b, hgs_ld_z, hgs_st_z, hgs_al_b, hgx_alen_s, hw, hgAr_302 hw, hn, h1, h2, h3, vFs]
  | succ k ih =>
    intro i s q v4 hi hf
    have h1 : i < 2147483648 := by omega
    have h2 : vN V < 2147483648 := by omega
    have h3 : ¬ vN V ≤ i := by omega
    have h4 : i < 10 := by omega
    have b7 : 27 + 10 * i + 7 < 20187 := by omega
    have b1 : 27 + 10 * i + 1 < 20187 := by omega
    have hd := h.2.2.2.2.2.2.2.1 i (by omega)
    have e1 := hd.1 1 (by omega)
    have e7 := hd.1 7 (by omega)
    obtain ⟨x1, x2, x3⟩ := vFx_k hk (show i < vN V by omega)
    obtain ⟨f1, f2, f3, f4⟩ := hgFq_s hk (show i < vN V by omega) hf
    have ih' := ih (i + 1) _ _ none (by omega) f1
    refine Eq.trans ?_ ih'
    rw [hgu187_11]
    unfold vFx at x2 f2 f3 f4 ⊢
    simp (maxDischargeDepth := 7) only [hgM_t, hgM_f, hgM_n, hgx_aload_n_0, hgx_iconst_0, hgx_put0, hgx_fconst_0, hgx_fstore_n_1i, hgx_fstore_n_1r, hgx_fstore_n_1f, hgx_fstore_n_1n, hgx_fstore_n_1l, hgx_fstore_n_2i, hgx_fstore_n_2r, hgx_fstore_n_2f, hgx_fstore_n_2n, hgx_fstore_n_2l, hgx_istore_n_3i, hgx_istore_n_3r, hgx_istore_n_3f, hgx_istore_n_3n, hgx_istore_n_3l, hgx_iload_n_3, hgs_get_8_8, hgx_ic_ge, hgx_fconst_1, hgx_invstatic_1, hgx_aft_e, hgx_aft_i, hgx_aft_l, hgx_aft_v, hgx_bipush_7, hgx_iadd, hgx_i2f, hgx_fmul, hgx_iconst_1, hgx_fdiv, hgx_fstore_4i, hgx_fstore_4r, hgx_fstore_4f, hgx_fstore_4n, hgx_fstore_4l, hgx_fload_n_1, hgx_fload_4, hgx_fadd, hgx_fload_n_2, hgx_iinc_3_1, hgx_goto, hgx_fcmp, hgx_if_ne, hgx_sipush_1000, hgx_ldc_f, hgx_f2i, hgx_ret1, hgv187_0, hgr187_0, hgu187_0, hgv187_11, ← hgu187_11, hgv187_70, ← hgu187_70, hgv187_82, hgr187_82, hgu187_82, hgv187_99, hgr187_99, hgu187_99, hgr187_11, hgI_SI, hgI_SJ, hgJ_SI, hgJ_SJ, if_true, if_false, reduceIte, Nat.reduceEqDiff, hgWf_SI, hgWf_SJ, hgO_SI, hgO_SJ, hgAr_SI, hgAr_SJ, hgRp_SI, hgRp_SJ, hgN_SI, hgN_SJ, hgO_g, hgO_d, hgO_rl, hgO_r, hgO_0, hgO_1, hgO_64, hgO_298, hgO_300, hgCd_0, hgCd_1, hgCd_2, hgCd_3, hgCd_4, hgCd_5, hgRecv_O, hgRecv_99, List.length_cons, List.length_nil, Nat.zero_add, Nat.add_zero, Nat.le_refl, Nat.zero_le, and_self, or_true, true_or, true_and, and_true, ne_eq, not_false_eq_true, Nat.reduceLT, Nat.reduceLeDiff, Nat.reduceAdd, Nat.reduceEqDiff, hgn_eq, hgn_lt, hgn_le, if_true, if_false, reduceIte, Nat.not_lt_zero, hgs_aa_d, hgs_aa_r, hgs_aa_h, hgs_aa_m, hgs_aa_t, hgs_ld_wp, hgs_st_wp, hgs_ld_qf, hgs_st_qf, hgs_ld_qt, hgs_st_qt, hgs_ld_2, hgs_st_2, hgs_ld_3, hgs_st_3, hgs_ld_4, hgs_st_4, hgs_ld_301, hgs_st_301, hgs_ld_D, hgs_st_D, hgs_ld_s, hgs_ld_T, hgs_st_T, hgs_ld_o, hgs_st_o, hgs_ld_b, hgs_st_b, hgs_ld_z, hgs_st_z, hgs_al_b, hgx_alen_s, hgn_add, hgn_mul, hw, hgAr_302 hw, hn, h1, h2, h3, h4, b7, b1, hgk_128, e1, e7, x1, x2, f2, f3, f4]
theorem hgRV_187 (h : hgSM M V Hs c) : hgWC X 187 [.ref 300] M = some (.inl (.int (vFr V)), hgSI M 300 0 (nI 0)) := by
  have h9 : hgSM (hgSI M 300 0 (nI 0)) V Hs c := hgSM_0 h
  have hw := h.1
  have hk := h9.2.2.2.1
  have hN := hk.1
  have hn := h9.2.1.2.2.2.1
  have kl := hgk_187l (X := X) h9.1 hk h9.2.1 (vN V) 0 FP.fconst0 FP.fconst0 none (by omega) hgFq_0
  have hf := hgFq_f hk (vN V) 0 FP.fconst0 FP.fconst0 (by omega) hgFq_0
  have hcmp := hgF_cmp hf.2.2 (by have := hf.2.1; have := hf.2.2; omega)
  have h2 : vN V < 2147483648 := by omega
  have n10 : ¬ nI 1 = nI 0 := by decide
  simp (maxDischargeDepth := 7) only [hgc187, hgM_t, hgM_f, hgM_n, hgx_aload_n_0, hgx_iconst_0, hgx_put0, hgx_fconst_0, hgx_fstore_n_1i, hgx_fstore_n_1r, hgx_fstore_n_1f, hgx_fstore_n_1n, hgx_fstore_n_1l, hgx_fstore_n_2i, hgx_fstore_n_2r, hgx_fstore_n_2f, hgx_fstore_n_2n, hgx_fstore_n_2l, hgx_istore_n_3i, hgx_istore_n_3r, hgx_istore_n_3f, hgx_istore_n_3n, hgx_istore_n_3l, hgx_iload_n_3, hgs_get_8_8, hgx_ic_ge, hgx_fconst_1, hgx_invstatic_1, hgx_aft_e, hgx_aft_i, hgx_aft_l, hgx_aft_v, hgx_bipush_7, hgx_iadd, hgx_i2f, hgx_fmul, hgx_iconst_1, hgx_fdiv, hgx_fstore_4i, hgx_fstore_4r, hgx_fstore_4f, hgx_fstore_4n, hgx_fstore_4l, hgx_fload_n_1, hgx_fload_4, hgx_fadd, hgx_fload_n_2, hgx_iinc_3_1, hgx_goto, hgx_fcmp, hgx_if_ne, hgx_sipush_1000, hgx_ldc_f, hgx_f2i, hgx_ret1, hgv187_0, hgr187_0, hgu187_0, hgv187_11, ← hgu187_11, hgv187_70, ← hgu187_70, hgv187_82, hgr187_82, hgu187_82, hgv187_99, hgr187_99, hgu187_99, hgWf_SI, hgWf_SJ, hgO_SI, hgO_SJ, hgAr_SI, hgAr_SJ, hgRp_SI, hgRp_SJ, hgN_SI, hgN_SJ, hgO_g, hgO_d, hgO_rl, hgO_r, hgO_0, hgO_1, hgO_64, hgO_298, hgO_300, hgCd_0, hgCd_1, hgCd_2, hgCd_3, hgCd_4, hgCd_5, hgRecv_O, hgRecv_99, List.length_cons, List.length_nil, Nat.zero_add, Nat.add_zero, Nat.le_refl, Nat.zero_le, and_self, or_true, true_or, true_and, and_true, ne_eq, not_false_eq_true, Nat.reduceLT, Nat.reduceLeDiff, Nat.reduceAdd, Nat.reduceEqDiff, hgn_eq, hgn_lt, hgn_le, if_true, if_false, reduceIte, Nat.not_lt_zero, hw]
  refine Eq.trans kl ?_
  rw [hgu187_70]
  unfold vFr
  by_cases e : (vFs V 0 (vN V) FP.fconst0 FP.fconst0).2.toNat = 0
  · rw [if_pos e] at hcmp ⊢
    simp (maxDischargeDepth := 7) only [hgM_t, hgM_f, hgM_n, hgx_aload_n_0, hgx_iconst_0, hgx_put0, hgx_fconst_0, hgx_fstore_n_1i, hgx_fstore_n_1r, hgx_fstore_n_1f, hgx_fstore_n_1n, hgx_fstore_n_1l, hgx_fstore_n_2i, hgx_fstore_n_2r, hgx_fstore_n_2f, hgx_fstore_n_2n, hgx_fstore_n_2l, hgx_istore_n_3i, hgx_istore_n_3r, hgx_istore_n_3f, hgx_istore_n_3n, hgx_istore_n_3l, hgx_iload_n_3, hgs_get_8_8, hgx_ic_ge, hgx_fconst_1, hgx_invstatic_1, hgx_aft_e, hgx_aft_i, hgx_aft_l, hgx_aft_v, hgx_bipush_7, hgx_iadd, hgx_i2f, hgx_fmul, hgx_iconst_1, hgx_fdiv, hgx_fstore_4i, hgx_fstore_4r, hgx_fstore_4f, hgx_fstore_4n, hgx_fstore_4l, hgx_fload_n_1, hgx_fload_4, hgx_fadd, hgx_fload_n_2, hgx_iinc_3_1, hgx_goto, hgx_fcmp, hgx_if_ne, hgx_sipush_1000, hgx_ldc_f, hgx_f2i, hgx_ret1, hgv187_0, hgr187_0, hgu187_0, hgv187_11, ← hgu187_11, hgv187_70, hgr187_70, hgu187_70, hgv187_82, hgr187_82, hgu187_82, hgv187_99, hgr187_99, hgu187_99, hgWf_SI, hgWf_SJ, hgO_SI, hgO_SJ, hgAr_SI, hgAr_SJ, hgRp_SI, hgRp_SJ, hgN_SI, hgN_SJ, hgO_g, hgO_d, hgO_rl, hgO_r, hgO_0, hgO_1, hgO_64, hgO_298, hgO_300, hgCd_0, hgCd_1, hgCd_2, hgCd_3, hgCd_4, hgCd_5, hgRecv_O, hgRecv_99, List.length_cons, List.length_nil, Nat.zero_add, Nat.add_zero, Nat.le_refl, Nat.zero_le, and_self, or_true, true_or, true_and, and_true, ne_eq, not_false_eq_true, Nat.reduceLT, Nat.reduceLeDiff, Nat.reduceAdd, Nat.reduceEqDiff, hgn_eq, hgn_lt, hgn_le, if_true, if_false, reduceIte, Nat.not_lt_zero, hgs_aa_d, hgs_aa_r, hgs_aa_h, hgs_aa_m, hgs_aa_t, hgs_ld_wp, hgs_st_wp, hgs_ld_qf, hgs_st_qf, hgs_ld_qt, hgs_st_qt, hgs_ld_2, hgs_st_2, hgs_ld_3, hgs_st_3, hgs_ld_4, hgs_st_4, hgs_ld_301, hgs_st_301, hgs_ld_D, hgs_st_D, hgs_ld_s, hgs_ld_T, hgs_st_T, hgs_ld_o, hgs_st_o, hgs_ld_b, hgs_st_b, hgs_ld_z, hgs_st_z, hgs_al_b, hgx_alen_s, hw, hgAr_302 hw, hcmp, hgcv_e]
  · rw [if_neg e] at hcmp ⊢
    obtain ⟨n0, g1, g2, g3, g4⟩ := hgFqe hk e hf
    simp (maxDischargeDepth := 7) only [hgM_t, hgM_f, hgM_n, hgx_aload_n_0, hgx_iconst_0, hgx_put0, hgx_fconst_0, hgx_fstore_n_1i, hgx_fstore_n_1r, hgx_fstore_n_1f, hgx_fstore_n_1n, hgx_fstore_n_1l, hgx_fstore_n_2i, hgx_fstore_n_2r, hgx_fstore_n_2f, hgx_fstore_n_2n, hgx_fstore_n_2l, hgx_istore_n_3i, hgx_istore_n_3r, hgx_istore_n_3f, hgx_istore_n_3n, hgx_istore_n_3l, hgx_iload_n_3, hgs_get_8_8, hgx_ic_ge, hgx_fconst_1, hgx_invstatic_1, hgx_aft_e, hgx_aft_i, hgx_aft_l, hgx_aft_v, hgx_bipush_7, hgx_iadd, hgx_i2f, hgx_fmul, hgx_iconst_1, hgx_fdiv, hgx_fstore_4i, hgx_fstore_4r, hgx_fstore_4f, hgx_fstore_4n, hgx_fstore_4l, hgx_fload_n_1, hgx_fload_4, hgx_fadd, hgx_fload_n_2, hgx_iinc_3_1, hgx_goto, hgx_fcmp, hgx_if_ne, hgx_sipush_1000, hgx_ldc_f, hgx_f2i, hgx_ret1, hgv187_0, hgr187_0, hgu187_0, hgv187_11, ← hgu187_11, hgv187_70, hgr187_70, hgu187_70, hgv187_82, hgr187_82, hgu187_82, hgv187_99, hgr187_99, hgu187_99, hgWf_SI, hgWf_SJ, hgO_SI, hgO_SJ, hgAr_SI, hgAr_SJ, hgRp_SI, hgRp_SJ, hgN_SI, hgN_SJ, hgO_g, hgO_d, hgO_rl, hgO_r, hgO_0, hgO_1, hgO_64, hgO_298, hgO_300, hgCd_0, hgCd_1, hgCd_2, hgCd_3, hgCd_4, hgCd_5, hgRecv_O, hgRecv_99, List.length_cons, List.length_nil, Nat.zero_add, Nat.add_zero, Nat.le_refl, Nat.zero_le, and_self, or_true, true_or, true_and, and_true, ne_eq, not_false_eq_true, Nat.reduceLT, Nat.reduceLeDiff, Nat.reduceAdd, Nat.reduceEqDiff, hgn_eq, hgn_lt, hgn_le, if_true, if_false, reduceIte, Nat.not_lt_zero, hgs_aa_d, hgs_aa_r, hgs_aa_h, hgs_aa_m, hgs_aa_t, hgs_ld_wp, hgs_st_wp, hgs_ld_qf, hgs_st_qf, hgs_ld_qt, hgs_st_qt, hgs_ld_2, hgs_st_2, hgs_ld_3, hgs_st_3, hgs_ld_4, hgs_st_4, hgs_ld_301, hgs_st_301, hgs_ld_D, hgs_st_D, hgs_ld_s, hgs_ld_T, hgs_st_T, hgs_ld_o, hgs_st_o, hgs_ld_b, hgs_st_b, hgs_ld_z, hgs_st_z, hgs_al_b, hgx_alen_s, hw, hgAr_302 hw, hn, hcmp, hgcv_g, n10, g1, g2, g3, g4]
theorem hgOp_104 (h : hgInv M N) : hgAi X 104 [.ref 0] 187 [.ref 300] M N := by
  obtain ⟨V, Hs, c, hc, hC, hR, hH, hb⟩ := h
  obtain ⟨hw, g6, _, _, _, _⟩ := hgSC_6 hC
  have k22 := hgCV_22 (X := X) hw hC.2.2.2.2.1 hC.2.2.1
  have k1 : hgWC X 104 [.ref 0] M = some (.inl (.int (vFr V)), M) := by
    simp (maxDischargeDepth := 7) only [hgc104, hgM_t, hgM_f, hgM_n, hgx_aload_n_0, hgs_get_7_3, hgx_invvirtual_1, hgx_aft_e, hgx_aft_i, hgx_aft_l, hgx_aft_v, hgx_ret1, hgv104_0, hgr104_0, hgu104_0, hgI_SI, hgI_SJ, hgJ_SI, hgJ_SJ, if_true, if_false, reduceIte, Nat.reduceEqDiff, hgWf_SI, hgWf_SJ, hgO_SI, hgO_SJ, hgAr_SI, hgAr_SJ, hgRp_SI, hgRp_SJ, hgN_SI, hgN_SJ, hgO_g, hgO_d, hgO_rl, hgO_r, hgO_0, hgO_1, hgO_64, hgO_298, hgO_300, hgCd_0, hgCd_1, hgCd_2, hgCd_3, hgCd_4, hgCd_5, hgRecv_O, hgRecv_99, List.length_cons, List.length_nil, Nat.zero_add, Nat.add_zero, Nat.le_refl, Nat.zero_le, and_self, or_true, true_or, true_and, and_true, ne_eq, not_false_eq_true, Nat.reduceLT, Nat.reduceLeDiff, Nat.reduceAdd, Nat.reduceEqDiff, hgn_eq, hgn_lt, hgn_le, if_true, if_false, reduceIte, Nat.not_lt_zero, hw, g6, k22]
  exact ⟨_, _, _, k1, hgRV_187 hR, hw, hgInv_2 hb hC hgFC_r (hgSM_0 hR) hgFR_0 hH (by omega)⟩
end HGFA2

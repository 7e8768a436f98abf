/-! THE TEXT, the component's. -/
/-- the answers of load, from what the text says -/
def rA : hgQt → Int32
  | .inl z => nI (vN z.2.1)
  | .inr e => e.1
def rO : hgQt → Int32
  | .inl _ => -1
  | .inr e => nI e.2
def rV (V : hgV) : hgQt → hgV
  | .inl z => z.2.1
  | .inr _ => V
def rH (V : hgV) (Hs : List hgV) : hgQt → List hgV
  | .inl _ => (V :: Hs).take 8
  | .inr _ => Hs
/-- what is left when the text is read -/
def hgOud (M : hgMem) : hgQt → Prop
  | .inl z => hgWf M ∧ hgCV M 35 z.2.1 ∧ hgI M 298 9 = nI 0 ∧ hgI M 298 10 = -1
  | .inr e => hgWf M ∧ hgI M 298 9 = e.1 ∧ hgI M 298 10 = nI e.2
section HGLDC
variable {X : hgX} {M M' M0 M1 M2 M3 Mo : hgMem} {t : hgTxt} {i j k a b n p q N l s lo hi g w d c m : Nat} {x y v : Int32} {D V : hgV} {f f' : Nat → Bool} {A : List Value} {z : hgPt} {e : Int32 × Nat} {r : hgQt} {Hs : List hgV}
theorem hgRb_o (r : hgQt) : hgRb r = nI 0 ∨ hgRb r = nI 1 := by
  cases r with
  | inl z => exact Or.inr rfl
  | inr e => exact Or.inl rfl
theorem hgOud_c (h : hgOuc M t r) : hgOud M r := by
  cases r with
  | inl z => exact ⟨h.1.1, h.2.1, h.2.2.2.1, h.2.2.2.2⟩
  | inr e => exact h
theorem hgk_68 (h : hgOkc M t z) (hk : hgDk z.2.1) : hgDo X 68 [.ref 298] M t (sSem t z) := by
  unfold sSem
  by_cases q : tSc t z.1 = true
  · rw [if_pos q]
    obtain ⟨M1, e1, r1, r2⟩ := hgk_68a (X := X) h.1 q
    exact hgDo_l e1 (hgOkc_c h hk r2 r1) (hgFd_c r2)
  · rw [if_neg q]
    obtain ⟨M1, e1, r1⟩ := hgk_68b (X := X) h.1 (Bool.eq_false_iff.mpr q)
    exact hgDo_n (e := (-2, tSk t z.1)) e1 r1 hgFd_r
theorem hgk_74 (h : hgOkc M t (p, D, f)) (hk : hgDk D) : hgDo X 74 [.ref 298] M t (sSta t p D f) := by
  have hw := h.1.1
  obtain ⟨M1, e1, r1, r2, r3⟩ := hgk_69 (X := X) h.1
  have w1 := r1.1
  have ok1 := hgOkc_c h hk r3 r1
  have hle := (tWe_f (tSk_f h.1.2.2.2.1).2.1).1
  have k1 : hgWC X 70 [.ref 298, .ref 1006] M1 = some (.inl (.int (hgB (tWd t p [100, 101, 118, 105, 99, 101]))), M1) := hgk_70 (s := 6) r1 (by omega) r2 hle
  have k2 : hgWC X 70 [.ref 298, .ref 1007] M1 = some (.inl (.int (hgB (tWd t p [97, 108, 108, 111, 119]))), M1) := hgk_70 (s := 7) r1 (by omega) r2 hle
  have k3 : hgWC X 70 [.ref 298, .ref 1008] M1 = some (.inl (.int (hgB (tWd t p [100, 101, 110, 121]))), M1) := hgk_70 (s := 8) r1 (by omega) r2 hle
  have k4 : hgWC X 70 [.ref 298, .ref 1009] M1 = some (.inl (.int (hgB (tWd t p [119, 97, 107, 101]))), M1) := hgk_70 (s := 9) r1 (by omega) r2 hle
  have k5 : hgWC X 70 [.ref 298, .ref 1010] M1 = some (.inl (.int (hgB (tWd t p [113, 117, 105, 101, 116]))), M1) := hgk_70 (s := 10) r1 (by omega) r2 hle
  have k6 : hgWC X 70 [.ref 298, .ref 1011] M1 = some (.inl (.int (hgB (tWd t p [108, 105, 109, 105, 116]))), M1) := hgk_70 (s := 11) r1 (by omega) r2 hle
  unfold sSta
  cases c1 : tWd t p [100, 101, 118, 105, 99, 101] with
  | true =>
    rw [if_pos rfl]
    rw [c1, hgB_t] at k1
    obtain ⟨M2, e2, o2, f2⟩ := hgk_75 (X := X) ok1 hk r2
    have bo := hgRb_o (sDev t (tWe t (tSk t p)) (tSk t p) D f)
    refine ⟨M2, ?_, o2, hgFd_t (hgFd_c r3) f2⟩
    simp (maxDischargeDepth := 7) only [hgc74, hgM_t, hgM_f, hgM_n, hgx_aload_n_0, hgx_invvirtual_1, hgx_aft_e, hgx_aft_i, hgx_aft_l, hgx_aft_v, hgx_ldc_s, hgx_invvirtual_2, hgx_if_eq, hgx_ret3, hgx_iconst_1, hgx_iconst_0, hgx_goto, hgx_bipush_m2, hgv74_0, hgr74_0, hgu74_0, hgv74_18, hgr74_18, hgu74_18, hgv74_33, hgr74_33, hgu74_33, hgv74_48, hgr74_48, hgu74_48, hgv74_62, hgr74_62, hgu74_62, hgv74_76, hgr74_76, hgu74_76, hgv74_92, hgr74_92, hgu74_92, hgv74_98, hgr74_98, hgu74_98, hgI_SI, hgI_SJ, hgJ_SI, hgJ_SJ, if_true, if_false, reduceIte, Nat.reduceEqDiff, hgWf_SI, hgWf_SJ, hgO_SI, hgO_SJ, hgAr_SI, hgAr_SJ, hgRp_SI, hgRp_SJ, hgN_SI, hgN_SJ, hgO_g, hgO_d, hgO_rl, hgO_r, hgO_0, hgO_1, hgO_64, hgO_298, hgO_300, hgCd_0, hgCd_1, hgCd_2, hgCd_3, hgCd_4, hgCd_5, hgRecv_O, hgRecv_99, List.length_cons, List.length_nil, Nat.zero_add, Nat.add_zero, Nat.le_refl, Nat.zero_le, and_self, or_true, true_or, true_and, and_true, ne_eq, not_false_eq_true, Nat.reduceLT, Nat.reduceLeDiff, Nat.reduceAdd, Nat.reduceEqDiff, hgn_eq, hgn_lt, hgn_le, if_true, if_false, reduceIte, Nat.not_lt_zero, hw, e1, w1, k1, e2, bo]
  | false =>
  rw [if_neg (by decide)]
  rw [c1, hgB_f] at k1
  cases c2 : tWd t p [97, 108, 108, 111, 119] with
  | true =>
    rw [if_pos rfl]
    rw [c2, hgB_t] at k2
    obtain ⟨M2, e2, o2, f2⟩ := hgk_76 (X := X) (b := true) ok1 hk r2
    rw [hgB_t] at e2
    have bo := hgRb_o (sRul t (tWe t (tSk t p)) (tSk t p) true D f)
    refine ⟨M2, ?_, o2, hgFd_t (hgFd_c r3) f2⟩
    simp (maxDischargeDepth := 7) only [hgc74, hgM_t, hgM_f, hgM_n, hgx_aload_n_0, hgx_invvirtual_1, hgx_aft_e, hgx_aft_i, hgx_aft_l, hgx_aft_v, hgx_ldc_s, hgx_invvirtual_2, hgx_if_eq, hgx_ret3, hgx_iconst_1, hgx_iconst_0, hgx_goto, hgx_bipush_m2, hgv74_0, hgr74_0, hgu74_0, hgv74_18, hgr74_18, hgu74_18, hgv74_33, hgr74_33, hgu74_33, hgv74_48, hgr74_48, hgu74_48, hgv74_62, hgr74_62, hgu74_62, hgv74_76, hgr74_76, hgu74_76, hgv74_92, hgr74_92, hgu74_92, hgv74_98, hgr74_98, hgu74_98, hgI_SI, hgI_SJ, hgJ_SI, hgJ_SJ, if_true, if_false, reduceIte, Nat.reduceEqDiff, hgWf_SI, hgWf_SJ, hgO_SI, hgO_SJ, hgAr_SI, hgAr_SJ, hgRp_SI, hgRp_SJ, hgN_SI, hgN_SJ, hgO_g, hgO_d, hgO_rl, hgO_r, hgO_0, hgO_1, hgO_64, hgO_298, hgO_300, hgCd_0, hgCd_1, hgCd_2, hgCd_3, hgCd_4, hgCd_5, hgRecv_O, hgRecv_99, List.length_cons, List.length_nil, Nat.zero_add, Nat.add_zero, Nat.le_refl, Nat.zero_le, and_self, or_true, true_or, true_and, and_true, ne_eq, not_false_eq_true, Nat.reduceLT, Nat.reduceLeDiff, Nat.reduceAdd, Nat.reduceEqDiff, hgn_eq, hgn_lt, hgn_le, if_true, if_false, reduceIte, Nat.not_lt_zero, hw, e1, w1, k1, k2, e2, bo]
  | false =>
  rw [if_neg (by decide)]
  rw [c2, hgB_f] at k2
  cases c3 : tWd t p [100, 101, 110, 121] with
  | true =>
    rw [if_pos rfl]
    rw [c3, hgB_t] at k3
    obtain ⟨M2, e2, o2, f2⟩ := hgk_76 (X := X) (b := false) ok1 hk r2
    rw [hgB_f] at e2
    have bo := hgRb_o (sRul t (tWe t (tSk t p)) (tSk t p) false D f)
    refine ⟨M2, ?_, o2, hgFd_t (hgFd_c r3) f2⟩
    simp (maxDischargeDepth := 7) only [hgc74, hgM_t, hgM_f, hgM_n, hgx_aload_n_0, hgx_invvirtual_1, hgx_aft_e, hgx_aft_i, hgx_aft_l, hgx_aft_v, hgx_ldc_s, hgx_invvirtual_2, hgx_if_eq, hgx_ret3, hgx_iconst_1, hgx_iconst_0, hgx_goto, hgx_bipush_m2, hgv74_0, hgr74_0, hgu74_0, hgv74_18, hgr74_18, hgu74_18, hgv74_33, hgr74_33, hgu74_33, hgv74_48, hgr74_48, hgu74_48, hgv74_62, hgr74_62, hgu74_62, hgv74_76, hgr74_76, hgu74_76, hgv74_92, hgr74_92, hgu74_92, hgv74_98, hgr74_98, hgu74_98, hgI_SI, hgI_SJ, hgJ_SI, hgJ_SJ, if_true, if_false, reduceIte, Nat.reduceEqDiff, hgWf_SI, hgWf_SJ, hgO_SI, hgO_SJ, hgAr_SI, hgAr_SJ, hgRp_SI, hgRp_SJ, hgN_SI, hgN_SJ, hgO_g, hgO_d, hgO_rl, hgO_r, hgO_0, hgO_1, hgO_64, hgO_298, hgO_300, hgCd_0, hgCd_1, hgCd_2, hgCd_3, hgCd_4, hgCd_5, hgRecv_O, hgRecv_99, List.length_cons, List.length_nil, Nat.zero_add, Nat.add_zero, Nat.le_refl, Nat.zero_le, and_self, or_true, true_or, true_and, and_true, ne_eq, not_false_eq_true, Nat.reduceLT, Nat.reduceLeDiff, Nat.reduceAdd, Nat.reduceEqDiff, hgn_eq, hgn_lt, hgn_le, if_true, if_false, reduceIte, Nat.not_lt_zero, hw, e1, w1, k1, k2, k3, e2, bo]
  | false =>
  rw [if_neg (by decide)]
  rw [c3, hgB_f] at k3
  cases c4 : tWd t p [119, 97, 107, 101] with
  | true =>
    rw [if_pos rfl]
    rw [c4, hgB_t] at k4
    obtain ⟨M2, e2, o2, f2⟩ := hgk_77 (X := X) ok1 hk r2
    have bo := hgRb_o (sWak t (tWe t (tSk t p)) (tSk t p) D f)
    refine ⟨M2, ?_, o2, hgFd_t (hgFd_c r3) f2⟩
    simp (maxDischargeDepth := 7) only [hgc74, hgM_t, hgM_f, hgM_n, hgx_aload_n_0, hgx_invvirtual_1, hgx_aft_e, hgx_aft_i, hgx_aft_l, hgx_aft_v, hgx_ldc_s, hgx_invvirtual_2, hgx_if_eq, hgx_ret3, hgx_iconst_1, hgx_iconst_0, hgx_goto, hgx_bipush_m2, hgv74_0, hgr74_0, hgu74_0, hgv74_18, hgr74_18, hgu74_18, hgv74_33, hgr74_33, hgu74_33, hgv74_48, hgr74_48, hgu74_48, hgv74_62, hgr74_62, hgu74_62, hgv74_76, hgr74_76, hgu74_76, hgv74_92, hgr74_92, hgu74_92, hgv74_98, hgr74_98, hgu74_98, hgI_SI, hgI_SJ, hgJ_SI, hgJ_SJ, if_true, if_false, reduceIte, Nat.reduceEqDiff, hgWf_SI, hgWf_SJ, hgO_SI, hgO_SJ, hgAr_SI, hgAr_SJ, hgRp_SI, hgRp_SJ, hgN_SI, hgN_SJ, hgO_g, hgO_d, hgO_rl, hgO_r, hgO_0, hgO_1, hgO_64, hgO_298, hgO_300, hgCd_0, hgCd_1, hgCd_2, hgCd_3, hgCd_4, hgCd_5, hgRecv_O, hgRecv_99, List.length_cons, List.length_nil, Nat.zero_add, Nat.add_zero, Nat.le_refl, Nat.zero_le, and_self, or_true, true_or, true_and, and_true, ne_eq, not_false_eq_true, Nat.reduceLT, Nat.reduceLeDiff, Nat.reduceAdd, Nat.reduceEqDiff, hgn_eq, hgn_lt, hgn_le, if_true, if_false, reduceIte, Nat.not_lt_zero, hw, e1, w1, k1, k2, k3, k4, e2, bo]
  | false =>
  rw [if_neg (by decide)]
  rw [c4, hgB_f] at k4
  cases c5 : tWd t p [113, 117, 105, 101, 116] with
  | true =>
    rw [if_pos rfl]
    rw [c5, hgB_t] at k5
    obtain ⟨M2, e2, o2, f2⟩ := hgk_80 (X := X) ok1 hk
    have bo := hgRb_o (sQut t (tWe t (tSk t p)) D f)
    refine ⟨M2, ?_, o2, hgFd_t (hgFd_c r3) f2⟩
    simp (maxDischargeDepth := 7) only [hgc74, hgM_t, hgM_f, hgM_n, hgx_aload_n_0, hgx_invvirtual_1, hgx_aft_e, hgx_aft_i, hgx_aft_l, hgx_aft_v, hgx_ldc_s, hgx_invvirtual_2, hgx_if_eq, hgx_ret3, hgx_iconst_1, hgx_iconst_0, hgx_goto, hgx_bipush_m2, hgv74_0, hgr74_0, hgu74_0, hgv74_18, hgr74_18, hgu74_18, hgv74_33, hgr74_33, hgu74_33, hgv74_48, hgr74_48, hgu74_48, hgv74_62, hgr74_62, hgu74_62, hgv74_76, hgr74_76, hgu74_76, hgv74_92, hgr74_92, hgu74_92, hgv74_98, hgr74_98, hgu74_98, hgI_SI, hgI_SJ, hgJ_SI, hgJ_SJ, if_true, if_false, reduceIte, Nat.reduceEqDiff, hgWf_SI, hgWf_SJ, hgO_SI, hgO_SJ, hgAr_SI, hgAr_SJ, hgRp_SI, hgRp_SJ, hgN_SI, hgN_SJ, hgO_g, hgO_d, hgO_rl, hgO_r, hgO_0, hgO_1, hgO_64, hgO_298, hgO_300, hgCd_0, hgCd_1, hgCd_2, hgCd_3, hgCd_4, hgCd_5, hgRecv_O, hgRecv_99, List.length_cons, List.length_nil, Nat.zero_add, Nat.add_zero, Nat.le_refl, Nat.zero_le, and_self, or_true, true_or, true_and, and_true, ne_eq, not_false_eq_true, Nat.reduceLT, Nat.reduceLeDiff, Nat.reduceAdd, Nat.reduceEqDiff, hgn_eq, hgn_lt, hgn_le, if_true, if_false, reduceIte, Nat.not_lt_zero, hw, e1, w1, k1, k2, k3, k4, k5, e2, bo]
  | false =>
  rw [if_neg (by decide)]
  rw [c5, hgB_f] at k5
  cases c6 : tWd t p [108, 105, 109, 105, 116] with
  | true =>
    rw [if_pos rfl]
    rw [c6, hgB_t] at k6
    obtain ⟨M2, e2, o2, f2⟩ := hgk_81 (X := X) ok1 hk r2
    have bo := hgRb_o (sLim t (tWe t (tSk t p)) (tSk t p) D f)
    refine ⟨M2, ?_, o2, hgFd_t (hgFd_c r3) f2⟩
    simp (maxDischargeDepth := 7) only [hgc74, hgM_t, hgM_f, hgM_n, hgx_aload_n_0, hgx_invvirtual_1, hgx_aft_e, hgx_aft_i, hgx_aft_l, hgx_aft_v, hgx_ldc_s, hgx_invvirtual_2, hgx_if_eq, hgx_ret3, hgx_iconst_1, hgx_iconst_0, hgx_goto, hgx_bipush_m2, hgv74_0, hgr74_0, hgu74_0, hgv74_18, hgr74_18, hgu74_18, hgv74_33, hgr74_33, hgu74_33, hgv74_48, hgr74_48, hgu74_48, hgv74_62, hgr74_62, hgu74_62, hgv74_76, hgr74_76, hgu74_76, hgv74_92, hgr74_92, hgu74_92, hgv74_98, hgr74_98, hgu74_98, hgI_SI, hgI_SJ, hgJ_SI, hgJ_SJ, if_true, if_false, reduceIte, Nat.reduceEqDiff, hgWf_SI, hgWf_SJ, hgO_SI, hgO_SJ, hgAr_SI, hgAr_SJ, hgRp_SI, hgRp_SJ, hgN_SI, hgN_SJ, hgO_g, hgO_d, hgO_rl, hgO_r, hgO_0, hgO_1, hgO_64, hgO_298, hgO_300, hgCd_0, hgCd_1, hgCd_2, hgCd_3, hgCd_4, hgCd_5, hgRecv_O, hgRecv_99, List.length_cons, List.length_nil, Nat.zero_add, Nat.add_zero, Nat.le_refl, Nat.zero_le, and_self, or_true, true_or, true_and, and_true, ne_eq, not_false_eq_true, Nat.reduceLT, Nat.reduceLeDiff, Nat.reduceAdd, Nat.reduceEqDiff, hgn_eq, hgn_lt, hgn_le, if_true, if_false, reduceIte, Nat.not_lt_zero, hw, e1, w1, k1, k2, k3, k4, k5, k6, e2, bo]
  | false =>
  rw [if_neg (by decide)]
  rw [c6, hgB_f] at k6
  have k62 := hgk_62 (X := X) (x := -2) w1
  refine hgDo_f ?_ w1 r2 (hgFd_c r3)
  simp (maxDischargeDepth := 7) only [hgc74, hgM_t, hgM_f, hgM_n, hgx_aload_n_0, hgx_invvirtual_1, hgx_aft_e, hgx_aft_i, hgx_aft_l, hgx_aft_v, hgx_ldc_s, hgx_invvirtual_2, hgx_if_eq, hgx_ret3, hgx_iconst_1, hgx_iconst_0, hgx_goto, hgx_bipush_m2, hgv74_0, hgr74_0, hgu74_0, hgv74_18, hgr74_18, hgu74_18, hgv74_33, hgr74_33, hgu74_33, hgv74_48, hgr74_48, hgu74_48, hgv74_62, hgr74_62, hgu74_62, hgv74_76, hgr74_76, hgu74_76, hgv74_92, hgr74_92, hgu74_92, hgv74_98, hgr74_98, hgu74_98, hgI_SI, hgI_SJ, hgJ_SI, hgJ_SJ, if_true, if_false, reduceIte, Nat.reduceEqDiff, hgWf_SI, hgWf_SJ, hgO_SI, hgO_SJ, hgAr_SI, hgAr_SJ, hgRp_SI, hgRp_SJ, hgN_SI, hgN_SJ, hgO_g, hgO_d, hgO_rl, hgO_r, hgO_0, hgO_1, hgO_64, hgO_298, hgO_300, hgCd_0, hgCd_1, hgCd_2, hgCd_3, hgCd_4, hgCd_5, hgRecv_O, hgRecv_99, List.length_cons, List.length_nil, Nat.zero_add, Nat.add_zero, Nat.le_refl, Nat.zero_le, and_self, or_true, true_or, true_and, and_true, ne_eq, not_false_eq_true, Nat.reduceLT, Nat.reduceLeDiff, Nat.reduceAdd, Nat.reduceEqDiff, hgn_eq, hgn_lt, hgn_le, if_true, if_false, reduceIte, Nat.not_lt_zero, hw, e1, w1, k1, k2, k3, k4, k5, k6, k62]
theorem hgDk_h1 (r1 : 1 ≤ a) (r2 : a ≤ 999) : hgDk (vSs vD0 4 (nI a)) := ⟨Nat.zero_le _, Nat.zero_le _, Nat.zero_le _, (fun i hi => absurd hi (Nat.not_lt_zero i)), (fun i hi => absurd hi (Nat.not_lt_zero i)), ⟨1, by omega, by omega, rfl⟩, ⟨a, r1, r2, rfl⟩, rfl, fun _ => ⟨rfl, rfl, rfl⟩⟩
theorem hgk_73 (h : hgOkc M t (0, vD0, fun _ => false)) : hgDo X 73 [.ref 298] M t (sHed t) := by
  have hw := h.1.1
  have g35 := hg35
  obtain ⟨M1, e1, r1, r2, r3⟩ := hgk_69 (X := X) h.1
  have w1 := r1.1
  have ok1 := hgOkc_c h hgDk_0 r3 r1
  have hle := (tWe_f (tSk_f h.1.2.2.2.1).2.1).1
  have k1 : hgWC X 70 [.ref 298, .ref 1005] M1 = some (.inl (.int (hgB (tWd t 0 [103, 97, 116, 101, 119, 97, 121]))), M1) := hgk_70 (s := 5) r1 (by omega) r2 hle
  unfold sHed
  cases c1 : tWd t 0 [103, 97, 116, 101, 119, 97, 121] with
  | false =>
    rw [if_neg (by decide)]
    rw [c1, hgB_f] at k1
    have k62 := hgk_62 (X := X) (x := -2) w1
    refine hgDo_f ?_ w1 r2 (hgFd_c r3)
    simp (maxDischargeDepth := 7) only [hgc73, hgM_t, hgM_f, hgM_n, hgx_aload_n_0, hgx_invvirtual_1, hgx_aft_e, hgx_aft_i, hgx_aft_l, hgx_aft_v, hgx_ldc_s, hgx_invvirtual_2, hgx_if_ne, hgx_bipush_m2, hgx_ret3, hgx_iconst_1, hgx_sipush_999, hgx_invvirtual_3, hgx_iconst_0, hgs_get_6_5, hgx_get0, hgx_put0, hgx_bipush_100, hgv73_0, hgr73_0, hgu73_0, hgv73_20, hgr73_20, hgu73_20, hgv73_33, hgr73_33, hgu73_33, hgv73_56, hgr73_56, hgu73_56, hgI_SI, hgI_SJ, hgJ_SI, hgJ_SJ, if_true, if_false, reduceIte, Nat.reduceEqDiff, hgWf_SI, hgWf_SJ, hgO_SI, hgO_SJ, hgAr_SI, hgAr_SJ, hgRp_SI, hgRp_SJ, hgN_SI, hgN_SJ, hgO_g, hgO_d, hgO_rl, hgO_r, hgO_0, hgO_1, hgO_64, hgO_298, hgO_300, hgCd_0, hgCd_1, hgCd_2, hgCd_3, hgCd_4, hgCd_5, hgRecv_O, hgRecv_99, List.length_cons, List.length_nil, Nat.zero_add, Nat.add_zero, Nat.le_refl, Nat.zero_le, and_self, or_true, true_or, true_and, and_true, ne_eq, not_false_eq_true, Nat.reduceLT, Nat.reduceLeDiff, Nat.reduceAdd, Nat.reduceEqDiff, hgn_eq, hgn_lt, hgn_le, if_true, if_false, reduceIte, Nat.not_lt_zero, hw, e1, w1, k1, k62]
  | true =>
    rw [if_pos rfl]
    rw [c1, hgB_t] at k1
    cases hn1 : sNum t (tWe t (tSk t 0)) 1 999 with
    | inr e =>
      obtain ⟨M2, e2, s1, _, _⟩ := hgk_71b (X := X) ok1.1 (by omega) (by omega) hn1
      refine hgDo_n ?_ s1 (hgFd_c r3)
      simp (maxDischargeDepth := 7) only [hgc73, hgM_t, hgM_f, hgM_n, hgx_aload_n_0, hgx_invvirtual_1, hgx_aft_e, hgx_aft_i, hgx_aft_l, hgx_aft_v, hgx_ldc_s, hgx_invvirtual_2, hgx_if_ne, hgx_bipush_m2, hgx_ret3, hgx_iconst_1, hgx_sipush_999, hgx_invvirtual_3, hgx_iconst_0, hgs_get_6_5, hgx_get0, hgx_put0, hgx_bipush_100, hgv73_0, hgr73_0, hgu73_0, hgv73_20, hgr73_20, hgu73_20, hgv73_33, hgr73_33, hgu73_33, hgv73_56, hgr73_56, hgu73_56, hgI_SI, hgI_SJ, hgJ_SI, hgJ_SJ, if_true, if_false, reduceIte, Nat.reduceEqDiff, hgWf_SI, hgWf_SJ, hgO_SI, hgO_SJ, hgAr_SI, hgAr_SJ, hgRp_SI, hgRp_SJ, hgN_SI, hgN_SJ, hgO_g, hgO_d, hgO_rl, hgO_r, hgO_0, hgO_1, hgO_64, hgO_298, hgO_300, hgCd_0, hgCd_1, hgCd_2, hgCd_3, hgCd_4, hgCd_5, hgRecv_O, hgRecv_99, List.length_cons, List.length_nil, Nat.zero_add, Nat.add_zero, Nat.le_refl, Nat.zero_le, and_self, or_true, true_or, true_and, and_true, ne_eq, not_false_eq_true, Nat.reduceLT, Nat.reduceLeDiff, Nat.reduceAdd, Nat.reduceEqDiff, hgn_eq, hgn_lt, hgn_le, if_true, if_false, reduceIte, Nat.not_lt_zero, hw, g35, e1, w1, k1, e2]
    | inl v =>
      obtain ⟨M2, e2, s1, s4, s3, l1, l2, f2⟩ := hgk_71a (X := X) ok1.1 (by omega) (by omega) hn1
      have ok2 := hgOkc_c ok1 hgDk_0 f2 s1
      have w2 := s1.1
      have nz : nI v.1 ≠ nI 0 := fun z => by rw [hgn_eq (by omega) (by omega)] at z; omega
      have v1 := hgCV_s45 (k := 4) (n := 2) (x := nI v.1) w2 hgDk_0 (Or.inl ⟨rfl, rfl, nz⟩) ok2.2.1
      have v2 : hgFn (fun b => 35 ≤ b ∧ b < 35 + 29) M2 (hgSI M2 35 2 (nI v.1)) := hgFn_SI hgFn_r (by omega)
      have ok2' := hgOkc_v ok2 v2 v1
      have dk2 := hgDk_h1 l1 l2
      show hgDo X 73 [.ref 298] M t (sB (sNum t v.2 1 100) (fun d => .inl (d.2, vHd v.1 d.1, fun _ => false)))
      cases hn2 : sNum t v.2 1 100 with
      | inr e =>
        obtain ⟨M3, e3, t1, _, _⟩ := hgk_71b (X := X) ok2'.1 (by omega) (by omega) hn2
        refine hgDo_n ?_ t1 (hgFd_t (hgFd_t (hgFd_c r3) (hgFd_c f2)) (hgFd_v v2))
        simp (maxDischargeDepth := 7) only [hgc73, hgM_t, hgM_f, hgM_n, hgx_aload_n_0, hgx_invvirtual_1, hgx_aft_e, hgx_aft_i, hgx_aft_l, hgx_aft_v, hgx_ldc_s, hgx_invvirtual_2, hgx_if_ne, hgx_bipush_m2, hgx_ret3, hgx_iconst_1, hgx_sipush_999, hgx_invvirtual_3, hgx_iconst_0, hgs_get_6_5, hgx_get0, hgx_put0, hgx_bipush_100, hgv73_0, hgr73_0, hgu73_0, hgv73_20, hgr73_20, hgu73_20, hgv73_33, hgr73_33, hgu73_33, hgv73_56, hgr73_56, hgu73_56, hgI_SI, hgI_SJ, hgJ_SI, hgJ_SJ, if_true, if_false, reduceIte, Nat.reduceEqDiff, hgWf_SI, hgWf_SJ, hgO_SI, hgO_SJ, hgAr_SI, hgAr_SJ, hgRp_SI, hgRp_SJ, hgN_SI, hgN_SJ, hgO_g, hgO_d, hgO_rl, hgO_r, hgO_0, hgO_1, hgO_64, hgO_298, hgO_300, hgCd_0, hgCd_1, hgCd_2, hgCd_3, hgCd_4, hgCd_5, hgRecv_O, hgRecv_99, List.length_cons, List.length_nil, Nat.zero_add, Nat.add_zero, Nat.le_refl, Nat.zero_le, and_self, or_true, true_or, true_and, and_true, ne_eq, not_false_eq_true, Nat.reduceLT, Nat.reduceLeDiff, Nat.reduceAdd, Nat.reduceEqDiff, hgn_eq, hgn_lt, hgn_le, if_true, if_false, reduceIte, Nat.not_lt_zero, hw, g35, e1, w1, k1, e2, w2, s4, e3]
      | inl d =>
        obtain ⟨M3, e3, t1, t4, t3, l3, l4, f3⟩ := hgk_71a (X := X) ok2'.1 (by omega) (by omega) hn2
        have ok3 := hgOkc_c ok2' dk2 f3 t1
        have w3 := t1.1
        have v3 := hgCV_s45 (k := 5) (n := 3) (x := nI d.1) w3 dk2 (Or.inr ⟨rfl, rfl⟩) ok3.2.1
        have v4 : hgFn (fun b => 35 ≤ b ∧ b < 35 + 29) M3 (hgSI M3 35 3 (nI d.1)) := hgFn_SI hgFn_r (by omega)
        refine hgDo_l ?_ (hgOkc_v ok3 v4 v3) (hgFd_t (hgFd_t (hgFd_t (hgFd_t (hgFd_c r3) (hgFd_c f2)) (hgFd_v v2)) (hgFd_c f3)) (hgFd_v v4))
        simp (maxDischargeDepth := 7) only [hgc73, hgM_t, hgM_f, hgM_n, hgx_aload_n_0, hgx_invvirtual_1, hgx_aft_e, hgx_aft_i, hgx_aft_l, hgx_aft_v, hgx_ldc_s, hgx_invvirtual_2, hgx_if_ne, hgx_bipush_m2, hgx_ret3, hgx_iconst_1, hgx_sipush_999, hgx_invvirtual_3, hgx_iconst_0, hgs_get_6_5, hgx_get0, hgx_put0, hgx_bipush_100, hgv73_0, hgr73_0, hgu73_0, hgv73_20, hgr73_20, hgu73_20, hgv73_33, hgr73_33, hgu73_33, hgv73_56, hgr73_56, hgu73_56, hgI_SI, hgI_SJ, hgJ_SI, hgJ_SJ, if_true, if_false, reduceIte, Nat.reduceEqDiff, hgWf_SI, hgWf_SJ, hgO_SI, hgO_SJ, hgAr_SI, hgAr_SJ, hgRp_SI, hgRp_SJ, hgN_SI, hgN_SJ, hgO_g, hgO_d, hgO_rl, hgO_r, hgO_0, hgO_1, hgO_64, hgO_298, hgO_300, hgCd_0, hgCd_1, hgCd_2, hgCd_3, hgCd_4, hgCd_5, hgRecv_O, hgRecv_99, List.length_cons, List.length_nil, Nat.zero_add, Nat.add_zero, Nat.le_refl, Nat.zero_le, and_self, or_true, true_or, true_and, and_true, ne_eq, not_false_eq_true, Nat.reduceLT, Nat.reduceLeDiff, Nat.reduceAdd, Nat.reduceEqDiff, hgn_eq, hgn_lt, hgn_le, if_true, if_false, reduceIte, Nat.not_lt_zero, hw, g35, e1, w1, k1, e2, w2, s4, e3, w3, t4]
theorem hgk_61z (hw : hgWf M) (hi : i < 2147483648) : hgW X 61 87 [some (.ref 298), none, some (.int (nI 0)), some (.int (nI i))] [] (0, 0) M = some (.inl (.int (hgI M 298 9)), M) := by
  rw [hgu61_87]
  by_cases q : 900 ≤ i
  · simp (maxDischargeDepth := 7) only [hgM_t, hgM_f, hgM_n, hgx_aload_n_0, hgs_get_6_5, hgx_invvirtual_1, hgx_aft_e, hgx_aft_i, hgx_aft_l, hgx_aft_v, hgx_iload_n_1, hgs_get_6_0, hgx_min, hgx_put0, hgx_iconst_0, hgx_put3, hgx_istore_n_2i, hgx_istore_n_2r, hgx_istore_n_2f, hgx_istore_n_2n, hgx_istore_n_2l, hgx_iload_n_2, hgx_iconst_3, hgx_ic_ge, hgs_get_6_8, hgx_iinc_2_1, hgx_goto, hgx_iconst_m1, hgx_if_eq, hgx_iconst_1, hgx_istore_n_3i, hgx_istore_n_3r, hgx_istore_n_3f, hgx_istore_n_3n, hgx_istore_n_3l, hgx_iload_n_3, hgx_sipush_900, hgx_if_ne, hgx_iinc_3_1, hgx_get0, hgx_ret1, hgv61_0, hgr61_0, hgu61_0, hgv61_37, ← hgu61_37, hgv61_55, hgr61_55, hgu61_55, hgv61_83, hgr61_83, hgu61_83, hgv61_84, hgr61_84, hgu61_84, hgv61_87, hgr61_87, hgv61_123, hgr61_123, hgu61_123, hgv61_124, hgr61_124, hgu61_124, hgv61_131, hgr61_131, hgu61_131, hgI_SI, hgI_SJ, hgJ_SI, hgJ_SJ, if_true, if_false, reduceIte, Nat.reduceEqDiff, hgWf_SI, hgWf_SJ, hgO_SI, hgO_SJ, hgAr_SI, hgAr_SJ, hgRp_SI, hgRp_SJ, hgN_SI, hgN_SJ, hgO_g, hgO_d, hgO_rl, hgO_r, hgO_0, hgO_1, hgO_64, hgO_298, hgO_300, hgCd_0, hgCd_1, hgCd_2, hgCd_3, hgCd_4, hgCd_5, hgRecv_O, hgRecv_99, List.length_cons, List.length_nil, Nat.zero_add, Nat.add_zero, Nat.le_refl, Nat.zero_le, and_self, or_true, true_or, true_and, and_true, ne_eq, not_false_eq_true, Nat.reduceLT, Nat.reduceLeDiff, Nat.reduceAdd, Nat.reduceEqDiff, hgn_eq, hgn_lt, hgn_le, if_true, if_false, reduceIte, Nat.not_lt_zero, hw, hi, q]
  · simp (maxDischargeDepth := 7) only [hgM_t, hgM_f, hgM_n, hgx_aload_n_0, hgs_get_6_5, hgx_invvirtual_1, hgx_aft_e, hgx_aft_i, hgx_aft_l, hgx_aft_v, hgx_iload_n_1, hgs_get_6_0, hgx_min, hgx_put0, hgx_iconst_0, hgx_put3, hgx_istore_n_2i, hgx_istore_n_2r, hgx_istore_n_2f, hgx_istore_n_2n, hgx_istore_n_2l, hgx_iload_n_2, hgx_iconst_3, hgx_ic_ge, hgs_get_6_8, hgx_iinc_2_1, hgx_goto, hgx_iconst_m1, hgx_if_eq, hgx_iconst_1, hgx_istore_n_3i, hgx_istore_n_3r, hgx_istore_n_3f, hgx_istore_n_3n, hgx_istore_n_3l, hgx_iload_n_3, hgx_sipush_900, hgx_if_ne, hgx_iinc_3_1, hgx_get0, hgx_ret1, hgv61_0, hgr61_0, hgu61_0, hgv61_37, ← hgu61_37, hgv61_55, hgr61_55, hgu61_55, hgv61_83, hgr61_83, hgu61_83, hgv61_84, hgr61_84, hgu61_84, hgv61_87, hgr61_87, hgv61_123, hgr61_123, hgu61_123, hgv61_124, hgr61_124, hgu61_124, hgv61_131, hgr61_131, hgu61_131, hgI_SI, hgI_SJ, hgJ_SI, hgJ_SJ, if_true, if_false, reduceIte, Nat.reduceEqDiff, hgWf_SI, hgWf_SJ, hgO_SI, hgO_SJ, hgAr_SI, hgAr_SJ, hgRp_SI, hgRp_SJ, hgN_SI, hgN_SJ, hgO_g, hgO_d, hgO_rl, hgO_r, hgO_0, hgO_1, hgO_64, hgO_298, hgO_300, hgCd_0, hgCd_1, hgCd_2, hgCd_3, hgCd_4, hgCd_5, hgRecv_O, hgRecv_99, List.length_cons, List.length_nil, Nat.zero_add, Nat.add_zero, Nat.le_refl, Nat.zero_le, and_self, or_true, true_or, true_and, and_true, ne_eq, not_false_eq_true, Nat.reduceLT, Nat.reduceLeDiff, Nat.reduceAdd, Nat.reduceEqDiff, hgn_eq, hgn_lt, hgn_le, if_true, if_false, reduceIte, Nat.not_lt_zero, hw, hi, q]
theorem hgk_61l : ∀ (k : Nat) (z : hgPt) (i : Nat) (M : hgMem), t.2 ≤ z.1 + k → i ≤ z.1 → hgOkc M t z → hgDk z.2.1 → ∃ M', hgW X 61 87 [some (.ref 298), none, some (.int (nI 1)), some (.int (nI i))] [] (0, 0) M = some (.inl (.int (hgI M' 298 9)), M') ∧ hgOud M' (sLop t k z) ∧ hgFd M M' := by
  intro k
  induction k with
  | zero =>
    intro z i M h1 h2 h3 h4
    have hw := h3.1.1
    have l9 := h3.1.2.2.2.2.1
    have hp := h3.1.2.2.2.1
    have sk := tSk_f hp
    have b1 : i < 2147483648 := by omega
    by_cases q : 900 ≤ i
    · refine ⟨M, ?_, ⟨hw, h3.2.1, h3.2.2.2.1, h3.2.2.2.2⟩, hgFd_r⟩
      rw [hgu61_87]
      simp (maxDischargeDepth := 7) only [hgM_t, hgM_f, hgM_n, hgx_aload_n_0, hgs_get_6_5, hgx_invvirtual_1, hgx_aft_e, hgx_aft_i, hgx_aft_l, hgx_aft_v, hgx_iload_n_1, hgs_get_6_0, hgx_min, hgx_put0, hgx_iconst_0, hgx_put3, hgx_istore_n_2i, hgx_istore_n_2r, hgx_istore_n_2f, hgx_istore_n_2n, hgx_istore_n_2l, hgx_iload_n_2, hgx_iconst_3, hgx_ic_ge, hgs_get_6_8, hgx_iinc_2_1, hgx_goto, hgx_iconst_m1, hgx_if_eq, hgx_iconst_1, hgx_istore_n_3i, hgx_istore_n_3r, hgx_istore_n_3f, hgx_istore_n_3n, hgx_istore_n_3l, hgx_iload_n_3, hgx_sipush_900, hgx_if_ne, hgx_iinc_3_1, hgx_get0, hgx_ret1, hgv61_0, hgr61_0, hgu61_0, hgv61_37, ← hgu61_37, hgv61_55, hgr61_55, hgu61_55, hgv61_83, hgr61_83, hgu61_83, hgv61_84, hgr61_84, hgu61_84, hgv61_87, hgr61_87, hgv61_123, hgr61_123, hgu61_123, hgv61_124, hgr61_124, hgu61_124, hgv61_131, hgr61_131, hgu61_131, hgI_SI, hgI_SJ, hgJ_SI, hgJ_SJ, if_true, if_false, reduceIte, Nat.reduceEqDiff, hgWf_SI, hgWf_SJ, hgO_SI, hgO_SJ, hgAr_SI, hgAr_SJ, hgRp_SI, hgRp_SJ, hgN_SI, hgN_SJ, hgO_g, hgO_d, hgO_rl, hgO_r, hgO_0, hgO_1, hgO_64, hgO_298, hgO_300, hgCd_0, hgCd_1, hgCd_2, hgCd_3, hgCd_4, hgCd_5, hgRecv_O, hgRecv_99, List.length_cons, List.length_nil, Nat.zero_add, Nat.add_zero, Nat.le_refl, Nat.zero_le, and_self, or_true, true_or, true_and, and_true, ne_eq, not_false_eq_true, Nat.reduceLT, Nat.reduceLeDiff, Nat.reduceAdd, Nat.reduceEqDiff, hgn_eq, hgn_lt, hgn_le, if_true, if_false, reduceIte, Nat.not_lt_zero, hw, b1, q]
    · obtain ⟨M1, e1, r1, r2, r3⟩ := hgk_67 (X := X) h3.1
      rw [decide_eq_true (by omega), hgB_t] at e1
      have w1 := r1.1
      have ok1 : hgOkc M1 t (tSk t z.1, z.2.1, z.2.2) := hgOkc_c h3 h4 r3 r1
      refine ⟨M1, ?_, ⟨w1, ok1.2.1, ok1.2.2.2.1, ok1.2.2.2.2⟩, hgFd_c r3⟩
      rw [hgu61_87]
      simp (maxDischargeDepth := 7) only [hgM_t, hgM_f, hgM_n, hgx_aload_n_0, hgs_get_6_5, hgx_invvirtual_1, hgx_aft_e, hgx_aft_i, hgx_aft_l, hgx_aft_v, hgx_iload_n_1, hgs_get_6_0, hgx_min, hgx_put0, hgx_iconst_0, hgx_put3, hgx_istore_n_2i, hgx_istore_n_2r, hgx_istore_n_2f, hgx_istore_n_2n, hgx_istore_n_2l, hgx_iload_n_2, hgx_iconst_3, hgx_ic_ge, hgs_get_6_8, hgx_iinc_2_1, hgx_goto, hgx_iconst_m1, hgx_if_eq, hgx_iconst_1, hgx_istore_n_3i, hgx_istore_n_3r, hgx_istore_n_3f, hgx_istore_n_3n, hgx_istore_n_3l, hgx_iload_n_3, hgx_sipush_900, hgx_if_ne, hgx_iinc_3_1, hgx_get0, hgx_ret1, hgv61_0, hgr61_0, hgu61_0, hgv61_37, ← hgu61_37, hgv61_55, hgr61_55, hgu61_55, hgv61_83, hgr61_83, hgu61_83, hgv61_84, hgr61_84, hgu61_84, hgv61_87, hgr61_87, hgv61_123, hgr61_123, hgu61_123, hgv61_124, hgr61_124, hgu61_124, hgv61_131, hgr61_131, hgu61_131, hgI_SI, hgI_SJ, hgJ_SI, hgJ_SJ, if_true, if_false, reduceIte, Nat.reduceEqDiff, hgWf_SI, hgWf_SJ, hgO_SI, hgO_SJ, hgAr_SI, hgAr_SJ, hgRp_SI, hgRp_SJ, hgN_SI, hgN_SJ, hgO_g, hgO_d, hgO_rl, hgO_r, hgO_0, hgO_1, hgO_64, hgO_298, hgO_300, hgCd_0, hgCd_1, hgCd_2, hgCd_3, hgCd_4, hgCd_5, hgRecv_O, hgRecv_99, List.length_cons, List.length_nil, Nat.zero_add, Nat.add_zero, Nat.le_refl, Nat.zero_le, and_self, or_true, true_or, true_and, and_true, ne_eq, not_false_eq_true, Nat.reduceLT, Nat.reduceLeDiff, Nat.reduceAdd, Nat.reduceEqDiff, hgn_eq, hgn_lt, hgn_le, if_true, if_false, reduceIte, Nat.not_lt_zero, hw, b1, q, e1, w1]
  | succ k ih =>
    intro z i M h1 h2 h3 h4
    have hw := h3.1.1
    have l9 := h3.1.2.2.2.2.1
    have hp := h3.1.2.2.2.1
    have sk := tSk_f hp
    have b1 : i < 2147483648 := by omega
    unfold sLop
    by_cases qe : tSk t z.1 < t.2
    · rw [if_pos qe]
      have q : ¬ 900 ≤ i := by omega
      obtain ⟨M1, e1, r1, r2, r3⟩ := hgk_67 (X := X) h3.1
      rw [decide_eq_false (by omega), hgB_f] at e1
      have w1 := r1.1
      have ok1 : hgOkc M1 t (tSk t z.1, z.2.1, z.2.2) := hgOkc_c h3 h4 r3 r1
      obtain ⟨M2, e2, o2, f2⟩ := hgk_74 (X := X) ok1 h4
      have es : sSta t (tSk t z.1) z.2.1 z.2.2 = sSta t z.1 z.2.1 z.2.2 := by
        unfold sSta tWd
        rw [tSk_i hp]
      rw [es] at e2 o2
      have nx := sSta_n (f := z.2.2) hp h4
      have nx2 := sStm_n (f := z.2.2) hp h4
      cases hr : sSta t z.1 z.2.1 z.2.2 with
      | inr e =>
        rw [hr] at e2 o2
        have e2' : hgWC X 74 [.ref 298] M1 = some (.inl (.int (nI 0)), M2) := e2
        refine ⟨M2, ?_, o2, hgFd_t (hgFd_c r3) f2⟩
        refine Eq.trans ?_ (hgk_61z (X := X) (i := i + 1) o2.1 (by omega))
        rw [hgu61_87]
        simp (maxDischargeDepth := 7) only [hgM_t, hgM_f, hgM_n, hgx_aload_n_0, hgs_get_6_5, hgx_invvirtual_1, hgx_aft_e, hgx_aft_i, hgx_aft_l, hgx_aft_v, hgx_iload_n_1, hgs_get_6_0, hgx_min, hgx_put0, hgx_iconst_0, hgx_put3, hgx_istore_n_2i, hgx_istore_n_2r, hgx_istore_n_2f, hgx_istore_n_2n, hgx_istore_n_2l, hgx_iload_n_2, hgx_iconst_3, hgx_ic_ge, hgs_get_6_8, hgx_iinc_2_1, hgx_goto, hgx_iconst_m1, hgx_if_eq, hgx_iconst_1, hgx_istore_n_3i, hgx_istore_n_3r, hgx_istore_n_3f, hgx_istore_n_3n, hgx_istore_n_3l, hgx_iload_n_3, hgx_sipush_900, hgx_if_ne, hgx_iinc_3_1, hgx_get0, hgx_ret1, hgv61_0, hgr61_0, hgu61_0, hgv61_37, ← hgu61_37, hgv61_55, hgr61_55, hgu61_55, hgv61_83, hgr61_83, hgu61_83, hgv61_84, hgr61_84, hgu61_84, hgv61_87, hgr61_87, hgv61_123, hgr61_123, hgu61_123, hgv61_124, hgr61_124, hgu61_124, hgv61_131, hgr61_131, hgu61_131, hgI_SI, hgI_SJ, hgJ_SI, hgJ_SJ, if_true, if_false, reduceIte, Nat.reduceEqDiff, hgWf_SI, hgWf_SJ, hgO_SI, hgO_SJ, hgAr_SI, hgAr_SJ, hgRp_SI, hgRp_SJ, hgN_SI, hgN_SJ, hgO_g, hgO_d, hgO_rl, hgO_r, hgO_0, hgO_1, hgO_64, hgO_298, hgO_300, hgCd_0, hgCd_1, hgCd_2, hgCd_3, hgCd_4, hgCd_5, hgRecv_O, hgRecv_99, List.length_cons, List.length_nil, Nat.zero_add, Nat.add_zero, Nat.le_refl, Nat.zero_le, and_self, or_true, true_or, true_and, and_true, ne_eq, not_false_eq_true, Nat.reduceLT, Nat.reduceLeDiff, Nat.reduceAdd, Nat.reduceEqDiff, hgn_eq, hgn_lt, hgn_le, if_true, if_false, reduceIte, Nat.not_lt_zero, hgn_add, hgn_mul, hw, b1, q, e1, w1, e2']
      | inl y =>
        rw [hr] at e2 o2 nx nx2
        have e2' : hgWC X 74 [.ref 298] M1 = some (.inl (.int (nI 1)), M2) := e2
        have w2 := o2.1.1
        obtain ⟨M3, e3, o3, f3⟩ := hgk_68 (X := X) o2 nx.2.2
        have nx3 : hgNx t (z.1 + 1) (sSem t y) := nx2
        show ∃ M', _ ∧ hgOud M' (sB (sSem t y) (sLop t k)) ∧ _
        cases hs : sSem t y with
        | inr e =>
          rw [hs] at e3 o3
          have e3' : hgWC X 68 [.ref 298] M2 = some (.inl (.int (nI 0)), M3) := e3
          refine ⟨M3, ?_, o3, hgFd_t (hgFd_t (hgFd_c r3) f2) f3⟩
          refine Eq.trans ?_ (hgk_61z (X := X) (i := i + 1) o3.1 (by omega))
          rw [hgu61_87]
          simp (maxDischargeDepth := 7) only [hgM_t, hgM_f, hgM_n, hgx_aload_n_0, hgs_get_6_5, hgx_invvirtual_1, hgx_aft_e, hgx_aft_i, hgx_aft_l, hgx_aft_v, hgx_iload_n_1, hgs_get_6_0, hgx_min, hgx_put0, hgx_iconst_0, hgx_put3, hgx_istore_n_2i, hgx_istore_n_2r, hgx_istore_n_2f, hgx_istore_n_2n, hgx_istore_n_2l, hgx_iload_n_2, hgx_iconst_3, hgx_ic_ge, hgs_get_6_8, hgx_iinc_2_1, hgx_goto, hgx_iconst_m1, hgx_if_eq, hgx_iconst_1, hgx_istore_n_3i, hgx_istore_n_3r, hgx_istore_n_3f, hgx_istore_n_3n, hgx_istore_n_3l, hgx_iload_n_3, hgx_sipush_900, hgx_if_ne, hgx_iinc_3_1, hgx_get0, hgx_ret1, hgv61_0, hgr61_0, hgu61_0, hgv61_37, ← hgu61_37, hgv61_55, hgr61_55, hgu61_55, hgv61_83, hgr61_83, hgu61_83, hgv61_84, hgr61_84, hgu61_84, hgv61_87, hgr61_87, hgv61_123, hgr61_123, hgu61_123, hgv61_124, hgr61_124, hgu61_124, hgv61_131, hgr61_131, hgu61_131, hgI_SI, hgI_SJ, hgJ_SI, hgJ_SJ, if_true, if_false, reduceIte, Nat.reduceEqDiff, hgWf_SI, hgWf_SJ, hgO_SI, hgO_SJ, hgAr_SI, hgAr_SJ, hgRp_SI, hgRp_SJ, hgN_SI, hgN_SJ, hgO_g, hgO_d, hgO_rl, hgO_r, hgO_0, hgO_1, hgO_64, hgO_298, hgO_300, hgCd_0, hgCd_1, hgCd_2, hgCd_3, hgCd_4, hgCd_5, hgRecv_O, hgRecv_99, List.length_cons, List.length_nil, Nat.zero_add, Nat.add_zero, Nat.le_refl, Nat.zero_le, and_self, or_true, true_or, true_and, and_true, ne_eq, not_false_eq_true, Nat.reduceLT, Nat.reduceLeDiff, Nat.reduceAdd, Nat.reduceEqDiff, hgn_eq, hgn_lt, hgn_le, if_true, if_false, reduceIte, Nat.not_lt_zero, hgn_add, hgn_mul, hw, b1, q, e1, w1, e2', w2, e3']
        | inl y2 =>
          rw [hs] at e3 o3 nx3
          have e3' : hgWC X 68 [.ref 298] M2 = some (.inl (.int (nI 1)), M3) := e3
          have n1 : z.1 + 1 ≤ y2.1 := nx3.1
          obtain ⟨M4, e4, o4, f4⟩ := ih y2 (i + 1) M3 (by omega) (by omega) o3 nx3.2.2
          refine ⟨M4, ?_, o4, hgFd_t (hgFd_t (hgFd_t (hgFd_c r3) f2) f3) f4⟩
          refine Eq.trans ?_ e4
          rw [hgu61_87]
          simp (maxDischargeDepth := 7) only [hgM_t, hgM_f, hgM_n, hgx_aload_n_0, hgs_get_6_5, hgx_invvirtual_1, hgx_aft_e, hgx_aft_i, hgx_aft_l, hgx_aft_v, hgx_iload_n_1, hgs_get_6_0, hgx_min, hgx_put0, hgx_iconst_0, hgx_put3, hgx_istore_n_2i, hgx_istore_n_2r, hgx_istore_n_2f, hgx_istore_n_2n, hgx_istore_n_2l, hgx_iload_n_2, hgx_iconst_3, hgx_ic_ge, hgs_get_6_8, hgx_iinc_2_1, hgx_goto, hgx_iconst_m1, hgx_if_eq, hgx_iconst_1, hgx_istore_n_3i, hgx_istore_n_3r, hgx_istore_n_3f, hgx_istore_n_3n, hgx_istore_n_3l, hgx_iload_n_3, hgx_sipush_900, hgx_if_ne, hgx_iinc_3_1, hgx_get0, hgx_ret1, hgv61_0, hgr61_0, hgu61_0, hgv61_37, ← hgu61_37, hgv61_55, hgr61_55, hgu61_55, hgv61_83, hgr61_83, hgu61_83, hgv61_84, hgr61_84, hgu61_84, hgv61_87, hgr61_87, hgv61_123, hgr61_123, hgu61_123, hgv61_124, hgr61_124, hgu61_124, hgv61_131, hgr61_131, hgu61_131, hgI_SI, hgI_SJ, hgJ_SI, hgJ_SJ, if_true, if_false, reduceIte, Nat.reduceEqDiff, hgWf_SI, hgWf_SJ, hgO_SI, hgO_SJ, hgAr_SI, hgAr_SJ, hgRp_SI, hgRp_SJ, hgN_SI, hgN_SJ, hgO_g, hgO_d, hgO_rl, hgO_r, hgO_0, hgO_1, hgO_64, hgO_298, hgO_300, hgCd_0, hgCd_1, hgCd_2, hgCd_3, hgCd_4, hgCd_5, hgRecv_O, hgRecv_99, List.length_cons, List.length_nil, Nat.zero_add, Nat.add_zero, Nat.le_refl, Nat.zero_le, and_self, or_true, true_or, true_and, and_true, ne_eq, not_false_eq_true, Nat.reduceLT, Nat.reduceLeDiff, Nat.reduceAdd, Nat.reduceEqDiff, hgn_eq, hgn_lt, hgn_le, if_true, if_false, reduceIte, Nat.not_lt_zero, hgn_add, hgn_mul, hw, b1, q, e1, w1, e2', w2, e3']
    · rw [if_neg qe]
      by_cases q : 900 ≤ i
      · refine ⟨M, ?_, ⟨hw, h3.2.1, h3.2.2.2.1, h3.2.2.2.2⟩, hgFd_r⟩
        rw [hgu61_87]
        simp (maxDischargeDepth := 7) only [hgM_t, hgM_f, hgM_n, hgx_aload_n_0, hgs_get_6_5, hgx_invvirtual_1, hgx_aft_e, hgx_aft_i, hgx_aft_l, hgx_aft_v, hgx_iload_n_1, hgs_get_6_0, hgx_min, hgx_put0, hgx_iconst_0, hgx_put3, hgx_istore_n_2i, hgx_istore_n_2r, hgx_istore_n_2f, hgx_istore_n_2n, hgx_istore_n_2l, hgx_iload_n_2, hgx_iconst_3, hgx_ic_ge, hgs_get_6_8, hgx_iinc_2_1, hgx_goto, hgx_iconst_m1, hgx_if_eq, hgx_iconst_1, hgx_istore_n_3i, hgx_istore_n_3r, hgx_istore_n_3f, hgx_istore_n_3n, hgx_istore_n_3l, hgx_iload_n_3, hgx_sipush_900, hgx_if_ne, hgx_iinc_3_1, hgx_get0, hgx_ret1, hgv61_0, hgr61_0, hgu61_0, hgv61_37, ← hgu61_37, hgv61_55, hgr61_55, hgu61_55, hgv61_83, hgr61_83, hgu61_83, hgv61_84, hgr61_84, hgu61_84, hgv61_87, hgr61_87, hgv61_123, hgr61_123, hgu61_123, hgv61_124, hgr61_124, hgu61_124, hgv61_131, hgr61_131, hgu61_131, hgI_SI, hgI_SJ, hgJ_SI, hgJ_SJ, if_true, if_false, reduceIte, Nat.reduceEqDiff, hgWf_SI, hgWf_SJ, hgO_SI, hgO_SJ, hgAr_SI, hgAr_SJ, hgRp_SI, hgRp_SJ, hgN_SI, hgN_SJ, hgO_g, hgO_d, hgO_rl, hgO_r, hgO_0, hgO_1, hgO_64, hgO_298, hgO_300, hgCd_0, hgCd_1, hgCd_2, hgCd_3, hgCd_4, hgCd_5, hgRecv_O, hgRecv_99, List.length_cons, List.length_nil, Nat.zero_add, Nat.add_zero, Nat.le_refl, Nat.zero_le, and_self, or_true, true_or, true_and, and_true, ne_eq, not_false_eq_true, Nat.reduceLT, Nat.reduceLeDiff, Nat.reduceAdd, Nat.reduceEqDiff, hgn_eq, hgn_lt, hgn_le, if_true, if_false, reduceIte, Nat.not_lt_zero, hw, b1, q]
      · obtain ⟨M1, e1, r1, r2, r3⟩ := hgk_67 (X := X) h3.1
        rw [decide_eq_true (by omega), hgB_t] at e1
        have w1 := r1.1
        have ok1 : hgOkc M1 t (tSk t z.1, z.2.1, z.2.2) := hgOkc_c h3 h4 r3 r1
        refine ⟨M1, ?_, ⟨w1, ok1.2.1, ok1.2.2.2.1, ok1.2.2.2.2⟩, hgFd_c r3⟩
        rw [hgu61_87]
        simp (maxDischargeDepth := 7) only [hgM_t, hgM_f, hgM_n, hgx_aload_n_0, hgs_get_6_5, hgx_invvirtual_1, hgx_aft_e, hgx_aft_i, hgx_aft_l, hgx_aft_v, hgx_iload_n_1, hgs_get_6_0, hgx_min, hgx_put0, hgx_iconst_0, hgx_put3, hgx_istore_n_2i, hgx_istore_n_2r, hgx_istore_n_2f, hgx_istore_n_2n, hgx_istore_n_2l, hgx_iload_n_2, hgx_iconst_3, hgx_ic_ge, hgs_get_6_8, hgx_iinc_2_1, hgx_goto, hgx_iconst_m1, hgx_if_eq, hgx_iconst_1, hgx_istore_n_3i, hgx_istore_n_3r, hgx_istore_n_3f, hgx_istore_n_3n, hgx_istore_n_3l, hgx_iload_n_3, hgx_sipush_900, hgx_if_ne, hgx_iinc_3_1, hgx_get0, hgx_ret1, hgv61_0, hgr61_0, hgu61_0, hgv61_37, ← hgu61_37, hgv61_55, hgr61_55, hgu61_55, hgv61_83, hgr61_83, hgu61_83, hgv61_84, hgr61_84, hgu61_84, hgv61_87, hgr61_87, hgv61_123, hgr61_123, hgu61_123, hgv61_124, hgr61_124, hgu61_124, hgv61_131, hgr61_131, hgu61_131, hgI_SI, hgI_SJ, hgJ_SI, hgJ_SJ, if_true, if_false, reduceIte, Nat.reduceEqDiff, hgWf_SI, hgWf_SJ, hgO_SI, hgO_SJ, hgAr_SI, hgAr_SJ, hgRp_SI, hgRp_SJ, hgN_SI, hgN_SJ, hgO_g, hgO_d, hgO_rl, hgO_r, hgO_0, hgO_1, hgO_64, hgO_298, hgO_300, hgCd_0, hgCd_1, hgCd_2, hgCd_3, hgCd_4, hgCd_5, hgRecv_O, hgRecv_99, List.length_cons, List.length_nil, Nat.zero_add, Nat.add_zero, Nat.le_refl, Nat.zero_le, and_self, or_true, true_or, true_and, and_true, ne_eq, not_false_eq_true, Nat.reduceLT, Nat.reduceLeDiff, Nat.reduceAdd, Nat.reduceEqDiff, hgn_eq, hgn_lt, hgn_le, if_true, if_false, reduceIte, Nat.not_lt_zero, hw, b1, q, e1, w1]
theorem hgk_61s {v1 : Option Value} (hw : hgWf M) (hi : i < 3) : hgW X 61 37 [some (.ref 298), v1, some (.int (nI i)), none] [] (0, 0) M = hgW X 61 37 [some (.ref 298), none, some (.int (nI (i + 1))), none] [] (0, 0) (hgSI M 299 i (nI 0)) := by
  have b1 : i < 2147483648 := by omega
  have b2 : ¬ 3 ≤ i := by omega
  rw [hgu61_37]
  simp (maxDischargeDepth := 7) only [hgM_t, hgM_f, hgM_n, hgx_aload_n_0, hgs_get_6_5, hgx_invvirtual_1, hgx_aft_e, hgx_aft_i, hgx_aft_l, hgx_aft_v, hgx_iload_n_1, hgs_get_6_0, hgx_min, hgx_put0, hgx_iconst_0, hgx_put3, hgx_istore_n_2i, hgx_istore_n_2r, hgx_istore_n_2f, hgx_istore_n_2n, hgx_istore_n_2l, hgx_iload_n_2, hgx_iconst_3, hgx_ic_ge, hgs_get_6_8, hgx_iinc_2_1, hgx_goto, hgx_iconst_m1, hgx_if_eq, hgx_iconst_1, hgx_istore_n_3i, hgx_istore_n_3r, hgx_istore_n_3f, hgx_istore_n_3n, hgx_istore_n_3l, hgx_iload_n_3, hgx_sipush_900, hgx_if_ne, hgx_iinc_3_1, hgx_get0, hgx_ret1, hgv61_0, hgr61_0, hgu61_0, hgv61_37, hgr61_37, hgv61_55, hgr61_55, hgu61_55, hgv61_83, hgr61_83, hgu61_83, hgv61_84, hgr61_84, hgu61_84, hgv61_87, ← hgu61_87, hgv61_123, hgr61_123, hgu61_123, hgv61_124, hgr61_124, hgu61_124, hgv61_131, hgr61_131, hgu61_131, hgI_SI, hgI_SJ, hgJ_SI, hgJ_SJ, if_true, if_false, reduceIte, Nat.reduceEqDiff, hgWf_SI, hgWf_SJ, hgO_SI, hgO_SJ, hgAr_SI, hgAr_SJ, hgRp_SI, hgRp_SJ, hgN_SI, hgN_SJ, hgO_g, hgO_d, hgO_rl, hgO_r, hgO_0, hgO_1, hgO_64, hgO_298, hgO_300, hgCd_0, hgCd_1, hgCd_2, hgCd_3, hgCd_4, hgCd_5, hgRecv_O, hgRecv_99, List.length_cons, List.length_nil, Nat.zero_add, Nat.add_zero, Nat.le_refl, Nat.zero_le, and_self, or_true, true_or, true_and, and_true, ne_eq, not_false_eq_true, Nat.reduceLT, Nat.reduceLeDiff, Nat.reduceAdd, Nat.reduceEqDiff, hgn_eq, hgn_lt, hgn_le, if_true, if_false, reduceIte, Nat.not_lt_zero, hgs_aa_d, hgs_aa_r, hgs_aa_h, hgs_aa_m, hgs_aa_t, hgs_ld_wp, hgs_st_wp, hgs_ld_qf, hgs_st_qf, hgs_ld_qt, hgs_st_qt, hgs_ld_2, hgs_st_2, hgs_ld_3, hgs_st_3, hgs_ld_4, hgs_st_4, hgs_ld_301, hgs_st_301, hgs_ld_D, hgs_st_D, hgs_ld_s, hgs_ld_T, hgs_st_T, hgs_ld_o, hgs_st_o, hgs_ld_b, hgs_st_b, hgs_ld_z, hgs_st_z, hgs_al_b, hgx_alen_s, hgn_add, hgn_mul, hgnb0, hw, hi, b1, b2]
/-- component: readDraft -/
theorem hgk_61 (hw : hgWf M) (hn : n ≤ 900) (ht : t.2 = n) (hb : ∀ k, k < n → hgI M 5 k &&& nI 255 = nI (t.1 k) ∧ t.1 k ≤ 255) : ∃ M', hgWC X 61 [.ref 298, .int (nI n)] M = some (.inl (.int (hgI M' 298 9)), M') ∧ hgOud M' (sTxt t) ∧ hgFd M M' := by
  have g35 := hg35
  obtain ⟨M1, e1, v1, f1⟩ := hgk_10 (X := X) hw g35
  have w1 := hgFn_w f1 hw
  have b1 : n < 2147483648 := by omega
  have b2 : ¬ 900 < n := by omega
  have b3 : ¬ (900 : Nat) < n := by omega
  obtain ⟨M2, hM2⟩ : ∃ M2, M2 = hgSI (hgSI (hgSI (hgSI (hgSI (hgSI (hgSI (hgSI (hgSI M1 298 1 (nI n)) 298 2 (nI 0)) 298 6 (nI 0)) 298 7 (nI 0)) 299 0 (nI 0)) 299 1 (nI 0)) 299 2 (nI 0)) 298 9 (nI 0)) 298 10 (-1) := ⟨_, rfl⟩
  have f2 : hgFn (fun b => b = 298 ∨ b = 299) M1 M2 := by
    rw [hM2]
    exact hgFn_SI (hgFn_SI (hgFn_SI (hgFn_SI (hgFn_SI (hgFn_SI (hgFn_SI (hgFn_SI (hgFn_SI hgFn_r (by omega)) (by omega)) (by omega)) (by omega)) (by omega)) (by omega)) (by omega)) (by omega)) (by omega)
  have w2 := hgFn_w f2 w1
  have f12 : hgFd M M2 := hgFd_t (hgFd_v f1) (hgFn_m f2 (fun b hb => by omega))
  have v2 := hgCV_fm w1 (hgDk_sm hgDk_0) (hgFn_f f2) (fun b hb => by omega) v1
  have ok2 : hgOkc M2 t (0, vD0, fun _ => false) := by
    refine ⟨⟨w2, by rw [ht, hM2]; simp only [hgI_SI, hgI_SJ, hgJ_SI, hgJ_SJ, if_true, if_false, reduceIte, Nat.reduceEqDiff], by rw [hM2]; simp only [hgI_SI, hgI_SJ, hgJ_SI, hgJ_SJ, if_true, if_false, reduceIte, Nat.reduceEqDiff], Nat.zero_le _, by omega, fun k hk => ?_⟩, v2, ⟨?_, ?_, fun g hg => ?_⟩, ?_, ?_⟩
    · rw [(f12.2.2 5 (by omega) k).1]
      exact hb k (by omega)
    · rw [hM2]; simp only [hgI_SI, hgI_SJ, hgJ_SI, hgJ_SJ, if_true, if_false, reduceIte, Nat.reduceEqDiff]; rfl
    · rw [hM2]; simp only [hgI_SI, hgI_SJ, hgJ_SI, hgJ_SJ, if_true, if_false, reduceIte, Nat.reduceEqDiff]; rfl
    · have : g = 0 ∨ g = 1 ∨ g = 2 := by omega
      rw [hM2]
      rcases this with e | e | e <;> subst e <;> simp only [hgI_SI, hgI_SJ, hgJ_SI, hgJ_SJ, if_true, if_false, reduceIte, Nat.reduceEqDiff] <;> rfl
    · rw [hM2]; simp only [hgI_SI, hgI_SJ, hgJ_SI, hgJ_SJ, if_true, if_false, reduceIte, Nat.reduceEqDiff]
    · rw [hM2]; simp only [hgI_SI, hgI_SJ, hgJ_SI, hgJ_SJ, if_true, if_false, reduceIte, Nat.reduceEqDiff]
  have start : hgWC X 61 [.ref 298, .int (nI n)] M = hgW X 61 37 [some (.ref 298), some (.int (nI n)), some (.int (nI 0)), none] [] (0, 0) (hgSI (hgSI (hgSI (hgSI M1 298 1 (nI n)) 298 2 (nI 0)) 298 6 (nI 0)) 298 7 (nI 0)) := by
    simp (maxDischargeDepth := 7) only [hgc61, hgM_t, hgM_f, hgM_n, hgx_aload_n_0, hgs_get_6_5, hgx_invvirtual_1, hgx_aft_e, hgx_aft_i, hgx_aft_l, hgx_aft_v, hgx_iload_n_1, hgs_get_6_0, hgx_min, hgx_put0, hgx_iconst_0, hgx_put3, hgx_istore_n_2i, hgx_istore_n_2r, hgx_istore_n_2f, hgx_istore_n_2n, hgx_istore_n_2l, hgx_iload_n_2, hgx_iconst_3, hgx_ic_ge, hgs_get_6_8, hgx_iinc_2_1, hgx_goto, hgx_iconst_m1, hgx_if_eq, hgx_iconst_1, hgx_istore_n_3i, hgx_istore_n_3r, hgx_istore_n_3f, hgx_istore_n_3n, hgx_istore_n_3l, hgx_iload_n_3, hgx_sipush_900, hgx_if_ne, hgx_iinc_3_1, hgx_get0, hgx_ret1, hgv61_0, hgr61_0, hgu61_0, hgv61_37, ← hgu61_37, hgv61_55, hgr61_55, hgu61_55, hgv61_83, hgr61_83, hgu61_83, hgv61_84, hgr61_84, hgu61_84, hgv61_87, ← hgu61_87, hgv61_123, hgr61_123, hgu61_123, hgv61_124, hgr61_124, hgu61_124, hgv61_131, hgr61_131, hgu61_131, hgI_SI, hgI_SJ, hgJ_SI, hgJ_SJ, if_true, if_false, reduceIte, Nat.reduceEqDiff, hgWf_SI, hgWf_SJ, hgO_SI, hgO_SJ, hgAr_SI, hgAr_SJ, hgRp_SI, hgRp_SJ, hgN_SI, hgN_SJ, hgO_g, hgO_d, hgO_rl, hgO_r, hgO_0, hgO_1, hgO_64, hgO_298, hgO_300, hgCd_0, hgCd_1, hgCd_2, hgCd_3, hgCd_4, hgCd_5, hgRecv_O, hgRecv_99, List.length_cons, List.length_nil, Nat.zero_add, Nat.add_zero, Nat.le_refl, Nat.zero_le, and_self, or_true, true_or, true_and, and_true, ne_eq, not_false_eq_true, Nat.reduceLT, Nat.reduceLeDiff, Nat.reduceAdd, Nat.reduceEqDiff, hgn_eq, hgn_lt, hgn_le, if_true, if_false, reduceIte, Nat.not_lt_zero, hgs_aa_d, hgs_aa_r, hgs_aa_h, hgs_aa_m, hgs_aa_t, hgs_ld_wp, hgs_st_wp, hgs_ld_qf, hgs_st_qf, hgs_ld_qt, hgs_st_qt, hgs_ld_2, hgs_st_2, hgs_ld_3, hgs_st_3, hgs_ld_4, hgs_st_4, hgs_ld_301, hgs_st_301, hgs_ld_D, hgs_st_D, hgs_ld_s, hgs_ld_T, hgs_st_T, hgs_ld_o, hgs_st_o, hgs_ld_b, hgs_st_b, hgs_ld_z, hgs_st_z, hgs_al_b, hgx_alen_s, hw, g35, e1, w1, b1, b2, b3]
  rw [start, hgk_61s (i := 0) (by exact w1) (by omega), hgk_61s (i := 1) (by exact w1) (by omega), hgk_61s (i := 2) (by exact w1) (by omega)]
  obtain ⟨M3, e3, o3, f3⟩ := hgk_73 (X := X) ok2
  have nx := sHed_n t
  unfold sTxt
  cases hr : sHed t with
  | inr e =>
    rw [hr] at e3 o3
    have e3' : hgWC X 73 [.ref 298] M2 = some (.inl (.int (nI 0)), M3) := e3
    refine ⟨M3, ?_, o3, hgFd_t f12 f3⟩
    refine Eq.trans ?_ (hgk_61z (X := X) (i := 0) o3.1 (by omega))
    rw [hgu61_37]
    rw [hM2] at e3'
    simp (maxDischargeDepth := 7) only [hgM_t, hgM_f, hgM_n, hgx_aload_n_0, hgs_get_6_5, hgx_invvirtual_1, hgx_aft_e, hgx_aft_i, hgx_aft_l, hgx_aft_v, hgx_iload_n_1, hgs_get_6_0, hgx_min, hgx_put0, hgx_iconst_0, hgx_put3, hgx_istore_n_2i, hgx_istore_n_2r, hgx_istore_n_2f, hgx_istore_n_2n, hgx_istore_n_2l, hgx_iload_n_2, hgx_iconst_3, hgx_ic_ge, hgs_get_6_8, hgx_iinc_2_1, hgx_goto, hgx_iconst_m1, hgx_if_eq, hgx_iconst_1, hgx_istore_n_3i, hgx_istore_n_3r, hgx_istore_n_3f, hgx_istore_n_3n, hgx_istore_n_3l, hgx_iload_n_3, hgx_sipush_900, hgx_if_ne, hgx_iinc_3_1, hgx_get0, hgx_ret1, hgv61_0, hgr61_0, hgu61_0, hgv61_37, hgr61_37, hgv61_55, hgr61_55, hgu61_55, hgv61_83, hgr61_83, hgu61_83, hgv61_84, hgr61_84, hgu61_84, hgv61_87, ← hgu61_87, hgv61_123, hgr61_123, hgu61_123, hgv61_124, hgr61_124, hgu61_124, hgv61_131, hgr61_131, hgu61_131, hgI_SI, hgI_SJ, hgJ_SI, hgJ_SJ, if_true, if_false, reduceIte, Nat.reduceEqDiff, hgWf_SI, hgWf_SJ, hgO_SI, hgO_SJ, hgAr_SI, hgAr_SJ, hgRp_SI, hgRp_SJ, hgN_SI, hgN_SJ, hgO_g, hgO_d, hgO_rl, hgO_r, hgO_0, hgO_1, hgO_64, hgO_298, hgO_300, hgCd_0, hgCd_1, hgCd_2, hgCd_3, hgCd_4, hgCd_5, hgRecv_O, hgRecv_99, List.length_cons, List.length_nil, Nat.zero_add, Nat.add_zero, Nat.le_refl, Nat.zero_le, and_self, or_true, true_or, true_and, and_true, ne_eq, not_false_eq_true, Nat.reduceLT, Nat.reduceLeDiff, Nat.reduceAdd, Nat.reduceEqDiff, hgn_eq, hgn_lt, hgn_le, if_true, if_false, reduceIte, Nat.not_lt_zero, w1, e3']
  | inl y =>
    rw [hr] at e3 o3 nx
    have e3' : hgWC X 73 [.ref 298] M2 = some (.inl (.int (nI 1)), M3) := e3
    have w3 := o3.1.1
    obtain ⟨M4, e4, o4, f4⟩ := hgk_68 (X := X) o3 nx.2.2
    have nx2 := sSem_n nx.2.1 nx.2.2
    show ∃ M', _ ∧ hgOud M' (sB (sSem t y) (sLop t 900)) ∧ _
    cases hs : sSem t y with
    | inr e =>
      rw [hs] at e4 o4
      have e4' : hgWC X 68 [.ref 298] M3 = some (.inl (.int (nI 0)), M4) := e4
      refine ⟨M4, ?_, o4, hgFd_t (hgFd_t f12 f3) f4⟩
      refine Eq.trans ?_ (hgk_61z (X := X) (i := 0) o4.1 (by omega))
      rw [hgu61_37]
      rw [hM2] at e3'
      simp (maxDischargeDepth := 7) only [hgM_t, hgM_f, hgM_n, hgx_aload_n_0, hgs_get_6_5, hgx_invvirtual_1, hgx_aft_e, hgx_aft_i, hgx_aft_l, hgx_aft_v, hgx_iload_n_1, hgs_get_6_0, hgx_min, hgx_put0, hgx_iconst_0, hgx_put3, hgx_istore_n_2i, hgx_istore_n_2r, hgx_istore_n_2f, hgx_istore_n_2n, hgx_istore_n_2l, hgx_iload_n_2, hgx_iconst_3, hgx_ic_ge, hgs_get_6_8, hgx_iinc_2_1, hgx_goto, hgx_iconst_m1, hgx_if_eq, hgx_iconst_1, hgx_istore_n_3i, hgx_istore_n_3r, hgx_istore_n_3f, hgx_istore_n_3n, hgx_istore_n_3l, hgx_iload_n_3, hgx_sipush_900, hgx_if_ne, hgx_iinc_3_1, hgx_get0, hgx_ret1, hgv61_0, hgr61_0, hgu61_0, hgv61_37, hgr61_37, hgv61_55, hgr61_55, hgu61_55, hgv61_83, hgr61_83, hgu61_83, hgv61_84, hgr61_84, hgu61_84, hgv61_87, ← hgu61_87, hgv61_123, hgr61_123, hgu61_123, hgv61_124, hgr61_124, hgu61_124, hgv61_131, hgr61_131, hgu61_131, hgI_SI, hgI_SJ, hgJ_SI, hgJ_SJ, if_true, if_false, reduceIte, Nat.reduceEqDiff, hgWf_SI, hgWf_SJ, hgO_SI, hgO_SJ, hgAr_SI, hgAr_SJ, hgRp_SI, hgRp_SJ, hgN_SI, hgN_SJ, hgO_g, hgO_d, hgO_rl, hgO_r, hgO_0, hgO_1, hgO_64, hgO_298, hgO_300, hgCd_0, hgCd_1, hgCd_2, hgCd_3, hgCd_4, hgCd_5, hgRecv_O, hgRecv_99, List.length_cons, List.length_nil, Nat.zero_add, Nat.add_zero, Nat.le_refl, Nat.zero_le, and_self, or_true, true_or, true_and, and_true, ne_eq, not_false_eq_true, Nat.reduceLT, Nat.reduceLeDiff, Nat.reduceAdd, Nat.reduceEqDiff, hgn_eq, hgn_lt, hgn_le, if_true, if_false, reduceIte, Nat.not_lt_zero, w1, e3', w3, e4']
    | inl y2 =>
      rw [hs] at e4 o4 nx2
      have e4' : hgWC X 68 [.ref 298] M3 = some (.inl (.int (nI 1)), M4) := e4
      obtain ⟨M5, e5, o5, f5⟩ := hgk_61l (X := X) 900 y2 0 M4 (by omega) (Nat.zero_le _) o4 nx2.2.2
      refine ⟨M5, ?_, o5, hgFd_t (hgFd_t (hgFd_t f12 f3) f4) f5⟩
      refine Eq.trans ?_ e5
      rw [hgu61_37]
      rw [hM2] at e3'
      simp (maxDischargeDepth := 7) only [hgM_t, hgM_f, hgM_n, hgx_aload_n_0, hgs_get_6_5, hgx_invvirtual_1, hgx_aft_e, hgx_aft_i, hgx_aft_l, hgx_aft_v, hgx_iload_n_1, hgs_get_6_0, hgx_min, hgx_put0, hgx_iconst_0, hgx_put3, hgx_istore_n_2i, hgx_istore_n_2r, hgx_istore_n_2f, hgx_istore_n_2n, hgx_istore_n_2l, hgx_iload_n_2, hgx_iconst_3, hgx_ic_ge, hgs_get_6_8, hgx_iinc_2_1, hgx_goto, hgx_iconst_m1, hgx_if_eq, hgx_iconst_1, hgx_istore_n_3i, hgx_istore_n_3r, hgx_istore_n_3f, hgx_istore_n_3n, hgx_istore_n_3l, hgx_iload_n_3, hgx_sipush_900, hgx_if_ne, hgx_iinc_3_1, hgx_get0, hgx_ret1, hgv61_0, hgr61_0, hgu61_0, hgv61_37, hgr61_37, hgv61_55, hgr61_55, hgu61_55, hgv61_83, hgr61_83, hgu61_83, hgv61_84, hgr61_84, hgu61_84, hgv61_87, ← hgu61_87, hgv61_123, hgr61_123, hgu61_123, hgv61_124, hgr61_124, hgu61_124, hgv61_131, hgr61_131, hgu61_131, hgI_SI, hgI_SJ, hgJ_SI, hgJ_SJ, if_true, if_false, reduceIte, Nat.reduceEqDiff, hgWf_SI, hgWf_SJ, hgO_SI, hgO_SJ, hgAr_SI, hgAr_SJ, hgRp_SI, hgRp_SJ, hgN_SI, hgN_SJ, hgO_g, hgO_d, hgO_rl, hgO_r, hgO_0, hgO_1, hgO_64, hgO_298, hgO_300, hgCd_0, hgCd_1, hgCd_2, hgCd_3, hgCd_4, hgCd_5, hgRecv_O, hgRecv_99, List.length_cons, List.length_nil, Nat.zero_add, Nat.add_zero, Nat.le_refl, Nat.zero_le, and_self, or_true, true_or, true_and, and_true, ne_eq, not_false_eq_true, Nat.reduceLT, Nat.reduceLeDiff, Nat.reduceAdd, Nat.reduceEqDiff, hgn_eq, hgn_lt, hgn_le, if_true, if_false, reduceIte, Nat.not_lt_zero, w1, e3', w3, e4']
/-- component: load -/
theorem hgk_84 (h : hgSC M V Hs c) (hbl : hgI M 0 1 = nI b) (hb9 : b ≤ 900) (hn : n ≤ b) (ht : t.2 = n) (hb : ∀ k, k < n → hgI M 5 k &&& nI 255 = nI (t.1 k) ∧ t.1 k ≤ 255) : ∃ M', hgWC X 84 [.ref 0, .int (nI n)] M = some (.inl (.int (rA (sTxt t))), M') ∧ hgSC M' (rV V (sTxt t)) (rH V Hs (sTxt t)) c ∧ hgI M' 0 1 = nI 0 ∧ hgI M' 0 2 = rO (sTxt t) ∧ hgFm (fun b => b < 300) M M' := by
  have hw := h.1
  have g35 := hg35
  have g6 : hgGw 6 := Or.inl rfl
  obtain ⟨M1, e1, o1, f1⟩ := hgk_61 (X := X) hw (by omega) ht hb
  have nx := sTxt_n t
  have b1 : n < 2147483648 := by omega
  have b2 : b < 2147483648 := by omega
  have fs : hgFm (fun b => (35 ≤ b ∧ b < 64) ∨ b = 298 ∨ b = 299 ∨ b = 0) M (hgSI (hgSI M1 0 1 (nI 0)) 0 2 (hgI M1 298 10)) := hgFm_SI (hgFm_SI (hgFm_m (hgFn_f f1) (fun b hb => by omega)) (by omega)) (by omega)
  have w1 := hgFn_w f1 hw
  cases hr : sTxt t with
  | inr e =>
    rw [hr] at o1 nx
    have hne : hgI M1 298 9 ≠ nI 0 := by
      rw [o1.2.1]
      rcases nx with q | q | q <;> rw [q] <;> decide
    have s1 : hgSC (hgSI (hgSI M1 0 1 (nI 0)) 0 2 (hgI M1 298 10)) V Hs c := hgSC_fm fs w1 (fun b hb => by omega) h
    refine ⟨hgSI (hgSI M1 0 1 (nI 0)) 0 2 (hgI M1 298 10), ?_, s1, by rw [hgI_nk (by omega), hgI_at], by rw [hgI_at]; exact o1.2.2, hgFm_m fs (fun b hb => by omega)⟩
    show _ = some (Sum.inl (Value.int e.1), _)
    rw [← o1.2.1]
    simp (maxDischargeDepth := 7) only [hgc84, hgM_t, hgM_f, hgM_n, hgx_iload_n_1, hgx_if_lt, hgx_aload_n_0, hgx_get0, hgx_ic_le, hgx_throw, hgs_get_7_6, hgx_invvirtual_2, hgx_aft_e, hgx_aft_i, hgx_aft_l, hgx_aft_v, hgx_istore_n_2i, hgx_istore_n_2r, hgx_istore_n_2f, hgx_istore_n_2n, hgx_istore_n_2l, hgx_iconst_0, hgx_put0, hgx_iload_n_2, hgx_if_eq, hgx_ret1, hgs_get_7_5, hgs_get_7_3, hgs_get_7_4, hgv84_0, hgr84_0, hgu84_0, hgv84_12, hgr84_12, hgu84_12, hgv84_22, hgr84_22, hgu84_22, hgv84_53, hgr84_53, hgu84_53, hgI_SI, hgI_SJ, hgJ_SI, hgJ_SJ, if_true, if_false, reduceIte, Nat.reduceEqDiff, hgWf_SI, hgWf_SJ, hgO_SI, hgO_SJ, hgAr_SI, hgAr_SJ, hgRp_SI, hgRp_SJ, hgN_SI, hgN_SJ, hgO_g, hgO_d, hgO_rl, hgO_r, hgO_0, hgO_1, hgO_64, hgO_298, hgO_300, hgCd_0, hgCd_1, hgCd_2, hgCd_3, hgCd_4, hgCd_5, hgRecv_O, hgRecv_99, List.length_cons, List.length_nil, Nat.zero_add, Nat.add_zero, Nat.le_refl, Nat.zero_le, and_self, or_true, true_or, true_and, and_true, ne_eq, not_false_eq_true, Nat.reduceLT, Nat.reduceLeDiff, Nat.reduceAdd, Nat.reduceEqDiff, hgn_eq, hgn_lt, hgn_le, if_true, if_false, reduceIte, Nat.not_lt_zero, hw, hbl, b1, b2, hn, e1, w1, hne]
  | inl z =>
    rw [hr] at o1 nx
    obtain ⟨_, v1, h9, h10⟩ := o1
    have hk : hgDk z.2.1 := nx.2.2
    have hok := hgDk_ok hk (c := c) h.2.2.2.2.1.2.2.2.2.2.2.2.2
    obtain ⟨M2, hM2⟩ : ∃ M2, M2 = hgSI (hgSI M1 0 1 (nI 0)) 0 2 (hgI M1 298 10) := ⟨_, rfl⟩
    have s2 : hgSC M2 V Hs c := by rw [hM2]; exact hgSC_fm fs w1 (fun b hb => by omega) h
    have v2 : hgCV M2 35 z.2.1 := by
      rw [hM2]
      refine hgCV_to w1 (hgDk_sm hk) (fun a k h1 h2 => ?_) (fun a h1 h2 => rfl) (fun k => rfl) (fun i hi p hp => ?_) (fun i hi p hp => ?_) v1
      · rw [hgI_na (by omega), hgI_na (by omega)]
      · rw [hgI_na (by omega), hgI_na (by omega)]
      · rw [hgI_na (by omega), hgI_na (by omega), hgI_na (by omega), hgI_na (by omega)]
        exact ⟨rfl, rfl⟩
    have w2 := s2.1
    obtain ⟨M3, e3, s3, f3⟩ := hgk_32 (X := X) s2
    have w3 := s3.1
    have v3 := hgCV_fm w2 (hgDk_sm hk) f3 (fun b hb => by omega) v2
    obtain ⟨M4, e4, f4, v4⟩ := hgk_9 (X := X) w3 g6 (by omega) hok v3
    have w4 := hgFn_w f4 w3
    have s4 : hgSC M4 z.2.1 ((V :: Hs).take 8) c := hgSC_cur s3 (hgFn_f f4) (fun b hb => by omega) w4 v4 hok
    have z1 : ∀ k, hgI M4 0 k = hgI M2 0 k := fun k => by rw [(f4.2.2 0 (by omega) k).1, (f3.2 0 (by omega) k).1]
    have h6 := v4.2.1
    refine ⟨M4, ?_, s4, by rw [z1, hM2, hgI_nk (by omega), hgI_at], by rw [z1, hM2, hgI_at]; exact h10, hgFm_t (hgFm_t (by rw [hM2]; exact hgFm_m fs (fun b hb => by omega)) (hgFm_m f3 (fun b hb => by omega))) (hgFm_m (hgFn_f f4) (fun b hb => by omega))⟩
    show _ = some (Sum.inl (Value.int (nI (vN z.2.1))), _)
    rw [hM2] at e3
    rw [h9] at e1
    simp (maxDischargeDepth := 7) only [hgc84, hgM_t, hgM_f, hgM_n, hgx_iload_n_1, hgx_if_lt, hgx_aload_n_0, hgx_get0, hgx_ic_le, hgx_throw, hgs_get_7_6, hgx_invvirtual_2, hgx_aft_e, hgx_aft_i, hgx_aft_l, hgx_aft_v, hgx_istore_n_2i, hgx_istore_n_2r, hgx_istore_n_2f, hgx_istore_n_2n, hgx_istore_n_2l, hgx_iconst_0, hgx_put0, hgx_iload_n_2, hgx_if_eq, hgx_ret1, hgs_get_7_5, hgs_get_7_3, hgs_get_7_4, hgv84_0, hgr84_0, hgu84_0, hgv84_12, hgr84_12, hgu84_12, hgv84_22, hgr84_22, hgu84_22, hgv84_53, hgr84_53, hgu84_53, hgI_SI, hgI_SJ, hgJ_SI, hgJ_SJ, if_true, if_false, reduceIte, Nat.reduceEqDiff, hgWf_SI, hgWf_SJ, hgO_SI, hgO_SJ, hgAr_SI, hgAr_SJ, hgRp_SI, hgRp_SJ, hgN_SI, hgN_SJ, hgO_g, hgO_d, hgO_rl, hgO_r, hgO_0, hgO_1, hgO_64, hgO_298, hgO_300, hgCd_0, hgCd_1, hgCd_2, hgCd_3, hgCd_4, hgCd_5, hgRecv_O, hgRecv_99, List.length_cons, List.length_nil, Nat.zero_add, Nat.add_zero, Nat.le_refl, Nat.zero_le, and_self, or_true, true_or, true_and, and_true, ne_eq, not_false_eq_true, Nat.reduceLT, Nat.reduceLeDiff, Nat.reduceAdd, Nat.reduceEqDiff, hgn_eq, hgn_lt, hgn_le, if_true, if_false, reduceIte, Nat.not_lt_zero, hw, hbl, b1, b2, hn, e1, w1, g6, g35, e3, w3, e4, w4, h6]
end HGLDC

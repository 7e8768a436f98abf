/-! TICKS AND THE FUTURE. -/
def vTks : Nat → hgV → Int32 → hgV × Int32
  | 0, V, s => (V, s)
  | k + 1, V, s => vTks k (vTick V) (s + nI (vTickN V))
def vEmp (V : hgV) : Bool := !hgAny (fun j => decide (0 < (vQ V j).length)) 0 (vN V)
def vDrn : Nat → Nat → hgV → Int32
  | 0, i, V => if vEmp V = true then nI i else -1
  | k + 1, i, V => if vEmp V = true then nI i else vDrn k (i + 1) (vTick V)
theorem hgAny_cg {f f' : Nat → Bool} : ∀ (k i : Nat), (∀ j, i ≤ j → j < i + k → f j = f' j) → hgAny f i k = hgAny f' i k
  | 0, i, h => rfl
  | k + 1, i, h => by
    unfold hgAny
    rw [h i (Nat.le_refl i) (by omega), hgAny_cg k (i + 1) (fun j h1 h2 => h j (by omega) (by omega))]
section HGTIM
variable {X : hgX} {M M' M1 M2 : hgMem} {d t g h i j q c k a b n p N l r : Nat} {V V' V1 W U : hgV} {Hs Hs' : List hgV} {x y z x1 x2 x3 x4 x5 ans : Int32} {u : Int64} {P : Nat → Prop} {o : Option Nat} {S : Nat → Bool}
theorem vTick_N : vN (vTick V) = vN V := by
  have l1 := hgLi_bg (vN V) 0 V
  have l2 := vLine_1 (vRt V) (vRt V) (vBg 0 (vN V) V) (fun _ => false)
  have l3 := hgLi_en (S := (vLine (vRt V) (vRt V) (vBg 0 (vN V) V) (fun _ => false)).2.1) (vN V) 0 (vLine (vRt V) (vRt V) (vBg 0 (vN V) V) (fun _ => false)).1
  have e1 : vN (vTick V) = vN (vLine (vRt V) (vRt V) (vBg 0 (vN V) V) (fun _ => false)).1 := (show vN (vTick V) = vN (vEn (vLine (vRt V) (vRt V) (vBg 0 (vN V) V) (fun _ => false)).2.1 0 (vN V) (vLine (vRt V) (vRt V) (vBg 0 (vN V) V) (fun _ => false)).1) from rfl).trans (hgLi_N l3)
  have e2 : vN (vLine (vRt V) (vRt V) (vBg 0 (vN V) V) (fun _ => false)).1 = vN (vBg 0 (vN V) V) := congrArg (fun q => q.1) l2.1
  rw [e1, e2, hgLi_N l1]
theorem vTick_3 : vS (vTick V) 3 = vS V 3 + nI 1 := by
  unfold vTick
  rw [vS_ss, if_pos rfl]
theorem hgLi_B (h : hgLi V V') : vB V' = vB V := by unfold vB; rw [h.2.2]
theorem hgSub_line : ∀ (F b : Nat) (V : hgV) (S : Nat → Bool), hgSub V (vLine F b V S).1
  | 0, _, _, _ => hgSub_r
  | F + 1, b, V, S => by
    unfold vLine
    split
    · exact hgSub_r
    · next i hb =>
      obtain ⟨hi, _⟩ := vBest_lt hb
      split
      · exact hgSub_r
      · next z Q hq =>
        split
        · refine hgSub_t (V1 := vServe V i z Q) (fun a ha => Or.inr ⟨ha, ?_⟩) (hgSub_line F (b - z.1.toNatClampNeg) (vServe V i z Q) (fun j => if j = i then true else S j))
          by_cases e : a = i
          · refine ⟨1, ?_⟩
            show (if a = i then (vB V i).tail else vB V a) = _
            rw [if_pos e, e, List.drop_one]
          · refine ⟨0, ?_⟩
            show (if a = i then (vB V i).tail else vB V a) = _
            rw [if_neg e]
            rfl
        · exact hgSub_r
theorem hgSub_tick : hgSub V (vTick V) := by
  have l1 := hgLi_bg (vN V) 0 V
  have l3 := hgLi_en (S := (vLine (vRt V) (vRt V) (vBg 0 (vN V) V) (fun _ => false)).2.1) (vN V) 0 (vLine (vRt V) (vRt V) (vBg 0 (vN V) V) (fun _ => false)).1
  refine hgSub_t (hgSub_e (hgLi_N l1) (hgLi_B l1)) (hgSub_t (hgSub_line (vRt V) (vRt V) (vBg 0 (vN V) V) (fun _ => false)) (hgSub_t (hgSub_e (hgLi_N l3) (hgLi_B l3)) (hgSub_e rfl rfl)))
theorem vTks_f : ∀ (k : Nat) (V : hgV) (s : Int32), hgSub V (vTks k V s).1 ∧ vS (vTks k V s).1 3 = vS V 3 + nI k
  | 0, V, s => ⟨hgSub_r, by show vS V 3 = _; rw [show nI 0 = 0 from rfl, Int32.add_zero]⟩
  | k + 1, V, s => by
    have w := vTks_f k (vTick V) (s + nI (vTickN V))
    refine ⟨hgSub_t hgSub_tick w.1, ?_⟩
    show vS (vTks k (vTick V) (s + nI (vTickN V))).1 3 = _
    rw [w.2, vTick_3, Int32.add_assoc, hgn_add, Nat.add_comm 1 k]
theorem hgk_107l (ht : n ≤ 100) : ∀ (k i : Nat) (M : hgMem) (V : hgV) (s : Int32), i + k = n → hgWf M → hgI M 1 3 = nI c → hgVok V c → hgCV M 6 V → ∃ M', hgW X 107 64 [some (.ref 0), some (.int (nI n)), some (.int s), some (.int (nI i))] [] (1, 6) M = some (.inl (.int (vTks k V s).2), M') ∧ hgWf M' ∧ hgVok (vTks k V s).1 c ∧ hgCV M' 6 (vTks k V s).1 ∧ hgFm (hgPd 6) M M' := by
  intro k
  induction k with
  | zero =>
    intro i M V s hi hw hst hk hv
    have h1 : i < 2147483648 := by omega
    have h2 : n < 2147483648 := by omega
    have h3 : n ≤ i := by omega
    refine ⟨M, ?_, hw, hk, hv, hgFm_r⟩
    rw [hgu107_64]
    simp (maxDischargeDepth := 7) only [hgM_t, hgM_f, hgM_n, hgx_iload_n_1, hgx_iconst_1, hgx_ic_lt, hgx_bipush_100, hgx_ic_le, hgx_throw, hgx_aload_n_0, hgx_invvirtual_1, hgx_aft_e, hgx_aft_i, hgx_aft_l, hgx_aft_v, hgs_get_7_3, hgx_get0, hgx_ldc_i, hgx_isub, hgs_get_7_5, hgx_invvirtual_2, hgx_iconst_0, hgx_istore_n_2i, hgx_istore_n_2r, hgx_istore_n_2f, hgx_istore_n_2n, hgx_istore_n_2l, hgx_istore_n_3i, hgx_istore_n_3r, hgx_istore_n_3f, hgx_istore_n_3n, hgx_istore_n_3l, hgx_iload_n_3, hgx_ic_ge, hgx_iload_n_2, hgx_iadd, hgx_iinc_3_1, hgx_goto, hgx_ret1, hgv107_0, hgr107_0, hgu107_0, hgv107_11, hgr107_11, hgu107_11, hgv107_21, hgr107_21, hgu107_21, hgv107_49, hgr107_49, hgu107_49, hgv107_64, hgr107_64, hgv107_85, hgr107_85, hgu107_85, hgI_SI, hgI_SJ, hgJ_SI, hgJ_SJ, if_true, if_false, reduceIte, Nat.reduceEqDiff, hgWf_SI, hgWf_SJ, hgO_SI, hgO_SJ, hgAr_SI, hgAr_SJ, hgRp_SI, hgRp_SJ, hgN_SI, hgN_SJ, hgO_g, hgO_d, hgO_rl, hgO_r, hgO_0, hgO_1, hgO_64, hgO_298, hgO_300, hgCd_0, hgCd_1, hgCd_2, hgCd_3, hgCd_4, hgCd_5, hgRecv_O, hgRecv_99, List.length_cons, List.length_nil, Nat.zero_add, Nat.add_zero, Nat.le_refl, Nat.zero_le, and_self, or_true, true_or, true_and, and_true, ne_eq, not_false_eq_true, Nat.reduceLT, Nat.reduceLeDiff, Nat.reduceAdd, Nat.reduceEqDiff, hgn_eq, hgn_lt, hgn_le, if_true, if_false, reduceIte, Nat.not_lt_zero, hw, h1, h2, h3, vTks]
  | succ k ih =>
    intro i M V s hi hw hst hk hv
    have h1 : i < 2147483648 := by omega
    have h2 : n < 2147483648 := by omega
    have h3 : ¬ n ≤ i := by omega
    have g6 : hgGw 6 := Or.inl rfl
    obtain ⟨M1, e1, w1, k1, v1, f1⟩ := hgk_26 (X := X) hw hst hk hv
    obtain ⟨M', e, r1, r2, r3, r4⟩ := ih (i + 1) M1 (vTick V) (s + nI (vTickN V)) (by omega) w1 (by rw [(f1.2 1 (by unfold hgPd; omega) 3).1]; exact hst) k1 v1
    refine ⟨M', ?_, r1, r2, r3, hgFm_t f1 r4⟩
    rw [hgu107_64]
    simp (maxDischargeDepth := 7) only [hgM_t, hgM_f, hgM_n, hgx_iload_n_1, hgx_iconst_1, hgx_ic_lt, hgx_bipush_100, hgx_ic_le, hgx_throw, hgx_aload_n_0, hgx_invvirtual_1, hgx_aft_e, hgx_aft_i, hgx_aft_l, hgx_aft_v, hgs_get_7_3, hgx_get0, hgx_ldc_i, hgx_isub, hgs_get_7_5, hgx_invvirtual_2, hgx_iconst_0, hgx_istore_n_2i, hgx_istore_n_2r, hgx_istore_n_2f, hgx_istore_n_2n, hgx_istore_n_2l, hgx_istore_n_3i, hgx_istore_n_3r, hgx_istore_n_3f, hgx_istore_n_3n, hgx_istore_n_3l, hgx_iload_n_3, hgx_ic_ge, hgx_iload_n_2, hgx_iadd, hgx_iinc_3_1, hgx_goto, hgx_ret1, hgv107_0, hgr107_0, hgu107_0, hgv107_11, hgr107_11, hgu107_11, hgv107_21, hgr107_21, hgu107_21, hgv107_49, hgr107_49, hgu107_49, hgv107_64, hgr107_64, hgv107_85, hgr107_85, hgu107_85, hgI_SI, hgI_SJ, hgJ_SI, hgJ_SJ, if_true, if_false, reduceIte, Nat.reduceEqDiff, hgWf_SI, hgWf_SJ, hgO_SI, hgO_SJ, hgAr_SI, hgAr_SJ, hgRp_SI, hgRp_SJ, hgN_SI, hgN_SJ, hgO_g, hgO_d, hgO_rl, hgO_r, hgO_0, hgO_1, hgO_64, hgO_298, hgO_300, hgCd_0, hgCd_1, hgCd_2, hgCd_3, hgCd_4, hgCd_5, hgRecv_O, hgRecv_99, List.length_cons, List.length_nil, Nat.zero_add, Nat.add_zero, Nat.le_refl, Nat.zero_le, and_self, or_true, true_or, true_and, and_true, ne_eq, not_false_eq_true, Nat.reduceLT, Nat.reduceLeDiff, Nat.reduceAdd, Nat.reduceEqDiff, hgn_eq, hgn_lt, hgn_le, if_true, if_false, reduceIte, Nat.not_lt_zero, hgn_add, hgn_mul, hw, g6, h1, h2, h3, e1]
    exact e
theorem hgk_194l (ht : n ≤ 100) : ∀ (k i : Nat) (M : hgMem) (V : hgV) (s : Int32), i + k = n → hgWf M → hgVok V c → hgRV M 302 314 V → ∃ M', hgW X 194 74 [some (.ref 300), some (.int (nI n)), some (.int s), some (.int (nI i))] [] (0, 0) M = some (.inl (.int (vTks k V s).2), M') ∧ hgWf M' ∧ hgRV M' 302 314 (vTks k V s).1 ∧ hgFm (fun b => b = 302 ∨ b = 314) M M' := by
  intro k
  induction k with
  | zero =>
    intro i M V s hi hw hk hv
    have h1 : i < 2147483648 := by omega
    have h2 : n < 2147483648 := by omega
    have h3 : n ≤ i := by omega
    refine ⟨M, ?_, hw, hv, hgFm_r⟩
    rw [hgu194_74]
    simp (maxDischargeDepth := 7) only [hgM_t, hgM_f, hgM_n, hgx_aload_n_0, hgx_iconst_0, hgx_put0, hgx_iload_n_1, hgx_iconst_1, hgx_bipush_100, hgx_invstatic_3, hgx_aft_e, hgx_aft_i, hgx_aft_l, hgx_aft_v, hgx_if_ne, hgx_goto, hgx_invvirtual_3, hgs_get_8_8, hgx_iconst_4, hgx_if_eq, hgx_iconst_3, hgx_iadd, hgx_ldc_w, hgx_ic_le, hgx_iconst_2, hgx_ret1, hgx_invvirtual_1, hgx_istore_n_2i, hgx_istore_n_2r, hgx_istore_n_2f, hgx_istore_n_2n, hgx_istore_n_2l, hgx_istore_n_3i, hgx_istore_n_3r, hgx_istore_n_3f, hgx_istore_n_3n, hgx_istore_n_3l, hgx_iload_n_3, hgx_ic_ge, hgx_iload_n_2, hgs_get_8_12, hgx_invstatic_2, hgx_iinc_3_1, hgv194_0, hgr194_0, hgu194_0, hgv194_20, hgr194_20, hgu194_20, hgv194_21, hgr194_21, hgu194_21, hgv194_52, hgr194_52, hgu194_52, hgv194_56, hgr194_56, hgu194_56, hgv194_57, hgr194_57, hgu194_57, hgv194_64, hgr194_64, hgu194_64, hgv194_66, hgr194_66, hgu194_66, hgv194_74, hgr194_74, hgv194_99, hgr194_99, hgu194_99, hgI_SI, hgI_SJ, hgJ_SI, hgJ_SJ, if_true, if_false, reduceIte, Nat.reduceEqDiff, hgWf_SI, hgWf_SJ, hgO_SI, hgO_SJ, hgAr_SI, hgAr_SJ, hgRp_SI, hgRp_SJ, hgN_SI, hgN_SJ, hgO_g, hgO_d, hgO_rl, hgO_r, hgO_0, hgO_1, hgO_64, hgO_298, hgO_300, hgCd_0, hgCd_1, hgCd_2, hgCd_3, hgCd_4, hgCd_5, hgRecv_O, hgRecv_99, List.length_cons, List.length_nil, Nat.zero_add, Nat.add_zero, Nat.le_refl, Nat.zero_le, and_self, or_true, true_or, true_and, and_true, ne_eq, not_false_eq_true, Nat.reduceLT, Nat.reduceLeDiff, Nat.reduceAdd, Nat.reduceEqDiff, hgn_eq, hgn_lt, hgn_le, if_true, if_false, reduceIte, Nat.not_lt_zero, hw, h1, h2, h3, vTks]
  | succ k ih =>
    intro i M V s hi hw hk hv
    have h1 : i < 2147483648 := by omega
    have h2 : n < 2147483648 := by omega
    have h3 : ¬ n ≤ i := by omega
    obtain ⟨M1, e1, w1, v1, f1⟩ := hgk_164 (X := X) hw hk hv
    have k1 : hgVok (vTick V) c := hgVok_s (hgVok_en _ _ _ (hgVok_line _ _ _ _ (hgVok_bg _ _ _ hk))) (by omega)
    obtain ⟨M', e, r1, r2, r3⟩ := ih (i + 1) M1 (vTick V) (s + nI (vTickN V)) (by omega) w1 k1 v1
    refine ⟨M', ?_, r1, r2, hgFm_t f1 r3⟩
    rw [hgu194_74]
    simp (maxDischargeDepth := 7) only [hgM_t, hgM_f, hgM_n, hgx_aload_n_0, hgx_iconst_0, hgx_put0, hgx_iload_n_1, hgx_iconst_1, hgx_bipush_100, hgx_invstatic_3, hgx_aft_e, hgx_aft_i, hgx_aft_l, hgx_aft_v, hgx_if_ne, hgx_goto, hgx_invvirtual_3, hgs_get_8_8, hgx_iconst_4, hgx_if_eq, hgx_iconst_3, hgx_iadd, hgx_ldc_w, hgx_ic_le, hgx_iconst_2, hgx_ret1, hgx_invvirtual_1, hgx_istore_n_2i, hgx_istore_n_2r, hgx_istore_n_2f, hgx_istore_n_2n, hgx_istore_n_2l, hgx_istore_n_3i, hgx_istore_n_3r, hgx_istore_n_3f, hgx_istore_n_3n, hgx_istore_n_3l, hgx_iload_n_3, hgx_ic_ge, hgx_iload_n_2, hgs_get_8_12, hgx_invstatic_2, hgx_iinc_3_1, hgv194_0, hgr194_0, hgu194_0, hgv194_20, hgr194_20, hgu194_20, hgv194_21, hgr194_21, hgu194_21, hgv194_52, hgr194_52, hgu194_52, hgv194_56, hgr194_56, hgu194_56, hgv194_57, hgr194_57, hgu194_57, hgv194_64, hgr194_64, hgu194_64, hgv194_66, hgr194_66, hgu194_66, hgv194_74, hgr194_74, hgv194_99, hgr194_99, hgu194_99, hgI_SI, hgI_SJ, hgJ_SI, hgJ_SJ, if_true, if_false, reduceIte, Nat.reduceEqDiff, hgWf_SI, hgWf_SJ, hgO_SI, hgO_SJ, hgAr_SI, hgAr_SJ, hgRp_SI, hgRp_SJ, hgN_SI, hgN_SJ, hgO_g, hgO_d, hgO_rl, hgO_r, hgO_0, hgO_1, hgO_64, hgO_298, hgO_300, hgCd_0, hgCd_1, hgCd_2, hgCd_3, hgCd_4, hgCd_5, hgRecv_O, hgRecv_99, List.length_cons, List.length_nil, Nat.zero_add, Nat.add_zero, Nat.le_refl, Nat.zero_le, and_self, or_true, true_or, true_and, and_true, ne_eq, not_false_eq_true, Nat.reduceLT, Nat.reduceLeDiff, Nat.reduceAdd, Nat.reduceEqDiff, hgn_eq, hgn_lt, hgn_le, if_true, if_false, reduceIte, Nat.not_lt_zero, hgn_add, hgn_mul, hw, h1, h2, h3, e1]
    exact e
theorem hgOp_220 (h : hgInv M N) : hgBi X 220 [.ref 0, .int x, .ref 325] 194 [.ref 300, .int x] M N := by
  obtain ⟨V, Hs, c, hc, hC, hR, hH, hb⟩ := h
  obtain ⟨hw, g6, hn, hN, _, _⟩ := hgSC_6 hC
  have h2 : hgSM (hgSI M 300 0 (nI 0)) V Hs c := hgSM_0 hR
  have k9 := hgk_124b (X := X) (M := hgSI M 300 0 (nI 0)) (y := nI 1) hw hgI_at hgn10
  by_cases hx : 1 ≤ x.toInt ∧ x.toInt ≤ 100
  · obtain ⟨n, n1, rfl⟩ := (hgin_i (x := x) (n := 101) (by omega)).mpr ⟨by omega, by omega⟩
    have en := hgn_int (a := n) (by omega)
    have x1 : ¬ n < 1 := by omega
    have x2 : n ≤ 100 := by omega
    have x3 : n < 2147483648 := by omega
    have bt : hgBtw (nI n) (nI 1) (nI 100) = true := by rw [hgBtw_i, hgn_int (a := 1) (by omega), hgn_int (a := 100) (by omega), en, decide_eq_true_iff]; omega
    obtain ⟨ck, ck1, ck2⟩ := (hgHi_3 hH).2.2
    have e12 : hgI M 6 12 = nI ck := hC.2.2.1.2.2.2.2.1.trans ck2
    have k8 := hgk_124a (X := X) (M := hgSI M 300 0 (nI 0)) (y := nI 1) hw hgI_at
    have k7 := hgk_124b (X := X) (M := hgSI M 300 0 (nI 0)) (y := nI 2) hw hgI_at hgn20
    have r4 := h2.2.1.2.2.2.2.2.2.1 4 (by omega) (by omega)
    have r3 := (h2.2.1.2.2.2.2.2.2.1 3 (by omega) (by omega)).trans ck2
    by_cases hz : vS V 4 = nI 0
    · have kc : hgWC X 107 [.ref 0, .int (nI n)] M = some (.inr 1, M) := by
        have k := hgk_121b (X := X) hC hz
        simp (maxDischargeDepth := 7) only [hgc107, hgM_t, hgM_f, hgM_n, hgx_iload_n_1, hgx_iconst_1, hgx_ic_lt, hgx_bipush_100, hgx_ic_le, hgx_throw, hgx_aload_n_0, hgx_invvirtual_1, hgx_aft_e, hgx_aft_i, hgx_aft_l, hgx_aft_v, hgs_get_7_3, hgx_get0, hgx_ldc_i, hgx_isub, hgs_get_7_5, hgx_invvirtual_2, hgx_iconst_0, hgx_istore_n_2i, hgx_istore_n_2r, hgx_istore_n_2f, hgx_istore_n_2n, hgx_istore_n_2l, hgx_istore_n_3i, hgx_istore_n_3r, hgx_istore_n_3f, hgx_istore_n_3n, hgx_istore_n_3l, hgx_iload_n_3, hgx_ic_ge, hgx_iload_n_2, hgx_iadd, hgx_iinc_3_1, hgx_goto, hgx_ret1, hgv107_0, hgr107_0, hgu107_0, hgv107_11, hgr107_11, hgu107_11, hgv107_21, hgr107_21, hgu107_21, hgv107_49, hgr107_49, hgu107_49, hgv107_64, ← hgu107_64, hgv107_85, hgr107_85, hgu107_85, hgI_SI, hgI_SJ, hgJ_SI, hgJ_SJ, if_true, if_false, reduceIte, Nat.reduceEqDiff, hgWf_SI, hgWf_SJ, hgO_SI, hgO_SJ, hgAr_SI, hgAr_SJ, hgRp_SI, hgRp_SJ, hgN_SI, hgN_SJ, hgO_g, hgO_d, hgO_rl, hgO_r, hgO_0, hgO_1, hgO_64, hgO_298, hgO_300, hgCd_0, hgCd_1, hgCd_2, hgCd_3, hgCd_4, hgCd_5, hgRecv_O, hgRecv_99, List.length_cons, List.length_nil, Nat.zero_add, Nat.add_zero, Nat.le_refl, Nat.zero_le, and_self, or_true, true_or, true_and, and_true, ne_eq, not_false_eq_true, Nat.reduceLT, Nat.reduceLeDiff, Nat.reduceAdd, Nat.reduceEqDiff, hgn_eq, hgn_lt, hgn_le, if_true, if_false, reduceIte, Nat.not_lt_zero, hw, x1, x2, x3, k]
      refine hgBi_no hb hgn20 (hgL_220_1 hw kc) ⟨nI 0, ?_⟩ hC hR hH (by omega)
      simp (maxDischargeDepth := 7) only [hgc194, hgM_t, hgM_f, hgM_n, hgx_aload_n_0, hgx_iconst_0, hgx_put0, hgx_iload_n_1, hgx_iconst_1, hgx_bipush_100, hgx_invstatic_3, hgx_aft_e, hgx_aft_i, hgx_aft_l, hgx_aft_v, hgx_if_ne, hgx_goto, hgx_invvirtual_3, hgs_get_8_8, hgx_iconst_4, hgx_if_eq, hgx_iconst_3, hgx_iadd, hgx_ldc_w, hgx_ic_le, hgx_iconst_2, hgx_ret1, hgx_invvirtual_1, hgx_istore_n_2i, hgx_istore_n_2r, hgx_istore_n_2f, hgx_istore_n_2n, hgx_istore_n_2l, hgx_istore_n_3i, hgx_istore_n_3r, hgx_istore_n_3f, hgx_istore_n_3n, hgx_istore_n_3l, hgx_iload_n_3, hgx_ic_ge, hgx_iload_n_2, hgs_get_8_12, hgx_invstatic_2, hgx_iinc_3_1, hgv194_0, hgr194_0, hgu194_0, hgv194_20, hgr194_20, hgu194_20, hgv194_21, hgr194_21, hgu194_21, hgv194_52, hgr194_52, hgu194_52, hgv194_56, hgr194_56, hgu194_56, hgv194_57, hgr194_57, hgu194_57, hgv194_64, hgr194_64, hgu194_64, hgv194_66, hgr194_66, hgu194_66, hgv194_74, ← hgu194_74, hgv194_99, hgr194_99, hgu194_99, hgs_aa_d, hgs_aa_r, hgs_aa_h, hgs_aa_m, hgs_aa_t, hgs_ld_wp, hgs_st_wp, hgs_ld_qf, hgs_st_qf, hgs_ld_qt, hgs_st_qt, hgs_ld_2, hgs_st_2, hgs_ld_3, hgs_st_3, hgs_ld_4, hgs_st_4, hgs_ld_301, hgs_st_301, hgs_ld_D, hgs_st_D, hgs_ld_s, hgs_ld_T, hgs_st_T, hgs_ld_o, hgs_st_o, hgs_ld_b, hgs_st_b, hgs_ld_z, hgs_st_z, hgs_al_b, hgx_alen_s, hgWf_SI, hgWf_SJ, hgO_SI, hgO_SJ, hgAr_SI, hgAr_SJ, hgRp_SI, hgRp_SJ, hgN_SI, hgN_SJ, hgO_g, hgO_d, hgO_rl, hgO_r, hgO_0, hgO_1, hgO_64, hgO_298, hgO_300, hgCd_0, hgCd_1, hgCd_2, hgCd_3, hgCd_4, hgCd_5, hgRecv_O, hgRecv_99, List.length_cons, List.length_nil, Nat.zero_add, Nat.add_zero, Nat.le_refl, Nat.zero_le, and_self, or_true, true_or, true_and, and_true, ne_eq, not_false_eq_true, Nat.reduceLT, Nat.reduceLeDiff, Nat.reduceAdd, Nat.reduceEqDiff, hgn_eq, hgn_lt, hgn_le, if_true, if_false, reduceIte, Nat.not_lt_zero, hw, hgAr_302 hw, hgk_125, bt, hgB_t, k8, r4, hz, k7]
    · have k := hgk_121a (X := X) hC hz
      have c1 : ck < 2147483648 := by omega
      have c2 : 100000 - n < 2147483648 := by omega
      have c3 : n ≤ 100000 := by omega
      have c4 : ck + n < 2147483648 := by omega
      by_cases hck : ck + n ≤ 100000
      · have c5 : ck ≤ 100000 - n := by omega
        obtain ⟨M1, e1, h1, f1⟩ := hgk_32 (X := X) hC
        obtain ⟨M2, e2, w2, k2, v2, f2⟩ := hgk_107l (X := X) x2 n 0 M1 V (nI 0) (by omega) h1.1 h1.2.1 h1.2.2.2.2.1 h1.2.2.1
        have kc : hgWC X 107 [.ref 0, .int (nI n)] M = some (.inl (.int (vTks n V (nI 0)).2), M2) := by
          simp (maxDischargeDepth := 7) only [hgc107, hgM_t, hgM_f, hgM_n, hgx_iload_n_1, hgx_iconst_1, hgx_ic_lt, hgx_bipush_100, hgx_ic_le, hgx_throw, hgx_aload_n_0, hgx_invvirtual_1, hgx_aft_e, hgx_aft_i, hgx_aft_l, hgx_aft_v, hgs_get_7_3, hgx_get0, hgx_ldc_i, hgx_isub, hgs_get_7_5, hgx_invvirtual_2, hgx_iconst_0, hgx_istore_n_2i, hgx_istore_n_2r, hgx_istore_n_2f, hgx_istore_n_2n, hgx_istore_n_2l, hgx_istore_n_3i, hgx_istore_n_3r, hgx_istore_n_3f, hgx_istore_n_3n, hgx_istore_n_3l, hgx_iload_n_3, hgx_ic_ge, hgx_iload_n_2, hgx_iadd, hgx_iinc_3_1, hgx_goto, hgx_ret1, hgv107_0, hgr107_0, hgu107_0, hgv107_11, hgr107_11, hgu107_11, hgv107_21, hgr107_21, hgu107_21, hgv107_49, hgr107_49, hgu107_49, hgv107_64, ← hgu107_64, hgv107_85, hgr107_85, hgu107_85, hgI_SI, hgI_SJ, hgJ_SI, hgJ_SJ, if_true, if_false, reduceIte, Nat.reduceEqDiff, hgWf_SI, hgWf_SJ, hgO_SI, hgO_SJ, hgAr_SI, hgAr_SJ, hgRp_SI, hgRp_SJ, hgN_SI, hgN_SJ, hgO_g, hgO_d, hgO_rl, hgO_r, hgO_0, hgO_1, hgO_64, hgO_298, hgO_300, hgCd_0, hgCd_1, hgCd_2, hgCd_3, hgCd_4, hgCd_5, hgRecv_O, hgRecv_99, List.length_cons, List.length_nil, Nat.zero_add, Nat.add_zero, Nat.le_refl, Nat.zero_le, and_self, or_true, true_or, true_and, and_true, ne_eq, not_false_eq_true, Nat.reduceLT, Nat.reduceLeDiff, Nat.reduceAdd, Nat.reduceEqDiff, hgn_eq, hgn_lt, hgn_le, if_true, if_false, reduceIte, Nat.not_lt_zero, hw, g6, x1, x2, x3, k, e12, hgn_sub, c1, c2, c3, c5, e1]
          exact e2
        have tf := vTks_f n V (nI 0)
        have hC2 : hgSC M2 (vTks n V (nI 0)).1 ((V :: Hs).take 8) c := hgSC_cur h1 f2 (fun b hb => by unfold hgPd at hb; omega) w2 v2 k2
        have fC : hgFC M M2 := hgFC_t (hgFC_32 f1) (hgFC_m f2 (fun b hb => by unfold hgPd at hb; omega))
        refine hgBi_ok hb (hgL_220 hw w2 kc) hC2 fC ?_ (hgHi_sub hH tf.1 ⟨ck + n, hck, by rw [tf.2, ck2, hgn_add]⟩) (by omega)
        have hR1 : hgSM (hgSJ M2 325 0 (vTks n V (nI 0)).2.toInt64) V Hs c := hgSM_o (hgSM_C fC w2 hR)
        obtain ⟨Mo, hMo⟩ : ∃ Mo, Mo = hgSJ M2 325 0 (vTks n V (nI 0)).2.toInt64 := ⟨_, rfl⟩
        rw [← hMo] at hR1 ⊢
        have h3 : hgSM (hgSI Mo 300 0 (nI 0)) V Hs c := hgSM_0 hR1
        have wo := hR1.1
        have j8 := hgk_124a (X := X) (M := hgSI Mo 300 0 (nI 0)) (y := nI 1) wo hgI_at
        have j7 := hgk_124a (X := X) (M := hgSI Mo 300 0 (nI 0)) (y := nI 2) wo hgI_at
        have s4 := h3.2.1.2.2.2.2.2.2.1 4 (by omega) (by omega)
        have s3 := (h3.2.1.2.2.2.2.2.2.1 3 (by omega) (by omega)).trans ck2
        obtain ⟨M3, e3, h4, f3, w3, o3⟩ := hgSM_rem (X := X) h3 hgI_at
        obtain ⟨M4, e4, w4, v4, f4⟩ := hgk_194l (X := X) x2 n 0 M3 V (nI 0) (by omega) w3 h4.2.2.2.1 h4.2.1
        refine ⟨M4, ?_, hgSM_cur h4 f4 (fun b hb => hb) w4 v4 k2, hgFR_t (hgFR_t hgFR_0 f3) (hgFR_m f4 (fun b hb => by omega)), by rw [(f4.2 300 (by omega) 0).1]; exact o3⟩
        simp (maxDischargeDepth := 7) only [hgc194, hgM_t, hgM_f, hgM_n, hgx_aload_n_0, hgx_iconst_0, hgx_put0, hgx_iload_n_1, hgx_iconst_1, hgx_bipush_100, hgx_invstatic_3, hgx_aft_e, hgx_aft_i, hgx_aft_l, hgx_aft_v, hgx_if_ne, hgx_goto, hgx_invvirtual_3, hgs_get_8_8, hgx_iconst_4, hgx_if_eq, hgx_iconst_3, hgx_iadd, hgx_ldc_w, hgx_ic_le, hgx_iconst_2, hgx_ret1, hgx_invvirtual_1, hgx_istore_n_2i, hgx_istore_n_2r, hgx_istore_n_2f, hgx_istore_n_2n, hgx_istore_n_2l, hgx_istore_n_3i, hgx_istore_n_3r, hgx_istore_n_3f, hgx_istore_n_3n, hgx_istore_n_3l, hgx_iload_n_3, hgx_ic_ge, hgx_iload_n_2, hgs_get_8_12, hgx_invstatic_2, hgx_iinc_3_1, hgv194_0, hgr194_0, hgu194_0, hgv194_20, hgr194_20, hgu194_20, hgv194_21, hgr194_21, hgu194_21, hgv194_52, hgr194_52, hgu194_52, hgv194_56, hgr194_56, hgu194_56, hgv194_57, hgr194_57, hgu194_57, hgv194_64, hgr194_64, hgu194_64, hgv194_66, hgr194_66, hgu194_66, hgv194_74, ← hgu194_74, hgv194_99, hgr194_99, hgu194_99, hgs_aa_d, hgs_aa_r, hgs_aa_h, hgs_aa_m, hgs_aa_t, hgs_ld_wp, hgs_st_wp, hgs_ld_qf, hgs_st_qf, hgs_ld_qt, hgs_st_qt, hgs_ld_2, hgs_st_2, hgs_ld_3, hgs_st_3, hgs_ld_4, hgs_st_4, hgs_ld_301, hgs_st_301, hgs_ld_D, hgs_st_D, hgs_ld_s, hgs_ld_T, hgs_st_T, hgs_ld_o, hgs_st_o, hgs_ld_b, hgs_st_b, hgs_ld_z, hgs_st_z, hgs_al_b, hgx_alen_s, hgWf_SI, hgWf_SJ, hgO_SI, hgO_SJ, hgAr_SI, hgAr_SJ, hgRp_SI, hgRp_SJ, hgN_SI, hgN_SJ, hgO_g, hgO_d, hgO_rl, hgO_r, hgO_0, hgO_1, hgO_64, hgO_298, hgO_300, hgCd_0, hgCd_1, hgCd_2, hgCd_3, hgCd_4, hgCd_5, hgRecv_O, hgRecv_99, List.length_cons, List.length_nil, Nat.zero_add, Nat.add_zero, Nat.le_refl, Nat.zero_le, and_self, or_true, true_or, true_and, and_true, ne_eq, not_false_eq_true, Nat.reduceLT, Nat.reduceLeDiff, Nat.reduceAdd, Nat.reduceEqDiff, hgn_eq, hgn_lt, hgn_le, if_true, if_false, reduceIte, Nat.not_lt_zero, hgn_add, hgn_mul, wo, hgAr_302 wo, hgk_125, bt, hgB_t, j8, s4, hz, s3, hck, c4, j7, e3]
        exact e4
      · have c5 : ¬ ck ≤ 100000 - n := by omega
        have kc : hgWC X 107 [.ref 0, .int (nI n)] M = some (.inr 1, M) := by
          simp (maxDischargeDepth := 7) only [hgc107, hgM_t, hgM_f, hgM_n, hgx_iload_n_1, hgx_iconst_1, hgx_ic_lt, hgx_bipush_100, hgx_ic_le, hgx_throw, hgx_aload_n_0, hgx_invvirtual_1, hgx_aft_e, hgx_aft_i, hgx_aft_l, hgx_aft_v, hgs_get_7_3, hgx_get0, hgx_ldc_i, hgx_isub, hgs_get_7_5, hgx_invvirtual_2, hgx_iconst_0, hgx_istore_n_2i, hgx_istore_n_2r, hgx_istore_n_2f, hgx_istore_n_2n, hgx_istore_n_2l, hgx_istore_n_3i, hgx_istore_n_3r, hgx_istore_n_3f, hgx_istore_n_3n, hgx_istore_n_3l, hgx_iload_n_3, hgx_ic_ge, hgx_iload_n_2, hgx_iadd, hgx_iinc_3_1, hgx_goto, hgx_ret1, hgv107_0, hgr107_0, hgu107_0, hgv107_11, hgr107_11, hgu107_11, hgv107_21, hgr107_21, hgu107_21, hgv107_49, hgr107_49, hgu107_49, hgv107_64, ← hgu107_64, hgv107_85, hgr107_85, hgu107_85, hgx_throw, hgI_SI, hgI_SJ, hgJ_SI, hgJ_SJ, if_true, if_false, reduceIte, Nat.reduceEqDiff, hgWf_SI, hgWf_SJ, hgO_SI, hgO_SJ, hgAr_SI, hgAr_SJ, hgRp_SI, hgRp_SJ, hgN_SI, hgN_SJ, hgO_g, hgO_d, hgO_rl, hgO_r, hgO_0, hgO_1, hgO_64, hgO_298, hgO_300, hgCd_0, hgCd_1, hgCd_2, hgCd_3, hgCd_4, hgCd_5, hgRecv_O, hgRecv_99, List.length_cons, List.length_nil, Nat.zero_add, Nat.add_zero, Nat.le_refl, Nat.zero_le, and_self, or_true, true_or, true_and, and_true, ne_eq, not_false_eq_true, Nat.reduceLT, Nat.reduceLeDiff, Nat.reduceAdd, Nat.reduceEqDiff, hgn_eq, hgn_lt, hgn_le, if_true, if_false, reduceIte, Nat.not_lt_zero, hw, g6, x1, x2, x3, k, e12, hgn_sub, c1, c2, c3, c5]
        refine hgBi_no hb hgn20 (hgL_220_1 hw kc) ⟨nI 0, ?_⟩ hC hR hH (by omega)
        simp (maxDischargeDepth := 7) only [hgc194, hgM_t, hgM_f, hgM_n, hgx_aload_n_0, hgx_iconst_0, hgx_put0, hgx_iload_n_1, hgx_iconst_1, hgx_bipush_100, hgx_invstatic_3, hgx_aft_e, hgx_aft_i, hgx_aft_l, hgx_aft_v, hgx_if_ne, hgx_goto, hgx_invvirtual_3, hgs_get_8_8, hgx_iconst_4, hgx_if_eq, hgx_iconst_3, hgx_iadd, hgx_ldc_w, hgx_ic_le, hgx_iconst_2, hgx_ret1, hgx_invvirtual_1, hgx_istore_n_2i, hgx_istore_n_2r, hgx_istore_n_2f, hgx_istore_n_2n, hgx_istore_n_2l, hgx_istore_n_3i, hgx_istore_n_3r, hgx_istore_n_3f, hgx_istore_n_3n, hgx_istore_n_3l, hgx_iload_n_3, hgx_ic_ge, hgx_iload_n_2, hgs_get_8_12, hgx_invstatic_2, hgx_iinc_3_1, hgv194_0, hgr194_0, hgu194_0, hgv194_20, hgr194_20, hgu194_20, hgv194_21, hgr194_21, hgu194_21, hgv194_52, hgr194_52, hgu194_52, hgv194_56, hgr194_56, hgu194_56, hgv194_57, hgr194_57, hgu194_57, hgv194_64, hgr194_64, hgu194_64, hgv194_66, hgr194_66, hgu194_66, hgv194_74, ← hgu194_74, hgv194_99, hgr194_99, hgu194_99, hgs_aa_d, hgs_aa_r, hgs_aa_h, hgs_aa_m, hgs_aa_t, hgs_ld_wp, hgs_st_wp, hgs_ld_qf, hgs_st_qf, hgs_ld_qt, hgs_st_qt, hgs_ld_2, hgs_st_2, hgs_ld_3, hgs_st_3, hgs_ld_4, hgs_st_4, hgs_ld_301, hgs_st_301, hgs_ld_D, hgs_st_D, hgs_ld_s, hgs_ld_T, hgs_st_T, hgs_ld_o, hgs_st_o, hgs_ld_b, hgs_st_b, hgs_ld_z, hgs_st_z, hgs_al_b, hgx_alen_s, hgWf_SI, hgWf_SJ, hgO_SI, hgO_SJ, hgAr_SI, hgAr_SJ, hgRp_SI, hgRp_SJ, hgN_SI, hgN_SJ, hgO_g, hgO_d, hgO_rl, hgO_r, hgO_0, hgO_1, hgO_64, hgO_298, hgO_300, hgCd_0, hgCd_1, hgCd_2, hgCd_3, hgCd_4, hgCd_5, hgRecv_O, hgRecv_99, List.length_cons, List.length_nil, Nat.zero_add, Nat.add_zero, Nat.le_refl, Nat.zero_le, and_self, or_true, true_or, true_and, and_true, ne_eq, not_false_eq_true, Nat.reduceLT, Nat.reduceLeDiff, Nat.reduceAdd, Nat.reduceEqDiff, hgn_eq, hgn_lt, hgn_le, if_true, if_false, reduceIte, Nat.not_lt_zero, hgn_add, hgn_mul, hw, hgAr_302 hw, hgk_125, bt, hgB_t, k8, r4, hz, r3, hck, c4, k7]
  · have bt : hgBtw x (nI 1) (nI 100) = false := by rw [hgBtw_i, hgn_int (by omega), hgn_int (by omega), decide_eq_false_iff_not]; omega
    have kc : hgWC X 107 [.ref 0, .int x] M = some (.inr 0, M) := by
      by_cases q : x < nI 1
      · simp (maxDischargeDepth := 7) only [hgc107, hgM_t, hgM_f, hgM_n, hgx_iload_n_1, hgx_iconst_1, hgx_ic_lt, hgx_bipush_100, hgx_ic_le, hgx_throw, hgx_aload_n_0, hgx_invvirtual_1, hgx_aft_e, hgx_aft_i, hgx_aft_l, hgx_aft_v, hgs_get_7_3, hgx_get0, hgx_ldc_i, hgx_isub, hgs_get_7_5, hgx_invvirtual_2, hgx_iconst_0, hgx_istore_n_2i, hgx_istore_n_2r, hgx_istore_n_2f, hgx_istore_n_2n, hgx_istore_n_2l, hgx_istore_n_3i, hgx_istore_n_3r, hgx_istore_n_3f, hgx_istore_n_3n, hgx_istore_n_3l, hgx_iload_n_3, hgx_ic_ge, hgx_iload_n_2, hgx_iadd, hgx_iinc_3_1, hgx_goto, hgx_ret1, hgv107_0, hgr107_0, hgu107_0, hgv107_11, hgr107_11, hgu107_11, hgv107_21, hgr107_21, hgu107_21, hgv107_49, hgr107_49, hgu107_49, hgv107_64, ← hgu107_64, hgv107_85, hgr107_85, hgu107_85, hgx_throw, hgI_SI, hgI_SJ, hgJ_SI, hgJ_SJ, if_true, if_false, reduceIte, Nat.reduceEqDiff, hgWf_SI, hgWf_SJ, hgO_SI, hgO_SJ, hgAr_SI, hgAr_SJ, hgRp_SI, hgRp_SJ, hgN_SI, hgN_SJ, hgO_g, hgO_d, hgO_rl, hgO_r, hgO_0, hgO_1, hgO_64, hgO_298, hgO_300, hgCd_0, hgCd_1, hgCd_2, hgCd_3, hgCd_4, hgCd_5, hgRecv_O, hgRecv_99, List.length_cons, List.length_nil, Nat.zero_add, Nat.add_zero, Nat.le_refl, Nat.zero_le, and_self, or_true, true_or, true_and, and_true, ne_eq, not_false_eq_true, Nat.reduceLT, Nat.reduceLeDiff, Nat.reduceAdd, Nat.reduceEqDiff, hgn_eq, hgn_lt, hgn_le, if_true, if_false, reduceIte, Nat.not_lt_zero, hw, q]
      · have q2 : ¬ x ≤ nI 100 := by
          rw [hglt_i, hgn_int (by omega)] at q
          rw [hgle_i, hgn_int (by omega)]
          omega
        simp (maxDischargeDepth := 7) only [hgc107, hgM_t, hgM_f, hgM_n, hgx_iload_n_1, hgx_iconst_1, hgx_ic_lt, hgx_bipush_100, hgx_ic_le, hgx_throw, hgx_aload_n_0, hgx_invvirtual_1, hgx_aft_e, hgx_aft_i, hgx_aft_l, hgx_aft_v, hgs_get_7_3, hgx_get0, hgx_ldc_i, hgx_isub, hgs_get_7_5, hgx_invvirtual_2, hgx_iconst_0, hgx_istore_n_2i, hgx_istore_n_2r, hgx_istore_n_2f, hgx_istore_n_2n, hgx_istore_n_2l, hgx_istore_n_3i, hgx_istore_n_3r, hgx_istore_n_3f, hgx_istore_n_3n, hgx_istore_n_3l, hgx_iload_n_3, hgx_ic_ge, hgx_iload_n_2, hgx_iadd, hgx_iinc_3_1, hgx_goto, hgx_ret1, hgv107_0, hgr107_0, hgu107_0, hgv107_11, hgr107_11, hgu107_11, hgv107_21, hgr107_21, hgu107_21, hgv107_49, hgr107_49, hgu107_49, hgv107_64, ← hgu107_64, hgv107_85, hgr107_85, hgu107_85, hgx_throw, hgI_SI, hgI_SJ, hgJ_SI, hgJ_SJ, if_true, if_false, reduceIte, Nat.reduceEqDiff, hgWf_SI, hgWf_SJ, hgO_SI, hgO_SJ, hgAr_SI, hgAr_SJ, hgRp_SI, hgRp_SJ, hgN_SI, hgN_SJ, hgO_g, hgO_d, hgO_rl, hgO_r, hgO_0, hgO_1, hgO_64, hgO_298, hgO_300, hgCd_0, hgCd_1, hgCd_2, hgCd_3, hgCd_4, hgCd_5, hgRecv_O, hgRecv_99, List.length_cons, List.length_nil, Nat.zero_add, Nat.add_zero, Nat.le_refl, Nat.zero_le, and_self, or_true, true_or, true_and, and_true, ne_eq, not_false_eq_true, Nat.reduceLT, Nat.reduceLeDiff, Nat.reduceAdd, Nat.reduceEqDiff, hgn_eq, hgn_lt, hgn_le, if_true, if_false, reduceIte, Nat.not_lt_zero, hw, q, q2]
    refine hgBi_no hb hgn10 (hgL_220_0 hw kc) ⟨nI 0, ?_⟩ hC hR hH (by omega)
    simp (maxDischargeDepth := 7) only [hgc194, hgM_t, hgM_f, hgM_n, hgx_aload_n_0, hgx_iconst_0, hgx_put0, hgx_iload_n_1, hgx_iconst_1, hgx_bipush_100, hgx_invstatic_3, hgx_aft_e, hgx_aft_i, hgx_aft_l, hgx_aft_v, hgx_if_ne, hgx_goto, hgx_invvirtual_3, hgs_get_8_8, hgx_iconst_4, hgx_if_eq, hgx_iconst_3, hgx_iadd, hgx_ldc_w, hgx_ic_le, hgx_iconst_2, hgx_ret1, hgx_invvirtual_1, hgx_istore_n_2i, hgx_istore_n_2r, hgx_istore_n_2f, hgx_istore_n_2n, hgx_istore_n_2l, hgx_istore_n_3i, hgx_istore_n_3r, hgx_istore_n_3f, hgx_istore_n_3n, hgx_istore_n_3l, hgx_iload_n_3, hgx_ic_ge, hgx_iload_n_2, hgs_get_8_12, hgx_invstatic_2, hgx_iinc_3_1, hgv194_0, hgr194_0, hgu194_0, hgv194_20, hgr194_20, hgu194_20, hgv194_21, hgr194_21, hgu194_21, hgv194_52, hgr194_52, hgu194_52, hgv194_56, hgr194_56, hgu194_56, hgv194_57, hgr194_57, hgu194_57, hgv194_64, hgr194_64, hgu194_64, hgv194_66, hgr194_66, hgu194_66, hgv194_74, ← hgu194_74, hgv194_99, hgr194_99, hgu194_99, hgWf_SI, hgWf_SJ, hgO_SI, hgO_SJ, hgAr_SI, hgAr_SJ, hgRp_SI, hgRp_SJ, hgN_SI, hgN_SJ, hgO_g, hgO_d, hgO_rl, hgO_r, hgO_0, hgO_1, hgO_64, hgO_298, hgO_300, hgCd_0, hgCd_1, hgCd_2, hgCd_3, hgCd_4, hgCd_5, hgRecv_O, hgRecv_99, List.length_cons, List.length_nil, Nat.zero_add, Nat.add_zero, Nat.le_refl, Nat.zero_le, and_self, or_true, true_or, true_and, and_true, ne_eq, not_false_eq_true, Nat.reduceLT, Nat.reduceLeDiff, Nat.reduceAdd, Nat.reduceEqDiff, hgn_eq, hgn_lt, hgn_le, if_true, if_false, reduceIte, Nat.not_lt_zero, hw, hgk_125, bt, hgB_f, k9]
/-- is all delivered -/
theorem hgCV_25 (hw : hgWf M) (hm : hgSm V) (h : hgCV M g V) : hgWC X 25 [.ref g] M = some (.inl (.int (hgB (vEmp V))), M) := by
  rw [hgk_25 hw h.1 h.2.1 hm.1]
  unfold vEmp
  rw [hgAny_cg (f' := fun j => decide (0 < (vQ V j).length)) (vN V) 0 (fun j _ hj => ?_)]
  have hl := hm.2.2.2 j (by omega)
  rw [(h.2.2.2.2.2.2.2.2.2.2.2.1 j (by omega)).2.2.1]
  simp only [hgn_lt (show 0 < 2147483648 by omega) (show (vQ V j).length < 2147483648 by omega)]
theorem hgRV_188 (hm : hgSm V) (h : hgRV M d t V) : hgWC X 188 [.ref d] M = some (.inl (.int (hgB (vEmp V))), M) := by
  rw [hgk_188 h.1 h.2.1 h.2.2.2.1 hm.1]
  unfold vEmp
  rw [hgAny_cg (f' := fun j => decide (0 < (vQ V j).length)) (vN V) 0 (fun j _ hj => ?_)]
  have hl := hm.2.2.2 j (by omega)
  rw [(h.2.2.2.2.2.2.2.1 j (by omega)).2.1]
  simp only [hgn_lt (show 0 < 2147483648 by omega) (show (vQ V j).length < 2147483648 by omega)]
theorem hgk_105l (ht : n ≤ 300) : ∀ (k i : Nat) (M : hgMem) (V : hgV), i + k = n → hgWf M → hgI M 1 3 = nI c → hgVok V c → hgCV M 35 V → ∃ M', hgW X 105 34 [some (.ref 0), some (.int (nI n)), some (.int (nI i))] [] (0, 0) M = some (.inl (.int (vDrn k i V)), M') ∧ hgWf M' ∧ hgFm (hgPd 35) M M' := by
  intro k
  induction k with
  | zero =>
    intro i M V hi hw hst hk hv
    have h1 : i < 2147483648 := by omega
    have h2 : n < 2147483648 := by omega
    have h3 : n ≤ i := by omega
    have g35 : hgGw 35 := Or.inr (Or.inl rfl)
    have k25 := hgCV_25 (X := X) hw (hgSm_ok hk) hv
    refine ⟨M, ?_, hw, hgFm_r⟩
    rw [hgu105_34]
    simp (maxDischargeDepth := 7) only [hgM_t, hgM_f, hgM_n, hgx_iload_n_1, hgx_if_lt, hgx_sipush_300, hgx_ic_le, hgx_throw, hgx_aload_n_0, hgs_get_7_4, hgs_get_7_3, hgx_invvirtual_2, hgx_aft_e, hgx_aft_i, hgx_aft_l, hgx_aft_v, hgx_iconst_0, hgx_istore_n_2i, hgx_istore_n_2r, hgx_istore_n_2f, hgx_istore_n_2n, hgx_istore_n_2l, hgx_iload_n_2, hgx_ic_ge, hgx_invvirtual_1, hgx_if_eq, hgx_ret1, hgx_pop_i, hgx_pop_f, hgx_pop_r, hgx_iinc_2_1, hgx_goto, hgx_iconst_m1, hgv105_0, hgr105_0, hgu105_0, hgv105_11, hgr105_11, hgu105_11, hgv105_21, hgr105_21, hgu105_21, hgv105_34, hgr105_34, hgv105_51, hgr105_51, hgu105_51, hgv105_65, hgr105_65, hgu105_65, hgv105_79, hgr105_79, hgu105_79, hgv105_80, hgr105_80, hgu105_80, hgI_SI, hgI_SJ, hgJ_SI, hgJ_SJ, if_true, if_false, reduceIte, Nat.reduceEqDiff, hgWf_SI, hgWf_SJ, hgO_SI, hgO_SJ, hgAr_SI, hgAr_SJ, hgRp_SI, hgRp_SJ, hgN_SI, hgN_SJ, hgO_g, hgO_d, hgO_rl, hgO_r, hgO_0, hgO_1, hgO_64, hgO_298, hgO_300, hgCd_0, hgCd_1, hgCd_2, hgCd_3, hgCd_4, hgCd_5, hgRecv_O, hgRecv_99, List.length_cons, List.length_nil, Nat.zero_add, Nat.add_zero, Nat.le_refl, Nat.zero_le, and_self, or_true, true_or, true_and, and_true, ne_eq, not_false_eq_true, Nat.reduceLT, Nat.reduceLeDiff, Nat.reduceAdd, Nat.reduceEqDiff, hgn_eq, hgn_lt, hgn_le, if_true, if_false, reduceIte, Nat.not_lt_zero, hw, g35, h1, h2, h3, k25, hgB_0, vDrn]
    have e : n = i := by omega
    cases vEmp V
    · rfl
    · rw [e]; rfl
  | succ k ih =>
    intro i M V hi hw hst hk hv
    have h1 : i < 2147483648 := by omega
    have h2 : n < 2147483648 := by omega
    have h3 : ¬ n ≤ i := by omega
    have g35 : hgGw 35 := Or.inr (Or.inl rfl)
    have k25 := hgCV_25 (X := X) hw (hgSm_ok hk) hv
    cases hE : vEmp V with
    | true =>
      rw [hE] at k25
      refine ⟨M, ?_, hw, hgFm_r⟩
      rw [hgu105_34]
      simp (maxDischargeDepth := 7) only [hgM_t, hgM_f, hgM_n, hgx_iload_n_1, hgx_if_lt, hgx_sipush_300, hgx_ic_le, hgx_throw, hgx_aload_n_0, hgs_get_7_4, hgs_get_7_3, hgx_invvirtual_2, hgx_aft_e, hgx_aft_i, hgx_aft_l, hgx_aft_v, hgx_iconst_0, hgx_istore_n_2i, hgx_istore_n_2r, hgx_istore_n_2f, hgx_istore_n_2n, hgx_istore_n_2l, hgx_iload_n_2, hgx_ic_ge, hgx_invvirtual_1, hgx_if_eq, hgx_ret1, hgx_pop_i, hgx_pop_f, hgx_pop_r, hgx_iinc_2_1, hgx_goto, hgx_iconst_m1, hgv105_0, hgr105_0, hgu105_0, hgv105_11, hgr105_11, hgu105_11, hgv105_21, hgr105_21, hgu105_21, hgv105_34, hgr105_34, hgv105_51, hgr105_51, hgu105_51, hgv105_65, hgr105_65, hgu105_65, hgv105_79, hgr105_79, hgu105_79, hgv105_80, hgr105_80, hgu105_80, hgI_SI, hgI_SJ, hgJ_SI, hgJ_SJ, if_true, if_false, reduceIte, Nat.reduceEqDiff, hgWf_SI, hgWf_SJ, hgO_SI, hgO_SJ, hgAr_SI, hgAr_SJ, hgRp_SI, hgRp_SJ, hgN_SI, hgN_SJ, hgO_g, hgO_d, hgO_rl, hgO_r, hgO_0, hgO_1, hgO_64, hgO_298, hgO_300, hgCd_0, hgCd_1, hgCd_2, hgCd_3, hgCd_4, hgCd_5, hgRecv_O, hgRecv_99, List.length_cons, List.length_nil, Nat.zero_add, Nat.add_zero, Nat.le_refl, Nat.zero_le, and_self, or_true, true_or, true_and, and_true, ne_eq, not_false_eq_true, Nat.reduceLT, Nat.reduceLeDiff, Nat.reduceAdd, Nat.reduceEqDiff, hgn_eq, hgn_lt, hgn_le, if_true, if_false, reduceIte, Nat.not_lt_zero, hw, g35, h1, h2, h3, k25, hgB_t, vDrn, hE]
    | false =>
      rw [hE] at k25
      obtain ⟨M1, e1, w1, k1, v1, f1⟩ := hgk_26 (X := X) hw hst hk hv
      obtain ⟨M', e, r1, r2⟩ := ih (i + 1) M1 (vTick V) (by omega) w1 (by rw [(f1.2 1 (by unfold hgPd; omega) 3).1]; exact hst) k1 v1
      refine ⟨M', ?_, r1, hgFm_t f1 r2⟩
      rw [hgu105_34]
      simp (maxDischargeDepth := 7) only [hgM_t, hgM_f, hgM_n, hgx_iload_n_1, hgx_if_lt, hgx_sipush_300, hgx_ic_le, hgx_throw, hgx_aload_n_0, hgs_get_7_4, hgs_get_7_3, hgx_invvirtual_2, hgx_aft_e, hgx_aft_i, hgx_aft_l, hgx_aft_v, hgx_iconst_0, hgx_istore_n_2i, hgx_istore_n_2r, hgx_istore_n_2f, hgx_istore_n_2n, hgx_istore_n_2l, hgx_iload_n_2, hgx_ic_ge, hgx_invvirtual_1, hgx_if_eq, hgx_ret1, hgx_pop_i, hgx_pop_f, hgx_pop_r, hgx_iinc_2_1, hgx_goto, hgx_iconst_m1, hgv105_0, hgr105_0, hgu105_0, hgv105_11, hgr105_11, hgu105_11, hgv105_21, hgr105_21, hgu105_21, hgv105_34, hgr105_34, hgv105_51, hgr105_51, hgu105_51, hgv105_65, hgr105_65, hgu105_65, hgv105_79, hgr105_79, hgu105_79, hgv105_80, hgr105_80, hgu105_80, hgI_SI, hgI_SJ, hgJ_SI, hgJ_SJ, if_true, if_false, reduceIte, Nat.reduceEqDiff, hgWf_SI, hgWf_SJ, hgO_SI, hgO_SJ, hgAr_SI, hgAr_SJ, hgRp_SI, hgRp_SJ, hgN_SI, hgN_SJ, hgO_g, hgO_d, hgO_rl, hgO_r, hgO_0, hgO_1, hgO_64, hgO_298, hgO_300, hgCd_0, hgCd_1, hgCd_2, hgCd_3, hgCd_4, hgCd_5, hgRecv_O, hgRecv_99, List.length_cons, List.length_nil, Nat.zero_add, Nat.add_zero, Nat.le_refl, Nat.zero_le, and_self, or_true, true_or, true_and, and_true, ne_eq, not_false_eq_true, Nat.reduceLT, Nat.reduceLeDiff, Nat.reduceAdd, Nat.reduceEqDiff, hgn_eq, hgn_lt, hgn_le, if_true, if_false, reduceIte, Nat.not_lt_zero, hgn_add, hgn_mul, hw, g35, h1, h2, h3, k25, hgB_f, e1, vDrn, hE, Bool.false_eq_true]
      exact e
theorem hgk_189l (ht : n ≤ 300) : ∀ (k i : Nat) (M : hgMem) (V : hgV), i + k = n → hgWf M → hgVok V c → hgRV M 304 315 V → ∃ M', hgW X 189 55 [some (.ref 300), some (.int (nI n)), some (.int (nI i))] [] (0, 0) M = some (.inl (.int (vDrn k i V)), M') ∧ hgWf M' ∧ hgFm (fun b => b = 304 ∨ b = 315) M M' := by
  intro k
  induction k with
  | zero =>
    intro i M V hi hw hk hv
    have h1 : i < 2147483648 := by omega
    have h2 : n < 2147483648 := by omega
    have h3 : ¬ n < i := by omega
    have h4 : n < i + 1 := by omega
    have h5 : i + 1 < 2147483648 := by omega
    have k188 := hgRV_188 (X := X) (hgSm_ok hk) hv
    cases hE : vEmp V with
    | true =>
      rw [hE] at k188
      refine ⟨M, ?_, hw, hgFm_r⟩
      rw [hgu189_55]
      simp (maxDischargeDepth := 7) only [hgM_t, hgM_f, hgM_n, hgx_aload_n_0, hgx_iconst_0, hgx_put0, hgx_iload_n_1, hgx_sipush_300, hgx_invstatic_3, hgx_aft_e, hgx_aft_i, hgx_aft_l, hgx_aft_v, hgx_if_ne, hgx_iconst_1, hgx_goto, hgx_invvirtual_3, hgx_if_eq, hgx_ret1, hgs_get_8_8, hgs_get_8_10, hgx_invstatic_2, hgs_get_8_12, hgs_get_8_13, hgx_istore_n_2i, hgx_istore_n_2r, hgx_istore_n_2f, hgx_istore_n_2n, hgx_istore_n_2l, hgx_iload_n_2, hgx_ic_gt, hgx_invstatic_1, hgx_pop_i, hgx_pop_f, hgx_pop_r, hgx_iinc_2_1, hgx_iconst_m1, hgv189_0, hgr189_0, hgu189_0, hgv189_21, hgr189_21, hgu189_21, hgv189_22, hgr189_22, hgu189_22, hgv189_31, hgr189_31, hgu189_31, hgv189_55, hgr189_55, hgv189_72, hgr189_72, hgu189_72, hgv189_90, hgr189_90, hgu189_90, hgI_SI, hgI_SJ, hgJ_SI, hgJ_SJ, if_true, if_false, reduceIte, Nat.reduceEqDiff, hgWf_SI, hgWf_SJ, hgO_SI, hgO_SJ, hgAr_SI, hgAr_SJ, hgRp_SI, hgRp_SJ, hgN_SI, hgN_SJ, hgO_g, hgO_d, hgO_rl, hgO_r, hgO_0, hgO_1, hgO_64, hgO_298, hgO_300, hgCd_0, hgCd_1, hgCd_2, hgCd_3, hgCd_4, hgCd_5, hgRecv_O, hgRecv_99, List.length_cons, List.length_nil, Nat.zero_add, Nat.add_zero, Nat.le_refl, Nat.zero_le, and_self, or_true, true_or, true_and, and_true, ne_eq, not_false_eq_true, Nat.reduceLT, Nat.reduceLeDiff, Nat.reduceAdd, Nat.reduceEqDiff, hgn_eq, hgn_lt, hgn_le, if_true, if_false, reduceIte, Nat.not_lt_zero, hw, h1, h2, h3, k188, hgB_t, vDrn, hE]
    | false =>
      rw [hE] at k188
      obtain ⟨M1, e1, w1, v1, f1⟩ := hgk_164 (X := X) hw hk hv
      refine ⟨M1, ?_, w1, f1⟩
      rw [hgu189_55]
      simp (maxDischargeDepth := 7) only [hgM_t, hgM_f, hgM_n, hgx_aload_n_0, hgx_iconst_0, hgx_put0, hgx_iload_n_1, hgx_sipush_300, hgx_invstatic_3, hgx_aft_e, hgx_aft_i, hgx_aft_l, hgx_aft_v, hgx_if_ne, hgx_iconst_1, hgx_goto, hgx_invvirtual_3, hgx_if_eq, hgx_ret1, hgs_get_8_8, hgs_get_8_10, hgx_invstatic_2, hgs_get_8_12, hgs_get_8_13, hgx_istore_n_2i, hgx_istore_n_2r, hgx_istore_n_2f, hgx_istore_n_2n, hgx_istore_n_2l, hgx_iload_n_2, hgx_ic_gt, hgx_invstatic_1, hgx_pop_i, hgx_pop_f, hgx_pop_r, hgx_iinc_2_1, hgx_iconst_m1, hgv189_0, hgr189_0, hgu189_0, hgv189_21, hgr189_21, hgu189_21, hgv189_22, hgr189_22, hgu189_22, hgv189_31, hgr189_31, hgu189_31, hgv189_55, hgr189_55, hgv189_72, hgr189_72, hgu189_72, hgv189_90, hgr189_90, hgu189_90, hgI_SI, hgI_SJ, hgJ_SI, hgJ_SJ, if_true, if_false, reduceIte, Nat.reduceEqDiff, hgWf_SI, hgWf_SJ, hgO_SI, hgO_SJ, hgAr_SI, hgAr_SJ, hgRp_SI, hgRp_SJ, hgN_SI, hgN_SJ, hgO_g, hgO_d, hgO_rl, hgO_r, hgO_0, hgO_1, hgO_64, hgO_298, hgO_300, hgCd_0, hgCd_1, hgCd_2, hgCd_3, hgCd_4, hgCd_5, hgRecv_O, hgRecv_99, List.length_cons, List.length_nil, Nat.zero_add, Nat.add_zero, Nat.le_refl, Nat.zero_le, and_self, or_true, true_or, true_and, and_true, ne_eq, not_false_eq_true, Nat.reduceLT, Nat.reduceLeDiff, Nat.reduceAdd, Nat.reduceEqDiff, hgn_eq, hgn_lt, hgn_le, if_true, if_false, reduceIte, Nat.not_lt_zero, hgn_add, hgn_mul, hw, h1, h2, h3, k188, hgB_f, e1, vDrn, hE, Bool.false_eq_true]
      rw [hgu189_55]
      simp (maxDischargeDepth := 7) only [hgM_t, hgM_f, hgM_n, hgx_aload_n_0, hgx_iconst_0, hgx_put0, hgx_iload_n_1, hgx_sipush_300, hgx_invstatic_3, hgx_aft_e, hgx_aft_i, hgx_aft_l, hgx_aft_v, hgx_if_ne, hgx_iconst_1, hgx_goto, hgx_invvirtual_3, hgx_if_eq, hgx_ret1, hgs_get_8_8, hgs_get_8_10, hgx_invstatic_2, hgs_get_8_12, hgs_get_8_13, hgx_istore_n_2i, hgx_istore_n_2r, hgx_istore_n_2f, hgx_istore_n_2n, hgx_istore_n_2l, hgx_iload_n_2, hgx_ic_gt, hgx_invstatic_1, hgx_pop_i, hgx_pop_f, hgx_pop_r, hgx_iinc_2_1, hgx_iconst_m1, hgv189_0, hgr189_0, hgu189_0, hgv189_21, hgr189_21, hgu189_21, hgv189_22, hgr189_22, hgu189_22, hgv189_31, hgr189_31, hgu189_31, hgv189_55, hgr189_55, hgv189_72, hgr189_72, hgu189_72, hgv189_90, hgr189_90, hgu189_90, hgI_SI, hgI_SJ, hgJ_SI, hgJ_SJ, if_true, if_false, reduceIte, Nat.reduceEqDiff, hgWf_SI, hgWf_SJ, hgO_SI, hgO_SJ, hgAr_SI, hgAr_SJ, hgRp_SI, hgRp_SJ, hgN_SI, hgN_SJ, hgO_g, hgO_d, hgO_rl, hgO_r, hgO_0, hgO_1, hgO_64, hgO_298, hgO_300, hgCd_0, hgCd_1, hgCd_2, hgCd_3, hgCd_4, hgCd_5, hgRecv_O, hgRecv_99, List.length_cons, List.length_nil, Nat.zero_add, Nat.add_zero, Nat.le_refl, Nat.zero_le, and_self, or_true, true_or, true_and, and_true, ne_eq, not_false_eq_true, Nat.reduceLT, Nat.reduceLeDiff, Nat.reduceAdd, Nat.reduceEqDiff, hgn_eq, hgn_lt, hgn_le, if_true, if_false, reduceIte, Nat.not_lt_zero, hgn_add, hgn_mul, w1, h2, h4, h5]
  | succ k ih =>
    intro i M V hi hw hk hv
    have h1 : i < 2147483648 := by omega
    have h2 : n < 2147483648 := by omega
    have h3 : ¬ n < i := by omega
    have k188 := hgRV_188 (X := X) (hgSm_ok hk) hv
    cases hE : vEmp V with
    | true =>
      rw [hE] at k188
      refine ⟨M, ?_, hw, hgFm_r⟩
      rw [hgu189_55]
      simp (maxDischargeDepth := 7) only [hgM_t, hgM_f, hgM_n, hgx_aload_n_0, hgx_iconst_0, hgx_put0, hgx_iload_n_1, hgx_sipush_300, hgx_invstatic_3, hgx_aft_e, hgx_aft_i, hgx_aft_l, hgx_aft_v, hgx_if_ne, hgx_iconst_1, hgx_goto, hgx_invvirtual_3, hgx_if_eq, hgx_ret1, hgs_get_8_8, hgs_get_8_10, hgx_invstatic_2, hgs_get_8_12, hgs_get_8_13, hgx_istore_n_2i, hgx_istore_n_2r, hgx_istore_n_2f, hgx_istore_n_2n, hgx_istore_n_2l, hgx_iload_n_2, hgx_ic_gt, hgx_invstatic_1, hgx_pop_i, hgx_pop_f, hgx_pop_r, hgx_iinc_2_1, hgx_iconst_m1, hgv189_0, hgr189_0, hgu189_0, hgv189_21, hgr189_21, hgu189_21, hgv189_22, hgr189_22, hgu189_22, hgv189_31, hgr189_31, hgu189_31, hgv189_55, hgr189_55, hgv189_72, hgr189_72, hgu189_72, hgv189_90, hgr189_90, hgu189_90, hgI_SI, hgI_SJ, hgJ_SI, hgJ_SJ, if_true, if_false, reduceIte, Nat.reduceEqDiff, hgWf_SI, hgWf_SJ, hgO_SI, hgO_SJ, hgAr_SI, hgAr_SJ, hgRp_SI, hgRp_SJ, hgN_SI, hgN_SJ, hgO_g, hgO_d, hgO_rl, hgO_r, hgO_0, hgO_1, hgO_64, hgO_298, hgO_300, hgCd_0, hgCd_1, hgCd_2, hgCd_3, hgCd_4, hgCd_5, hgRecv_O, hgRecv_99, List.length_cons, List.length_nil, Nat.zero_add, Nat.add_zero, Nat.le_refl, Nat.zero_le, and_self, or_true, true_or, true_and, and_true, ne_eq, not_false_eq_true, Nat.reduceLT, Nat.reduceLeDiff, Nat.reduceAdd, Nat.reduceEqDiff, hgn_eq, hgn_lt, hgn_le, if_true, if_false, reduceIte, Nat.not_lt_zero, hw, h1, h2, h3, k188, hgB_t, vDrn, hE]
    | false =>
      rw [hE] at k188
      obtain ⟨M1, e1, w1, v1, f1⟩ := hgk_164 (X := X) hw hk hv
      have k1 : hgVok (vTick V) c := hgVok_s (hgVok_en _ _ _ (hgVok_line _ _ _ _ (hgVok_bg _ _ _ hk))) (by omega)
      obtain ⟨M', e, r1, r2⟩ := ih (i + 1) M1 (vTick V) (by omega) w1 k1 v1
      refine ⟨M', ?_, r1, hgFm_t f1 r2⟩
      rw [hgu189_55]
      simp (maxDischargeDepth := 7) only [hgM_t, hgM_f, hgM_n, hgx_aload_n_0, hgx_iconst_0, hgx_put0, hgx_iload_n_1, hgx_sipush_300, hgx_invstatic_3, hgx_aft_e, hgx_aft_i, hgx_aft_l, hgx_aft_v, hgx_if_ne, hgx_iconst_1, hgx_goto, hgx_invvirtual_3, hgx_if_eq, hgx_ret1, hgs_get_8_8, hgs_get_8_10, hgx_invstatic_2, hgs_get_8_12, hgs_get_8_13, hgx_istore_n_2i, hgx_istore_n_2r, hgx_istore_n_2f, hgx_istore_n_2n, hgx_istore_n_2l, hgx_iload_n_2, hgx_ic_gt, hgx_invstatic_1, hgx_pop_i, hgx_pop_f, hgx_pop_r, hgx_iinc_2_1, hgx_iconst_m1, hgv189_0, hgr189_0, hgu189_0, hgv189_21, hgr189_21, hgu189_21, hgv189_22, hgr189_22, hgu189_22, hgv189_31, hgr189_31, hgu189_31, hgv189_55, hgr189_55, hgv189_72, hgr189_72, hgu189_72, hgv189_90, hgr189_90, hgu189_90, hgI_SI, hgI_SJ, hgJ_SI, hgJ_SJ, if_true, if_false, reduceIte, Nat.reduceEqDiff, hgWf_SI, hgWf_SJ, hgO_SI, hgO_SJ, hgAr_SI, hgAr_SJ, hgRp_SI, hgRp_SJ, hgN_SI, hgN_SJ, hgO_g, hgO_d, hgO_rl, hgO_r, hgO_0, hgO_1, hgO_64, hgO_298, hgO_300, hgCd_0, hgCd_1, hgCd_2, hgCd_3, hgCd_4, hgCd_5, hgRecv_O, hgRecv_99, List.length_cons, List.length_nil, Nat.zero_add, Nat.add_zero, Nat.le_refl, Nat.zero_le, and_self, or_true, true_or, true_and, and_true, ne_eq, not_false_eq_true, Nat.reduceLT, Nat.reduceLeDiff, Nat.reduceAdd, Nat.reduceEqDiff, hgn_eq, hgn_lt, hgn_le, if_true, if_false, reduceIte, Nat.not_lt_zero, hgn_add, hgn_mul, hw, h1, h2, h3, k188, hgB_f, e1, vDrn, hE, Bool.false_eq_true]
      exact e
theorem hgOp_218 (h : hgInv M N) : hgBi X 218 [.ref 0, .int x, .ref 325] 189 [.ref 300, .int x] M N := by
  obtain ⟨V, Hs, c, hc, hC, hR, hH, hb⟩ := h
  obtain ⟨hw, g6, hn, hN, _, _⟩ := hgSC_6 hC
  have g35 : hgGw 35 := Or.inr (Or.inl rfl)
  by_cases hx : ∃ i, i < 301 ∧ x = nI i
  · have bt : hgBtw x (nI 0) (nI 300) = true := (hgBtw_c (by omega) (by omega)).mpr hx
    obtain ⟨n, n1, rfl⟩ := hx
    have x2 : n ≤ 300 := by omega
    have x3 : n < 2147483648 := by omega
    obtain ⟨M1, e1, f1, v1⟩ := hgk_9 (X := X) hw g35 (show 35 ≠ 6 by omega) hC.2.2.2.2.1 hC.2.2.1
    have w1 := hgFn_w f1 hw
    obtain ⟨M2, e2, w2, f2⟩ := hgk_105l (X := X) x2 n 0 M1 V (by omega) w1 (by rw [(f1.2.2 1 (by omega) 3).1]; exact hC.2.1) hC.2.2.2.2.1 v1
    have F2 : hgFm (fun b => 35 ≤ b ∧ b < 64) M M2 := hgFm_t (hgFm_m (hgFn_f f1) (fun b hb => by omega)) (hgFm_m f2 (fun b hb => by unfold hgPd at hb; omega))
    have kc : hgWC X 105 [.ref 0, .int (nI n)] M = some (.inl (.int (vDrn n 0 V)), M2) := by
      simp (maxDischargeDepth := 7) only [hgc105, hgM_t, hgM_f, hgM_n, hgx_iload_n_1, hgx_if_lt, hgx_sipush_300, hgx_ic_le, hgx_throw, hgx_aload_n_0, hgs_get_7_4, hgs_get_7_3, hgx_invvirtual_2, hgx_aft_e, hgx_aft_i, hgx_aft_l, hgx_aft_v, hgx_iconst_0, hgx_istore_n_2i, hgx_istore_n_2r, hgx_istore_n_2f, hgx_istore_n_2n, hgx_istore_n_2l, hgx_iload_n_2, hgx_ic_ge, hgx_invvirtual_1, hgx_if_eq, hgx_ret1, hgx_pop_i, hgx_pop_f, hgx_pop_r, hgx_iinc_2_1, hgx_goto, hgx_iconst_m1, hgv105_0, hgr105_0, hgu105_0, hgv105_11, hgr105_11, hgu105_11, hgv105_21, hgr105_21, hgu105_21, hgv105_34, ← hgu105_34, hgv105_51, hgr105_51, hgu105_51, hgv105_65, hgr105_65, hgu105_65, hgv105_79, hgr105_79, hgu105_79, hgv105_80, hgr105_80, hgu105_80, hgI_SI, hgI_SJ, hgJ_SI, hgJ_SJ, if_true, if_false, reduceIte, Nat.reduceEqDiff, hgWf_SI, hgWf_SJ, hgO_SI, hgO_SJ, hgAr_SI, hgAr_SJ, hgRp_SI, hgRp_SJ, hgN_SI, hgN_SJ, hgO_g, hgO_d, hgO_rl, hgO_r, hgO_0, hgO_1, hgO_64, hgO_298, hgO_300, hgCd_0, hgCd_1, hgCd_2, hgCd_3, hgCd_4, hgCd_5, hgRecv_O, hgRecv_99, List.length_cons, List.length_nil, Nat.zero_add, Nat.add_zero, Nat.le_refl, Nat.zero_le, and_self, or_true, true_or, true_and, and_true, ne_eq, not_false_eq_true, Nat.reduceLT, Nat.reduceLeDiff, Nat.reduceAdd, Nat.reduceEqDiff, hgn_eq, hgn_lt, hgn_le, if_true, if_false, reduceIte, Nat.not_lt_zero, hw, g6, g35, x2, x3, e1]
      exact e2
    have hC2 : hgSC M2 V Hs c := hgSC_fm F2 w2 (fun b hb => Or.inl hb) hC
    have fC : hgFC M M2 := hgFC_m F2 (fun b hb => by omega)
    refine hgBi_ok hb (hgL_218 hw w2 kc) hC2 fC ?_ hH (by omega)
    have hR1 : hgSM (hgSJ M2 325 0 (vDrn n 0 V).toInt64) V Hs c := hgSM_o (hgSM_C fC w2 hR)
    obtain ⟨Mo, hMo⟩ : ∃ Mo, Mo = hgSJ M2 325 0 (vDrn n 0 V).toInt64 := ⟨_, rfl⟩
    rw [← hMo] at hR1 ⊢
    have h3 : hgSM (hgSI Mo 300 0 (nI 0)) V Hs c := hgSM_0 hR1
    have wo := hR1.1
    have j8 := hgk_124a (X := X) (M := hgSI Mo 300 0 (nI 0)) (y := nI 1) wo hgI_at
    obtain ⟨M3, M4, e3, e4, f3, f4, v4⟩ := hgRV_cp (X := X) (hgSm_ok h3.2.2.2.1) (hgAr_304 h3.1) (by omega) (hgAr_315 h3.1) (show 302 ≠ 304 by omega) (show 314 ≠ 315 by omega) h3.2.1
    have w3 : hgWf M3 := hgFn_w f3 wo
    have w4 : hgWf M4 := hgFn_w f4 wo
    obtain ⟨M5, e5, w5, f5⟩ := hgk_189l (X := X) x2 n 0 M4 V (by omega) w4 h3.2.2.2.1 v4
    have F5 : hgFm (fun b => b = 304 ∨ b = 315) (hgSI Mo 300 0 (nI 0)) M5 := hgFm_t (hgFn_f f4) f5
    refine ⟨M5, ?_, hgSM_fm F5 w5 (fun b hb => by omega) h3, hgFR_t hgFR_0 (hgFR_m F5 (fun b hb => by omega)), by rw [(F5.2 300 (by omega) 0).1, hgI_at]⟩
    simp (maxDischargeDepth := 7) only [hgc189, hgM_t, hgM_f, hgM_n, hgx_aload_n_0, hgx_iconst_0, hgx_put0, hgx_iload_n_1, hgx_sipush_300, hgx_invstatic_3, hgx_aft_e, hgx_aft_i, hgx_aft_l, hgx_aft_v, hgx_if_ne, hgx_iconst_1, hgx_goto, hgx_invvirtual_3, hgx_if_eq, hgx_ret1, hgs_get_8_8, hgs_get_8_10, hgx_invstatic_2, hgs_get_8_12, hgs_get_8_13, hgx_istore_n_2i, hgx_istore_n_2r, hgx_istore_n_2f, hgx_istore_n_2n, hgx_istore_n_2l, hgx_iload_n_2, hgx_ic_gt, hgx_invstatic_1, hgx_pop_i, hgx_pop_f, hgx_pop_r, hgx_iinc_2_1, hgx_iconst_m1, hgv189_0, hgr189_0, hgu189_0, hgv189_21, hgr189_21, hgu189_21, hgv189_22, hgr189_22, hgu189_22, hgv189_31, hgr189_31, hgu189_31, hgv189_55, ← hgu189_55, hgv189_72, hgr189_72, hgu189_72, hgv189_90, hgr189_90, hgu189_90, hgs_aa_d, hgs_aa_r, hgs_aa_h, hgs_aa_m, hgs_aa_t, hgs_ld_wp, hgs_st_wp, hgs_ld_qf, hgs_st_qf, hgs_ld_qt, hgs_st_qt, hgs_ld_2, hgs_st_2, hgs_ld_3, hgs_st_3, hgs_ld_4, hgs_st_4, hgs_ld_301, hgs_st_301, hgs_ld_D, hgs_st_D, hgs_ld_s, hgs_ld_T, hgs_st_T, hgs_ld_o, hgs_st_o, hgs_ld_b, hgs_st_b, hgs_ld_z, hgs_st_z, hgs_al_b, hgx_alen_s, hgWf_SI, hgWf_SJ, hgO_SI, hgO_SJ, hgAr_SI, hgAr_SJ, hgRp_SI, hgRp_SJ, hgN_SI, hgN_SJ, hgO_g, hgO_d, hgO_rl, hgO_r, hgO_0, hgO_1, hgO_64, hgO_298, hgO_300, hgCd_0, hgCd_1, hgCd_2, hgCd_3, hgCd_4, hgCd_5, hgRecv_O, hgRecv_99, List.length_cons, List.length_nil, Nat.zero_add, Nat.add_zero, Nat.le_refl, Nat.zero_le, and_self, or_true, true_or, true_and, and_true, ne_eq, not_false_eq_true, Nat.reduceLT, Nat.reduceLeDiff, Nat.reduceAdd, Nat.reduceEqDiff, hgn_eq, hgn_lt, hgn_le, if_true, if_false, reduceIte, Nat.not_lt_zero, hgn_add, hgn_mul, wo, hgk_125, bt, hgB_t, j8, e3, w3, e4]
    exact e5
  · have bt : hgBtw x (nI 0) (nI 300) = false := Bool.eq_false_iff.mpr (fun z => hx ((hgBtw_c (by omega) (by omega)).mp z))
    have kc : hgWC X 105 [.ref 0, .int x] M = some (.inr 0, M) := by
      by_cases q : x < nI 0
      · simp (maxDischargeDepth := 7) only [hgc105, hgM_t, hgM_f, hgM_n, hgx_iload_n_1, hgx_if_lt, hgx_sipush_300, hgx_ic_le, hgx_throw, hgx_aload_n_0, hgs_get_7_4, hgs_get_7_3, hgx_invvirtual_2, hgx_aft_e, hgx_aft_i, hgx_aft_l, hgx_aft_v, hgx_iconst_0, hgx_istore_n_2i, hgx_istore_n_2r, hgx_istore_n_2f, hgx_istore_n_2n, hgx_istore_n_2l, hgx_iload_n_2, hgx_ic_ge, hgx_invvirtual_1, hgx_if_eq, hgx_ret1, hgx_pop_i, hgx_pop_f, hgx_pop_r, hgx_iinc_2_1, hgx_goto, hgx_iconst_m1, hgv105_0, hgr105_0, hgu105_0, hgv105_11, hgr105_11, hgu105_11, hgv105_21, hgr105_21, hgu105_21, hgv105_34, ← hgu105_34, hgv105_51, hgr105_51, hgu105_51, hgv105_65, hgr105_65, hgu105_65, hgv105_79, hgr105_79, hgu105_79, hgv105_80, hgr105_80, hgu105_80, hgx_throw, hgI_SI, hgI_SJ, hgJ_SI, hgJ_SJ, if_true, if_false, reduceIte, Nat.reduceEqDiff, hgWf_SI, hgWf_SJ, hgO_SI, hgO_SJ, hgAr_SI, hgAr_SJ, hgRp_SI, hgRp_SJ, hgN_SI, hgN_SJ, hgO_g, hgO_d, hgO_rl, hgO_r, hgO_0, hgO_1, hgO_64, hgO_298, hgO_300, hgCd_0, hgCd_1, hgCd_2, hgCd_3, hgCd_4, hgCd_5, hgRecv_O, hgRecv_99, List.length_cons, List.length_nil, Nat.zero_add, Nat.add_zero, Nat.le_refl, Nat.zero_le, and_self, or_true, true_or, true_and, and_true, ne_eq, not_false_eq_true, Nat.reduceLT, Nat.reduceLeDiff, Nat.reduceAdd, Nat.reduceEqDiff, hgn_eq, hgn_lt, hgn_le, if_true, if_false, reduceIte, Nat.not_lt_zero, hw, q]
      · have q2 : ¬ x ≤ nI 300 := by
          rw [hgin_i (by omega)] at hx
          rw [hglt_i, hgn_0] at q
          rw [hgle_i, hgn_int (by omega)]
          omega
        simp (maxDischargeDepth := 7) only [hgc105, hgM_t, hgM_f, hgM_n, hgx_iload_n_1, hgx_if_lt, hgx_sipush_300, hgx_ic_le, hgx_throw, hgx_aload_n_0, hgs_get_7_4, hgs_get_7_3, hgx_invvirtual_2, hgx_aft_e, hgx_aft_i, hgx_aft_l, hgx_aft_v, hgx_iconst_0, hgx_istore_n_2i, hgx_istore_n_2r, hgx_istore_n_2f, hgx_istore_n_2n, hgx_istore_n_2l, hgx_iload_n_2, hgx_ic_ge, hgx_invvirtual_1, hgx_if_eq, hgx_ret1, hgx_pop_i, hgx_pop_f, hgx_pop_r, hgx_iinc_2_1, hgx_goto, hgx_iconst_m1, hgv105_0, hgr105_0, hgu105_0, hgv105_11, hgr105_11, hgu105_11, hgv105_21, hgr105_21, hgu105_21, hgv105_34, ← hgu105_34, hgv105_51, hgr105_51, hgu105_51, hgv105_65, hgr105_65, hgu105_65, hgv105_79, hgr105_79, hgu105_79, hgv105_80, hgr105_80, hgu105_80, hgx_throw, hgI_SI, hgI_SJ, hgJ_SI, hgJ_SJ, if_true, if_false, reduceIte, Nat.reduceEqDiff, hgWf_SI, hgWf_SJ, hgO_SI, hgO_SJ, hgAr_SI, hgAr_SJ, hgRp_SI, hgRp_SJ, hgN_SI, hgN_SJ, hgO_g, hgO_d, hgO_rl, hgO_r, hgO_0, hgO_1, hgO_64, hgO_298, hgO_300, hgCd_0, hgCd_1, hgCd_2, hgCd_3, hgCd_4, hgCd_5, hgRecv_O, hgRecv_99, List.length_cons, List.length_nil, Nat.zero_add, Nat.add_zero, Nat.le_refl, Nat.zero_le, and_self, or_true, true_or, true_and, and_true, ne_eq, not_false_eq_true, Nat.reduceLT, Nat.reduceLeDiff, Nat.reduceAdd, Nat.reduceEqDiff, hgn_eq, hgn_lt, hgn_le, if_true, if_false, reduceIte, Nat.not_lt_zero, hw, q, q2]
    have k9 := hgk_124b (X := X) (M := hgSI M 300 0 (nI 0)) (y := nI 1) hw hgI_at hgn10
    refine hgBi_no hb hgn10 (hgL_218_0 hw kc) ⟨nI 0, ?_⟩ hC hR hH (by omega)
    simp (maxDischargeDepth := 7) only [hgc189, hgM_t, hgM_f, hgM_n, hgx_aload_n_0, hgx_iconst_0, hgx_put0, hgx_iload_n_1, hgx_sipush_300, hgx_invstatic_3, hgx_aft_e, hgx_aft_i, hgx_aft_l, hgx_aft_v, hgx_if_ne, hgx_iconst_1, hgx_goto, hgx_invvirtual_3, hgx_if_eq, hgx_ret1, hgs_get_8_8, hgs_get_8_10, hgx_invstatic_2, hgs_get_8_12, hgs_get_8_13, hgx_istore_n_2i, hgx_istore_n_2r, hgx_istore_n_2f, hgx_istore_n_2n, hgx_istore_n_2l, hgx_iload_n_2, hgx_ic_gt, hgx_invstatic_1, hgx_pop_i, hgx_pop_f, hgx_pop_r, hgx_iinc_2_1, hgx_iconst_m1, hgv189_0, hgr189_0, hgu189_0, hgv189_21, hgr189_21, hgu189_21, hgv189_22, hgr189_22, hgu189_22, hgv189_31, hgr189_31, hgu189_31, hgv189_55, ← hgu189_55, hgv189_72, hgr189_72, hgu189_72, hgv189_90, hgr189_90, hgu189_90, hgWf_SI, hgWf_SJ, hgO_SI, hgO_SJ, hgAr_SI, hgAr_SJ, hgRp_SI, hgRp_SJ, hgN_SI, hgN_SJ, hgO_g, hgO_d, hgO_rl, hgO_r, hgO_0, hgO_1, hgO_64, hgO_298, hgO_300, hgCd_0, hgCd_1, hgCd_2, hgCd_3, hgCd_4, hgCd_5, hgRecv_O, hgRecv_99, List.length_cons, List.length_nil, Nat.zero_add, Nat.add_zero, Nat.le_refl, Nat.zero_le, and_self, or_true, true_or, true_and, and_true, ne_eq, not_false_eq_true, Nat.reduceLT, Nat.reduceLeDiff, Nat.reduceAdd, Nat.reduceEqDiff, hgn_eq, hgn_lt, hgn_le, if_true, if_false, reduceIte, Nat.not_lt_zero, hw, hgk_125, bt, hgB_f, k9]
end HGTIM

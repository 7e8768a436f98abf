/-! THE END OF A TICK, and the whole tick of both sides. -/
theorem hgsh_k {x : Int32} {k : Nat} (hk : k < 10) : ((x >>> (nI k &&& 31)) &&& nI 1 = nI 1) ↔ x.toBitVec.getLsbD k = true := by
  have e : ((x >>> (nI k &&& 31)) &&& nI 1 = nI 1) ↔ ((x >>> (nI k &&& 31)) &&& nI 1).toBitVec = (nI 1).toBitVec := ⟨fun h => by rw [h], fun h => Int32.toBitVec_inj.mp h⟩
  have s : ((nI k &&& 31).toBitVec.smod 32).toNat = k := by
    rcases Nat.lt_or_ge k 5 with h | h
    · rcases Nat.lt_or_ge k 2 with h | h
      · rcases Nat.lt_or_ge k 1 with h | h
        · have : k = 0 := by omega
          subst this; decide
        · have : k = 1 := by omega
          subst this; decide
      · rcases Nat.lt_or_ge k 3 with h | h
        · have : k = 2 := by omega
          subst this; decide
        · rcases Nat.lt_or_ge k 4 with h | h
          · have : k = 3 := by omega
            subst this; decide
          · have : k = 4 := by omega
            subst this; decide
    · rcases Nat.lt_or_ge k 7 with h | h
      · rcases Nat.lt_or_ge k 6 with h | h
        · have : k = 5 := by omega
          subst this; decide
        · have : k = 6 := by omega
          subst this; decide
      · rcases Nat.lt_or_ge k 8 with h | h
        · have : k = 7 := by omega
          subst this; decide
        · rcases Nat.lt_or_ge k 9 with h | h
          · have : k = 8 := by omega
            subst this; decide
          · have : k = 9 := by omega
            subst this; decide
  rw [e, Int32.toBitVec_and, Int32.toBitVec_shiftRight, BitVec.sshiftRight', s, show (nI 1).toBitVec = 1#32 from rfl, BitVec.and_one_eq_setWidth_ofBool_getLsbD, BitVec.getLsbD_sshiftRight]
  rw [show (!decide (32 ≤ 0) && if k + 0 < 32 then x.toBitVec.getLsbD (k + 0) else x.toBitVec.msb) = x.toBitVec.getLsbD k by
    rw [if_pos (by omega)]
    simp]
  cases x.toBitVec.getLsbD k <;> decide
def hgMk (x : Int32) (S : Nat → Bool) : Prop := ∀ k, k < 10 → (((x >>> (nI k &&& 31)) &&& nI 1 = nI 1) ↔ S k = true)
theorem hgMk_0 : hgMk (nI 0) (fun _ => false) := fun k hk => by
  rw [hgsh_k hk]
  have : (nI 0).toBitVec = 0#32 := rfl
  rw [this]
  simp
theorem hgMk_bit : ∀ i, i < 10 → ∀ k, k < 10 → (nI 1 <<< (nI i &&& 31)).toBitVec.getLsbD k = decide (k = i) := by decide
theorem hgMk_s {x : Int32} {S : Nat → Bool} {i : Nat} (hi : i < 10) (h : hgMk x S) : hgMk (x ||| (nI 1 <<< (nI i &&& 31))) (fun j => if j = i then true else S j) := fun k hk => by
  have w := h k hk
  rw [hgsh_k hk] at w ⊢
  rw [Int32.toBitVec_or, BitVec.getLsbD_or, hgMk_bit i hi k hk]
  by_cases e : k = i
  · simp [e]
  · simp only [e, if_false, reduceIte, decide_false, Bool.or_false]
    exact w
section HGSTP
variable {X : hgX} {M M' : hgMem} {d t g i j q c k a b n p : Nat} {V V' : hgV} {x y : Int32} {z : Int32 × Int32} {u : Int64} {Q : List (Int32 × Int32)} {B : List Nat} {S : Nat → Bool} {P : Nat → Prop} {v3 : Option Value}
theorem hgCV_et (hw : hgWf M) (hm : hgSm V) (hi : i < vN V) (h : hgCV M g V) (hS : hgI M (g + 2 + i) 14 = hgB (S i)) : hgCV (hgEt M (g + 2 + i)) g (vEt S V i) ∧ hgFm (fun b => b = g + 2 + i) M (hgEt M (g + 2 + i)) ∧ hgWf (hgEt M (g + 2 + i)) := by
  have hN := hm.1
  have hd := h.2.2.2.2.2.2.2.2.2.2.2.1 i hi
  have e4 : hgI M (g + 2 + i) 4 = vD V i 4 := hd.1 4 (by omega)
  have e6 : hgI M (g + 2 + i) 6 = vD V i 6 := hd.1 6 (by omega)
  have e3 : hgI M (g + 2 + i) 3 = vD V i 3 := hd.1 3 (by omega)
  have e12 := hd.2.2.1
  have hl := hm.2.2.2 i hi
  unfold hgEt vEt
  rw [e4, e6, e3, e12, hS]
  simp only [hgB_0, hgn_le (show (vQ V i).length < 2147483648 by omega) (show 0 < 2147483648 by omega)]
  split
  · split
    · split
      · split
        · exact ⟨hgCV_sd (k := 4) (x := nI 2) hw hm (by omega) (by omega) (hgCV_sd (k := 6) hw hm (by omega) (by omega) h), hgFm_SI (hgFm_SI hgFm_r rfl) rfl, hw⟩
        · exact ⟨hgCV_sd (k := 6) hw hm (by omega) (by omega) h, hgFm_SI hgFm_r rfl, hw⟩
      · exact ⟨hgCV_sd (k := 6) hw hm (by omega) (by omega) h, hgFm_SI hgFm_r rfl, hw⟩
    · exact ⟨hgCV_sd (k := 6) hw hm (by omega) (by omega) h, hgFm_SI hgFm_r rfl, hw⟩
  · exact ⟨h, hgFm_r, hw⟩
theorem hgk_26c : ∀ (k i : Nat) (M : hgMem) (V : hgV), i + k = vN V → hgWf M → hgSm V → hgCV M g V → (∀ j, i ≤ j → j < vN V → hgI M (g + 2 + j) 14 = hgB (S j)) → ∃ M', hgW X 26 32 [some (.ref g), some (.int x), some (.int (nI i))] [] (0, 0) M = hgW X 26 55 [some (.ref g), some (.int x), none] [] (0, 0) M' ∧ hgWf M' ∧ hgCV M' g (vEn S i k V) ∧ hgFm (hgPd g) M M' := by
  intro k
  induction k with
  | zero =>
    intro i M V hi hw hm h hS
    have hN := hm.1
    have h1 : i < 2147483648 := by omega
    have h2 : vN V < 2147483648 := by omega
    have h3 : vN V ≤ i := by omega
    have hg := h.1
    have hn := h.2.1
    refine ⟨M, ?_, hw, h, hgFm_r⟩
    rw [hgu26_32]
    simp (maxDischargeDepth := 7) only [hgx_iload_n_2, hgx_aload_n_0, hgx_get0, hgx_ic_ge, hgr26_32, hgv26_55, hgM_t, hgM_f, hgM_n, hgI_SI, hgI_SJ, hgJ_SI, hgJ_SJ, if_true, if_false, reduceIte, Nat.reduceEqDiff, hgWf_SI, hgWf_SJ, hgO_SI, hgO_SJ, hgAr_SI, hgAr_SJ, hgRp_SI, hgRp_SJ, hgN_SI, hgN_SJ, hgO_g, hgO_d, hgO_rl, hgO_r, hgO_0, hgO_1, hgO_64, hgO_298, hgO_300, hgCd_0, hgCd_1, hgCd_2, hgCd_3, hgCd_4, hgCd_5, hgRecv_O, hgRecv_99, List.length_cons, List.length_nil, Nat.zero_add, Nat.add_zero, Nat.le_refl, Nat.zero_le, and_self, or_true, true_or, true_and, and_true, ne_eq, not_false_eq_true, Nat.reduceLT, Nat.reduceLeDiff, Nat.reduceAdd, Nat.reduceEqDiff, hgn_eq, hgn_lt, hgn_le, if_true, if_false, reduceIte, Nat.not_lt_zero, hw, hg, hn, h1, h2, h3]
  | succ k ih =>
    intro i M V hi hw hm h hS
    have hN := hm.1
    have h1 : i < 2147483648 := by omega
    have h2 : vN V < 2147483648 := by omega
    have h3 : ¬ vN V ≤ i := by omega
    have h4 : i < 10 := by omega
    have hg := h.1
    have hn := h.2.1
    obtain ⟨c1, c2, c3⟩ := hgCV_et (S := S) hw hm (show i < vN V by omega) h (hS i (by omega) (by omega))
    obtain ⟨M', e, w1, w2, w3⟩ := ih (i + 1) (hgEt M (g + 2 + i)) (vEt S V i) (by rw [hgLi_N hgLi_et]; omega) c3 (hgLi_sm hgLi_et hm) c1 (fun j hj1 hj2 => by
      rw [hgLi_N hgLi_et] at hj2
      rw [(c2.2 (g + 2 + j) (by omega) 14).1]
      exact hS j (by omega) hj2)
    have k5 := hgk_5 (X := X) (hgO_d hw hg h4)
    refine ⟨M', ?_, w1, w2, hgFm_t (hgFm_m c2 (fun b hb => ⟨by omega, by omega⟩)) w3⟩
    refine Eq.trans ?_ e
    rw [hgu26_32]
    simp (maxDischargeDepth := 7) only [hgM_t, hgM_f, hgM_n, hgx_iconst_0, hgx_istore_n_1i, hgx_istore_n_1r, hgx_istore_n_1f, hgx_istore_n_1n, hgx_istore_n_1l, hgx_iload_n_1, hgx_aload_n_0, hgx_get0, hgx_ic_ge, hgs_get_1_5, hgx_invvirtual_1, hgx_aft_e, hgx_aft_i, hgx_aft_l, hgx_aft_v, hgx_iinc_1_1, hgx_goto, hgx_istore_n_2i, hgx_istore_n_2r, hgx_istore_n_2f, hgx_istore_n_2n, hgx_istore_n_2l, hgx_iload_n_2, hgx_iinc_2_1, hgx_dup_i, hgx_dup_f, hgx_dup_r, hgx_iconst_1, hgx_iadd, hgx_put0, hgx_ret1, hgv26_0, hgr26_0, hgu26_0, hgv26_2, ← hgu26_2, hgv26_25, hgr26_25, hgu26_25, hgv26_32, hgr26_32, hgv26_55, hgr26_55, hgu26_55, hgI_SI, hgI_SJ, hgJ_SI, hgJ_SJ, if_true, if_false, reduceIte, Nat.reduceEqDiff, hgWf_SI, hgWf_SJ, hgO_SI, hgO_SJ, hgAr_SI, hgAr_SJ, hgRp_SI, hgRp_SJ, hgN_SI, hgN_SJ, hgO_g, hgO_d, hgO_rl, hgO_r, hgO_0, hgO_1, hgO_64, hgO_298, hgO_300, hgCd_0, hgCd_1, hgCd_2, hgCd_3, hgCd_4, hgCd_5, hgRecv_O, hgRecv_99, List.length_cons, List.length_nil, Nat.zero_add, Nat.add_zero, Nat.le_refl, Nat.zero_le, and_self, or_true, true_or, true_and, and_true, ne_eq, not_false_eq_true, Nat.reduceLT, Nat.reduceLeDiff, Nat.reduceAdd, Nat.reduceEqDiff, hgn_eq, hgn_lt, hgn_le, if_true, if_false, reduceIte, Nat.not_lt_zero, hgs_aa_d, hgs_aa_r, hgs_aa_h, hgs_aa_m, hgs_aa_t, hgs_ld_wp, hgs_st_wp, hgs_ld_qf, hgs_st_qf, hgs_ld_qt, hgs_st_qt, hgs_ld_2, hgs_st_2, hgs_ld_3, hgs_st_3, hgs_ld_4, hgs_st_4, hgs_ld_301, hgs_st_301, hgs_ld_D, hgs_st_D, hgs_ld_s, hgs_ld_T, hgs_st_T, hgs_ld_o, hgs_st_o, hgs_ld_b, hgs_st_b, hgs_ld_z, hgs_st_z, hgs_al_b, hgx_alen_s, hgn_add, hgn_mul, hw, hg, hn, h1, h2, h3, h4, k5]
theorem vLine_1 : ∀ (F b : Nat) (V : hgV) (S : Nat → Bool), (vLine F b V S).1.1 = V.1 ∧ vS (vLine F b V S).1 = vS V ∧ vU (vLine F b V S).1 = vU V ∧ vP (vLine F b V S).1 = vP V ∧ vH (vLine F b V S).1 = vH V
  | 0, _, _, _ => ⟨rfl, rfl, rfl, rfl, rfl⟩
  | F + 1, b, V, S => by
    unfold vLine
    split
    · exact ⟨rfl, rfl, rfl, rfl, rfl⟩
    · split
      · exact ⟨rfl, rfl, rfl, rfl, rfl⟩
      · split
        · next i _ _ z Q _ _ => exact vLine_1 F (b - z.1.toNatClampNeg) (vServe V i z Q) (fun j => if j = i then true else S j)
        · exact ⟨rfl, rfl, rfl, rfl, rfl⟩
/-- what the beginning of a tick keeps -/
theorem hgVok_bt (hk : hgVok V c) : hgVok (vBt V i) c := by
  obtain ⟨k1, k2, k3, k4, k5⟩ := hk
  have l := hgLi_bt (V := V) (i := i)
  unfold vBt
  split
  · split
    · refine ⟨k1, k2, k3, fun j hj => ?_, k5⟩
      have w := k4 j hj
      simp only [vN_ss, vR_ss, vW_ss, vS_ss, vD_ss, vT_ss, vQ_ss, vU_ss, vP_ss, vH_ss, vB_ss, vN_sd, vR_sd, vW_sd, vS_sd, vD_sd, vT_sd, vQ_sd, vU_sd, vP_sd, vH_sd, vB_sd, vN_st, vR_st, vW_st, vS_st, vD_st, vT_st, vQ_st, vU_st, vP_st, vH_st, vB_st, vN_sq, vR_sq, vW_sq, vS_sq, vD_sq, vT_sq, vQ_sq, vU_sq, vP_sq, vH_sq, vB_sq, Nat.reduceEqDiff, and_false, if_false, reduceIte]
      exact w
    · refine ⟨k1, k2, k3, fun j hj => ?_, k5⟩
      have w := k4 j hj
      simp only [vN_ss, vR_ss, vW_ss, vS_ss, vD_ss, vT_ss, vQ_ss, vU_ss, vP_ss, vH_ss, vB_ss, vN_sd, vR_sd, vW_sd, vS_sd, vD_sd, vT_sd, vQ_sd, vU_sd, vP_sd, vH_sd, vB_sd, vN_st, vR_st, vW_st, vS_st, vD_st, vT_st, vQ_st, vU_st, vP_st, vH_st, vB_st, vN_sq, vR_sq, vW_sq, vS_sq, vD_sq, vT_sq, vQ_sq, vU_sq, vP_sq, vH_sq, vB_sq, Nat.reduceEqDiff, and_false, if_false, reduceIte, and_true]
      by_cases e : j = i
      · subst e
        obtain ⟨w1, w2, w3, w4, w5, ⟨m, m1, m2⟩, w7⟩ := w
        refine ⟨w1, w2, w3, w4, w5, ⟨m - 1, by omega, ?_⟩, w7⟩
        next h5 =>
        rw [if_pos rfl, m2]
        rw [m2, hgn_eq (by omega) (by omega)] at h5
        rw [hgn_sub (by omega)]
      · simp only [e, if_false, reduceIte]
        exact w
  · exact ⟨k1, k2, k3, k4, k5⟩
theorem hgVok_bg : ∀ (k i : Nat) (V : hgV), hgVok V c → hgVok (vBg i k V) c
  | 0, _, _, h => h
  | k + 1, i, V, h => hgVok_bg k (i + 1) (vBt V i) (hgVok_bt h)
theorem hgVok_d6 (hk : hgVok V c) (hkk : k = 3 ∨ k = 4 ∨ k = 6 ∨ k = 8) : hgVok (vSd V i k x) c := by
  obtain ⟨k1, k2, k3, k4, k5⟩ := hk
  refine ⟨k1, k2, k3, fun j hj => ?_, k5⟩
  have w := k4 j hj
  rcases hkk with e | e | e | e <;> subst e <;> simp only [vN_ss, vR_ss, vW_ss, vS_ss, vD_ss, vT_ss, vQ_ss, vU_ss, vP_ss, vH_ss, vB_ss, vN_sd, vR_sd, vW_sd, vS_sd, vD_sd, vT_sd, vQ_sd, vU_sd, vP_sd, vH_sd, vB_sd, vN_st, vR_st, vW_st, vS_st, vD_st, vT_st, vQ_st, vU_st, vP_st, vH_st, vB_st, vN_sq, vR_sq, vW_sq, vS_sq, vD_sq, vT_sq, vQ_sq, vU_sq, vP_sq, vH_sq, vB_sq, Nat.reduceEqDiff, and_false, if_false, reduceIte] <;> exact w
theorem hgVok_et (hk : hgVok V c) : hgVok (vEt S V i) c := by
  unfold vEt
  split
  · split
    · split
      · split
        · exact hgVok_d6 (hgVok_d6 hk (by omega)) (by omega)
        · exact hgVok_d6 hk (by omega)
      · exact hgVok_d6 hk (by omega)
    · exact hgVok_d6 hk (by omega)
  · exact hk
theorem hgVok_en : ∀ (k i : Nat) (V : hgV), hgVok V c → hgVok (vEn S i k V) c
  | 0, _, _, h => h
  | k + 1, i, V, h => hgVok_en k (i + 1) (vEt S V i) (hgVok_et h)
theorem hgVok_s (hk : hgVok V c) (h : k ≠ 4 ∧ k ≠ 5) : hgVok (vSs V k x) c := by
  obtain ⟨k1, k2, k3, k4, k5, k6, k7, k8⟩ := hk
  refine ⟨k1, k2, k3, k4, k5, fun z => k6 ?_, ?_, k8⟩
  · rw [vS_ss, if_neg (by omega)] at z
    exact z
  · rw [vS_ss, if_neg (by omega)]
    exact k7
theorem vRt_e (hk : hgVok V c) : vRt V ≤ 999 ∧ vS V 4 = nI (vRt V) := by
  obtain ⟨r, h1, h2⟩ := hk.2.2.2.2.2.2.1
  have : vRt V = r := by unfold vRt; rw [h2]; exact hgn_cl (by omega)
  rw [this]
  exact ⟨h1, h2⟩
/-- the component's tick -/
theorem hgk_26 (hw : hgWf M) (hst : hgI M 1 3 = nI c) (hk : hgVok V c) (h : hgCV M g V) : ∃ M', hgWC X 26 [.ref g] M = some (.inl (.int (nI (vTickN V))), M') ∧ hgWf M' ∧ hgVok (vTick V) c ∧ hgCV M' g (vTick V) ∧ hgFm (hgPd g) M M' := by
  have hg := h.1
  have hg2 := hgGw_le hg
  have hm := hgSm_ok hk
  obtain ⟨r1, r2⟩ := vRt_e hk
  obtain ⟨M1, e1, w1, w2, w3, w4⟩ := hgk_26a (X := X) (vN V) 0 M V (by omega) hw hm h (fun j hj => by omega)
  have l1 := hgLi_bg (vN V) 0 V
  have nb : vN (vBg 0 (vN V) V) = vN V := hgLi_N l1
  have sb : vS (vBg 0 (vN V) V) = vS V := by unfold vS; rw [l1.2.1]
  have hk1 : hgVok (vBg 0 (vN V) V) c := hgVok_bg (vN V) 0 V hk
  obtain ⟨M2, e2, u1, u2, u3, u4, u5⟩ := hgk_27 (X := X) (S := fun _ => false) r1 (by rw [sb]; exact r2) w1 (by rw [(w3.2 1 (by unfold hgPd; omega) 3).1]; exact hst) hk1 w2 (fun j hj => by rw [w4 j (by omega)]; rfl)
  have l2 := vLine_1 (vRt V) (vRt V) (vBg 0 (vN V) V) (fun _ => false)
  have n2 : vN (vLine (vRt V) (vRt V) (vBg 0 (vN V) V) (fun _ => false)).1 = vN V := (show vN (vLine (vRt V) (vRt V) (vBg 0 (vN V) V) (fun _ => false)).1 = vN (vBg 0 (vN V) V) from congrArg (fun q => q.1) l2.1).trans nb
  obtain ⟨M3, e3, y1, y2, y3⟩ := hgk_26c (X := X) (x := nI (vTickN V)) (S := (vLine (vRt V) (vRt V) (vBg 0 (vN V) V) (fun _ => false)).2.1) (vN V) 0 M2 (vLine (vRt V) (vRt V) (vBg 0 (vN V) V) (fun _ => false)).1 (by omega) u1 (hgSm_ok u2) u3 (fun j _ hj => u5 j (by omega))
  have hk3 : hgVok (vEn (vLine (vRt V) (vRt V) (vBg 0 (vN V) V) (fun _ => false)).2.1 0 (vN V) (vLine (vRt V) (vRt V) (vBg 0 (vN V) V) (fun _ => false)).1) c := hgVok_en _ _ _ u2
  have s3 : hgI M3 g 12 = vS V 3 := by
    have l3 := hgLi_en (S := (vLine (vRt V) (vRt V) (vBg 0 (vN V) V) (fun _ => false)).2.1) (vN V) 0 (vLine (vRt V) (vRt V) (vBg 0 (vN V) V) (fun _ => false)).1
    rw [y2.2.2.2.2.1, ← sb, ← l2.2.1]
    unfold vS
    rw [l3.2.1]
  refine ⟨hgSI M3 g 12 (vS V 3 + nI 1), ?_, y1, hgVok_s hk3 (by omega), hgCV_ss y1 (hgSm_ok hk3) (Or.inl ⟨rfl, rfl⟩) y2, hgFm_SI (hgFm_t (hgFm_t w3 u4) y3) (by unfold hgPd; omega)⟩
  simp (maxDischargeDepth := 7) only [hgc26, hgM_t, hgM_f, hgM_n, hgx_iconst_0, hgx_istore_n_1i, hgx_istore_n_1r, hgx_istore_n_1f, hgx_istore_n_1n, hgx_istore_n_1l, hgx_iload_n_1, hgx_aload_n_0, hgx_get0, hgx_ic_ge, hgs_get_1_5, hgx_invvirtual_1, hgx_aft_e, hgx_aft_i, hgx_aft_l, hgx_aft_v, hgx_iinc_1_1, hgx_goto, hgx_istore_n_2i, hgx_istore_n_2r, hgx_istore_n_2f, hgx_istore_n_2n, hgx_istore_n_2l, hgx_iload_n_2, hgx_iinc_2_1, hgx_dup_i, hgx_dup_f, hgx_dup_r, hgx_iconst_1, hgx_iadd, hgx_put0, hgx_ret1, hgv26_0, hgr26_0, hgu26_0, hgv26_2, ← hgu26_2, hgv26_25, hgr26_25, hgu26_25, hgv26_32, ← hgu26_32, hgv26_55, hgr26_55, hgu26_55, hgI_SI, hgI_SJ, hgJ_SI, hgJ_SJ, if_true, if_false, reduceIte, Nat.reduceEqDiff, hgWf_SI, hgWf_SJ, hgO_SI, hgO_SJ, hgAr_SI, hgAr_SJ, hgRp_SI, hgRp_SJ, hgN_SI, hgN_SJ, hgO_g, hgO_d, hgO_rl, hgO_r, hgO_0, hgO_1, hgO_64, hgO_298, hgO_300, hgCd_0, hgCd_1, hgCd_2, hgCd_3, hgCd_4, hgCd_5, hgRecv_O, hgRecv_99, List.length_cons, List.length_nil, Nat.zero_add, Nat.add_zero, Nat.le_refl, Nat.zero_le, and_self, or_true, true_or, true_and, and_true, ne_eq, not_false_eq_true, Nat.reduceLT, Nat.reduceLeDiff, Nat.reduceAdd, Nat.reduceEqDiff, hgn_eq, hgn_lt, hgn_le, if_true, if_false, reduceIte, Nat.not_lt_zero]
  rw [e1, hgu26_25]
  simp (maxDischargeDepth := 7) only [hgM_t, hgM_f, hgM_n, hgx_iconst_0, hgx_istore_n_1i, hgx_istore_n_1r, hgx_istore_n_1f, hgx_istore_n_1n, hgx_istore_n_1l, hgx_iload_n_1, hgx_aload_n_0, hgx_get0, hgx_ic_ge, hgs_get_1_5, hgx_invvirtual_1, hgx_aft_e, hgx_aft_i, hgx_aft_l, hgx_aft_v, hgx_iinc_1_1, hgx_goto, hgx_istore_n_2i, hgx_istore_n_2r, hgx_istore_n_2f, hgx_istore_n_2n, hgx_istore_n_2l, hgx_iload_n_2, hgx_iinc_2_1, hgx_dup_i, hgx_dup_f, hgx_dup_r, hgx_iconst_1, hgx_iadd, hgx_put0, hgx_ret1, hgv26_0, hgr26_0, hgu26_0, hgv26_2, ← hgu26_2, hgv26_25, hgr26_25, hgu26_25, hgv26_32, ← hgu26_32, hgv26_55, hgr26_55, hgu26_55, hgI_SI, hgI_SJ, hgJ_SI, hgJ_SJ, if_true, if_false, reduceIte, Nat.reduceEqDiff, hgWf_SI, hgWf_SJ, hgO_SI, hgO_SJ, hgAr_SI, hgAr_SJ, hgRp_SI, hgRp_SJ, hgN_SI, hgN_SJ, hgO_g, hgO_d, hgO_rl, hgO_r, hgO_0, hgO_1, hgO_64, hgO_298, hgO_300, hgCd_0, hgCd_1, hgCd_2, hgCd_3, hgCd_4, hgCd_5, hgRecv_O, hgRecv_99, List.length_cons, List.length_nil, Nat.zero_add, Nat.add_zero, Nat.le_refl, Nat.zero_le, and_self, or_true, true_or, true_and, and_true, ne_eq, not_false_eq_true, Nat.reduceLT, Nat.reduceLeDiff, Nat.reduceAdd, Nat.reduceEqDiff, hgn_eq, hgn_lt, hgn_le, if_true, if_false, reduceIte, Nat.not_lt_zero, w1, hg, e2]
  have e3' := e3
  unfold vTickN at e3'
  rw [e3', hgu26_55]
  simp (maxDischargeDepth := 7) only [hgM_t, hgM_f, hgM_n, hgx_iconst_0, hgx_istore_n_1i, hgx_istore_n_1r, hgx_istore_n_1f, hgx_istore_n_1n, hgx_istore_n_1l, hgx_iload_n_1, hgx_aload_n_0, hgx_get0, hgx_ic_ge, hgs_get_1_5, hgx_invvirtual_1, hgx_aft_e, hgx_aft_i, hgx_aft_l, hgx_aft_v, hgx_iinc_1_1, hgx_goto, hgx_istore_n_2i, hgx_istore_n_2r, hgx_istore_n_2f, hgx_istore_n_2n, hgx_istore_n_2l, hgx_iload_n_2, hgx_iinc_2_1, hgx_dup_i, hgx_dup_f, hgx_dup_r, hgx_iconst_1, hgx_iadd, hgx_put0, hgx_ret1, hgv26_0, hgr26_0, hgu26_0, hgv26_2, ← hgu26_2, hgv26_25, hgr26_25, hgu26_25, hgv26_32, ← hgu26_32, hgv26_55, hgr26_55, hgu26_55, hgI_SI, hgI_SJ, hgJ_SI, hgJ_SJ, if_true, if_false, reduceIte, Nat.reduceEqDiff, hgWf_SI, hgWf_SJ, hgO_SI, hgO_SJ, hgAr_SI, hgAr_SJ, hgRp_SI, hgRp_SJ, hgN_SI, hgN_SJ, hgO_g, hgO_d, hgO_rl, hgO_r, hgO_0, hgO_1, hgO_64, hgO_298, hgO_300, hgCd_0, hgCd_1, hgCd_2, hgCd_3, hgCd_4, hgCd_5, hgRecv_O, hgRecv_99, List.length_cons, List.length_nil, Nat.zero_add, Nat.add_zero, Nat.le_refl, Nat.zero_le, and_self, or_true, true_or, true_and, and_true, ne_eq, not_false_eq_true, Nat.reduceLT, Nat.reduceLeDiff, Nat.reduceAdd, Nat.reduceEqDiff, hgn_eq, hgn_lt, hgn_le, if_true, if_false, reduceIte, Nat.not_lt_zero, y1, hg, s3]
  rfl
end HGSTP

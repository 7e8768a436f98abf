/-! THE LINE: packets are served while the budget lasts, both sides. -/
theorem hgn_clz {n : Nat} (h : n < 2147483648) : (nI n).toNatClampNeg = n := hgn_cl h
theorem hgn_div {n m : Nat} (h1 : n < 2147483648) (h2 : 0 < m) (h3 : m < 2147483648) : nI n / nI m = nI (n / m) := by
  have hlt : n / m < 2147483648 := Nat.lt_of_le_of_lt (Nat.div_le_self n m) h1
  apply Int32.toInt_inj.mp
  rw [Int32.toInt_div, hgn_int h1, hgn_int h3, hgn_int hlt, ← Int.ofNat_tdiv]
  generalize n / m = y at hlt
  rw [Int.bmod_eq_of_le]
  · omega
  · omega
theorem hgmx (a b : Int32) : (if a ≤ b then b else a) = (if a < b then b else a) := by
  by_cases h : a < b
  · rw [if_pos h, if_pos (Int32.le_of_lt h)]
  · rw [if_neg h]
    by_cases h2 : a ≤ b
    · rw [if_pos h2]
      exact Int32.le_antisymm (Int32.not_lt.mp h) h2
    · rw [if_neg h2]
section HGLIN
variable {X : hgX} {M M' : hgMem} {d t g i j q c k a b n p : Nat} {V V' : hgV} {x y : Int32} {z : Int32 × Int32} {u : Int64} {Q : List (Int32 × Int32)} {B : List Nat} {S : Nat → Bool} {P : Nat → Prop}
theorem vBest_lt (h : vBest V = some i) : i < vN V ∧ ∃ z Q, vQ V i = z :: Q := by
  have w := hgBest_lt (n := vN V) (vN V) 0 none (by omega) (fun c hc => by cases hc) i h
  refine ⟨w.1, ?_⟩
  have w2 := w.2
  unfold vCan at w2
  cases hq : vQ V i with
  | nil => rw [hq] at w2; simp at w2
  | cons z Q => exact ⟨z, Q, rfl⟩
/-- what serving keeps -/
theorem hgVok_serve (hk : hgVok V c) (hi : i < vN V) (hq : vQ V i = z :: Q) : hgVok (vServe V i z Q) c := by
  obtain ⟨k1, k2, k3, k4, k5, k6, k7, k8, k9⟩ := hk
  refine ⟨k1, k2, k3, fun j hj => ?_, k5, k6, k7, k8, k9⟩
  have w := k4 j hj
  unfold vServe
  simp only [vN_ss, vR_ss, vW_ss, vS_ss, vD_ss, vT_ss, vQ_ss, vU_ss, vP_ss, vH_ss, vB_ss, vN_sd, vR_sd, vW_sd, vS_sd, vD_sd, vT_sd, vQ_sd, vU_sd, vP_sd, vH_sd, vB_sd, vN_st, vR_st, vW_st, vS_st, vD_st, vT_st, vQ_st, vU_st, vP_st, vH_st, vB_st, vN_sq, vR_sq, vW_sq, vS_sq, vD_sq, vT_sq, vQ_sq, vU_sq, vP_sq, vH_sq, vB_sq]
  by_cases e : j = i
  · subst e
    rw [hq] at w
    obtain ⟨w1, ⟨wt, t1, t2, t3⟩, w3, w4, w5, w6, w7, ⟨m, m1, m2⟩, u1, u2⟩ := w
    obtain ⟨s, s1, s2, s3⟩ := w4 z (by simp)
    rw [List.length_cons] at w3 m2 u2
    simp only [true_and, and_true, if_true, reduceIte, Nat.reduceEqDiff, if_false]
    refine ⟨w1, ⟨wt, t1, t2, t3⟩, by omega, fun z9 hz9 => w4 z9 (List.mem_cons_of_mem _ hz9), w5, w6, fun p hp => w7 p (List.mem_of_mem_tail hp), ⟨m + s, by rw [m1, s3, hgn_add], by omega⟩, ?_⟩
    have hs : 2520 * s / wt ≤ 249480 := Nat.le_trans (Nat.div_le_self _ _) (by omega)
    have ex : nI 2520 * z.1 / vD V j 1 = nI (2520 * s / wt) := by rw [s3, t3, hgn_mul, hgn_div (by omega) (by omega) (by omega)]
    have ei : ((nI (2520 * s / wt)).toInt64).toInt = ((2520 * s / wt : Nat) : Int) := by rw [Int32.toInt_toInt64, hgn_int (by omega)]
    rw [ex]
    generalize 2520 * s / wt = y at hs ei
    have ea : (vT V j + (nI y).toInt64).toInt = (vT V j).toInt + (y : Int) := by
      rw [Int64.toInt_add, ei]
      rw [Int.bmod_eq_of_le]
      · omega
      · omega
    rw [ea]
    omega
  · have z1 : ∀ k, ¬ (j = i ∧ k = 8) := fun k => by omega
    simp only [e, false_and, if_false, reduceIte]
    exact w
theorem hgSm_serve (hm : hgSm V) (hi : i < vN V) (hq : vQ V i = z :: Q) : hgSm (vServe V i z Q) := by
  have := hgSm_pop (V := vSd V i 8 (if vD V i 8 < vS V 3 - z.2 then vS V 3 - z.2 else vD V i 8)) (B := (vB V i).tail) hm hi hq
  exact this
/-- the component serves -/
theorem hgCV_serve (hw : hgWf M) (hm : hgSm V) (hi : i < vN V) (hq : vQ V i = z :: Q) (h : hgCV M g V) : ∃ p, p ∈ vB V i ∧ hgI M (g + 2 + i) 10 = nI p ∧ hgI M 2 p = z.1 ∧ hgI M 3 p = z.2 ∧ hgCV (hgSI (hgSJ (hgSI (hgSI (hgSI (hgSI (hgSI M (g + 2 + i) 9 (if hgI M (g + 2 + i) 9 < hgI M g 12 - hgI M 3 p then hgI M g 12 - hgI M 3 p else hgI M (g + 2 + i) 9)) (g + 2 + i) 10 (hgI M 4 p)) (g + 2 + i) 12 (hgI M (g + 2 + i) 12 - nI 1)) (g + 2 + i) 13 (hgI M (g + 2 + i) 13 - hgI M 2 p)) (g + 2 + i) 8 (hgI M (g + 2 + i) 8 + hgI M 2 p)) (g + 2 + i) 7 (hgJ M (g + 2 + i) 7 + (nI 2520 * hgI M 2 p / hgI M (g + 2 + i) 1).toInt64)) (g + 2 + i) 14 (nI 1)) g (vServe V i z Q) := by
  have hN := hm.1
  have hg := hgGw_le h.1
  have hd := h.2.2.2.2.2.2.2.2.2.2.2.1 i hi
  have e9 : hgI M (g + 2 + i) 9 = vD V i 8 := hd.1 8 (by omega)
  have e8 : hgI M (g + 2 + i) 8 = vD V i 7 := hd.1 7 (by omega)
  have e1 : hgI M (g + 2 + i) 1 = vD V i 1 := hd.1 1 (by omega)
  have ec := h.2.2.2.2.1
  have h1 := hgCV_sd (k := 8) (x := if vD V i 8 < vS V 3 - z.2 then vS V 3 - z.2 else vD V i 8) hw hm (show i < 10 by omega) (by omega) h
  obtain ⟨p, B, b1, b2, b3, b4, b5⟩ := hgCV_pop (V := vSd V i 8 (if vD V i 8 < vS V 3 - z.2 then vS V 3 - z.2 else vD V i 8)) (M := hgSI M (g + 2 + i) (hgFs 8) (if vD V i 8 < vS V 3 - z.2 then vS V 3 - z.2 else vD V i 8)) hw hm hi hq (by have := hm.2.2.2 i hi; rw [hq, List.length_cons] at this; omega) h1
  have o : hgFs 8 = 9 := rfl
  rw [o] at b2 b3 b4 b5
  rw [hgI_nk (by omega)] at b2
  rw [hgI_na (by omega)] at b3 b4
  rw [hgI_na (show (4 : Nat) ≠ g + 2 + i by omega), hgI_nk (show (12 : Nat) ≠ 9 by omega), hgI_nk (show (13 : Nat) ≠ 9 by omega)] at b5
  have bB : vB V i = p :: B := b1
  refine ⟨p, by rw [bB]; simp, b2, b3, b4, ?_⟩
  have hm2 : hgSm (vSq (vSd V i 8 (if vD V i 8 < vS V 3 - z.2 then vS V 3 - z.2 else vD V i 8)) i Q B) := hgSm_pop (V := vSd V i 8 (if vD V i 8 < vS V 3 - z.2 then vS V 3 - z.2 else vD V i 8)) hm hi hq
  have h3 := hgCV_sd2 (k := 7) (x := vD V i 7 + z.1) b5 hw hm2 (show i < 10 by omega) (by omega)
  have h4 := hgCV_st2 (u := vT V i + (nI 2520 * z.1 / vD V i 1).toInt64) h3 hw hm2 (show i < 10 by omega)
  have h5 := hgCV_s142 (x := nI 1) h4 hw hm2 (show i < 10 by omega) (Or.inr rfl)
  rw [b3, b4, e9, e8, e1, ec, hd.2.1]
  have e7 : vServe V i z Q = vSt (vSd (vSq (vSd V i 8 (if vD V i 8 < vS V 3 - z.2 then vS V 3 - z.2 else vD V i 8)) i Q B) i 7 (vD V i 7 + z.1)) i (vT V i + (nI 2520 * z.1 / vD V i 1).toInt64) := by
    unfold vServe
    rw [bB]
    rfl
  rw [e7]
  exact h5
/-- the reference delivers -/
theorem hgRV_163 (hk : hgVok V c) (hi : i < vN V) (hq : vQ V i = z :: Q) (h : hgRV M d t V) : hgWC X 163 [.ref d, .ref t, .int (nI i)] M = some (.inl .null, hgDl M d t i Q.length) ∧ hgRV (hgDl M d t i Q.length) d t (vServe V i z Q) := by
  have hm := hgSm_ok hk
  have hN := hm.1
  have e := h.2.2.2.2.2.2.2.1 i hi
  have hl := hm.2.2.2 i hi
  rw [hq, List.length_cons] at hl
  have e9 := e.2.1
  rw [hq, List.length_cons] at e9
  obtain ⟨w, w1, w2, w3⟩ := (hk.2.2.2.1 i hi).2.1
  have e1 := e.1 1 (by omega)
  have e7 := e.1 7 (by omega)
  have e8 := e.1 8 (by omega)
  have ez := e.2.2.2 0 z (by rw [hq]; rfl)
  rw [show 1000 * i + 0 = 1000 * i from rfl] at ez
  refine ⟨hgk_163 h.1 h.2.1 h.2.2.1 (by omega) (by omega) e9 (by
    rw [e1, w3]
    intro q
    have : nI w = nI 0 := q
    rw [hgn_eq (by omega) (by omega)] at this
    omega), ?_⟩
  have h1 := hgRV_sd (k := 8) (x := if vD V i 8 < vS V 3 - z.2 then vS V 3 - z.2 else vD V i 8) hm (show i < 10 by omega) (by omega) h
  have h2 := hgRV_pop (V := vSd V i 8 (if vD V i 8 < vS V 3 - z.2 then vS V 3 - z.2 else vD V i 8)) (B := (vB V i).tail) hm hi hq h1
  have hm2 : hgSm (vSq (vSd V i 8 (if vD V i 8 < vS V 3 - z.2 then vS V 3 - z.2 else vD V i 8)) i Q (vB V i).tail) := hgSm_pop (V := vSd V i 8 (if vD V i 8 < vS V 3 - z.2 then vS V 3 - z.2 else vD V i 8)) hm hi hq
  have h3 := hgRV_st2 (u := vT V i + (nI 2520 * z.1 / vD V i 1).toInt64) h2 hm2 (show i < 10 by omega)
  have h4 := hgRV_sd2 (k := 7) (x := vD V i 7 + z.1) h3 hm2 (show i < 10 by omega) (by omega)
  unfold hgDl
  rw [ez.1, ez.2, e1, e7, e8, e.2.2.1, h.2.2.2.2.2.2.1 3 (by omega) (by omega), hgmx]
  exact h4
theorem hgDl_fr : hgFm (fun b => b = d ∨ b = t) M (hgDl M d t i n) := by
  unfold hgDl
  refine hgFm_SI (hgFm_SJ ?_ (Or.inr rfl)) (Or.inl rfl)
  refine ⟨(hgShf_N _ _ _).trans rfl, fun b hb k => ⟨?_, (hgShf_J _ _ _ _ _).trans rfl, (hgShf_R _ _ _ _ _).trans rfl⟩⟩
  rw [hgShf_I, if_neg (fun e => hb (Or.inl e.1)), hgI_na (fun e => hb (Or.inl e)), hgI_na (fun e => hb (Or.inl e))]
theorem hgWf_Dl (hw : hgWf M) : hgWf (hgDl M d t i n) := hgWf_to hw hgDl_fr.1 (fun b j => (hgShf_R _ _ _ _ _).trans rfl)
/-- the component's line -/
theorem hgk_27l {r : Nat} (hr : r ≤ 999) : ∀ (F n b : Nat) (M : hgMem) (V : hgV) (S : Nat → Bool), n + F = r → b ≤ F → vS V 4 = nI r → hgWf M → hgI M 1 3 = nI c → hgVok V c → hgCV M g V → (∀ j, j < vN V → hgI M (g + 2 + j) 14 = hgB (S j)) → ∃ M', hgW X 27 7 [some (.ref g), some (.int (nI b)), some (.int (nI n)), none, none] [] (0, 0) M = some (.inl (.int (nI (n + (vLine F b V S).2.2))), M') ∧ hgWf M' ∧ hgVok (vLine F b V S).1 c ∧ hgCV M' g (vLine F b V S).1 ∧ hgFm (hgPd g) M M' ∧ (∀ j, j < vN V → hgI M' (g + 2 + j) 14 = hgB ((vLine F b V S).2.1 j)) := by
  intro F
  induction F with
  | zero =>
    intro n b M V S hn hb hr4 hw hst hk h hS
    have hg := h.1
    have e2 : hgI M g 2 = nI r := h.2.2.2.2.2.1.trans hr4
    have h1 : n < 2147483648 := by omega
    have h2 : r < 2147483648 := by omega
    have h3 : r ≤ n := by omega
    have h4 : r = n := by omega
    refine ⟨M, ?_, hw, hk, h, hgFm_r, hS⟩
    rw [hgu27_7]
    simp (maxDischargeDepth := 7) only [hgM_t, hgM_f, hgM_n, hgx_aload_n_0, hgx_get0, hgx_istore_n_1i, hgx_istore_n_1r, hgx_istore_n_1f, hgx_istore_n_1n, hgx_istore_n_1l, hgx_iconst_0, hgx_istore_n_2i, hgx_istore_n_2r, hgx_istore_n_2f, hgx_istore_n_2n, hgx_istore_n_2l, hgx_iload_n_2, hgx_ic_ge, hgx_invvirtual_1, hgx_aft_e, hgx_aft_i, hgx_aft_l, hgx_aft_v, hgx_istore_n_3i, hgx_istore_n_3r, hgx_istore_n_3f, hgx_istore_n_3n, hgx_istore_n_3l, hgx_iload_n_3, hgx_invvirtual_2, hgx_if_ne, hgx_ret1, hgs_get_1_0, hgs_get_1_5, hgx_istore_4i, hgx_istore_4r, hgx_istore_4f, hgx_istore_4n, hgx_istore_4l, hgx_iload_4, hgx_iload_n_1, hgx_ic_le, hgx_invvirtual_3, hgx_isub, hgx_iinc_2_1, hgx_goto, hgv27_0, hgr27_0, hgu27_0, hgv27_7, hgr27_7, hgv27_30, hgr27_30, hgu27_30, hgv27_56, hgr27_56, hgu27_56, hgv27_84, hgr27_84, hgu27_84, hgI_SI, hgI_SJ, hgJ_SI, hgJ_SJ, if_true, if_false, reduceIte, Nat.reduceEqDiff, hgWf_SI, hgWf_SJ, hgO_SI, hgO_SJ, hgAr_SI, hgAr_SJ, hgRp_SI, hgRp_SJ, hgN_SI, hgN_SJ, hgO_g, hgO_d, hgO_rl, hgO_r, hgO_0, hgO_1, hgO_64, hgO_298, hgO_300, hgCd_0, hgCd_1, hgCd_2, hgCd_3, hgCd_4, hgCd_5, hgRecv_O, hgRecv_99, List.length_cons, List.length_nil, Nat.zero_add, Nat.add_zero, Nat.le_refl, Nat.zero_le, and_self, or_true, true_or, true_and, and_true, ne_eq, not_false_eq_true, Nat.reduceLT, Nat.reduceLeDiff, Nat.reduceAdd, Nat.reduceEqDiff, hgn_eq, hgn_lt, hgn_le, if_true, if_false, reduceIte, Nat.not_lt_zero, hw, hg, e2, h1, h2, h3, vLine]
    rw [h4]
  | succ F ih =>
    intro n b M V S hn hb hr4 hw hst hk h hS
    have hg := h.1
    have hm := hgSm_ok hk
    have hN := hm.1
    have e2 : hgI M g 2 = nI r := h.2.2.2.2.2.1.trans hr4
    have h1 : n < 2147483648 := by omega
    have h2 : r < 2147483648 := by omega
    have h3 : ¬ r ≤ n := by omega
    have k28 := hgCV_28 (X := X) hw h hk
    cases hbest : vBest V with
    | none =>
      have k16 := hgk_16n (X := X) hw hg
      refine ⟨M, ?_, hw, ?_, ?_, hgFm_r, ?_⟩
      · rw [hgu27_7]
        rw [hbest] at k28
        simp (maxDischargeDepth := 7) only [hgM_t, hgM_f, hgM_n, hgx_aload_n_0, hgx_get0, hgx_istore_n_1i, hgx_istore_n_1r, hgx_istore_n_1f, hgx_istore_n_1n, hgx_istore_n_1l, hgx_iconst_0, hgx_istore_n_2i, hgx_istore_n_2r, hgx_istore_n_2f, hgx_istore_n_2n, hgx_istore_n_2l, hgx_iload_n_2, hgx_ic_ge, hgx_invvirtual_1, hgx_aft_e, hgx_aft_i, hgx_aft_l, hgx_aft_v, hgx_istore_n_3i, hgx_istore_n_3r, hgx_istore_n_3f, hgx_istore_n_3n, hgx_istore_n_3l, hgx_iload_n_3, hgx_invvirtual_2, hgx_if_ne, hgx_ret1, hgs_get_1_0, hgs_get_1_5, hgx_istore_4i, hgx_istore_4r, hgx_istore_4f, hgx_istore_4n, hgx_istore_4l, hgx_iload_4, hgx_iload_n_1, hgx_ic_le, hgx_invvirtual_3, hgx_isub, hgx_iinc_2_1, hgx_goto, hgv27_0, hgr27_0, hgu27_0, hgv27_7, hgr27_7, hgv27_30, hgr27_30, hgu27_30, hgv27_56, hgr27_56, hgu27_56, hgv27_84, hgr27_84, hgu27_84, hgI_SI, hgI_SJ, hgJ_SI, hgJ_SJ, if_true, if_false, reduceIte, Nat.reduceEqDiff, hgWf_SI, hgWf_SJ, hgO_SI, hgO_SJ, hgAr_SI, hgAr_SJ, hgRp_SI, hgRp_SJ, hgN_SI, hgN_SJ, hgO_g, hgO_d, hgO_rl, hgO_r, hgO_0, hgO_1, hgO_64, hgO_298, hgO_300, hgCd_0, hgCd_1, hgCd_2, hgCd_3, hgCd_4, hgCd_5, hgRecv_O, hgRecv_99, List.length_cons, List.length_nil, Nat.zero_add, Nat.add_zero, Nat.le_refl, Nat.zero_le, and_self, or_true, true_or, true_and, and_true, ne_eq, not_false_eq_true, Nat.reduceLT, Nat.reduceLeDiff, Nat.reduceAdd, Nat.reduceEqDiff, hgn_eq, hgn_lt, hgn_le, if_true, if_false, reduceIte, Nat.not_lt_zero, hw, hg, e2, h1, h2, h3, k28, k16, hgOi_n, vLine, hbest]
      · simp only [vLine, hbest]; exact hk
      · simp only [vLine, hbest]; exact h
      · simp only [vLine, hbest]; exact hS
    | some i =>
      obtain ⟨hi, z, Q, hq⟩ := vBest_lt hbest
      have hi10 : i < 10 := by omega
      have k16 := hgk_16s (X := X) hw hg h.2.1 hN hi
      rw [hbest] at k28
      obtain ⟨s, s1, s2, s3⟩ := (hk.2.2.2.1 i hi).2.2.2.1 z (by rw [hq]; simp)
      obtain ⟨p, p1, p2, p3, p4, p5⟩ := hgCV_serve hw hm hi hq h
      have pc : p < c := (hk.2.2.2.1 i hi).2.2.2.2.2.2.1 p p1
      have hc : c ≤ 512 := hk.2.2.2.2.2.2.2.2
      have k39 := hgk_39 (X := X) hw hst hc pc
      have b1 : b < 2147483648 := by omega
      have b2 : s < 2147483648 := by omega
      by_cases hsb : s ≤ b
      · have z1 : z.1 ≤ nI b := by rw [s3, hgn_le b2 b1]; exact hsb
        have hcl : z.1.toNatClampNeg = s := by rw [s3]; exact hgn_cl b2
        obtain ⟨wt, wt1, wt2, wt3⟩ := (hk.2.2.2.1 i hi).2.1
        have ew : hgI M (g + 2 + i) 1 = nI wt := ((h.2.2.2.2.2.2.2.2.2.2.2.1 i hi).1 1 (by omega)).trans wt3
        have ew1 : nI 0 < hgI M (g + 2 + i) 1 := by rw [ew, hgn_lt (by omega) (by omega)]; omega
        have ew2 : hgI M (g + 2 + i) 1 ≠ 0 := by
          rw [ew]
          intro q
          have : nI wt = nI 0 := q
          rw [hgn_eq (by omega) (by omega)] at this
          omega
        have k7 := hgk_7 (X := X) (x := hgI M g 12) hw (hgO_d hw hg hi10) (by have := hgGw_le hg; omega) hst hc p2 pc ew1 ew2
        obtain ⟨M', e, w1, w2, w3, w4, w5⟩ := ih (n + 1) (b - s) (hgSI (hgSJ (hgSI (hgSI (hgSI (hgSI (hgSI M (g + 2 + i) 9 (if hgI M (g + 2 + i) 9 < hgI M g 12 - hgI M 3 p then hgI M g 12 - hgI M 3 p else hgI M (g + 2 + i) 9)) (g + 2 + i) 10 (hgI M 4 p)) (g + 2 + i) 12 (hgI M (g + 2 + i) 12 - nI 1)) (g + 2 + i) 13 (hgI M (g + 2 + i) 13 - hgI M 2 p)) (g + 2 + i) 8 (hgI M (g + 2 + i) 8 + hgI M 2 p)) (g + 2 + i) 7 (hgJ M (g + 2 + i) 7 + (nI 2520 * hgI M 2 p / hgI M (g + 2 + i) 1).toInt64)) (g + 2 + i) 14 (nI 1)) (vServe V i z Q) (fun j => if j = i then true else S j) (by omega) (by omega) hr4 hw (by
            have hg2 := hgGw_le hg
            have ne : (1 : Nat) ≠ g + 2 + i := by omega
            rw [hgI_na ne, hgI_SJ, hgI_na ne, hgI_na ne, hgI_na ne, hgI_na ne, hgI_na ne]
            exact hst) (hgVok_serve hk hi hq) p5 (fun j hj => by
            by_cases hji : j = i
            · rw [hji, hgI_at, if_pos rfl]; rfl
            · have ne : g + 2 + j ≠ g + 2 + i := by omega
              rw [if_neg hji, hgI_na ne, hgI_SJ, hgI_na ne, hgI_na ne, hgI_na ne, hgI_na ne, hgI_na ne]
              exact hS j hj)
        have el : vLine (F + 1) b V S = ((vLine F (b - s) (vServe V i z Q) (fun j => if j = i then true else S j)).1, (vLine F (b - s) (vServe V i z Q) (fun j => if j = i then true else S j)).2.1, (vLine F (b - s) (vServe V i z Q) (fun j => if j = i then true else S j)).2.2 + 1) := by
          simp only [vLine, hbest, hq, if_pos z1, hcl]
        have pd : hgPd g (g + 2 + i) := ⟨by omega, by omega⟩
        rw [el]
        refine ⟨M', ?_, w1, w2, w3, hgFm_t (hgFm_SI (hgFm_SJ (hgFm_SI (hgFm_SI (hgFm_SI (hgFm_SI (hgFm_SI hgFm_r pd) pd) pd) pd) pd) pd) pd) w4, w5⟩
        rw [hgu27_7]
        simp (maxDischargeDepth := 7) only [hgM_t, hgM_f, hgM_n, hgx_aload_n_0, hgx_get0, hgx_istore_n_1i, hgx_istore_n_1r, hgx_istore_n_1f, hgx_istore_n_1n, hgx_istore_n_1l, hgx_iconst_0, hgx_istore_n_2i, hgx_istore_n_2r, hgx_istore_n_2f, hgx_istore_n_2n, hgx_istore_n_2l, hgx_iload_n_2, hgx_ic_ge, hgx_invvirtual_1, hgx_aft_e, hgx_aft_i, hgx_aft_l, hgx_aft_v, hgx_istore_n_3i, hgx_istore_n_3r, hgx_istore_n_3f, hgx_istore_n_3n, hgx_istore_n_3l, hgx_iload_n_3, hgx_invvirtual_2, hgx_if_ne, hgx_ret1, hgs_get_1_0, hgs_get_1_5, hgx_istore_4i, hgx_istore_4r, hgx_istore_4f, hgx_istore_4n, hgx_istore_4l, hgx_iload_4, hgx_iload_n_1, hgx_ic_le, hgx_invvirtual_3, hgx_isub, hgx_iinc_2_1, hgx_goto, hgv27_0, hgr27_0, hgu27_0, hgv27_7, hgr27_7, hgv27_30, hgr27_30, hgu27_30, hgv27_56, hgr27_56, hgu27_56, hgv27_84, hgr27_84, hgu27_84, hgI_SI, hgI_SJ, hgJ_SI, hgJ_SJ, if_true, if_false, reduceIte, Nat.reduceEqDiff, hgWf_SI, hgWf_SJ, hgO_SI, hgO_SJ, hgAr_SI, hgAr_SJ, hgRp_SI, hgRp_SJ, hgN_SI, hgN_SJ, hgO_g, hgO_d, hgO_rl, hgO_r, hgO_0, hgO_1, hgO_64, hgO_298, hgO_300, hgCd_0, hgCd_1, hgCd_2, hgCd_3, hgCd_4, hgCd_5, hgRecv_O, hgRecv_99, List.length_cons, List.length_nil, Nat.zero_add, Nat.add_zero, Nat.le_refl, Nat.zero_le, and_self, or_true, true_or, true_and, and_true, ne_eq, not_false_eq_true, Nat.reduceLT, Nat.reduceLeDiff, Nat.reduceAdd, Nat.reduceEqDiff, hgn_eq, hgn_lt, hgn_le, if_true, if_false, reduceIte, Nat.not_lt_zero, hgs_aa_d, hgs_aa_r, hgs_aa_h, hgs_aa_m, hgs_aa_t, hgs_ld_wp, hgs_st_wp, hgs_ld_qf, hgs_st_qf, hgs_ld_qt, hgs_st_qt, hgs_ld_2, hgs_st_2, hgs_ld_3, hgs_st_3, hgs_ld_4, hgs_st_4, hgs_ld_301, hgs_st_301, hgs_ld_D, hgs_st_D, hgs_ld_s, hgs_ld_T, hgs_st_T, hgs_ld_o, hgs_st_o, hgs_ld_b, hgs_st_b, hgs_ld_z, hgs_st_z, hgs_al_b, hgx_alen_s, hgn_add, hgn_mul, hw, hg, e2, h1, h2, h3, k28, k16, hgOi_s, hi10, p2, k39, p3, s3, b1, b2, hsb, k7, hgn_sub]
        rw [p3, s3] at e
        simp only [hgn_add, hgn_mul] at e
        rw [show n + ((vLine F (b - s) (vServe V i z Q) (fun j => if j = i then true else S j)).2.2 + 1) = n + 1 + (vLine F (b - s) (vServe V i z Q) (fun j => if j = i then true else S j)).2.2 by omega]
        exact e
      · have z1 : ¬ z.1 ≤ nI b := by rw [s3, hgn_le b2 b1]; exact hsb
        refine ⟨M, ?_, hw, ?_, ?_, hgFm_r, ?_⟩
        · rw [hgu27_7]
          simp (maxDischargeDepth := 7) only [hgM_t, hgM_f, hgM_n, hgx_aload_n_0, hgx_get0, hgx_istore_n_1i, hgx_istore_n_1r, hgx_istore_n_1f, hgx_istore_n_1n, hgx_istore_n_1l, hgx_iconst_0, hgx_istore_n_2i, hgx_istore_n_2r, hgx_istore_n_2f, hgx_istore_n_2n, hgx_istore_n_2l, hgx_iload_n_2, hgx_ic_ge, hgx_invvirtual_1, hgx_aft_e, hgx_aft_i, hgx_aft_l, hgx_aft_v, hgx_istore_n_3i, hgx_istore_n_3r, hgx_istore_n_3f, hgx_istore_n_3n, hgx_istore_n_3l, hgx_iload_n_3, hgx_invvirtual_2, hgx_if_ne, hgx_ret1, hgs_get_1_0, hgs_get_1_5, hgx_istore_4i, hgx_istore_4r, hgx_istore_4f, hgx_istore_4n, hgx_istore_4l, hgx_iload_4, hgx_iload_n_1, hgx_ic_le, hgx_invvirtual_3, hgx_isub, hgx_iinc_2_1, hgx_goto, hgv27_0, hgr27_0, hgu27_0, hgv27_7, hgr27_7, hgv27_30, hgr27_30, hgu27_30, hgv27_56, hgr27_56, hgu27_56, hgv27_84, hgr27_84, hgu27_84, hgI_SI, hgI_SJ, hgJ_SI, hgJ_SJ, if_true, if_false, reduceIte, Nat.reduceEqDiff, hgWf_SI, hgWf_SJ, hgO_SI, hgO_SJ, hgAr_SI, hgAr_SJ, hgRp_SI, hgRp_SJ, hgN_SI, hgN_SJ, hgO_g, hgO_d, hgO_rl, hgO_r, hgO_0, hgO_1, hgO_64, hgO_298, hgO_300, hgCd_0, hgCd_1, hgCd_2, hgCd_3, hgCd_4, hgCd_5, hgRecv_O, hgRecv_99, List.length_cons, List.length_nil, Nat.zero_add, Nat.add_zero, Nat.le_refl, Nat.zero_le, and_self, or_true, true_or, true_and, and_true, ne_eq, not_false_eq_true, Nat.reduceLT, Nat.reduceLeDiff, Nat.reduceAdd, Nat.reduceEqDiff, hgn_eq, hgn_lt, hgn_le, if_true, if_false, reduceIte, Nat.not_lt_zero, hgs_aa_d, hgs_aa_r, hgs_aa_h, hgs_aa_m, hgs_aa_t, hgs_ld_wp, hgs_st_wp, hgs_ld_qf, hgs_st_qf, hgs_ld_qt, hgs_st_qt, hgs_ld_2, hgs_st_2, hgs_ld_3, hgs_st_3, hgs_ld_4, hgs_st_4, hgs_ld_301, hgs_st_301, hgs_ld_D, hgs_st_D, hgs_ld_s, hgs_ld_T, hgs_st_T, hgs_ld_o, hgs_st_o, hgs_ld_b, hgs_st_b, hgs_ld_z, hgs_st_z, hgs_al_b, hgx_alen_s, hgn_add, hgn_mul, hw, hg, e2, h1, h2, h3, k28, k16, hgOi_s, hi10, p2, k39, p3, s3, b1, b2, hsb, vLine, hbest, hq]
        · simp only [vLine, hbest, hq, if_neg z1]; exact hk
        · simp only [vLine, hbest, hq, if_neg z1]; exact h
        · simp only [vLine, hbest, hq, if_neg z1]; exact hS
theorem hgk_27 {r : Nat} (hr : r ≤ 999) (hr4 : vS V 4 = nI r) (hw : hgWf M) (hst : hgI M 1 3 = nI c) (hk : hgVok V c) (h : hgCV M g V) (hS : ∀ j, j < vN V → hgI M (g + 2 + j) 14 = hgB (S j)) : ∃ M', hgWC X 27 [.ref g] M = some (.inl (.int (nI (vLine r r V S).2.2)), M') ∧ hgWf M' ∧ hgVok (vLine r r V S).1 c ∧ hgCV M' g (vLine r r V S).1 ∧ hgFm (hgPd g) M M' ∧ (∀ j, j < vN V → hgI M' (g + 2 + j) 14 = hgB ((vLine r r V S).2.1 j)) := by
  obtain ⟨M', e, w⟩ := hgk_27l (X := X) hr r 0 r M V S (by omega) (by omega) hr4 hw hst hk h hS
  rw [Nat.zero_add] at e
  refine ⟨M', ?_, w⟩
  have e2 : hgI M g 2 = nI r := h.2.2.2.2.2.1.trans hr4
  have hg := h.1
  simp (maxDischargeDepth := 7) only [hgc27, hgM_t, hgM_f, hgM_n, hgx_aload_n_0, hgx_get0, hgx_istore_n_1i, hgx_istore_n_1r, hgx_istore_n_1f, hgx_istore_n_1n, hgx_istore_n_1l, hgx_iconst_0, hgx_istore_n_2i, hgx_istore_n_2r, hgx_istore_n_2f, hgx_istore_n_2n, hgx_istore_n_2l, hgx_iload_n_2, hgx_ic_ge, hgx_invvirtual_1, hgx_aft_e, hgx_aft_i, hgx_aft_l, hgx_aft_v, hgx_istore_n_3i, hgx_istore_n_3r, hgx_istore_n_3f, hgx_istore_n_3n, hgx_istore_n_3l, hgx_iload_n_3, hgx_invvirtual_2, hgx_if_ne, hgx_ret1, hgs_get_1_0, hgs_get_1_5, hgx_istore_4i, hgx_istore_4r, hgx_istore_4f, hgx_istore_4n, hgx_istore_4l, hgx_iload_4, hgx_iload_n_1, hgx_ic_le, hgx_invvirtual_3, hgx_isub, hgx_iinc_2_1, hgx_goto, hgv27_0, hgr27_0, hgu27_0, hgv27_7, ← hgu27_7, hgv27_30, hgr27_30, hgu27_30, hgv27_56, hgr27_56, hgu27_56, hgv27_84, hgr27_84, hgu27_84, hgI_SI, hgI_SJ, hgJ_SI, hgJ_SJ, if_true, if_false, reduceIte, Nat.reduceEqDiff, hgWf_SI, hgWf_SJ, hgO_SI, hgO_SJ, hgAr_SI, hgAr_SJ, hgRp_SI, hgRp_SJ, hgN_SI, hgN_SJ, hgO_g, hgO_d, hgO_rl, hgO_r, hgO_0, hgO_1, hgO_64, hgO_298, hgO_300, hgCd_0, hgCd_1, hgCd_2, hgCd_3, hgCd_4, hgCd_5, hgRecv_O, hgRecv_99, List.length_cons, List.length_nil, Nat.zero_add, Nat.add_zero, Nat.le_refl, Nat.zero_le, and_self, or_true, true_or, true_and, and_true, ne_eq, not_false_eq_true, Nat.reduceLT, Nat.reduceLeDiff, Nat.reduceAdd, Nat.reduceEqDiff, hgn_eq, hgn_lt, hgn_le, if_true, if_false, reduceIte, Nat.not_lt_zero, hw, hg, e2]
  exact e
end HGLIN

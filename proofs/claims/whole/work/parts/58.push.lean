/-! A PACKET COMES: the least time, and the end of a queue. -/
def hgOl : Option Int64 → Int64
  | none => 0
  | some t => t
def hgOm : Option Int64 → Int64
  | none => -lN 1
  | some t => t
def vLst (V : hgV) : Option Int64 := hgLeast (fun j => decide (0 < (vQ V j).length)) (vT V) none 0 (vN V)
def vMx (V : hgV) (i : Nat) : Int64 := match vLst V with
  | none => vT V i
  | some t => if vT V i < t then t else vT V i
theorem hgLeast_cg {f f' : Nat → Bool} {t t' : Nat → Int64} {n : Nat} : ∀ (k i : Nat) (b : Option Int64), i + k = n → (∀ j, j < n → f j = f' j ∧ t j = t' j) → hgLeast f t b i k = hgLeast f' t' b i k
  | 0, i, b, _, h => rfl
  | k + 1, i, b, hi, h => by
    unfold hgLeast
    rw [(h i (by omega)).1, (h i (by omega)).2]
    exact hgLeast_cg k (i + 1) _ (by omega) h
theorem hgLeast_of {f : Nat → Bool} {t : Nat → Int64} {n : Nat} : ∀ (k i : Nat) (b : Option Int64), i + k = n → (∀ c, b = some c → ∃ j, j < n ∧ c = t j) → ∀ c, hgLeast f t b i k = some c → ∃ j, j < n ∧ c = t j
  | 0, i, b, _, hb, c, h => hb c h
  | k + 1, i, b, hi, hb, c, h => by
    refine hgLeast_of k (i + 1) _ (by omega) (fun c hc => ?_) c h
    split at hc
    · cases hc; exact ⟨i, by omega, rfl⟩
    · exact hb c hc
theorem hgIds_l {M : hgMem} {l0 : Nat} : ∀ {b : List Nat} {f l : Int32}, hgIds M b f l → b.getLast? = some l0 → l = nI l0
  | [], _, _, _, h => by cases h
  | [p], _, _, h, h2 => by
    rw [List.getLast?_singleton] at h2
    cases h2
    exact h.2
  | p :: q :: r, f, l, h, h2 => by
    rw [List.getLast?_cons_cons] at h2
    exact hgIds_l h.2 h2
theorem hgIds_push {M M' : hgMem} {l0 c : Nat} : ∀ {b : List Nat} {f l : Int32}, hgIds M b f l → b.getLast? = some l0 → (∀ p ∈ b.dropLast, hgI M' 4 p = hgI M 4 p) → hgI M' 4 l0 = nI c → hgIds M' (b ++ [c]) f (nI c)
  | [], _, _, _, h, _, _ => by cases h
  | [p], f, l, h, h2, _, h4 => by
    rw [List.getLast?_singleton] at h2
    cases h2
    exact ⟨h.1, h4, rfl⟩
  | p :: q :: r, f, l, h, h2, h3, h4 => by
    rw [List.getLast?_cons_cons] at h2
    refine ⟨h.1, ?_⟩
    rw [h3 p (by simp [List.dropLast])]
    exact hgIds_push h.2 h2 (fun s hs => h3 s (by rw [List.dropLast_cons_of_ne_nil (by simp)]; exact List.mem_cons_of_mem _ hs)) h4
section HGPUS
variable {X : hgX} {M M' M1 M2 : hgMem} {d t g h i j q c k a b n p N l r : Nat} {V V' V1 W U : hgV} {Hs Hs' : List hgV} {x y z x1 x2 x3 x4 x5 s : Int32} {u : Int64} {P : Nat → Prop} {o : Option Nat} {S : Nat → Bool} {Q : List (Int32 × Int32)} {B : List Nat}
theorem hgk_24l (hw : hgWf M) (hg : hgGw g) (hn : hgI M g 6 = nI n) (hn2 : n ≤ 10) : ∀ (k i : Nat) (b : Option Int64), i + k = n → hgW X 24 7 [some (.ref g), some (.long (hgOl b)), none, some (.int (hgB b.isSome)), some (.int (nI i))] [] (0, 0) M = some (.inl (.long (hgOl (hgLeast (fun j => decide (nI 0 < hgI M (g + 2 + j) 12)) (fun j => hgJ M (g + 2 + j) 7) b i k))), M) := by
  intro k
  induction k with
  | zero =>
    intro i b hi
    have h1 : i < 2147483648 := by omega
    have h2 : n < 2147483648 := by omega
    have h3 : n ≤ i := by omega
    rw [hgu24_7]
    simp (maxDischargeDepth := 7) only [hgM_t, hgM_f, hgM_n, hgx_lconst_0, hgx_lstore_n_1i, hgx_lstore_n_1r, hgx_lstore_n_1f, hgx_lstore_n_1n, hgx_lstore_n_1l, hgx_iconst_0, hgx_istore_n_3i, hgx_istore_n_3r, hgx_istore_n_3f, hgx_istore_n_3n, hgx_istore_n_3l, hgx_istore_4i, hgx_istore_4r, hgx_istore_4f, hgx_istore_4n, hgx_istore_4l, hgx_iload_4, hgx_aload_n_0, hgx_get0, hgx_ic_ge, hgs_get_1_5, hgx_if_le, hgx_iload_n_3, hgx_if_eq, hgx_get1, hgx_lload_n_1, hgx_lcmp, hgx_if_ge, hgx_iconst_1, hgx_iinc_4_1, hgx_goto, hgx_lret, hgv24_0, hgr24_0, hgu24_0, hgv24_7, hgr24_7, hgv24_48, hgr24_48, hgu24_48, hgv24_61, hgr24_61, hgu24_61, hgv24_67, hgr24_67, hgu24_67, hgI_SI, hgI_SJ, hgJ_SI, hgJ_SJ, if_true, if_false, reduceIte, Nat.reduceEqDiff, hgWf_SI, hgWf_SJ, hgO_SI, hgO_SJ, hgAr_SI, hgAr_SJ, hgRp_SI, hgRp_SJ, hgN_SI, hgN_SJ, hgO_g, hgO_d, hgO_rl, hgO_r, hgO_0, hgO_1, hgO_64, hgO_298, hgO_300, hgCd_0, hgCd_1, hgCd_2, hgCd_3, hgCd_4, hgCd_5, hgRecv_O, hgRecv_99, List.length_cons, List.length_nil, Nat.zero_add, Nat.add_zero, Nat.le_refl, Nat.zero_le, and_self, or_true, true_or, true_and, and_true, ne_eq, not_false_eq_true, Nat.reduceLT, Nat.reduceLeDiff, Nat.reduceAdd, Nat.reduceEqDiff, hgn_eq, hgn_lt, hgn_le, if_true, if_false, reduceIte, Nat.not_lt_zero, hw, hg, hn, h1, h2, h3, hgLeast]
  | succ k ih =>
    intro i b hi
    have h1 : i < 2147483648 := by omega
    have h2 : n < 2147483648 := by omega
    have h3 : ¬ n ≤ i := by omega
    have h4 : i < 10 := by omega
    rw [hgu24_7]
    unfold hgLeast
    by_cases hc : nI 0 < hgI M (g + 2 + i) 12
    · have hc2 : ¬ hgI M (g + 2 + i) 12 ≤ nI 0 := Int32.not_le.mpr hc
      cases b with
      | none =>
        have ih' := ih (i + 1) (some (hgJ M (g + 2 + i) 7)) (by omega)
        have e : (if decide (nI 0 < hgI M (g + 2 + i) 12) = true ∧ (∀ c, (none : Option Int64) = some c → hgJ M (g + 2 + i) 7 < c) then some (hgJ M (g + 2 + i) 7) else none) = some (hgJ M (g + 2 + i) 7) := if_pos ⟨decide_eq_true hc, fun c h => by cases h⟩
        rw [e]
        simp (maxDischargeDepth := 7) only [hgM_t, hgM_f, hgM_n, hgx_lconst_0, hgx_lstore_n_1i, hgx_lstore_n_1r, hgx_lstore_n_1f, hgx_lstore_n_1n, hgx_lstore_n_1l, hgx_iconst_0, hgx_istore_n_3i, hgx_istore_n_3r, hgx_istore_n_3f, hgx_istore_n_3n, hgx_istore_n_3l, hgx_istore_4i, hgx_istore_4r, hgx_istore_4f, hgx_istore_4n, hgx_istore_4l, hgx_iload_4, hgx_aload_n_0, hgx_get0, hgx_ic_ge, hgs_get_1_5, hgx_if_le, hgx_iload_n_3, hgx_if_eq, hgx_get1, hgx_lload_n_1, hgx_lcmp, hgx_if_ge, hgx_iconst_1, hgx_iinc_4_1, hgx_goto, hgx_lret, hgv24_0, hgr24_0, hgu24_0, hgv24_7, hgr24_7, hgv24_48, hgr24_48, hgu24_48, hgv24_61, hgr24_61, hgu24_61, hgv24_67, hgr24_67, hgu24_67, hgI_SI, hgI_SJ, hgJ_SI, hgJ_SJ, if_true, if_false, reduceIte, Nat.reduceEqDiff, hgWf_SI, hgWf_SJ, hgO_SI, hgO_SJ, hgAr_SI, hgAr_SJ, hgRp_SI, hgRp_SJ, hgN_SI, hgN_SJ, hgO_g, hgO_d, hgO_rl, hgO_r, hgO_0, hgO_1, hgO_64, hgO_298, hgO_300, hgCd_0, hgCd_1, hgCd_2, hgCd_3, hgCd_4, hgCd_5, hgRecv_O, hgRecv_99, List.length_cons, List.length_nil, Nat.zero_add, Nat.add_zero, Nat.le_refl, Nat.zero_le, and_self, or_true, true_or, true_and, and_true, ne_eq, not_false_eq_true, Nat.reduceLT, Nat.reduceLeDiff, Nat.reduceAdd, Nat.reduceEqDiff, hgn_eq, hgn_lt, hgn_le, if_true, if_false, reduceIte, Nat.not_lt_zero, hgs_aa_d, hgs_aa_r, hgs_aa_h, hgs_aa_m, hgs_aa_t, hgs_ld_wp, hgs_st_wp, hgs_ld_qf, hgs_st_qf, hgs_ld_qt, hgs_st_qt, hgs_ld_2, hgs_st_2, hgs_ld_3, hgs_st_3, hgs_ld_4, hgs_st_4, hgs_ld_301, hgs_st_301, hgs_ld_D, hgs_st_D, hgs_ld_s, hgs_ld_T, hgs_st_T, hgs_ld_o, hgs_st_o, hgs_ld_b, hgs_st_b, hgs_ld_z, hgs_st_z, hgs_al_b, hgx_alen_s, hgn_add, hgn_mul, hw, hg, hn, h1, h2, h3, h4, hc2, Option.isSome_none, hgB_f]
        exact ih'
      | some c =>
        by_cases ht : hgJ M (g + 2 + i) 7 < c
        · have ih' := ih (i + 1) (some (hgJ M (g + 2 + i) 7)) (by omega)
          have e : (if decide (nI 0 < hgI M (g + 2 + i) 12) = true ∧ (∀ c9, some c = some c9 → hgJ M (g + 2 + i) 7 < c9) then some (hgJ M (g + 2 + i) 7) else some c) = some (hgJ M (g + 2 + i) 7) := if_pos ⟨decide_eq_true hc, fun c9 h => by cases h; exact ht⟩
          rw [e]
          simp (maxDischargeDepth := 7) only [hgM_t, hgM_f, hgM_n, hgx_lconst_0, hgx_lstore_n_1i, hgx_lstore_n_1r, hgx_lstore_n_1f, hgx_lstore_n_1n, hgx_lstore_n_1l, hgx_iconst_0, hgx_istore_n_3i, hgx_istore_n_3r, hgx_istore_n_3f, hgx_istore_n_3n, hgx_istore_n_3l, hgx_istore_4i, hgx_istore_4r, hgx_istore_4f, hgx_istore_4n, hgx_istore_4l, hgx_iload_4, hgx_aload_n_0, hgx_get0, hgx_ic_ge, hgs_get_1_5, hgx_if_le, hgx_iload_n_3, hgx_if_eq, hgx_get1, hgx_lload_n_1, hgx_lcmp, hgx_if_ge, hgx_iconst_1, hgx_iinc_4_1, hgx_goto, hgx_lret, hgv24_0, hgr24_0, hgu24_0, hgv24_7, hgr24_7, hgv24_48, hgr24_48, hgu24_48, hgv24_61, hgr24_61, hgu24_61, hgv24_67, hgr24_67, hgu24_67, hgI_SI, hgI_SJ, hgJ_SI, hgJ_SJ, if_true, if_false, reduceIte, Nat.reduceEqDiff, hgWf_SI, hgWf_SJ, hgO_SI, hgO_SJ, hgAr_SI, hgAr_SJ, hgRp_SI, hgRp_SJ, hgN_SI, hgN_SJ, hgO_g, hgO_d, hgO_rl, hgO_r, hgO_0, hgO_1, hgO_64, hgO_298, hgO_300, hgCd_0, hgCd_1, hgCd_2, hgCd_3, hgCd_4, hgCd_5, hgRecv_O, hgRecv_99, List.length_cons, List.length_nil, Nat.zero_add, Nat.add_zero, Nat.le_refl, Nat.zero_le, and_self, or_true, true_or, true_and, and_true, ne_eq, not_false_eq_true, Nat.reduceLT, Nat.reduceLeDiff, Nat.reduceAdd, Nat.reduceEqDiff, hgn_eq, hgn_lt, hgn_le, if_true, if_false, reduceIte, Nat.not_lt_zero, hgs_aa_d, hgs_aa_r, hgs_aa_h, hgs_aa_m, hgs_aa_t, hgs_ld_wp, hgs_st_wp, hgs_ld_qf, hgs_st_qf, hgs_ld_qt, hgs_st_qt, hgs_ld_2, hgs_st_2, hgs_ld_3, hgs_st_3, hgs_ld_4, hgs_st_4, hgs_ld_301, hgs_st_301, hgs_ld_D, hgs_st_D, hgs_ld_s, hgs_ld_T, hgs_st_T, hgs_ld_o, hgs_st_o, hgs_ld_b, hgs_st_b, hgs_ld_z, hgs_st_z, hgs_al_b, hgx_alen_s, hgn_add, hgn_mul, hw, hg, hn, h1, h2, h3, h4, hc2, Option.isSome_some, hgB_t, hgOl, hglt_cmp, hgge_cmp, ht, not_true]
          exact ih'
        · have ih' := ih (i + 1) (some c) (by omega)
          have e : (if decide (nI 0 < hgI M (g + 2 + i) 12) = true ∧ (∀ c9, some c = some c9 → hgJ M (g + 2 + i) 7 < c9) then some (hgJ M (g + 2 + i) 7) else some c) = some c := if_neg (fun q => ht (q.2 c rfl))
          rw [e]
          simp (maxDischargeDepth := 7) only [hgM_t, hgM_f, hgM_n, hgx_lconst_0, hgx_lstore_n_1i, hgx_lstore_n_1r, hgx_lstore_n_1f, hgx_lstore_n_1n, hgx_lstore_n_1l, hgx_iconst_0, hgx_istore_n_3i, hgx_istore_n_3r, hgx_istore_n_3f, hgx_istore_n_3n, hgx_istore_n_3l, hgx_istore_4i, hgx_istore_4r, hgx_istore_4f, hgx_istore_4n, hgx_istore_4l, hgx_iload_4, hgx_aload_n_0, hgx_get0, hgx_ic_ge, hgs_get_1_5, hgx_if_le, hgx_iload_n_3, hgx_if_eq, hgx_get1, hgx_lload_n_1, hgx_lcmp, hgx_if_ge, hgx_iconst_1, hgx_iinc_4_1, hgx_goto, hgx_lret, hgv24_0, hgr24_0, hgu24_0, hgv24_7, hgr24_7, hgv24_48, hgr24_48, hgu24_48, hgv24_61, hgr24_61, hgu24_61, hgv24_67, hgr24_67, hgu24_67, hgI_SI, hgI_SJ, hgJ_SI, hgJ_SJ, if_true, if_false, reduceIte, Nat.reduceEqDiff, hgWf_SI, hgWf_SJ, hgO_SI, hgO_SJ, hgAr_SI, hgAr_SJ, hgRp_SI, hgRp_SJ, hgN_SI, hgN_SJ, hgO_g, hgO_d, hgO_rl, hgO_r, hgO_0, hgO_1, hgO_64, hgO_298, hgO_300, hgCd_0, hgCd_1, hgCd_2, hgCd_3, hgCd_4, hgCd_5, hgRecv_O, hgRecv_99, List.length_cons, List.length_nil, Nat.zero_add, Nat.add_zero, Nat.le_refl, Nat.zero_le, and_self, or_true, true_or, true_and, and_true, ne_eq, not_false_eq_true, Nat.reduceLT, Nat.reduceLeDiff, Nat.reduceAdd, Nat.reduceEqDiff, hgn_eq, hgn_lt, hgn_le, if_true, if_false, reduceIte, Nat.not_lt_zero, hgs_aa_d, hgs_aa_r, hgs_aa_h, hgs_aa_m, hgs_aa_t, hgs_ld_wp, hgs_st_wp, hgs_ld_qf, hgs_st_qf, hgs_ld_qt, hgs_st_qt, hgs_ld_2, hgs_st_2, hgs_ld_3, hgs_st_3, hgs_ld_4, hgs_st_4, hgs_ld_301, hgs_st_301, hgs_ld_D, hgs_st_D, hgs_ld_s, hgs_ld_T, hgs_st_T, hgs_ld_o, hgs_st_o, hgs_ld_b, hgs_st_b, hgs_ld_z, hgs_st_z, hgs_al_b, hgx_alen_s, hgn_add, hgn_mul, hw, hg, hn, h1, h2, h3, h4, hc2, Option.isSome_some, hgB_t, hgOl, hglt_cmp, hgge_cmp, ht, not_false_eq_true]
          exact ih'
    · have hc2 : hgI M (g + 2 + i) 12 ≤ nI 0 := Int32.not_lt.mp hc
      have ih' := ih (i + 1) b (by omega)
      have e : (if decide (nI 0 < hgI M (g + 2 + i) 12) = true ∧ (∀ c, b = some c → hgJ M (g + 2 + i) 7 < c) then some (hgJ M (g + 2 + i) 7) else b) = b := if_neg (fun q => hc (of_decide_eq_true q.1))
      rw [e]
      simp (maxDischargeDepth := 7) only [hgM_t, hgM_f, hgM_n, hgx_lconst_0, hgx_lstore_n_1i, hgx_lstore_n_1r, hgx_lstore_n_1f, hgx_lstore_n_1n, hgx_lstore_n_1l, hgx_iconst_0, hgx_istore_n_3i, hgx_istore_n_3r, hgx_istore_n_3f, hgx_istore_n_3n, hgx_istore_n_3l, hgx_istore_4i, hgx_istore_4r, hgx_istore_4f, hgx_istore_4n, hgx_istore_4l, hgx_iload_4, hgx_aload_n_0, hgx_get0, hgx_ic_ge, hgs_get_1_5, hgx_if_le, hgx_iload_n_3, hgx_if_eq, hgx_get1, hgx_lload_n_1, hgx_lcmp, hgx_if_ge, hgx_iconst_1, hgx_iinc_4_1, hgx_goto, hgx_lret, hgv24_0, hgr24_0, hgu24_0, hgv24_7, hgr24_7, hgv24_48, hgr24_48, hgu24_48, hgv24_61, hgr24_61, hgu24_61, hgv24_67, hgr24_67, hgu24_67, hgI_SI, hgI_SJ, hgJ_SI, hgJ_SJ, if_true, if_false, reduceIte, Nat.reduceEqDiff, hgWf_SI, hgWf_SJ, hgO_SI, hgO_SJ, hgAr_SI, hgAr_SJ, hgRp_SI, hgRp_SJ, hgN_SI, hgN_SJ, hgO_g, hgO_d, hgO_rl, hgO_r, hgO_0, hgO_1, hgO_64, hgO_298, hgO_300, hgCd_0, hgCd_1, hgCd_2, hgCd_3, hgCd_4, hgCd_5, hgRecv_O, hgRecv_99, List.length_cons, List.length_nil, Nat.zero_add, Nat.add_zero, Nat.le_refl, Nat.zero_le, and_self, or_true, true_or, true_and, and_true, ne_eq, not_false_eq_true, Nat.reduceLT, Nat.reduceLeDiff, Nat.reduceAdd, Nat.reduceEqDiff, hgn_eq, hgn_lt, hgn_le, if_true, if_false, reduceIte, Nat.not_lt_zero, hgs_aa_d, hgs_aa_r, hgs_aa_h, hgs_aa_m, hgs_aa_t, hgs_ld_wp, hgs_st_wp, hgs_ld_qf, hgs_st_qf, hgs_ld_qt, hgs_st_qt, hgs_ld_2, hgs_st_2, hgs_ld_3, hgs_st_3, hgs_ld_4, hgs_st_4, hgs_ld_301, hgs_st_301, hgs_ld_D, hgs_st_D, hgs_ld_s, hgs_ld_T, hgs_st_T, hgs_ld_o, hgs_st_o, hgs_ld_b, hgs_st_b, hgs_ld_z, hgs_st_z, hgs_al_b, hgx_alen_s, hgn_add, hgn_mul, hw, hg, hn, h1, h2, h3, h4, hc2]
      exact ih'
theorem hgCV_24 (hw : hgWf M) (hm : hgSm V) (h : hgCV M g V) : hgWC X 24 [.ref g] M = some (.inl (.long (hgOl (vLst V))), M) := by
  have k := hgk_24l (X := X) hw h.1 h.2.1 hm.1 (vN V) 0 none (by omega)
  have e := hgLeast_cg (n := vN V) (f := fun j => decide (nI 0 < hgI M (g + 2 + j) 12)) (f' := fun j => decide (0 < (vQ V j).length)) (t := fun j => hgJ M (g + 2 + j) 7) (t' := vT V) (vN V) 0 none (by omega) (fun j hj => by
    have hl := hm.2.2.2 j hj
    have hd := h.2.2.2.2.2.2.2.2.2.2.2.1 j hj
    refine ⟨?_, hd.2.1⟩
    rw [hd.2.2.1]
    simp only [hgn_lt (show 0 < 2147483648 by omega) (show (vQ V j).length < 2147483648 by omega)])
  rw [e] at k
  simp (maxDischargeDepth := 7) only [hgc24, hgM_t, hgM_f, hgM_n, hgx_lconst_0, hgx_lstore_n_1i, hgx_lstore_n_1r, hgx_lstore_n_1f, hgx_lstore_n_1n, hgx_lstore_n_1l, hgx_iconst_0, hgx_istore_n_3i, hgx_istore_n_3r, hgx_istore_n_3f, hgx_istore_n_3n, hgx_istore_n_3l, hgx_istore_4i, hgx_istore_4r, hgx_istore_4f, hgx_istore_4n, hgx_istore_4l, hgx_iload_4, hgx_aload_n_0, hgx_get0, hgx_ic_ge, hgs_get_1_5, hgx_if_le, hgx_iload_n_3, hgx_if_eq, hgx_get1, hgx_lload_n_1, hgx_lcmp, hgx_if_ge, hgx_iconst_1, hgx_iinc_4_1, hgx_goto, hgx_lret, hgv24_0, hgr24_0, hgu24_0, hgv24_7, ← hgu24_7, hgv24_48, hgr24_48, hgu24_48, hgv24_61, hgr24_61, hgu24_61, hgv24_67, hgr24_67, hgu24_67, hgI_SI, hgI_SJ, hgJ_SI, hgJ_SJ, if_true, if_false, reduceIte, Nat.reduceEqDiff, hgWf_SI, hgWf_SJ, hgO_SI, hgO_SJ, hgAr_SI, hgAr_SJ, hgRp_SI, hgRp_SJ, hgN_SI, hgN_SJ, hgO_g, hgO_d, hgO_rl, hgO_r, hgO_0, hgO_1, hgO_64, hgO_298, hgO_300, hgCd_0, hgCd_1, hgCd_2, hgCd_3, hgCd_4, hgCd_5, hgRecv_O, hgRecv_99, List.length_cons, List.length_nil, Nat.zero_add, Nat.add_zero, Nat.le_refl, Nat.zero_le, and_self, or_true, true_or, true_and, and_true, ne_eq, not_false_eq_true, Nat.reduceLT, Nat.reduceLeDiff, Nat.reduceAdd, Nat.reduceEqDiff, hgn_eq, hgn_lt, hgn_le, if_true, if_false, reduceIte, Nat.not_lt_zero]
  exact k
theorem hglt_n {u v : Int64} : u < v ↔ u.toInt < v.toInt := Int64.lt_iff_toInt_lt
theorem hgk_191l {at0 : Int32} (hw : hgWf M) (hk : hgVok V c) (h : hgRV M 302 314 V) (hi : i < vN V) (hq : vQ V i = []) : ∀ (k j : Nat) (b : Option Int64), j + k = vN V → (∀ c, b = some c → ∃ j, j < vN V ∧ c = vT V j) → hgW X 191 85 [some (.ref 300), none, some (.int (nI i)), none, some (.int s), some (.int at0), some (.long (hgOm b)), none, some (.int (nI j))] [] (0, 0) M = hgW X 191 153 [some (.ref 300), none, some (.int (nI i)), none, some (.int s), some (.int at0), some (.long (hgOm (hgLeast (fun j => decide (0 < (vQ V j).length)) (vT V) b j k))), none, none] [] (0, 0) M := by
  intro k
  have hN := hk.1
  have hn := h.2.2.2.1
  induction k with
  | zero =>
    intro j b hj hb
    have h1 : j < 2147483648 := by omega
    have h2 : vN V < 2147483648 := by omega
    have h3 : vN V ≤ j := by omega
    rw [hgu191_85]
    simp (maxDischargeDepth := 7) only [hgx_iload_8, hgx_aload_n_0, hgs_get_8_8, hgx_iconst_0, hgx_ic_ge, hgr191_85, hgv191_153, hgM_t, hgM_f, hgM_n, hgI_SI, hgI_SJ, hgJ_SI, hgJ_SJ, if_true, if_false, reduceIte, Nat.reduceEqDiff, hgWf_SI, hgWf_SJ, hgO_SI, hgO_SJ, hgAr_SI, hgAr_SJ, hgRp_SI, hgRp_SJ, hgN_SI, hgN_SJ, hgO_g, hgO_d, hgO_rl, hgO_r, hgO_0, hgO_1, hgO_64, hgO_298, hgO_300, hgCd_0, hgCd_1, hgCd_2, hgCd_3, hgCd_4, hgCd_5, hgRecv_O, hgRecv_99, List.length_cons, List.length_nil, Nat.zero_add, Nat.add_zero, Nat.le_refl, Nat.zero_le, and_self, or_true, true_or, true_and, and_true, ne_eq, not_false_eq_true, Nat.reduceLT, Nat.reduceLeDiff, Nat.reduceAdd, Nat.reduceEqDiff, hgn_eq, hgn_lt, hgn_le, if_true, if_false, reduceIte, Nat.not_lt_zero, hgs_aa_d, hgs_aa_r, hgs_aa_h, hgs_aa_m, hgs_aa_t, hgs_ld_wp, hgs_st_wp, hgs_ld_qf, hgs_st_qf, hgs_ld_qt, hgs_st_qt, hgs_ld_2, hgs_st_2, hgs_ld_3, hgs_st_3, hgs_ld_4, hgs_st_4, hgs_ld_301, hgs_st_301, hgs_ld_D, hgs_st_D, hgs_ld_s, hgs_ld_T, hgs_st_T, hgs_ld_o, hgs_st_o, hgs_ld_b, hgs_st_b, hgs_ld_z, hgs_st_z, hgs_al_b, hgx_alen_s, hgn_add, hgn_mul, hw, hgAr_302 hw, hn, h1, h2, h3, hgLeast]
  | succ k ih =>
    intro j b hj hb
    have h1 : j < 2147483648 := by omega
    have h2 : vN V < 2147483648 := by omega
    have h3 : ¬ vN V ≤ j := by omega
    have h4 : j < 10 := by omega
    have h5 : i < 2147483648 := by omega
    have b9 : 27 + 10 * j + 9 < 20187 := by omega
    have hd := h.2.2.2.2.2.2.2.1 j (by omega)
    have e9 := hd.2.1
    have et := hd.2.2.1
    have hl := (hk.2.2.2.1 j (by omega)).2.2.1
    have l1 : (vQ V j).length < 2147483648 := by omega
    have t0 := (hk.2.2.2.1 j (by omega)).2.2.2.2.2.2.2.2.1
    rw [hgu191_85]
    unfold hgLeast
    by_cases hc : 0 < (vQ V j).length
    · have hc2 : ¬ (vQ V j).length ≤ 0 := by omega
      have hji : ¬ j = i := fun e => by rw [e, hq] at hc; exact absurd hc (by decide)
      cases b with
      | none =>
        have ih' := ih (j + 1) (some (vT V j)) (by omega) (fun c hc => by cases hc; exact ⟨j, by omega, rfl⟩)
        have e : (if decide (0 < (vQ V j).length) = true ∧ (∀ c, (none : Option Int64) = some c → vT V j < c) then some (vT V j) else none) = some (vT V j) := if_pos ⟨decide_eq_true hc, fun c h => by cases h⟩
        rw [e]
        have m1 : lg_cmp (-lN 1) (lN 0) < nI 0 := by decide
        refine Eq.trans ?_ ih'
        simp (maxDischargeDepth := 7) only [hgM_t, hgM_f, hgM_n, hgx_iload_n_2, hgx_invstatic_1, hgx_aft_e, hgx_aft_i, hgx_aft_l, hgx_aft_v, hgx_istore_5i, hgx_istore_5r, hgx_istore_5f, hgx_istore_5n, hgx_istore_5l, hgx_aload_n_0, hgx_iload_n_1, hgx_iload_n_3, hgx_invvirtual_4, hgx_if_eq, hgx_iconst_1, hgx_ret1, hgs_get_8_8, hgx_iload_5, hgx_iconst_4, hgx_iadd, hgx_iconst_2, hgx_ic_ne, hgx_invstatic_2, hgx_if_ne, hgx_invvirtual_2, hgx_iload_4, hgx_bipush_6, hgx_ic_le, hgx_iconst_3, hgx_bipush_9, hgx_ldc2_1, hgx_lstore_6i, hgx_lstore_6r, hgx_lstore_6f, hgx_lstore_6n, hgx_lstore_6l, hgx_iconst_0, hgx_istore_8i, hgx_istore_8r, hgx_istore_8f, hgx_istore_8n, hgx_istore_8l, hgx_iload_8, hgx_ic_ge, hgx_ic_eq, hgx_if_le, hgx_lload_6, hgx_lconst_0, hgx_lcmp, hgx_if_lt, hgs_get_8_12, hgx_if_ge, hgx_iinc_8_1, hgx_goto, hgx_dup2, hgv191_0, hgr191_0, hgu191_0, hgv191_18, hgr191_18, hgu191_18, hgv191_44, hgr191_44, hgu191_44, hgv191_64, hgr191_64, hgu191_64, hgv191_85, hgr191_85, hgv191_138, hgr191_138, hgu191_138, hgv191_147, hgr191_147, hgu191_147, hgv191_153, hgr191_153, hgu191_153, hgv191_179, hgr191_179, hgu191_179, hgv191_181, hgr191_181, hgu191_181, hgv191_182, hgr191_182, hgu191_182, hgv191_262, hgr191_262, hgu191_262, hgI_SI, hgI_SJ, hgJ_SI, hgJ_SJ, if_true, if_false, reduceIte, Nat.reduceEqDiff, hgWf_SI, hgWf_SJ, hgO_SI, hgO_SJ, hgAr_SI, hgAr_SJ, hgRp_SI, hgRp_SJ, hgN_SI, hgN_SJ, hgO_g, hgO_d, hgO_rl, hgO_r, hgO_0, hgO_1, hgO_64, hgO_298, hgO_300, hgCd_0, hgCd_1, hgCd_2, hgCd_3, hgCd_4, hgCd_5, hgRecv_O, hgRecv_99, List.length_cons, List.length_nil, Nat.zero_add, Nat.add_zero, Nat.le_refl, Nat.zero_le, and_self, or_true, true_or, true_and, and_true, ne_eq, not_false_eq_true, Nat.reduceLT, Nat.reduceLeDiff, Nat.reduceAdd, Nat.reduceEqDiff, hgn_eq, hgn_lt, hgn_le, if_true, if_false, reduceIte, Nat.not_lt_zero, hgs_aa_d, hgs_aa_r, hgs_aa_h, hgs_aa_m, hgs_aa_t, hgs_ld_wp, hgs_st_wp, hgs_ld_qf, hgs_st_qf, hgs_ld_qt, hgs_st_qt, hgs_ld_2, hgs_st_2, hgs_ld_3, hgs_st_3, hgs_ld_4, hgs_st_4, hgs_ld_301, hgs_st_301, hgs_ld_D, hgs_st_D, hgs_ld_s, hgs_ld_T, hgs_st_T, hgs_ld_o, hgs_st_o, hgs_ld_b, hgs_st_b, hgs_ld_z, hgs_st_z, hgs_al_b, hgx_alen_s, hgn_add, hgn_mul, hw, hgAr_302 hw, hgAr_314 hw, hn, h1, h2, h3, h4, h5, b9, hgk_128, e9, l1, hc2, hji, hgOm, m1, et]
      | some c =>
        obtain ⟨j9, j91, j92⟩ := hb c rfl
        have c0 : 0 ≤ c.toInt := by rw [j92]; exact (hk.2.2.2.1 j9 j91).2.2.2.2.2.2.2.2.1
        have c1 : ¬ c < lN 0 := by
          rw [hglt_n]
          have : (lN 0).toInt = 0 := by decide
          omega
        by_cases ht : vT V j < c
        · have ih' := ih (j + 1) (some (vT V j)) (by omega) (fun c hc => by cases hc; exact ⟨j, by omega, rfl⟩)
          have e : (if decide (0 < (vQ V j).length) = true ∧ (∀ c9, some c = some c9 → vT V j < c9) then some (vT V j) else some c) = some (vT V j) := if_pos ⟨decide_eq_true hc, fun c9 h => by cases h; exact ht⟩
          rw [e]
          refine Eq.trans ?_ ih'
          simp (maxDischargeDepth := 7) only [hgM_t, hgM_f, hgM_n, hgx_iload_n_2, hgx_invstatic_1, hgx_aft_e, hgx_aft_i, hgx_aft_l, hgx_aft_v, hgx_istore_5i, hgx_istore_5r, hgx_istore_5f, hgx_istore_5n, hgx_istore_5l, hgx_aload_n_0, hgx_iload_n_1, hgx_iload_n_3, hgx_invvirtual_4, hgx_if_eq, hgx_iconst_1, hgx_ret1, hgs_get_8_8, hgx_iload_5, hgx_iconst_4, hgx_iadd, hgx_iconst_2, hgx_ic_ne, hgx_invstatic_2, hgx_if_ne, hgx_invvirtual_2, hgx_iload_4, hgx_bipush_6, hgx_ic_le, hgx_iconst_3, hgx_bipush_9, hgx_ldc2_1, hgx_lstore_6i, hgx_lstore_6r, hgx_lstore_6f, hgx_lstore_6n, hgx_lstore_6l, hgx_iconst_0, hgx_istore_8i, hgx_istore_8r, hgx_istore_8f, hgx_istore_8n, hgx_istore_8l, hgx_iload_8, hgx_ic_ge, hgx_ic_eq, hgx_if_le, hgx_lload_6, hgx_lconst_0, hgx_lcmp, hgx_if_lt, hgs_get_8_12, hgx_if_ge, hgx_iinc_8_1, hgx_goto, hgx_dup2, hgv191_0, hgr191_0, hgu191_0, hgv191_18, hgr191_18, hgu191_18, hgv191_44, hgr191_44, hgu191_44, hgv191_64, hgr191_64, hgu191_64, hgv191_85, hgr191_85, hgv191_138, hgr191_138, hgu191_138, hgv191_147, hgr191_147, hgu191_147, hgv191_153, hgr191_153, hgu191_153, hgv191_179, hgr191_179, hgu191_179, hgv191_181, hgr191_181, hgu191_181, hgv191_182, hgr191_182, hgu191_182, hgv191_262, hgr191_262, hgu191_262, hgI_SI, hgI_SJ, hgJ_SI, hgJ_SJ, if_true, if_false, reduceIte, Nat.reduceEqDiff, hgWf_SI, hgWf_SJ, hgO_SI, hgO_SJ, hgAr_SI, hgAr_SJ, hgRp_SI, hgRp_SJ, hgN_SI, hgN_SJ, hgO_g, hgO_d, hgO_rl, hgO_r, hgO_0, hgO_1, hgO_64, hgO_298, hgO_300, hgCd_0, hgCd_1, hgCd_2, hgCd_3, hgCd_4, hgCd_5, hgRecv_O, hgRecv_99, List.length_cons, List.length_nil, Nat.zero_add, Nat.add_zero, Nat.le_refl, Nat.zero_le, and_self, or_true, true_or, true_and, and_true, ne_eq, not_false_eq_true, Nat.reduceLT, Nat.reduceLeDiff, Nat.reduceAdd, Nat.reduceEqDiff, hgn_eq, hgn_lt, hgn_le, if_true, if_false, reduceIte, Nat.not_lt_zero, hgs_aa_d, hgs_aa_r, hgs_aa_h, hgs_aa_m, hgs_aa_t, hgs_ld_wp, hgs_st_wp, hgs_ld_qf, hgs_st_qf, hgs_ld_qt, hgs_st_qt, hgs_ld_2, hgs_st_2, hgs_ld_3, hgs_st_3, hgs_ld_4, hgs_st_4, hgs_ld_301, hgs_st_301, hgs_ld_D, hgs_st_D, hgs_ld_s, hgs_ld_T, hgs_st_T, hgs_ld_o, hgs_st_o, hgs_ld_b, hgs_st_b, hgs_ld_z, hgs_st_z, hgs_al_b, hgx_alen_s, hgn_add, hgn_mul, hw, hgAr_302 hw, hgAr_314 hw, hn, h1, h2, h3, h4, h5, b9, hgk_128, e9, l1, hc2, hji, hgOm, hglt_cmp, hgge_cmp, c1, et, ht, not_true]
        · have ih' := ih (j + 1) (some c) (by omega) hb
          have e : (if decide (0 < (vQ V j).length) = true ∧ (∀ c9, some c = some c9 → vT V j < c9) then some (vT V j) else some c) = some c := if_neg (fun q => ht (q.2 c rfl))
          rw [e]
          refine Eq.trans ?_ ih'
          simp (maxDischargeDepth := 7) only [hgM_t, hgM_f, hgM_n, hgx_iload_n_2, hgx_invstatic_1, hgx_aft_e, hgx_aft_i, hgx_aft_l, hgx_aft_v, hgx_istore_5i, hgx_istore_5r, hgx_istore_5f, hgx_istore_5n, hgx_istore_5l, hgx_aload_n_0, hgx_iload_n_1, hgx_iload_n_3, hgx_invvirtual_4, hgx_if_eq, hgx_iconst_1, hgx_ret1, hgs_get_8_8, hgx_iload_5, hgx_iconst_4, hgx_iadd, hgx_iconst_2, hgx_ic_ne, hgx_invstatic_2, hgx_if_ne, hgx_invvirtual_2, hgx_iload_4, hgx_bipush_6, hgx_ic_le, hgx_iconst_3, hgx_bipush_9, hgx_ldc2_1, hgx_lstore_6i, hgx_lstore_6r, hgx_lstore_6f, hgx_lstore_6n, hgx_lstore_6l, hgx_iconst_0, hgx_istore_8i, hgx_istore_8r, hgx_istore_8f, hgx_istore_8n, hgx_istore_8l, hgx_iload_8, hgx_ic_ge, hgx_ic_eq, hgx_if_le, hgx_lload_6, hgx_lconst_0, hgx_lcmp, hgx_if_lt, hgs_get_8_12, hgx_if_ge, hgx_iinc_8_1, hgx_goto, hgx_dup2, hgv191_0, hgr191_0, hgu191_0, hgv191_18, hgr191_18, hgu191_18, hgv191_44, hgr191_44, hgu191_44, hgv191_64, hgr191_64, hgu191_64, hgv191_85, hgr191_85, hgv191_138, hgr191_138, hgu191_138, hgv191_147, hgr191_147, hgu191_147, hgv191_153, hgr191_153, hgu191_153, hgv191_179, hgr191_179, hgu191_179, hgv191_181, hgr191_181, hgu191_181, hgv191_182, hgr191_182, hgu191_182, hgv191_262, hgr191_262, hgu191_262, hgI_SI, hgI_SJ, hgJ_SI, hgJ_SJ, if_true, if_false, reduceIte, Nat.reduceEqDiff, hgWf_SI, hgWf_SJ, hgO_SI, hgO_SJ, hgAr_SI, hgAr_SJ, hgRp_SI, hgRp_SJ, hgN_SI, hgN_SJ, hgO_g, hgO_d, hgO_rl, hgO_r, hgO_0, hgO_1, hgO_64, hgO_298, hgO_300, hgCd_0, hgCd_1, hgCd_2, hgCd_3, hgCd_4, hgCd_5, hgRecv_O, hgRecv_99, List.length_cons, List.length_nil, Nat.zero_add, Nat.add_zero, Nat.le_refl, Nat.zero_le, and_self, or_true, true_or, true_and, and_true, ne_eq, not_false_eq_true, Nat.reduceLT, Nat.reduceLeDiff, Nat.reduceAdd, Nat.reduceEqDiff, hgn_eq, hgn_lt, hgn_le, if_true, if_false, reduceIte, Nat.not_lt_zero, hgs_aa_d, hgs_aa_r, hgs_aa_h, hgs_aa_m, hgs_aa_t, hgs_ld_wp, hgs_st_wp, hgs_ld_qf, hgs_st_qf, hgs_ld_qt, hgs_st_qt, hgs_ld_2, hgs_st_2, hgs_ld_3, hgs_st_3, hgs_ld_4, hgs_st_4, hgs_ld_301, hgs_st_301, hgs_ld_D, hgs_st_D, hgs_ld_s, hgs_ld_T, hgs_st_T, hgs_ld_o, hgs_st_o, hgs_ld_b, hgs_st_b, hgs_ld_z, hgs_st_z, hgs_al_b, hgx_alen_s, hgn_add, hgn_mul, hw, hgAr_302 hw, hgAr_314 hw, hn, h1, h2, h3, h4, h5, b9, hgk_128, e9, l1, hc2, hji, hgOm, hglt_cmp, hgge_cmp, c1, et, ht, not_false_eq_true]
    · have hc2 : (vQ V j).length ≤ 0 := by omega
      have ih' := ih (j + 1) b (by omega) hb
      have e : (if decide (0 < (vQ V j).length) = true ∧ (∀ c, b = some c → vT V j < c) then some (vT V j) else b) = b := if_neg (fun q => hc (of_decide_eq_true q.1))
      rw [e]
      refine Eq.trans ?_ ih'
      by_cases hji : j = i
      · subst hji
        simp (maxDischargeDepth := 7) only [hgM_t, hgM_f, hgM_n, hgx_iload_n_2, hgx_invstatic_1, hgx_aft_e, hgx_aft_i, hgx_aft_l, hgx_aft_v, hgx_istore_5i, hgx_istore_5r, hgx_istore_5f, hgx_istore_5n, hgx_istore_5l, hgx_aload_n_0, hgx_iload_n_1, hgx_iload_n_3, hgx_invvirtual_4, hgx_if_eq, hgx_iconst_1, hgx_ret1, hgs_get_8_8, hgx_iload_5, hgx_iconst_4, hgx_iadd, hgx_iconst_2, hgx_ic_ne, hgx_invstatic_2, hgx_if_ne, hgx_invvirtual_2, hgx_iload_4, hgx_bipush_6, hgx_ic_le, hgx_iconst_3, hgx_bipush_9, hgx_ldc2_1, hgx_lstore_6i, hgx_lstore_6r, hgx_lstore_6f, hgx_lstore_6n, hgx_lstore_6l, hgx_iconst_0, hgx_istore_8i, hgx_istore_8r, hgx_istore_8f, hgx_istore_8n, hgx_istore_8l, hgx_iload_8, hgx_ic_ge, hgx_ic_eq, hgx_if_le, hgx_lload_6, hgx_lconst_0, hgx_lcmp, hgx_if_lt, hgs_get_8_12, hgx_if_ge, hgx_iinc_8_1, hgx_goto, hgx_dup2, hgv191_0, hgr191_0, hgu191_0, hgv191_18, hgr191_18, hgu191_18, hgv191_44, hgr191_44, hgu191_44, hgv191_64, hgr191_64, hgu191_64, hgv191_85, hgr191_85, hgv191_138, hgr191_138, hgu191_138, hgv191_147, hgr191_147, hgu191_147, hgv191_153, hgr191_153, hgu191_153, hgv191_179, hgr191_179, hgu191_179, hgv191_181, hgr191_181, hgu191_181, hgv191_182, hgr191_182, hgu191_182, hgv191_262, hgr191_262, hgu191_262, hgI_SI, hgI_SJ, hgJ_SI, hgJ_SJ, if_true, if_false, reduceIte, Nat.reduceEqDiff, hgWf_SI, hgWf_SJ, hgO_SI, hgO_SJ, hgAr_SI, hgAr_SJ, hgRp_SI, hgRp_SJ, hgN_SI, hgN_SJ, hgO_g, hgO_d, hgO_rl, hgO_r, hgO_0, hgO_1, hgO_64, hgO_298, hgO_300, hgCd_0, hgCd_1, hgCd_2, hgCd_3, hgCd_4, hgCd_5, hgRecv_O, hgRecv_99, List.length_cons, List.length_nil, Nat.zero_add, Nat.add_zero, Nat.le_refl, Nat.zero_le, and_self, or_true, true_or, true_and, and_true, ne_eq, not_false_eq_true, Nat.reduceLT, Nat.reduceLeDiff, Nat.reduceAdd, Nat.reduceEqDiff, hgn_eq, hgn_lt, hgn_le, if_true, if_false, reduceIte, Nat.not_lt_zero, hgs_aa_d, hgs_aa_r, hgs_aa_h, hgs_aa_m, hgs_aa_t, hgs_ld_wp, hgs_st_wp, hgs_ld_qf, hgs_st_qf, hgs_ld_qt, hgs_st_qt, hgs_ld_2, hgs_st_2, hgs_ld_3, hgs_st_3, hgs_ld_4, hgs_st_4, hgs_ld_301, hgs_st_301, hgs_ld_D, hgs_st_D, hgs_ld_s, hgs_ld_T, hgs_st_T, hgs_ld_o, hgs_st_o, hgs_ld_b, hgs_st_b, hgs_ld_z, hgs_st_z, hgs_al_b, hgx_alen_s, hgn_add, hgn_mul, hw, hgAr_302 hw, hgAr_314 hw, hn, h1, h2, h3, h4]
      · simp (maxDischargeDepth := 7) only [hgM_t, hgM_f, hgM_n, hgx_iload_n_2, hgx_invstatic_1, hgx_aft_e, hgx_aft_i, hgx_aft_l, hgx_aft_v, hgx_istore_5i, hgx_istore_5r, hgx_istore_5f, hgx_istore_5n, hgx_istore_5l, hgx_aload_n_0, hgx_iload_n_1, hgx_iload_n_3, hgx_invvirtual_4, hgx_if_eq, hgx_iconst_1, hgx_ret1, hgs_get_8_8, hgx_iload_5, hgx_iconst_4, hgx_iadd, hgx_iconst_2, hgx_ic_ne, hgx_invstatic_2, hgx_if_ne, hgx_invvirtual_2, hgx_iload_4, hgx_bipush_6, hgx_ic_le, hgx_iconst_3, hgx_bipush_9, hgx_ldc2_1, hgx_lstore_6i, hgx_lstore_6r, hgx_lstore_6f, hgx_lstore_6n, hgx_lstore_6l, hgx_iconst_0, hgx_istore_8i, hgx_istore_8r, hgx_istore_8f, hgx_istore_8n, hgx_istore_8l, hgx_iload_8, hgx_ic_ge, hgx_ic_eq, hgx_if_le, hgx_lload_6, hgx_lconst_0, hgx_lcmp, hgx_if_lt, hgs_get_8_12, hgx_if_ge, hgx_iinc_8_1, hgx_goto, hgx_dup2, hgv191_0, hgr191_0, hgu191_0, hgv191_18, hgr191_18, hgu191_18, hgv191_44, hgr191_44, hgu191_44, hgv191_64, hgr191_64, hgu191_64, hgv191_85, hgr191_85, hgv191_138, hgr191_138, hgu191_138, hgv191_147, hgr191_147, hgu191_147, hgv191_153, hgr191_153, hgu191_153, hgv191_179, hgr191_179, hgu191_179, hgv191_181, hgr191_181, hgu191_181, hgv191_182, hgr191_182, hgu191_182, hgv191_262, hgr191_262, hgu191_262, hgI_SI, hgI_SJ, hgJ_SI, hgJ_SJ, if_true, if_false, reduceIte, Nat.reduceEqDiff, hgWf_SI, hgWf_SJ, hgO_SI, hgO_SJ, hgAr_SI, hgAr_SJ, hgRp_SI, hgRp_SJ, hgN_SI, hgN_SJ, hgO_g, hgO_d, hgO_rl, hgO_r, hgO_0, hgO_1, hgO_64, hgO_298, hgO_300, hgCd_0, hgCd_1, hgCd_2, hgCd_3, hgCd_4, hgCd_5, hgRecv_O, hgRecv_99, List.length_cons, List.length_nil, Nat.zero_add, Nat.add_zero, Nat.le_refl, Nat.zero_le, and_self, or_true, true_or, true_and, and_true, ne_eq, not_false_eq_true, Nat.reduceLT, Nat.reduceLeDiff, Nat.reduceAdd, Nat.reduceEqDiff, hgn_eq, hgn_lt, hgn_le, if_true, if_false, reduceIte, Nat.not_lt_zero, hgs_aa_d, hgs_aa_r, hgs_aa_h, hgs_aa_m, hgs_aa_t, hgs_ld_wp, hgs_st_wp, hgs_ld_qf, hgs_st_qf, hgs_ld_qt, hgs_st_qt, hgs_ld_2, hgs_st_2, hgs_ld_3, hgs_st_3, hgs_ld_4, hgs_st_4, hgs_ld_301, hgs_st_301, hgs_ld_D, hgs_st_D, hgs_ld_s, hgs_ld_T, hgs_st_T, hgs_ld_o, hgs_st_o, hgs_ld_b, hgs_st_b, hgs_ld_z, hgs_st_z, hgs_al_b, hgx_alen_s, hgn_add, hgn_mul, hw, hgAr_302 hw, hgAr_314 hw, hn, h1, h2, h3, h4, h5, b9, hgk_128, e9, l1, hc2, hji]
/-- one device and the store are changed -/
theorem hgCV_dev2 (hw : hgWf M) (hm : hgSm V) (hi : i < 10) (e1 : V'.1 = V.1) (eS : vS V' = vS V) (eU : vU V' = vU V) (eP : vP V' = vP V) (eH : vH V' = vH V) (hD : ∀ j, j ≠ i → vD V' j = vD V j ∧ vT V' j = vT V j ∧ vQ V' j = vQ V j ∧ vB V' j = vB V j) (hM : ∀ b, 6 ≤ b → b ≠ g + 2 + i → ∀ k, hgI M' b k = hgI M b k ∧ hgJ M' b k = hgJ M b k) (h4 : ∀ j, j < vN V → j ≠ i → ∀ p ∈ (vB V j).dropLast, hgI M' 4 p = hgI M 4 p) (h2 : ∀ j, j < vN V → j ≠ i → ∀ p ∈ vB V j, hgI M' 2 p = hgI M 2 p ∧ hgI M' 3 p = hgI M 3 p) (hR : ∀ b k, hgR M' b k = hgR M b k) (h : hgCV M g V) (hd : i < vN V → hgDv M (g + 2 + i) V i → hgDv M' (g + 2 + i) V' i) : hgCV M' g V' := by
  have eN : vN V' = vN V := by unfold vN; rw [e1]
  have eR : vR V' = vR V := by unfold vR; rw [e1]
  have eW : vW V' = vW V := by unfold vW; rw [e1]
  have hg := hgGw_le h.1
  have e := fun k => (hM g (by omega) (by omega) k).1
  have hdv := h.2.2.2.2.2.2.2.2.2.2.2.1
  obtain ⟨hN, hn, _, _⟩ := hm
  unfold hgCV at h ⊢
  rw [e, e, e, e, e, e, e, e, e, e, (hM (g + 12) (by omega) (by omega) 1).1, eN, eR, eW, eS, eU, eP, eH]
  refine ⟨h.1, h.2.1, h.2.2.1, h.2.2.2.1, h.2.2.2.2.1, h.2.2.2.2.2.1, h.2.2.2.2.2.2.1, h.2.2.2.2.2.2.2.1, h.2.2.2.2.2.2.2.2.1, h.2.2.2.2.2.2.2.2.2.1, h.2.2.2.2.2.2.2.2.2.2.1, fun j hj => ?_, fun j hj k hk => ?_, fun k hk => ?_, fun q hq => ?_, h.2.2.2.2.2.2.2.2.2.2.2.2.2.2.2⟩
  · by_cases hji : j = i
    · rw [hji]
      exact hd (by omega) (hdv i (by omega))
    · have w := hD j hji
      have v : hgDv M' (g + 2 + j) V j := hgDv_to (fun k => (hM _ (by omega) (by omega) k).1) (hM _ (by omega) (by omega) 7).2 (h4 j hj hji) (h2 j hj hji) (hdv j hj)
      unfold hgDv at v ⊢
      rw [w.1, w.2.1, w.2.2.1, w.2.2.2]
      exact v
  · rw [hgRf_to (fun a k h1 h2 => (hM a (by omega) (by omega) k).1) (hR _) hw h.1 (by omega)]
    exact h.2.2.2.2.2.2.2.2.2.2.2.2.1 j hj k hk
  · rw [(hM _ (by omega) (by omega) _).1]
    exact h.2.2.2.2.2.2.2.2.2.2.2.2.2.1 k hk
  · rw [(hM _ (by omega) (by omega) _).1, (hM _ (by omega) (by omega) _).1]
    exact h.2.2.2.2.2.2.2.2.2.2.2.2.2.2.1 q hq
/-- a packet at the end of the reference's queue -/
theorem hgRV_push (hm : hgSm V) (hi : i < vN V) (hl : (vQ V i).length < 900) (h : hgRV M d t V) : hgRV (hgSI (hgSI (hgSI M d (187 + 2 * (1000 * i + (vQ V i).length)) x) d (187 + 2 * (1000 * i + (vQ V i).length) + 1) y) d (27 + 10 * i + 9) (nI ((vQ V i).length + 1))) d t (vSq V i (vQ V i ++ [(x, y)]) B) := by
  have e := h.2.2.2.2.2.2.2.1 i hi
  have hN := hm.1
  refine hgRV_dev (M := M) (V := V) (i := i) rfl hm (by omega) rfl rfl rfl rfl rfl (fun j hj => ⟨rfl, rfl, ?_⟩) (fun k h1 h2 => by rw [hgI_nk (by omega), hgI_nk (by omega), hgI_nk (by omega)]) (fun k hk => rfl) h (fun hi2 => ⟨fun j hj => ?_, ?_, e.2.2.1, fun j z hz => ?_⟩)
  · rw [vQ_sq, if_neg hj]
  · rw [hgI_nk (by omega), hgI_nk (by omega), hgI_nk (by omega)]
    exact e.1 j hj
  · rw [hgI_at, vQ_sq, if_pos rfl, List.length_append]
    rfl
  · rw [vQ_sq, if_pos rfl, List.getElem?_append] at hz
    by_cases hlt : j < (vQ V i).length
    · rw [if_pos hlt] at hz
      rw [hgI_nk (by omega), hgI_nk (by omega), hgI_nk (by omega), hgI_nk (by omega), hgI_nk (by omega), hgI_nk (by omega)]
      exact e.2.2.2 j z hz
    · rw [if_neg hlt] at hz
      have hj0 : j = (vQ V i).length := by
        have := (List.getElem?_eq_some_iff.mp hz).1
        simp only [List.length_cons, List.length_nil] at this
        omega
      rw [hj0, Nat.sub_self] at hz
      have hz2 : (x, y) = z := by injection hz
      rw [← hz2, hj0, hgI_nk (by omega), hgI_nk (by omega), hgI_at, hgI_nk (by omega), hgI_at]
      exact ⟨rfl, rfl⟩
end HGPUS

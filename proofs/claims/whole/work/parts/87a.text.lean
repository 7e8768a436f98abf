/-! THE TEXT: what both readers see. -/
abbrev hgTxt : Type := (Nat → Nat) × Nat
def pSk (t : hgTxt) : Nat → Nat → Nat
  | 0, p => p
  | k + 1, p => if t.1 p = 32 then pSk t k (p + 1) else p
def pWe (t : hgTxt) : Nat → Nat → Nat
  | 0, p => p
  | k + 1, p => if 97 ≤ t.1 p ∧ t.1 p ≤ 122 then pWe t k (p + 1) else p
def pDv (t : hgTxt) : Nat → Nat → Nat → Nat × Nat
  | 0, p, v => (v, p)
  | k + 1, p, v => if 48 ≤ t.1 p ∧ t.1 p ≤ 57 then pDv t k (p + 1) (10 * v + (t.1 p - 48)) else (v, p)
/-- behind the spaces -/
def tSk (t : hgTxt) (p : Nat) : Nat := pSk t (t.2 - p) p
/-- behind the letters -/
def tWe (t : hgTxt) (p : Nat) : Nat := pWe t (t.2 - p) p
def tDv (t : hgTxt) (p : Nat) : Nat × Nat := pDv t (t.2 - p) p 0
def tMw (t : hgTxt) (p : Nat) : List Nat → Bool
  | [] => true
  | c :: w => decide (t.1 p = c) && tMw t (p + 1) w
/-- the word from p to e is w -/
def tIs (t : hgTxt) (p e : Nat) (w : List Nat) : Bool := decide (e = p + w.length) && tMw t p w
def tWd (t : hgTxt) (p : Nat) (w : List Nat) : Bool := tIs t (tSk t p) (tWe t (tSk t p)) w
def tDg (t : hgTxt) (p : Nat) : Bool := decide (p < t.2) && (decide (48 ≤ t.1 p) && decide (t.1 p ≤ 57))
theorem pSk_f {t : hgTxt} : ∀ (k p : Nat), p + k = t.2 → p ≤ pSk t k p ∧ pSk t k p ≤ t.2 ∧ (pSk t k p < t.2 → t.1 (pSk t k p) ≠ 32)
  | 0, p, h => ⟨Nat.le_refl _, by show p ≤ t.2; omega, fun w => by have : p < t.2 := w; omega⟩
  | k + 1, p, h => by
    unfold pSk
    by_cases e : t.1 p = 32
    · rw [if_pos e]
      obtain ⟨a, b, c⟩ := pSk_f (t := t) k (p + 1) (by omega)
      exact ⟨by omega, b, c⟩
    · rw [if_neg e]
      exact ⟨Nat.le_refl _, by omega, fun _ => e⟩
theorem tSk_f {t : hgTxt} {p : Nat} (h : p ≤ t.2) : p ≤ tSk t p ∧ tSk t p ≤ t.2 ∧ (tSk t p < t.2 → t.1 (tSk t p) ≠ 32) := pSk_f _ _ (by omega)
theorem tSk_i {t : hgTxt} {p : Nat} (h : p ≤ t.2) : tSk t (tSk t p) = tSk t p := by
  obtain ⟨a, b, c⟩ := tSk_f h
  generalize tSk t p = q at a b c
  unfold tSk
  by_cases e : q < t.2
  · obtain ⟨k, hk⟩ : ∃ k, t.2 - q = k + 1 := ⟨t.2 - q - 1, by omega⟩
    rw [hk]
    unfold pSk
    rw [if_neg (c e)]
  · rw [show t.2 - q = 0 by omega]
    rfl
theorem pWe_f {t : hgTxt} : ∀ (k p : Nat), p + k = t.2 → p ≤ pWe t k p ∧ pWe t k p ≤ t.2 ∧ (∀ j, p ≤ j → j < pWe t k p → 97 ≤ t.1 j ∧ t.1 j ≤ 122) ∧ (pWe t k p < t.2 → ¬ (97 ≤ t.1 (pWe t k p) ∧ t.1 (pWe t k p) ≤ 122))
  | 0, p, h => ⟨Nat.le_refl _, by show p ≤ t.2; omega, fun j h1 h2 => by have : j < p := h2; omega, fun w => by have : p < t.2 := w; omega⟩
  | k + 1, p, h => by
    unfold pWe
    by_cases e : 97 ≤ t.1 p ∧ t.1 p ≤ 122
    · rw [if_pos e]
      obtain ⟨a, b, c, d⟩ := pWe_f (t := t) k (p + 1) (by omega)
      refine ⟨by omega, b, fun j h1 h2 => ?_, d⟩
      by_cases ej : j = p
      · rw [ej]; exact e
      · exact c j (by omega) h2
    · rw [if_neg e]
      exact ⟨Nat.le_refl _, by omega, fun j h1 h2 => by omega, fun _ => e⟩
theorem tWe_f {t : hgTxt} {p : Nat} (h : p ≤ t.2) : p ≤ tWe t p ∧ tWe t p ≤ t.2 ∧ (∀ j, p ≤ j → j < tWe t p → 97 ≤ t.1 j ∧ t.1 j ≤ 122) ∧ (tWe t p < t.2 → ¬ (97 ≤ t.1 (tWe t p) ∧ t.1 (tWe t p) ≤ 122)) := pWe_f _ _ (by omega)
theorem pDv_f {t : hgTxt} : ∀ (k p v : Nat), p + k = t.2 → p ≤ (pDv t k p v).2 ∧ (pDv t k p v).2 ≤ t.2 ∧ v ≤ (pDv t k p v).1
  | 0, p, v, h => ⟨Nat.le_refl _, by show p ≤ t.2; omega, Nat.le_refl _⟩
  | k + 1, p, v, h => by
    unfold pDv
    by_cases e : 48 ≤ t.1 p ∧ t.1 p ≤ 57
    · rw [if_pos e]
      obtain ⟨a, b, c⟩ := pDv_f (t := t) k (p + 1) (10 * v + (t.1 p - 48)) (by omega)
      exact ⟨by omega, b, by omega⟩
    · rw [if_neg e]
      exact ⟨Nat.le_refl _, by show p ≤ t.2; omega, Nat.le_refl _⟩
theorem tMw_iff {t : hgTxt} : ∀ {w : List Nat} {p : Nat}, tMw t p w = true ↔ ∀ k c : Nat, w[k]? = some c → t.1 (p + k) = c
  | [], p => ⟨(fun _ k c h => by rw [List.getElem?_nil] at h; cases h), fun _ => rfl⟩
  | a :: w, p => by
    unfold tMw
    rw [Bool.and_eq_true, decide_eq_true_iff, tMw_iff]
    constructor
    · rintro ⟨h1, h2⟩ k c hk
      cases k with
      | zero => rw [List.getElem?_cons_zero] at hk; cases hk; exact h1
      | succ k =>
        rw [List.getElem?_cons_succ] at hk
        rw [show p + (k + 1) = p + 1 + k by omega]
        exact h2 k c hk
    · intro h
      refine ⟨h 0 a rfl, fun k c hk => ?_⟩
      rw [show p + 1 + k = p + (k + 1) by omega]
      exact h (k + 1) c (by rw [List.getElem?_cons_succ]; exact hk)
/-- a word by its letters and what is behind it -/
theorem tIs_n {t : hgTxt} {p : Nat} {w : List Nat} (hp : p ≤ t.2) (hw : ∀ k c : Nat, w[k]? = some c → 97 ≤ c ∧ c ≤ 122) : tIs t p (tWe t p) w = true ↔ (p + w.length ≤ t.2 ∧ tMw t p w = true ∧ (p + w.length < t.2 → ¬ (97 ≤ t.1 (p + w.length) ∧ t.1 (p + w.length) ≤ 122))) := by
  obtain ⟨a, b, c, d⟩ := tWe_f hp
  unfold tIs
  rw [Bool.and_eq_true, decide_eq_true_iff]
  constructor
  · rintro ⟨h1, h2⟩
    rw [← h1]
    exact ⟨b, h2, d⟩
  · rintro ⟨h1, h2, h3⟩
    refine ⟨?_, h2⟩
    have lt : ∀ j, p ≤ j → j < p + w.length → 97 ≤ t.1 j ∧ t.1 j ≤ 122 := fun j j1 j2 => by
      have hk : w[j - p]? = some (w[j - p]'(by omega)) := List.getElem?_eq_getElem (by omega)
      have e := tMw_iff.mp h2 (j - p) _ hk
      rw [show p + (j - p) = j by omega] at e
      rw [e]
      exact hw _ _ hk
    by_cases q1 : tWe t p < p + w.length
    · exact absurd (lt _ a q1) (d (by omega))
    · by_cases q2 : p + w.length < tWe t p
      · exact absurd (c _ (by omega) q2) (h3 (by omega))
      · omega
section HGTXT
variable {X : hgX} {M M' M1 M2 M3 Mo : hgMem} {t : hgTxt} {i j k a b n p q e N l : Nat} {x y z : Int32}
/-- the component's reader at p -/
def hgRc (M : hgMem) (t : hgTxt) (p : Nat) : Prop := hgWf M ∧ hgI M 298 1 = nI t.2 ∧ hgI M 298 2 = nI p ∧ p ≤ t.2 ∧ t.2 ≤ 900 ∧ ∀ k, k < t.2 → hgI M 5 k &&& nI 255 = nI (t.1 k) ∧ t.1 k ≤ 255
def hgFc (M M' : hgMem) : Prop := hgFn (fun b => b = 298) M M' ∧ ∀ k, k ≠ 2 → k ≠ 3 → k ≠ 4 → hgI M' 298 k = hgI M 298 k
theorem hgFc_r : hgFc M M := ⟨hgFn_r, fun _ _ _ _ => rfl⟩
theorem hgFc_t (h1 : hgFc M M1) (h2 : hgFc M1 M2) : hgFc M M2 := ⟨hgFn_t h1.1 h2.1, fun k a b c => (h2.2 k a b c).trans (h1.2 k a b c)⟩
theorem hgFc_s (h : hgFc M M1) (hk : k = 2 ∨ k = 3 ∨ k = 4) : hgFc M (hgSI M1 298 k x) := ⟨hgFn_SI h.1 rfl, fun j a b c => by rw [hgI_nk (by omega)]; exact h.2 j a b c⟩
theorem hgRc_s (h : hgRc M t p) (hk : k ≠ 1 ∧ k ≠ 2) : hgRc (hgSI M 298 k x) t p := by
  obtain ⟨a1, a2, a3, a4, a5, a6⟩ := h
  exact ⟨a1, by rw [hgI_nk (by omega)]; exact a2, by rw [hgI_nk (by omega)]; exact a3, a4, a5, fun k hk => by rw [hgI_na (by omega)]; exact a6 k hk⟩
theorem hgRc_p (h : hgRc M t p) (hq : q ≤ t.2) : hgRc (hgSI M 298 2 (nI q)) t q := by
  obtain ⟨a1, a2, a3, a4, a5, a6⟩ := h
  exact ⟨a1, by rw [hgI_nk (by omega)]; exact a2, hgI_at, hq, a5, fun k hk => by rw [hgI_na (by omega)]; exact a6 k hk⟩
theorem hgk_63 (h : hgRc M t p) (hq : q < 2000) : hgWC X 63 [.ref 298, .int (nI q)] M = some (.inl (.int (nI (if q < t.2 then t.1 q else 0))), M) := by
  obtain ⟨hw, a2, a3, a4, a5, a6⟩ := h
  have h1 : q < 2147483648 := by omega
  have h2 : t.2 < 2147483648 := by omega
  by_cases hl : q < t.2
  · have h3 : ¬ t.2 ≤ q := by omega
    have h4 : ¬ 900 ≤ q := by omega
    have h5 : q < 900 := by omega
    have e := (a6 q hl).1
    rw [if_pos hl]
    simp (maxDischargeDepth := 7) only [hgc63, hgM_t, hgM_f, hgM_n, hgx_iload_n_1, hgx_if_lt, hgx_aload_n_0, hgx_get0, hgx_ic_ge, hgs_get_6_0, hgx_sipush_255, hgx_iand, hgx_goto, hgx_iconst_0, hgx_ret1, hgv63_0, hgr63_0, hgu63_0, hgv63_34, hgr63_34, hgu63_34, hgv63_35, hgr63_35, hgu63_35, hgI_SI, hgI_SJ, hgJ_SI, hgJ_SJ, if_true, if_false, reduceIte, Nat.reduceEqDiff, hgWf_SI, hgWf_SJ, hgO_SI, hgO_SJ, hgAr_SI, hgAr_SJ, hgRp_SI, hgRp_SJ, hgN_SI, hgN_SJ, hgO_g, hgO_d, hgO_rl, hgO_r, hgO_0, hgO_1, hgO_64, hgO_298, hgO_300, hgCd_0, hgCd_1, hgCd_2, hgCd_3, hgCd_4, hgCd_5, hgRecv_O, hgRecv_99, List.length_cons, List.length_nil, Nat.zero_add, Nat.add_zero, Nat.le_refl, Nat.zero_le, and_self, or_true, true_or, true_and, and_true, ne_eq, not_false_eq_true, Nat.reduceLT, Nat.reduceLeDiff, Nat.reduceAdd, Nat.reduceEqDiff, hgn_eq, hgn_lt, hgn_le, if_true, if_false, reduceIte, Nat.not_lt_zero, hgs_aa_d, hgs_aa_r, hgs_aa_h, hgs_aa_m, hgs_aa_t, hgs_ld_wp, hgs_st_wp, hgs_ld_qf, hgs_st_qf, hgs_ld_qt, hgs_st_qt, hgs_ld_2, hgs_st_2, hgs_ld_3, hgs_st_3, hgs_ld_4, hgs_st_4, hgs_ld_301, hgs_st_301, hgs_ld_D, hgs_st_D, hgs_ld_s, hgs_ld_T, hgs_st_T, hgs_ld_o, hgs_st_o, hgs_ld_b, hgs_st_b, hgs_ld_z, hgs_st_z, hgs_al_b, hgx_alen_s, hw, a2, h1, h2, h3, h4, h5, e]
  · have h3 : t.2 ≤ q := by omega
    rw [if_neg hl]
    simp (maxDischargeDepth := 7) only [hgc63, hgM_t, hgM_f, hgM_n, hgx_iload_n_1, hgx_if_lt, hgx_aload_n_0, hgx_get0, hgx_ic_ge, hgs_get_6_0, hgx_sipush_255, hgx_iand, hgx_goto, hgx_iconst_0, hgx_ret1, hgv63_0, hgr63_0, hgu63_0, hgv63_34, hgr63_34, hgu63_34, hgv63_35, hgr63_35, hgu63_35, hgI_SI, hgI_SJ, hgJ_SI, hgJ_SJ, if_true, if_false, reduceIte, Nat.reduceEqDiff, hgWf_SI, hgWf_SJ, hgO_SI, hgO_SJ, hgAr_SI, hgAr_SJ, hgRp_SI, hgRp_SJ, hgN_SI, hgN_SJ, hgO_g, hgO_d, hgO_rl, hgO_r, hgO_0, hgO_1, hgO_64, hgO_298, hgO_300, hgCd_0, hgCd_1, hgCd_2, hgCd_3, hgCd_4, hgCd_5, hgRecv_O, hgRecv_99, List.length_cons, List.length_nil, Nat.zero_add, Nat.add_zero, Nat.le_refl, Nat.zero_le, and_self, or_true, true_or, true_and, and_true, ne_eq, not_false_eq_true, Nat.reduceLT, Nat.reduceLeDiff, Nat.reduceAdd, Nat.reduceEqDiff, hgn_eq, hgn_lt, hgn_le, if_true, if_false, reduceIte, Nat.not_lt_zero, hgs_aa_d, hgs_aa_r, hgs_aa_h, hgs_aa_m, hgs_aa_t, hgs_ld_wp, hgs_st_wp, hgs_ld_qf, hgs_st_qf, hgs_ld_qt, hgs_st_qt, hgs_ld_2, hgs_st_2, hgs_ld_3, hgs_st_3, hgs_ld_4, hgs_st_4, hgs_ld_301, hgs_st_301, hgs_ld_D, hgs_st_D, hgs_ld_s, hgs_ld_T, hgs_st_T, hgs_ld_o, hgs_st_o, hgs_ld_b, hgs_st_b, hgs_ld_z, hgs_st_z, hgs_al_b, hgx_alen_s, hw, a2, h1, h2, h3]
theorem hgk_64 (h : hgRc M t p) (hq : q < t.2) : hgWC X 64 [.ref 298, .int (nI q)] M = some (.inl (.int (hgB (decide (97 ≤ t.1 q ∧ t.1 q ≤ 122)))), M) := by
  have hw := h.1
  have k63 := hgk_63 (X := X) h (show q < 2000 by have := h.2.2.2.2.1; omega)
  rw [if_pos hq] at k63
  have b := (h.2.2.2.2.2 q hq).2
  have b1 : t.1 q < 2147483648 := by omega
  by_cases e1 : t.1 q < 97
  · rw [decide_eq_false (by omega)]
    simp (maxDischargeDepth := 7) only [hgc64, hgM_t, hgM_f, hgM_n, hgx_aload_n_0, hgx_iload_n_1, hgx_invvirtual_2, hgx_aft_e, hgx_aft_i, hgx_aft_l, hgx_aft_v, hgx_bipush_97, hgx_ic_lt, hgx_bipush_122, hgx_ic_gt, hgx_iconst_1, hgx_goto, hgx_iconst_0, hgx_ret3, hgv64_0, hgr64_0, hgu64_0, hgv64_24, hgr64_24, hgu64_24, hgv64_25, hgr64_25, hgu64_25, hgI_SI, hgI_SJ, hgJ_SI, hgJ_SJ, if_true, if_false, reduceIte, Nat.reduceEqDiff, hgWf_SI, hgWf_SJ, hgO_SI, hgO_SJ, hgAr_SI, hgAr_SJ, hgRp_SI, hgRp_SJ, hgN_SI, hgN_SJ, hgO_g, hgO_d, hgO_rl, hgO_r, hgO_0, hgO_1, hgO_64, hgO_298, hgO_300, hgCd_0, hgCd_1, hgCd_2, hgCd_3, hgCd_4, hgCd_5, hgRecv_O, hgRecv_99, List.length_cons, List.length_nil, Nat.zero_add, Nat.add_zero, Nat.le_refl, Nat.zero_le, and_self, or_true, true_or, true_and, and_true, ne_eq, not_false_eq_true, Nat.reduceLT, Nat.reduceLeDiff, Nat.reduceAdd, Nat.reduceEqDiff, hgn_eq, hgn_lt, hgn_le, if_true, if_false, reduceIte, Nat.not_lt_zero, hw, k63, b1, e1, hgB_f]
  · by_cases e2 : 122 < t.1 q
    · rw [decide_eq_false (by omega)]
      simp (maxDischargeDepth := 7) only [hgc64, hgM_t, hgM_f, hgM_n, hgx_aload_n_0, hgx_iload_n_1, hgx_invvirtual_2, hgx_aft_e, hgx_aft_i, hgx_aft_l, hgx_aft_v, hgx_bipush_97, hgx_ic_lt, hgx_bipush_122, hgx_ic_gt, hgx_iconst_1, hgx_goto, hgx_iconst_0, hgx_ret3, hgv64_0, hgr64_0, hgu64_0, hgv64_24, hgr64_24, hgu64_24, hgv64_25, hgr64_25, hgu64_25, hgI_SI, hgI_SJ, hgJ_SI, hgJ_SJ, if_true, if_false, reduceIte, Nat.reduceEqDiff, hgWf_SI, hgWf_SJ, hgO_SI, hgO_SJ, hgAr_SI, hgAr_SJ, hgRp_SI, hgRp_SJ, hgN_SI, hgN_SJ, hgO_g, hgO_d, hgO_rl, hgO_r, hgO_0, hgO_1, hgO_64, hgO_298, hgO_300, hgCd_0, hgCd_1, hgCd_2, hgCd_3, hgCd_4, hgCd_5, hgRecv_O, hgRecv_99, List.length_cons, List.length_nil, Nat.zero_add, Nat.add_zero, Nat.le_refl, Nat.zero_le, and_self, or_true, true_or, true_and, and_true, ne_eq, not_false_eq_true, Nat.reduceLT, Nat.reduceLeDiff, Nat.reduceAdd, Nat.reduceEqDiff, hgn_eq, hgn_lt, hgn_le, if_true, if_false, reduceIte, Nat.not_lt_zero, hw, k63, b1, e1, e2, hgB_f]
    · rw [decide_eq_true (by omega)]
      simp (maxDischargeDepth := 7) only [hgc64, hgM_t, hgM_f, hgM_n, hgx_aload_n_0, hgx_iload_n_1, hgx_invvirtual_2, hgx_aft_e, hgx_aft_i, hgx_aft_l, hgx_aft_v, hgx_bipush_97, hgx_ic_lt, hgx_bipush_122, hgx_ic_gt, hgx_iconst_1, hgx_goto, hgx_iconst_0, hgx_ret3, hgv64_0, hgr64_0, hgu64_0, hgv64_24, hgr64_24, hgu64_24, hgv64_25, hgr64_25, hgu64_25, hgI_SI, hgI_SJ, hgJ_SI, hgJ_SJ, if_true, if_false, reduceIte, Nat.reduceEqDiff, hgWf_SI, hgWf_SJ, hgO_SI, hgO_SJ, hgAr_SI, hgAr_SJ, hgRp_SI, hgRp_SJ, hgN_SI, hgN_SJ, hgO_g, hgO_d, hgO_rl, hgO_r, hgO_0, hgO_1, hgO_64, hgO_298, hgO_300, hgCd_0, hgCd_1, hgCd_2, hgCd_3, hgCd_4, hgCd_5, hgRecv_O, hgRecv_99, List.length_cons, List.length_nil, Nat.zero_add, Nat.add_zero, Nat.le_refl, Nat.zero_le, and_self, or_true, true_or, true_and, and_true, ne_eq, not_false_eq_true, Nat.reduceLT, Nat.reduceLeDiff, Nat.reduceAdd, Nat.reduceEqDiff, hgn_eq, hgn_lt, hgn_le, if_true, if_false, reduceIte, Nat.not_lt_zero, hw, k63, b1, e1, e2, hgB_t]
theorem hgk_65 (h : hgRc M t p) (hq : q ≤ t.2) : hgWC X 65 [.ref 298, .int (nI q)] M = some (.inl (.int (hgB (tDg t q))), M) := by
  have hw := h.1
  have k63 := hgk_63 (X := X) h (show q < 2000 by have := h.2.2.2.2.1; omega)
  unfold tDg
  by_cases hl : q < t.2
  · rw [if_pos hl] at k63
    have b := (h.2.2.2.2.2 q hl).2
    have b1 : t.1 q < 2147483648 := by omega
    rw [decide_eq_true hl, Bool.true_and]
    by_cases e1 : t.1 q < 48
    · rw [decide_eq_false (show ¬ 48 ≤ t.1 q by omega), Bool.false_and]
      simp (maxDischargeDepth := 7) only [hgc65, hgM_t, hgM_f, hgM_n, hgx_aload_n_0, hgx_iload_n_1, hgx_invvirtual_2, hgx_aft_e, hgx_aft_i, hgx_aft_l, hgx_aft_v, hgx_bipush_48, hgx_ic_lt, hgx_bipush_57, hgx_ic_gt, hgx_iconst_1, hgx_goto, hgx_iconst_0, hgx_ret3, hgv65_0, hgr65_0, hgu65_0, hgv65_24, hgr65_24, hgu65_24, hgv65_25, hgr65_25, hgu65_25, hgI_SI, hgI_SJ, hgJ_SI, hgJ_SJ, if_true, if_false, reduceIte, Nat.reduceEqDiff, hgWf_SI, hgWf_SJ, hgO_SI, hgO_SJ, hgAr_SI, hgAr_SJ, hgRp_SI, hgRp_SJ, hgN_SI, hgN_SJ, hgO_g, hgO_d, hgO_rl, hgO_r, hgO_0, hgO_1, hgO_64, hgO_298, hgO_300, hgCd_0, hgCd_1, hgCd_2, hgCd_3, hgCd_4, hgCd_5, hgRecv_O, hgRecv_99, List.length_cons, List.length_nil, Nat.zero_add, Nat.add_zero, Nat.le_refl, Nat.zero_le, and_self, or_true, true_or, true_and, and_true, ne_eq, not_false_eq_true, Nat.reduceLT, Nat.reduceLeDiff, Nat.reduceAdd, Nat.reduceEqDiff, hgn_eq, hgn_lt, hgn_le, if_true, if_false, reduceIte, Nat.not_lt_zero, hw, k63, b1, e1, hgB_f]
    · rw [decide_eq_true (show 48 ≤ t.1 q by omega), Bool.true_and]
      by_cases e2 : 57 < t.1 q
      · rw [decide_eq_false (by omega)]
        simp (maxDischargeDepth := 7) only [hgc65, hgM_t, hgM_f, hgM_n, hgx_aload_n_0, hgx_iload_n_1, hgx_invvirtual_2, hgx_aft_e, hgx_aft_i, hgx_aft_l, hgx_aft_v, hgx_bipush_48, hgx_ic_lt, hgx_bipush_57, hgx_ic_gt, hgx_iconst_1, hgx_goto, hgx_iconst_0, hgx_ret3, hgv65_0, hgr65_0, hgu65_0, hgv65_24, hgr65_24, hgu65_24, hgv65_25, hgr65_25, hgu65_25, hgI_SI, hgI_SJ, hgJ_SI, hgJ_SJ, if_true, if_false, reduceIte, Nat.reduceEqDiff, hgWf_SI, hgWf_SJ, hgO_SI, hgO_SJ, hgAr_SI, hgAr_SJ, hgRp_SI, hgRp_SJ, hgN_SI, hgN_SJ, hgO_g, hgO_d, hgO_rl, hgO_r, hgO_0, hgO_1, hgO_64, hgO_298, hgO_300, hgCd_0, hgCd_1, hgCd_2, hgCd_3, hgCd_4, hgCd_5, hgRecv_O, hgRecv_99, List.length_cons, List.length_nil, Nat.zero_add, Nat.add_zero, Nat.le_refl, Nat.zero_le, and_self, or_true, true_or, true_and, and_true, ne_eq, not_false_eq_true, Nat.reduceLT, Nat.reduceLeDiff, Nat.reduceAdd, Nat.reduceEqDiff, hgn_eq, hgn_lt, hgn_le, if_true, if_false, reduceIte, Nat.not_lt_zero, hw, k63, b1, e1, e2, hgB_f]
      · rw [decide_eq_true (by omega)]
        simp (maxDischargeDepth := 7) only [hgc65, hgM_t, hgM_f, hgM_n, hgx_aload_n_0, hgx_iload_n_1, hgx_invvirtual_2, hgx_aft_e, hgx_aft_i, hgx_aft_l, hgx_aft_v, hgx_bipush_48, hgx_ic_lt, hgx_bipush_57, hgx_ic_gt, hgx_iconst_1, hgx_goto, hgx_iconst_0, hgx_ret3, hgv65_0, hgr65_0, hgu65_0, hgv65_24, hgr65_24, hgu65_24, hgv65_25, hgr65_25, hgu65_25, hgI_SI, hgI_SJ, hgJ_SI, hgJ_SJ, if_true, if_false, reduceIte, Nat.reduceEqDiff, hgWf_SI, hgWf_SJ, hgO_SI, hgO_SJ, hgAr_SI, hgAr_SJ, hgRp_SI, hgRp_SJ, hgN_SI, hgN_SJ, hgO_g, hgO_d, hgO_rl, hgO_r, hgO_0, hgO_1, hgO_64, hgO_298, hgO_300, hgCd_0, hgCd_1, hgCd_2, hgCd_3, hgCd_4, hgCd_5, hgRecv_O, hgRecv_99, List.length_cons, List.length_nil, Nat.zero_add, Nat.add_zero, Nat.le_refl, Nat.zero_le, and_self, or_true, true_or, true_and, and_true, ne_eq, not_false_eq_true, Nat.reduceLT, Nat.reduceLeDiff, Nat.reduceAdd, Nat.reduceEqDiff, hgn_eq, hgn_lt, hgn_le, if_true, if_false, reduceIte, Nat.not_lt_zero, hw, k63, b1, e1, e2, hgB_t]
  · rw [if_neg hl] at k63
    rw [decide_eq_false hl, Bool.false_and]
    simp (maxDischargeDepth := 7) only [hgc65, hgM_t, hgM_f, hgM_n, hgx_aload_n_0, hgx_iload_n_1, hgx_invvirtual_2, hgx_aft_e, hgx_aft_i, hgx_aft_l, hgx_aft_v, hgx_bipush_48, hgx_ic_lt, hgx_bipush_57, hgx_ic_gt, hgx_iconst_1, hgx_goto, hgx_iconst_0, hgx_ret3, hgv65_0, hgr65_0, hgu65_0, hgv65_24, hgr65_24, hgu65_24, hgv65_25, hgr65_25, hgu65_25, hgI_SI, hgI_SJ, hgJ_SI, hgJ_SJ, if_true, if_false, reduceIte, Nat.reduceEqDiff, hgWf_SI, hgWf_SJ, hgO_SI, hgO_SJ, hgAr_SI, hgAr_SJ, hgRp_SI, hgRp_SJ, hgN_SI, hgN_SJ, hgO_g, hgO_d, hgO_rl, hgO_r, hgO_0, hgO_1, hgO_64, hgO_298, hgO_300, hgCd_0, hgCd_1, hgCd_2, hgCd_3, hgCd_4, hgCd_5, hgRecv_O, hgRecv_99, List.length_cons, List.length_nil, Nat.zero_add, Nat.add_zero, Nat.le_refl, Nat.zero_le, and_self, or_true, true_or, true_and, and_true, ne_eq, not_false_eq_true, Nat.reduceLT, Nat.reduceLeDiff, Nat.reduceAdd, Nat.reduceEqDiff, hgn_eq, hgn_lt, hgn_le, if_true, if_false, reduceIte, Nat.not_lt_zero, hw, k63, hgB_f]
theorem hgk_66l : ∀ (k p : Nat) (M : hgMem), p + k = t.2 → hgRc M t p → ∃ M', hgW X 66 0 [some (.ref 298)] [] (0, 0) M = some (.inl .null, M') ∧ hgRc M' t (pSk t k p) ∧ hgI M' 298 3 = nI (pSk t k p) ∧ hgFc M M' ∧ hgI M' 298 4 = hgI M 298 4 := by
  intro k
  induction k with
  | zero =>
    intro p M hp h
    have h0 := h
    obtain ⟨hw, a2, a3, a4, a5, a6⟩ := h0
    have h1 : p < 2147483648 := by omega
    have h2 : t.2 < 2147483648 := by omega
    have h3 : t.2 ≤ p := by omega
    refine ⟨hgSI M 298 3 (nI p), ?_, hgRc_s h (by omega), hgI_at, hgFc_s hgFc_r (by omega), hgI_nk (by omega)⟩
    rw [hgu66_0]
    simp (maxDischargeDepth := 7) only [hgr66_0, hgx_aload_n_0, hgx_get0, hgx_ic_ge, hgv66_37, hgu66_37, hgr66_37, hgx_put0, hgx_vret, hgM_t, hgM_f, hgM_n, hgI_SI, hgI_SJ, hgJ_SI, hgJ_SJ, if_true, if_false, reduceIte, Nat.reduceEqDiff, hgWf_SI, hgWf_SJ, hgO_SI, hgO_SJ, hgAr_SI, hgAr_SJ, hgRp_SI, hgRp_SJ, hgN_SI, hgN_SJ, hgO_g, hgO_d, hgO_rl, hgO_r, hgO_0, hgO_1, hgO_64, hgO_298, hgO_300, hgCd_0, hgCd_1, hgCd_2, hgCd_3, hgCd_4, hgCd_5, hgRecv_O, hgRecv_99, List.length_cons, List.length_nil, Nat.zero_add, Nat.add_zero, Nat.le_refl, Nat.zero_le, and_self, or_true, true_or, true_and, and_true, ne_eq, not_false_eq_true, Nat.reduceLT, Nat.reduceLeDiff, Nat.reduceAdd, Nat.reduceEqDiff, hgn_eq, hgn_lt, hgn_le, if_true, if_false, reduceIte, Nat.not_lt_zero, hw, a2, a3, h1, h2, h3]
  | succ k ih =>
    intro p M hp h
    have h0 := h
    obtain ⟨hw, a2, a3, a4, a5, a6⟩ := h0
    have h1 : p < 2147483648 := by omega
    have h2 : t.2 < 2147483648 := by omega
    have h3 : ¬ t.2 ≤ p := by omega
    have hl : p < t.2 := by omega
    have k63 := hgk_63 (X := X) h (show p < 2000 by omega)
    rw [if_pos hl] at k63
    have b := (a6 p hl).2
    have b1 : t.1 p < 2147483648 := by omega
    unfold pSk
    by_cases e : t.1 p = 32
    · rw [if_pos e]
      obtain ⟨M', e1, r1, r2, r3, r4⟩ := ih (p + 1) (hgSI M 298 2 (nI (p + 1))) (by omega) (hgRc_p h (by omega))
      refine ⟨M', ?_, r1, r2, hgFc_t (hgFc_s hgFc_r (by omega)) r3, by rw [r4, hgI_nk (by omega)]⟩
      rw [e] at k63
      rw [hgu66_0]
      simp (maxDischargeDepth := 7) only [hgM_t, hgM_f, hgM_n, hgx_aload_n_0, hgx_get0, hgx_ic_ge, hgx_invvirtual_2, hgx_aft_e, hgx_aft_i, hgx_aft_l, hgx_aft_v, hgx_bipush_32, hgx_ic_ne, hgx_dup_i, hgx_dup_f, hgx_dup_r, hgx_iconst_1, hgx_iadd, hgx_put0, hgx_goto, hgx_vret, hgv66_0, hgr66_0, hgv66_37, hgr66_37, hgu66_37, hgI_SI, hgI_SJ, hgJ_SI, hgJ_SJ, if_true, if_false, reduceIte, Nat.reduceEqDiff, hgWf_SI, hgWf_SJ, hgO_SI, hgO_SJ, hgAr_SI, hgAr_SJ, hgRp_SI, hgRp_SJ, hgN_SI, hgN_SJ, hgO_g, hgO_d, hgO_rl, hgO_r, hgO_0, hgO_1, hgO_64, hgO_298, hgO_300, hgCd_0, hgCd_1, hgCd_2, hgCd_3, hgCd_4, hgCd_5, hgRecv_O, hgRecv_99, List.length_cons, List.length_nil, Nat.zero_add, Nat.add_zero, Nat.le_refl, Nat.zero_le, and_self, or_true, true_or, true_and, and_true, ne_eq, not_false_eq_true, Nat.reduceLT, Nat.reduceLeDiff, Nat.reduceAdd, Nat.reduceEqDiff, hgn_eq, hgn_lt, hgn_le, if_true, if_false, reduceIte, Nat.not_lt_zero, hgn_add, hgn_mul, hw, a2, a3, h1, h2, h3, k63]
      exact e1
    · rw [if_neg e]
      refine ⟨hgSI M 298 3 (nI p), ?_, hgRc_s h (by omega), hgI_at, hgFc_s hgFc_r (by omega), hgI_nk (by omega)⟩
      rw [hgu66_0]
      simp (maxDischargeDepth := 7) only [hgM_t, hgM_f, hgM_n, hgx_aload_n_0, hgx_get0, hgx_ic_ge, hgx_invvirtual_2, hgx_aft_e, hgx_aft_i, hgx_aft_l, hgx_aft_v, hgx_bipush_32, hgx_ic_ne, hgx_dup_i, hgx_dup_f, hgx_dup_r, hgx_iconst_1, hgx_iadd, hgx_put0, hgx_goto, hgx_vret, hgv66_0, hgr66_0, hgv66_37, hgr66_37, hgu66_37, hgI_SI, hgI_SJ, hgJ_SI, hgJ_SJ, if_true, if_false, reduceIte, Nat.reduceEqDiff, hgWf_SI, hgWf_SJ, hgO_SI, hgO_SJ, hgAr_SI, hgAr_SJ, hgRp_SI, hgRp_SJ, hgN_SI, hgN_SJ, hgO_g, hgO_d, hgO_rl, hgO_r, hgO_0, hgO_1, hgO_64, hgO_298, hgO_300, hgCd_0, hgCd_1, hgCd_2, hgCd_3, hgCd_4, hgCd_5, hgRecv_O, hgRecv_99, List.length_cons, List.length_nil, Nat.zero_add, Nat.add_zero, Nat.le_refl, Nat.zero_le, and_self, or_true, true_or, true_and, and_true, ne_eq, not_false_eq_true, Nat.reduceLT, Nat.reduceLeDiff, Nat.reduceAdd, Nat.reduceEqDiff, hgn_eq, hgn_lt, hgn_le, if_true, if_false, reduceIte, Nat.not_lt_zero, hgn_add, hgn_mul, hw, a2, a3, h1, h2, h3, k63, b1, e]
theorem hgk_66 (h : hgRc M t p) : ∃ M', hgWC X 66 [.ref 298] M = some (.inl .null, M') ∧ hgRc M' t (tSk t p) ∧ hgI M' 298 3 = nI (tSk t p) ∧ hgFc M M' ∧ hgI M' 298 4 = hgI M 298 4 := by
  have hp := h.2.2.2.1
  obtain ⟨M', e, r⟩ := hgk_66l (X := X) (t.2 - p) p M (by omega) h
  refine ⟨M', ?_, r⟩
  rw [hgc66]
  exact e
end HGTXT

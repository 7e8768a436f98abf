/-! TOKENS, the component's. -/
/-- a number: its value and the place behind it, or the error -/
def sNum (t : hgTxt) (p lo hi : Nat) : (Nat × Nat) ⊕ (Int32 × Nat) := if tDg t (tSk t p) = true then (if lo ≤ (tDv t (tSk t p)).1 ∧ (tDv t (tSk t p)).1 ≤ hi then .inl (tDv t (tSk t p)) else .inr (-3, tSk t p)) else .inr (-2, tSk t p)
/-- a selector -/
def sSel (t : hgTxt) (p : Nat) : Option Nat := if tWd t p [104, 111, 109, 101] = true then some 0 else if tWd t p [103, 117, 101, 115, 116] = true then some 1 else if tWd t p [105, 111, 116] = true then some 2 else if tWd t p [110, 101, 116] = true then some 3 else if tWd t p [97, 110, 121] = true then some 4 else none
section HGTOK
variable {X : hgX} {rm : hgK} {C : Nat → List Value → hgMem → Option hgOut} {J : Nat → hgL → List Value → hgK → hgMem → Option hgOut} {ll : Nat} {hs : List (Nat × Nat × Nat)} {rs : List hgRow} {L : hgL} {S : List Value} {K : hgK} {M M' M1 M2 M3 Mo : hgMem} {t : hgTxt} {i j k a b n p q e N l s lo hi q1 q2 q3 q4 q5 q6 idx : Nat} {x y z : Int32}
theorem hgx_len (h : s < 12) (hS : S.length ≤ 4) : hgEx X rm C J ((.invokevirtual idx, ll, [1003, q1, q2, q3, q4, q5, q6], hs) :: rs) L (.ref (1000 + s) :: S) K M = hgEx X rm C J rs L (.int (nI (hgStr.getD s []).length) :: S) K M := by
  have e : hgStr.length = 12 := rfl
  show (if 1000 ≤ 1000 + s ∧ 1000 + s < 1000 + hgStr.length then (if (Value.int (nI (hgStr.getD (1000 + s - 1000) []).length) :: S).length ≤ 5 then hgEx X rm C J rs L (.int (nI (hgStr.getD (1000 + s - 1000) []).length) :: S) K M else none) else none) = _
  rw [if_pos (by omega), if_pos (by rw [List.length_cons]; omega), show 1000 + s - 1000 = s by omega]
theorem hgx_chr (h : s < 12) (hi : i < (hgStr.getD s []).length) (hi2 : i < 2147483648) (hS : S.length ≤ 4) : hgEx X rm C J ((.invokevirtual idx, ll, [1004, q1, q2, q3, q4, q5, q6], hs) :: rs) L (.int (nI i) :: .ref (1000 + s) :: S) K M = hgEx X rm C J rs L (.int (nI ((hgStr.getD s []).getD i 0)) :: S) K M := by
  have e : hgStr.length = 12 := rfl
  have hin : hgIn (nI i) (hgStr.getD s []).length = true := by
    unfold hgIn
    rw [hgn_int hi2, decide_eq_true (show (0 : Int) ≤ i by omega), decide_eq_true (show (i : Int) < ((hgStr.getD s []).length : Int) by omega)]
    rfl
  show (if 1000 ≤ 1000 + s ∧ 1000 + s < 1000 + hgStr.length ∧ hgIn (nI i) (hgStr.getD (1000 + s - 1000) []).length = true then (if (Value.int (nI ((hgStr.getD (1000 + s - 1000) []).getD (nI i).toNatClampNeg 0)) :: S).length ≤ 5 then hgEx X rm C J rs L (.int (nI ((hgStr.getD (1000 + s - 1000) []).getD (nI i).toNatClampNeg 0)) :: S) K M else none) else none) = _
  rw [show 1000 + s - 1000 = s by omega, hgn_cl hi2, if_pos ⟨by omega, by omega, hin⟩, if_pos (by rw [List.length_cons]; omega)]
theorem hgStr_l : ∀ s, s < 12 → (hgStr.getD s []).length ≤ 7 ∧ ∀ i, i < (hgStr.getD s []).length → 97 ≤ (hgStr.getD s []).getD i 0 ∧ (hgStr.getD s []).getD i 0 ≤ 122 := by decide
theorem hgk_62 (hw : hgWf M) : hgWC X 62 [.ref 298, .int x] M = some (.inl (.int (nI 0)), hgSI (hgSI M 298 9 x) 298 10 (hgI M 298 3)) := by
  simp (maxDischargeDepth := 7) only [hgc62, hgM_t, hgM_f, hgM_n, hgx_aload_n_0, hgx_iload_n_1, hgx_put0, hgx_get0, hgx_iconst_0, hgx_ret3, hgv62_0, hgr62_0, hgu62_0, hgI_SI, hgI_SJ, hgJ_SI, hgJ_SJ, if_true, if_false, reduceIte, Nat.reduceEqDiff, hgWf_SI, hgWf_SJ, hgO_SI, hgO_SJ, hgAr_SI, hgAr_SJ, hgRp_SI, hgRp_SJ, hgN_SI, hgN_SJ, hgO_g, hgO_d, hgO_rl, hgO_r, hgO_0, hgO_1, hgO_64, hgO_298, hgO_300, hgCd_0, hgCd_1, hgCd_2, hgCd_3, hgCd_4, hgCd_5, hgRecv_O, hgRecv_99, List.length_cons, List.length_nil, Nat.zero_add, Nat.add_zero, Nat.le_refl, Nat.zero_le, and_self, or_true, true_or, true_and, and_true, ne_eq, not_false_eq_true, Nat.reduceLT, Nat.reduceLeDiff, Nat.reduceAdd, Nat.reduceEqDiff, hgn_eq, hgn_lt, hgn_le, if_true, if_false, reduceIte, Nat.not_lt_zero, hw]
/-- it failed: the code and the place -/
def hgEr (M M' : hgMem) (x : Int32) (n : Nat) : Prop := hgFn (fun b => b = 298) M M' ∧ (∀ k, k ≠ 2 → k ≠ 3 → k ≠ 4 → k ≠ 9 → k ≠ 10 → hgI M' 298 k = hgI M 298 k) ∧ hgI M' 298 9 = x ∧ hgI M' 298 10 = nI n ∧ hgWf M'
theorem hgEr_f (f : hgFc M M1) (hw : hgWf M1) (h3 : hgI M1 298 3 = nI n) : hgEr M (hgSI (hgSI M1 298 9 x) 298 10 (hgI M1 298 3)) x n := ⟨hgFn_SI (hgFn_SI f.1 rfl) rfl, fun k a b c d e => by rw [hgI_nk (by omega), hgI_nk (by omega)]; exact f.2 k a b c, by rw [hgI_nk (by omega), hgI_at], by rw [hgI_at]; exact h3, hw⟩
theorem hgEr_t (f : hgFc M M1) (h : hgEr M1 M2 x n) : hgEr M M2 x n := ⟨hgFn_t f.1 h.1, fun k a b c d e => (h.2.1 k a b c d e).trans (f.2 k a b c), h.2.2.1, h.2.2.2.1, h.2.2.2.2⟩
theorem hgk_67 (h : hgRc M t p) : ∃ M', hgWC X 67 [.ref 298] M = some (.inl (.int (hgB (decide (t.2 ≤ tSk t p)))), M') ∧ hgRc M' t (tSk t p) ∧ hgI M' 298 3 = nI (tSk t p) ∧ hgFc M M' := by
  obtain ⟨M', e, r1, r2, r3, _⟩ := hgk_66 (X := X) h
  have hw := h.1
  have w1 := r1.1
  have l1 := r1.2.1
  have p1 := r1.2.2.1
  have b1 : tSk t p < 2147483648 := by have := (tSk_f h.2.2.2.1).2.1; have := h.2.2.2.2.1; omega
  have b2 : t.2 < 2147483648 := by have := h.2.2.2.2.1; omega
  refine ⟨M', ?_, r1, r2, r3⟩
  by_cases q : tSk t p < t.2
  · rw [decide_eq_false (by omega)]
    simp (maxDischargeDepth := 7) only [hgc67, hgM_t, hgM_f, hgM_n, hgx_aload_n_0, hgx_invvirtual_1, hgx_aft_e, hgx_aft_i, hgx_aft_l, hgx_aft_v, hgx_get0, hgx_ic_lt, hgx_iconst_1, hgx_goto, hgx_iconst_0, hgx_ret3, hgv67_0, hgr67_0, hgu67_0, hgv67_19, hgr67_19, hgu67_19, hgv67_20, hgr67_20, hgu67_20, hgI_SI, hgI_SJ, hgJ_SI, hgJ_SJ, if_true, if_false, reduceIte, Nat.reduceEqDiff, hgWf_SI, hgWf_SJ, hgO_SI, hgO_SJ, hgAr_SI, hgAr_SJ, hgRp_SI, hgRp_SJ, hgN_SI, hgN_SJ, hgO_g, hgO_d, hgO_rl, hgO_r, hgO_0, hgO_1, hgO_64, hgO_298, hgO_300, hgCd_0, hgCd_1, hgCd_2, hgCd_3, hgCd_4, hgCd_5, hgRecv_O, hgRecv_99, List.length_cons, List.length_nil, Nat.zero_add, Nat.add_zero, Nat.le_refl, Nat.zero_le, and_self, or_true, true_or, true_and, and_true, ne_eq, not_false_eq_true, Nat.reduceLT, Nat.reduceLeDiff, Nat.reduceAdd, Nat.reduceEqDiff, hgn_eq, hgn_lt, hgn_le, if_true, if_false, reduceIte, Nat.not_lt_zero, hw, e, w1, l1, p1, b1, b2, q, hgB_f]
  · rw [decide_eq_true (by omega)]
    simp (maxDischargeDepth := 7) only [hgc67, hgM_t, hgM_f, hgM_n, hgx_aload_n_0, hgx_invvirtual_1, hgx_aft_e, hgx_aft_i, hgx_aft_l, hgx_aft_v, hgx_get0, hgx_ic_lt, hgx_iconst_1, hgx_goto, hgx_iconst_0, hgx_ret3, hgv67_0, hgr67_0, hgu67_0, hgv67_19, hgr67_19, hgu67_19, hgv67_20, hgr67_20, hgu67_20, hgI_SI, hgI_SJ, hgJ_SI, hgJ_SJ, if_true, if_false, reduceIte, Nat.reduceEqDiff, hgWf_SI, hgWf_SJ, hgO_SI, hgO_SJ, hgAr_SI, hgAr_SJ, hgRp_SI, hgRp_SJ, hgN_SI, hgN_SJ, hgO_g, hgO_d, hgO_rl, hgO_r, hgO_0, hgO_1, hgO_64, hgO_298, hgO_300, hgCd_0, hgCd_1, hgCd_2, hgCd_3, hgCd_4, hgCd_5, hgRecv_O, hgRecv_99, List.length_cons, List.length_nil, Nat.zero_add, Nat.add_zero, Nat.le_refl, Nat.zero_le, and_self, or_true, true_or, true_and, and_true, ne_eq, not_false_eq_true, Nat.reduceLT, Nat.reduceLeDiff, Nat.reduceAdd, Nat.reduceEqDiff, hgn_eq, hgn_lt, hgn_le, if_true, if_false, reduceIte, Nat.not_lt_zero, hw, e, w1, l1, p1, b1, b2, q, hgB_t]
def tSc (t : hgTxt) (p : Nat) : Bool := decide (tSk t p < t.2) && decide (t.1 (tSk t p) = 59)
theorem hgk_68a (h : hgRc M t p) (hs : tSc t p = true) : ∃ M', hgWC X 68 [.ref 298] M = some (.inl (.int (nI 1)), M') ∧ hgRc M' t (tSk t p + 1) ∧ hgFc M M' := by
  unfold tSc at hs
  rw [Bool.and_eq_true, decide_eq_true_iff, decide_eq_true_iff] at hs
  obtain ⟨M1, e, r1, r2, r3, _⟩ := hgk_66 (X := X) h
  have hw := h.1
  have w1 := r1.1
  have p1 := r1.2.2.1
  have k63 := hgk_63 (X := X) r1 (show tSk t p < 2000 by have := h.2.2.2.2.1; omega)
  rw [if_pos hs.1, hs.2] at k63
  refine ⟨hgSI M1 298 2 (nI (tSk t p + 1)), ?_, hgRc_p r1 (by omega), hgFc_s r3 (by omega)⟩
  simp (maxDischargeDepth := 7) only [hgc68, hgM_t, hgM_f, hgM_n, hgx_aload_n_0, hgx_invvirtual_1, hgx_aft_e, hgx_aft_i, hgx_aft_l, hgx_aft_v, hgx_get0, hgx_invvirtual_2, hgx_bipush_59, hgx_ic_eq, hgx_bipush_m2, hgx_ret3, hgx_dup_i, hgx_dup_f, hgx_dup_r, hgx_iconst_1, hgx_iadd, hgx_put0, hgv68_0, hgr68_0, hgu68_0, hgv68_24, hgr68_24, hgu68_24, hgI_SI, hgI_SJ, hgJ_SI, hgJ_SJ, if_true, if_false, reduceIte, Nat.reduceEqDiff, hgWf_SI, hgWf_SJ, hgO_SI, hgO_SJ, hgAr_SI, hgAr_SJ, hgRp_SI, hgRp_SJ, hgN_SI, hgN_SJ, hgO_g, hgO_d, hgO_rl, hgO_r, hgO_0, hgO_1, hgO_64, hgO_298, hgO_300, hgCd_0, hgCd_1, hgCd_2, hgCd_3, hgCd_4, hgCd_5, hgRecv_O, hgRecv_99, List.length_cons, List.length_nil, Nat.zero_add, Nat.add_zero, Nat.le_refl, Nat.zero_le, and_self, or_true, true_or, true_and, and_true, ne_eq, not_false_eq_true, Nat.reduceLT, Nat.reduceLeDiff, Nat.reduceAdd, Nat.reduceEqDiff, hgn_eq, hgn_lt, hgn_le, if_true, if_false, reduceIte, Nat.not_lt_zero, hgn_add, hgn_mul, hw, e, w1, p1, k63]
theorem hgk_68b (h : hgRc M t p) (hs : tSc t p = false) : ∃ M', hgWC X 68 [.ref 298] M = some (.inl (.int (nI 0)), M') ∧ hgEr M M' (-2) (tSk t p) := by
  obtain ⟨M1, e, r1, r2, r3, _⟩ := hgk_66 (X := X) h
  have hw := h.1
  have w1 := r1.1
  have p1 := r1.2.2.1
  have b := (tSk_f h.2.2.2.1).2.1
  have k63 := hgk_63 (X := X) r1 (show tSk t p < 2000 by have := h.2.2.2.2.1; omega)
  have k62 := hgk_62 (X := X) (x := -2) w1
  have ne : ¬ (if tSk t p < t.2 then t.1 (tSk t p) else 0) = 59 := fun q => by
    by_cases c : tSk t p < t.2
    · rw [if_pos c] at q
      unfold tSc at hs
      rw [decide_eq_true c, decide_eq_true q] at hs
      cases hs
    · rw [if_neg c] at q
      omega
  have lt : (if tSk t p < t.2 then t.1 (tSk t p) else 0) < 2147483648 := by
    split
    · next c => have := (r1.2.2.2.2.2 _ c).2; omega
    · omega
  refine ⟨_, ?_, hgEr_f r3 w1 r2⟩
  generalize (if tSk t p < t.2 then t.1 (tSk t p) else 0) = w at k63 ne lt
  simp (maxDischargeDepth := 7) only [hgc68, hgM_t, hgM_f, hgM_n, hgx_aload_n_0, hgx_invvirtual_1, hgx_aft_e, hgx_aft_i, hgx_aft_l, hgx_aft_v, hgx_get0, hgx_invvirtual_2, hgx_bipush_59, hgx_ic_eq, hgx_bipush_m2, hgx_ret3, hgx_dup_i, hgx_dup_f, hgx_dup_r, hgx_iconst_1, hgx_iadd, hgx_put0, hgv68_0, hgr68_0, hgu68_0, hgv68_24, hgr68_24, hgu68_24, hgI_SI, hgI_SJ, hgJ_SI, hgJ_SJ, if_true, if_false, reduceIte, Nat.reduceEqDiff, hgWf_SI, hgWf_SJ, hgO_SI, hgO_SJ, hgAr_SI, hgAr_SJ, hgRp_SI, hgRp_SJ, hgN_SI, hgN_SJ, hgO_g, hgO_d, hgO_rl, hgO_r, hgO_0, hgO_1, hgO_64, hgO_298, hgO_300, hgCd_0, hgCd_1, hgCd_2, hgCd_3, hgCd_4, hgCd_5, hgRecv_O, hgRecv_99, List.length_cons, List.length_nil, Nat.zero_add, Nat.add_zero, Nat.le_refl, Nat.zero_le, and_self, or_true, true_or, true_and, and_true, ne_eq, not_false_eq_true, Nat.reduceLT, Nat.reduceLeDiff, Nat.reduceAdd, Nat.reduceEqDiff, hgn_eq, hgn_lt, hgn_le, if_true, if_false, reduceIte, Nat.not_lt_zero, hgn_add, hgn_mul, hw, e, w1, p1, k63, lt, ne, k62]
theorem hgk_69l : ∀ (k p : Nat) (M : hgMem), p + k = t.2 → hgRc M t p → ∃ M', hgW X 69 4 [some (.ref 298)] [] (0, 0) M = some (.inl .null, M') ∧ hgRc M' t (pWe t k p) ∧ hgI M' 298 3 = hgI M 298 3 ∧ hgFc M M' := by
  intro k
  induction k with
  | zero =>
    intro p M hp h
    have h0 := h
    obtain ⟨hw, a2, a3, a4, a5, a6⟩ := h0
    have h1 : p < 2147483648 := by omega
    have h2 : t.2 < 2147483648 := by omega
    have h3 : t.2 ≤ p := by omega
    refine ⟨M, ?_, h, rfl, hgFc_r⟩
    rw [hgu69_4]
    simp (maxDischargeDepth := 7) only [hgM_t, hgM_f, hgM_n, hgx_aload_n_0, hgx_invvirtual_1, hgx_aft_e, hgx_aft_i, hgx_aft_l, hgx_aft_v, hgx_get0, hgx_ic_ge, hgx_invvirtual_2, hgx_if_eq, hgx_dup_i, hgx_dup_f, hgx_dup_r, hgx_iconst_1, hgx_iadd, hgx_put0, hgx_goto, hgx_vret, hgv69_0, hgr69_0, hgu69_0, hgv69_4, hgr69_4, hgv69_39, hgr69_39, hgu69_39, hgI_SI, hgI_SJ, hgJ_SI, hgJ_SJ, if_true, if_false, reduceIte, Nat.reduceEqDiff, hgWf_SI, hgWf_SJ, hgO_SI, hgO_SJ, hgAr_SI, hgAr_SJ, hgRp_SI, hgRp_SJ, hgN_SI, hgN_SJ, hgO_g, hgO_d, hgO_rl, hgO_r, hgO_0, hgO_1, hgO_64, hgO_298, hgO_300, hgCd_0, hgCd_1, hgCd_2, hgCd_3, hgCd_4, hgCd_5, hgRecv_O, hgRecv_99, List.length_cons, List.length_nil, Nat.zero_add, Nat.add_zero, Nat.le_refl, Nat.zero_le, and_self, or_true, true_or, true_and, and_true, ne_eq, not_false_eq_true, Nat.reduceLT, Nat.reduceLeDiff, Nat.reduceAdd, Nat.reduceEqDiff, hgn_eq, hgn_lt, hgn_le, if_true, if_false, reduceIte, Nat.not_lt_zero, hw, a2, a3, h1, h2, h3]
  | succ k ih =>
    intro p M hp h
    have h0 := h
    obtain ⟨hw, a2, a3, a4, a5, a6⟩ := h0
    have h1 : p < 2147483648 := by omega
    have h2 : t.2 < 2147483648 := by omega
    have h3 : ¬ t.2 ≤ p := by omega
    have k64 := hgk_64 (X := X) h (show p < t.2 by omega)
    unfold pWe
    by_cases e : 97 ≤ t.1 p ∧ t.1 p ≤ 122
    · rw [if_pos e]
      rw [decide_eq_true e] at k64
      obtain ⟨M', e1, r1, r2, r3⟩ := ih (p + 1) (hgSI M 298 2 (nI (p + 1))) (by omega) (hgRc_p h (by omega))
      refine ⟨M', ?_, r1, by rw [r2, hgI_nk (by omega)], hgFc_t (hgFc_s hgFc_r (by omega)) r3⟩
      rw [hgu69_4]
      simp (maxDischargeDepth := 7) only [hgM_t, hgM_f, hgM_n, hgx_aload_n_0, hgx_invvirtual_1, hgx_aft_e, hgx_aft_i, hgx_aft_l, hgx_aft_v, hgx_get0, hgx_ic_ge, hgx_invvirtual_2, hgx_if_eq, hgx_dup_i, hgx_dup_f, hgx_dup_r, hgx_iconst_1, hgx_iadd, hgx_put0, hgx_goto, hgx_vret, hgv69_0, hgr69_0, hgu69_0, hgv69_4, hgr69_4, hgv69_39, hgr69_39, hgu69_39, hgI_SI, hgI_SJ, hgJ_SI, hgJ_SJ, if_true, if_false, reduceIte, Nat.reduceEqDiff, hgWf_SI, hgWf_SJ, hgO_SI, hgO_SJ, hgAr_SI, hgAr_SJ, hgRp_SI, hgRp_SJ, hgN_SI, hgN_SJ, hgO_g, hgO_d, hgO_rl, hgO_r, hgO_0, hgO_1, hgO_64, hgO_298, hgO_300, hgCd_0, hgCd_1, hgCd_2, hgCd_3, hgCd_4, hgCd_5, hgRecv_O, hgRecv_99, List.length_cons, List.length_nil, Nat.zero_add, Nat.add_zero, Nat.le_refl, Nat.zero_le, and_self, or_true, true_or, true_and, and_true, ne_eq, not_false_eq_true, Nat.reduceLT, Nat.reduceLeDiff, Nat.reduceAdd, Nat.reduceEqDiff, hgn_eq, hgn_lt, hgn_le, if_true, if_false, reduceIte, Nat.not_lt_zero, hgn_add, hgn_mul, hw, a2, a3, h1, h2, h3, k64, hgB_t]
      exact e1
    · rw [if_neg e]
      rw [decide_eq_false e] at k64
      refine ⟨M, ?_, h, rfl, hgFc_r⟩
      rw [hgu69_4]
      simp (maxDischargeDepth := 7) only [hgM_t, hgM_f, hgM_n, hgx_aload_n_0, hgx_invvirtual_1, hgx_aft_e, hgx_aft_i, hgx_aft_l, hgx_aft_v, hgx_get0, hgx_ic_ge, hgx_invvirtual_2, hgx_if_eq, hgx_dup_i, hgx_dup_f, hgx_dup_r, hgx_iconst_1, hgx_iadd, hgx_put0, hgx_goto, hgx_vret, hgv69_0, hgr69_0, hgu69_0, hgv69_4, hgr69_4, hgv69_39, hgr69_39, hgu69_39, hgI_SI, hgI_SJ, hgJ_SI, hgJ_SJ, if_true, if_false, reduceIte, Nat.reduceEqDiff, hgWf_SI, hgWf_SJ, hgO_SI, hgO_SJ, hgAr_SI, hgAr_SJ, hgRp_SI, hgRp_SJ, hgN_SI, hgN_SJ, hgO_g, hgO_d, hgO_rl, hgO_r, hgO_0, hgO_1, hgO_64, hgO_298, hgO_300, hgCd_0, hgCd_1, hgCd_2, hgCd_3, hgCd_4, hgCd_5, hgRecv_O, hgRecv_99, List.length_cons, List.length_nil, Nat.zero_add, Nat.add_zero, Nat.le_refl, Nat.zero_le, and_self, or_true, true_or, true_and, and_true, ne_eq, not_false_eq_true, Nat.reduceLT, Nat.reduceLeDiff, Nat.reduceAdd, Nat.reduceEqDiff, hgn_eq, hgn_lt, hgn_le, if_true, if_false, reduceIte, Nat.not_lt_zero, hgn_add, hgn_mul, hw, a2, a3, h1, h2, h3, k64, hgB_f]
theorem hgk_69 (h : hgRc M t p) : ∃ M', hgWC X 69 [.ref 298] M = some (.inl .null, M') ∧ hgRc M' t (tWe t (tSk t p)) ∧ hgI M' 298 3 = nI (tSk t p) ∧ hgFc M M' := by
  obtain ⟨M1, e, r1, r2, r3, _⟩ := hgk_66 (X := X) h
  have hw := h.1
  obtain ⟨M2, e2, s1, s2, s3⟩ := hgk_69l (X := X) (t.2 - tSk t p) (tSk t p) M1 (by have := r1.2.2.2.1; omega) r1
  refine ⟨M2, ?_, s1, s2.trans r2, hgFc_t r3 s3⟩
  simp (maxDischargeDepth := 7) only [hgc69, hgM_t, hgM_f, hgM_n, hgx_aload_n_0, hgx_invvirtual_1, hgx_aft_e, hgx_aft_i, hgx_aft_l, hgx_aft_v, hgx_get0, hgx_ic_ge, hgx_invvirtual_2, hgx_if_eq, hgx_dup_i, hgx_dup_f, hgx_dup_r, hgx_iconst_1, hgx_iadd, hgx_put0, hgx_goto, hgx_vret, hgv69_0, hgr69_0, hgu69_0, hgv69_4, ← hgu69_4, hgv69_39, hgr69_39, hgu69_39, hgI_SI, hgI_SJ, hgJ_SI, hgJ_SJ, if_true, if_false, reduceIte, Nat.reduceEqDiff, hgWf_SI, hgWf_SJ, hgO_SI, hgO_SJ, hgAr_SI, hgAr_SJ, hgRp_SI, hgRp_SJ, hgN_SI, hgN_SJ, hgO_g, hgO_d, hgO_rl, hgO_r, hgO_0, hgO_1, hgO_64, hgO_298, hgO_300, hgCd_0, hgCd_1, hgCd_2, hgCd_3, hgCd_4, hgCd_5, hgRecv_O, hgRecv_99, List.length_cons, List.length_nil, Nat.zero_add, Nat.add_zero, Nat.le_refl, Nat.zero_le, and_self, or_true, true_or, true_and, and_true, ne_eq, not_false_eq_true, Nat.reduceLT, Nat.reduceLeDiff, Nat.reduceAdd, Nat.reduceEqDiff, hgn_eq, hgn_lt, hgn_le, if_true, if_false, reduceIte, Nat.not_lt_zero, hw, e]
  exact e2
theorem hgk_70l (h : hgRc M t e) (hs : s < 12) (ht : hgI M 298 3 = nI p) (he : e = p + (hgStr.getD s []).length) (he2 : e ≤ t.2) : ∀ (k i : Nat), i + k = (hgStr.getD s []).length → hgW X 70 20 [some (.ref 298), some (.ref (1000 + s)), some (.int (nI i))] [] (0, 0) M = some (.inl (.int (hgB (tMw t (p + i) ((hgStr.getD s []).drop i)))), M) := by
  intro k
  have hw := h.1
  obtain ⟨l7, lc⟩ := hgStr_l s hs
  induction k with
  | zero =>
    intro i hi
    have h1 : i < 2147483648 := by omega
    have h2 : (hgStr.getD s []).length < 2147483648 := by omega
    have h3 : (hgStr.getD s []).length ≤ i := by omega
    rw [List.drop_eq_nil_of_le h3, hgu70_20]
    simp (maxDischargeDepth := 7) only [hgM_t, hgM_f, hgM_n, hgx_aload_n_0, hgx_get0, hgx_isub, hgx_aload_n_1, hgx_len, hgx_ic_eq, hgx_iconst_0, hgx_ret3, hgx_istore_n_2i, hgx_istore_n_2r, hgx_istore_n_2f, hgx_istore_n_2n, hgx_istore_n_2l, hgx_iload_n_2, hgx_ic_ge, hgx_iadd, hgx_invvirtual_2, hgx_aft_e, hgx_aft_i, hgx_aft_l, hgx_aft_v, hgx_chr, hgx_iinc_2_1, hgx_goto, hgx_iconst_1, hgv70_0, hgr70_0, hgu70_0, hgv70_18, hgr70_18, hgu70_18, hgv70_20, hgr70_20, hgv70_48, hgr70_48, hgu70_48, hgv70_54, hgr70_54, hgu70_54, hgI_SI, hgI_SJ, hgJ_SI, hgJ_SJ, if_true, if_false, reduceIte, Nat.reduceEqDiff, hgWf_SI, hgWf_SJ, hgO_SI, hgO_SJ, hgAr_SI, hgAr_SJ, hgRp_SI, hgRp_SJ, hgN_SI, hgN_SJ, hgO_g, hgO_d, hgO_rl, hgO_r, hgO_0, hgO_1, hgO_64, hgO_298, hgO_300, hgCd_0, hgCd_1, hgCd_2, hgCd_3, hgCd_4, hgCd_5, hgRecv_O, hgRecv_99, List.length_cons, List.length_nil, Nat.zero_add, Nat.add_zero, Nat.le_refl, Nat.zero_le, and_self, or_true, true_or, true_and, and_true, ne_eq, not_false_eq_true, Nat.reduceLT, Nat.reduceLeDiff, Nat.reduceAdd, Nat.reduceEqDiff, hgn_eq, hgn_lt, hgn_le, if_true, if_false, reduceIte, Nat.not_lt_zero, hw, hs, h1, h2, h3, tMw, hgB_t]
  | succ k ih =>
    intro i hi
    have h1 : i < 2147483648 := by omega
    have h2 : (hgStr.getD s []).length < 2147483648 := by omega
    have h3 : ¬ (hgStr.getD s []).length ≤ i := by omega
    have h4 : i < (hgStr.getD s []).length := by omega
    have k63 := hgk_63 (X := X) h (show p + i < 2000 by have := h.2.2.2.2.1; omega)
    rw [if_pos (show p + i < t.2 by omega)] at k63
    have ih' := ih (i + 1) (by omega)
    rw [← Nat.add_assoc] at ih'
    have b1 : t.1 (p + i) < 2147483648 := by have := (h.2.2.2.2.2 (p + i) (by omega)).2; omega
    have b2 : (hgStr.getD s []).getD i 0 < 2147483648 := by have := (lc i h4).2; omega
    have ed : (hgStr.getD s []).drop i = (hgStr.getD s []).getD i 0 :: (hgStr.getD s []).drop (i + 1) := by
      rw [List.drop_eq_getElem_cons h4]
      generalize hgStr.getD s [] = w at h4
      congr 1
      show w[i] = (w[i]?).getD 0
      rw [List.getElem?_eq_getElem h4]
      rfl
    rw [ed, hgu70_20]
    unfold tMw
    by_cases q : t.1 (p + i) = (hgStr.getD s []).getD i 0
    · rw [decide_eq_true q, Bool.true_and]
      simp (maxDischargeDepth := 7) only [hgM_t, hgM_f, hgM_n, hgx_aload_n_0, hgx_get0, hgx_isub, hgx_aload_n_1, hgx_len, hgx_ic_eq, hgx_iconst_0, hgx_ret3, hgx_istore_n_2i, hgx_istore_n_2r, hgx_istore_n_2f, hgx_istore_n_2n, hgx_istore_n_2l, hgx_iload_n_2, hgx_ic_ge, hgx_iadd, hgx_invvirtual_2, hgx_aft_e, hgx_aft_i, hgx_aft_l, hgx_aft_v, hgx_chr, hgx_iinc_2_1, hgx_goto, hgx_iconst_1, hgv70_0, hgr70_0, hgu70_0, hgv70_18, hgr70_18, hgu70_18, hgv70_20, hgr70_20, hgv70_48, hgr70_48, hgu70_48, hgv70_54, hgr70_54, hgu70_54, hgI_SI, hgI_SJ, hgJ_SI, hgJ_SJ, if_true, if_false, reduceIte, Nat.reduceEqDiff, hgWf_SI, hgWf_SJ, hgO_SI, hgO_SJ, hgAr_SI, hgAr_SJ, hgRp_SI, hgRp_SJ, hgN_SI, hgN_SJ, hgO_g, hgO_d, hgO_rl, hgO_r, hgO_0, hgO_1, hgO_64, hgO_298, hgO_300, hgCd_0, hgCd_1, hgCd_2, hgCd_3, hgCd_4, hgCd_5, hgRecv_O, hgRecv_99, List.length_cons, List.length_nil, Nat.zero_add, Nat.add_zero, Nat.le_refl, Nat.zero_le, and_self, or_true, true_or, true_and, and_true, ne_eq, not_false_eq_true, Nat.reduceLT, Nat.reduceLeDiff, Nat.reduceAdd, Nat.reduceEqDiff, hgn_eq, hgn_lt, hgn_le, if_true, if_false, reduceIte, Nat.not_lt_zero, hgn_add, hgn_mul, hw, ht, hs, h1, h2, h3, h4, k63, b1, b2, q]
      exact ih'
    · rw [decide_eq_false q, Bool.false_and]
      simp (maxDischargeDepth := 7) only [hgM_t, hgM_f, hgM_n, hgx_aload_n_0, hgx_get0, hgx_isub, hgx_aload_n_1, hgx_len, hgx_ic_eq, hgx_iconst_0, hgx_ret3, hgx_istore_n_2i, hgx_istore_n_2r, hgx_istore_n_2f, hgx_istore_n_2n, hgx_istore_n_2l, hgx_iload_n_2, hgx_ic_ge, hgx_iadd, hgx_invvirtual_2, hgx_aft_e, hgx_aft_i, hgx_aft_l, hgx_aft_v, hgx_chr, hgx_iinc_2_1, hgx_goto, hgx_iconst_1, hgv70_0, hgr70_0, hgu70_0, hgv70_18, hgr70_18, hgu70_18, hgv70_20, hgr70_20, hgv70_48, hgr70_48, hgu70_48, hgv70_54, hgr70_54, hgu70_54, hgI_SI, hgI_SJ, hgJ_SI, hgJ_SJ, if_true, if_false, reduceIte, Nat.reduceEqDiff, hgWf_SI, hgWf_SJ, hgO_SI, hgO_SJ, hgAr_SI, hgAr_SJ, hgRp_SI, hgRp_SJ, hgN_SI, hgN_SJ, hgO_g, hgO_d, hgO_rl, hgO_r, hgO_0, hgO_1, hgO_64, hgO_298, hgO_300, hgCd_0, hgCd_1, hgCd_2, hgCd_3, hgCd_4, hgCd_5, hgRecv_O, hgRecv_99, List.length_cons, List.length_nil, Nat.zero_add, Nat.add_zero, Nat.le_refl, Nat.zero_le, and_self, or_true, true_or, true_and, and_true, ne_eq, not_false_eq_true, Nat.reduceLT, Nat.reduceLeDiff, Nat.reduceAdd, Nat.reduceEqDiff, hgn_eq, hgn_lt, hgn_le, if_true, if_false, reduceIte, Nat.not_lt_zero, hgn_add, hgn_mul, hw, ht, hs, h1, h2, h3, h4, k63, b1, b2, q, hgB_f]
theorem hgk_70 (h : hgRc M t e) (hs : s < 12) (ht : hgI M 298 3 = nI p) (hp : p ≤ e) : hgWC X 70 [.ref 298, .ref (1000 + s)] M = some (.inl (.int (hgB (tIs t p e (hgStr.getD s [])))), M) := by
  have hw := h.1
  have he := h.2.2.1
  have he2 := h.2.2.2.1
  have l9 := h.2.2.2.2.1
  obtain ⟨l7, lc⟩ := hgStr_l s hs
  have h2 : (hgStr.getD s []).length < 2147483648 := by omega
  have h1 : e - p < 2147483648 := by omega
  unfold tIs
  by_cases q : e = p + (hgStr.getD s []).length
  · have q2 : e - p = (hgStr.getD s []).length := by omega
    have kl := hgk_70l (X := X) h hs ht q he2 (hgStr.getD s []).length 0 (by omega)
    rw [List.drop_zero, Nat.add_zero] at kl
    rw [decide_eq_true q, Bool.true_and]
    simp (maxDischargeDepth := 7) only [hgc70, hgM_t, hgM_f, hgM_n, hgx_aload_n_0, hgx_get0, hgx_isub, hgx_aload_n_1, hgx_len, hgx_ic_eq, hgx_iconst_0, hgx_ret3, hgx_istore_n_2i, hgx_istore_n_2r, hgx_istore_n_2f, hgx_istore_n_2n, hgx_istore_n_2l, hgx_iload_n_2, hgx_ic_ge, hgx_iadd, hgx_invvirtual_2, hgx_aft_e, hgx_aft_i, hgx_aft_l, hgx_aft_v, hgx_chr, hgx_iinc_2_1, hgx_goto, hgx_iconst_1, hgv70_0, hgr70_0, hgu70_0, hgv70_18, hgr70_18, hgu70_18, hgv70_20, ← hgu70_20, hgv70_48, hgr70_48, hgu70_48, hgv70_54, hgr70_54, hgu70_54, hgI_SI, hgI_SJ, hgJ_SI, hgJ_SJ, if_true, if_false, reduceIte, Nat.reduceEqDiff, hgWf_SI, hgWf_SJ, hgO_SI, hgO_SJ, hgAr_SI, hgAr_SJ, hgRp_SI, hgRp_SJ, hgN_SI, hgN_SJ, hgO_g, hgO_d, hgO_rl, hgO_r, hgO_0, hgO_1, hgO_64, hgO_298, hgO_300, hgCd_0, hgCd_1, hgCd_2, hgCd_3, hgCd_4, hgCd_5, hgRecv_O, hgRecv_99, List.length_cons, List.length_nil, Nat.zero_add, Nat.add_zero, Nat.le_refl, Nat.zero_le, and_self, or_true, true_or, true_and, and_true, ne_eq, not_false_eq_true, Nat.reduceLT, Nat.reduceLeDiff, Nat.reduceAdd, Nat.reduceEqDiff, hgn_eq, hgn_lt, hgn_le, if_true, if_false, reduceIte, Nat.not_lt_zero, hw, ht, he, hgn_sub, hp, hs, h1, h2, q2]
    exact kl
  · have q2 : ¬ e - p = (hgStr.getD s []).length := by omega
    rw [decide_eq_false q, Bool.false_and]
    simp (maxDischargeDepth := 7) only [hgc70, hgM_t, hgM_f, hgM_n, hgx_aload_n_0, hgx_get0, hgx_isub, hgx_aload_n_1, hgx_len, hgx_ic_eq, hgx_iconst_0, hgx_ret3, hgx_istore_n_2i, hgx_istore_n_2r, hgx_istore_n_2f, hgx_istore_n_2n, hgx_istore_n_2l, hgx_iload_n_2, hgx_ic_ge, hgx_iadd, hgx_invvirtual_2, hgx_aft_e, hgx_aft_i, hgx_aft_l, hgx_aft_v, hgx_chr, hgx_iinc_2_1, hgx_goto, hgx_iconst_1, hgv70_0, hgr70_0, hgu70_0, hgv70_18, hgr70_18, hgu70_18, hgv70_20, ← hgu70_20, hgv70_48, hgr70_48, hgu70_48, hgv70_54, hgr70_54, hgu70_54, hgI_SI, hgI_SJ, hgJ_SI, hgJ_SJ, if_true, if_false, reduceIte, Nat.reduceEqDiff, hgWf_SI, hgWf_SJ, hgO_SI, hgO_SJ, hgAr_SI, hgAr_SJ, hgRp_SI, hgRp_SJ, hgN_SI, hgN_SJ, hgO_g, hgO_d, hgO_rl, hgO_r, hgO_0, hgO_1, hgO_64, hgO_298, hgO_300, hgCd_0, hgCd_1, hgCd_2, hgCd_3, hgCd_4, hgCd_5, hgRecv_O, hgRecv_99, List.length_cons, List.length_nil, Nat.zero_add, Nat.add_zero, Nat.le_refl, Nat.zero_le, and_self, or_true, true_or, true_and, and_true, ne_eq, not_false_eq_true, Nat.reduceLT, Nat.reduceLeDiff, Nat.reduceAdd, Nat.reduceEqDiff, hgn_eq, hgn_lt, hgn_le, if_true, if_false, reduceIte, Nat.not_lt_zero, hw, ht, he, hgn_sub, hp, hs, h1, h2, q2, hgB_f]
/-- component: readNumber -/
theorem hgk_71l {x1 x2 : Int32} : ∀ (k p v : Nat) (M : hgMem), p + k = t.2 → hgRc M t p → hgI M 298 4 = nI (min v 10000) → ∃ M', hgW X 71 27 [some (.ref 298), some (.int x1), some (.int x2)] [] (0, 0) M = hgW X 71 91 [some (.ref 298), some (.int x1), some (.int x2)] [] (0, 0) M' ∧ hgRc M' t (pDv t k p v).2 ∧ hgI M' 298 4 = nI (min (pDv t k p v).1 10000) ∧ hgI M' 298 3 = hgI M 298 3 ∧ hgFc M M' := by
  intro k
  induction k with
  | zero =>
    intro p v M hp h hv
    have h0 := h
    obtain ⟨hw, a2, a3, a4, a5, a6⟩ := h0
    have h1 : p < 2147483648 := by omega
    have h2 : t.2 < 2147483648 := by omega
    have h3 : t.2 ≤ p := by omega
    refine ⟨M, ?_, h, hv, rfl, hgFc_r⟩
    rw [hgu71_27]
    simp (maxDischargeDepth := 7) only [hgr71_27, hgx_aload_n_0, hgx_get0, hgx_ic_ge, hgv71_91, hgM_t, hgM_f, hgM_n, hgI_SI, hgI_SJ, hgJ_SI, hgJ_SJ, if_true, if_false, reduceIte, Nat.reduceEqDiff, hgWf_SI, hgWf_SJ, hgO_SI, hgO_SJ, hgAr_SI, hgAr_SJ, hgRp_SI, hgRp_SJ, hgN_SI, hgN_SJ, hgO_g, hgO_d, hgO_rl, hgO_r, hgO_0, hgO_1, hgO_64, hgO_298, hgO_300, hgCd_0, hgCd_1, hgCd_2, hgCd_3, hgCd_4, hgCd_5, hgRecv_O, hgRecv_99, List.length_cons, List.length_nil, Nat.zero_add, Nat.add_zero, Nat.le_refl, Nat.zero_le, and_self, or_true, true_or, true_and, and_true, ne_eq, not_false_eq_true, Nat.reduceLT, Nat.reduceLeDiff, Nat.reduceAdd, Nat.reduceEqDiff, hgn_eq, hgn_lt, hgn_le, if_true, if_false, reduceIte, Nat.not_lt_zero, hw, a2, a3, h1, h2, h3]
  | succ k ih =>
    intro p v M hp h hv
    have h0 := h
    obtain ⟨hw, a2, a3, a4, a5, a6⟩ := h0
    have h1 : p < 2147483648 := by omega
    have h2 : t.2 < 2147483648 := by omega
    have h3 : ¬ t.2 ≤ p := by omega
    have hl : p < t.2 := by omega
    have k65 := hgk_65 (X := X) h (show p ≤ t.2 by omega)
    have k63 := hgk_63 (X := X) h (show p < 2000 by omega)
    rw [if_pos hl] at k63
    unfold tDg at k65
    rw [decide_eq_true hl, Bool.true_and] at k65
    unfold pDv
    by_cases e : 48 ≤ t.1 p ∧ t.1 p ≤ 57
    · rw [if_pos e]
      rw [decide_eq_true e.1, decide_eq_true e.2] at k65
      have s1 : 48 ≤ 10 * min v 10000 + t.1 p := by omega
      have mn : (if nI 10000 < nI (10 * min v 10000 + t.1 p - 48) then nI 10000 else nI (10 * min v 10000 + t.1 p - 48)) = nI (min (10 * v + (t.1 p - 48)) 10000) := by
        by_cases c : 10000 < 10 * min v 10000 + t.1 p - 48
        · rw [if_pos (by rw [hgn_lt (by omega) (by omega)]; exact c)]
          congr 1
          omega
        · rw [if_neg (by rw [hgn_lt (by omega) (by omega)]; exact c)]
          congr 1
          omega
      obtain ⟨M', e1, r1, r2, r3, r4⟩ := ih (p + 1) (10 * v + (t.1 p - 48)) (hgSI (hgSI M 298 4 (nI (min (10 * v + (t.1 p - 48)) 10000))) 298 2 (nI (p + 1))) (by omega) (hgRc_p (hgRc_s h (by omega)) (by omega)) (by rw [hgI_nk (by omega), hgI_at])
      refine ⟨M', ?_, r1, r2, by rw [r3, hgI_nk (by omega), hgI_nk (by omega)], hgFc_t (hgFc_s (hgFc_s hgFc_r (by omega)) (by omega)) r4⟩
      refine Eq.trans ?_ e1
      rw [hgu71_27]
      simp (maxDischargeDepth := 7) only [hgM_t, hgM_f, hgM_n, hgx_aload_n_0, hgx_invvirtual_1, hgx_aft_e, hgx_aft_i, hgx_aft_l, hgx_aft_v, hgx_get0, hgx_invvirtual_2, hgx_if_ne, hgx_bipush_m2, hgx_ret3, hgx_iconst_0, hgx_put0, hgx_ic_ge, hgx_if_eq, hgx_bipush_10, hgx_imul, hgx_iadd, hgx_bipush_48, hgx_isub, hgx_sipush_10000, hgx_min, hgx_dup_i, hgx_dup_f, hgx_dup_r, hgx_iconst_1, hgx_goto, hgx_iload_n_1, hgx_ic_lt, hgx_iload_n_2, hgx_ic_le, hgx_bipush_m3, hgv71_0, hgr71_0, hgu71_0, hgv71_22, hgr71_22, hgu71_22, hgv71_27, ← hgu71_27, hgv71_91, ← hgu71_91, hgv71_107, hgr71_107, hgu71_107, hgv71_114, hgr71_114, hgu71_114, hgr71_27, hgI_SI, hgI_SJ, hgJ_SI, hgJ_SJ, if_true, if_false, reduceIte, Nat.reduceEqDiff, hgWf_SI, hgWf_SJ, hgO_SI, hgO_SJ, hgAr_SI, hgAr_SJ, hgRp_SI, hgRp_SJ, hgN_SI, hgN_SJ, hgO_g, hgO_d, hgO_rl, hgO_r, hgO_0, hgO_1, hgO_64, hgO_298, hgO_300, hgCd_0, hgCd_1, hgCd_2, hgCd_3, hgCd_4, hgCd_5, hgRecv_O, hgRecv_99, List.length_cons, List.length_nil, Nat.zero_add, Nat.add_zero, Nat.le_refl, Nat.zero_le, and_self, or_true, true_or, true_and, and_true, ne_eq, not_false_eq_true, Nat.reduceLT, Nat.reduceLeDiff, Nat.reduceAdd, Nat.reduceEqDiff, hgn_eq, hgn_lt, hgn_le, if_true, if_false, reduceIte, Nat.not_lt_zero, hgn_add, hgn_mul, hw, a2, a3, h1, h2, h3, k65, Bool.and_self, hgB_t, hv, k63, hgn_sub, s1, mn]
    · rw [if_neg e]
      have ef : (decide (48 ≤ t.1 p) && decide (t.1 p ≤ 57)) = false := by
        cases hb : (decide (48 ≤ t.1 p) && decide (t.1 p ≤ 57)) with
        | false => rfl
        | true =>
          rw [Bool.and_eq_true, decide_eq_true_iff, decide_eq_true_iff] at hb
          exact absurd hb e
      rw [ef] at k65
      refine ⟨M, ?_, h, hv, rfl, hgFc_r⟩
      rw [hgu71_27]
      simp (maxDischargeDepth := 7) only [hgM_t, hgM_f, hgM_n, hgx_aload_n_0, hgx_invvirtual_1, hgx_aft_e, hgx_aft_i, hgx_aft_l, hgx_aft_v, hgx_get0, hgx_invvirtual_2, hgx_if_ne, hgx_bipush_m2, hgx_ret3, hgx_iconst_0, hgx_put0, hgx_ic_ge, hgx_if_eq, hgx_bipush_10, hgx_imul, hgx_iadd, hgx_bipush_48, hgx_isub, hgx_sipush_10000, hgx_min, hgx_dup_i, hgx_dup_f, hgx_dup_r, hgx_iconst_1, hgx_goto, hgx_iload_n_1, hgx_ic_lt, hgx_iload_n_2, hgx_ic_le, hgx_bipush_m3, hgv71_0, hgr71_0, hgu71_0, hgv71_22, hgr71_22, hgu71_22, hgv71_27, ← hgu71_27, hgv71_91, ← hgu71_91, hgv71_107, hgr71_107, hgu71_107, hgv71_114, hgr71_114, hgu71_114, hgr71_27, hgI_SI, hgI_SJ, hgJ_SI, hgJ_SJ, if_true, if_false, reduceIte, Nat.reduceEqDiff, hgWf_SI, hgWf_SJ, hgO_SI, hgO_SJ, hgAr_SI, hgAr_SJ, hgRp_SI, hgRp_SJ, hgN_SI, hgN_SJ, hgO_g, hgO_d, hgO_rl, hgO_r, hgO_0, hgO_1, hgO_64, hgO_298, hgO_300, hgCd_0, hgCd_1, hgCd_2, hgCd_3, hgCd_4, hgCd_5, hgRecv_O, hgRecv_99, List.length_cons, List.length_nil, Nat.zero_add, Nat.add_zero, Nat.le_refl, Nat.zero_le, and_self, or_true, true_or, true_and, and_true, ne_eq, not_false_eq_true, Nat.reduceLT, Nat.reduceLeDiff, Nat.reduceAdd, Nat.reduceEqDiff, hgn_eq, hgn_lt, hgn_le, if_true, if_false, reduceIte, Nat.not_lt_zero, hgn_add, hgn_mul, hw, a2, a3, h1, h2, h3, k65, hgB_f]
theorem hgk_71a (h : hgRc M t p) (hh : hi ≤ 999) (hl : lo ≤ 1000) {v : Nat × Nat} (hs : sNum t p lo hi = .inl v) : ∃ M', hgWC X 71 [.ref 298, .int (nI lo), .int (nI hi)] M = some (.inl (.int (nI 1)), M') ∧ hgRc M' t v.2 ∧ hgI M' 298 4 = nI v.1 ∧ hgI M' 298 3 = nI (tSk t p) ∧ lo ≤ v.1 ∧ v.1 ≤ hi ∧ hgFc M M' := by
  unfold sNum at hs
  by_cases hd : tDg t (tSk t p) = true
  · rw [if_pos hd] at hs
    by_cases hr : lo ≤ (tDv t (tSk t p)).1 ∧ (tDv t (tSk t p)).1 ≤ hi
    · rw [if_pos hr] at hs
      have hv : tDv t (tSk t p) = v := by injection hs
      obtain ⟨M1, e, r1, r2, r3, _⟩ := hgk_66 (X := X) h
      have hw := h.1
      have w1 := r1.1
      have p1 := r1.2.2.1
      have k65 := hgk_65 (X := X) r1 r1.2.2.2.1
      rw [hd] at k65
      obtain ⟨M2, e2, s1, s2, s3, s4⟩ := hgk_71l (X := X) (x1 := nI lo) (x2 := nI hi) (t.2 - tSk t p) (tSk t p) 0 (hgSI M1 298 4 (nI 0)) (by have := r1.2.2.2.1; omega) (hgRc_s r1 (by omega)) (by rw [hgI_at]; rfl)
      have hv2 : pDv t (t.2 - tSk t p) (tSk t p) 0 = v := hv
      rw [hv2] at s1 s2
      rw [hv] at hr
      have mv : min v.1 10000 = v.1 := by omega
      rw [mv] at s2
      have w2 := s1.1
      have c1 : v.1 < 2147483648 := by omega
      have c2 : lo < 2147483648 := by omega
      have c3 : hi < 2147483648 := by omega
      have c4 : ¬ v.1 < lo := by omega
      have c5 : v.1 ≤ hi := hr.2
      refine ⟨M2, ?_, s1, s2, by rw [s3, hgI_nk (by omega)]; exact r2, hr.1, hr.2, hgFc_t (hgFc_s r3 (by omega)) s4⟩
      simp (maxDischargeDepth := 7) only [hgc71, hgM_t, hgM_f, hgM_n, hgx_aload_n_0, hgx_invvirtual_1, hgx_aft_e, hgx_aft_i, hgx_aft_l, hgx_aft_v, hgx_get0, hgx_invvirtual_2, hgx_if_ne, hgx_bipush_m2, hgx_ret3, hgx_iconst_0, hgx_put0, hgx_ic_ge, hgx_if_eq, hgx_bipush_10, hgx_imul, hgx_iadd, hgx_bipush_48, hgx_isub, hgx_sipush_10000, hgx_min, hgx_dup_i, hgx_dup_f, hgx_dup_r, hgx_iconst_1, hgx_goto, hgx_iload_n_1, hgx_ic_lt, hgx_iload_n_2, hgx_ic_le, hgx_bipush_m3, hgv71_0, hgr71_0, hgu71_0, hgv71_22, hgr71_22, hgu71_22, hgv71_27, ← hgu71_27, hgv71_91, ← hgu71_91, hgv71_107, hgr71_107, hgu71_107, hgv71_114, hgr71_114, hgu71_114, hgI_SI, hgI_SJ, hgJ_SI, hgJ_SJ, if_true, if_false, reduceIte, Nat.reduceEqDiff, hgWf_SI, hgWf_SJ, hgO_SI, hgO_SJ, hgAr_SI, hgAr_SJ, hgRp_SI, hgRp_SJ, hgN_SI, hgN_SJ, hgO_g, hgO_d, hgO_rl, hgO_r, hgO_0, hgO_1, hgO_64, hgO_298, hgO_300, hgCd_0, hgCd_1, hgCd_2, hgCd_3, hgCd_4, hgCd_5, hgRecv_O, hgRecv_99, List.length_cons, List.length_nil, Nat.zero_add, Nat.add_zero, Nat.le_refl, Nat.zero_le, and_self, or_true, true_or, true_and, and_true, ne_eq, not_false_eq_true, Nat.reduceLT, Nat.reduceLeDiff, Nat.reduceAdd, Nat.reduceEqDiff, hgn_eq, hgn_lt, hgn_le, if_true, if_false, reduceIte, Nat.not_lt_zero, hgn_add, hgn_mul, hw, e, w1, p1, k65, hgB_t]
      refine Eq.trans e2 ?_
      rw [hgu71_91]
      simp (maxDischargeDepth := 7) only [hgM_t, hgM_f, hgM_n, hgx_aload_n_0, hgx_invvirtual_1, hgx_aft_e, hgx_aft_i, hgx_aft_l, hgx_aft_v, hgx_get0, hgx_invvirtual_2, hgx_if_ne, hgx_bipush_m2, hgx_ret3, hgx_iconst_0, hgx_put0, hgx_ic_ge, hgx_if_eq, hgx_bipush_10, hgx_imul, hgx_iadd, hgx_bipush_48, hgx_isub, hgx_sipush_10000, hgx_min, hgx_dup_i, hgx_dup_f, hgx_dup_r, hgx_iconst_1, hgx_goto, hgx_iload_n_1, hgx_ic_lt, hgx_iload_n_2, hgx_ic_le, hgx_bipush_m3, hgv71_0, hgr71_0, hgu71_0, hgv71_22, hgr71_22, hgu71_22, hgv71_27, ← hgu71_27, hgv71_91, hgr71_91, hgu71_91, hgv71_107, hgr71_107, hgu71_107, hgv71_114, hgr71_114, hgu71_114, hgI_SI, hgI_SJ, hgJ_SI, hgJ_SJ, if_true, if_false, reduceIte, Nat.reduceEqDiff, hgWf_SI, hgWf_SJ, hgO_SI, hgO_SJ, hgAr_SI, hgAr_SJ, hgRp_SI, hgRp_SJ, hgN_SI, hgN_SJ, hgO_g, hgO_d, hgO_rl, hgO_r, hgO_0, hgO_1, hgO_64, hgO_298, hgO_300, hgCd_0, hgCd_1, hgCd_2, hgCd_3, hgCd_4, hgCd_5, hgRecv_O, hgRecv_99, List.length_cons, List.length_nil, Nat.zero_add, Nat.add_zero, Nat.le_refl, Nat.zero_le, and_self, or_true, true_or, true_and, and_true, ne_eq, not_false_eq_true, Nat.reduceLT, Nat.reduceLeDiff, Nat.reduceAdd, Nat.reduceEqDiff, hgn_eq, hgn_lt, hgn_le, if_true, if_false, reduceIte, Nat.not_lt_zero, w2, s2, c1, c2, c3, c4, c5]
    · rw [if_neg hr] at hs
      cases hs
  · rw [if_neg hd] at hs
    cases hs
theorem hgk_71b (h : hgRc M t p) (hh : hi ≤ 999) (hl : lo ≤ 1000) {v : Int32 × Nat} (hs : sNum t p lo hi = .inr v) : ∃ M', hgWC X 71 [.ref 298, .int (nI lo), .int (nI hi)] M = some (.inl (.int (nI 0)), M') ∧ hgEr M M' v.1 v.2 ∧ v.2 = tSk t p ∧ (v.1 = -2 ∨ v.1 = -3) := by
  unfold sNum at hs
  obtain ⟨M1, e, r1, r2, r3, _⟩ := hgk_66 (X := X) h
  have hw := h.1
  have w1 := r1.1
  have p1 := r1.2.2.1
  have k65 := hgk_65 (X := X) r1 r1.2.2.2.1
  by_cases hd : tDg t (tSk t p) = true
  · rw [if_pos hd] at hs
    rw [hd] at k65
    by_cases hr : lo ≤ (tDv t (tSk t p)).1 ∧ (tDv t (tSk t p)).1 ≤ hi
    · rw [if_pos hr] at hs
      cases hs
    · rw [if_neg hr] at hs
      have hv : (-3, tSk t p) = v := by injection hs
      rw [← hv]
      obtain ⟨M2, e2, s1, s2, s3, s4⟩ := hgk_71l (X := X) (x1 := nI lo) (x2 := nI hi) (t.2 - tSk t p) (tSk t p) 0 (hgSI M1 298 4 (nI 0)) (by have := r1.2.2.2.1; omega) (hgRc_s r1 (by omega)) (by rw [hgI_at]; rfl)
      have w2 := s1.1
      have hr2 : ¬ (lo ≤ (pDv t (t.2 - tSk t p) (tSk t p) 0).1 ∧ (pDv t (t.2 - tSk t p) (tSk t p) 0).1 ≤ hi) := hr
      have k62 := hgk_62 (X := X) (x := -3) w2
      refine ⟨_, ?_, hgEr_f (hgFc_t (hgFc_s r3 (by omega)) s4) w2 (by rw [s3, hgI_nk (by omega)]; exact r2), rfl, Or.inr rfl⟩
      generalize (pDv t (t.2 - tSk t p) (tSk t p) 0).1 = w at hr2 s2
      have c1 : min w 10000 < 2147483648 := by omega
      have c2 : lo < 2147483648 := by omega
      have c3 : hi < 2147483648 := by omega
      simp (maxDischargeDepth := 7) only [hgc71, hgM_t, hgM_f, hgM_n, hgx_aload_n_0, hgx_invvirtual_1, hgx_aft_e, hgx_aft_i, hgx_aft_l, hgx_aft_v, hgx_get0, hgx_invvirtual_2, hgx_if_ne, hgx_bipush_m2, hgx_ret3, hgx_iconst_0, hgx_put0, hgx_ic_ge, hgx_if_eq, hgx_bipush_10, hgx_imul, hgx_iadd, hgx_bipush_48, hgx_isub, hgx_sipush_10000, hgx_min, hgx_dup_i, hgx_dup_f, hgx_dup_r, hgx_iconst_1, hgx_goto, hgx_iload_n_1, hgx_ic_lt, hgx_iload_n_2, hgx_ic_le, hgx_bipush_m3, hgv71_0, hgr71_0, hgu71_0, hgv71_22, hgr71_22, hgu71_22, hgv71_27, ← hgu71_27, hgv71_91, ← hgu71_91, hgv71_107, hgr71_107, hgu71_107, hgv71_114, hgr71_114, hgu71_114, hgI_SI, hgI_SJ, hgJ_SI, hgJ_SJ, if_true, if_false, reduceIte, Nat.reduceEqDiff, hgWf_SI, hgWf_SJ, hgO_SI, hgO_SJ, hgAr_SI, hgAr_SJ, hgRp_SI, hgRp_SJ, hgN_SI, hgN_SJ, hgO_g, hgO_d, hgO_rl, hgO_r, hgO_0, hgO_1, hgO_64, hgO_298, hgO_300, hgCd_0, hgCd_1, hgCd_2, hgCd_3, hgCd_4, hgCd_5, hgRecv_O, hgRecv_99, List.length_cons, List.length_nil, Nat.zero_add, Nat.add_zero, Nat.le_refl, Nat.zero_le, and_self, or_true, true_or, true_and, and_true, ne_eq, not_false_eq_true, Nat.reduceLT, Nat.reduceLeDiff, Nat.reduceAdd, Nat.reduceEqDiff, hgn_eq, hgn_lt, hgn_le, if_true, if_false, reduceIte, Nat.not_lt_zero, hgn_add, hgn_mul, hw, e, w1, p1, k65, hgB_t]
      refine Eq.trans e2 ?_
      rw [hgu71_91]
      by_cases c4 : min w 10000 < lo
      · simp (maxDischargeDepth := 7) only [hgM_t, hgM_f, hgM_n, hgx_aload_n_0, hgx_invvirtual_1, hgx_aft_e, hgx_aft_i, hgx_aft_l, hgx_aft_v, hgx_get0, hgx_invvirtual_2, hgx_if_ne, hgx_bipush_m2, hgx_ret3, hgx_iconst_0, hgx_put0, hgx_ic_ge, hgx_if_eq, hgx_bipush_10, hgx_imul, hgx_iadd, hgx_bipush_48, hgx_isub, hgx_sipush_10000, hgx_min, hgx_dup_i, hgx_dup_f, hgx_dup_r, hgx_iconst_1, hgx_goto, hgx_iload_n_1, hgx_ic_lt, hgx_iload_n_2, hgx_ic_le, hgx_bipush_m3, hgv71_0, hgr71_0, hgu71_0, hgv71_22, hgr71_22, hgu71_22, hgv71_27, ← hgu71_27, hgv71_91, hgr71_91, hgu71_91, hgv71_107, hgr71_107, hgu71_107, hgv71_114, hgr71_114, hgu71_114, hgI_SI, hgI_SJ, hgJ_SI, hgJ_SJ, if_true, if_false, reduceIte, Nat.reduceEqDiff, hgWf_SI, hgWf_SJ, hgO_SI, hgO_SJ, hgAr_SI, hgAr_SJ, hgRp_SI, hgRp_SJ, hgN_SI, hgN_SJ, hgO_g, hgO_d, hgO_rl, hgO_r, hgO_0, hgO_1, hgO_64, hgO_298, hgO_300, hgCd_0, hgCd_1, hgCd_2, hgCd_3, hgCd_4, hgCd_5, hgRecv_O, hgRecv_99, List.length_cons, List.length_nil, Nat.zero_add, Nat.add_zero, Nat.le_refl, Nat.zero_le, and_self, or_true, true_or, true_and, and_true, ne_eq, not_false_eq_true, Nat.reduceLT, Nat.reduceLeDiff, Nat.reduceAdd, Nat.reduceEqDiff, hgn_eq, hgn_lt, hgn_le, if_true, if_false, reduceIte, Nat.not_lt_zero, w2, s2, c1, c2, c4, k62]
      · have c5 : ¬ min w 10000 ≤ hi := by omega
        simp (maxDischargeDepth := 7) only [hgM_t, hgM_f, hgM_n, hgx_aload_n_0, hgx_invvirtual_1, hgx_aft_e, hgx_aft_i, hgx_aft_l, hgx_aft_v, hgx_get0, hgx_invvirtual_2, hgx_if_ne, hgx_bipush_m2, hgx_ret3, hgx_iconst_0, hgx_put0, hgx_ic_ge, hgx_if_eq, hgx_bipush_10, hgx_imul, hgx_iadd, hgx_bipush_48, hgx_isub, hgx_sipush_10000, hgx_min, hgx_dup_i, hgx_dup_f, hgx_dup_r, hgx_iconst_1, hgx_goto, hgx_iload_n_1, hgx_ic_lt, hgx_iload_n_2, hgx_ic_le, hgx_bipush_m3, hgv71_0, hgr71_0, hgu71_0, hgv71_22, hgr71_22, hgu71_22, hgv71_27, ← hgu71_27, hgv71_91, hgr71_91, hgu71_91, hgv71_107, hgr71_107, hgu71_107, hgv71_114, hgr71_114, hgu71_114, hgI_SI, hgI_SJ, hgJ_SI, hgJ_SJ, if_true, if_false, reduceIte, Nat.reduceEqDiff, hgWf_SI, hgWf_SJ, hgO_SI, hgO_SJ, hgAr_SI, hgAr_SJ, hgRp_SI, hgRp_SJ, hgN_SI, hgN_SJ, hgO_g, hgO_d, hgO_rl, hgO_r, hgO_0, hgO_1, hgO_64, hgO_298, hgO_300, hgCd_0, hgCd_1, hgCd_2, hgCd_3, hgCd_4, hgCd_5, hgRecv_O, hgRecv_99, List.length_cons, List.length_nil, Nat.zero_add, Nat.add_zero, Nat.le_refl, Nat.zero_le, and_self, or_true, true_or, true_and, and_true, ne_eq, not_false_eq_true, Nat.reduceLT, Nat.reduceLeDiff, Nat.reduceAdd, Nat.reduceEqDiff, hgn_eq, hgn_lt, hgn_le, if_true, if_false, reduceIte, Nat.not_lt_zero, w2, s2, c1, c2, c3, c4, c5, k62]
  · rw [if_neg hd] at hs
    have hd2 : tDg t (tSk t p) = false := Bool.eq_false_iff.mpr hd
    rw [hd2] at k65
    have hv : (-2, tSk t p) = v := by injection hs
    rw [← hv]
    have k62 := hgk_62 (X := X) (x := -2) w1
    refine ⟨_, ?_, hgEr_f r3 w1 r2, rfl, Or.inl rfl⟩
    simp (maxDischargeDepth := 7) only [hgc71, hgM_t, hgM_f, hgM_n, hgx_aload_n_0, hgx_invvirtual_1, hgx_aft_e, hgx_aft_i, hgx_aft_l, hgx_aft_v, hgx_get0, hgx_invvirtual_2, hgx_if_ne, hgx_bipush_m2, hgx_ret3, hgx_iconst_0, hgx_put0, hgx_ic_ge, hgx_if_eq, hgx_bipush_10, hgx_imul, hgx_iadd, hgx_bipush_48, hgx_isub, hgx_sipush_10000, hgx_min, hgx_dup_i, hgx_dup_f, hgx_dup_r, hgx_iconst_1, hgx_goto, hgx_iload_n_1, hgx_ic_lt, hgx_iload_n_2, hgx_ic_le, hgx_bipush_m3, hgv71_0, hgr71_0, hgu71_0, hgv71_22, hgr71_22, hgu71_22, hgv71_27, ← hgu71_27, hgv71_91, ← hgu71_91, hgv71_107, hgr71_107, hgu71_107, hgv71_114, hgr71_114, hgu71_114, hgI_SI, hgI_SJ, hgJ_SI, hgJ_SJ, if_true, if_false, reduceIte, Nat.reduceEqDiff, hgWf_SI, hgWf_SJ, hgO_SI, hgO_SJ, hgAr_SI, hgAr_SJ, hgRp_SI, hgRp_SJ, hgN_SI, hgN_SJ, hgO_g, hgO_d, hgO_rl, hgO_r, hgO_0, hgO_1, hgO_64, hgO_298, hgO_300, hgCd_0, hgCd_1, hgCd_2, hgCd_3, hgCd_4, hgCd_5, hgRecv_O, hgRecv_99, List.length_cons, List.length_nil, Nat.zero_add, Nat.add_zero, Nat.le_refl, Nat.zero_le, and_self, or_true, true_or, true_and, and_true, ne_eq, not_false_eq_true, Nat.reduceLT, Nat.reduceLeDiff, Nat.reduceAdd, Nat.reduceEqDiff, hgn_eq, hgn_lt, hgn_le, if_true, if_false, reduceIte, Nat.not_lt_zero, hgn_add, hgn_mul, hw, e, w1, p1, k65, hgB_f, k62]
/-- component: readSelector -/
theorem hgk_72 (h : hgRc M t p) : ∃ M', hgWC X 72 [.ref 298] M = some (.inl (.int (hgOi (sSel t p))), M') ∧ hgRc M' t (tWe t (tSk t p)) ∧ hgI M' 298 3 = nI (tSk t p) ∧ hgFc M M' := by
  obtain ⟨M1, e, r1, r2, r3⟩ := hgk_69 (X := X) h
  have hw := h.1
  have w1 := r1.1
  have hle := (tWe_f (tSk_f h.2.2.2.1).2.1).1
  have k0 : hgWC X 70 [.ref 298, .ref 1000] M1 = some (.inl (.int (hgB (tWd t p [104, 111, 109, 101]))), M1) := hgk_70 (s := 0) r1 (by omega) r2 hle
  have k1 : hgWC X 70 [.ref 298, .ref 1001] M1 = some (.inl (.int (hgB (tWd t p [103, 117, 101, 115, 116]))), M1) := hgk_70 (s := 1) r1 (by omega) r2 hle
  have k2 : hgWC X 70 [.ref 298, .ref 1002] M1 = some (.inl (.int (hgB (tWd t p [105, 111, 116]))), M1) := hgk_70 (s := 2) r1 (by omega) r2 hle
  have k3 : hgWC X 70 [.ref 298, .ref 1003] M1 = some (.inl (.int (hgB (tWd t p [110, 101, 116]))), M1) := hgk_70 (s := 3) r1 (by omega) r2 hle
  have k4 : hgWC X 70 [.ref 298, .ref 1004] M1 = some (.inl (.int (hgB (tWd t p [97, 110, 121]))), M1) := hgk_70 (s := 4) r1 (by omega) r2 hle
  refine ⟨M1, ?_, r1, r2, r3⟩
  unfold sSel
  simp (maxDischargeDepth := 7) only [hgc72, hgM_t, hgM_f, hgM_n, hgx_aload_n_0, hgx_invvirtual_1, hgx_aft_e, hgx_aft_i, hgx_aft_l, hgx_aft_v, hgx_ldc_s, hgx_invvirtual_2, hgx_if_eq, hgx_iconst_0, hgx_ret1, hgx_iconst_1, hgx_iconst_2, hgx_iconst_3, hgx_iconst_4, hgx_goto, hgx_iconst_m1, hgv72_0, hgr72_0, hgu72_0, hgv72_15, hgr72_15, hgu72_15, hgv72_26, hgr72_26, hgu72_26, hgv72_37, hgr72_37, hgu72_37, hgv72_48, hgr72_48, hgu72_48, hgv72_61, hgr72_61, hgu72_61, hgv72_62, hgr72_62, hgu72_62, hgI_SI, hgI_SJ, hgJ_SI, hgJ_SJ, if_true, if_false, reduceIte, Nat.reduceEqDiff, hgWf_SI, hgWf_SJ, hgO_SI, hgO_SJ, hgAr_SI, hgAr_SJ, hgRp_SI, hgRp_SJ, hgN_SI, hgN_SJ, hgO_g, hgO_d, hgO_rl, hgO_r, hgO_0, hgO_1, hgO_64, hgO_298, hgO_300, hgCd_0, hgCd_1, hgCd_2, hgCd_3, hgCd_4, hgCd_5, hgRecv_O, hgRecv_99, List.length_cons, List.length_nil, Nat.zero_add, Nat.add_zero, Nat.le_refl, Nat.zero_le, and_self, or_true, true_or, true_and, and_true, ne_eq, not_false_eq_true, Nat.reduceLT, Nat.reduceLeDiff, Nat.reduceAdd, Nat.reduceEqDiff, hgn_eq, hgn_lt, hgn_le, if_true, if_false, reduceIte, Nat.not_lt_zero, hw, e, w1, k0, k1, k2, k3, k4, hgB_0]
  cases tWd t p [104, 111, 109, 101]
  · cases tWd t p [103, 117, 101, 115, 116]
    · cases tWd t p [105, 111, 116]
      · cases tWd t p [110, 101, 116]
        · cases tWd t p [97, 110, 121] <;> rfl
        · rfl
      · rfl
    · rfl
  · rfl
end HGTOK

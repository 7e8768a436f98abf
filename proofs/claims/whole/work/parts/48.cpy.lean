/-! A GATEWAY IS COPIED, the component's. -/
/-- M' is M but for numbers in the cells of P -/
def hgFn (P : Nat → Prop) (M M' : hgMem) : Prop := M'.1 = M.1 ∧ (∀ b k, hgR M' b k = hgR M b k) ∧ ∀ b, ¬ P b → ∀ k, hgI M' b k = hgI M b k ∧ hgJ M' b k = hgJ M b k
section HGFN
variable {P Q : Nat → Prop} {M M1 M2 : hgMem} {a k : Nat} {x : Int32} {u : Int64}
theorem hgFn_r : hgFn P M M := ⟨rfl, fun _ _ => rfl, fun _ _ _ => ⟨rfl, rfl⟩⟩
theorem hgFn_t (h1 : hgFn P M M1) (h2 : hgFn P M1 M2) : hgFn P M M2 := ⟨h2.1.trans h1.1, fun b k => (h2.2.1 b k).trans (h1.2.1 b k), fun b hb k => ⟨(h2.2.2 b hb k).1.trans (h1.2.2 b hb k).1, (h2.2.2 b hb k).2.trans (h1.2.2 b hb k).2⟩⟩
theorem hgFn_m (h : hgFn P M M1) (hpq : ∀ b, P b → Q b) : hgFn Q M M1 := ⟨h.1, h.2.1, fun b hb k => h.2.2 b (fun z => hb (hpq b z)) k⟩
theorem hgFn_SI (h : hgFn P M M1) (ha : P a) : hgFn P M (hgSI M1 a k x) := ⟨h.1, h.2.1, fun b hb j => ⟨(hgI_na (fun e => hb (by rw [e]; exact ha))).trans (h.2.2 b hb j).1, (h.2.2 b hb j).2⟩⟩
theorem hgFn_SJ (h : hgFn P M M1) (ha : P a) : hgFn P M (hgSJ M1 a k u) := ⟨h.1, h.2.1, fun b hb j => ⟨(h.2.2 b hb j).1, (hgJ_na (fun e => hb (by rw [e]; exact ha))).trans (h.2.2 b hb j).2⟩⟩
theorem hgFn_w (h : hgFn P M M1) (hw : hgWf M) : hgWf M1 := hgWf_to hw h.1 h.2.1
theorem hgFn_f (h : hgFn P M M1) : hgFm P M M1 := ⟨h.1, fun b hb k => ⟨(h.2.2 b hb k).1, (h.2.2 b hb k).2, h.2.1 b k⟩⟩
theorem hgFn_p (h : hgFn P M M1) (g j : Nat) : hgRp M1 g j = hgRp M g j := by unfold hgRp; rw [h.2.1]
end HGFN
theorem hgGw_dj {g h : Nat} (hg : hgGw g) (hh : hgGw h) (hne : g ≠ h) : g + 29 ≤ h ∨ h + 29 ≤ g := by
  unfold hgGw at hg hh
  omega
section HGCPY
variable {X : hgX} {M M' : hgMem} {d t g h i j q c k a b n p : Nat} {V V' : hgV} {x y : Int32} {z : Int32 × Int32} {u : Int64}
theorem hgDcp_o (hc : c ≠ a) : hgI (hgDcp M a b) c q = hgI M c q ∧ hgJ (hgDcp M a b) c q = hgJ M c q := by
  unfold hgDcp
  refine ⟨?_, ?_⟩
  · simp only [hgI_na hc, hgI_SJ]
  · simp only [hgJ_SI, hgJ_na hc]
theorem hgDcp_a (hq : q ≤ 14) (h7 : q ≠ 7) : hgI (hgDcp M a b) a q = hgI M b q := by
  have : q = 0 ∨ q = 1 ∨ q = 2 ∨ q = 3 ∨ q = 4 ∨ q = 5 ∨ q = 6 ∨ q = 8 ∨ q = 9 ∨ q = 10 ∨ q = 11 ∨ q = 12 ∨ q = 13 ∨ q = 14 := by omega
  rcases this with e | e | e | e | e | e | e | e | e | e | e | e | e | e <;> subst e <;> simp only [hgDcp, hgI_SI, hgI_SJ, if_true, reduceIte, Nat.reduceEqDiff, if_false]
theorem hgDcp_j : hgJ (hgDcp M a b) a 7 = hgJ M b 7 := by
  simp only [hgDcp, hgJ_SI, hgJ_at]
theorem hgDcp_n (hP : (fun b => b = a) a) : hgFn (fun b => b = a) M (hgDcp M a b) := ⟨rfl, fun _ _ => rfl, fun c hc k => hgDcp_o hc⟩
theorem hgDv_cp (hI : ∀ q, q ≤ 14 → q ≠ 7 → hgI M' a q = hgI M b q) (hJ : hgJ M' a 7 = hgJ M b 7) (h2 : ∀ p, hgI M' 2 p = hgI M 2 p) (h3 : ∀ p, hgI M' 3 p = hgI M 3 p) (h4 : ∀ p, hgI M' 4 p = hgI M 4 p) (h : hgDv M b V i) : hgDv M' a V i := by
  unfold hgDv at h ⊢
  rw [hI 10 (by omega) (by omega), hI 11 (by omega) (by omega), hI 12 (by omega) (by omega), hI 13 (by omega) (by omega), hI 14 (by omega) (by omega), hJ]
  refine ⟨fun k hk => ?_, h.2.1, h.2.2.1, h.2.2.2.1, hgQd_ne h4 h2 h3 h.2.2.2.2.1, h.2.2.2.2.2⟩
  have o : hgFs k ≤ 14 ∧ hgFs k ≠ 7 := by unfold hgFs; split <;> omega
  rw [hI _ o.1 o.2]
  exact h.1 k hk
/-- the devices are copied -/
theorem hgk_9a (hg : hgGw g) (hh : hgGw h) (hne : g ≠ h) (hn2 : n ≤ 10) : ∀ (k i : Nat) (M : hgMem), i + k = n → hgI M g 6 = nI n → hgWf M → (∀ j, j < n → hgI M (h + 2 + j) 14 = nI 0 ∨ hgI M (h + 2 + j) 14 = nI 1) → ∃ M', hgW X 9 42 [some (.ref g), some (.ref h), some (.int (nI i))] [] (0, 0) M = hgW X 9 71 [some (.ref g), some (.ref h), none] [] (0, 0) M' ∧ hgFn (fun b => g + 2 + i ≤ b ∧ b < g + 12) M M' ∧ ∀ j, i ≤ j → j < n → (∀ q, q ≤ 14 → q ≠ 7 → hgI M' (g + 2 + j) q = hgI M (h + 2 + j) q) ∧ hgJ M' (g + 2 + j) 7 = hgJ M (h + 2 + j) 7 := by
  intro k
  have dj := hgGw_dj hg hh hne
  induction k with
  | zero =>
    intro i M hi hn hw hS
    have h1 : i < 2147483648 := by omega
    have h2 : n < 2147483648 := by omega
    have h3 : n ≤ i := by omega
    refine ⟨M, ?_, hgFn_r, fun j h1 h2 => by omega⟩
    rw [hgu9_42]
    simp (maxDischargeDepth := 7) only [hgx_iload_n_2, hgx_aload_n_0, hgx_get0, hgx_ic_ge, hgr9_42, hgv9_71, hgM_t, hgM_f, hgM_n, hgI_SI, hgI_SJ, hgJ_SI, hgJ_SJ, if_true, if_false, reduceIte, Nat.reduceEqDiff, hgWf_SI, hgWf_SJ, hgO_SI, hgO_SJ, hgAr_SI, hgAr_SJ, hgRp_SI, hgRp_SJ, hgN_SI, hgN_SJ, hgO_g, hgO_d, hgO_rl, hgO_r, hgO_0, hgO_1, hgO_64, hgO_298, hgO_300, hgCd_0, hgCd_1, hgCd_2, hgCd_3, hgCd_4, hgCd_5, hgRecv_O, hgRecv_99, List.length_cons, List.length_nil, Nat.zero_add, Nat.add_zero, Nat.le_refl, Nat.zero_le, and_self, or_true, true_or, true_and, and_true, ne_eq, not_false_eq_true, Nat.reduceLT, Nat.reduceLeDiff, Nat.reduceAdd, Nat.reduceEqDiff, hgn_eq, hgn_lt, hgn_le, if_true, if_false, reduceIte, Nat.not_lt_zero, hw, hg, hn, h1, h2, h3]
  | succ k ih =>
    intro i M hi hn hw hS
    have h1 : i < 2147483648 := by omega
    have h2 : n < 2147483648 := by omega
    have h3 : ¬ n ≤ i := by omega
    have h4 : i < 10 := by omega
    have hg2 := hgGw_le hg
    have f0 := hgDcp_n (M := M) (a := g + 2 + i) (b := h + 2 + i) rfl
    have k2 := hgk_2 (X := X) (hgO_d hw hg h4) (hgO_d hw hh h4) (show h + 2 + i ≠ g + 2 + i by omega) (hS i (by omega))
    obtain ⟨M', e, w1, w2⟩ := ih (i + 1) (hgDcp M (g + 2 + i) (h + 2 + i)) (by omega) (by rw [(f0.2.2 g (by omega) 6).1]; exact hn) (hgFn_w f0 hw) (fun j hj => by rw [(f0.2.2 (h + 2 + j) (by omega) 14).1]; exact hS j hj)
    refine ⟨M', ?_, hgFn_t (hgFn_m f0 (fun b hb => ⟨by omega, by omega⟩)) (hgFn_m w1 (fun b hb => ⟨by omega, by omega⟩)), fun j j1 j2 => ?_⟩
    · refine Eq.trans ?_ e
      rw [hgu9_42]
      simp (maxDischargeDepth := 7) only [hgM_t, hgM_f, hgM_n, hgx_aload_n_0, hgx_aload_n_1, hgx_get3, hgx_put3, hgx_get0, hgx_put0, hgx_iconst_0, hgx_istore_n_2i, hgx_istore_n_2r, hgx_istore_n_2f, hgx_istore_n_2n, hgx_istore_n_2l, hgx_iload_n_2, hgx_ic_ge, hgs_get_1_5, hgx_invvirtual_2, hgx_aft_e, hgx_aft_i, hgx_aft_l, hgx_aft_v, hgx_iinc_2_1, hgx_goto, hgs_get_1_7, hgs_get_1_8, hgx_iconst_3, hgs_get_1_10, hgs_get_1_11, hgx_vret, hgv9_0, hgr9_0, hgu9_0, hgv9_42, hgr9_42, hgv9_71, hgr9_71, hgu9_71, hgv9_92, ← hgu9_92, hgv9_118, hgr9_118, hgu9_118, hgv9_120, ← hgu9_120, hgv9_155, hgr9_155, hgu9_155, hgI_SI, hgI_SJ, hgJ_SI, hgJ_SJ, if_true, if_false, reduceIte, Nat.reduceEqDiff, hgWf_SI, hgWf_SJ, hgO_SI, hgO_SJ, hgAr_SI, hgAr_SJ, hgRp_SI, hgRp_SJ, hgN_SI, hgN_SJ, hgO_g, hgO_d, hgO_rl, hgO_r, hgO_0, hgO_1, hgO_64, hgO_298, hgO_300, hgCd_0, hgCd_1, hgCd_2, hgCd_3, hgCd_4, hgCd_5, hgRecv_O, hgRecv_99, List.length_cons, List.length_nil, Nat.zero_add, Nat.add_zero, Nat.le_refl, Nat.zero_le, and_self, or_true, true_or, true_and, and_true, ne_eq, not_false_eq_true, Nat.reduceLT, Nat.reduceLeDiff, Nat.reduceAdd, Nat.reduceEqDiff, hgn_eq, hgn_lt, hgn_le, if_true, if_false, reduceIte, Nat.not_lt_zero, hgs_aa_d, hgs_aa_r, hgs_aa_h, hgs_aa_m, hgs_aa_t, hgs_ld_wp, hgs_st_wp, hgs_ld_qf, hgs_st_qf, hgs_ld_qt, hgs_st_qt, hgs_ld_2, hgs_st_2, hgs_ld_3, hgs_st_3, hgs_ld_4, hgs_st_4, hgs_ld_301, hgs_st_301, hgs_ld_D, hgs_st_D, hgs_ld_s, hgs_ld_T, hgs_st_T, hgs_ld_o, hgs_st_o, hgs_ld_b, hgs_st_b, hgs_ld_z, hgs_st_z, hgs_al_b, hgx_alen_s, hgn_add, hgn_mul, hw, hg, hh, hn, h1, h2, h3, h4, k2]
    · by_cases hji : j = i
      · subst hji
        refine ⟨fun q q1 q2 => ?_, ?_⟩
        · rw [(w1.2.2 _ (by omega) q).1, hgDcp_a q1 q2]
        · rw [(w1.2.2 _ (by omega) 7).2, hgDcp_j]
      · have w := w2 j (by omega) j2
        refine ⟨fun q q1 q2 => ?_, ?_⟩
        · rw [w.1 q q1 q2, (f0.2.2 (h + 2 + j) (by omega) q).1]
        · rw [w.2, (f0.2.2 (h + 2 + j) (by omega) 7).2]
theorem hgRp_ij (hw : hgWf M) (hg : hgGw g) (hi : i < 12) (hj : j < 12) (hne : i ≠ j) : hgRp M g i ≠ hgRp M g j := fun e => hne (hw.2.2.2.2.2.2.2.2.2 g hg i j hi hj (by rw [(hgRp_f hw hg hi).1, (hgRp_f hw hg hj).1, e]))
/-- the rules are copied -/
theorem hgk_48l (hg : hgGw g) (hh : hgGw h) (hne : g ≠ h) (hn2 : n ≤ 12) : ∀ (k i : Nat) (M : hgMem), i + k = n → hgI M (g + 12) 1 = nI n → hgWf M → (∀ j, j < n → hgRf M h j 0 = nI 0 ∨ hgRf M h j 0 = nI 1) → ∃ M', hgW X 48 10 [some (.ref (g + 12)), some (.ref (h + 12)), some (.int (nI i))] [] (0, 0) M = some (.inl .null, M') ∧ hgFn (fun b => g + 14 ≤ b ∧ b < g + 26) M M' ∧ (∀ j, j < i → ∀ q, hgRf M' g j q = hgRf M g j q) ∧ ∀ j, i ≤ j → j < n → ∀ q, q ≤ 4 → hgRf M' g j q = hgRf M h j q := by
  intro k
  have dj := hgGw_dj hg hh hne
  induction k with
  | zero =>
    intro i M hi hn hw hS
    have h1 : i < 2147483648 := by omega
    have h2 : n < 2147483648 := by omega
    have h3 : n ≤ i := by omega
    refine ⟨M, ?_, hgFn_r, fun j _ q => rfl, fun j h1 h2 => by omega⟩
    rw [hgu48_10]
    simp (maxDischargeDepth := 7) only [hgM_t, hgM_f, hgM_n, hgx_aload_n_0, hgx_aload_n_1, hgx_get0, hgx_put0, hgx_iconst_0, hgx_istore_n_2i, hgx_istore_n_2r, hgx_istore_n_2f, hgx_istore_n_2n, hgx_istore_n_2l, hgx_iload_n_2, hgx_ic_ge, hgs_get_5_0, hgx_invvirtual_2, hgx_aft_e, hgx_aft_i, hgx_aft_l, hgx_aft_v, hgx_iinc_2_1, hgx_goto, hgx_vret, hgv48_0, hgr48_0, hgu48_0, hgv48_10, hgr48_10, hgv48_39, hgr48_39, hgu48_39, hgI_SI, hgI_SJ, hgJ_SI, hgJ_SJ, if_true, if_false, reduceIte, Nat.reduceEqDiff, hgWf_SI, hgWf_SJ, hgO_SI, hgO_SJ, hgAr_SI, hgAr_SJ, hgRp_SI, hgRp_SJ, hgN_SI, hgN_SJ, hgO_g, hgO_d, hgO_rl, hgO_r, hgO_0, hgO_1, hgO_64, hgO_298, hgO_300, hgCd_0, hgCd_1, hgCd_2, hgCd_3, hgCd_4, hgCd_5, hgRecv_O, hgRecv_99, List.length_cons, List.length_nil, Nat.zero_add, Nat.add_zero, Nat.le_refl, Nat.zero_le, and_self, or_true, true_or, true_and, and_true, ne_eq, not_false_eq_true, Nat.reduceLT, Nat.reduceLeDiff, Nat.reduceAdd, Nat.reduceEqDiff, hgn_eq, hgn_lt, hgn_le, if_true, if_false, reduceIte, Nat.not_lt_zero, hw, hg, hn, h1, h2, h3]
  | succ k ih =>
    intro i M hi hn hw hS
    have h1 : i < 2147483648 := by omega
    have h2 : n < 2147483648 := by omega
    have h3 : ¬ n ≤ i := by omega
    have h4 : i < 12 := by omega
    have hg2 := hgGw_le hg
    have rg := hgRp_f hw hg h4
    have rh := hgRp_f hw hh h4
    have hb := hS i (by omega)
    unfold hgRf at hb
    have k44 := hgk_44 (X := X) (hgO_r hw hg h4) (hgO_r hw hh h4) hb
    have f0 : hgFn (fun b => b = hgRp M g i) M (hgSI (hgSI (hgSI (hgSI (hgSI M (hgRp M g i) 0 (hgI M (hgRp M h i) 0)) (hgRp M g i) 1 (hgI M (hgRp M h i) 1)) (hgRp M g i) 2 (hgI M (hgRp M h i) 2)) (hgRp M g i) 3 (hgI M (hgRp M h i) 3)) (hgRp M g i) 4 (hgI M (hgRp M h i) 4)) := hgFn_SI (hgFn_SI (hgFn_SI (hgFn_SI (hgFn_SI hgFn_r rfl) rfl) rfl) rfl) rfl
    have hrg : ∀ j, j < 12 → j ≠ i → ∀ q, hgRf (hgSI (hgSI (hgSI (hgSI (hgSI M (hgRp M g i) 0 (hgI M (hgRp M h i) 0)) (hgRp M g i) 1 (hgI M (hgRp M h i) 1)) (hgRp M g i) 2 (hgI M (hgRp M h i) 2)) (hgRp M g i) 3 (hgI M (hgRp M h i) 3)) (hgRp M g i) 4 (hgI M (hgRp M h i) 4)) g j q = hgRf M g j q := fun j hj hji q => by
      unfold hgRf
      rw [hgFn_p f0, (f0.2.2 _ (hgRp_ij hw hg hj h4 hji) q).1]
    have hrh : ∀ j, j < 12 → ∀ q, hgRf (hgSI (hgSI (hgSI (hgSI (hgSI M (hgRp M g i) 0 (hgI M (hgRp M h i) 0)) (hgRp M g i) 1 (hgI M (hgRp M h i) 1)) (hgRp M g i) 2 (hgI M (hgRp M h i) 2)) (hgRp M g i) 3 (hgI M (hgRp M h i) 3)) (hgRp M g i) 4 (hgI M (hgRp M h i) 4)) h j q = hgRf M h j q := fun j hj q => by
      have rj := hgRp_f hw hh hj
      unfold hgRf
      rw [hgFn_p f0, (f0.2.2 _ (by omega) q).1]
    obtain ⟨M', e, w1, w2, w3⟩ := ih (i + 1) _ (by omega) (by rw [(f0.2.2 (g + 12) (by omega) 1).1]; exact hn) (hgFn_w f0 hw) (fun j hj => by rw [hrh j (by omega)]; exact hS j hj)
    refine ⟨M', ?_, hgFn_t (hgFn_m f0 (fun b hb => ⟨by omega, by omega⟩)) w1, fun j hj q => ?_, fun j j1 j2 q hq => ?_⟩
    · rw [hgu48_10]
      simp (maxDischargeDepth := 7) only [hgM_t, hgM_f, hgM_n, hgx_aload_n_0, hgx_aload_n_1, hgx_get0, hgx_put0, hgx_iconst_0, hgx_istore_n_2i, hgx_istore_n_2r, hgx_istore_n_2f, hgx_istore_n_2n, hgx_istore_n_2l, hgx_iload_n_2, hgx_ic_ge, hgs_get_5_0, hgx_invvirtual_2, hgx_aft_e, hgx_aft_i, hgx_aft_l, hgx_aft_v, hgx_iinc_2_1, hgx_goto, hgx_vret, hgv48_0, hgr48_0, hgu48_0, hgv48_10, hgr48_10, hgv48_39, hgr48_39, hgu48_39, hgI_SI, hgI_SJ, hgJ_SI, hgJ_SJ, if_true, if_false, reduceIte, Nat.reduceEqDiff, hgWf_SI, hgWf_SJ, hgO_SI, hgO_SJ, hgAr_SI, hgAr_SJ, hgRp_SI, hgRp_SJ, hgN_SI, hgN_SJ, hgO_g, hgO_d, hgO_rl, hgO_r, hgO_0, hgO_1, hgO_64, hgO_298, hgO_300, hgCd_0, hgCd_1, hgCd_2, hgCd_3, hgCd_4, hgCd_5, hgRecv_O, hgRecv_99, List.length_cons, List.length_nil, Nat.zero_add, Nat.add_zero, Nat.le_refl, Nat.zero_le, and_self, or_true, true_or, true_and, and_true, ne_eq, not_false_eq_true, Nat.reduceLT, Nat.reduceLeDiff, Nat.reduceAdd, Nat.reduceEqDiff, hgn_eq, hgn_lt, hgn_le, if_true, if_false, reduceIte, Nat.not_lt_zero, hgs_aa_d, hgs_aa_r, hgs_aa_h, hgs_aa_m, hgs_aa_t, hgs_ld_wp, hgs_st_wp, hgs_ld_qf, hgs_st_qf, hgs_ld_qt, hgs_st_qt, hgs_ld_2, hgs_st_2, hgs_ld_3, hgs_st_3, hgs_ld_4, hgs_st_4, hgs_ld_301, hgs_st_301, hgs_ld_D, hgs_st_D, hgs_ld_s, hgs_ld_T, hgs_st_T, hgs_ld_o, hgs_st_o, hgs_ld_b, hgs_st_b, hgs_ld_z, hgs_st_z, hgs_al_b, hgx_alen_s, hgn_add, hgn_mul, hw, hg, hh, hn, h1, h2, h3, h4, k44]
      exact e
    · rw [w2 j (by omega), hrg j (by omega) (by omega)]
    · by_cases hji : j = i
      · subst hji
        rw [w2 j (by omega)]
        unfold hgRf
        rw [hgFn_p f0]
        have : q = 0 ∨ q = 1 ∨ q = 2 ∨ q = 3 ∨ q = 4 := by omega
        rcases this with e | e | e | e | e <;> subst e <;> simp only [hgI_SI, if_true, reduceIte, Nat.reduceEqDiff, if_false]
      · rw [w3 j (by omega) j2 q hq, hrh j (by omega)]
theorem hgk_48 (hw : hgWf M) (hg : hgGw g) (hh : hgGw h) (hne : g ≠ h) (hn : hgI M (h + 12) 1 = nI n) (hn2 : n ≤ 12) (hS : ∀ j, j < n → hgRf M h j 0 = nI 0 ∨ hgRf M h j 0 = nI 1) : ∃ M', hgWC X 48 [.ref (g + 12), .ref (h + 12)] M = some (.inl .null, M') ∧ hgFn (fun b => b = g + 12 ∨ (g + 14 ≤ b ∧ b < g + 26)) M M' ∧ hgI M' (g + 12) 1 = nI n ∧ ∀ j, j < n → ∀ q, q ≤ 4 → hgRf M' g j q = hgRf M h j q := by
  have dj := hgGw_dj hg hh hne
  have f0 : hgFn (fun b => b = g + 12) M (hgSI M (g + 12) 1 (nI n)) := hgFn_SI hgFn_r rfl
  have hrh : ∀ j, j < 12 → ∀ q, hgRf (hgSI M (g + 12) 1 (nI n)) h j q = hgRf M h j q := fun j hj q => by
    have rj := hgRp_f hw hh hj
    unfold hgRf
    rw [hgFn_p f0, (f0.2.2 _ (by omega) q).1]
  obtain ⟨M', e, w1, w2, w3⟩ := hgk_48l (X := X) hg hh hne hn2 n 0 (hgSI M (g + 12) 1 (nI n)) (by omega) hgI_at hw (fun j hj => by rw [hrh j (by omega)]; exact hS j hj)
  refine ⟨M', ?_, hgFn_t (hgFn_m f0 (fun b hb => Or.inl hb)) (hgFn_m w1 (fun b hb => Or.inr hb)), by rw [(w1.2.2 (g + 12) (by omega) 1).1, hgI_at], fun j hj q hq => by rw [w3 j (by omega) hj q hq, hrh j (by omega)]⟩
  simp (maxDischargeDepth := 7) only [hgc48, hgM_t, hgM_f, hgM_n, hgx_aload_n_0, hgx_aload_n_1, hgx_get0, hgx_put0, hgx_iconst_0, hgx_istore_n_2i, hgx_istore_n_2r, hgx_istore_n_2f, hgx_istore_n_2n, hgx_istore_n_2l, hgx_iload_n_2, hgx_ic_ge, hgs_get_5_0, hgx_invvirtual_2, hgx_aft_e, hgx_aft_i, hgx_aft_l, hgx_aft_v, hgx_iinc_2_1, hgx_goto, hgx_vret, hgv48_0, hgr48_0, hgu48_0, hgv48_10, ← hgu48_10, hgv48_39, hgr48_39, hgu48_39, hgI_SI, hgI_SJ, hgJ_SI, hgJ_SJ, if_true, if_false, reduceIte, Nat.reduceEqDiff, hgWf_SI, hgWf_SJ, hgO_SI, hgO_SJ, hgAr_SI, hgAr_SJ, hgRp_SI, hgRp_SJ, hgN_SI, hgN_SJ, hgO_g, hgO_d, hgO_rl, hgO_r, hgO_0, hgO_1, hgO_64, hgO_298, hgO_300, hgCd_0, hgCd_1, hgCd_2, hgCd_3, hgCd_4, hgCd_5, hgRecv_O, hgRecv_99, List.length_cons, List.length_nil, Nat.zero_add, Nat.add_zero, Nat.le_refl, Nat.zero_le, and_self, or_true, true_or, true_and, and_true, ne_eq, not_false_eq_true, Nat.reduceLT, Nat.reduceLeDiff, Nat.reduceAdd, Nat.reduceEqDiff, hgn_eq, hgn_lt, hgn_le, if_true, if_false, reduceIte, Nat.not_lt_zero, hgs_aa_d, hgs_aa_r, hgs_aa_h, hgs_aa_m, hgs_aa_t, hgs_ld_wp, hgs_st_wp, hgs_ld_qf, hgs_st_qf, hgs_ld_qt, hgs_st_qt, hgs_ld_2, hgs_st_2, hgs_ld_3, hgs_st_3, hgs_ld_4, hgs_st_4, hgs_ld_301, hgs_st_301, hgs_ld_D, hgs_st_D, hgs_ld_s, hgs_ld_T, hgs_st_T, hgs_ld_o, hgs_st_o, hgs_ld_b, hgs_st_b, hgs_ld_z, hgs_st_z, hgs_al_b, hgx_alen_s, hgn_add, hgn_mul, hw, hg, hh, hn]
  exact e
/-- wake ports -/
theorem hgk_9b (hg : hgGw g) (hh : hgGw h) (hne : g ≠ h) (hn2 : n ≤ 8) : ∀ (k i : Nat) (M : hgMem), i + k = n → hgI M g 9 = nI n → hgWf M → ∃ M', hgW X 9 92 [some (.ref g), some (.ref h), some (.int (nI i))] [] (0, 0) M = hgW X 9 120 [some (.ref g), some (.ref h), some (.int (nI 0))] [] (0, 0) M' ∧ hgFn (fun b => b = g + 26) M M' ∧ (∀ j, j < i → hgI M' (g + 26) j = hgI M (g + 26) j) ∧ ∀ j, i ≤ j → j < n → hgI M' (g + 26) j = hgI M (h + 26) j := by
  intro k
  have dj := hgGw_dj hg hh hne
  induction k with
  | zero =>
    intro i M hi hn hw
    have h1 : i < 2147483648 := by omega
    have h2 : n < 2147483648 := by omega
    have h3 : n ≤ i := by omega
    refine ⟨M, ?_, hgFn_r, fun j _ => rfl, fun j h1 h2 => by omega⟩
    rw [hgu9_92]
    simp (maxDischargeDepth := 7) only [hgM_t, hgM_f, hgM_n, hgx_aload_n_0, hgx_aload_n_1, hgx_get3, hgx_put3, hgx_get0, hgx_put0, hgx_iconst_0, hgx_istore_n_2i, hgx_istore_n_2r, hgx_istore_n_2f, hgx_istore_n_2n, hgx_istore_n_2l, hgx_iload_n_2, hgx_ic_ge, hgs_get_1_5, hgx_invvirtual_2, hgx_aft_e, hgx_aft_i, hgx_aft_l, hgx_aft_v, hgx_iinc_2_1, hgx_goto, hgs_get_1_7, hgs_get_1_8, hgx_iconst_3, hgs_get_1_10, hgs_get_1_11, hgx_vret, hgv9_0, hgr9_0, hgu9_0, hgv9_42, ← hgu9_42, hgv9_71, hgr9_71, hgu9_71, hgv9_92, hgr9_92, hgv9_118, hgr9_118, hgu9_118, hgv9_120, ← hgu9_120, hgv9_155, hgr9_155, hgu9_155, hgI_SI, hgI_SJ, hgJ_SI, hgJ_SJ, if_true, if_false, reduceIte, Nat.reduceEqDiff, hgWf_SI, hgWf_SJ, hgO_SI, hgO_SJ, hgAr_SI, hgAr_SJ, hgRp_SI, hgRp_SJ, hgN_SI, hgN_SJ, hgO_g, hgO_d, hgO_rl, hgO_r, hgO_0, hgO_1, hgO_64, hgO_298, hgO_300, hgCd_0, hgCd_1, hgCd_2, hgCd_3, hgCd_4, hgCd_5, hgRecv_O, hgRecv_99, List.length_cons, List.length_nil, Nat.zero_add, Nat.add_zero, Nat.le_refl, Nat.zero_le, and_self, or_true, true_or, true_and, and_true, ne_eq, not_false_eq_true, Nat.reduceLT, Nat.reduceLeDiff, Nat.reduceAdd, Nat.reduceEqDiff, hgn_eq, hgn_lt, hgn_le, if_true, if_false, reduceIte, Nat.not_lt_zero, hw, hg, hn, h1, h2, h3]
  | succ k ih =>
    intro i M hi hn hw
    have h1 : i < 2147483648 := by omega
    have h2 : n < 2147483648 := by omega
    have h3 : ¬ n ≤ i := by omega
    have h4 : i < 8 := by omega
    obtain ⟨M', e, w1, w2, w3⟩ := ih (i + 1) (hgSI M (g + 26) i (hgI M (h + 26) i)) (by omega) (by rw [hgI_na (by omega)]; exact hn) hw
    refine ⟨M', ?_, hgFn_t (hgFn_SI hgFn_r rfl) w1, fun j hj => by rw [w2 j (by omega), hgI_nk (by omega)], fun j j1 j2 => ?_⟩
    · refine Eq.trans ?_ e
      rw [hgu9_92]
      simp (maxDischargeDepth := 7) only [hgM_t, hgM_f, hgM_n, hgx_aload_n_0, hgx_aload_n_1, hgx_get3, hgx_put3, hgx_get0, hgx_put0, hgx_iconst_0, hgx_istore_n_2i, hgx_istore_n_2r, hgx_istore_n_2f, hgx_istore_n_2n, hgx_istore_n_2l, hgx_iload_n_2, hgx_ic_ge, hgs_get_1_5, hgx_invvirtual_2, hgx_aft_e, hgx_aft_i, hgx_aft_l, hgx_aft_v, hgx_iinc_2_1, hgx_goto, hgs_get_1_7, hgs_get_1_8, hgx_iconst_3, hgs_get_1_10, hgs_get_1_11, hgx_vret, hgv9_0, hgr9_0, hgu9_0, hgv9_42, ← hgu9_42, hgv9_71, hgr9_71, hgu9_71, hgv9_92, hgr9_92, hgv9_118, hgr9_118, hgu9_118, hgv9_120, ← hgu9_120, hgv9_155, hgr9_155, hgu9_155, hgI_SI, hgI_SJ, hgJ_SI, hgJ_SJ, if_true, if_false, reduceIte, Nat.reduceEqDiff, hgWf_SI, hgWf_SJ, hgO_SI, hgO_SJ, hgAr_SI, hgAr_SJ, hgRp_SI, hgRp_SJ, hgN_SI, hgN_SJ, hgO_g, hgO_d, hgO_rl, hgO_r, hgO_0, hgO_1, hgO_64, hgO_298, hgO_300, hgCd_0, hgCd_1, hgCd_2, hgCd_3, hgCd_4, hgCd_5, hgRecv_O, hgRecv_99, List.length_cons, List.length_nil, Nat.zero_add, Nat.add_zero, Nat.le_refl, Nat.zero_le, and_self, or_true, true_or, true_and, and_true, ne_eq, not_false_eq_true, Nat.reduceLT, Nat.reduceLeDiff, Nat.reduceAdd, Nat.reduceEqDiff, hgn_eq, hgn_lt, hgn_le, if_true, if_false, reduceIte, Nat.not_lt_zero, hgs_aa_d, hgs_aa_r, hgs_aa_h, hgs_aa_m, hgs_aa_t, hgs_ld_wp, hgs_st_wp, hgs_ld_qf, hgs_st_qf, hgs_ld_qt, hgs_st_qt, hgs_ld_2, hgs_st_2, hgs_ld_3, hgs_st_3, hgs_ld_4, hgs_st_4, hgs_ld_301, hgs_st_301, hgs_ld_D, hgs_st_D, hgs_ld_s, hgs_ld_T, hgs_st_T, hgs_ld_o, hgs_st_o, hgs_ld_b, hgs_st_b, hgs_ld_z, hgs_st_z, hgs_al_b, hgx_alen_s, hgn_add, hgn_mul, hw, hg, hh, hn, h1, h2, h3, h4]
    · by_cases hji : j = i
      · rw [hji, w2 i (by omega), hgI_at]
      · rw [w3 j (by omega) j2, hgI_na (by omega)]
/-- quiet hours -/
theorem hgk_9c (hg : hgGw g) (hh : hgGw h) (hne : g ≠ h) : ∀ (k i : Nat) (M : hgMem), i + k = 3 → hgWf M → ∃ M', hgW X 9 120 [some (.ref g), some (.ref h), some (.int (nI i))] [] (0, 0) M = hgW X 9 155 [some (.ref g), some (.ref h), none] [] (0, 0) M' ∧ hgFn (fun b => b = g + 27 ∨ b = g + 28) M M' ∧ (∀ j, j < i → hgI M' (g + 27) j = hgI M (g + 27) j ∧ hgI M' (g + 28) j = hgI M (g + 28) j) ∧ ∀ j, i ≤ j → j < 3 → hgI M' (g + 27) j = hgI M (h + 27) j ∧ hgI M' (g + 28) j = hgI M (h + 28) j := by
  intro k
  have dj := hgGw_dj hg hh hne
  induction k with
  | zero =>
    intro i M hi hw
    have h1 : i < 2147483648 := by omega
    have h3 : 3 ≤ i := by omega
    refine ⟨M, ?_, hgFn_r, fun j _ => ⟨rfl, rfl⟩, fun j h1 h2 => by omega⟩
    rw [hgu9_120]
    simp (maxDischargeDepth := 7) only [hgx_iload_n_2, hgx_iconst_3, hgx_ic_ge, hgr9_120, hgv9_155, hgM_t, hgM_f, hgM_n, hgI_SI, hgI_SJ, hgJ_SI, hgJ_SJ, if_true, if_false, reduceIte, Nat.reduceEqDiff, hgWf_SI, hgWf_SJ, hgO_SI, hgO_SJ, hgAr_SI, hgAr_SJ, hgRp_SI, hgRp_SJ, hgN_SI, hgN_SJ, hgO_g, hgO_d, hgO_rl, hgO_r, hgO_0, hgO_1, hgO_64, hgO_298, hgO_300, hgCd_0, hgCd_1, hgCd_2, hgCd_3, hgCd_4, hgCd_5, hgRecv_O, hgRecv_99, List.length_cons, List.length_nil, Nat.zero_add, Nat.add_zero, Nat.le_refl, Nat.zero_le, and_self, or_true, true_or, true_and, and_true, ne_eq, not_false_eq_true, Nat.reduceLT, Nat.reduceLeDiff, Nat.reduceAdd, Nat.reduceEqDiff, hgn_eq, hgn_lt, hgn_le, if_true, if_false, reduceIte, Nat.not_lt_zero, hw, hg, h1, h3]
  | succ k ih =>
    intro i M hi hw
    have h1 : i < 2147483648 := by omega
    have h3 : ¬ 3 ≤ i := by omega
    have h4 : i < 3 := by omega
    have e28 : ¬ h + 28 = g + 27 := by omega
    obtain ⟨M', e, w1, w2, w3⟩ := ih (i + 1) (hgSI (hgSI M (g + 27) i (hgI M (h + 27) i)) (g + 28) i (hgI M (h + 28) i)) (by omega) hw
    refine ⟨M', ?_, hgFn_t (hgFn_SI (hgFn_SI hgFn_r (Or.inl rfl)) (Or.inr rfl)) w1, fun j hj => ?_, fun j j1 j2 => ?_⟩
    · refine Eq.trans ?_ e
      rw [hgu9_120]
      simp (maxDischargeDepth := 7) only [hgM_t, hgM_f, hgM_n, hgx_aload_n_0, hgx_aload_n_1, hgx_get3, hgx_put3, hgx_get0, hgx_put0, hgx_iconst_0, hgx_istore_n_2i, hgx_istore_n_2r, hgx_istore_n_2f, hgx_istore_n_2n, hgx_istore_n_2l, hgx_iload_n_2, hgx_ic_ge, hgs_get_1_5, hgx_invvirtual_2, hgx_aft_e, hgx_aft_i, hgx_aft_l, hgx_aft_v, hgx_iinc_2_1, hgx_goto, hgs_get_1_7, hgs_get_1_8, hgx_iconst_3, hgs_get_1_10, hgs_get_1_11, hgx_vret, hgv9_0, hgr9_0, hgu9_0, hgv9_42, ← hgu9_42, hgv9_71, hgr9_71, hgu9_71, hgv9_92, ← hgu9_92, hgv9_118, hgr9_118, hgu9_118, hgv9_120, hgr9_120, hgv9_155, hgr9_155, hgu9_155, hgI_SI, hgI_SJ, hgJ_SI, hgJ_SJ, if_true, if_false, reduceIte, Nat.reduceEqDiff, hgWf_SI, hgWf_SJ, hgO_SI, hgO_SJ, hgAr_SI, hgAr_SJ, hgRp_SI, hgRp_SJ, hgN_SI, hgN_SJ, hgO_g, hgO_d, hgO_rl, hgO_r, hgO_0, hgO_1, hgO_64, hgO_298, hgO_300, hgCd_0, hgCd_1, hgCd_2, hgCd_3, hgCd_4, hgCd_5, hgRecv_O, hgRecv_99, List.length_cons, List.length_nil, Nat.zero_add, Nat.add_zero, Nat.le_refl, Nat.zero_le, and_self, or_true, true_or, true_and, and_true, ne_eq, not_false_eq_true, Nat.reduceLT, Nat.reduceLeDiff, Nat.reduceAdd, Nat.reduceEqDiff, hgn_eq, hgn_lt, hgn_le, if_true, if_false, reduceIte, Nat.not_lt_zero, hgs_aa_d, hgs_aa_r, hgs_aa_h, hgs_aa_m, hgs_aa_t, hgs_ld_wp, hgs_st_wp, hgs_ld_qf, hgs_st_qf, hgs_ld_qt, hgs_st_qt, hgs_ld_2, hgs_st_2, hgs_ld_3, hgs_st_3, hgs_ld_4, hgs_st_4, hgs_ld_301, hgs_st_301, hgs_ld_D, hgs_st_D, hgs_ld_s, hgs_ld_T, hgs_st_T, hgs_ld_o, hgs_st_o, hgs_ld_b, hgs_st_b, hgs_ld_z, hgs_st_z, hgs_al_b, hgx_alen_s, hgn_add, hgn_mul, hw, hg, hh, h1, h3, h4, e28]
    · rw [(w2 j (by omega)).1, (w2 j (by omega)).2, hgI_nk (by omega), hgI_nk (by omega), hgI_nk (by omega), hgI_nk (by omega)]
      exact ⟨rfl, rfl⟩
    · by_cases hji : j = i
      · rw [hji, (w2 i (by omega)).1, (w2 i (by omega)).2, hgI_at, hgI_na (by omega), hgI_at]
        exact ⟨rfl, rfl⟩
      · rw [(w3 j (by omega) j2).1, (w3 j (by omega) j2).2, hgI_na (by omega), hgI_na (by omega), hgI_na (by omega), hgI_na (by omega)]
        exact ⟨rfl, rfl⟩
end HGCPY

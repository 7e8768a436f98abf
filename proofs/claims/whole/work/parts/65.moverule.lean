/-! REMOVERULE AND MOVERULE, both sides. -/
def vRm (V : hgV) : hgV := ((vN V, vR V - 1, vW V), V.2)
section HGMVR
variable {X : hgX} {M M' M1 M2 M3 Mo : hgMem} {d t g h i j q c k a b n p N l r : Nat} {V V' V1 W U : hgV} {Hs Hs' : List hgV} {x y z x1 x2 x3 x4 x5 s ans : Int32} {u : Int64} {P : Nat → Prop} {o : Option Nat} {v1 : Option Value}
theorem vMv_n (hr : r < n) (hp : p < n) (hj : j < n) : vMv r p j < n := by
  unfold vMv
  split <;> split <;> (try split) <;> omega
theorem hgCV_sh (hw : hgWf M) (hm : hgSm V) (hr : r < vR V) (hp : p < vR V) (hS : hgSo M M' g) (hR : ∀ j, j < 12 → hgRp M' g j = hgRp M g (vMv r p j)) (h : hgCV M g V) : hgCV M' g (vSh V r p) := by
  have hn := hm.2.1
  obtain ⟨a1, a2, a3, a4, a5, a6, a7, a8, a9, a10, a11, a12, a13, a14, a15, a16, a17⟩ := h
  refine ⟨a1, by rw [hS.2.1]; exact a2, by rw [hS.2.1]; exact a3, by rw [hS.2.1]; exact a4, by rw [hS.2.1]; exact a5, by rw [hS.2.1]; exact a6, by rw [hS.2.1]; exact a7, by rw [hS.2.1]; exact a8, by rw [hS.2.1]; exact a9, by rw [hS.2.1]; exact a10, by rw [hS.2.1]; exact a11, fun i hi => ?_, fun j hj k hk => ?_, fun k hk => by rw [hS.2.1]; exact a14 k hk, fun q hq => by rw [hS.2.1, hS.2.1]; exact a15 q hq, by rw [hS.2.1]; exact a16, by rw [hS.2.1]; exact a17⟩
  · exact hgDv_to (V := V) (fun k => hS.2.1 _ k) (hS.2.2.1 _ 7) (fun p _ => hS.2.1 4 p) (fun p _ => ⟨hS.2.1 2 p, hS.2.1 3 p⟩) (a12 i hi)
  · have hj2 : j < vR V := hj
    unfold hgRf
    rw [hR j (by omega), hS.2.1]
    exact a13 _ (vMv_n hr hp hj2) k hk
theorem hgVok_sh (hk : hgVok V c) (hr : r < vR V) (hp : p < vR V) : hgVok (vSh V r p) c := by
  obtain ⟨k1, k2, k3, k4, k5, k6, k7, k8, k9⟩ := hk
  exact ⟨k1, k2, k3, k4, fun j hj => k5 _ (vMv_n hr hp hj), k6, k7, fun j hj => k8 _ (vMv_n hr hp hj), k9⟩
theorem hgVok_rm (hk : hgVok V c) : hgVok (vRm V) c := by
  obtain ⟨k1, k2, k3, k4, k5, k6, k7, k8, k9⟩ := hk
  have e : ∀ j, j < vR (vRm V) → j < vR V := fun j hj => by
    have : j < vR V - 1 := hj
    omega
  exact ⟨k1, by show vR V - 1 ≤ 12; omega, k3, k4, fun j hj => k5 j (e j hj), k6, k7, fun j hj => k8 j (e j hj), k9⟩
theorem hgCV_rm (hw : hgWf M) (hm : hgSm V) (h : hgCV M g V) : hgCV (hgSI M (g + 12) 1 (nI (vR V - 1))) g (vRm V) := by
  have hg := hgGw_le h.1
  have hn := hm.2.1
  have hN := hm.1
  have o : ∀ b, b ≠ g + 12 → ∀ k, hgI (hgSI M (g + 12) 1 (nI (vR V - 1))) b k = hgI M b k := fun b hb k => hgI_na hb
  obtain ⟨a1, a2, a3, a4, a5, a6, a7, a8, a9, a10, a11, a12, a13, a14, a15, a16, a17⟩ := h
  refine ⟨a1, by rw [o g (by omega)]; exact a2, by rw [hgI_at]; rfl, by rw [o g (by omega)]; exact a4, by rw [o g (by omega)]; exact a5, by rw [o g (by omega)]; exact a6, by rw [o g (by omega)]; exact a7, by rw [o g (by omega)]; exact a8, by rw [o g (by omega)]; exact a9, by rw [o g (by omega)]; exact a10, by rw [o g (by omega)]; exact a11, fun i hi => ?_, fun j hj k hk => ?_, fun k hk => by rw [o _ (by omega)]; exact a14 k hk, fun q hq => by rw [o _ (by omega), o _ (by omega)]; exact a15 q hq, by rw [o g (by omega)]; exact a16, by rw [o g (by omega)]; exact a17⟩
  · have hi2 : i < vN V := hi
    exact hgDv_to (V := V) (fun k => o _ (by omega) k) rfl (fun p _ => o 4 (by omega) p) (fun p _ => ⟨o 2 (by omega) p, o 3 (by omega) p⟩) (a12 i hi2)
  · have hj2 : j < vR V - 1 := hj
    rw [hgRf_to (M := M) (fun a b z1 z2 => o a (by omega) b) (fun _ => rfl) hw a1 (by omega)]
    exact a13 j (by omega) k hk
/-- the component's way -/
theorem hgk_51 (hw : hgWf M) (hg : hgGw g) (hn : hgI M (g + 12) 1 = nI n) (hn2 : n ≤ 12) (hr : r < n) : ∃ M', hgWC X 51 [.ref (g + 12), .int (nI r)] M = some (.inl .null, hgSI M' (g + 12) 1 (nI (n - 1))) ∧ hgSo M M' g ∧ hgWf M' ∧ ∀ j, j < 12 → hgRp M' g j = hgRp M g (vMv r (n - 1) j) := by
  obtain ⟨M', e, s, w, hR⟩ := hgk_52 (X := X) hw hg hn hn2 hr (show n - 1 < n by omega)
  have h1 : r < 2147483648 := by omega
  have h3 : n < 2147483648 := by omega
  have h4 : ¬ n ≤ r := by omega
  have h5 : 1 ≤ n := by omega
  have hn' : hgI M' (g + 12) 1 = nI n := by rw [s.2.1]; exact hn
  refine ⟨M', ?_, s, w, hR⟩
  simp (maxDischargeDepth := 7) only [hgc51, hgM_t, hgM_f, hgM_n, hgx_iload_n_1, hgx_if_lt, hgx_aload_n_0, hgx_get0, hgx_ic_ge, hgx_iconst_1, hgx_isub, hgx_invvirtual_3, hgx_aft_e, hgx_aft_i, hgx_aft_l, hgx_aft_v, hgx_dup_i, hgx_dup_f, hgx_dup_r, hgx_put0, hgx_vret, hgv51_0, hgr51_0, hgu51_0, hgv51_33, hgr51_33, hgu51_33, hgI_SI, hgI_SJ, hgJ_SI, hgJ_SJ, if_true, if_false, reduceIte, Nat.reduceEqDiff, hgWf_SI, hgWf_SJ, hgO_SI, hgO_SJ, hgAr_SI, hgAr_SJ, hgRp_SI, hgRp_SJ, hgN_SI, hgN_SJ, hgO_g, hgO_d, hgO_rl, hgO_r, hgO_0, hgO_1, hgO_64, hgO_298, hgO_300, hgCd_0, hgCd_1, hgCd_2, hgCd_3, hgCd_4, hgCd_5, hgRecv_O, hgRecv_99, List.length_cons, List.length_nil, Nat.zero_add, Nat.add_zero, Nat.le_refl, Nat.zero_le, and_self, or_true, true_or, true_and, and_true, ne_eq, not_false_eq_true, Nat.reduceLT, Nat.reduceLeDiff, Nat.reduceAdd, Nat.reduceEqDiff, hgn_eq, hgn_lt, hgn_le, if_true, if_false, reduceIte, Nat.not_lt_zero, hw, hg, hn, h1, h3, h4, hgn_sub, h5, e, w, hn']
/-- the reference swaps two rules -/
theorem hgk_199l (hr : r < 12) (hq : q < 12) (hrq : r ≠ q) : ∀ (k i : Nat) (M : hgMem), i + k = 5 → hgWf M → ∃ M', hgW X 199 2 [some (.ref 300), some (.int (nI r)), some (.int (nI q)), some (.int (nI i)), v1] [] (0, 0) M = some (.inl .null, M') ∧ hgFn (fun b => b = 302) M M' ∧ (∀ b k, hgJ M' b k = hgJ M b k) ∧ (∀ t, i ≤ t → t < 5 → hgI M' 302 (127 + 5 * r + t) = hgI M 302 (127 + 5 * q + t) ∧ hgI M' 302 (127 + 5 * q + t) = hgI M 302 (127 + 5 * r + t)) ∧ ∀ j, (j < 127 + 5 * r + i ∨ 127 + 5 * r + 5 ≤ j) → (j < 127 + 5 * q + i ∨ 127 + 5 * q + 5 ≤ j) → hgI M' 302 j = hgI M 302 j := by
  intro k
  induction k generalizing v1 with
  | zero =>
    intro i M hi hw
    have h1 : i < 2147483648 := by omega
    have h3 : 5 ≤ i := by omega
    refine ⟨M, ?_, hgFn_r, fun _ _ => rfl, fun t t1 t2 => by omega, fun _ _ _ => rfl⟩
    rw [hgu199_2]
    simp (maxDischargeDepth := 7) only [hgM_t, hgM_f, hgM_n, hgx_iconst_0, hgx_istore_n_3i, hgx_istore_n_3r, hgx_istore_n_3f, hgx_istore_n_3n, hgx_istore_n_3l, hgx_iload_n_3, hgx_iconst_5, hgx_ic_ge, hgx_aload_n_0, hgs_get_8_8, hgx_iload_n_1, hgx_invstatic_1, hgx_aft_e, hgx_aft_i, hgx_aft_l, hgx_aft_v, hgx_iadd, hgx_istore_4i, hgx_istore_4r, hgx_istore_4f, hgx_istore_4n, hgx_istore_4l, hgx_iload_n_2, hgx_iload_4, hgx_iinc_3_1, hgx_goto, hgx_vret, hgv199_0, hgr199_0, hgu199_0, hgv199_2, hgr199_2, hgv199_61, hgr199_61, hgu199_61, hgI_SI, hgI_SJ, hgJ_SI, hgJ_SJ, if_true, if_false, reduceIte, Nat.reduceEqDiff, hgWf_SI, hgWf_SJ, hgO_SI, hgO_SJ, hgAr_SI, hgAr_SJ, hgRp_SI, hgRp_SJ, hgN_SI, hgN_SJ, hgO_g, hgO_d, hgO_rl, hgO_r, hgO_0, hgO_1, hgO_64, hgO_298, hgO_300, hgCd_0, hgCd_1, hgCd_2, hgCd_3, hgCd_4, hgCd_5, hgRecv_O, hgRecv_99, List.length_cons, List.length_nil, Nat.zero_add, Nat.add_zero, Nat.le_refl, Nat.zero_le, and_self, or_true, true_or, true_and, and_true, ne_eq, not_false_eq_true, Nat.reduceLT, Nat.reduceLeDiff, Nat.reduceAdd, Nat.reduceEqDiff, hgn_eq, hgn_lt, hgn_le, if_true, if_false, reduceIte, Nat.not_lt_zero, h1, h3]
  | succ k ih =>
    intro i M hi hw
    have h1 : i < 2147483648 := by omega
    have h3 : ¬ 5 ≤ i := by omega
    have b1 : 127 + 5 * r + i < 20187 := by omega
    have b2 : 127 + 5 * q + i < 20187 := by omega
    obtain ⟨M', e, f, fj, s1, s2⟩ := ih (v1 := none) (i + 1) (hgSI (hgSI M 302 (127 + 5 * r + i) (hgI M 302 (127 + 5 * q + i))) 302 (127 + 5 * q + i) (hgI M 302 (127 + 5 * r + i))) (by omega) hw
    refine ⟨M', ?_, hgFn_t (hgFn_SI (hgFn_SI hgFn_r rfl) rfl) f, fj, fun t t1 t2 => ?_, fun j j1 j2 => ?_⟩
    · rw [hgu199_2]
      simp (maxDischargeDepth := 7) only [hgM_t, hgM_f, hgM_n, hgx_iconst_0, hgx_istore_n_3i, hgx_istore_n_3r, hgx_istore_n_3f, hgx_istore_n_3n, hgx_istore_n_3l, hgx_iload_n_3, hgx_iconst_5, hgx_ic_ge, hgx_aload_n_0, hgs_get_8_8, hgx_iload_n_1, hgx_invstatic_1, hgx_aft_e, hgx_aft_i, hgx_aft_l, hgx_aft_v, hgx_iadd, hgx_istore_4i, hgx_istore_4r, hgx_istore_4f, hgx_istore_4n, hgx_istore_4l, hgx_iload_n_2, hgx_iload_4, hgx_iinc_3_1, hgx_goto, hgx_vret, hgv199_0, hgr199_0, hgu199_0, hgv199_2, hgr199_2, hgv199_61, hgr199_61, hgu199_61, hgI_SI, hgI_SJ, hgJ_SI, hgJ_SJ, if_true, if_false, reduceIte, Nat.reduceEqDiff, hgWf_SI, hgWf_SJ, hgO_SI, hgO_SJ, hgAr_SI, hgAr_SJ, hgRp_SI, hgRp_SJ, hgN_SI, hgN_SJ, hgO_g, hgO_d, hgO_rl, hgO_r, hgO_0, hgO_1, hgO_64, hgO_298, hgO_300, hgCd_0, hgCd_1, hgCd_2, hgCd_3, hgCd_4, hgCd_5, hgRecv_O, hgRecv_99, List.length_cons, List.length_nil, Nat.zero_add, Nat.add_zero, Nat.le_refl, Nat.zero_le, and_self, or_true, true_or, true_and, and_true, ne_eq, not_false_eq_true, Nat.reduceLT, Nat.reduceLeDiff, Nat.reduceAdd, Nat.reduceEqDiff, hgn_eq, hgn_lt, hgn_le, if_true, if_false, reduceIte, Nat.not_lt_zero, hgs_aa_d, hgs_aa_r, hgs_aa_h, hgs_aa_m, hgs_aa_t, hgs_ld_wp, hgs_st_wp, hgs_ld_qf, hgs_st_qf, hgs_ld_qt, hgs_st_qt, hgs_ld_2, hgs_st_2, hgs_ld_3, hgs_st_3, hgs_ld_4, hgs_st_4, hgs_ld_301, hgs_st_301, hgs_ld_D, hgs_st_D, hgs_ld_s, hgs_ld_T, hgs_st_T, hgs_ld_o, hgs_st_o, hgs_ld_b, hgs_st_b, hgs_ld_z, hgs_st_z, hgs_al_b, hgx_alen_s, hgn_add, hgn_mul, hw, hgAr_302 hw, hgk_129, h1, h3, b1, b2]
      exact e
    · by_cases ht : t = i
      · rw [ht, s2 _ (by omega) (by omega), s2 _ (by omega) (by omega), hgI_nk (by omega), hgI_at, hgI_at]
        exact ⟨rfl, rfl⟩
      · rw [(s1 t (by omega) t2).1, (s1 t (by omega) t2).2, hgI_nk (by omega), hgI_nk (by omega), hgI_nk (by omega), hgI_nk (by omega)]
        exact ⟨rfl, rfl⟩
    · rw [s2 j (by omega) (by omega), hgI_nk (by omega), hgI_nk (by omega)]
theorem hgRV_199 (hw : hgWf M) (hm : hgSm V) (hr : r < vR V) (hq : q < vR V) (hrq : r ≠ q) (h : hgRV M 302 314 V) : ∃ M', hgWC X 199 [.ref 300, .int (nI r), .int (nI q)] M = some (.inl .null, M') ∧ hgWf M' ∧ hgRV M' 302 314 (vSw V r q) ∧ hgFm (fun b => b = 302) M M' := by
  obtain ⟨m1, m2, m3, m4⟩ := hm
  obtain ⟨M', e, f, fj, s1, s2⟩ := hgk_199l (X := X) (v1 := none) (show r < 12 by omega) (show q < 12 by omega) hrq 5 0 M (by omega) hw
  refine ⟨M', ?_, hgFn_w f hw, ?_, hgFn_f f⟩
  · simp (maxDischargeDepth := 7) only [hgc199, hgM_t, hgM_f, hgM_n, hgx_iconst_0, hgx_istore_n_3i, hgx_istore_n_3r, hgx_istore_n_3f, hgx_istore_n_3n, hgx_istore_n_3l, hgx_iload_n_3, hgx_iconst_5, hgx_ic_ge, hgx_aload_n_0, hgs_get_8_8, hgx_iload_n_1, hgx_invstatic_1, hgx_aft_e, hgx_aft_i, hgx_aft_l, hgx_aft_v, hgx_iadd, hgx_istore_4i, hgx_istore_4r, hgx_istore_4f, hgx_istore_4n, hgx_istore_4l, hgx_iload_n_2, hgx_iload_4, hgx_iinc_3_1, hgx_goto, hgx_vret, hgv199_0, hgr199_0, hgu199_0, hgv199_2, ← hgu199_2, hgv199_61, hgr199_61, hgu199_61, hgI_SI, hgI_SJ, hgJ_SI, hgJ_SJ, if_true, if_false, reduceIte, Nat.reduceEqDiff, hgWf_SI, hgWf_SJ, hgO_SI, hgO_SJ, hgAr_SI, hgAr_SJ, hgRp_SI, hgRp_SJ, hgN_SI, hgN_SJ, hgO_g, hgO_d, hgO_rl, hgO_r, hgO_0, hgO_1, hgO_64, hgO_298, hgO_300, hgCd_0, hgCd_1, hgCd_2, hgCd_3, hgCd_4, hgCd_5, hgRecv_O, hgRecv_99, List.length_cons, List.length_nil, Nat.zero_add, Nat.add_zero, Nat.le_refl, Nat.zero_le, and_self, or_true, true_or, true_and, and_true, ne_eq, not_false_eq_true, Nat.reduceLT, Nat.reduceLeDiff, Nat.reduceAdd, Nat.reduceEqDiff, hgn_eq, hgn_lt, hgn_le, if_true, if_false, reduceIte, Nat.not_lt_zero]
    exact e
  · obtain ⟨a1, a2, a3, a4, a5, a6, a7, a8, a9, a10, a11⟩ := h
    have o : ∀ k, k < 127 ∨ 187 ≤ k → hgI M' 302 k = hgI M 302 k := fun k hk => s2 k (by omega) (by omega)
    refine ⟨hgAr_to a1 f.1, a2, hgAr_to a3 f.1, by rw [o 0 (by omega)]; exact a4, by rw [o 1 (by omega)]; exact a5, by rw [o 2 (by omega)]; exact a6, fun k k1 k2 => by rw [o k (by omega)]; exact a7 k k1 k2, fun i hi => ?_, fun j hj k hk => ?_, fun k hk => ?_, fun z hz => ?_⟩
    · have hi2 : i < vN V := hi
      refine ⟨fun k hk => by rw [o _ (by omega)]; exact (a8 i hi2).1 k hk, by rw [o _ (by omega)]; exact (a8 i hi2).2.1, by rw [fj]; exact (a8 i hi2).2.2.1, fun k z hz => ?_⟩
      rw [o _ (by omega), o _ (by omega)]
      exact (a8 i hi2).2.2.2 k z hz
    · have hj2 : j < vR V := hj
      show _ = (if j = r then vU V q else if j = q then vU V r else vU V j) k
      by_cases e1 : j = r
      · rw [if_pos e1, e1, (s1 k (by omega) (by omega)).1]
        exact a9 q hq k hk
      · rw [if_neg e1]
        by_cases e2 : j = q
        · rw [if_pos e2, e2, (s1 k (by omega) (by omega)).2]
          exact a9 r hr k hk
        · rw [if_neg e2, s2 _ (by omega) (by omega)]
          exact a9 j hj2 k hk
    · have hk2 : k < vW V := hk
      rw [o _ (by omega)]
      exact a10 k hk2
    · rw [o _ (by omega), o _ (by omega), o _ (by omega)]
      exact a11 z hz
theorem hgk_200u (hp : p < n) (hr : r < n) (hn : n ≤ 12) : ∀ (k i : Nat) (M : hgMem) (V : hgV), (i + k = p ∨ (k = 0 ∧ p ≤ i)) → i < n → hgWf M → vR V = n → hgSm V → hgRV M 302 314 V → ∃ M', hgW X 200 2 [some (.ref 300), some (.int (nI r)), some (.int (nI p)), some (.int (nI i))] [] (0, 0) M = hgW X 200 23 [some (.ref 300), some (.int (nI r)), some (.int (nI p)), some (.int (nI r))] [] (0, 0) M' ∧ hgWf M' ∧ hgRV M' 302 314 (vUp i k V) ∧ hgFm (fun b => b = 302) M M' := by
  intro k
  induction k with
  | zero =>
    intro i M V hi hi2 hw hV hm h
    have h1 : i < 2147483648 := by omega
    have h2 : p < 2147483648 := by omega
    have h3 : p ≤ i := by omega
    refine ⟨M, ?_, hw, h, hgFm_r⟩
    rw [hgu200_2]
    simp (maxDischargeDepth := 7) only [hgM_t, hgM_f, hgM_n, hgx_iload_n_1, hgx_istore_n_3i, hgx_istore_n_3r, hgx_istore_n_3f, hgx_istore_n_3n, hgx_istore_n_3l, hgx_iload_n_3, hgx_iload_n_2, hgx_ic_ge, hgx_aload_n_0, hgx_iconst_1, hgx_iadd, hgx_invvirtual_3, hgx_aft_e, hgx_aft_i, hgx_aft_l, hgx_aft_v, hgx_iinc_3_1, hgx_goto, hgx_ic_le, hgx_isub, hgx_iinc_3_m1, hgx_vret, hgv200_0, hgr200_0, hgu200_0, hgv200_2, hgr200_2, hgv200_21, hgr200_21, hgu200_21, hgv200_23, ← hgu200_23, hgv200_42, hgr200_42, hgu200_42, hgI_SI, hgI_SJ, hgJ_SI, hgJ_SJ, if_true, if_false, reduceIte, Nat.reduceEqDiff, hgWf_SI, hgWf_SJ, hgO_SI, hgO_SJ, hgAr_SI, hgAr_SJ, hgRp_SI, hgRp_SJ, hgN_SI, hgN_SJ, hgO_g, hgO_d, hgO_rl, hgO_r, hgO_0, hgO_1, hgO_64, hgO_298, hgO_300, hgCd_0, hgCd_1, hgCd_2, hgCd_3, hgCd_4, hgCd_5, hgRecv_O, hgRecv_99, List.length_cons, List.length_nil, Nat.zero_add, Nat.add_zero, Nat.le_refl, Nat.zero_le, and_self, or_true, true_or, true_and, and_true, ne_eq, not_false_eq_true, Nat.reduceLT, Nat.reduceLeDiff, Nat.reduceAdd, Nat.reduceEqDiff, hgn_eq, hgn_lt, hgn_le, if_true, if_false, reduceIte, Nat.not_lt_zero, h1, h2, h3]
  | succ k ih =>
    intro i M V hi hi2 hw hV hm h
    have h1 : i < 2147483648 := by omega
    have h2 : p < 2147483648 := by omega
    have h3 : ¬ p ≤ i := by omega
    obtain ⟨M1, e1, w1, v1, f1⟩ := hgRV_199 (X := X) hw hm (show i < vR V by omega) (show i + 1 < vR V by omega) (by omega) h
    obtain ⟨M', e, r1, r2, r3⟩ := ih (i + 1) M1 (vSw V i (i + 1)) (by omega) (by omega) w1 hV hm v1
    refine ⟨M', ?_, r1, r2, hgFm_t f1 r3⟩
    refine Eq.trans ?_ e
    rw [hgu200_2]
    simp (maxDischargeDepth := 7) only [hgM_t, hgM_f, hgM_n, hgx_iload_n_1, hgx_istore_n_3i, hgx_istore_n_3r, hgx_istore_n_3f, hgx_istore_n_3n, hgx_istore_n_3l, hgx_iload_n_3, hgx_iload_n_2, hgx_ic_ge, hgx_aload_n_0, hgx_iconst_1, hgx_iadd, hgx_invvirtual_3, hgx_aft_e, hgx_aft_i, hgx_aft_l, hgx_aft_v, hgx_iinc_3_1, hgx_goto, hgx_ic_le, hgx_isub, hgx_iinc_3_m1, hgx_vret, hgv200_0, hgr200_0, hgu200_0, hgv200_2, hgr200_2, hgv200_21, hgr200_21, hgu200_21, hgv200_23, ← hgu200_23, hgv200_42, hgr200_42, hgu200_42, hgI_SI, hgI_SJ, hgJ_SI, hgJ_SJ, if_true, if_false, reduceIte, Nat.reduceEqDiff, hgWf_SI, hgWf_SJ, hgO_SI, hgO_SJ, hgAr_SI, hgAr_SJ, hgRp_SI, hgRp_SJ, hgN_SI, hgN_SJ, hgO_g, hgO_d, hgO_rl, hgO_r, hgO_0, hgO_1, hgO_64, hgO_298, hgO_300, hgCd_0, hgCd_1, hgCd_2, hgCd_3, hgCd_4, hgCd_5, hgRecv_O, hgRecv_99, List.length_cons, List.length_nil, Nat.zero_add, Nat.add_zero, Nat.le_refl, Nat.zero_le, and_self, or_true, true_or, true_and, and_true, ne_eq, not_false_eq_true, Nat.reduceLT, Nat.reduceLeDiff, Nat.reduceAdd, Nat.reduceEqDiff, hgn_eq, hgn_lt, hgn_le, if_true, if_false, reduceIte, Nat.not_lt_zero, hgn_add, hgn_mul, hw, h1, h2, h3, e1]
theorem hgk_200d (hp : p < n) (hn : n ≤ 12) : ∀ (k i : Nat) (M : hgMem) (V : hgV) (v1 : Option Value), (i = p + k ∨ (k = 0 ∧ i ≤ p)) → i < n → hgWf M → vR V = n → hgSm V → hgRV M 302 314 V → ∃ M', hgW X 200 23 [some (.ref 300), v1, some (.int (nI p)), some (.int (nI i))] [] (0, 0) M = some (.inl .null, M') ∧ hgWf M' ∧ hgRV M' 302 314 (vDn i k V) ∧ hgFm (fun b => b = 302) M M' := by
  intro k
  induction k with
  | zero =>
    intro i M V v1 hi hi2 hw hV hm h
    have h1 : i < 2147483648 := by omega
    have h2 : p < 2147483648 := by omega
    have h3 : i ≤ p := by omega
    refine ⟨M, ?_, hw, h, hgFm_r⟩
    rw [hgu200_23]
    simp (maxDischargeDepth := 7) only [hgM_t, hgM_f, hgM_n, hgx_iload_n_1, hgx_istore_n_3i, hgx_istore_n_3r, hgx_istore_n_3f, hgx_istore_n_3n, hgx_istore_n_3l, hgx_iload_n_3, hgx_iload_n_2, hgx_ic_ge, hgx_aload_n_0, hgx_iconst_1, hgx_iadd, hgx_invvirtual_3, hgx_aft_e, hgx_aft_i, hgx_aft_l, hgx_aft_v, hgx_iinc_3_1, hgx_goto, hgx_ic_le, hgx_isub, hgx_iinc_3_m1, hgx_vret, hgv200_0, hgr200_0, hgu200_0, hgv200_2, ← hgu200_2, hgv200_21, hgr200_21, hgu200_21, hgv200_23, hgr200_23, hgv200_42, hgr200_42, hgu200_42, hgI_SI, hgI_SJ, hgJ_SI, hgJ_SJ, if_true, if_false, reduceIte, Nat.reduceEqDiff, hgWf_SI, hgWf_SJ, hgO_SI, hgO_SJ, hgAr_SI, hgAr_SJ, hgRp_SI, hgRp_SJ, hgN_SI, hgN_SJ, hgO_g, hgO_d, hgO_rl, hgO_r, hgO_0, hgO_1, hgO_64, hgO_298, hgO_300, hgCd_0, hgCd_1, hgCd_2, hgCd_3, hgCd_4, hgCd_5, hgRecv_O, hgRecv_99, List.length_cons, List.length_nil, Nat.zero_add, Nat.add_zero, Nat.le_refl, Nat.zero_le, and_self, or_true, true_or, true_and, and_true, ne_eq, not_false_eq_true, Nat.reduceLT, Nat.reduceLeDiff, Nat.reduceAdd, Nat.reduceEqDiff, hgn_eq, hgn_lt, hgn_le, if_true, if_false, reduceIte, Nat.not_lt_zero, h1, h2, h3]
  | succ k ih =>
    intro i M V v1 hi hi2 hw hV hm h
    obtain ⟨i', rfl⟩ : ∃ i', i = i' + 1 := ⟨i - 1, by omega⟩
    have h1 : i' + 1 < 2147483648 := by omega
    have h2 : p < 2147483648 := by omega
    have h3 : ¬ i' + 1 ≤ p := by omega
    obtain ⟨M1, e1, w1, u1, f1⟩ := hgRV_199 (X := X) hw hm (show i' + 1 < vR V by omega) (show i' < vR V by omega) (by omega) h
    obtain ⟨M', e, r1, r2, r3⟩ := ih i' M1 (vSw V (i' + 1) i') none (by omega) (by omega) w1 hV hm u1
    refine ⟨M', ?_, r1, r2, hgFm_t f1 r3⟩
    rw [hgu200_23]
    simp (maxDischargeDepth := 7) only [hgM_t, hgM_f, hgM_n, hgx_iload_n_1, hgx_istore_n_3i, hgx_istore_n_3r, hgx_istore_n_3f, hgx_istore_n_3n, hgx_istore_n_3l, hgx_iload_n_3, hgx_iload_n_2, hgx_ic_ge, hgx_aload_n_0, hgx_iconst_1, hgx_iadd, hgx_invvirtual_3, hgx_aft_e, hgx_aft_i, hgx_aft_l, hgx_aft_v, hgx_iinc_3_1, hgx_goto, hgx_ic_le, hgx_isub, hgx_iinc_3_m1, hgx_vret, hgv200_0, hgr200_0, hgu200_0, hgv200_2, ← hgu200_2, hgv200_21, hgr200_21, hgu200_21, hgv200_23, hgr200_23, hgv200_42, hgr200_42, hgu200_42, hgI_SI, hgI_SJ, hgJ_SI, hgJ_SJ, if_true, if_false, reduceIte, Nat.reduceEqDiff, hgWf_SI, hgWf_SJ, hgO_SI, hgO_SJ, hgAr_SI, hgAr_SJ, hgRp_SI, hgRp_SJ, hgN_SI, hgN_SJ, hgO_g, hgO_d, hgO_rl, hgO_r, hgO_0, hgO_1, hgO_64, hgO_298, hgO_300, hgCd_0, hgCd_1, hgCd_2, hgCd_3, hgCd_4, hgCd_5, hgRecv_O, hgRecv_99, List.length_cons, List.length_nil, Nat.zero_add, Nat.add_zero, Nat.le_refl, Nat.zero_le, and_self, or_true, true_or, true_and, and_true, ne_eq, not_false_eq_true, Nat.reduceLT, Nat.reduceLeDiff, Nat.reduceAdd, Nat.reduceEqDiff, hgn_eq, hgn_lt, hgn_le, if_true, if_false, reduceIte, Nat.not_lt_zero, hgn_add, hgn_mul, hw, h1, h2, h3, hgn_sub, Nat.le_add_left, Nat.add_sub_cancel, e1]
    exact e
theorem hgRV_200 (hw : hgWf M) (hm : hgSm V) (hr : r < vR V) (hp : p < vR V) (h : hgRV M 302 314 V) : ∃ M', hgWC X 200 [.ref 300, .int (nI r), .int (nI p)] M = some (.inl .null, M') ∧ hgWf M' ∧ hgRV M' 302 314 (vSh V r p) ∧ hgFm (fun b => b = 302) M M' := by
  obtain ⟨M1, e1, w1, v1, f1⟩ := hgk_200u (X := X) hp hr hm.2.1 (p - r) r M V (by omega) hr hw rfl hm h
  have hm1 : hgSm (vUp r (p - r) V) := by rw [vUp_f]; exact hm
  have hR1 : vR (vUp r (p - r) V) = vR V := by rw [vUp_f]; rfl
  obtain ⟨M2, e2, w2, v2, f2⟩ := hgk_200d (X := X) (n := vR V) hp hm.2.1 (r - p) r M1 (vUp r (p - r) V) (some (.int (nI r))) (by omega) hr w1 hR1 hm1 v1
  refine ⟨M2, ?_, w2, ?_, hgFm_t f1 f2⟩
  · simp (maxDischargeDepth := 7) only [hgc200, hgM_t, hgM_f, hgM_n, hgx_iload_n_1, hgx_istore_n_3i, hgx_istore_n_3r, hgx_istore_n_3f, hgx_istore_n_3n, hgx_istore_n_3l, hgx_iload_n_3, hgx_iload_n_2, hgx_ic_ge, hgx_aload_n_0, hgx_iconst_1, hgx_iadd, hgx_invvirtual_3, hgx_aft_e, hgx_aft_i, hgx_aft_l, hgx_aft_v, hgx_iinc_3_1, hgx_goto, hgx_ic_le, hgx_isub, hgx_iinc_3_m1, hgx_vret, hgv200_0, hgr200_0, hgu200_0, hgv200_2, ← hgu200_2, hgv200_21, hgr200_21, hgu200_21, hgv200_23, ← hgu200_23, hgv200_42, hgr200_42, hgu200_42, hgI_SI, hgI_SJ, hgJ_SI, hgJ_SJ, if_true, if_false, reduceIte, Nat.reduceEqDiff, hgWf_SI, hgWf_SJ, hgO_SI, hgO_SJ, hgAr_SI, hgAr_SJ, hgRp_SI, hgRp_SJ, hgN_SI, hgN_SJ, hgO_g, hgO_d, hgO_rl, hgO_r, hgO_0, hgO_1, hgO_64, hgO_298, hgO_300, hgCd_0, hgCd_1, hgCd_2, hgCd_3, hgCd_4, hgCd_5, hgRecv_O, hgRecv_99, List.length_cons, List.length_nil, Nat.zero_add, Nat.add_zero, Nat.le_refl, Nat.zero_le, and_self, or_true, true_or, true_and, and_true, ne_eq, not_false_eq_true, Nat.reduceLT, Nat.reduceLeDiff, Nat.reduceAdd, Nat.reduceEqDiff, hgn_eq, hgn_lt, hgn_le, if_true, if_false, reduceIte, Nat.not_lt_zero]
    rw [e1]
    exact e2
  · by_cases hrp : r ≤ p
    · rw [show r - p = 0 by omega, vUp_s hrp] at v2
      exact v2
    · rw [show p - r = 0 by omega] at v2
      have : vDn r (r - p) (vUp r 0 V) = vSh V r p := vDn_s (by omega)
      rw [this] at v2
      exact v2
theorem hgRV_rm (hm : hgSm V) (h : hgRV M d t V) : hgRV (hgSI M d 1 (nI (vR V - 1))) d t (vRm V) := by
  obtain ⟨m1, m2, m3, m4⟩ := hm
  obtain ⟨a1, a2, a3, a4, a5, a6, a7, a8, a9, a10, a11⟩ := h
  have o : ∀ k, k ≠ 1 → hgI (hgSI M d 1 (nI (vR V - 1))) d k = hgI M d k := fun k hk => hgI_nk hk
  refine ⟨a1, a2, a3, by rw [o 0 (by omega)]; exact a4, by rw [hgI_at]; rfl, by rw [o 2 (by omega)]; exact a6, fun k k1 k2 => by rw [o k (by omega)]; exact a7 k k1 k2, fun i hi => ⟨fun k hk => by rw [o _ (by omega)]; exact (a8 i hi).1 k hk, by rw [o _ (by omega)]; exact (a8 i hi).2.1, (a8 i hi).2.2.1, fun k z hz => by rw [o _ (by omega), o _ (by omega)]; exact (a8 i hi).2.2.2 k z hz⟩, fun j hj k hk => ?_, fun k hk => by rw [o _ (by omega)]; exact a10 k hk, fun z hz => by rw [o _ (by omega), o _ (by omega), o _ (by omega)]; exact a11 z hz⟩
  have hj2 : j < vR V - 1 := hj
  rw [o _ (by omega)]
  exact a9 j (by omega) k hk
theorem hgSo_f (h : hgSo M M' g) : hgFm (fun b => b = g + 13) M M' := ⟨h.1, fun b hb k => ⟨h.2.1 b k, h.2.2.1 b k, h.2.2.2 b hb k⟩⟩
theorem hgOp_226 (h : hgInv M N) : hgBi X 226 [.ref 0, .int x, .int y, .ref 325] 202 [.ref 300, .int x, .int y] M N := by
  obtain ⟨V, Hs, c, hc, hC, hR, hH, hb⟩ := h
  obtain ⟨hw, g6, _, _, hn, hN⟩ := hgSC_6 hC
  have h2 : hgSM (hgSI M 300 0 (nI 0)) V Hs c := hgSM_0 hR
  by_cases hx : ∃ i, i < vR V ∧ x = nI i
  · have r1 := hgk_167a (X := X) h2 hgI_at hx
    obtain ⟨r, hr, rfl⟩ := hx
    have k1 := hgk_119a (X := X) hC hr
    by_cases hy : ∃ i, i < vR V ∧ y = nI i
    · obtain ⟨p, hp, rfl⟩ := hy
      have k2 := hgk_119a (X := X) hC hp
      obtain ⟨M1, e1, h1, f1⟩ := hgk_32 (X := X) hC
      obtain ⟨w1, _, _, _, hn1, _⟩ := hgSC_6 h1
      obtain ⟨M2, e2, s2, w2, p2⟩ := hgk_52 (X := X) (g := 6) w1 g6 hn1 hN hr hp
      have e2' : hgWC X 52 [.ref 18, .int (nI r), .int (nI p)] M1 = some (.inl .null, M2) := e2
      have o1 : hgO M1 18 5 := hgO_rl w1 g6
      have o2 : hgO M2 18 5 := hgO_rl w2 g6
      have n2 : hgI M2 18 1 = nI (vR V) := (s2.2.1 18 1).trans hn1
      have kc : hgWC X 113 [.ref 0, .int (nI r), .int (nI p)] M = some (.inl (.int (nI (vR V))), M2) := by
        simp (maxDischargeDepth := 7) only [hgc113, hgM_t, hgM_f, hgM_n, hgx_aload_n_0, hgx_iload_n_1, hgx_invvirtual_2, hgx_aft_e, hgx_aft_i, hgx_aft_l, hgx_aft_v, hgx_iload_n_2, hgs_get_7_5, hgs_get_7_3, hgs_get_1_7, hgx_invvirtual_3, hgx_get0, hgx_ret1, hgv113_0, hgr113_0, hgu113_0, hgI_SI, hgI_SJ, hgJ_SI, hgJ_SJ, if_true, if_false, reduceIte, Nat.reduceEqDiff, hgWf_SI, hgWf_SJ, hgO_SI, hgO_SJ, hgAr_SI, hgAr_SJ, hgRp_SI, hgRp_SJ, hgN_SI, hgN_SJ, hgO_g, hgO_d, hgO_rl, hgO_r, hgO_0, hgO_1, hgO_64, hgO_298, hgO_300, hgCd_0, hgCd_1, hgCd_2, hgCd_3, hgCd_4, hgCd_5, hgRecv_O, hgRecv_99, List.length_cons, List.length_nil, Nat.zero_add, Nat.add_zero, Nat.le_refl, Nat.zero_le, and_self, or_true, true_or, true_and, and_true, ne_eq, not_false_eq_true, Nat.reduceLT, Nat.reduceLeDiff, Nat.reduceAdd, Nat.reduceEqDiff, hgn_eq, hgn_lt, hgn_le, if_true, if_false, reduceIte, Nat.not_lt_zero, hw, g6, k1, k2, e1, w1, o1, e2', w2, o2, n2]
      have v2 := hgCV_sh w1 (hgSm_ok h1.2.2.2.2.1) hr hp s2 p2 h1.2.2.1
      have hk2 := hgVok_sh hC.2.2.2.2.1 hr hp
      have hC2 : hgSC M2 (vSh V r p) ((V :: Hs).take 8) c := hgSC_cur h1 (hgSo_f s2) (fun b hb => by omega) w2 v2 hk2
      have fC : hgFC M M2 := hgFC_t (hgFC_32 f1) (hgFC_m (hgSo_f s2) (fun b hb => by omega))
      refine hgBi_ok hb (hgL_226 hw w2 kc) hC2 fC ?_ (hgHi_sub hH (hgSub_e rfl rfl) (hgHi_3 hH).2.2) (by omega)
      have hR1 : hgSM (hgSJ M2 325 0 (nI (vR V)).toInt64) V Hs c := hgSM_o (hgSM_C fC w2 hR)
      obtain ⟨Mo, hMo⟩ : ∃ Mo, Mo = hgSJ M2 325 0 (nI (vR V)).toInt64 := ⟨_, rfl⟩
      rw [← hMo] at hR1 ⊢
      have h3 : hgSM (hgSI Mo 300 0 (nI 0)) V Hs c := hgSM_0 hR1
      have wo := hR1.1
      have j1 := hgk_167a (X := X) h3 hgI_at ⟨r, hr, rfl⟩
      have j2 := hgk_167a (X := X) h3 hgI_at ⟨p, hp, rfl⟩
      obtain ⟨M3, e3, h4, f4, w3, o3⟩ := hgSM_rem (X := X) h3 hgI_at
      obtain ⟨M4, e4, w4, v4, f5⟩ := hgRV_200 (X := X) w3 (hgSm_ok h4.2.2.2.1) hr hp h4.2.1
      have t1 : hgI M4 302 1 = nI (vR V) := v4.2.2.2.2.1
      refine ⟨M4, ?_, hgSM_cur h4 f5 (fun b hb => Or.inl hb) w4 v4 hk2, hgFR_t (hgFR_t hgFR_0 f4) (hgFR_m f5 (fun b hb => by omega)), by rw [(f5.2 300 (by omega) 0).1]; exact o3⟩
      simp (maxDischargeDepth := 7) only [hgc202, hgM_t, hgM_f, hgM_n, hgx_aload_n_0, hgx_iconst_0, hgx_put0, hgx_iload_n_1, hgx_invvirtual_2, hgx_aft_e, hgx_aft_i, hgx_aft_l, hgx_aft_v, hgx_if_ne, hgx_iload_n_2, hgx_if_eq, hgx_ret1, hgx_invvirtual_1, hgx_invvirtual_3, hgs_get_8_8, hgx_iconst_1, hgv202_0, hgr202_0, hgu202_0, hgv202_21, hgr202_21, hgu202_21, hgv202_23, hgr202_23, hgu202_23, hgs_aa_d, hgs_aa_r, hgs_aa_h, hgs_aa_m, hgs_aa_t, hgs_ld_wp, hgs_st_wp, hgs_ld_qf, hgs_st_qf, hgs_ld_qt, hgs_st_qt, hgs_ld_2, hgs_st_2, hgs_ld_3, hgs_st_3, hgs_ld_4, hgs_st_4, hgs_ld_301, hgs_st_301, hgs_ld_D, hgs_st_D, hgs_ld_s, hgs_ld_T, hgs_st_T, hgs_ld_o, hgs_st_o, hgs_ld_b, hgs_st_b, hgs_ld_z, hgs_st_z, hgs_al_b, hgx_alen_s, hgWf_SI, hgWf_SJ, hgO_SI, hgO_SJ, hgAr_SI, hgAr_SJ, hgRp_SI, hgRp_SJ, hgN_SI, hgN_SJ, hgO_g, hgO_d, hgO_rl, hgO_r, hgO_0, hgO_1, hgO_64, hgO_298, hgO_300, hgCd_0, hgCd_1, hgCd_2, hgCd_3, hgCd_4, hgCd_5, hgRecv_O, hgRecv_99, List.length_cons, List.length_nil, Nat.zero_add, Nat.add_zero, Nat.le_refl, Nat.zero_le, and_self, or_true, true_or, true_and, and_true, ne_eq, not_false_eq_true, Nat.reduceLT, Nat.reduceLeDiff, Nat.reduceAdd, Nat.reduceEqDiff, hgn_eq, hgn_lt, hgn_le, if_true, if_false, reduceIte, Nat.not_lt_zero, hgn_add, hgn_mul, wo, j1, j2, e3, w3, e4, w4, hgAr_302 w4, t1]
    · have k2 := hgk_119b (X := X) hC hy
      have kc : hgWC X 113 [.ref 0, .int (nI r), .int y] M = some (.inr 2, M) := by
        simp (maxDischargeDepth := 7) only [hgc113, hgM_t, hgM_f, hgM_n, hgx_aload_n_0, hgx_iload_n_1, hgx_invvirtual_2, hgx_aft_e, hgx_aft_i, hgx_aft_l, hgx_aft_v, hgx_iload_n_2, hgs_get_7_5, hgs_get_7_3, hgs_get_1_7, hgx_invvirtual_3, hgx_get0, hgx_ret1, hgv113_0, hgr113_0, hgu113_0, hgI_SI, hgI_SJ, hgJ_SI, hgJ_SJ, if_true, if_false, reduceIte, Nat.reduceEqDiff, hgWf_SI, hgWf_SJ, hgO_SI, hgO_SJ, hgAr_SI, hgAr_SJ, hgRp_SI, hgRp_SJ, hgN_SI, hgN_SJ, hgO_g, hgO_d, hgO_rl, hgO_r, hgO_0, hgO_1, hgO_64, hgO_298, hgO_300, hgCd_0, hgCd_1, hgCd_2, hgCd_3, hgCd_4, hgCd_5, hgRecv_O, hgRecv_99, List.length_cons, List.length_nil, Nat.zero_add, Nat.add_zero, Nat.le_refl, Nat.zero_le, and_self, or_true, true_or, true_and, and_true, ne_eq, not_false_eq_true, Nat.reduceLT, Nat.reduceLeDiff, Nat.reduceAdd, Nat.reduceEqDiff, hgn_eq, hgn_lt, hgn_le, if_true, if_false, reduceIte, Nat.not_lt_zero, hw, k1, k2]
      refine hgBi_no hb hgn10 (hgL_226_2 hw kc) ⟨nI 0, ?_⟩ hC hR hH (by omega)
      have r2 := hgk_167b (X := X) h2 hgI_at hy
      simp (maxDischargeDepth := 7) only [hgc202, hgM_t, hgM_f, hgM_n, hgx_aload_n_0, hgx_iconst_0, hgx_put0, hgx_iload_n_1, hgx_invvirtual_2, hgx_aft_e, hgx_aft_i, hgx_aft_l, hgx_aft_v, hgx_if_ne, hgx_iload_n_2, hgx_if_eq, hgx_ret1, hgx_invvirtual_1, hgx_invvirtual_3, hgs_get_8_8, hgx_iconst_1, hgv202_0, hgr202_0, hgu202_0, hgv202_21, hgr202_21, hgu202_21, hgv202_23, hgr202_23, hgu202_23, hgWf_SI, hgWf_SJ, hgO_SI, hgO_SJ, hgAr_SI, hgAr_SJ, hgRp_SI, hgRp_SJ, hgN_SI, hgN_SJ, hgO_g, hgO_d, hgO_rl, hgO_r, hgO_0, hgO_1, hgO_64, hgO_298, hgO_300, hgCd_0, hgCd_1, hgCd_2, hgCd_3, hgCd_4, hgCd_5, hgRecv_O, hgRecv_99, List.length_cons, List.length_nil, Nat.zero_add, Nat.add_zero, Nat.le_refl, Nat.zero_le, and_self, or_true, true_or, true_and, and_true, ne_eq, not_false_eq_true, Nat.reduceLT, Nat.reduceLeDiff, Nat.reduceAdd, Nat.reduceEqDiff, hgn_eq, hgn_lt, hgn_le, if_true, if_false, reduceIte, Nat.not_lt_zero, hw, r1, r2]
  · have k1 := hgk_119b (X := X) hC hx
    have kc : hgWC X 113 [.ref 0, .int x, .int y] M = some (.inr 2, M) := by
      simp (maxDischargeDepth := 7) only [hgc113, hgM_t, hgM_f, hgM_n, hgx_aload_n_0, hgx_iload_n_1, hgx_invvirtual_2, hgx_aft_e, hgx_aft_i, hgx_aft_l, hgx_aft_v, hgx_iload_n_2, hgs_get_7_5, hgs_get_7_3, hgs_get_1_7, hgx_invvirtual_3, hgx_get0, hgx_ret1, hgv113_0, hgr113_0, hgu113_0, hgI_SI, hgI_SJ, hgJ_SI, hgJ_SJ, if_true, if_false, reduceIte, Nat.reduceEqDiff, hgWf_SI, hgWf_SJ, hgO_SI, hgO_SJ, hgAr_SI, hgAr_SJ, hgRp_SI, hgRp_SJ, hgN_SI, hgN_SJ, hgO_g, hgO_d, hgO_rl, hgO_r, hgO_0, hgO_1, hgO_64, hgO_298, hgO_300, hgCd_0, hgCd_1, hgCd_2, hgCd_3, hgCd_4, hgCd_5, hgRecv_O, hgRecv_99, List.length_cons, List.length_nil, Nat.zero_add, Nat.add_zero, Nat.le_refl, Nat.zero_le, and_self, or_true, true_or, true_and, and_true, ne_eq, not_false_eq_true, Nat.reduceLT, Nat.reduceLeDiff, Nat.reduceAdd, Nat.reduceEqDiff, hgn_eq, hgn_lt, hgn_le, if_true, if_false, reduceIte, Nat.not_lt_zero, hw, k1]
    refine hgBi_no hb hgn10 (hgL_226_2 hw kc) ⟨nI 0, ?_⟩ hC hR hH (by omega)
    have r1 := hgk_167b (X := X) h2 hgI_at hx
    simp (maxDischargeDepth := 7) only [hgc202, hgM_t, hgM_f, hgM_n, hgx_aload_n_0, hgx_iconst_0, hgx_put0, hgx_iload_n_1, hgx_invvirtual_2, hgx_aft_e, hgx_aft_i, hgx_aft_l, hgx_aft_v, hgx_if_ne, hgx_iload_n_2, hgx_if_eq, hgx_ret1, hgx_invvirtual_1, hgx_invvirtual_3, hgs_get_8_8, hgx_iconst_1, hgv202_0, hgr202_0, hgu202_0, hgv202_21, hgr202_21, hgu202_21, hgv202_23, hgr202_23, hgu202_23, hgWf_SI, hgWf_SJ, hgO_SI, hgO_SJ, hgAr_SI, hgAr_SJ, hgRp_SI, hgRp_SJ, hgN_SI, hgN_SJ, hgO_g, hgO_d, hgO_rl, hgO_r, hgO_0, hgO_1, hgO_64, hgO_298, hgO_300, hgCd_0, hgCd_1, hgCd_2, hgCd_3, hgCd_4, hgCd_5, hgRecv_O, hgRecv_99, List.length_cons, List.length_nil, Nat.zero_add, Nat.add_zero, Nat.le_refl, Nat.zero_le, and_self, or_true, true_or, true_and, and_true, ne_eq, not_false_eq_true, Nat.reduceLT, Nat.reduceLeDiff, Nat.reduceAdd, Nat.reduceEqDiff, hgn_eq, hgn_lt, hgn_le, if_true, if_false, reduceIte, Nat.not_lt_zero, hw, r1]
theorem hgOp_225 (h : hgInv M N) : hgBi X 225 [.ref 0, .int x, .ref 325] 201 [.ref 300, .int x] M N := by
  obtain ⟨V, Hs, c, hc, hC, hR, hH, hb⟩ := h
  obtain ⟨hw, g6, _, _, hn, hN⟩ := hgSC_6 hC
  have h2 : hgSM (hgSI M 300 0 (nI 0)) V Hs c := hgSM_0 hR
  by_cases hx : ∃ i, i < vR V ∧ x = nI i
  · obtain ⟨r, hr, rfl⟩ := hx
    have hp : vR V - 1 < vR V := by omega
    have k1 := hgk_119a (X := X) hC hr
    obtain ⟨M1, e1, h1, f1⟩ := hgk_32 (X := X) hC
    obtain ⟨w1, _, _, _, hn1, _⟩ := hgSC_6 h1
    obtain ⟨M2, e2, s2, w2, p2⟩ := hgk_51 (X := X) (g := 6) w1 g6 hn1 hN hr
    have e2' : hgWC X 51 [.ref 18, .int (nI r)] M1 = some (.inl .null, hgSI M2 18 1 (nI (vR V - 1))) := e2
    have o1 : hgO M1 18 5 := hgO_rl w1 g6
    have o2 : hgO M2 18 5 := hgO_rl w2 g6
    have kc : hgWC X 112 [.ref 0, .int (nI r)] M = some (.inl (.int (nI (vR V - 1))), hgSI M2 18 1 (nI (vR V - 1))) := by
      simp (maxDischargeDepth := 7) only [hgc112, hgM_t, hgM_f, hgM_n, hgx_aload_n_0, hgx_iload_n_1, hgx_invvirtual_2, hgx_aft_e, hgx_aft_i, hgx_aft_l, hgx_aft_v, hgs_get_7_5, hgs_get_7_3, hgs_get_1_7, hgx_get0, hgx_ret1, hgv112_0, hgr112_0, hgu112_0, hgI_SI, hgI_SJ, hgJ_SI, hgJ_SJ, if_true, if_false, reduceIte, Nat.reduceEqDiff, hgWf_SI, hgWf_SJ, hgO_SI, hgO_SJ, hgAr_SI, hgAr_SJ, hgRp_SI, hgRp_SJ, hgN_SI, hgN_SJ, hgO_g, hgO_d, hgO_rl, hgO_r, hgO_0, hgO_1, hgO_64, hgO_298, hgO_300, hgCd_0, hgCd_1, hgCd_2, hgCd_3, hgCd_4, hgCd_5, hgRecv_O, hgRecv_99, List.length_cons, List.length_nil, Nat.zero_add, Nat.add_zero, Nat.le_refl, Nat.zero_le, and_self, or_true, true_or, true_and, and_true, ne_eq, not_false_eq_true, Nat.reduceLT, Nat.reduceLeDiff, Nat.reduceAdd, Nat.reduceEqDiff, hgn_eq, hgn_lt, hgn_le, if_true, if_false, reduceIte, Nat.not_lt_zero, hw, g6, k1, e1, w1, o1, e2', w2, o2]
    have hm := hgSm_ok h1.2.2.2.2.1
    have v2 := hgCV_sh w1 hm hr hp s2 p2 h1.2.2.1
    have v3 : hgCV (hgSI M2 18 1 (nI (vR V - 1))) 6 (vRm (vSh V r (vR V - 1))) := hgCV_rm (V := vSh V r (vR V - 1)) w2 hm v2
    have hk2 := hgVok_rm (hgVok_sh hC.2.2.2.2.1 hr hp)
    have F2 : hgFm (fun b => b = 18 ∨ b = 19) M1 (hgSI M2 18 1 (nI (vR V - 1))) := hgFm_SI (hgFm_m (hgSo_f s2) (fun b hb => Or.inr hb)) (Or.inl rfl)
    have hC2 : hgSC (hgSI M2 18 1 (nI (vR V - 1))) (vRm (vSh V r (vR V - 1))) ((V :: Hs).take 8) c := hgSC_cur h1 F2 (fun b hb => by omega) w2 v3 hk2
    have fC : hgFC M (hgSI M2 18 1 (nI (vR V - 1))) := hgFC_t (hgFC_32 f1) (hgFC_m F2 (fun b hb => by omega))
    refine hgBi_ok hb (hgL_225 hw (show hgWf (hgSI M2 18 1 (nI (vR V - 1))) from w2) kc) hC2 fC ?_ (hgHi_sub hH (hgSub_e rfl rfl) (hgHi_3 hH).2.2) (by omega)
    have hR1 : hgSM (hgSJ (hgSI M2 18 1 (nI (vR V - 1))) 325 0 (nI (vR V - 1)).toInt64) V Hs c := hgSM_o (hgSM_C fC w2 hR)
    obtain ⟨Mo, hMo⟩ : ∃ Mo, Mo = hgSJ (hgSI M2 18 1 (nI (vR V - 1))) 325 0 (nI (vR V - 1)).toInt64 := ⟨_, rfl⟩
    rw [← hMo] at hR1 ⊢
    have h3 : hgSM (hgSI Mo 300 0 (nI 0)) V Hs c := hgSM_0 hR1
    have wo := hR1.1
    have j1 := hgk_167a (X := X) h3 hgI_at ⟨r, hr, rfl⟩
    obtain ⟨M3, e3, h4, f4, w3, o3⟩ := hgSM_rem (X := X) h3 hgI_at
    have hm4 := hgSm_ok h4.2.2.2.1
    have t0 : hgI M3 302 1 = nI (vR V) := h4.2.1.2.2.2.2.1
    obtain ⟨M4, e4, w4, v4, f5⟩ := hgRV_200 (X := X) w3 hm4 hr hp h4.2.1
    have t1 : hgI M4 302 1 = nI (vR V) := v4.2.2.2.2.1
    have v5 := hgRV_rm (V := vSh V r (vR V - 1)) hm4 v4
    have n1 : 1 ≤ vR V := by omega
    refine ⟨hgSI M4 302 1 (nI (vR V - 1)), ?_, hgSM_cur (P := fun b => b = 302) h4 (hgFm_SI f5 rfl) (fun b hb => Or.inl hb) w4 v5 hk2, hgFR_t (hgFR_t (hgFR_t hgFR_0 f4) (hgFR_m f5 (fun b hb => by omega))) hgFR_302, by rw [hgI_na (by omega), (f5.2 300 (by omega) 0).1]; exact o3⟩
    simp (maxDischargeDepth := 7) only [hgc201, hgM_t, hgM_f, hgM_n, hgx_aload_n_0, hgx_iconst_0, hgx_put0, hgx_iload_n_1, hgx_invvirtual_2, hgx_aft_e, hgx_aft_i, hgx_aft_l, hgx_aft_v, hgx_if_eq, hgx_ret1, hgx_invvirtual_1, hgs_get_8_8, hgx_iconst_1, hgx_isub, hgx_invvirtual_3, hgx_dup2, hgv201_0, hgr201_0, hgu201_0, hgv201_15, hgr201_15, hgu201_15, hgs_aa_d, hgs_aa_r, hgs_aa_h, hgs_aa_m, hgs_aa_t, hgs_ld_wp, hgs_st_wp, hgs_ld_qf, hgs_st_qf, hgs_ld_qt, hgs_st_qt, hgs_ld_2, hgs_st_2, hgs_ld_3, hgs_st_3, hgs_ld_4, hgs_st_4, hgs_ld_301, hgs_st_301, hgs_ld_D, hgs_st_D, hgs_ld_s, hgs_ld_T, hgs_st_T, hgs_ld_o, hgs_st_o, hgs_ld_b, hgs_st_b, hgs_ld_z, hgs_st_z, hgs_al_b, hgx_alen_s, hgWf_SI, hgWf_SJ, hgO_SI, hgO_SJ, hgAr_SI, hgAr_SJ, hgRp_SI, hgRp_SJ, hgN_SI, hgN_SJ, hgO_g, hgO_d, hgO_rl, hgO_r, hgO_0, hgO_1, hgO_64, hgO_298, hgO_300, hgCd_0, hgCd_1, hgCd_2, hgCd_3, hgCd_4, hgCd_5, hgRecv_O, hgRecv_99, List.length_cons, List.length_nil, Nat.zero_add, Nat.add_zero, Nat.le_refl, Nat.zero_le, and_self, or_true, true_or, true_and, and_true, ne_eq, not_false_eq_true, Nat.reduceLT, Nat.reduceLeDiff, Nat.reduceAdd, Nat.reduceEqDiff, hgn_eq, hgn_lt, hgn_le, if_true, if_false, reduceIte, Nat.not_lt_zero, hgn_add, hgn_mul, wo, j1, e3, w3, hgAr_302 w3, t0, hgn_sub, n1, e4, w4, hgAr_302 w4, t1, hgI_at]
  · have k1 := hgk_119b (X := X) hC hx
    have kc : hgWC X 112 [.ref 0, .int x] M = some (.inr 2, M) := by
      simp (maxDischargeDepth := 7) only [hgc112, hgM_t, hgM_f, hgM_n, hgx_aload_n_0, hgx_iload_n_1, hgx_invvirtual_2, hgx_aft_e, hgx_aft_i, hgx_aft_l, hgx_aft_v, hgs_get_7_5, hgs_get_7_3, hgs_get_1_7, hgx_get0, hgx_ret1, hgv112_0, hgr112_0, hgu112_0, hgI_SI, hgI_SJ, hgJ_SI, hgJ_SJ, if_true, if_false, reduceIte, Nat.reduceEqDiff, hgWf_SI, hgWf_SJ, hgO_SI, hgO_SJ, hgAr_SI, hgAr_SJ, hgRp_SI, hgRp_SJ, hgN_SI, hgN_SJ, hgO_g, hgO_d, hgO_rl, hgO_r, hgO_0, hgO_1, hgO_64, hgO_298, hgO_300, hgCd_0, hgCd_1, hgCd_2, hgCd_3, hgCd_4, hgCd_5, hgRecv_O, hgRecv_99, List.length_cons, List.length_nil, Nat.zero_add, Nat.add_zero, Nat.le_refl, Nat.zero_le, and_self, or_true, true_or, true_and, and_true, ne_eq, not_false_eq_true, Nat.reduceLT, Nat.reduceLeDiff, Nat.reduceAdd, Nat.reduceEqDiff, hgn_eq, hgn_lt, hgn_le, if_true, if_false, reduceIte, Nat.not_lt_zero, hw, k1]
    refine hgBi_no hb hgn10 (hgL_225_2 hw kc) ⟨nI 0, ?_⟩ hC hR hH (by omega)
    have r1 := hgk_167b (X := X) h2 hgI_at hx
    simp (maxDischargeDepth := 7) only [hgc201, hgM_t, hgM_f, hgM_n, hgx_aload_n_0, hgx_iconst_0, hgx_put0, hgx_iload_n_1, hgx_invvirtual_2, hgx_aft_e, hgx_aft_i, hgx_aft_l, hgx_aft_v, hgx_if_eq, hgx_ret1, hgx_invvirtual_1, hgs_get_8_8, hgx_iconst_1, hgx_isub, hgx_invvirtual_3, hgx_dup2, hgv201_0, hgr201_0, hgu201_0, hgv201_15, hgr201_15, hgu201_15, hgWf_SI, hgWf_SJ, hgO_SI, hgO_SJ, hgAr_SI, hgAr_SJ, hgRp_SI, hgRp_SJ, hgN_SI, hgN_SJ, hgO_g, hgO_d, hgO_rl, hgO_r, hgO_0, hgO_1, hgO_64, hgO_298, hgO_300, hgCd_0, hgCd_1, hgCd_2, hgCd_3, hgCd_4, hgCd_5, hgRecv_O, hgRecv_99, List.length_cons, List.length_nil, Nat.zero_add, Nat.add_zero, Nat.le_refl, Nat.zero_le, and_self, or_true, true_or, true_and, and_true, ne_eq, not_false_eq_true, Nat.reduceLT, Nat.reduceLeDiff, Nat.reduceAdd, Nat.reduceEqDiff, hgn_eq, hgn_lt, hgn_le, if_true, if_false, reduceIte, Nat.not_lt_zero, hw, r1]
end HGMVR

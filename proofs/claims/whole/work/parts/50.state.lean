/-! THE STATE of both sides: the picture, the pictures before, newest first, and how many packets were ever put. -/
def hgV0 : hgV := ((0, 0, 0), (fun _ => nI 0), (fun _ _ => nI 0), (fun _ => 0), (fun _ => []), (fun _ _ => nI 0), (fun _ => nI 0), (fun _ _ => nI 0), (fun _ => []))
def hgSC (M : hgMem) (V : hgV) (Hs : List hgV) (c : Nat) : Prop := hgWf M ∧ hgI M 1 3 = nI c ∧ hgCV M 6 V ∧ Hs.length ≤ 8 ∧ hgVok V c ∧ (∀ W ∈ Hs, hgVok W c) ∧ ∃ nx, nx < 8 ∧ hgI M 64 1 = nI nx ∧ hgI M 64 2 = nI Hs.length ∧ ∀ k, k < Hs.length → hgCV M (66 + 29 * ((nx + 7 - k) % 8)) (Hs.getD k hgV0)
def hgSM (M : hgMem) (V : hgV) (Hs : List hgV) (c : Nat) : Prop := hgWf M ∧ hgRV M 302 314 V ∧ Hs.length ≤ 8 ∧ hgVok V c ∧ (∀ W ∈ Hs, hgVok W c) ∧ hgI M 300 15 = nI Hs.length ∧ ∀ j, j < Hs.length → hgRV M (306 + j) (317 + j) (Hs.getD (Hs.length - 1 - j) hgV0)
section HGSTA
variable {X : hgX} {M M' : hgMem} {d t g h i j q c k a b n p : Nat} {V V' W : hgV} {Hs : List hgV} {x y : Int32} {u : Int64} {P : Nat → Prop}
theorem hgCV_fm (hw : hgWf M) (hm : hgSm V) (f : hgFm P M M') (hP : ∀ b, P b → 6 ≤ b ∧ (b < g ∨ g + 29 ≤ b)) (h : hgCV M g V) : hgCV M' g V := by
  have hg := hgGw_le h.1
  have o : ∀ b, b < 6 ∨ (g ≤ b ∧ b < g + 29) → ¬ P b := fun b hb z => by have := hP b z; omega
  exact hgCV_to hw hm (fun a k h1 h2 => (f.2 a (o a (Or.inr ⟨h1, h2⟩)) k).1) (fun a h1 h2 => (f.2 a (o a (Or.inr ⟨h1, h2⟩)) 7).2.1) (fun k => (f.2 (g + 13) (o _ (Or.inr ⟨by omega, by omega⟩)) k).2.2) (fun i _ p _ => (f.2 4 (o _ (Or.inl (by omega))) p).1) (fun i _ p _ => ⟨(f.2 2 (o _ (Or.inl (by omega))) p).1, (f.2 3 (o _ (Or.inl (by omega))) p).1⟩) h
theorem hgGw_s (h : k < 8) : hgGw (66 + 29 * k) := Or.inr (Or.inr ⟨by omega, by omega, by omega⟩)
theorem hgGd_mem : ∀ {Hs : List hgV} {k : Nat}, k < Hs.length → Hs.getD k hgV0 ∈ Hs
  | a :: Hs, 0, _ => List.mem_cons_self
  | a :: Hs, k + 1, h => by
    rw [List.getD_cons_succ]
    exact List.mem_cons_of_mem _ (hgGd_mem (by simpa using h))
theorem hgGd_take {Hs : List hgV} {k n : Nat} (h : k < n) : (Hs.take n).getD k hgV0 = Hs.getD k hgV0 := by
  rw [List.getD_eq_getElem?_getD, List.getD_eq_getElem?_getD, List.getElem?_take, if_pos h]
/-- the component's state lies below 300 and outside the draft -/
theorem hgSC_fm (f : hgFm P M M') (hw : hgWf M') (hP : ∀ b, P b → (35 ≤ b ∧ b < 64) ∨ 298 ≤ b ∨ b = 0 ∨ b = 5) (h : hgSC M V Hs c) : hgSC M' V Hs c := by
  obtain ⟨a1, a2, a3, a4, a5, a6, nx, n1, n2, n3, n4⟩ := h
  have o : ∀ b, b ≠ 0 → b ≠ 5 → b < 298 → (b < 35 ∨ 64 ≤ b) → ∀ k, hgI M' b k = hgI M b k := fun b h1 h2 h3 h4 k => (f.2 b (fun z => by have := hP b z; omega) k).1
  have cv : ∀ g W, hgGw g → g ≠ 35 → hgVok W c → hgCV M g W → hgCV M' g W := fun g W hg h35 hk h => by
    have hg2 := hgGw_le hg
    have hg3 := hg
    unfold hgGw at hg3
    exact hgCV_to a1 (hgSm_ok hk) (fun a k h1 h2 => o a (by omega) (by omega) (by omega) (by omega) k) (fun a h1 h2 => (f.2 a (fun z => by have := hP a z; omega) 7).2.1) (fun k => (f.2 (g + 13) (fun z => by have := hP _ z; omega) k).2.2) (fun i _ p _ => o 4 (by omega) (by omega) (by omega) (by omega) p) (fun i _ p _ => ⟨o 2 (by omega) (by omega) (by omega) (by omega) p, o 3 (by omega) (by omega) (by omega) (by omega) p⟩) h
  refine ⟨hw, by rw [o 1 (by omega) (by omega) (by omega) (by omega)]; exact a2, cv 6 V (Or.inl rfl) (by omega) a5 a3, a4, a5, a6, nx, n1, by rw [o 64 (by omega) (by omega) (by omega) (by omega)]; exact n2, by rw [o 64 (by omega) (by omega) (by omega) (by omega)]; exact n3, fun k hk => cv _ _ (hgGw_s (by omega)) (by omega) (a6 _ (hgGd_mem hk)) (n4 k hk)⟩
/-- the reference's state lies from 300 on -/
theorem hgSM_fm (f : hgFm P M M') (hw : hgWf M') (hP : ∀ b, P b → b < 300 ∨ b = 301 ∨ b = 303 ∨ b = 304 ∨ b = 315 ∨ b = 325) (h : hgSM M V Hs c) : hgSM M' V Hs c := by
  obtain ⟨a1, a2, a3, a4, a5, a6, a7⟩ := h
  have o : ∀ b, 302 ≤ b → b < 325 → b ≠ 303 → b ≠ 304 → b ≠ 315 → ¬ P b := fun b h1 h2 h3 h4 h5 z => by have := hP b z; omega
  have o3 : ¬ P 300 := fun z => by have := hP _ z; omega
  refine ⟨hw, hgRV_to f.1 (fun k => (f.2 _ (o _ (by omega) (by omega) (by omega) (by omega) (by omega)) k).1) (fun k => (f.2 _ (o _ (by omega) (by omega) (by omega) (by omega) (by omega)) k).2.1) a2, a3, a4, a5, by rw [(f.2 300 o3 15).1]; exact a6, fun j hj => hgRV_to f.1 (fun k => (f.2 _ (o _ (by omega) (by omega) (by omega) (by omega) (by omega)) k).1) (fun k => (f.2 _ (o _ (by omega) (by omega) (by omega) (by omega) (by omega)) k).2.1) (a7 j hj)⟩
/-- a field of the reference that the state doesn't hold -/
theorem hgSM_300 (hk : k ≠ 15) (h : hgSM M V Hs c) : hgSM (hgSI M 300 k x) V Hs c := by
  obtain ⟨a1, a2, a3, a4, a5, a6, a7⟩ := h
  exact ⟨a1, hgRV_to (M := M) rfl (fun k => hgI_na (by omega)) (fun k => rfl) a2, a3, a4, a5, by rw [hgI_nk (by omega)]; exact a6, fun j hj => hgRV_to (M := M) rfl (fun k => hgI_na (by omega)) (fun k => rfl) (a7 j hj)⟩
/-- the component remembers -/
theorem hgk_32 (h : hgSC M V Hs c) : ∃ M', hgWC X 32 [.ref 64, .ref 6] M = some (.inl .null, M') ∧ hgSC M' V ((V :: Hs).take 8) c ∧ hgFm (fun b => 64 ≤ b ∧ b < 298) M M' := by
  obtain ⟨a1, a2, a3, a4, a5, a6, nx, n1, n2, n3, n4⟩ := h
  obtain ⟨M1, e1, f1, v1⟩ := hgk_9 (X := X) a1 (hgGw_s n1) (show 66 + 29 * nx ≠ 6 by omega) a5 a3
  have w1 := hgFn_w f1 a1
  have og := hgGw_s n1
  have s1 : hgI M1 64 1 = nI nx := by rw [(f1.2.2 64 (by omega) 1).1]; exact n2
  have s2 : hgI M1 64 2 = nI Hs.length := by rw [(f1.2.2 64 (by omega) 2).1]; exact n3
  obtain ⟨nx', hnx⟩ : ∃ nx', nx' = if nx + 1 < 8 then nx + 1 else 0 := ⟨_, rfl⟩
  have b1 : nx < 2147483648 := by omega
  have b2 : nx + 1 < 2147483648 := by omega
  have b3 : Hs.length + 1 < 2147483648 := by omega
  have b4 : ¬ nx < 0 := by omega
  have F2 : hgFn (fun b => b = 64) M1 (hgSI (hgSI M1 64 1 (nI nx')) 64 2 (nI (min (Hs.length + 1) 8))) := hgFn_SI (hgFn_SI hgFn_r rfl) rfl
  have lt : ((V :: Hs).take 8).length = min (Hs.length + 1) 8 := by rw [List.length_take, List.length_cons, Nat.min_comm]
  have cv : ∀ g W, hgGw g → hgVok W c → hgCV M1 g W → hgCV (hgSI (hgSI M1 64 1 (nI nx')) 64 2 (nI (min (Hs.length + 1) 8))) g W := fun g W hg hk hv => hgCV_fm w1 (hgSm_ok hk) (hgFn_f F2) (fun b hb => by unfold hgGw at hg; omega) hv
  refine ⟨hgSI (hgSI M1 64 1 (nI nx')) 64 2 (nI (min (Hs.length + 1) 8)), ?_, ⟨w1, ?_, ?_, by rw [lt]; omega, a5, ?_, nx', by rw [hnx]; split <;> omega, ?_, ?_, fun k hk => ?_⟩, hgFm_t (hgFm_m (hgFn_f f1) (fun b hb => ⟨by omega, by omega⟩)) (hgFm_m (hgFn_f F2) (fun b hb => ⟨by omega, by omega⟩))⟩
  · have eM : (if nI 8 < nI (Hs.length + 1) then nI 8 else nI (Hs.length + 1)) = nI (min (Hs.length + 1) 8) := by
      by_cases q : 8 < Hs.length + 1
      · rw [if_pos (by rw [hgn_lt (by omega) (by omega)]; exact q)]; congr 1; omega
      · rw [if_neg (by rw [hgn_lt (by omega) (by omega)]; exact q)]; congr 1; omega
    by_cases hl : nx + 1 < 8
    · have hl2 : ¬ 8 ≤ nx + 1 := by omega
      rw [if_pos hl] at hnx
      simp (maxDischargeDepth := 7) only [hgc32, hgM_t, hgM_f, hgM_n, hgx_aload_n_0, hgx_get0, hgx_if_lt, hgx_bipush_8, hgx_ic_lt, hgx_vret, hgs_get_2_0, hgx_aload_n_1, hgx_invvirtual_2, hgx_aft_e, hgx_aft_i, hgx_aft_l, hgx_aft_v, hgx_iconst_1, hgx_iadd, hgx_ic_ge, hgx_goto, hgx_iconst_0, hgx_put0, hgx_min, hgv32_0, hgr32_0, hgu32_0, hgv32_16, hgr32_16, hgu32_16, hgv32_17, hgr32_17, hgu32_17, hgv32_51, hgr32_51, hgu32_51, hgv32_52, hgr32_52, hgu32_52, hgI_SI, hgI_SJ, hgJ_SI, hgJ_SJ, if_true, if_false, reduceIte, Nat.reduceEqDiff, hgWf_SI, hgWf_SJ, hgO_SI, hgO_SJ, hgAr_SI, hgAr_SJ, hgRp_SI, hgRp_SJ, hgN_SI, hgN_SJ, hgO_g, hgO_d, hgO_rl, hgO_r, hgO_0, hgO_1, hgO_64, hgO_298, hgO_300, hgCd_0, hgCd_1, hgCd_2, hgCd_3, hgCd_4, hgCd_5, hgRecv_O, hgRecv_99, List.length_cons, List.length_nil, Nat.zero_add, Nat.add_zero, Nat.le_refl, Nat.zero_le, and_self, or_true, true_or, true_and, and_true, ne_eq, not_false_eq_true, Nat.reduceLT, Nat.reduceLeDiff, Nat.reduceAdd, Nat.reduceEqDiff, hgn_eq, hgn_lt, hgn_le, if_true, if_false, reduceIte, Nat.not_lt_zero, hgs_aa_d, hgs_aa_r, hgs_aa_h, hgs_aa_m, hgs_aa_t, hgs_ld_wp, hgs_st_wp, hgs_ld_qf, hgs_st_qf, hgs_ld_qt, hgs_st_qt, hgs_ld_2, hgs_st_2, hgs_ld_3, hgs_st_3, hgs_ld_4, hgs_st_4, hgs_ld_301, hgs_st_301, hgs_ld_D, hgs_st_D, hgs_ld_s, hgs_ld_T, hgs_st_T, hgs_ld_o, hgs_st_o, hgs_ld_b, hgs_st_b, hgs_ld_z, hgs_st_z, hgs_al_b, hgx_alen_s, hgn_add, hgn_mul, a1, n2, n1, og, b1, e1, w1, s1, s2, b2, hl2]
      rw [eM, hnx]
    · have hl2 : 8 ≤ nx + 1 := by omega
      rw [if_neg hl] at hnx
      simp (maxDischargeDepth := 7) only [hgc32, hgM_t, hgM_f, hgM_n, hgx_aload_n_0, hgx_get0, hgx_if_lt, hgx_bipush_8, hgx_ic_lt, hgx_vret, hgs_get_2_0, hgx_aload_n_1, hgx_invvirtual_2, hgx_aft_e, hgx_aft_i, hgx_aft_l, hgx_aft_v, hgx_iconst_1, hgx_iadd, hgx_ic_ge, hgx_goto, hgx_iconst_0, hgx_put0, hgx_min, hgv32_0, hgr32_0, hgu32_0, hgv32_16, hgr32_16, hgu32_16, hgv32_17, hgr32_17, hgu32_17, hgv32_51, hgr32_51, hgu32_51, hgv32_52, hgr32_52, hgu32_52, hgI_SI, hgI_SJ, hgJ_SI, hgJ_SJ, if_true, if_false, reduceIte, Nat.reduceEqDiff, hgWf_SI, hgWf_SJ, hgO_SI, hgO_SJ, hgAr_SI, hgAr_SJ, hgRp_SI, hgRp_SJ, hgN_SI, hgN_SJ, hgO_g, hgO_d, hgO_rl, hgO_r, hgO_0, hgO_1, hgO_64, hgO_298, hgO_300, hgCd_0, hgCd_1, hgCd_2, hgCd_3, hgCd_4, hgCd_5, hgRecv_O, hgRecv_99, List.length_cons, List.length_nil, Nat.zero_add, Nat.add_zero, Nat.le_refl, Nat.zero_le, and_self, or_true, true_or, true_and, and_true, ne_eq, not_false_eq_true, Nat.reduceLT, Nat.reduceLeDiff, Nat.reduceAdd, Nat.reduceEqDiff, hgn_eq, hgn_lt, hgn_le, if_true, if_false, reduceIte, Nat.not_lt_zero, hgs_aa_d, hgs_aa_r, hgs_aa_h, hgs_aa_m, hgs_aa_t, hgs_ld_wp, hgs_st_wp, hgs_ld_qf, hgs_st_qf, hgs_ld_qt, hgs_st_qt, hgs_ld_2, hgs_st_2, hgs_ld_3, hgs_st_3, hgs_ld_4, hgs_st_4, hgs_ld_301, hgs_st_301, hgs_ld_D, hgs_st_D, hgs_ld_s, hgs_ld_T, hgs_st_T, hgs_ld_o, hgs_st_o, hgs_ld_b, hgs_st_b, hgs_ld_z, hgs_st_z, hgs_al_b, hgx_alen_s, hgn_add, hgn_mul, a1, n2, n1, og, b1, e1, w1, s1, s2, b2, hl2]
      rw [eM, hnx]
  · rw [(F2.2.2 1 (by omega) 3).1, (f1.2.2 1 (by omega) 3).1]; exact a2
  · refine cv 6 V (Or.inl rfl) a5 (hgCV_fm a1 (hgSm_ok a5) (hgFn_f f1) (fun b hb => by omega) a3)
  · intro W hW
    have := List.mem_of_mem_take hW
    rcases List.mem_cons.mp this with e | e
    · rw [e]; exact a5
    · exact a6 W e
  · rw [hgI_nk (by omega), hgI_at]
  · rw [hgI_at, lt]
  · rw [lt] at hk
    rw [hgGd_take (by omega)]
    cases k with
    | zero =>
      rw [List.getD_cons_zero]
      have : (nx' + 7 - 0) % 8 = nx := by rw [hnx]; split <;> omega
      rw [this]
      exact cv _ _ (hgGw_s n1) a5 v1
    | succ k =>
      rw [List.getD_cons_succ]
      have e : (nx' + 7 - (k + 1)) % 8 = (nx + 7 - k) % 8 := by rw [hnx]; split <;> omega
      rw [e]
      have hkl : k < Hs.length := by omega
      have hk6 := a6 _ (hgGd_mem hkl)
      have ne : (nx + 7 - k) % 8 ≠ nx := by omega
      have lt8 : (nx + 7 - k) % 8 < 8 := by omega
      refine cv _ _ (hgGw_s lt8) hk6 (hgCV_fm a1 (hgSm_ok hk6) (hgFn_f f1) (fun b hb => by omega) (n4 k hkl))
/-- the component brings back -/
theorem hgk_33 (h : hgSC M V (W :: Hs) c) : ∃ M', hgWC X 33 [.ref 64, .ref 6] M = some (.inl .null, M') ∧ hgSC M' W Hs c ∧ hgFm (fun b => 6 ≤ b ∧ b < 65) M M' := by
  obtain ⟨a1, a2, a3, a4, a5, a6, nx, n1, n2, n3, n4⟩ := h
  rw [List.length_cons] at a4 n3 n4
  have hW := a6 W List.mem_cons_self
  have v0 := n4 0 (by omega)
  rw [List.getD_cons_zero] at v0
  obtain ⟨la, hla⟩ : ∃ la, la = (nx + 7 - 0) % 8 := ⟨_, rfl⟩
  rw [← hla] at v0
  have la8 : la < 8 := by omega
  obtain ⟨M1, e1, f1, v1⟩ := hgk_9 (X := X) a1 (Or.inl rfl) (show 6 ≠ 66 + 29 * la by omega) hW v0
  have w1 := hgFn_w f1 a1
  have g6 : hgGw 6 := Or.inl rfl
  have s2 : hgI M1 64 2 = nI (Hs.length + 1) := by rw [(f1.2.2 64 (by omega) 2).1]; exact n3
  have b1 : nx < 2147483648 := by omega
  have b3 : Hs.length + 1 < 2147483648 := by omega
  have b4 : ¬ Hs.length + 1 ≤ 0 := by omega
  have b5 : la < 2147483648 := by omega
  have F2 : hgFn (fun b => b = 64) M1 (hgSI (hgSI M1 64 1 (nI la)) 64 2 (nI Hs.length)) := hgFn_SI (hgFn_SI hgFn_r rfl) rfl
  have cv : ∀ g W, hgGw g → hgVok W c → hgCV M1 g W → hgCV (hgSI (hgSI M1 64 1 (nI la)) 64 2 (nI Hs.length)) g W := fun g W hg hk hv => hgCV_fm w1 (hgSm_ok hk) (hgFn_f F2) (fun b hb => by unfold hgGw at hg; omega) hv
  refine ⟨hgSI (hgSI M1 64 1 (nI la)) 64 2 (nI Hs.length), ?_, ⟨w1, ?_, ?_, by omega, hW, fun U hU => a6 U (List.mem_cons_of_mem _ hU), la, la8, ?_, ?_, fun k hk => ?_⟩, hgFm_t (hgFm_m (hgFn_f f1) (fun b hb => ⟨by omega, by omega⟩)) (hgFm_m (hgFn_f F2) (fun b hb => ⟨by omega, by omega⟩))⟩
  · by_cases hz : nx ≤ 0
    · have e7 : la = 7 := by omega
      rw [e7] at e1
      rw [e7]
      rw [show 66 + 29 * 7 = 269 from rfl] at e1
      simp (maxDischargeDepth := 7) only [hgc33, hgM_t, hgM_f, hgM_n, hgx_aload_n_0, hgx_get0, hgx_if_le, hgx_iconst_1, hgx_isub, hgx_goto, hgx_bipush_7, hgx_istore_n_2i, hgx_istore_n_2r, hgx_istore_n_2f, hgx_istore_n_2n, hgx_istore_n_2l, hgx_iload_n_2, hgx_bipush_8, hgx_ic_lt, hgx_vret, hgx_aload_n_1, hgs_get_2_0, hgx_invvirtual_2, hgx_aft_e, hgx_aft_i, hgx_aft_l, hgx_aft_v, hgx_put0, hgx_dup_i, hgx_dup_f, hgx_dup_r, hgv33_0, hgr33_0, hgu33_0, hgv33_16, hgr33_16, hgu33_16, hgv33_18, hgr33_18, hgu33_18, hgv33_32, hgr33_32, hgu33_32, hgv33_33, hgr33_33, hgu33_33, hgI_SI, hgI_SJ, hgJ_SI, hgJ_SJ, if_true, if_false, reduceIte, Nat.reduceEqDiff, hgWf_SI, hgWf_SJ, hgO_SI, hgO_SJ, hgAr_SI, hgAr_SJ, hgRp_SI, hgRp_SJ, hgN_SI, hgN_SJ, hgO_g, hgO_d, hgO_rl, hgO_r, hgO_0, hgO_1, hgO_64, hgO_298, hgO_300, hgCd_0, hgCd_1, hgCd_2, hgCd_3, hgCd_4, hgCd_5, hgRecv_O, hgRecv_99, List.length_cons, List.length_nil, Nat.zero_add, Nat.add_zero, Nat.le_refl, Nat.zero_le, and_self, or_true, true_or, true_and, and_true, ne_eq, not_false_eq_true, Nat.reduceLT, Nat.reduceLeDiff, Nat.reduceAdd, Nat.reduceEqDiff, hgn_eq, hgn_lt, hgn_le, if_true, if_false, reduceIte, Nat.not_lt_zero, hgs_aa_d, hgs_aa_r, hgs_aa_h, hgs_aa_m, hgs_aa_t, hgs_ld_wp, hgs_st_wp, hgs_ld_qf, hgs_st_qf, hgs_ld_qt, hgs_st_qt, hgs_ld_2, hgs_st_2, hgs_ld_3, hgs_st_3, hgs_ld_4, hgs_st_4, hgs_ld_301, hgs_st_301, hgs_ld_D, hgs_st_D, hgs_ld_s, hgs_ld_T, hgs_st_T, hgs_ld_o, hgs_st_o, hgs_ld_b, hgs_st_b, hgs_ld_z, hgs_st_z, hgs_al_b, hgx_alen_s, hgn_add, hgn_mul, Nat.reduceMul, a1, g6, n2, b1, hz, n3, b3, b4, e1, w1, s2, hgn_sub, Nat.le_add_left, Nat.add_sub_cancel]
    · have e7 : nx - 1 = la := by omega
      have b6 : 1 ≤ nx := by omega
      have b7 : ¬ 8 ≤ la := by omega
      simp (maxDischargeDepth := 7) only [hgc33, hgM_t, hgM_f, hgM_n, hgx_aload_n_0, hgx_get0, hgx_if_le, hgx_iconst_1, hgx_isub, hgx_goto, hgx_bipush_7, hgx_istore_n_2i, hgx_istore_n_2r, hgx_istore_n_2f, hgx_istore_n_2n, hgx_istore_n_2l, hgx_iload_n_2, hgx_bipush_8, hgx_ic_lt, hgx_vret, hgx_aload_n_1, hgs_get_2_0, hgx_invvirtual_2, hgx_aft_e, hgx_aft_i, hgx_aft_l, hgx_aft_v, hgx_put0, hgx_dup_i, hgx_dup_f, hgx_dup_r, hgv33_0, hgr33_0, hgu33_0, hgv33_16, hgr33_16, hgu33_16, hgv33_18, hgr33_18, hgu33_18, hgv33_32, hgr33_32, hgu33_32, hgv33_33, hgr33_33, hgu33_33, hgI_SI, hgI_SJ, hgJ_SI, hgJ_SJ, if_true, if_false, reduceIte, Nat.reduceEqDiff, hgWf_SI, hgWf_SJ, hgO_SI, hgO_SJ, hgAr_SI, hgAr_SJ, hgRp_SI, hgRp_SJ, hgN_SI, hgN_SJ, hgO_g, hgO_d, hgO_rl, hgO_r, hgO_0, hgO_1, hgO_64, hgO_298, hgO_300, hgCd_0, hgCd_1, hgCd_2, hgCd_3, hgCd_4, hgCd_5, hgRecv_O, hgRecv_99, List.length_cons, List.length_nil, Nat.zero_add, Nat.add_zero, Nat.le_refl, Nat.zero_le, and_self, or_true, true_or, true_and, and_true, ne_eq, not_false_eq_true, Nat.reduceLT, Nat.reduceLeDiff, Nat.reduceAdd, Nat.reduceEqDiff, hgn_eq, hgn_lt, hgn_le, if_true, if_false, reduceIte, Nat.not_lt_zero, hgs_aa_d, hgs_aa_r, hgs_aa_h, hgs_aa_m, hgs_aa_t, hgs_ld_wp, hgs_st_wp, hgs_ld_qf, hgs_st_qf, hgs_ld_qt, hgs_st_qt, hgs_ld_2, hgs_st_2, hgs_ld_3, hgs_st_3, hgs_ld_4, hgs_st_4, hgs_ld_301, hgs_st_301, hgs_ld_D, hgs_st_D, hgs_ld_s, hgs_ld_T, hgs_st_T, hgs_ld_o, hgs_st_o, hgs_ld_b, hgs_st_b, hgs_ld_z, hgs_st_z, hgs_al_b, hgx_alen_s, hgn_add, hgn_mul, a1, g6, n2, b1, hz, n3, b3, b4, hgn_sub, b6, e7, la8, b5, e1, w1, s2, Nat.le_add_left, Nat.add_sub_cancel]
  · rw [(F2.2.2 1 (by omega) 3).1, (f1.2.2 1 (by omega) 3).1]; exact a2
  · exact cv 6 W (Or.inl rfl) hW v1
  · rw [hgI_nk (by omega), hgI_at]
  · rw [hgI_at]
  · have hk6 := a6 _ (List.mem_cons_of_mem W (hgGd_mem hk))
    have v := n4 (k + 1) (by omega)
    rw [List.getD_cons_succ] at v
    have e : (nx + 7 - (k + 1)) % 8 = (la + 7 - k) % 8 := by omega
    rw [e] at v
    have lt8 : (la + 7 - k) % 8 < 8 := by omega
    exact cv _ _ (hgGw_s lt8) hk6 (hgCV_fm a1 (hgSm_ok hk6) (hgFn_f f1) (fun b hb => by omega) v)
end HGSTA

/-! WHO IS SERVED: both sides, by the picture. -/
def vG (V : hgV) (i : Nat) : Nat := (vD V i 0).toNatClampNeg
def vCan (V : hgV) (i : Nat) : Bool := decide (0 < (vQ V i).length) && decide (vD V i 4 = nI 0) && !vQuiet V (vG V i)
def vBest (V : hgV) : Option Nat := hgBest (vCan V) (vT V) none 0 (vN V)
theorem hgBest_cg {f f' : Nat → Bool} {t t' : Nat → Int64} {n : Nat} : ∀ (k i : Nat) (b : Option Nat), i + k = n → (∀ j, j < n → f j = f' j ∧ t j = t' j) → (∀ c, b = some c → c < n) → hgBest f t b i k = hgBest f' t' b i k
  | 0, i, b, _, h, hb => rfl
  | k + 1, i, b, hi, h, hb => by
    unfold hgBest
    have e : (if f i = true ∧ (∀ c, b = some c → t i < t c) then some i else b) = (if f' i = true ∧ (∀ c, b = some c → t' i < t' c) then some i else b) := by
      rw [(h i (by omega)).1]
      have : (∀ c, b = some c → t i < t c) ↔ (∀ c, b = some c → t' i < t' c) := by
        constructor
        · intro z c hc
          rw [← (h i (by omega)).2, ← (h c (hb c hc)).2]
          exact z c hc
        · intro z c hc
          rw [(h i (by omega)).2, (h c (hb c hc)).2]
          exact z c hc
      simp only [this]
    rw [e]
    refine hgBest_cg k (i + 1) _ (by omega) h (fun c hc => ?_)
    split at hc
    · cases hc; omega
    · exact hb c hc
theorem hgBest_lt {f : Nat → Bool} {t : Nat → Int64} {n : Nat} : ∀ (k i : Nat) (b : Option Nat), i + k = n → (∀ c, b = some c → c < n ∧ f c = true) → ∀ c, hgBest f t b i k = some c → c < n ∧ f c = true
  | 0, i, b, _, hb, c, h => hb c h
  | k + 1, i, b, hi, hb, c, h => by
    refine hgBest_lt k (i + 1) _ (by omega) (fun c hc => ?_) c h
    split at hc
    · next z => cases hc; exact ⟨by omega, z.1⟩
    · exact hb c hc
theorem hgQh_00 (c d : Int32) : hgQh c d (nI 0) (nI 0) = false := by
  unfold hgQh
  by_cases h : nI 0 < d
  · rw [if_pos h, if_pos (by decide)]
    by_cases h2 : nI 0 ≤ c - c / d * d
    · have : ¬ c - c / d * d < nI 0 := Int32.not_lt.mpr h2
      simp [this]
    · simp [h2]
  · rw [if_neg h]
section HGSRV
variable {X : hgX} {M : hgMem} {d t g i j q c : Nat} {V : hgV} {o : Option Nat} {s r p x y z : Int32}
theorem vG_f (hk : hgVok V c) (hi : i < vN V) : vD V i 0 = nI (vG V i) ∧ vG V i < 3 := by
  obtain ⟨q, h1, h2⟩ := (hk.2.2.2.1 i hi).1
  have : vG V i = q := by unfold vG; rw [h2]; exact hgn_cl (by omega)
  rw [this]
  exact ⟨h2, h1⟩
theorem hgCV_qg (h : hgCV M g V) (hq : q < 3) : hgQg M g q = vQuiet V q := by
  have e := h.2.2.2.2.2.2.2.2.2.2.2.2.2.2.1 q hq
  unfold hgQg vQuiet
  rw [h.2.2.2.2.1, h.2.2.2.2.2.2.1, e.1, e.2]
theorem hgRV_qm (h : hgRV M d t V) (hq : q < 3) : hgQm M d q = vQuiet V q ∧ (hgI M d (18 + 3 * q) = nI 0 ∨ hgI M d 5 ≠ 0) := by
  have e3 := h.2.2.2.2.2.2.1 3 (by omega) (by omega)
  have e5 := h.2.2.2.2.2.2.1 5 (by omega) (by omega)
  rcases h.2.2.2.2.2.2.2.2.2.2 q hq with ⟨a1, a2, a3⟩ | ⟨a1, a2, a3, a4⟩
  · refine ⟨?_, Or.inl a1⟩
    unfold hgQm vQuiet
    rw [if_pos a1, a2, a3, hgQh_00]
  · refine ⟨?_, Or.inr (fun z => ?_)⟩
    · unfold hgQm vQuiet hgQh
      rw [if_neg (by rw [a1]; decide), a3, a4, e3, e5, if_pos a2]
    · rw [e5] at z
      rw [z] at a2
      exact absurd a2 (by decide)
theorem hgCV_cn (h : hgCV M g V) (hk : hgVok V c) (hi : i < vN V) : hgI M (g + 2 + i) 0 = nI (hgGn M g i) ∧ hgGn M g i < 3 ∧ hgCn M g i = vCan V i := by
  have hd := h.2.2.2.2.2.2.2.2.2.2.2.1 i hi
  have e0 : hgI M (g + 2 + i) 0 = vD V i 0 := hd.1 0 (by omega)
  have e4 : hgI M (g + 2 + i) 4 = vD V i 4 := hd.1 4 (by omega)
  have hg := vG_f hk hi
  have en : hgGn M g i = vG V i := by unfold hgGn; rw [e0]; rfl
  have hl := (hk.2.2.2.1 i hi).2.2.1
  refine ⟨by rw [en, e0]; exact hg.1, by rw [en]; exact hg.2, ?_⟩
  unfold hgCn hgCs vCan
  rw [en, hgCV_qg h hg.2, e4, hd.2.2.1]
  simp only [hgn_lt (show 0 < 2147483648 by omega) (show (vQ V i).length < 2147483648 by omega)]
/-- the component's next device -/
theorem hgCV_28 (hw : hgWf M) (h : hgCV M g V) (hk : hgVok V c) : hgWC X 28 [.ref g] M = some (.inl (.int (hgOi (vBest V))), M) := by
  rw [hgk_28 hw h.1 h.2.1 hk.1 (fun i hi => ⟨(hgCV_cn h hk hi).1, (hgCV_cn h hk hi).2.1⟩)]
  have e := hgBest_cg (n := vN V) (vN V) 0 none (by omega) (f := hgCn M g) (f' := vCan V) (t := fun i => hgJ M (g + 2 + i) 7) (t' := vT V) (fun j hj => ⟨(hgCV_cn h hk hj).2.2, (h.2.2.2.2.2.2.2.2.2.2.2.1 j hj).2.1⟩) (fun c hc => by cases hc)
  rw [e]
  rfl
/-- may the reference serve k -/
theorem hgRV_162 (h : hgRV M d t V) (hk : hgVok V c) (hi : i < vN V) : hgWC X 162 [.ref d, .int (nI i)] M = some (.inl (.int (hgB (vCan V i))), M) := by
  have hn := hk.1
  have hd := h.2.2.2.2.2.2.2.1 i hi
  have e0 : hgI M d (27 + 10 * i) = vD V i 0 := hd.1 0 (by omega)
  have e4 : hgI M d (27 + 10 * i + 4) = vD V i 4 := hd.1 4 (by omega)
  have e9 := hd.2.1
  have hg := vG_f hk hi
  have hq := hgRV_qm h hg.2
  have k161 := hgk_161 (X := X) h.1 h.2.1 hg.2 hq.2
  have hl := (hk.2.2.2.1 i hi).2.2.1
  have b1 : 27 + 10 * i < 20187 := by omega
  have b2 : 27 + 10 * i + 4 < 20187 := by omega
  have b3 : 27 + 10 * i + 9 < 20187 := by omega
  have b4 : (vQ V i).length < 2147483648 := by omega
  rw [hq.1] at k161
  simp (maxDischargeDepth := 7) only [hgc162, hgM_t, hgM_f, hgM_n, hgx_aload_n_0, hgx_iload_n_1, hgx_invstatic_1, hgx_aft_e, hgx_aft_i, hgx_aft_l, hgx_aft_v, hgx_iconst_4, hgx_iadd, hgx_if_ne, hgx_bipush_9, hgx_if_le, hgx_invstatic_2, hgx_iconst_1, hgx_goto, hgx_iconst_0, hgx_ret3, hgv162_0, hgr162_0, hgu162_0, hgv162_40, hgr162_40, hgu162_40, hgv162_41, hgr162_41, hgu162_41, hgI_SI, hgI_SJ, hgJ_SI, hgJ_SJ, if_true, if_false, reduceIte, Nat.reduceEqDiff, hgWf_SI, hgWf_SJ, hgO_SI, hgO_SJ, hgAr_SI, hgAr_SJ, hgRp_SI, hgRp_SJ, hgN_SI, hgN_SJ, hgO_g, hgO_d, hgO_rl, hgO_r, hgO_0, hgO_1, hgO_64, hgO_298, hgO_300, hgCd_0, hgCd_1, hgCd_2, hgCd_3, hgCd_4, hgCd_5, hgRecv_O, hgRecv_99, List.length_cons, List.length_nil, Nat.zero_add, Nat.add_zero, Nat.le_refl, Nat.zero_le, and_self, or_true, true_or, true_and, and_true, ne_eq, not_false_eq_true, Nat.reduceLT, Nat.reduceLeDiff, Nat.reduceAdd, Nat.reduceEqDiff, hgn_eq, hgn_lt, hgn_le, if_true, if_false, reduceIte, Nat.not_lt_zero, hgs_aa_d, hgs_aa_r, hgs_aa_h, hgs_aa_m, hgs_aa_t, hgs_ld_wp, hgs_st_wp, hgs_ld_qf, hgs_st_qf, hgs_ld_qt, hgs_st_qt, hgs_ld_2, hgs_st_2, hgs_ld_3, hgs_st_3, hgs_ld_4, hgs_st_4, hgs_ld_301, hgs_st_301, hgs_ld_D, hgs_st_D, hgs_ld_s, hgs_ld_T, hgs_st_T, hgs_ld_o, hgs_st_o, hgs_ld_b, hgs_st_b, hgs_ld_z, hgs_st_z, hgs_al_b, hgx_alen_s, hgn_add, hgn_mul, h.1, h.2.1, hgk_128, e0, e4, e9, hg.1, b1, b2, b3, b4, k161, hgB_0]
  unfold vCan
  by_cases a1 : vD V i 4 = nI 0 <;> by_cases a2 : (vQ V i).length ≤ 0 <;> cases a3 : vQuiet V (vG V i) <;> simp_all [hgB]
end HGSRV

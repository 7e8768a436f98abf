/-! ONE TICK, of both sides. -/
/-- M' is M but for the cells in P -/
def hgFm (P : Nat → Prop) (M M' : hgMem) : Prop := M'.1 = M.1 ∧ ∀ b, ¬ P b → ∀ k, hgI M' b k = hgI M b k ∧ hgJ M' b k = hgJ M b k ∧ hgR M' b k = hgR M b k
theorem hgFm_r {P : Nat → Prop} {M : hgMem} : hgFm P M M := ⟨rfl, fun _ _ _ => ⟨rfl, rfl, rfl⟩⟩
theorem hgFm_t {P : Nat → Prop} {M M1 M2 : hgMem} (h1 : hgFm P M M1) (h2 : hgFm P M1 M2) : hgFm P M M2 := ⟨h2.1.trans h1.1, fun b hb k => ⟨(h2.2 b hb k).1.trans (h1.2 b hb k).1, (h2.2 b hb k).2.1.trans (h1.2 b hb k).2.1, (h2.2 b hb k).2.2.trans (h1.2 b hb k).2.2⟩⟩
theorem hgFm_m {P Q : Nat → Prop} {M M1 : hgMem} (h : hgFm P M M1) (hpq : ∀ b, P b → Q b) : hgFm Q M M1 := ⟨h.1, fun b hb k => h.2 b (fun z => hb (hpq b z)) k⟩
theorem hgFm_SI {P : Nat → Prop} {M M1 : hgMem} {a k : Nat} {x : Int32} (h : hgFm P M M1) (ha : P a) : hgFm P M (hgSI M1 a k x) := ⟨h.1, fun b hb j => ⟨(hgI_na (fun e => hb (by rw [e]; exact ha))).trans (h.2 b hb j).1, (h.2 b hb j).2⟩⟩
theorem hgFm_SJ {P : Nat → Prop} {M M1 : hgMem} {a k : Nat} {x : Int64} (h : hgFm P M M1) (ha : P a) : hgFm P M (hgSJ M1 a k x) := ⟨h.1, fun b hb j => ⟨(h.2 b hb j).1, (hgJ_na (fun e => hb (by rw [e]; exact ha))).trans (h.2 b hb j).2.1, (h.2 b hb j).2.2⟩⟩
def vServe (V : hgV) (i : Nat) (z : Int32 × Int32) (Q : List (Int32 × Int32)) : hgV := vSt (vSd (vSq (vSd V i 8 (if vD V i 8 < vS V 3 - z.2 then vS V 3 - z.2 else vD V i 8)) i Q (vB V i).tail) i 7 (vD V i 7 + z.1)) i (vT V i + (nI 2520 * z.1 / vD V i 1).toInt64)
def vLine : Nat → Nat → hgV → (Nat → Bool) → hgV × (Nat → Bool) × Nat
  | 0, _, V, S => (V, S, 0)
  | F + 1, b, V, S => match vBest V with
    | none => (V, S, 0)
    | some i => match vQ V i with
      | [] => (V, S, 0)
      | z :: Q => if z.1 ≤ nI b then ((vLine F (b - z.1.toNatClampNeg) (vServe V i z Q) (fun j => if j = i then true else S j)).1, (vLine F (b - z.1.toNatClampNeg) (vServe V i z Q) (fun j => if j = i then true else S j)).2.1, (vLine F (b - z.1.toNatClampNeg) (vServe V i z Q) (fun j => if j = i then true else S j)).2.2 + 1) else (V, S, 0)
/-- a device begins a tick -/
def vBt (V : hgV) (i : Nat) : hgV := if vD V i 4 = nI 1 then (if vD V i 5 = nI 0 then vSd (vSd V i 4 (nI 0)) i 6 (nI 0) else vSd V i 5 (vD V i 5 - nI 1)) else V
def vBg : Nat → Nat → hgV → hgV
  | _, 0, V => V
  | i, k + 1, V => vBg (i + 1) k (vBt V i)
def vEt (S : Nat → Bool) (V : hgV) (i : Nat) : hgV := if vD V i 4 = nI 0 then (if S i = false then (if (vQ V i).length ≤ 0 then (if vD V i 6 + nI 1 = vD V i 3 then vSd (vSd V i 6 (vD V i 6 + nI 1)) i 4 (nI 2) else vSd V i 6 (vD V i 6 + nI 1)) else vSd V i 6 (nI 0)) else vSd V i 6 (nI 0)) else V
def vEn (S : Nat → Bool) : Nat → Nat → hgV → hgV
  | _, 0, V => V
  | i, k + 1, V => vEn S (i + 1) k (vEt S V i)
def vRt (V : hgV) : Nat := (vS V 4).toNatClampNeg
def vTick (V : hgV) : hgV := vSs (vEn (vLine (vRt V) (vRt V) (vBg 0 (vN V) V) (fun _ => false)).2.1 0 (vN V) (vLine (vRt V) (vRt V) (vBg 0 (vN V) V) (fun _ => false)).1) 3 (vS V 3 + nI 1)
def vTickN (V : hgV) : Nat := (vLine (vRt V) (vRt V) (vBg 0 (vN V) V) (fun _ => false)).2.2
/-- only fields of devices differ -/
def hgLi (V V' : hgV) : Prop := V'.1 = V.1 ∧ V'.2.1 = V.2.1 ∧ V'.2.2.2 = V.2.2.2
section HGTCK
variable {X : hgX} {M M' : hgMem} {d t g i j q c k a b n p : Nat} {V V' : hgV} {x y z : Int32} {u : Int64} {Q : List (Int32 × Int32)} {B : List Nat} {S : Nat → Bool} {P : Nat → Prop}
theorem hgLi_t {V1 : hgV} (h1 : hgLi V V1) (h2 : hgLi V1 V') : hgLi V V' := ⟨h2.1.trans h1.1, h2.2.1.trans h1.2.1, h2.2.2.trans h1.2.2⟩
theorem hgLi_sm (h : hgLi V V') (hm : hgSm V) : hgSm V' := by
  obtain ⟨h1, h2, h3⟩ := h
  unfold hgSm vN vR vW vQ at hm ⊢
  rw [h1, h3]
  exact hm
theorem hgLi_N (h : hgLi V V') : vN V' = vN V := by unfold vN; rw [h.1]
theorem hgLi_bt : hgLi V (vBt V i) := by
  unfold vBt
  split
  · split
    · exact ⟨rfl, rfl, rfl⟩
    · exact ⟨rfl, rfl, rfl⟩
  · exact ⟨rfl, rfl, rfl⟩
theorem hgLi_et : hgLi V (vEt S V i) := by
  unfold vEt
  split
  · split
    · split
      · split
        · exact ⟨rfl, rfl, rfl⟩
        · exact ⟨rfl, rfl, rfl⟩
      · exact ⟨rfl, rfl, rfl⟩
    · exact ⟨rfl, rfl, rfl⟩
  · exact ⟨rfl, rfl, rfl⟩
theorem hgLi_bg : ∀ (k i : Nat) (V : hgV), hgLi V (vBg i k V)
  | 0, _, _ => ⟨rfl, rfl, rfl⟩
  | k + 1, i, V => hgLi_t (hgLi_bt (i := i)) (hgLi_bg k (i + 1) (vBt V i))
theorem hgLi_en : ∀ (k i : Nat) (V : hgV), hgLi V (vEn S i k V)
  | 0, _, _ => ⟨rfl, rfl, rfl⟩
  | k + 1, i, V => hgLi_t (hgLi_et (i := i)) (hgLi_en k (i + 1) (vEt S V i))
theorem vBt_o (h : j ≠ i) : vD (vBt V i) j = vD V j := by
  funext b
  unfold vBt
  split
  · split
    · rw [vD_sd, vD_sd, if_neg (by omega), if_neg (by omega)]
    · rw [vD_sd, if_neg (by omega)]
  · rfl
/-- the component's device begins a tick -/
theorem hgCV_bt (hw : hgWf M) (hm : hgSm V) (hi : i < vN V) (h : hgCV M g V) : hgCV (hgBt M (g + 2 + i)) g (vBt V i) ∧ hgFm (fun b => b = g + 2 + i) M (hgBt M (g + 2 + i)) ∧ hgWf (hgBt M (g + 2 + i)) ∧ hgI (hgBt M (g + 2 + i)) (g + 2 + i) 14 = nI 0 := by
  have hN := hm.1
  have hd := h.2.2.2.2.2.2.2.2.2.2.2.1 i hi
  have e4 : hgI M (g + 2 + i) 4 = vD V i 4 := hd.1 4 (by omega)
  have e5 : hgI M (g + 2 + i) 5 = vD V i 5 := hd.1 5 (by omega)
  have h0 := hgCV_s14 (x := nI 0) hw hm (show i < 10 by omega) (Or.inl rfl) h
  have f0 : hgFm (fun b => b = g + 2 + i) M (hgSI M (g + 2 + i) 14 (nI 0)) := hgFm_SI hgFm_r rfl
  unfold hgBt vBt
  rw [e4, e5]
  split
  · split
    · exact ⟨hgCV_sd (k := 6) (x := nI 0) hw hm (by omega) (by omega) (hgCV_sd (k := 4) (x := nI 0) hw hm (by omega) (by omega) h0), hgFm_SI (hgFm_SI f0 rfl) rfl, hw, by rw [hgI_nk (by omega), hgI_nk (by omega), hgI_at]⟩
    · exact ⟨hgCV_sd (k := 5) hw hm (by omega) (by omega) h0, hgFm_SI f0 rfl, hw, by rw [hgI_nk (by omega), hgI_at]⟩
  · exact ⟨h0, f0, hw, hgI_at⟩
/-- the devices of g -/
def hgPd (g : Nat) : Nat → Prop := fun b => g ≤ b ∧ b < g + 12
theorem hgk_26a : ∀ (k i : Nat) (M : hgMem) (V : hgV), i + k = vN V → hgWf M → hgSm V → hgCV M g V → (∀ j, j < i → hgI M (g + 2 + j) 14 = nI 0) → ∃ M', hgW X 26 2 [some (.ref g), some (.int (nI i)), none] [] (0, 0) M = hgW X 26 25 [some (.ref g), none, none] [] (0, 0) M' ∧ hgWf M' ∧ hgCV M' g (vBg i k V) ∧ hgFm (hgPd g) M M' ∧ ∀ j, j < vN V → hgI M' (g + 2 + j) 14 = nI 0 := by
  intro k
  induction k with
  | zero =>
    intro i M V hi hw hm h hS
    have hN := hm.1
    have h1 : i < 2147483648 := by omega
    have h2 : vN V < 2147483648 := by omega
    have h3 : vN V ≤ i := by omega
    have hg := h.1
    have hn := h.2.1
    refine ⟨M, ?_, hw, h, hgFm_r, fun j hj => hS j (by omega)⟩
    rw [hgu26_2]
    simp (maxDischargeDepth := 7) only [hgM_t, hgM_f, hgM_n, hgx_iconst_0, hgx_istore_n_1i, hgx_istore_n_1r, hgx_istore_n_1f, hgx_istore_n_1n, hgx_istore_n_1l, hgx_iload_n_1, hgx_aload_n_0, hgx_get0, hgx_ic_ge, hgs_get_1_5, hgx_invvirtual_1, hgx_aft_e, hgx_aft_i, hgx_aft_l, hgx_aft_v, hgx_iinc_1_1, hgx_goto, hgx_istore_n_2i, hgx_istore_n_2r, hgx_istore_n_2f, hgx_istore_n_2n, hgx_istore_n_2l, hgx_iload_n_2, hgx_iinc_2_1, hgx_dup_i, hgx_dup_f, hgx_dup_r, hgx_iconst_1, hgx_iadd, hgx_put0, hgx_ret1, hgv26_0, hgr26_0, hgu26_0, hgv26_2, hgr26_2, hgv26_25, hgr26_25, hgu26_25, hgv26_32, ← hgu26_32, hgv26_55, hgr26_55, hgu26_55, hgI_SI, hgI_SJ, hgJ_SI, hgJ_SJ, if_true, if_false, reduceIte, Nat.reduceEqDiff, hgWf_SI, hgWf_SJ, hgO_SI, hgO_SJ, hgAr_SI, hgAr_SJ, hgRp_SI, hgRp_SJ, hgN_SI, hgN_SJ, hgO_g, hgO_d, hgO_rl, hgO_r, hgO_0, hgO_1, hgO_64, hgO_298, hgO_300, hgCd_0, hgCd_1, hgCd_2, hgCd_3, hgCd_4, hgCd_5, hgRecv_O, hgRecv_99, List.length_cons, List.length_nil, Nat.zero_add, Nat.add_zero, Nat.le_refl, Nat.zero_le, and_self, or_true, true_or, true_and, and_true, ne_eq, not_false_eq_true, Nat.reduceLT, Nat.reduceLeDiff, Nat.reduceAdd, Nat.reduceEqDiff, hgn_eq, hgn_lt, hgn_le, if_true, if_false, reduceIte, Nat.not_lt_zero, hw, hg, hn, h1, h2, h3]
  | succ k ih =>
    intro i M V hi hw hm h hS
    have hN := hm.1
    have h1 : i < 2147483648 := by omega
    have h2 : vN V < 2147483648 := by omega
    have h3 : ¬ vN V ≤ i := by omega
    have h4 : i < 10 := by omega
    have hg := h.1
    have hn := h.2.1
    obtain ⟨c1, c2, c3, c4⟩ := hgCV_bt hw hm (show i < vN V by omega) h
    obtain ⟨M', e, w1, w2, w3, w4⟩ := ih (i + 1) (hgBt M (g + 2 + i)) (vBt V i) (by rw [hgLi_N hgLi_bt]; omega) c3 (hgLi_sm hgLi_bt hm) c1 (fun j hj => by
      by_cases hji : j = i
      · rw [hji]; exact c4
      · rw [(c2.2 (g + 2 + j) (by omega) 14).1]
        exact hS j (by omega))
    have k4 := hgk_4 (X := X) (hgO_d hw hg h4)
    refine ⟨M', ?_, w1, w2, hgFm_t (hgFm_m c2 (fun b hb => ⟨by omega, by omega⟩)) w3, fun j hj => w4 j (by rw [hgLi_N hgLi_bt]; exact hj)⟩
    refine Eq.trans ?_ e
    rw [hgu26_2]
    simp (maxDischargeDepth := 7) only [hgM_t, hgM_f, hgM_n, hgx_iconst_0, hgx_istore_n_1i, hgx_istore_n_1r, hgx_istore_n_1f, hgx_istore_n_1n, hgx_istore_n_1l, hgx_iload_n_1, hgx_aload_n_0, hgx_get0, hgx_ic_ge, hgs_get_1_5, hgx_invvirtual_1, hgx_aft_e, hgx_aft_i, hgx_aft_l, hgx_aft_v, hgx_iinc_1_1, hgx_goto, hgx_istore_n_2i, hgx_istore_n_2r, hgx_istore_n_2f, hgx_istore_n_2n, hgx_istore_n_2l, hgx_iload_n_2, hgx_iinc_2_1, hgx_dup_i, hgx_dup_f, hgx_dup_r, hgx_iconst_1, hgx_iadd, hgx_put0, hgx_ret1, hgv26_0, hgr26_0, hgu26_0, hgv26_2, hgr26_2, hgv26_25, hgr26_25, hgu26_25, hgv26_32, ← hgu26_32, hgv26_55, hgr26_55, hgu26_55, hgI_SI, hgI_SJ, hgJ_SI, hgJ_SJ, if_true, if_false, reduceIte, Nat.reduceEqDiff, hgWf_SI, hgWf_SJ, hgO_SI, hgO_SJ, hgAr_SI, hgAr_SJ, hgRp_SI, hgRp_SJ, hgN_SI, hgN_SJ, hgO_g, hgO_d, hgO_rl, hgO_r, hgO_0, hgO_1, hgO_64, hgO_298, hgO_300, hgCd_0, hgCd_1, hgCd_2, hgCd_3, hgCd_4, hgCd_5, hgRecv_O, hgRecv_99, List.length_cons, List.length_nil, Nat.zero_add, Nat.add_zero, Nat.le_refl, Nat.zero_le, and_self, or_true, true_or, true_and, and_true, ne_eq, not_false_eq_true, Nat.reduceLT, Nat.reduceLeDiff, Nat.reduceAdd, Nat.reduceEqDiff, hgn_eq, hgn_lt, hgn_le, if_true, if_false, reduceIte, Nat.not_lt_zero, hgs_aa_d, hgs_aa_r, hgs_aa_h, hgs_aa_m, hgs_aa_t, hgs_ld_wp, hgs_st_wp, hgs_ld_qf, hgs_st_qf, hgs_ld_qt, hgs_st_qt, hgs_ld_2, hgs_st_2, hgs_ld_3, hgs_st_3, hgs_ld_4, hgs_st_4, hgs_ld_301, hgs_st_301, hgs_ld_D, hgs_st_D, hgs_ld_s, hgs_ld_T, hgs_st_T, hgs_ld_o, hgs_st_o, hgs_ld_b, hgs_st_b, hgs_ld_z, hgs_st_z, hgs_al_b, hgx_alen_s, hgn_add, hgn_mul, hw, hg, hn, h1, h2, h3, h4, k4]
theorem hgRV_ss (hm : hgSm V) (h1 : 3 ≤ k) (h2 : k ≤ 9) (h5 : k ≠ 5) (h : hgRV M d t V) : hgRV (hgSI M d k x) d t (vSs V k x) := by
  obtain ⟨m1, m2, m3, m4⟩ := hm
  obtain ⟨a1, a2, a3, a4, a5, a6, a7, a8, a9, a10, a11⟩ := h
  refine ⟨a1, a2, a3, ?_, ?_, ?_, fun j j1 j2 => ?_, fun i hi => ⟨fun j hj => ?_, ?_, (a8 i hi).2.2.1, fun j z hz => ?_⟩, fun j hj k2 hk2 => ?_, fun j hj => ?_, fun q hq => ?_⟩
  · rw [hgI_nk (by omega)]; exact a4
  · rw [hgI_nk (by omega)]; exact a5
  · rw [hgI_nk (by omega)]; exact a6
  · rw [vS_ss]
    by_cases e : j = k
    · rw [e, hgI_at, if_pos rfl]
    · rw [hgI_nk e, if_neg e]; exact a7 j j1 j2
  · rw [hgI_nk (by omega)]; exact (a8 i hi).1 j hj
  · rw [hgI_nk (by omega)]; exact (a8 i hi).2.1
  · rw [hgI_nk (by omega), hgI_nk (by omega)]; exact (a8 i hi).2.2.2 j z hz
  · rw [hgI_nk (by omega)]; exact a9 j hj k2 hk2
  · rw [hgI_nk (by omega)]; exact a10 j hj
  · rw [hgI_nk (by omega), hgI_nk (by omega), hgI_nk (by omega), vS_ss, if_neg (by omega)]; exact a11 q hq
theorem hgCV_ss (hw : hgWf M) (hm : hgSm V) (hk : (k = 3 ∧ n = 12) ∨ (k = 6 ∧ n = 4) ∨ (k = 7 ∧ n = 13) ∨ (k = 8 ∧ n = 14) ∨ (k = 9 ∧ n = 15)) (h : hgCV M g V) : hgCV (hgSI M g n x) g (vSs V k x) := by
  have hg := hgGw_le h.1
  have hN := hm.1
  have hR := hm.2.1
  obtain ⟨a1, a2, a3, a4, a5, a6, a7, a8, a9, a10, a11, a12, a13, a14, a15, a16, a17⟩ := h
  have o : ∀ b, b ≠ g → ∀ j, hgI (hgSI M g n x) b j = hgI M b j := fun b hb j => hgI_na hb
  have hdv : ∀ i, i < vN V → hgDv (hgSI M g n x) (g + 2 + i) (vSs V k x) i := fun i hi => hgDv_to (V := V) (fun j => o _ (by omega) j) rfl (fun p _ => o 4 (by omega) p) (fun p _ => ⟨o 2 (by omega) p, o 3 (by omega) p⟩) (a12 i hi)
  have hrf : ∀ j, j < vR V → ∀ q, q ≤ 4 → hgRf (hgSI M g n x) g j q = vU V j q := fun j hj q hq => by
    rw [hgRf_to (M := M) (fun a b z1 z2 => o a (by omega) b) (fun _ => rfl) hw a1 (by omega)]
    exact a13 j hj q hq
  have r := fun j => hgI_SI (M := M) (a := g) (k := n) (x := x) (b := g) (j := j)
  have s := fun j => vS_ss (V := V) (k := k) (x := x) (a := j)
  rcases hk with ⟨e1, e2⟩ | ⟨e1, e2⟩ | ⟨e1, e2⟩ | ⟨e1, e2⟩ | ⟨e1, e2⟩
  all_goals
    subst e1
    subst e2
    refine ⟨a1, ?_, by rw [o _ (by omega)]; exact a3, ?_, ?_, ?_, ?_, ?_, ?_, ?_, ?_, hdv, hrf, fun j hj => by rw [o _ (by omega)]; exact a14 j hj, fun q hq => by rw [o _ (by omega), o _ (by omega)]; exact a15 q hq, ?_, ?_⟩
    all_goals
      simp only [r, s, if_true, if_false, reduceIte, Nat.reduceEqDiff]
    all_goals
      first | done | exact a2 | exact a4 | exact a5 | exact a6 | exact a7 | exact a8 | exact a9 | exact a10 | exact a11 | exact a16 | exact a17
end HGTCK

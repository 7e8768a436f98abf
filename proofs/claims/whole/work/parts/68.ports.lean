/-! OPENPORTS: from edge to edge, or port by port. -/
def hgNe (V : hgV) (p : Nat) : Nat → Nat → Nat → Nat
  | _, 0, a => a
  | i, k + 1, a => hgNe V p (i + 1) k (if p < vHi V i + 1 then (if vHi V i + 1 < (if p < vLo V i then (if vLo V i < a then vLo V i else a) else a) then vHi V i + 1 else (if p < vLo V i then (if vLo V i < a then vLo V i else a) else a)) else (if p < vLo V i then (if vLo V i < a then vLo V i else a) else a))
def hgMs (V : hgV) (p : Nat) : Nat → Nat → Nat
  | _, 0 => 0
  | i, k + 1 => (if p < vLo V i then 1 else 0) + (if p < vHi V i + 1 then 1 else 0) + hgMs V p (i + 1) k
def hgPc (f : Nat → Bool) : Nat → Nat → Nat
  | _, 0 => 0
  | i, k + 1 => (if f i = true then 1 else 0) + hgPc f (i + 1) k
theorem hgNe_f {V : hgV} {p : Nat} : ∀ (k i a : Nat), hgNe V p i k a ≤ a ∧ (∀ j, i ≤ j → j < i + k → (p < vLo V j → hgNe V p i k a ≤ vLo V j) ∧ (p < vHi V j + 1 → hgNe V p i k a ≤ vHi V j + 1)) ∧ (p < a → p < hgNe V p i k a) ∧ (hgNe V p i k a = a ∨ ∃ j, i ≤ j ∧ j < i + k ∧ (hgNe V p i k a = vLo V j ∨ hgNe V p i k a = vHi V j + 1))
  | 0, i, a => ⟨Nat.le_refl _, fun j h1 h2 => by omega, fun h => h, Or.inl rfl⟩
  | k + 1, i, a => by
    obtain ⟨a1, e1⟩ : ∃ a1, a1 = (if p < vLo V i then (if vLo V i < a then vLo V i else a) else a) := ⟨_, rfl⟩
    obtain ⟨a2, e2⟩ : ∃ a2, a2 = (if p < vHi V i + 1 then (if vHi V i + 1 < a1 then vHi V i + 1 else a1) else a1) := ⟨_, rfl⟩
    have e3 : hgNe V p i (k + 1) a = hgNe V p (i + 1) k a2 := by rw [e2, e1]; rfl
    obtain ⟨r1, r2, r3, r4⟩ := hgNe_f (V := V) (p := p) k (i + 1) a2
    rw [e3]
    have f1 : a1 ≤ a ∧ (p < vLo V i → a1 ≤ vLo V i) ∧ (p < a → p < a1) ∧ (a1 = a ∨ a1 = vLo V i) := by
      rw [e1]
      by_cases q1 : p < vLo V i
      · rw [if_pos q1]
        by_cases q2 : vLo V i < a
        · rw [if_pos q2]; omega
        · rw [if_neg q2]; omega
      · rw [if_neg q1]; omega
    have f2 : a2 ≤ a1 ∧ (p < vHi V i + 1 → a2 ≤ vHi V i + 1) ∧ (p < a1 → p < a2) ∧ (a2 = a1 ∨ a2 = vHi V i + 1) := by
      rw [e2]
      by_cases q1 : p < vHi V i + 1
      · rw [if_pos q1]
        by_cases q2 : vHi V i + 1 < a1
        · rw [if_pos q2]; omega
        · rw [if_neg q2]; omega
      · rw [if_neg q1]; omega
    refine ⟨by omega, fun j h1 h2 => ?_, fun h => r3 (f2.2.2.1 (f1.2.2.1 h)), ?_⟩
    · by_cases e : j = i
      · rw [e]
        exact ⟨fun h => by have := f1.2.1 h; omega, fun h => by have := f2.2.1 h; omega⟩
      · exact r2 j (by omega) (by omega)
    · rcases r4 with w | ⟨j, j1, j2, j3⟩
      · rcases f2.2.2.2 with w2 | w2
        · rcases f1.2.2.2 with w1 | w1
          · exact Or.inl (by omega)
          · exact Or.inr ⟨i, by omega, by omega, Or.inl (by omega)⟩
        · exact Or.inr ⟨i, by omega, by omega, Or.inr (by omega)⟩
      · exact Or.inr ⟨j, by omega, by omega, j3⟩
theorem hgMs_le {V : hgV} {p q : Nat} (h : p ≤ q) : ∀ (k i : Nat), hgMs V q i k ≤ hgMs V p i k
  | 0, i => Nat.le_refl _
  | k + 1, i => by
    have := hgMs_le (V := V) h k (i + 1)
    unfold hgMs
    have q1 : (if q < vLo V i then 1 else 0) ≤ (if p < vLo V i then 1 else 0) := by split <;> split <;> omega
    have q2 : (if q < vHi V i + 1 then 1 else 0) ≤ (if p < vHi V i + 1 then 1 else 0) := by split <;> split <;> omega
    omega
theorem hgMs_2 {V : hgV} {p : Nat} : ∀ (k i : Nat), hgMs V p i k ≤ 2 * k
  | 0, i => Nat.le_refl _
  | k + 1, i => by
    have := hgMs_2 (V := V) (p := p) k (i + 1)
    unfold hgMs
    split <;> split <;> omega
theorem hgMs_lt {V : hgV} {p e : Nat} (h : p < e) : ∀ (k i : Nat), (∃ j, i ≤ j ∧ j < i + k ∧ (e = vLo V j ∨ e = vHi V j + 1)) → hgMs V e i k + 1 ≤ hgMs V p i k
  | 0, i, hj => by obtain ⟨j, h1, h2, _⟩ := hj; omega
  | k + 1, i, hj => by
    obtain ⟨j, h1, h2, h3⟩ := hj
    unfold hgMs
    have q1 : (if e < vLo V i then 1 else 0) ≤ (if p < vLo V i then 1 else 0) := by split <;> split <;> omega
    have q2 : (if e < vHi V i + 1 then 1 else 0) ≤ (if p < vHi V i + 1 then 1 else 0) := by split <;> split <;> omega
    by_cases w : j = i
    · have m := hgMs_le (V := V) (Nat.le_of_lt h) k (i + 1)
      rw [w] at h3
      rcases h3 with h3 | h3
      · have q3 : (if e < vLo V i then 1 else 0) = 0 := if_neg (by omega)
        have q4 : (if p < vLo V i then 1 else 0) = 1 := if_pos (by omega)
        omega
      · have q3 : (if e < vHi V i + 1 then 1 else 0) = 0 := if_neg (by omega)
        have q4 : (if p < vHi V i + 1 then 1 else 0) = 1 := if_pos (by omega)
        omega
    · have m := hgMs_lt (V := V) h k (i + 1) ⟨j, by omega, by omega, h3⟩
      omega
theorem hgPc_s {f : Nat → Bool} : ∀ (a b p : Nat), hgPc f p (a + b) = hgPc f p a + hgPc f (p + a) b
  | 0, b, p => by rw [Nat.zero_add]; show _ = 0 + _; rw [Nat.zero_add, Nat.add_zero]
  | a + 1, b, p => by
    rw [show a + 1 + b = (a + b) + 1 by omega]
    show _ + hgPc f (p + 1) (a + b) = (_ + hgPc f (p + 1) a) + hgPc f (p + (a + 1)) b
    rw [hgPc_s a b (p + 1), show p + 1 + a = p + (a + 1) by omega]
    omega
theorem hgPc_c {f : Nat → Bool} {v : Bool} : ∀ (a p : Nat), (∀ q, p ≤ q → q < p + a → f q = v) → hgPc f p a = if v = true then a else 0
  | 0, p, _ => by cases v <;> rfl
  | a + 1, p, h => by
    unfold hgPc
    rw [h p (by omega) (by omega), hgPc_c a (p + 1) (fun q h1 h2 => h q (by omega) (by omega))]
    cases v
    · rfl
    · show 1 + a = a + 1
      omega
theorem hgPc_le {f : Nat → Bool} : ∀ (a p : Nat), hgPc f p a ≤ a
  | 0, p => Nat.le_refl _
  | a + 1, p => by
    have := hgPc_le (f := f) a (p + 1)
    unfold hgPc
    split <;> omega
theorem hgsub3 {p e : Nat} (h1 : p < e) (h2 : e ≤ 1000) : e - p + (1000 - e) = 1000 - p ∧ p + (e - p) = e := by omega
section HGPRT
variable {X : hgX} {M M' M1 M2 M3 Mo : hgMem} {d t g h i j q c k a b n p N l ru : Nat} {V V' V1 W U : hgV} {Hs Hs' : List hgV} {x y z s r : Int32} {u : Int64} {P : Nat → Prop} {o : Option Nat} {v1 v2 v4 v6 v7 : Option Value}
theorem vOpen_c (hk : hgVok V c) (h1 : p ≤ q) (h2 : q < hgNe V p 0 (vR V) 1000) (h3 : q ≤ 1000) : vOpen V s r (nI q) = vOpen V s r (nI p) := by
  obtain ⟨f1, f2, _, _⟩ := hgNe_f (V := V) (p := p) (vR V) 0 1000
  have e : vFst V s r (nI q) = vFst V s r (nI p) := hgFind_cg _ _ (fun j _ hj => by
    have hj2 : j < vR V := by omega
    have g := f2 j (by omega) (by omega)
    refine Bool.eq_iff_iff.mpr ?_
    rw [vMt_n hk hj2 h3, vMt_n hk hj2 (by omega)]
    constructor
    · rintro ⟨m1, m2, m3⟩
      refine ⟨?_, by omega, m3⟩
      by_cases w : p < vLo V j
      · have := g.1 w; omega
      · omega
    · rintro ⟨m1, m2, m3⟩
      refine ⟨by omega, ?_, m3⟩
      have := g.2 (by omega)
      omega)
  unfold vOpen
  rw [e]
theorem hgk_55l (hw : hgWf M) (hk : hgVok V c) (h : hgCV M g V) (hp : p ≤ 1000) : ∀ (k i a : Nat), i + k = vR V → a ≤ 1000 → hgW X 55 6 [some (.ref (g + 12)), some (.int (nI p)), some (.int (nI a)), some (.int (nI i))] [] (0, 0) M = some (.inl (.int (nI (hgNe V p i k a))), M) := by
  intro k
  have hg := h.1
  have hn := h.2.2.1
  have hn2 := hk.2.1
  induction k with
  | zero =>
    intro i a hi ha
    have h1 : i < 2147483648 := by omega
    have h2 : vR V < 2147483648 := by omega
    have h3 : vR V ≤ i := by omega
    rw [hgu55_6]
    simp (maxDischargeDepth := 7) only [hgM_t, hgM_f, hgM_n, hgx_sipush_1000, hgx_istore_n_2i, hgx_istore_n_2r, hgx_istore_n_2f, hgx_istore_n_2n, hgx_istore_n_2l, hgx_iconst_0, hgx_istore_n_3i, hgx_istore_n_3r, hgx_istore_n_3f, hgx_istore_n_3n, hgx_istore_n_3l, hgx_iload_n_3, hgx_aload_n_0, hgx_get0, hgx_ic_ge, hgs_get_5_0, hgx_iload_n_1, hgx_ic_le, hgx_iload_n_2, hgx_min, hgx_iconst_1, hgx_iadd, hgx_iinc_3_1, hgx_goto, hgx_ret1, hgv55_0, hgr55_0, hgu55_0, hgv55_6, hgr55_6, hgv55_41, hgr55_41, hgu55_41, hgv55_72, hgr55_72, hgu55_72, hgv55_78, hgr55_78, hgu55_78, hgI_SI, hgI_SJ, hgJ_SI, hgJ_SJ, if_true, if_false, reduceIte, Nat.reduceEqDiff, hgWf_SI, hgWf_SJ, hgO_SI, hgO_SJ, hgAr_SI, hgAr_SJ, hgRp_SI, hgRp_SJ, hgN_SI, hgN_SJ, hgO_g, hgO_d, hgO_rl, hgO_r, hgO_0, hgO_1, hgO_64, hgO_298, hgO_300, hgCd_0, hgCd_1, hgCd_2, hgCd_3, hgCd_4, hgCd_5, hgRecv_O, hgRecv_99, List.length_cons, List.length_nil, Nat.zero_add, Nat.add_zero, Nat.le_refl, Nat.zero_le, and_self, or_true, true_or, true_and, and_true, ne_eq, not_false_eq_true, Nat.reduceLT, Nat.reduceLeDiff, Nat.reduceAdd, Nat.reduceEqDiff, hgn_eq, hgn_lt, hgn_le, if_true, if_false, reduceIte, Nat.not_lt_zero, hw, hg, hn, h1, h2, h3, hgNe]
  | succ k ih =>
    intro i a hi ha
    have h1 : i < 2147483648 := by omega
    have h2 : vR V < 2147483648 := by omega
    have h3 : ¬ vR V ≤ i := by omega
    have h4 : i < 12 := by omega
    obtain ⟨l1, l2, l3, l4⟩ := vLH hk (show i < vR V by omega)
    have f3 : hgI M (hgRp M g i) 3 = nI (vLo V i) := (h.2.2.2.2.2.2.2.2.2.2.2.2.1 i (by omega) 3 (by omega)).trans l1
    have f4 : hgI M (hgRp M g i) 4 = nI (vHi V i) := (h.2.2.2.2.2.2.2.2.2.2.2.2.1 i (by omega) 4 (by omega)).trans l2
    have b1 : vLo V i < 2147483648 := by omega
    have b2 : vHi V i + 1 < 2147483648 := by omega
    have b3 : p < 2147483648 := by omega
    have b4 : a < 2147483648 := by omega
    have e : hgNe V p i (k + 1) a = hgNe V p (i + 1) k (if p < vHi V i + 1 then (if vHi V i + 1 < (if p < vLo V i then (if vLo V i < a then vLo V i else a) else a) then vHi V i + 1 else (if p < vLo V i then (if vLo V i < a then vLo V i else a) else a)) else (if p < vLo V i then (if vLo V i < a then vLo V i else a) else a)) := rfl
    rw [hgu55_6, e]
    by_cases q1 : p < vLo V i
    · have q1' : ¬ vLo V i ≤ p := by omega
      have q2 : p < vHi V i + 1 := by omega
      have q2' : ¬ vHi V i + 1 ≤ p := by omega
      by_cases q3 : vLo V i < a
      · have q4 : ¬ vHi V i + 1 < vLo V i := by omega
        have ih' := ih (i + 1) (vLo V i) (by omega) (by omega)
        rw [if_pos q2, if_pos q1, if_pos q3, if_neg q4]
        simp (maxDischargeDepth := 7) only [hgM_t, hgM_f, hgM_n, hgx_sipush_1000, hgx_istore_n_2i, hgx_istore_n_2r, hgx_istore_n_2f, hgx_istore_n_2n, hgx_istore_n_2l, hgx_iconst_0, hgx_istore_n_3i, hgx_istore_n_3r, hgx_istore_n_3f, hgx_istore_n_3n, hgx_istore_n_3l, hgx_iload_n_3, hgx_aload_n_0, hgx_get0, hgx_ic_ge, hgs_get_5_0, hgx_iload_n_1, hgx_ic_le, hgx_iload_n_2, hgx_min, hgx_iconst_1, hgx_iadd, hgx_iinc_3_1, hgx_goto, hgx_ret1, hgv55_0, hgr55_0, hgu55_0, hgv55_6, hgr55_6, hgv55_41, hgr55_41, hgu55_41, hgv55_72, hgr55_72, hgu55_72, hgv55_78, hgr55_78, hgu55_78, hgI_SI, hgI_SJ, hgJ_SI, hgJ_SJ, if_true, if_false, reduceIte, Nat.reduceEqDiff, hgWf_SI, hgWf_SJ, hgO_SI, hgO_SJ, hgAr_SI, hgAr_SJ, hgRp_SI, hgRp_SJ, hgN_SI, hgN_SJ, hgO_g, hgO_d, hgO_rl, hgO_r, hgO_0, hgO_1, hgO_64, hgO_298, hgO_300, hgCd_0, hgCd_1, hgCd_2, hgCd_3, hgCd_4, hgCd_5, hgRecv_O, hgRecv_99, List.length_cons, List.length_nil, Nat.zero_add, Nat.add_zero, Nat.le_refl, Nat.zero_le, and_self, or_true, true_or, true_and, and_true, ne_eq, not_false_eq_true, Nat.reduceLT, Nat.reduceLeDiff, Nat.reduceAdd, Nat.reduceEqDiff, hgn_eq, hgn_lt, hgn_le, if_true, if_false, reduceIte, Nat.not_lt_zero, hgs_aa_d, hgs_aa_r, hgs_aa_h, hgs_aa_m, hgs_aa_t, hgs_ld_wp, hgs_st_wp, hgs_ld_qf, hgs_st_qf, hgs_ld_qt, hgs_st_qt, hgs_ld_2, hgs_st_2, hgs_ld_3, hgs_st_3, hgs_ld_4, hgs_st_4, hgs_ld_301, hgs_st_301, hgs_ld_D, hgs_st_D, hgs_ld_s, hgs_ld_T, hgs_st_T, hgs_ld_o, hgs_st_o, hgs_ld_b, hgs_st_b, hgs_ld_z, hgs_st_z, hgs_al_b, hgx_alen_s, hgn_add, hgn_mul, hw, hg, hn, h1, h2, h3, h4, f3, f4, b1, b2, b3, b4, q1', q2', q3, q4]
        exact ih'
      · rw [if_pos q2, if_pos q1, if_neg q3]
        by_cases q4 : vHi V i + 1 < a
        · omega
        · have ih' := ih (i + 1) a (by omega) (by omega)
          rw [if_neg q4]
          simp (maxDischargeDepth := 7) only [hgM_t, hgM_f, hgM_n, hgx_sipush_1000, hgx_istore_n_2i, hgx_istore_n_2r, hgx_istore_n_2f, hgx_istore_n_2n, hgx_istore_n_2l, hgx_iconst_0, hgx_istore_n_3i, hgx_istore_n_3r, hgx_istore_n_3f, hgx_istore_n_3n, hgx_istore_n_3l, hgx_iload_n_3, hgx_aload_n_0, hgx_get0, hgx_ic_ge, hgs_get_5_0, hgx_iload_n_1, hgx_ic_le, hgx_iload_n_2, hgx_min, hgx_iconst_1, hgx_iadd, hgx_iinc_3_1, hgx_goto, hgx_ret1, hgv55_0, hgr55_0, hgu55_0, hgv55_6, hgr55_6, hgv55_41, hgr55_41, hgu55_41, hgv55_72, hgr55_72, hgu55_72, hgv55_78, hgr55_78, hgu55_78, hgI_SI, hgI_SJ, hgJ_SI, hgJ_SJ, if_true, if_false, reduceIte, Nat.reduceEqDiff, hgWf_SI, hgWf_SJ, hgO_SI, hgO_SJ, hgAr_SI, hgAr_SJ, hgRp_SI, hgRp_SJ, hgN_SI, hgN_SJ, hgO_g, hgO_d, hgO_rl, hgO_r, hgO_0, hgO_1, hgO_64, hgO_298, hgO_300, hgCd_0, hgCd_1, hgCd_2, hgCd_3, hgCd_4, hgCd_5, hgRecv_O, hgRecv_99, List.length_cons, List.length_nil, Nat.zero_add, Nat.add_zero, Nat.le_refl, Nat.zero_le, and_self, or_true, true_or, true_and, and_true, ne_eq, not_false_eq_true, Nat.reduceLT, Nat.reduceLeDiff, Nat.reduceAdd, Nat.reduceEqDiff, hgn_eq, hgn_lt, hgn_le, if_true, if_false, reduceIte, Nat.not_lt_zero, hgs_aa_d, hgs_aa_r, hgs_aa_h, hgs_aa_m, hgs_aa_t, hgs_ld_wp, hgs_st_wp, hgs_ld_qf, hgs_st_qf, hgs_ld_qt, hgs_st_qt, hgs_ld_2, hgs_st_2, hgs_ld_3, hgs_st_3, hgs_ld_4, hgs_st_4, hgs_ld_301, hgs_st_301, hgs_ld_D, hgs_st_D, hgs_ld_s, hgs_ld_T, hgs_st_T, hgs_ld_o, hgs_st_o, hgs_ld_b, hgs_st_b, hgs_ld_z, hgs_st_z, hgs_al_b, hgx_alen_s, hgn_add, hgn_mul, hw, hg, hn, h1, h2, h3, h4, f3, f4, b1, b2, b3, b4, q1', q2', q3, q4]
          exact ih'
    · have q1' : vLo V i ≤ p := by omega
      by_cases q2 : p < vHi V i + 1
      · have q2' : ¬ vHi V i + 1 ≤ p := by omega
        rw [if_pos q2, if_neg q1]
        by_cases q4 : vHi V i + 1 < a
        · have ih' := ih (i + 1) (vHi V i + 1) (by omega) (by omega)
          rw [if_pos q4]
          simp (maxDischargeDepth := 7) only [hgM_t, hgM_f, hgM_n, hgx_sipush_1000, hgx_istore_n_2i, hgx_istore_n_2r, hgx_istore_n_2f, hgx_istore_n_2n, hgx_istore_n_2l, hgx_iconst_0, hgx_istore_n_3i, hgx_istore_n_3r, hgx_istore_n_3f, hgx_istore_n_3n, hgx_istore_n_3l, hgx_iload_n_3, hgx_aload_n_0, hgx_get0, hgx_ic_ge, hgs_get_5_0, hgx_iload_n_1, hgx_ic_le, hgx_iload_n_2, hgx_min, hgx_iconst_1, hgx_iadd, hgx_iinc_3_1, hgx_goto, hgx_ret1, hgv55_0, hgr55_0, hgu55_0, hgv55_6, hgr55_6, hgv55_41, hgr55_41, hgu55_41, hgv55_72, hgr55_72, hgu55_72, hgv55_78, hgr55_78, hgu55_78, hgI_SI, hgI_SJ, hgJ_SI, hgJ_SJ, if_true, if_false, reduceIte, Nat.reduceEqDiff, hgWf_SI, hgWf_SJ, hgO_SI, hgO_SJ, hgAr_SI, hgAr_SJ, hgRp_SI, hgRp_SJ, hgN_SI, hgN_SJ, hgO_g, hgO_d, hgO_rl, hgO_r, hgO_0, hgO_1, hgO_64, hgO_298, hgO_300, hgCd_0, hgCd_1, hgCd_2, hgCd_3, hgCd_4, hgCd_5, hgRecv_O, hgRecv_99, List.length_cons, List.length_nil, Nat.zero_add, Nat.add_zero, Nat.le_refl, Nat.zero_le, and_self, or_true, true_or, true_and, and_true, ne_eq, not_false_eq_true, Nat.reduceLT, Nat.reduceLeDiff, Nat.reduceAdd, Nat.reduceEqDiff, hgn_eq, hgn_lt, hgn_le, if_true, if_false, reduceIte, Nat.not_lt_zero, hgs_aa_d, hgs_aa_r, hgs_aa_h, hgs_aa_m, hgs_aa_t, hgs_ld_wp, hgs_st_wp, hgs_ld_qf, hgs_st_qf, hgs_ld_qt, hgs_st_qt, hgs_ld_2, hgs_st_2, hgs_ld_3, hgs_st_3, hgs_ld_4, hgs_st_4, hgs_ld_301, hgs_st_301, hgs_ld_D, hgs_st_D, hgs_ld_s, hgs_ld_T, hgs_st_T, hgs_ld_o, hgs_st_o, hgs_ld_b, hgs_st_b, hgs_ld_z, hgs_st_z, hgs_al_b, hgx_alen_s, hgn_add, hgn_mul, hw, hg, hn, h1, h2, h3, h4, f3, f4, b1, b2, b3, b4, q1', q2', q4]
          exact ih'
        · have ih' := ih (i + 1) a (by omega) (by omega)
          rw [if_neg q4]
          simp (maxDischargeDepth := 7) only [hgM_t, hgM_f, hgM_n, hgx_sipush_1000, hgx_istore_n_2i, hgx_istore_n_2r, hgx_istore_n_2f, hgx_istore_n_2n, hgx_istore_n_2l, hgx_iconst_0, hgx_istore_n_3i, hgx_istore_n_3r, hgx_istore_n_3f, hgx_istore_n_3n, hgx_istore_n_3l, hgx_iload_n_3, hgx_aload_n_0, hgx_get0, hgx_ic_ge, hgs_get_5_0, hgx_iload_n_1, hgx_ic_le, hgx_iload_n_2, hgx_min, hgx_iconst_1, hgx_iadd, hgx_iinc_3_1, hgx_goto, hgx_ret1, hgv55_0, hgr55_0, hgu55_0, hgv55_6, hgr55_6, hgv55_41, hgr55_41, hgu55_41, hgv55_72, hgr55_72, hgu55_72, hgv55_78, hgr55_78, hgu55_78, hgI_SI, hgI_SJ, hgJ_SI, hgJ_SJ, if_true, if_false, reduceIte, Nat.reduceEqDiff, hgWf_SI, hgWf_SJ, hgO_SI, hgO_SJ, hgAr_SI, hgAr_SJ, hgRp_SI, hgRp_SJ, hgN_SI, hgN_SJ, hgO_g, hgO_d, hgO_rl, hgO_r, hgO_0, hgO_1, hgO_64, hgO_298, hgO_300, hgCd_0, hgCd_1, hgCd_2, hgCd_3, hgCd_4, hgCd_5, hgRecv_O, hgRecv_99, List.length_cons, List.length_nil, Nat.zero_add, Nat.add_zero, Nat.le_refl, Nat.zero_le, and_self, or_true, true_or, true_and, and_true, ne_eq, not_false_eq_true, Nat.reduceLT, Nat.reduceLeDiff, Nat.reduceAdd, Nat.reduceEqDiff, hgn_eq, hgn_lt, hgn_le, if_true, if_false, reduceIte, Nat.not_lt_zero, hgs_aa_d, hgs_aa_r, hgs_aa_h, hgs_aa_m, hgs_aa_t, hgs_ld_wp, hgs_st_wp, hgs_ld_qf, hgs_st_qf, hgs_ld_qt, hgs_st_qt, hgs_ld_2, hgs_st_2, hgs_ld_3, hgs_st_3, hgs_ld_4, hgs_st_4, hgs_ld_301, hgs_st_301, hgs_ld_D, hgs_st_D, hgs_ld_s, hgs_ld_T, hgs_st_T, hgs_ld_o, hgs_st_o, hgs_ld_b, hgs_st_b, hgs_ld_z, hgs_st_z, hgs_al_b, hgx_alen_s, hgn_add, hgn_mul, hw, hg, hn, h1, h2, h3, h4, f3, f4, b1, b2, b3, b4, q1', q2', q4]
          exact ih'
      · have q2' : vHi V i + 1 ≤ p := by omega
        have ih' := ih (i + 1) a (by omega) (by omega)
        rw [if_neg q2, if_neg q1]
        simp (maxDischargeDepth := 7) only [hgM_t, hgM_f, hgM_n, hgx_sipush_1000, hgx_istore_n_2i, hgx_istore_n_2r, hgx_istore_n_2f, hgx_istore_n_2n, hgx_istore_n_2l, hgx_iconst_0, hgx_istore_n_3i, hgx_istore_n_3r, hgx_istore_n_3f, hgx_istore_n_3n, hgx_istore_n_3l, hgx_iload_n_3, hgx_aload_n_0, hgx_get0, hgx_ic_ge, hgs_get_5_0, hgx_iload_n_1, hgx_ic_le, hgx_iload_n_2, hgx_min, hgx_iconst_1, hgx_iadd, hgx_iinc_3_1, hgx_goto, hgx_ret1, hgv55_0, hgr55_0, hgu55_0, hgv55_6, hgr55_6, hgv55_41, hgr55_41, hgu55_41, hgv55_72, hgr55_72, hgu55_72, hgv55_78, hgr55_78, hgu55_78, hgI_SI, hgI_SJ, hgJ_SI, hgJ_SJ, if_true, if_false, reduceIte, Nat.reduceEqDiff, hgWf_SI, hgWf_SJ, hgO_SI, hgO_SJ, hgAr_SI, hgAr_SJ, hgRp_SI, hgRp_SJ, hgN_SI, hgN_SJ, hgO_g, hgO_d, hgO_rl, hgO_r, hgO_0, hgO_1, hgO_64, hgO_298, hgO_300, hgCd_0, hgCd_1, hgCd_2, hgCd_3, hgCd_4, hgCd_5, hgRecv_O, hgRecv_99, List.length_cons, List.length_nil, Nat.zero_add, Nat.add_zero, Nat.le_refl, Nat.zero_le, and_self, or_true, true_or, true_and, and_true, ne_eq, not_false_eq_true, Nat.reduceLT, Nat.reduceLeDiff, Nat.reduceAdd, Nat.reduceEqDiff, hgn_eq, hgn_lt, hgn_le, if_true, if_false, reduceIte, Nat.not_lt_zero, hgs_aa_d, hgs_aa_r, hgs_aa_h, hgs_aa_m, hgs_aa_t, hgs_ld_wp, hgs_st_wp, hgs_ld_qf, hgs_st_qf, hgs_ld_qt, hgs_st_qt, hgs_ld_2, hgs_st_2, hgs_ld_3, hgs_st_3, hgs_ld_4, hgs_st_4, hgs_ld_301, hgs_st_301, hgs_ld_D, hgs_st_D, hgs_ld_s, hgs_ld_T, hgs_st_T, hgs_ld_o, hgs_st_o, hgs_ld_b, hgs_st_b, hgs_ld_z, hgs_st_z, hgs_al_b, hgx_alen_s, hgn_add, hgn_mul, hw, hg, hn, h1, h2, h3, h4, f3, f4, b1, b2, b3, b4, q1', q2']
        exact ih'
theorem hgCV_55 (hw : hgWf M) (hk : hgVok V c) (h : hgCV M g V) (hp : p ≤ 1000) : hgWC X 55 [.ref (g + 12), .int (nI p)] M = some (.inl (.int (nI (hgNe V p 0 (vR V) 1000))), M) := by
  have k := hgk_55l (X := X) hw hk h hp (vR V) 0 1000 (by omega) (by omega)
  simp (maxDischargeDepth := 7) only [hgc55, hgM_t, hgM_f, hgM_n, hgx_sipush_1000, hgx_istore_n_2i, hgx_istore_n_2r, hgx_istore_n_2f, hgx_istore_n_2n, hgx_istore_n_2l, hgx_iconst_0, hgx_istore_n_3i, hgx_istore_n_3r, hgx_istore_n_3f, hgx_istore_n_3n, hgx_istore_n_3l, hgx_iload_n_3, hgx_aload_n_0, hgx_get0, hgx_ic_ge, hgs_get_5_0, hgx_iload_n_1, hgx_ic_le, hgx_iload_n_2, hgx_min, hgx_iconst_1, hgx_iadd, hgx_iinc_3_1, hgx_goto, hgx_ret1, hgv55_0, hgr55_0, hgu55_0, hgv55_6, ← hgu55_6, hgv55_41, hgr55_41, hgu55_41, hgv55_72, hgr55_72, hgu55_72, hgv55_78, hgr55_78, hgu55_78, hgI_SI, hgI_SJ, hgJ_SI, hgJ_SJ, if_true, if_false, reduceIte, Nat.reduceEqDiff, hgWf_SI, hgWf_SJ, hgO_SI, hgO_SJ, hgAr_SI, hgAr_SJ, hgRp_SI, hgRp_SJ, hgN_SI, hgN_SJ, hgO_g, hgO_d, hgO_rl, hgO_r, hgO_0, hgO_1, hgO_64, hgO_298, hgO_300, hgCd_0, hgCd_1, hgCd_2, hgCd_3, hgCd_4, hgCd_5, hgRecv_O, hgRecv_99, List.length_cons, List.length_nil, Nat.zero_add, Nat.add_zero, Nat.le_refl, Nat.zero_le, and_self, or_true, true_or, true_and, and_true, ne_eq, not_false_eq_true, Nat.reduceLT, Nat.reduceLeDiff, Nat.reduceAdd, Nat.reduceEqDiff, hgn_eq, hgn_lt, hgn_le, if_true, if_false, reduceIte, Nat.not_lt_zero]
  exact k
theorem hgCV_17 (hw : hgWf M) (hm : hgSm V) (ho : ∀ i, o = some i → i < vN V) (h : hgCV M g V) : hgWC X 17 [.ref g, .int (hgOi o)] M = some (.inl (.int (vGp V o)), M) := by
  rw [hgk_17 hw h.1 h.2.1 hm.1 ho, hgCV_gp h ho]
theorem hgCV_18 (hw : hgWf M) (hm : hgSm V) (ho : ∀ i, o = some i → i < vN V) (hi : i < vN V) (h : hgCV M g V) : hgWC X 18 [.ref g, .int (hgOi o), .int (nI i)] M = some (.inl (.int (hgB (vIso V o i))), M) := by
  rw [hgk_18 hw h.1 h.2.1 hm.1 ho hi]
  unfold hgIso vIso
  rw [hgCV_gp h ho, hgCV_gp (o := some i) h (fun q hq => by cases hq; exact hi)]
theorem hgCV_19 (hw : hgWf M) (hk : hgVok V c) (h : hgCV M g V) : hgWC X 19 [.ref g, .int s, .int r, .int x] M = some (.inl (.int (hgB (vOpen V s r x))), M) := by
  have hr := h.2.2.2.2.2.2.2.2.2.2.2.2.1
  rw [hgk_19 hw h.1 h.2.2.1 hk.2.1 (fun j hj => by rw [hr j hj 0 (by omega)]; exact hk.2.2.2.2.1 j hj)]
  unfold hgOp vOpen
  rw [hgCV_fst h]
  cases hf : vFst V s r x with
  | none => rfl
  | some j =>
    have hj : j < vR V := by have := hgFind_lt hf; omega
    simp only [hr j hj 0 (by omega)]
theorem hgk_21l (hw : hgWf M) (hk : hgVok V c) (ho : ∀ i, o = some i → i < vN V) (hi : i < vN V) (h : hgCV M g V) : ∀ (F p cn op : Nat) (v6 : Option Value), 1000 - p ≤ F → p ≤ 1000 → cn ≤ 25 → (p < 1000 → cn + hgMs V p 0 (vR V) ≤ 24) → hgW X 21 19 [some (.ref g), some (.int (hgOi o)), some (.int (nI i)), some (.int (nI op)), some (.int (nI p)), some (.int (nI cn)), v6] [] (0, 0) M = some (.inl (.int (nI (op + hgPc (fun q => vOpen V (vGp V o) (vGp V (some i)) (nI q)) p (1000 - p)))), M) := by
  intro F
  have hm := hgSm_ok hk
  have hg := h.1
  induction F with
  | zero =>
    intro p cn op v6 h1 h2 h3 h5
    have e : p = 1000 := by omega
    subst e
    have b1 : cn < 2147483648 := by omega
    rw [hgu21_19]
    by_cases q : 24 < cn
    · simp (maxDischargeDepth := 7) only [hgM_t, hgM_f, hgM_n, hgx_aload_n_0, hgx_iload_n_1, hgx_iload_n_2, hgx_invvirtual_3, hgx_aft_e, hgx_aft_i, hgx_aft_l, hgx_aft_v, hgx_if_eq, hgx_iconst_0, hgx_ret1, hgx_istore_n_3i, hgx_istore_n_3r, hgx_istore_n_3f, hgx_istore_n_3n, hgx_istore_n_3l, hgx_istore_4i, hgx_istore_4r, hgx_istore_4f, hgx_istore_4n, hgx_istore_4l, hgx_istore_5i, hgx_istore_5r, hgx_istore_5f, hgx_istore_5n, hgx_istore_5l, hgx_iload_5, hgx_bipush_24, hgx_ic_gt, hgx_iload_4, hgx_sipush_1000, hgx_ic_ge, hgs_get_1_7, hgx_invvirtual_2, hgx_istore_6i, hgx_istore_6r, hgx_istore_6f, hgx_istore_6n, hgx_istore_6l, hgx_invvirtual_4, hgx_iload_n_3, hgx_iload_6, hgx_isub, hgx_iadd, hgx_iinc_5_1, hgx_goto, hgv21_0, hgr21_0, hgu21_0, hgv21_11, hgr21_11, hgu21_11, hgv21_19, hgr21_19, hgv21_72, hgr21_72, hgu21_72, hgv21_82, hgr21_82, hgu21_82, hgI_SI, hgI_SJ, hgJ_SI, hgJ_SJ, if_true, if_false, reduceIte, Nat.reduceEqDiff, hgWf_SI, hgWf_SJ, hgO_SI, hgO_SJ, hgAr_SI, hgAr_SJ, hgRp_SI, hgRp_SJ, hgN_SI, hgN_SJ, hgO_g, hgO_d, hgO_rl, hgO_r, hgO_0, hgO_1, hgO_64, hgO_298, hgO_300, hgCd_0, hgCd_1, hgCd_2, hgCd_3, hgCd_4, hgCd_5, hgRecv_O, hgRecv_99, List.length_cons, List.length_nil, Nat.zero_add, Nat.add_zero, Nat.le_refl, Nat.zero_le, and_self, or_true, true_or, true_and, and_true, ne_eq, not_false_eq_true, Nat.reduceLT, Nat.reduceLeDiff, Nat.reduceAdd, Nat.reduceEqDiff, hgn_eq, hgn_lt, hgn_le, if_true, if_false, reduceIte, Nat.not_lt_zero, b1, q, hgPc, Nat.sub_self]
    · simp (maxDischargeDepth := 7) only [hgM_t, hgM_f, hgM_n, hgx_aload_n_0, hgx_iload_n_1, hgx_iload_n_2, hgx_invvirtual_3, hgx_aft_e, hgx_aft_i, hgx_aft_l, hgx_aft_v, hgx_if_eq, hgx_iconst_0, hgx_ret1, hgx_istore_n_3i, hgx_istore_n_3r, hgx_istore_n_3f, hgx_istore_n_3n, hgx_istore_n_3l, hgx_istore_4i, hgx_istore_4r, hgx_istore_4f, hgx_istore_4n, hgx_istore_4l, hgx_istore_5i, hgx_istore_5r, hgx_istore_5f, hgx_istore_5n, hgx_istore_5l, hgx_iload_5, hgx_bipush_24, hgx_ic_gt, hgx_iload_4, hgx_sipush_1000, hgx_ic_ge, hgs_get_1_7, hgx_invvirtual_2, hgx_istore_6i, hgx_istore_6r, hgx_istore_6f, hgx_istore_6n, hgx_istore_6l, hgx_invvirtual_4, hgx_iload_n_3, hgx_iload_6, hgx_isub, hgx_iadd, hgx_iinc_5_1, hgx_goto, hgv21_0, hgr21_0, hgu21_0, hgv21_11, hgr21_11, hgu21_11, hgv21_19, hgr21_19, hgv21_72, hgr21_72, hgu21_72, hgv21_82, hgr21_82, hgu21_82, hgI_SI, hgI_SJ, hgJ_SI, hgJ_SJ, if_true, if_false, reduceIte, Nat.reduceEqDiff, hgWf_SI, hgWf_SJ, hgO_SI, hgO_SJ, hgAr_SI, hgAr_SJ, hgRp_SI, hgRp_SJ, hgN_SI, hgN_SJ, hgO_g, hgO_d, hgO_rl, hgO_r, hgO_0, hgO_1, hgO_64, hgO_298, hgO_300, hgCd_0, hgCd_1, hgCd_2, hgCd_3, hgCd_4, hgCd_5, hgRecv_O, hgRecv_99, List.length_cons, List.length_nil, Nat.zero_add, Nat.add_zero, Nat.le_refl, Nat.zero_le, and_self, or_true, true_or, true_and, and_true, ne_eq, not_false_eq_true, Nat.reduceLT, Nat.reduceLeDiff, Nat.reduceAdd, Nat.reduceEqDiff, hgn_eq, hgn_lt, hgn_le, if_true, if_false, reduceIte, Nat.not_lt_zero, b1, q, hgPc, Nat.sub_self]
  | succ F ih =>
    intro p cn op v6 h1 h2 h3 h5
    have b1 : cn < 2147483648 := by omega
    have b2 : p < 2147483648 := by omega
    by_cases hp : p < 1000
    · have q : ¬ 24 < cn := by have := h5 hp; omega
      have q2 : ¬ 1000 ≤ p := by omega
      obtain ⟨f1, f2, f3, f4⟩ := hgNe_f (V := V) (p := p) (vR V) 0 1000
      have f3' := f3 hp
      obtain ⟨e, he⟩ : ∃ e, e = hgNe V p 0 (vR V) 1000 := ⟨_, rfl⟩
      rw [← he] at f1 f3' f4
      have k55 := hgCV_55 (X := X) hw hk h (show p ≤ 1000 by omega)
      rw [← he] at k55
      have k17 := hgCV_17 (X := X) hw hm ho h
      have k17' : hgWC X 17 [.ref g, .int (nI i)] M = some (.inl (.int (vGp V (some i))), M) := hgCV_17 (o := some i) hw hm (fun q hq => by cases hq; exact hi) h
      have k19 := hgCV_19 (X := X) (s := vGp V o) (r := vGp V (some i)) (x := nI p) hw hk h
      have hc : ∀ q, p ≤ q → q < p + (e - p) → (fun q => vOpen V (vGp V o) (vGp V (some i)) (nI q)) q = vOpen V (vGp V o) (vGp V (some i)) (nI p) := fun q z1 z2 => vOpen_c hk z1 (by omega) (by omega)
      have cs := hgPc_s (f := fun q => vOpen V (vGp V o) (vGp V (some i)) (nI q)) (e - p) (1000 - e) p
      rw [(hgsub3 f3' f1).1, (hgsub3 f3' f1).2, hgPc_c (e - p) p hc] at cs
      have b3 : p ≤ e := by omega
      have hnx : e < 1000 → cn + 1 + hgMs V e 0 (vR V) ≤ 24 := fun he2 => by
        have h5' := h5 hp
        rcases f4 with w | w
        · omega
        · have := hgMs_lt (V := V) f3' (vR V) 0 w
          omega
      have cl := hgPc_le (f := fun q => vOpen V (vGp V o) (vGp V (some i)) (nI q)) (1000 - p) p
      rw [hgu21_19]
      cases hO : vOpen V (vGp V o) (vGp V (some i)) (nI p) with
      | true =>
        rw [hO] at k19 cs
        have ih' := ih e (cn + 1) (op + (e - p)) none (by omega) f1 (by omega) hnx
        rw [cs, if_pos rfl, ← Nat.add_assoc]
        simp (maxDischargeDepth := 7) only [hgM_t, hgM_f, hgM_n, hgx_aload_n_0, hgx_iload_n_1, hgx_iload_n_2, hgx_invvirtual_3, hgx_aft_e, hgx_aft_i, hgx_aft_l, hgx_aft_v, hgx_if_eq, hgx_iconst_0, hgx_ret1, hgx_istore_n_3i, hgx_istore_n_3r, hgx_istore_n_3f, hgx_istore_n_3n, hgx_istore_n_3l, hgx_istore_4i, hgx_istore_4r, hgx_istore_4f, hgx_istore_4n, hgx_istore_4l, hgx_istore_5i, hgx_istore_5r, hgx_istore_5f, hgx_istore_5n, hgx_istore_5l, hgx_iload_5, hgx_bipush_24, hgx_ic_gt, hgx_iload_4, hgx_sipush_1000, hgx_ic_ge, hgs_get_1_7, hgx_invvirtual_2, hgx_istore_6i, hgx_istore_6r, hgx_istore_6f, hgx_istore_6n, hgx_istore_6l, hgx_invvirtual_4, hgx_iload_n_3, hgx_iload_6, hgx_isub, hgx_iadd, hgx_iinc_5_1, hgx_goto, hgv21_0, hgr21_0, hgu21_0, hgv21_11, hgr21_11, hgu21_11, hgv21_19, hgr21_19, hgv21_72, hgr21_72, hgu21_72, hgv21_82, hgr21_82, hgu21_82, hgI_SI, hgI_SJ, hgJ_SI, hgJ_SJ, if_true, if_false, reduceIte, Nat.reduceEqDiff, hgWf_SI, hgWf_SJ, hgO_SI, hgO_SJ, hgAr_SI, hgAr_SJ, hgRp_SI, hgRp_SJ, hgN_SI, hgN_SJ, hgO_g, hgO_d, hgO_rl, hgO_r, hgO_0, hgO_1, hgO_64, hgO_298, hgO_300, hgCd_0, hgCd_1, hgCd_2, hgCd_3, hgCd_4, hgCd_5, hgRecv_O, hgRecv_99, List.length_cons, List.length_nil, Nat.zero_add, Nat.add_zero, Nat.le_refl, Nat.zero_le, and_self, or_true, true_or, true_and, and_true, ne_eq, not_false_eq_true, Nat.reduceLT, Nat.reduceLeDiff, Nat.reduceAdd, Nat.reduceEqDiff, hgn_eq, hgn_lt, hgn_le, if_true, if_false, reduceIte, Nat.not_lt_zero, hgn_add, hgn_mul, hw, hg, b1, b2, q, q2, k55, k17, k17', k19, hgB_t, hgn_sub, b3]
        exact ih'
      | false =>
        rw [hO] at k19 cs
        have ih' := ih e (cn + 1) op none (by omega) f1 (by omega) hnx
        rw [cs, if_neg (by decide), Nat.zero_add]
        simp (maxDischargeDepth := 7) only [hgM_t, hgM_f, hgM_n, hgx_aload_n_0, hgx_iload_n_1, hgx_iload_n_2, hgx_invvirtual_3, hgx_aft_e, hgx_aft_i, hgx_aft_l, hgx_aft_v, hgx_if_eq, hgx_iconst_0, hgx_ret1, hgx_istore_n_3i, hgx_istore_n_3r, hgx_istore_n_3f, hgx_istore_n_3n, hgx_istore_n_3l, hgx_istore_4i, hgx_istore_4r, hgx_istore_4f, hgx_istore_4n, hgx_istore_4l, hgx_istore_5i, hgx_istore_5r, hgx_istore_5f, hgx_istore_5n, hgx_istore_5l, hgx_iload_5, hgx_bipush_24, hgx_ic_gt, hgx_iload_4, hgx_sipush_1000, hgx_ic_ge, hgs_get_1_7, hgx_invvirtual_2, hgx_istore_6i, hgx_istore_6r, hgx_istore_6f, hgx_istore_6n, hgx_istore_6l, hgx_invvirtual_4, hgx_iload_n_3, hgx_iload_6, hgx_isub, hgx_iadd, hgx_iinc_5_1, hgx_goto, hgv21_0, hgr21_0, hgu21_0, hgv21_11, hgr21_11, hgu21_11, hgv21_19, hgr21_19, hgv21_72, hgr21_72, hgu21_72, hgv21_82, hgr21_82, hgu21_82, hgI_SI, hgI_SJ, hgJ_SI, hgJ_SJ, if_true, if_false, reduceIte, Nat.reduceEqDiff, hgWf_SI, hgWf_SJ, hgO_SI, hgO_SJ, hgAr_SI, hgAr_SJ, hgRp_SI, hgRp_SJ, hgN_SI, hgN_SJ, hgO_g, hgO_d, hgO_rl, hgO_r, hgO_0, hgO_1, hgO_64, hgO_298, hgO_300, hgCd_0, hgCd_1, hgCd_2, hgCd_3, hgCd_4, hgCd_5, hgRecv_O, hgRecv_99, List.length_cons, List.length_nil, Nat.zero_add, Nat.add_zero, Nat.le_refl, Nat.zero_le, and_self, or_true, true_or, true_and, and_true, ne_eq, not_false_eq_true, Nat.reduceLT, Nat.reduceLeDiff, Nat.reduceAdd, Nat.reduceEqDiff, hgn_eq, hgn_lt, hgn_le, if_true, if_false, reduceIte, Nat.not_lt_zero, hgn_add, hgn_mul, hw, hg, b1, b2, q, q2, k55, k17, k17', k19, hgB_f]
        exact ih'
    · have e : p = 1000 := by omega
      subst e
      rw [hgu21_19]
      by_cases q : 24 < cn
      · simp (maxDischargeDepth := 7) only [hgM_t, hgM_f, hgM_n, hgx_aload_n_0, hgx_iload_n_1, hgx_iload_n_2, hgx_invvirtual_3, hgx_aft_e, hgx_aft_i, hgx_aft_l, hgx_aft_v, hgx_if_eq, hgx_iconst_0, hgx_ret1, hgx_istore_n_3i, hgx_istore_n_3r, hgx_istore_n_3f, hgx_istore_n_3n, hgx_istore_n_3l, hgx_istore_4i, hgx_istore_4r, hgx_istore_4f, hgx_istore_4n, hgx_istore_4l, hgx_istore_5i, hgx_istore_5r, hgx_istore_5f, hgx_istore_5n, hgx_istore_5l, hgx_iload_5, hgx_bipush_24, hgx_ic_gt, hgx_iload_4, hgx_sipush_1000, hgx_ic_ge, hgs_get_1_7, hgx_invvirtual_2, hgx_istore_6i, hgx_istore_6r, hgx_istore_6f, hgx_istore_6n, hgx_istore_6l, hgx_invvirtual_4, hgx_iload_n_3, hgx_iload_6, hgx_isub, hgx_iadd, hgx_iinc_5_1, hgx_goto, hgv21_0, hgr21_0, hgu21_0, hgv21_11, hgr21_11, hgu21_11, hgv21_19, hgr21_19, hgv21_72, hgr21_72, hgu21_72, hgv21_82, hgr21_82, hgu21_82, hgI_SI, hgI_SJ, hgJ_SI, hgJ_SJ, if_true, if_false, reduceIte, Nat.reduceEqDiff, hgWf_SI, hgWf_SJ, hgO_SI, hgO_SJ, hgAr_SI, hgAr_SJ, hgRp_SI, hgRp_SJ, hgN_SI, hgN_SJ, hgO_g, hgO_d, hgO_rl, hgO_r, hgO_0, hgO_1, hgO_64, hgO_298, hgO_300, hgCd_0, hgCd_1, hgCd_2, hgCd_3, hgCd_4, hgCd_5, hgRecv_O, hgRecv_99, List.length_cons, List.length_nil, Nat.zero_add, Nat.add_zero, Nat.le_refl, Nat.zero_le, and_self, or_true, true_or, true_and, and_true, ne_eq, not_false_eq_true, Nat.reduceLT, Nat.reduceLeDiff, Nat.reduceAdd, Nat.reduceEqDiff, hgn_eq, hgn_lt, hgn_le, if_true, if_false, reduceIte, Nat.not_lt_zero, b1, q, hgPc, Nat.sub_self]
      · simp (maxDischargeDepth := 7) only [hgM_t, hgM_f, hgM_n, hgx_aload_n_0, hgx_iload_n_1, hgx_iload_n_2, hgx_invvirtual_3, hgx_aft_e, hgx_aft_i, hgx_aft_l, hgx_aft_v, hgx_if_eq, hgx_iconst_0, hgx_ret1, hgx_istore_n_3i, hgx_istore_n_3r, hgx_istore_n_3f, hgx_istore_n_3n, hgx_istore_n_3l, hgx_istore_4i, hgx_istore_4r, hgx_istore_4f, hgx_istore_4n, hgx_istore_4l, hgx_istore_5i, hgx_istore_5r, hgx_istore_5f, hgx_istore_5n, hgx_istore_5l, hgx_iload_5, hgx_bipush_24, hgx_ic_gt, hgx_iload_4, hgx_sipush_1000, hgx_ic_ge, hgs_get_1_7, hgx_invvirtual_2, hgx_istore_6i, hgx_istore_6r, hgx_istore_6f, hgx_istore_6n, hgx_istore_6l, hgx_invvirtual_4, hgx_iload_n_3, hgx_iload_6, hgx_isub, hgx_iadd, hgx_iinc_5_1, hgx_goto, hgv21_0, hgr21_0, hgu21_0, hgv21_11, hgr21_11, hgu21_11, hgv21_19, hgr21_19, hgv21_72, hgr21_72, hgu21_72, hgv21_82, hgr21_82, hgu21_82, hgI_SI, hgI_SJ, hgJ_SI, hgJ_SJ, if_true, if_false, reduceIte, Nat.reduceEqDiff, hgWf_SI, hgWf_SJ, hgO_SI, hgO_SJ, hgAr_SI, hgAr_SJ, hgRp_SI, hgRp_SJ, hgN_SI, hgN_SJ, hgO_g, hgO_d, hgO_rl, hgO_r, hgO_0, hgO_1, hgO_64, hgO_298, hgO_300, hgCd_0, hgCd_1, hgCd_2, hgCd_3, hgCd_4, hgCd_5, hgRecv_O, hgRecv_99, List.length_cons, List.length_nil, Nat.zero_add, Nat.add_zero, Nat.le_refl, Nat.zero_le, and_self, or_true, true_or, true_and, and_true, ne_eq, not_false_eq_true, Nat.reduceLT, Nat.reduceLeDiff, Nat.reduceAdd, Nat.reduceEqDiff, hgn_eq, hgn_lt, hgn_le, if_true, if_false, reduceIte, Nat.not_lt_zero, b1, q, hgPc, Nat.sub_self]
/-- how many ports are open -/
def vOps (V : hgV) (o : Option Nat) (i : Nat) : Nat := hgPc (fun q => decide (vJudge V o i (nI q) = nI 0)) 0 1000
theorem vJudge_0 : decide (vJudge V o i x = nI 0) = (!vIso V o i && vOpen V (vGp V o) (vGp V (some i)) x) := by
  unfold vJudge
  cases vIso V o i <;> cases vOpen V (vGp V o) (vGp V (some i)) x <;> decide
theorem hgCV_21 (hw : hgWf M) (hk : hgVok V c) (ho : ∀ i, o = some i → i < vN V) (hi : i < vN V) (h : hgCV M g V) : hgWC X 21 [.ref g, .int (hgOi o), .int (nI i)] M = some (.inl (.int (nI (vOps V o i))), M) := by
  have hm := hgSm_ok hk
  have hg := h.1
  have k18 := hgCV_18 (X := X) hw hm ho hi h
  have m2 := hgMs_2 (V := V) (p := 0) (vR V) 0
  have hr := hk.2.1
  have kl := hgk_21l (X := X) hw hk ho hi h 1000 0 0 0 none (by omega) (by omega) (by omega) (fun _ => by omega)
  cases hI : vIso V o i with
  | true =>
    rw [hI] at k18
    have e : vOps V o i = 0 := by
      unfold vOps
      rw [hgPc_c (v := false) 1000 0 (fun q _ _ => by rw [vJudge_0, hI]; rfl)]
      rfl
    rw [e]
    simp (maxDischargeDepth := 7) only [hgc21, hgM_t, hgM_f, hgM_n, hgx_aload_n_0, hgx_iload_n_1, hgx_iload_n_2, hgx_invvirtual_3, hgx_aft_e, hgx_aft_i, hgx_aft_l, hgx_aft_v, hgx_if_eq, hgx_iconst_0, hgx_ret1, hgx_istore_n_3i, hgx_istore_n_3r, hgx_istore_n_3f, hgx_istore_n_3n, hgx_istore_n_3l, hgx_istore_4i, hgx_istore_4r, hgx_istore_4f, hgx_istore_4n, hgx_istore_4l, hgx_istore_5i, hgx_istore_5r, hgx_istore_5f, hgx_istore_5n, hgx_istore_5l, hgx_iload_5, hgx_bipush_24, hgx_ic_gt, hgx_iload_4, hgx_sipush_1000, hgx_ic_ge, hgs_get_1_7, hgx_invvirtual_2, hgx_istore_6i, hgx_istore_6r, hgx_istore_6f, hgx_istore_6n, hgx_istore_6l, hgx_invvirtual_4, hgx_iload_n_3, hgx_iload_6, hgx_isub, hgx_iadd, hgx_iinc_5_1, hgx_goto, hgv21_0, hgr21_0, hgu21_0, hgv21_11, hgr21_11, hgu21_11, hgv21_19, ← hgu21_19, hgv21_72, hgr21_72, hgu21_72, hgv21_82, hgr21_82, hgu21_82, hgI_SI, hgI_SJ, hgJ_SI, hgJ_SJ, if_true, if_false, reduceIte, Nat.reduceEqDiff, hgWf_SI, hgWf_SJ, hgO_SI, hgO_SJ, hgAr_SI, hgAr_SJ, hgRp_SI, hgRp_SJ, hgN_SI, hgN_SJ, hgO_g, hgO_d, hgO_rl, hgO_r, hgO_0, hgO_1, hgO_64, hgO_298, hgO_300, hgCd_0, hgCd_1, hgCd_2, hgCd_3, hgCd_4, hgCd_5, hgRecv_O, hgRecv_99, List.length_cons, List.length_nil, Nat.zero_add, Nat.add_zero, Nat.le_refl, Nat.zero_le, and_self, or_true, true_or, true_and, and_true, ne_eq, not_false_eq_true, Nat.reduceLT, Nat.reduceLeDiff, Nat.reduceAdd, Nat.reduceEqDiff, hgn_eq, hgn_lt, hgn_le, if_true, if_false, reduceIte, Nat.not_lt_zero, hw, hg, k18, hgB_t]
  | false =>
    rw [hI] at k18
    have e : (fun q => vOpen V (vGp V o) (vGp V (some i)) (nI q)) = (fun q => decide (vJudge V o i (nI q) = nI 0)) := by
      funext q
      rw [vJudge_0, hI]
      rfl
    rw [e, Nat.zero_add, Nat.sub_zero] at kl
    simp (maxDischargeDepth := 7) only [hgc21, hgM_t, hgM_f, hgM_n, hgx_aload_n_0, hgx_iload_n_1, hgx_iload_n_2, hgx_invvirtual_3, hgx_aft_e, hgx_aft_i, hgx_aft_l, hgx_aft_v, hgx_if_eq, hgx_iconst_0, hgx_ret1, hgx_istore_n_3i, hgx_istore_n_3r, hgx_istore_n_3f, hgx_istore_n_3n, hgx_istore_n_3l, hgx_istore_4i, hgx_istore_4r, hgx_istore_4f, hgx_istore_4n, hgx_istore_4l, hgx_istore_5i, hgx_istore_5r, hgx_istore_5f, hgx_istore_5n, hgx_istore_5l, hgx_iload_5, hgx_bipush_24, hgx_ic_gt, hgx_iload_4, hgx_sipush_1000, hgx_ic_ge, hgs_get_1_7, hgx_invvirtual_2, hgx_istore_6i, hgx_istore_6r, hgx_istore_6f, hgx_istore_6n, hgx_istore_6l, hgx_invvirtual_4, hgx_iload_n_3, hgx_iload_6, hgx_isub, hgx_iadd, hgx_iinc_5_1, hgx_goto, hgv21_0, hgr21_0, hgu21_0, hgv21_11, hgr21_11, hgu21_11, hgv21_19, ← hgu21_19, hgv21_72, hgr21_72, hgu21_72, hgv21_82, hgr21_82, hgu21_82, hgI_SI, hgI_SJ, hgJ_SI, hgJ_SJ, if_true, if_false, reduceIte, Nat.reduceEqDiff, hgWf_SI, hgWf_SJ, hgO_SI, hgO_SJ, hgAr_SI, hgAr_SJ, hgRp_SI, hgRp_SJ, hgN_SI, hgN_SJ, hgO_g, hgO_d, hgO_rl, hgO_r, hgO_0, hgO_1, hgO_64, hgO_298, hgO_300, hgCd_0, hgCd_1, hgCd_2, hgCd_3, hgCd_4, hgCd_5, hgRecv_O, hgRecv_99, List.length_cons, List.length_nil, Nat.zero_add, Nat.add_zero, Nat.le_refl, Nat.zero_le, and_self, or_true, true_or, true_and, and_true, ne_eq, not_false_eq_true, Nat.reduceLT, Nat.reduceLeDiff, Nat.reduceAdd, Nat.reduceEqDiff, hgn_eq, hgn_lt, hgn_le, if_true, if_false, reduceIte, Nat.not_lt_zero, hw, hg, k18, hgB_f]
    exact kl
theorem hgk_186l (hw : hgWf M) (hk : hgVok V c) (ho : ∀ i, o = some i → i < vN V) (hi : i < vN V) (h : hgRV M 302 314 V) : ∀ (k p n : Nat), p + k = 1000 → hgW X 186 28 [some (.ref 300), some (.int (hgOi o)), some (.int (nI i)), some (.int (nI n)), some (.int (nI p))] [] (0, 0) M = some (.inl (.int (nI (n + hgPc (fun q => decide (vJudge V o i (nI q) = nI 0)) p k))), M) := by
  intro k
  induction k with
  | zero =>
    intro p n hp
    have h1 : p < 2147483648 := by omega
    have h3 : 999 < p := by omega
    rw [hgu186_28]
    simp (maxDischargeDepth := 7) only [hgM_t, hgM_f, hgM_n, hgx_aload_n_0, hgx_iconst_0, hgx_put0, hgx_iload_n_1, hgx_invvirtual_2, hgx_aft_e, hgx_aft_i, hgx_aft_l, hgx_aft_v, hgx_if_ne, hgx_iload_n_2, hgx_if_eq, hgx_ret1, hgx_istore_n_3i, hgx_istore_n_3r, hgx_istore_n_3f, hgx_istore_n_3n, hgx_istore_n_3l, hgx_istore_4i, hgx_istore_4r, hgx_istore_4f, hgx_istore_4n, hgx_istore_4l, hgx_iload_4, hgx_sipush_999, hgx_ic_gt, hgx_iload_n_3, hgx_invvirtual_4, hgx_iconst_1, hgx_goto, hgx_iadd, hgx_iinc_4_1, hgv186_0, hgr186_0, hgu186_0, hgv186_21, hgr186_21, hgu186_21, hgv186_23, hgr186_23, hgu186_23, hgv186_28, hgr186_28, hgv186_52, hgr186_52, hgu186_52, hgv186_53, hgr186_53, hgu186_53, hgv186_61, hgr186_61, hgu186_61, hgI_SI, hgI_SJ, hgJ_SI, hgJ_SJ, if_true, if_false, reduceIte, Nat.reduceEqDiff, hgWf_SI, hgWf_SJ, hgO_SI, hgO_SJ, hgAr_SI, hgAr_SJ, hgRp_SI, hgRp_SJ, hgN_SI, hgN_SJ, hgO_g, hgO_d, hgO_rl, hgO_r, hgO_0, hgO_1, hgO_64, hgO_298, hgO_300, hgCd_0, hgCd_1, hgCd_2, hgCd_3, hgCd_4, hgCd_5, hgRecv_O, hgRecv_99, List.length_cons, List.length_nil, Nat.zero_add, Nat.add_zero, Nat.le_refl, Nat.zero_le, and_self, or_true, true_or, true_and, and_true, ne_eq, not_false_eq_true, Nat.reduceLT, Nat.reduceLeDiff, Nat.reduceAdd, Nat.reduceEqDiff, hgn_eq, hgn_lt, hgn_le, if_true, if_false, reduceIte, Nat.not_lt_zero, h1, h3, hgPc]
  | succ k ih =>
    intro p n hp
    have h1 : p < 2147483648 := by omega
    have h3 : ¬ 999 < p := by omega
    have k9 := hgRV_159 (X := X) (z := nI p) hw h hk ho hi
    have e : hgPc (fun q => decide (vJudge V o i (nI q) = nI 0)) p (k + 1) = (if decide (vJudge V o i (nI p) = nI 0) = true then 1 else 0) + hgPc (fun q => decide (vJudge V o i (nI q) = nI 0)) (p + 1) k := rfl
    rw [hgu186_28, e]
    by_cases q : vJudge V o i (nI p) = nI 0
    · have ih' := ih (p + 1) (n + 1) (by omega)
      rw [if_pos (decide_eq_true q), ← Nat.add_assoc]
      rw [q] at k9
      simp (maxDischargeDepth := 7) only [hgM_t, hgM_f, hgM_n, hgx_aload_n_0, hgx_iconst_0, hgx_put0, hgx_iload_n_1, hgx_invvirtual_2, hgx_aft_e, hgx_aft_i, hgx_aft_l, hgx_aft_v, hgx_if_ne, hgx_iload_n_2, hgx_if_eq, hgx_ret1, hgx_istore_n_3i, hgx_istore_n_3r, hgx_istore_n_3f, hgx_istore_n_3n, hgx_istore_n_3l, hgx_istore_4i, hgx_istore_4r, hgx_istore_4f, hgx_istore_4n, hgx_istore_4l, hgx_iload_4, hgx_sipush_999, hgx_ic_gt, hgx_iload_n_3, hgx_invvirtual_4, hgx_iconst_1, hgx_goto, hgx_iadd, hgx_iinc_4_1, hgv186_0, hgr186_0, hgu186_0, hgv186_21, hgr186_21, hgu186_21, hgv186_23, hgr186_23, hgu186_23, hgv186_28, hgr186_28, hgv186_52, hgr186_52, hgu186_52, hgv186_53, hgr186_53, hgu186_53, hgv186_61, hgr186_61, hgu186_61, hgI_SI, hgI_SJ, hgJ_SI, hgJ_SJ, if_true, if_false, reduceIte, Nat.reduceEqDiff, hgWf_SI, hgWf_SJ, hgO_SI, hgO_SJ, hgAr_SI, hgAr_SJ, hgRp_SI, hgRp_SJ, hgN_SI, hgN_SJ, hgO_g, hgO_d, hgO_rl, hgO_r, hgO_0, hgO_1, hgO_64, hgO_298, hgO_300, hgCd_0, hgCd_1, hgCd_2, hgCd_3, hgCd_4, hgCd_5, hgRecv_O, hgRecv_99, List.length_cons, List.length_nil, Nat.zero_add, Nat.add_zero, Nat.le_refl, Nat.zero_le, and_self, or_true, true_or, true_and, and_true, ne_eq, not_false_eq_true, Nat.reduceLT, Nat.reduceLeDiff, Nat.reduceAdd, Nat.reduceEqDiff, hgn_eq, hgn_lt, hgn_le, if_true, if_false, reduceIte, Nat.not_lt_zero, hgn_add, hgn_mul, hw, h1, h3, k9]
      exact ih'
    · have ih' := ih (p + 1) n (by omega)
      rw [if_neg (fun w => q (of_decide_eq_true w)), Nat.zero_add]
      simp (maxDischargeDepth := 7) only [hgM_t, hgM_f, hgM_n, hgx_aload_n_0, hgx_iconst_0, hgx_put0, hgx_iload_n_1, hgx_invvirtual_2, hgx_aft_e, hgx_aft_i, hgx_aft_l, hgx_aft_v, hgx_if_ne, hgx_iload_n_2, hgx_if_eq, hgx_ret1, hgx_istore_n_3i, hgx_istore_n_3r, hgx_istore_n_3f, hgx_istore_n_3n, hgx_istore_n_3l, hgx_istore_4i, hgx_istore_4r, hgx_istore_4f, hgx_istore_4n, hgx_istore_4l, hgx_iload_4, hgx_sipush_999, hgx_ic_gt, hgx_iload_n_3, hgx_invvirtual_4, hgx_iconst_1, hgx_goto, hgx_iadd, hgx_iinc_4_1, hgv186_0, hgr186_0, hgu186_0, hgv186_21, hgr186_21, hgu186_21, hgv186_23, hgr186_23, hgu186_23, hgv186_28, hgr186_28, hgv186_52, hgr186_52, hgu186_52, hgv186_53, hgr186_53, hgu186_53, hgv186_61, hgr186_61, hgu186_61, hgI_SI, hgI_SJ, hgJ_SI, hgJ_SJ, if_true, if_false, reduceIte, Nat.reduceEqDiff, hgWf_SI, hgWf_SJ, hgO_SI, hgO_SJ, hgAr_SI, hgAr_SJ, hgRp_SI, hgRp_SJ, hgN_SI, hgN_SJ, hgO_g, hgO_d, hgO_rl, hgO_r, hgO_0, hgO_1, hgO_64, hgO_298, hgO_300, hgCd_0, hgCd_1, hgCd_2, hgCd_3, hgCd_4, hgCd_5, hgRecv_O, hgRecv_99, List.length_cons, List.length_nil, Nat.zero_add, Nat.add_zero, Nat.le_refl, Nat.zero_le, and_self, or_true, true_or, true_and, and_true, ne_eq, not_false_eq_true, Nat.reduceLT, Nat.reduceLeDiff, Nat.reduceAdd, Nat.reduceEqDiff, hgn_eq, hgn_lt, hgn_le, if_true, if_false, reduceIte, Nat.not_lt_zero, hgn_add, hgn_mul, hw, h1, h3, k9, q]
      exact ih'
theorem hgOp_217 (h : hgInv M N) : hgBi X 217 [.ref 0, .int x, .int y, .ref 325] 186 [.ref 300, .int x, .int y] M N := by
  obtain ⟨V, Hs, c, hc, hC, hR, hH, hb⟩ := h
  obtain ⟨hw, g6, _, _, _, _⟩ := hgSC_6 hC
  have h2 : hgSM (hgSI M 300 0 (nI 0)) V Hs c := hgSM_0 hR
  by_cases q1 : ∃ o : Option Nat, (∀ i, o = some i → i < vN V) ∧ x = hgOi o
  · have r1 := hgk_166a (X := X) h2 hgI_at q1
    obtain ⟨o, ho, rfl⟩ := q1
    have k1 := hgk_118a (X := X) hC ho
    by_cases q2 : ∃ i, i < vN V ∧ y = nI i
    · obtain ⟨i, hi, rfl⟩ := q2
      have k2 := hgk_117a (X := X) hC hi
      have k21 := hgCV_21 (X := X) hw hC.2.2.2.2.1 ho hi hC.2.2.1
      have kc : hgWC X 103 [.ref 0, .int (hgOi o), .int (nI i)] M = some (.inl (.int (nI (vOps V o i))), M) := by
        simp (maxDischargeDepth := 7) only [hgc103, hgM_t, hgM_f, hgM_n, hgx_aload_n_0, hgx_iload_n_1, hgx_invvirtual_2, hgx_aft_e, hgx_aft_i, hgx_aft_l, hgx_aft_v, hgx_iload_n_2, hgs_get_7_3, hgx_invvirtual_3, hgx_ret1, hgv103_0, hgr103_0, hgu103_0, hgI_SI, hgI_SJ, hgJ_SI, hgJ_SJ, if_true, if_false, reduceIte, Nat.reduceEqDiff, hgWf_SI, hgWf_SJ, hgO_SI, hgO_SJ, hgAr_SI, hgAr_SJ, hgRp_SI, hgRp_SJ, hgN_SI, hgN_SJ, hgO_g, hgO_d, hgO_rl, hgO_r, hgO_0, hgO_1, hgO_64, hgO_298, hgO_300, hgCd_0, hgCd_1, hgCd_2, hgCd_3, hgCd_4, hgCd_5, hgRecv_O, hgRecv_99, List.length_cons, List.length_nil, Nat.zero_add, Nat.add_zero, Nat.le_refl, Nat.zero_le, and_self, or_true, true_or, true_and, and_true, ne_eq, not_false_eq_true, Nat.reduceLT, Nat.reduceLeDiff, Nat.reduceAdd, Nat.reduceEqDiff, hgn_eq, hgn_lt, hgn_le, if_true, if_false, reduceIte, Nat.not_lt_zero, hw, g6, k1, k2, k21]
      refine hgBi_ok hb (hgL_217 hw hw kc) hC hgFC_r ⟨hgSI (hgSJ M 325 0 (nI (vOps V o i)).toInt64) 300 0 (nI 0), ?_, hgSM_0 (hgSM_o hR), hgFR_0, hgI_at⟩ hH (by omega)
      have h3 : hgSM (hgSI (hgSJ M 325 0 (nI (vOps V o i)).toInt64) 300 0 (nI 0)) V Hs c := hgSM_0 (hgSM_o hR)
      have r1' := hgk_166a (X := X) h3 hgI_at ⟨o, ho, rfl⟩
      have r2' := hgk_165a (X := X) h3 hgI_at ⟨i, hi, rfl⟩
      have kl := hgk_186l (X := X) h3.1 h3.2.2.2.1 ho hi h3.2.1 1000 0 0 (by omega)
      rw [Nat.zero_add] at kl
      simp (maxDischargeDepth := 7) only [hgc186, hgM_t, hgM_f, hgM_n, hgx_aload_n_0, hgx_iconst_0, hgx_put0, hgx_iload_n_1, hgx_invvirtual_2, hgx_aft_e, hgx_aft_i, hgx_aft_l, hgx_aft_v, hgx_if_ne, hgx_iload_n_2, hgx_if_eq, hgx_ret1, hgx_istore_n_3i, hgx_istore_n_3r, hgx_istore_n_3f, hgx_istore_n_3n, hgx_istore_n_3l, hgx_istore_4i, hgx_istore_4r, hgx_istore_4f, hgx_istore_4n, hgx_istore_4l, hgx_iload_4, hgx_sipush_999, hgx_ic_gt, hgx_iload_n_3, hgx_invvirtual_4, hgx_iconst_1, hgx_goto, hgx_iadd, hgx_iinc_4_1, hgv186_0, hgr186_0, hgu186_0, hgv186_21, hgr186_21, hgu186_21, hgv186_23, hgr186_23, hgu186_23, hgv186_28, ← hgu186_28, hgv186_52, hgr186_52, hgu186_52, hgv186_53, hgr186_53, hgu186_53, hgv186_61, hgr186_61, hgu186_61, hgWf_SI, hgWf_SJ, hgO_SI, hgO_SJ, hgAr_SI, hgAr_SJ, hgRp_SI, hgRp_SJ, hgN_SI, hgN_SJ, hgO_g, hgO_d, hgO_rl, hgO_r, hgO_0, hgO_1, hgO_64, hgO_298, hgO_300, hgCd_0, hgCd_1, hgCd_2, hgCd_3, hgCd_4, hgCd_5, hgRecv_O, hgRecv_99, List.length_cons, List.length_nil, Nat.zero_add, Nat.add_zero, Nat.le_refl, Nat.zero_le, and_self, or_true, true_or, true_and, and_true, ne_eq, not_false_eq_true, Nat.reduceLT, Nat.reduceLeDiff, Nat.reduceAdd, Nat.reduceEqDiff, hgn_eq, hgn_lt, hgn_le, if_true, if_false, reduceIte, Nat.not_lt_zero, hw, r1', r2']
      exact kl
    · have k2 := hgk_117b (X := X) hC q2
      have kc : hgWC X 103 [.ref 0, .int (hgOi o), .int y] M = some (.inr 2, M) := by
        simp (maxDischargeDepth := 7) only [hgc103, hgM_t, hgM_f, hgM_n, hgx_aload_n_0, hgx_iload_n_1, hgx_invvirtual_2, hgx_aft_e, hgx_aft_i, hgx_aft_l, hgx_aft_v, hgx_iload_n_2, hgs_get_7_3, hgx_invvirtual_3, hgx_ret1, hgv103_0, hgr103_0, hgu103_0, hgI_SI, hgI_SJ, hgJ_SI, hgJ_SJ, if_true, if_false, reduceIte, Nat.reduceEqDiff, hgWf_SI, hgWf_SJ, hgO_SI, hgO_SJ, hgAr_SI, hgAr_SJ, hgRp_SI, hgRp_SJ, hgN_SI, hgN_SJ, hgO_g, hgO_d, hgO_rl, hgO_r, hgO_0, hgO_1, hgO_64, hgO_298, hgO_300, hgCd_0, hgCd_1, hgCd_2, hgCd_3, hgCd_4, hgCd_5, hgRecv_O, hgRecv_99, List.length_cons, List.length_nil, Nat.zero_add, Nat.add_zero, Nat.le_refl, Nat.zero_le, and_self, or_true, true_or, true_and, and_true, ne_eq, not_false_eq_true, Nat.reduceLT, Nat.reduceLeDiff, Nat.reduceAdd, Nat.reduceEqDiff, hgn_eq, hgn_lt, hgn_le, if_true, if_false, reduceIte, Nat.not_lt_zero, hw, k1, k2]
      have r2 := hgk_165b (X := X) h2 hgI_at q2
      refine hgBi_no hb hgn10 (hgL_217_2 hw kc) ⟨nI 0, ?_⟩ hC hR hH (by omega)
      simp (maxDischargeDepth := 7) only [hgc186, hgM_t, hgM_f, hgM_n, hgx_aload_n_0, hgx_iconst_0, hgx_put0, hgx_iload_n_1, hgx_invvirtual_2, hgx_aft_e, hgx_aft_i, hgx_aft_l, hgx_aft_v, hgx_if_ne, hgx_iload_n_2, hgx_if_eq, hgx_ret1, hgx_istore_n_3i, hgx_istore_n_3r, hgx_istore_n_3f, hgx_istore_n_3n, hgx_istore_n_3l, hgx_istore_4i, hgx_istore_4r, hgx_istore_4f, hgx_istore_4n, hgx_istore_4l, hgx_iload_4, hgx_sipush_999, hgx_ic_gt, hgx_iload_n_3, hgx_invvirtual_4, hgx_iconst_1, hgx_goto, hgx_iadd, hgx_iinc_4_1, hgv186_0, hgr186_0, hgu186_0, hgv186_21, hgr186_21, hgu186_21, hgv186_23, hgr186_23, hgu186_23, hgv186_28, ← hgu186_28, hgv186_52, hgr186_52, hgu186_52, hgv186_53, hgr186_53, hgu186_53, hgv186_61, hgr186_61, hgu186_61, hgWf_SI, hgWf_SJ, hgO_SI, hgO_SJ, hgAr_SI, hgAr_SJ, hgRp_SI, hgRp_SJ, hgN_SI, hgN_SJ, hgO_g, hgO_d, hgO_rl, hgO_r, hgO_0, hgO_1, hgO_64, hgO_298, hgO_300, hgCd_0, hgCd_1, hgCd_2, hgCd_3, hgCd_4, hgCd_5, hgRecv_O, hgRecv_99, List.length_cons, List.length_nil, Nat.zero_add, Nat.add_zero, Nat.le_refl, Nat.zero_le, and_self, or_true, true_or, true_and, and_true, ne_eq, not_false_eq_true, Nat.reduceLT, Nat.reduceLeDiff, Nat.reduceAdd, Nat.reduceEqDiff, hgn_eq, hgn_lt, hgn_le, if_true, if_false, reduceIte, Nat.not_lt_zero, hw, r1, r2]
  · have k1 := hgk_118b (X := X) hC q1
    have kc : hgWC X 103 [.ref 0, .int x, .int y] M = some (.inr 2, M) := by
      simp (maxDischargeDepth := 7) only [hgc103, hgM_t, hgM_f, hgM_n, hgx_aload_n_0, hgx_iload_n_1, hgx_invvirtual_2, hgx_aft_e, hgx_aft_i, hgx_aft_l, hgx_aft_v, hgx_iload_n_2, hgs_get_7_3, hgx_invvirtual_3, hgx_ret1, hgv103_0, hgr103_0, hgu103_0, hgI_SI, hgI_SJ, hgJ_SI, hgJ_SJ, if_true, if_false, reduceIte, Nat.reduceEqDiff, hgWf_SI, hgWf_SJ, hgO_SI, hgO_SJ, hgAr_SI, hgAr_SJ, hgRp_SI, hgRp_SJ, hgN_SI, hgN_SJ, hgO_g, hgO_d, hgO_rl, hgO_r, hgO_0, hgO_1, hgO_64, hgO_298, hgO_300, hgCd_0, hgCd_1, hgCd_2, hgCd_3, hgCd_4, hgCd_5, hgRecv_O, hgRecv_99, List.length_cons, List.length_nil, Nat.zero_add, Nat.add_zero, Nat.le_refl, Nat.zero_le, and_self, or_true, true_or, true_and, and_true, ne_eq, not_false_eq_true, Nat.reduceLT, Nat.reduceLeDiff, Nat.reduceAdd, Nat.reduceEqDiff, hgn_eq, hgn_lt, hgn_le, if_true, if_false, reduceIte, Nat.not_lt_zero, hw, k1]
    have r1 := hgk_166b (X := X) h2 hgI_at q1
    refine hgBi_no hb hgn10 (hgL_217_2 hw kc) ⟨nI 0, ?_⟩ hC hR hH (by omega)
    simp (maxDischargeDepth := 7) only [hgc186, hgM_t, hgM_f, hgM_n, hgx_aload_n_0, hgx_iconst_0, hgx_put0, hgx_iload_n_1, hgx_invvirtual_2, hgx_aft_e, hgx_aft_i, hgx_aft_l, hgx_aft_v, hgx_if_ne, hgx_iload_n_2, hgx_if_eq, hgx_ret1, hgx_istore_n_3i, hgx_istore_n_3r, hgx_istore_n_3f, hgx_istore_n_3n, hgx_istore_n_3l, hgx_istore_4i, hgx_istore_4r, hgx_istore_4f, hgx_istore_4n, hgx_istore_4l, hgx_iload_4, hgx_sipush_999, hgx_ic_gt, hgx_iload_n_3, hgx_invvirtual_4, hgx_iconst_1, hgx_goto, hgx_iadd, hgx_iinc_4_1, hgv186_0, hgr186_0, hgu186_0, hgv186_21, hgr186_21, hgu186_21, hgv186_23, hgr186_23, hgu186_23, hgv186_28, ← hgu186_28, hgv186_52, hgr186_52, hgu186_52, hgv186_53, hgr186_53, hgu186_53, hgv186_61, hgr186_61, hgu186_61, hgWf_SI, hgWf_SJ, hgO_SI, hgO_SJ, hgAr_SI, hgAr_SJ, hgRp_SI, hgRp_SJ, hgN_SI, hgN_SJ, hgO_g, hgO_d, hgO_rl, hgO_r, hgO_0, hgO_1, hgO_64, hgO_298, hgO_300, hgCd_0, hgCd_1, hgCd_2, hgCd_3, hgCd_4, hgCd_5, hgRecv_O, hgRecv_99, List.length_cons, List.length_nil, Nat.zero_add, Nat.add_zero, Nat.le_refl, Nat.zero_le, and_self, or_true, true_or, true_and, and_true, ne_eq, not_false_eq_true, Nat.reduceLT, Nat.reduceLeDiff, Nat.reduceAdd, Nat.reduceEqDiff, hgn_eq, hgn_lt, hgn_le, if_true, if_false, reduceIte, Nat.not_lt_zero, hw, r1]
end HGPRT

/-! ISUSELESS: which ports earlier rules cover. -/
def vLo (V : hgV) (j : Nat) : Nat := (vU V j 3).toNatClampNeg
def vHi (V : hgV) (j : Nat) : Nat := (vU V j 4).toNatClampNeg
/-- an earlier rule matches -/
def vEar (V : hgV) (ru : Nat) (s r p : Int32) : Bool := (hgFind (vMt V s r p) 0 ru).isSome
/-- earlier rules leave the rule nothing, by the component's look -/
def vCvF (V : hgV) (ru : Nat) (s r : Int32) : Bool := vEar V ru s r (vU V ru 3) && !hgAny (fun i => decide (vU V ru 3 ≤ vU V i 4 + nI 1) && decide (vU V i 4 + nI 1 ≤ vU V ru 4) && !vEar V ru s r (vU V i 4 + nI 1)) 0 ru
def vMg (V : hgV) (ru : Nat) (s r : Int32) : Bool := hgMg (vU V ru 1) (vU V ru 2) s r
def vUse (V : hgV) (ru : Nat) : Bool := !hgAny (fun s => hgAny (fun r => vMg V ru (nI s) (nI r) && !vCvF V ru (nI s) (nI r)) 0 3) 0 4
theorem hgFind_some {f : Nat → Bool} : ∀ (k i : Nat), (hgFind f i k).isSome = true ↔ ∃ j, i ≤ j ∧ j < i + k ∧ f j = true
  | 0, i => by
    show false = true ↔ _
    constructor
    · intro h; cases h
    · rintro ⟨j, h1, h2, _⟩; omega
  | k + 1, i => by
    unfold hgFind
    by_cases h : f i = true
    · rw [if_pos h]
      exact ⟨fun _ => ⟨i, by omega, by omega, h⟩, fun _ => rfl⟩
    · rw [if_neg h, hgFind_some k (i + 1)]
      constructor
      · rintro ⟨j, h1, h2, h3⟩; exact ⟨j, by omega, by omega, h3⟩
      · rintro ⟨j, h1, h2, h3⟩
        have : j ≠ i := fun e => h (e ▸ h3)
        exact ⟨j, by omega, by omega, h3⟩
theorem hgFind_min {f : Nat → Bool} : ∀ {k i j : Nat}, hgFind f i k = some j → ∀ m, i ≤ m → m < j → f m = false
  | 0, i, j, h => by cases h
  | k + 1, i, j, h => by
    unfold hgFind at h
    split at h
    · cases h; intro m h1 h2; omega
    · next hn =>
      intro m h1 h2
      by_cases e : m = i
      · rw [e]; exact Bool.eq_false_iff.mpr hn
      · exact hgFind_min h m (by omega) h2
theorem hgAny_iff {f : Nat → Bool} : ∀ (k i : Nat), hgAny f i k = true ↔ ∃ j, i ≤ j ∧ j < i + k ∧ f j = true
  | 0, i => by
    constructor
    · intro h; cases h
    · rintro ⟨j, h1, h2, _⟩; omega
  | k + 1, i => by
    unfold hgAny
    by_cases h : f i = true
    · rw [if_pos h]
      exact ⟨fun _ => ⟨i, by omega, by omega, h⟩, fun _ => rfl⟩
    · rw [if_neg h, hgAny_iff k (i + 1)]
      constructor
      · rintro ⟨j, h1, h2, h3⟩; exact ⟨j, by omega, by omega, h3⟩
      · rintro ⟨j, h1, h2, h3⟩
        have : j ≠ i := fun e => h (e ▸ h3)
        exact ⟨j, by omega, by omega, h3⟩
section HGCOV
variable {X : hgX} {M M' M1 M2 M3 Mo : hgMem} {d t g h i j q c k a b n p N l ru : Nat} {V V' V1 W U : hgV} {Hs Hs' : List hgV} {x y z s r : Int32} {u : Int64} {P : Nat → Prop} {o : Option Nat} {v1 v2 v4 v6 v7 : Option Value}
theorem vLH (hk : hgVok V c) (hj : j < vR V) : vU V j 3 = nI (vLo V j) ∧ vU V j 4 = nI (vHi V j) ∧ vLo V j ≤ vHi V j ∧ vHi V j ≤ 999 := by
  obtain ⟨lo, hi, h1, h2, h3, h4⟩ := hk.2.2.2.2.2.2.2.1 j hj
  have e1 : vLo V j = lo := by unfold vLo; rw [h3]; exact hgn_cl (by omega)
  have e2 : vHi V j = hi := by unfold vHi; rw [h4]; exact hgn_cl (by omega)
  rw [e1, e2]
  exact ⟨h3, h4, h1, h2⟩
/-- a rule matches a port -/
theorem vMt_n (hk : hgVok V c) (hj : j < vR V) (hp : p ≤ 1000) : vMt V s r (nI p) j = true ↔ vLo V j ≤ p ∧ p ≤ vHi V j ∧ vMg V j s r = true := by
  obtain ⟨h1, h2, h3, h4⟩ := vLH hk hj
  unfold vMt hgMt vMg
  rw [h1, h2, Bool.and_eq_true, Bool.and_eq_true, decide_eq_true_iff, decide_eq_true_iff, hgn_le (by omega) (by omega), hgn_le (by omega) (by omega), and_assoc]
theorem vEar_n (hk : hgVok V c) (hr : ru ≤ vR V) (hp : p ≤ 1000) : vEar V ru s r (nI p) = true ↔ ∃ j, j < ru ∧ vLo V j ≤ p ∧ p ≤ vHi V j ∧ vMg V j s r = true := by
  unfold vEar
  rw [hgFind_some]
  constructor
  · rintro ⟨j, h1, h2, h3⟩
    exact ⟨j, by omega, (vMt_n hk (by omega) hp).mp h3⟩
  · rintro ⟨j, h1, h2⟩
    exact ⟨j, by omega, by omega, (vMt_n hk (by omega) hp).mpr h2⟩
/-- what the component looks at decides for all ports -/
theorem vCvF_n (hk : hgVok V c) (hr : ru < vR V) : vCvF V ru s r = true ↔ ∀ p, vLo V ru ≤ p → p ≤ vHi V ru → vEar V ru s r (nI p) = true := by
  obtain ⟨h1, h2, h3, h4⟩ := vLH hk hr
  have eA : ∀ i, i < ru → ((decide (vU V ru 3 ≤ vU V i 4 + nI 1) && decide (vU V i 4 + nI 1 ≤ vU V ru 4) && !vEar V ru s r (vU V i 4 + nI 1)) = true ↔ (vLo V ru ≤ vHi V i + 1 ∧ vHi V i + 1 ≤ vHi V ru ∧ vEar V ru s r (nI (vHi V i + 1)) = false)) := fun i hi => by
    obtain ⟨_, g2, _, g4⟩ := vLH hk (show i < vR V by omega)
    rw [h1, h2, g2, hgn_add, Bool.and_eq_true, Bool.and_eq_true, decide_eq_true_iff, decide_eq_true_iff, hgn_le (by omega) (by omega), hgn_le (by omega) (by omega), and_assoc, Bool.not_eq_true']
  have eB : hgAny (fun i => decide (vU V ru 3 ≤ vU V i 4 + nI 1) && decide (vU V i 4 + nI 1 ≤ vU V ru 4) && !vEar V ru s r (vU V i 4 + nI 1)) 0 ru = true ↔ ∃ i, i < ru ∧ vLo V ru ≤ vHi V i + 1 ∧ vHi V i + 1 ≤ vHi V ru ∧ vEar V ru s r (nI (vHi V i + 1)) = false := by
    rw [hgAny_iff]
    constructor
    · rintro ⟨j, q1, q2, q3⟩
      exact ⟨j, by omega, (eA j (by omega)).mp q3⟩
    · rintro ⟨j, q1, q2⟩
      exact ⟨j, by omega, by omega, (eA j q1).mpr q2⟩
  unfold vCvF
  rw [Bool.and_eq_true, h1]
  constructor
  · rintro ⟨c1, c2⟩ p
    have c3 : ¬ ∃ i, i < ru ∧ vLo V ru ≤ vHi V i + 1 ∧ vHi V i + 1 ≤ vHi V ru ∧ vEar V ru s r (nI (vHi V i + 1)) = false := fun w => by
      rw [← h1] at c2
      rw [eB.mpr w] at c2
      cases c2
    induction p with
    | zero =>
      intro p1 p2
      have : vLo V ru = 0 := by omega
      rw [this] at c1
      exact c1
    | succ p ih =>
      intro p1 p2
      by_cases e : vLo V ru = p + 1
      · rw [e] at c1
        exact c1
      · have ihp := ih (by omega) (by omega)
        obtain ⟨j, j1, j2, j3, j4⟩ := (vEar_n hk (by omega) (by omega)).mp ihp
        by_cases f : p + 1 ≤ vHi V j
        · exact (vEar_n hk (by omega) (by omega)).mpr ⟨j, j1, by omega, f, j4⟩
        · have g : vHi V j = p := by omega
          cases hE : vEar V ru s r (nI (p + 1)) with
          | true => rfl
          | false => exact absurd ⟨j, j1, by omega, by omega, by rw [g]; exact hE⟩ c3
  · intro hall
    refine ⟨hall _ (Nat.le_refl _) h3, ?_⟩
    rw [← h1]
    cases hA : hgAny (fun i => decide (vU V ru 3 ≤ vU V i 4 + nI 1) && decide (vU V i 4 + nI 1 ≤ vU V ru 4) && !vEar V ru s r (vU V i 4 + nI 1)) 0 ru with
    | false => rfl
    | true =>
      obtain ⟨i, i1, i2, i3, i4⟩ := eB.mp hA
      rw [hall _ i2 i3] at i4
      cases i4
/-- component: matchesEarlier -/
theorem hgCV_58 (hw : hgWf M) (hm : hgSm V) (hr : ru ≤ vR V) (h : hgCV M g V) : hgWC X 58 [.ref (g + 12), .int (nI ru), .int s, .int r, .int x] M = some (.inl (.int (hgB (vEar V ru s r x))), M) := by
  have hg := h.1
  have hn := hm.2.1
  have k53 := hgk_53 (X := X) (x := s) (y := r) (z := x) hw hg h.2.2.1 hn
  rw [hgCV_fst h] at k53
  have r1 : ru < 2147483648 := by omega
  cases hF : vFst V s r x with
  | none =>
    rw [hF, hgOi_n] at k53
    have e : vEar V ru s r x = false := by
      cases hE : vEar V ru s r x with
      | false => rfl
      | true =>
        obtain ⟨j, j1, j2, j3⟩ := (hgFind_some _ _).mp hE
        have : (vFst V s r x).isSome = true := (hgFind_some _ _).mpr ⟨j, j1, by omega, j3⟩
        rw [hF] at this
        cases this
    rw [e]
    simp (maxDischargeDepth := 7) only [hgc58, hgM_t, hgM_f, hgM_n, hgx_aload_n_0, hgx_iload_n_2, hgx_iload_n_3, hgx_iload_4, hgx_invvirtual_4, hgx_aft_e, hgx_aft_i, hgx_aft_l, hgx_aft_v, hgx_istore_5i, hgx_istore_5r, hgx_istore_5f, hgx_istore_5n, hgx_istore_5l, hgx_iload_5, hgx_if_lt, hgx_iload_n_1, hgx_ic_ge, hgx_iconst_1, hgx_goto, hgx_iconst_0, hgx_ret3, hgv58_0, hgr58_0, hgu58_0, hgv58_25, hgr58_25, hgu58_25, hgv58_26, hgr58_26, hgu58_26, hgI_SI, hgI_SJ, hgJ_SI, hgJ_SJ, if_true, if_false, reduceIte, Nat.reduceEqDiff, hgWf_SI, hgWf_SJ, hgO_SI, hgO_SJ, hgAr_SI, hgAr_SJ, hgRp_SI, hgRp_SJ, hgN_SI, hgN_SJ, hgO_g, hgO_d, hgO_rl, hgO_r, hgO_0, hgO_1, hgO_64, hgO_298, hgO_300, hgCd_0, hgCd_1, hgCd_2, hgCd_3, hgCd_4, hgCd_5, hgRecv_O, hgRecv_99, List.length_cons, List.length_nil, Nat.zero_add, Nat.add_zero, Nat.le_refl, Nat.zero_le, and_self, or_true, true_or, true_and, and_true, ne_eq, not_false_eq_true, Nat.reduceLT, Nat.reduceLeDiff, Nat.reduceAdd, Nat.reduceEqDiff, hgn_eq, hgn_lt, hgn_le, if_true, if_false, reduceIte, Nat.not_lt_zero, hw, hg, k53, hgm1_lt, hgB_f]
  | some j =>
    rw [hF, hgOi_s] at k53
    have hj := hgFind_lt hF
    have hmin := hgFind_min hF
    have j1 : j < 2147483648 := by omega
    by_cases hlt : j < ru
    · have e : vEar V ru s r x = true := (hgFind_some _ _).mpr ⟨j, by omega, by omega, hj.2.2⟩
      have hlt2 : ¬ ru ≤ j := by omega
      rw [e]
      simp (maxDischargeDepth := 7) only [hgc58, hgM_t, hgM_f, hgM_n, hgx_aload_n_0, hgx_iload_n_2, hgx_iload_n_3, hgx_iload_4, hgx_invvirtual_4, hgx_aft_e, hgx_aft_i, hgx_aft_l, hgx_aft_v, hgx_istore_5i, hgx_istore_5r, hgx_istore_5f, hgx_istore_5n, hgx_istore_5l, hgx_iload_5, hgx_if_lt, hgx_iload_n_1, hgx_ic_ge, hgx_iconst_1, hgx_goto, hgx_iconst_0, hgx_ret3, hgv58_0, hgr58_0, hgu58_0, hgv58_25, hgr58_25, hgu58_25, hgv58_26, hgr58_26, hgu58_26, hgI_SI, hgI_SJ, hgJ_SI, hgJ_SJ, if_true, if_false, reduceIte, Nat.reduceEqDiff, hgWf_SI, hgWf_SJ, hgO_SI, hgO_SJ, hgAr_SI, hgAr_SJ, hgRp_SI, hgRp_SJ, hgN_SI, hgN_SJ, hgO_g, hgO_d, hgO_rl, hgO_r, hgO_0, hgO_1, hgO_64, hgO_298, hgO_300, hgCd_0, hgCd_1, hgCd_2, hgCd_3, hgCd_4, hgCd_5, hgRecv_O, hgRecv_99, List.length_cons, List.length_nil, Nat.zero_add, Nat.add_zero, Nat.le_refl, Nat.zero_le, and_self, or_true, true_or, true_and, and_true, ne_eq, not_false_eq_true, Nat.reduceLT, Nat.reduceLeDiff, Nat.reduceAdd, Nat.reduceEqDiff, hgn_eq, hgn_lt, hgn_le, if_true, if_false, reduceIte, Nat.not_lt_zero, hw, hg, k53, j1, r1, hlt2, hgB_t]
    · have e : vEar V ru s r x = false := by
        cases hE : vEar V ru s r x with
        | false => rfl
        | true =>
          obtain ⟨m, m1, m2, m3⟩ := (hgFind_some _ _).mp hE
          rw [hmin m (by omega) (by omega)] at m3
          cases m3
      have hlt2 : ru ≤ j := by omega
      rw [e]
      simp (maxDischargeDepth := 7) only [hgc58, hgM_t, hgM_f, hgM_n, hgx_aload_n_0, hgx_iload_n_2, hgx_iload_n_3, hgx_iload_4, hgx_invvirtual_4, hgx_aft_e, hgx_aft_i, hgx_aft_l, hgx_aft_v, hgx_istore_5i, hgx_istore_5r, hgx_istore_5f, hgx_istore_5n, hgx_istore_5l, hgx_iload_5, hgx_if_lt, hgx_iload_n_1, hgx_ic_ge, hgx_iconst_1, hgx_goto, hgx_iconst_0, hgx_ret3, hgv58_0, hgr58_0, hgu58_0, hgv58_25, hgr58_25, hgu58_25, hgv58_26, hgr58_26, hgu58_26, hgI_SI, hgI_SJ, hgJ_SI, hgJ_SJ, if_true, if_false, reduceIte, Nat.reduceEqDiff, hgWf_SI, hgWf_SJ, hgO_SI, hgO_SJ, hgAr_SI, hgAr_SJ, hgRp_SI, hgRp_SJ, hgN_SI, hgN_SJ, hgO_g, hgO_d, hgO_rl, hgO_r, hgO_0, hgO_1, hgO_64, hgO_298, hgO_300, hgCd_0, hgCd_1, hgCd_2, hgCd_3, hgCd_4, hgCd_5, hgRecv_O, hgRecv_99, List.length_cons, List.length_nil, Nat.zero_add, Nat.add_zero, Nat.le_refl, Nat.zero_le, and_self, or_true, true_or, true_and, and_true, ne_eq, not_false_eq_true, Nat.reduceLT, Nat.reduceLeDiff, Nat.reduceAdd, Nat.reduceEqDiff, hgn_eq, hgn_lt, hgn_le, if_true, if_false, reduceIte, Nat.not_lt_zero, hw, hg, k53, j1, r1, hlt2, hgB_f]
theorem hgk_57l (hw : hgWf M) (hm : hgSm V) (hr : ru < vR V) (h : hgCV M g V) : ∀ (k i : Nat) (v7 : Option Value), i + k = ru → hgW X 57 53 [some (.ref (g + 12)), some (.int (nI ru)), some (.int s), some (.int r), some (.int (vU V ru 3)), some (.int (vU V ru 4)), some (.int (nI i)), v7] [] (0, 0) M = some (.inl (.int (hgB (!hgAny (fun i => decide (vU V ru 3 ≤ vU V i 4 + nI 1) && decide (vU V i 4 + nI 1 ≤ vU V ru 4) && !vEar V ru s r (vU V i 4 + nI 1)) i k))), M) := by
  intro k
  have hg := h.1
  have hn := hm.2.1
  induction k with
  | zero =>
    intro i v7 hi
    have h1 : i < 2147483648 := by omega
    have h2 : ru < 2147483648 := by omega
    have h3 : ru ≤ i := by omega
    rw [hgu57_53]
    simp (maxDischargeDepth := 7) only [hgM_t, hgM_f, hgM_n, hgx_iload_n_1, hgx_if_lt, hgx_aload_n_0, hgx_get0, hgx_ic_lt, hgx_iconst_0, hgx_ret3, hgs_get_5_0, hgx_istore_4i, hgx_istore_4r, hgx_istore_4f, hgx_istore_4n, hgx_istore_4l, hgx_istore_5i, hgx_istore_5r, hgx_istore_5f, hgx_istore_5n, hgx_istore_5l, hgx_iload_n_2, hgx_iload_n_3, hgx_iload_4, hgx_invvirtual_5, hgx_aft_e, hgx_aft_i, hgx_aft_l, hgx_aft_v, hgx_if_ne, hgx_istore_6i, hgx_istore_6r, hgx_istore_6f, hgx_istore_6n, hgx_istore_6l, hgx_iload_6, hgx_ic_ge, hgx_iconst_1, hgx_iadd, hgx_istore_7i, hgx_istore_7r, hgx_istore_7f, hgx_istore_7n, hgx_istore_7l, hgx_iload_7, hgx_ic_gt, hgx_iload_5, hgx_iinc_6_1, hgx_goto, hgv57_0, hgr57_0, hgu57_0, hgv57_12, hgr57_12, hgu57_12, hgv57_14, hgr57_14, hgu57_14, hgv57_50, hgr57_50, hgu57_50, hgv57_53, hgr57_53, hgv57_101, hgr57_101, hgu57_101, hgv57_107, hgr57_107, hgu57_107, hgI_SI, hgI_SJ, hgJ_SI, hgJ_SJ, if_true, if_false, reduceIte, Nat.reduceEqDiff, hgWf_SI, hgWf_SJ, hgO_SI, hgO_SJ, hgAr_SI, hgAr_SJ, hgRp_SI, hgRp_SJ, hgN_SI, hgN_SJ, hgO_g, hgO_d, hgO_rl, hgO_r, hgO_0, hgO_1, hgO_64, hgO_298, hgO_300, hgCd_0, hgCd_1, hgCd_2, hgCd_3, hgCd_4, hgCd_5, hgRecv_O, hgRecv_99, List.length_cons, List.length_nil, Nat.zero_add, Nat.add_zero, Nat.le_refl, Nat.zero_le, and_self, or_true, true_or, true_and, and_true, ne_eq, not_false_eq_true, Nat.reduceLT, Nat.reduceLeDiff, Nat.reduceAdd, Nat.reduceEqDiff, hgn_eq, hgn_lt, hgn_le, if_true, if_false, reduceIte, Nat.not_lt_zero, h1, h2, h3, hgAny, Bool.not_false, hgB_t]
  | succ k ih =>
    intro i v7 hi
    have h1 : i < 2147483648 := by omega
    have h2 : ru < 2147483648 := by omega
    have h3 : ¬ ru ≤ i := by omega
    have h4 : i < 12 := by omega
    have f4 : hgI M (hgRp M g i) 4 = vU V i 4 := h.2.2.2.2.2.2.2.2.2.2.2.2.1 i (by omega) 4 (by omega)
    have k58 := hgCV_58 (X := X) (s := s) (r := r) (x := vU V i 4 + nI 1) hw hm (show ru ≤ vR V by omega) h
    have ih' := ih (i + 1) none (by omega)
    rw [hgu57_53]
    unfold hgAny
    simp (maxDischargeDepth := 7) only [hgM_t, hgM_f, hgM_n, hgx_iload_n_1, hgx_if_lt, hgx_aload_n_0, hgx_get0, hgx_ic_lt, hgx_iconst_0, hgx_ret3, hgs_get_5_0, hgx_istore_4i, hgx_istore_4r, hgx_istore_4f, hgx_istore_4n, hgx_istore_4l, hgx_istore_5i, hgx_istore_5r, hgx_istore_5f, hgx_istore_5n, hgx_istore_5l, hgx_iload_n_2, hgx_iload_n_3, hgx_iload_4, hgx_invvirtual_5, hgx_aft_e, hgx_aft_i, hgx_aft_l, hgx_aft_v, hgx_if_ne, hgx_istore_6i, hgx_istore_6r, hgx_istore_6f, hgx_istore_6n, hgx_istore_6l, hgx_iload_6, hgx_ic_ge, hgx_iconst_1, hgx_iadd, hgx_istore_7i, hgx_istore_7r, hgx_istore_7f, hgx_istore_7n, hgx_istore_7l, hgx_iload_7, hgx_ic_gt, hgx_iload_5, hgx_iinc_6_1, hgx_goto, hgv57_0, hgr57_0, hgu57_0, hgv57_12, hgr57_12, hgu57_12, hgv57_14, hgr57_14, hgu57_14, hgv57_50, hgr57_50, hgu57_50, hgv57_53, hgr57_53, hgv57_101, hgr57_101, hgu57_101, hgv57_107, hgr57_107, hgu57_107, hgI_SI, hgI_SJ, hgJ_SI, hgJ_SJ, if_true, if_false, reduceIte, Nat.reduceEqDiff, hgWf_SI, hgWf_SJ, hgO_SI, hgO_SJ, hgAr_SI, hgAr_SJ, hgRp_SI, hgRp_SJ, hgN_SI, hgN_SJ, hgO_g, hgO_d, hgO_rl, hgO_r, hgO_0, hgO_1, hgO_64, hgO_298, hgO_300, hgCd_0, hgCd_1, hgCd_2, hgCd_3, hgCd_4, hgCd_5, hgRecv_O, hgRecv_99, List.length_cons, List.length_nil, Nat.zero_add, Nat.add_zero, Nat.le_refl, Nat.zero_le, and_self, or_true, true_or, true_and, and_true, ne_eq, not_false_eq_true, Nat.reduceLT, Nat.reduceLeDiff, Nat.reduceAdd, Nat.reduceEqDiff, hgn_eq, hgn_lt, hgn_le, if_true, if_false, reduceIte, Nat.not_lt_zero, hgs_aa_d, hgs_aa_r, hgs_aa_h, hgs_aa_m, hgs_aa_t, hgs_ld_wp, hgs_st_wp, hgs_ld_qf, hgs_st_qf, hgs_ld_qt, hgs_st_qt, hgs_ld_2, hgs_st_2, hgs_ld_3, hgs_st_3, hgs_ld_4, hgs_st_4, hgs_ld_301, hgs_st_301, hgs_ld_D, hgs_st_D, hgs_ld_s, hgs_ld_T, hgs_st_T, hgs_ld_o, hgs_st_o, hgs_ld_b, hgs_st_b, hgs_ld_z, hgs_st_z, hgs_al_b, hgx_alen_s, hgn_add, hgn_mul, hw, hg, h1, h2, h3, h4, f4, k58, hgB_0, ih']
    simp only [← Int32.not_le]
    by_cases a1 : vU V ru 3 ≤ vU V i 4 + nI 1 <;> by_cases a2 : vU V i 4 + nI 1 ≤ vU V ru 4 <;> cases a3 : vEar V ru s r (vU V i 4 + nI 1) <;> simp [a1, a2, hgB]
theorem hgCV_57 (hw : hgWf M) (hm : hgSm V) (hr : ru < vR V) (h : hgCV M g V) : hgWC X 57 [.ref (g + 12), .int (nI ru), .int s, .int r] M = some (.inl (.int (hgB (vCvF V ru s r))), M) := by
  have hg := h.1
  have hn := hm.2.1
  have hc := h.2.2.1
  have r1 : ru < 2147483648 := by omega
  have r2 : vR V < 2147483648 := by omega
  have r12 : ru < 12 := by omega
  have f3 : hgI M (hgRp M g ru) 3 = vU V ru 3 := h.2.2.2.2.2.2.2.2.2.2.2.2.1 ru hr 3 (by omega)
  have f4 : hgI M (hgRp M g ru) 4 = vU V ru 4 := h.2.2.2.2.2.2.2.2.2.2.2.2.1 ru hr 4 (by omega)
  have k58 := hgCV_58 (X := X) (s := s) (r := r) (x := vU V ru 3) hw hm (show ru ≤ vR V by omega) h
  have kl := hgk_57l (X := X) (s := s) (r := r) hw hm hr h ru 0 none (by omega)
  unfold vCvF
  cases a3 : vEar V ru s r (vU V ru 3) with
  | false =>
    rw [a3] at k58
    simp (maxDischargeDepth := 7) only [hgc57, hgM_t, hgM_f, hgM_n, hgx_iload_n_1, hgx_if_lt, hgx_aload_n_0, hgx_get0, hgx_ic_lt, hgx_iconst_0, hgx_ret3, hgs_get_5_0, hgx_istore_4i, hgx_istore_4r, hgx_istore_4f, hgx_istore_4n, hgx_istore_4l, hgx_istore_5i, hgx_istore_5r, hgx_istore_5f, hgx_istore_5n, hgx_istore_5l, hgx_iload_n_2, hgx_iload_n_3, hgx_iload_4, hgx_invvirtual_5, hgx_aft_e, hgx_aft_i, hgx_aft_l, hgx_aft_v, hgx_if_ne, hgx_istore_6i, hgx_istore_6r, hgx_istore_6f, hgx_istore_6n, hgx_istore_6l, hgx_iload_6, hgx_ic_ge, hgx_iconst_1, hgx_iadd, hgx_istore_7i, hgx_istore_7r, hgx_istore_7f, hgx_istore_7n, hgx_istore_7l, hgx_iload_7, hgx_ic_gt, hgx_iload_5, hgx_iinc_6_1, hgx_goto, hgv57_0, hgr57_0, hgu57_0, hgv57_12, hgr57_12, hgu57_12, hgv57_14, hgr57_14, hgu57_14, hgv57_50, hgr57_50, hgu57_50, hgv57_53, ← hgu57_53, hgv57_101, hgr57_101, hgu57_101, hgv57_107, hgr57_107, hgu57_107, hgI_SI, hgI_SJ, hgJ_SI, hgJ_SJ, if_true, if_false, reduceIte, Nat.reduceEqDiff, hgWf_SI, hgWf_SJ, hgO_SI, hgO_SJ, hgAr_SI, hgAr_SJ, hgRp_SI, hgRp_SJ, hgN_SI, hgN_SJ, hgO_g, hgO_d, hgO_rl, hgO_r, hgO_0, hgO_1, hgO_64, hgO_298, hgO_300, hgCd_0, hgCd_1, hgCd_2, hgCd_3, hgCd_4, hgCd_5, hgRecv_O, hgRecv_99, List.length_cons, List.length_nil, Nat.zero_add, Nat.add_zero, Nat.le_refl, Nat.zero_le, and_self, or_true, true_or, true_and, and_true, ne_eq, not_false_eq_true, Nat.reduceLT, Nat.reduceLeDiff, Nat.reduceAdd, Nat.reduceEqDiff, hgn_eq, hgn_lt, hgn_le, if_true, if_false, reduceIte, Nat.not_lt_zero, hgs_aa_d, hgs_aa_r, hgs_aa_h, hgs_aa_m, hgs_aa_t, hgs_ld_wp, hgs_st_wp, hgs_ld_qf, hgs_st_qf, hgs_ld_qt, hgs_st_qt, hgs_ld_2, hgs_st_2, hgs_ld_3, hgs_st_3, hgs_ld_4, hgs_st_4, hgs_ld_301, hgs_st_301, hgs_ld_D, hgs_st_D, hgs_ld_s, hgs_ld_T, hgs_st_T, hgs_ld_o, hgs_st_o, hgs_ld_b, hgs_st_b, hgs_ld_z, hgs_st_z, hgs_al_b, hgx_alen_s, hgn_add, hgn_mul, hw, hg, hc, r1, r2, hr, r12, f3, f4, k58, hgB_f, Bool.false_and]
  | true =>
    rw [a3] at k58
    simp (maxDischargeDepth := 7) only [hgc57, hgM_t, hgM_f, hgM_n, hgx_iload_n_1, hgx_if_lt, hgx_aload_n_0, hgx_get0, hgx_ic_lt, hgx_iconst_0, hgx_ret3, hgs_get_5_0, hgx_istore_4i, hgx_istore_4r, hgx_istore_4f, hgx_istore_4n, hgx_istore_4l, hgx_istore_5i, hgx_istore_5r, hgx_istore_5f, hgx_istore_5n, hgx_istore_5l, hgx_iload_n_2, hgx_iload_n_3, hgx_iload_4, hgx_invvirtual_5, hgx_aft_e, hgx_aft_i, hgx_aft_l, hgx_aft_v, hgx_if_ne, hgx_istore_6i, hgx_istore_6r, hgx_istore_6f, hgx_istore_6n, hgx_istore_6l, hgx_iload_6, hgx_ic_ge, hgx_iconst_1, hgx_iadd, hgx_istore_7i, hgx_istore_7r, hgx_istore_7f, hgx_istore_7n, hgx_istore_7l, hgx_iload_7, hgx_ic_gt, hgx_iload_5, hgx_iinc_6_1, hgx_goto, hgv57_0, hgr57_0, hgu57_0, hgv57_12, hgr57_12, hgu57_12, hgv57_14, hgr57_14, hgu57_14, hgv57_50, hgr57_50, hgu57_50, hgv57_53, ← hgu57_53, hgv57_101, hgr57_101, hgu57_101, hgv57_107, hgr57_107, hgu57_107, hgI_SI, hgI_SJ, hgJ_SI, hgJ_SJ, if_true, if_false, reduceIte, Nat.reduceEqDiff, hgWf_SI, hgWf_SJ, hgO_SI, hgO_SJ, hgAr_SI, hgAr_SJ, hgRp_SI, hgRp_SJ, hgN_SI, hgN_SJ, hgO_g, hgO_d, hgO_rl, hgO_r, hgO_0, hgO_1, hgO_64, hgO_298, hgO_300, hgCd_0, hgCd_1, hgCd_2, hgCd_3, hgCd_4, hgCd_5, hgRecv_O, hgRecv_99, List.length_cons, List.length_nil, Nat.zero_add, Nat.add_zero, Nat.le_refl, Nat.zero_le, and_self, or_true, true_or, true_and, and_true, ne_eq, not_false_eq_true, Nat.reduceLT, Nat.reduceLeDiff, Nat.reduceAdd, Nat.reduceEqDiff, hgn_eq, hgn_lt, hgn_le, if_true, if_false, reduceIte, Nat.not_lt_zero, hgs_aa_d, hgs_aa_r, hgs_aa_h, hgs_aa_m, hgs_aa_t, hgs_ld_wp, hgs_st_wp, hgs_ld_qf, hgs_st_qf, hgs_ld_qt, hgs_st_qt, hgs_ld_2, hgs_st_2, hgs_ld_3, hgs_st_3, hgs_ld_4, hgs_st_4, hgs_ld_301, hgs_st_301, hgs_ld_D, hgs_st_D, hgs_ld_s, hgs_ld_T, hgs_st_T, hgs_ld_o, hgs_st_o, hgs_ld_b, hgs_st_b, hgs_ld_z, hgs_st_z, hgs_al_b, hgx_alen_s, hgn_add, hgn_mul, hw, hg, hc, r1, r2, hr, r12, f3, f4, k58, hgB_t, Bool.true_and]
    exact kl
theorem hgk_56r (hw : hgWf M) (hm : hgSm V) (hr : ru < vR V) (h : hgCV M g V) : ∀ (k i : Nat), i + k = 3 → hgW X 56 23 [some (.ref (g + 12)), some (.int (nI ru)), some (.int (nI n)), some (.int (nI i))] [] (0, 0) M = if hgAny (fun r => vMg V ru (nI n) (nI r) && !vCvF V ru (nI n) (nI r)) i k = true then some (.inl (.int (nI 0)), M) else hgW X 56 16 [some (.ref (g + 12)), some (.int (nI ru)), some (.int (nI (n + 1))), none] [] (0, 0) M := by
  intro k
  have hg := h.1
  have hn := hm.2.1
  have r12 : ru < 12 := by omega
  induction k with
  | zero =>
    intro i hi
    have h1 : i < 2147483648 := by omega
    have h3 : 3 ≤ i := by omega
    rw [hgu56_23]
    simp (maxDischargeDepth := 7) only [hgM_t, hgM_f, hgM_n, hgx_iload_n_1, hgx_if_lt, hgx_aload_n_0, hgx_get0, hgx_ic_lt, hgx_iconst_0, hgx_ret3, hgx_istore_n_2i, hgx_istore_n_2r, hgx_istore_n_2f, hgx_istore_n_2n, hgx_istore_n_2l, hgx_iload_n_2, hgx_iconst_3, hgx_ic_gt, hgx_istore_n_3i, hgx_istore_n_3r, hgx_istore_n_3f, hgx_istore_n_3n, hgx_istore_n_3l, hgx_iload_n_3, hgx_ic_ge, hgs_get_5_0, hgx_invvirtual_3, hgx_aft_e, hgx_aft_i, hgx_aft_l, hgx_aft_v, hgx_if_eq, hgx_invvirtual_4, hgx_if_ne, hgx_iinc_3_1, hgx_goto, hgx_iinc_2_1, hgx_iconst_1, hgv56_0, hgr56_0, hgu56_0, hgv56_12, hgr56_12, hgu56_12, hgv56_14, hgr56_14, hgu56_14, hgv56_16, ← hgu56_16, hgv56_23, hgr56_23, hgv56_54, hgr56_54, hgu56_54, hgv56_60, hgr56_60, hgu56_60, hgv56_66, hgr56_66, hgu56_66, hgI_SI, hgI_SJ, hgJ_SI, hgJ_SJ, if_true, if_false, reduceIte, Nat.reduceEqDiff, hgWf_SI, hgWf_SJ, hgO_SI, hgO_SJ, hgAr_SI, hgAr_SJ, hgRp_SI, hgRp_SJ, hgN_SI, hgN_SJ, hgO_g, hgO_d, hgO_rl, hgO_r, hgO_0, hgO_1, hgO_64, hgO_298, hgO_300, hgCd_0, hgCd_1, hgCd_2, hgCd_3, hgCd_4, hgCd_5, hgRecv_O, hgRecv_99, List.length_cons, List.length_nil, Nat.zero_add, Nat.add_zero, Nat.le_refl, Nat.zero_le, and_self, or_true, true_or, true_and, and_true, ne_eq, not_false_eq_true, Nat.reduceLT, Nat.reduceLeDiff, Nat.reduceAdd, Nat.reduceEqDiff, hgn_eq, hgn_lt, hgn_le, if_true, if_false, reduceIte, Nat.not_lt_zero, hgn_add, hgn_mul, h1, h3, hgAny, Bool.false_eq_true]
  | succ k ih =>
    intro i hi
    have h1 : i < 2147483648 := by omega
    have h3 : ¬ 3 ≤ i := by omega
    have ih' := ih (i + 1) (by omega)
    have f := h.2.2.2.2.2.2.2.2.2.2.2.2.1 ru hr
    have k45 := hgk_45 (X := X) (x := nI n) (y := nI i) (hgO_r hw hg r12)
    have e45 : hgMg (hgI M (hgRp M g ru) 1) (hgI M (hgRp M g ru) 2) (nI n) (nI i) = vMg V ru (nI n) (nI i) := by
      unfold vMg
      rw [show hgI M (hgRp M g ru) 1 = vU V ru 1 from f 1 (by omega), show hgI M (hgRp M g ru) 2 = vU V ru 2 from f 2 (by omega)]
    rw [e45] at k45
    have k57 := hgCV_57 (X := X) (s := nI n) (r := nI i) hw hm hr h
    rw [hgu56_23]
    unfold hgAny
    cases a1 : vMg V ru (nI n) (nI i) with
    | false =>
      rw [a1] at k45
      simp (maxDischargeDepth := 7) only [hgM_t, hgM_f, hgM_n, hgx_iload_n_1, hgx_if_lt, hgx_aload_n_0, hgx_get0, hgx_ic_lt, hgx_iconst_0, hgx_ret3, hgx_istore_n_2i, hgx_istore_n_2r, hgx_istore_n_2f, hgx_istore_n_2n, hgx_istore_n_2l, hgx_iload_n_2, hgx_iconst_3, hgx_ic_gt, hgx_istore_n_3i, hgx_istore_n_3r, hgx_istore_n_3f, hgx_istore_n_3n, hgx_istore_n_3l, hgx_iload_n_3, hgx_ic_ge, hgs_get_5_0, hgx_invvirtual_3, hgx_aft_e, hgx_aft_i, hgx_aft_l, hgx_aft_v, hgx_if_eq, hgx_invvirtual_4, hgx_if_ne, hgx_iinc_3_1, hgx_goto, hgx_iinc_2_1, hgx_iconst_1, hgv56_0, hgr56_0, hgu56_0, hgv56_12, hgr56_12, hgu56_12, hgv56_14, hgr56_14, hgu56_14, hgv56_16, ← hgu56_16, hgv56_23, hgr56_23, hgv56_54, hgr56_54, hgu56_54, hgv56_60, hgr56_60, hgu56_60, hgv56_66, hgr56_66, hgu56_66, hgI_SI, hgI_SJ, hgJ_SI, hgJ_SJ, if_true, if_false, reduceIte, Nat.reduceEqDiff, hgWf_SI, hgWf_SJ, hgO_SI, hgO_SJ, hgAr_SI, hgAr_SJ, hgRp_SI, hgRp_SJ, hgN_SI, hgN_SJ, hgO_g, hgO_d, hgO_rl, hgO_r, hgO_0, hgO_1, hgO_64, hgO_298, hgO_300, hgCd_0, hgCd_1, hgCd_2, hgCd_3, hgCd_4, hgCd_5, hgRecv_O, hgRecv_99, List.length_cons, List.length_nil, Nat.zero_add, Nat.add_zero, Nat.le_refl, Nat.zero_le, and_self, or_true, true_or, true_and, and_true, ne_eq, not_false_eq_true, Nat.reduceLT, Nat.reduceLeDiff, Nat.reduceAdd, Nat.reduceEqDiff, hgn_eq, hgn_lt, hgn_le, if_true, if_false, reduceIte, Nat.not_lt_zero, hgs_aa_d, hgs_aa_r, hgs_aa_h, hgs_aa_m, hgs_aa_t, hgs_ld_wp, hgs_st_wp, hgs_ld_qf, hgs_st_qf, hgs_ld_qt, hgs_st_qt, hgs_ld_2, hgs_st_2, hgs_ld_3, hgs_st_3, hgs_ld_4, hgs_st_4, hgs_ld_301, hgs_st_301, hgs_ld_D, hgs_st_D, hgs_ld_s, hgs_ld_T, hgs_st_T, hgs_ld_o, hgs_st_o, hgs_ld_b, hgs_st_b, hgs_ld_z, hgs_st_z, hgs_al_b, hgx_alen_s, hgn_add, hgn_mul, hw, hg, h1, h3, r12, k45, hgB_f, ih', Bool.false_and, Bool.false_eq_true]
    | true =>
      rw [a1] at k45
      cases a2 : vCvF V ru (nI n) (nI i) with
      | false =>
        rw [a2] at k57
        simp (maxDischargeDepth := 7) only [hgM_t, hgM_f, hgM_n, hgx_iload_n_1, hgx_if_lt, hgx_aload_n_0, hgx_get0, hgx_ic_lt, hgx_iconst_0, hgx_ret3, hgx_istore_n_2i, hgx_istore_n_2r, hgx_istore_n_2f, hgx_istore_n_2n, hgx_istore_n_2l, hgx_iload_n_2, hgx_iconst_3, hgx_ic_gt, hgx_istore_n_3i, hgx_istore_n_3r, hgx_istore_n_3f, hgx_istore_n_3n, hgx_istore_n_3l, hgx_iload_n_3, hgx_ic_ge, hgs_get_5_0, hgx_invvirtual_3, hgx_aft_e, hgx_aft_i, hgx_aft_l, hgx_aft_v, hgx_if_eq, hgx_invvirtual_4, hgx_if_ne, hgx_iinc_3_1, hgx_goto, hgx_iinc_2_1, hgx_iconst_1, hgv56_0, hgr56_0, hgu56_0, hgv56_12, hgr56_12, hgu56_12, hgv56_14, hgr56_14, hgu56_14, hgv56_16, ← hgu56_16, hgv56_23, hgr56_23, hgv56_54, hgr56_54, hgu56_54, hgv56_60, hgr56_60, hgu56_60, hgv56_66, hgr56_66, hgu56_66, hgI_SI, hgI_SJ, hgJ_SI, hgJ_SJ, if_true, if_false, reduceIte, Nat.reduceEqDiff, hgWf_SI, hgWf_SJ, hgO_SI, hgO_SJ, hgAr_SI, hgAr_SJ, hgRp_SI, hgRp_SJ, hgN_SI, hgN_SJ, hgO_g, hgO_d, hgO_rl, hgO_r, hgO_0, hgO_1, hgO_64, hgO_298, hgO_300, hgCd_0, hgCd_1, hgCd_2, hgCd_3, hgCd_4, hgCd_5, hgRecv_O, hgRecv_99, List.length_cons, List.length_nil, Nat.zero_add, Nat.add_zero, Nat.le_refl, Nat.zero_le, and_self, or_true, true_or, true_and, and_true, ne_eq, not_false_eq_true, Nat.reduceLT, Nat.reduceLeDiff, Nat.reduceAdd, Nat.reduceEqDiff, hgn_eq, hgn_lt, hgn_le, if_true, if_false, reduceIte, Nat.not_lt_zero, hgs_aa_d, hgs_aa_r, hgs_aa_h, hgs_aa_m, hgs_aa_t, hgs_ld_wp, hgs_st_wp, hgs_ld_qf, hgs_st_qf, hgs_ld_qt, hgs_st_qt, hgs_ld_2, hgs_st_2, hgs_ld_3, hgs_st_3, hgs_ld_4, hgs_st_4, hgs_ld_301, hgs_st_301, hgs_ld_D, hgs_st_D, hgs_ld_s, hgs_ld_T, hgs_st_T, hgs_ld_o, hgs_st_o, hgs_ld_b, hgs_st_b, hgs_ld_z, hgs_st_z, hgs_al_b, hgx_alen_s, hgn_add, hgn_mul, hw, hg, h1, h3, r12, k45, hgB_t, k57, hgB_f, Bool.true_and, Bool.not_false]
      | true =>
        rw [a2] at k57
        simp (maxDischargeDepth := 7) only [hgM_t, hgM_f, hgM_n, hgx_iload_n_1, hgx_if_lt, hgx_aload_n_0, hgx_get0, hgx_ic_lt, hgx_iconst_0, hgx_ret3, hgx_istore_n_2i, hgx_istore_n_2r, hgx_istore_n_2f, hgx_istore_n_2n, hgx_istore_n_2l, hgx_iload_n_2, hgx_iconst_3, hgx_ic_gt, hgx_istore_n_3i, hgx_istore_n_3r, hgx_istore_n_3f, hgx_istore_n_3n, hgx_istore_n_3l, hgx_iload_n_3, hgx_ic_ge, hgs_get_5_0, hgx_invvirtual_3, hgx_aft_e, hgx_aft_i, hgx_aft_l, hgx_aft_v, hgx_if_eq, hgx_invvirtual_4, hgx_if_ne, hgx_iinc_3_1, hgx_goto, hgx_iinc_2_1, hgx_iconst_1, hgv56_0, hgr56_0, hgu56_0, hgv56_12, hgr56_12, hgu56_12, hgv56_14, hgr56_14, hgu56_14, hgv56_16, ← hgu56_16, hgv56_23, hgr56_23, hgv56_54, hgr56_54, hgu56_54, hgv56_60, hgr56_60, hgu56_60, hgv56_66, hgr56_66, hgu56_66, hgI_SI, hgI_SJ, hgJ_SI, hgJ_SJ, if_true, if_false, reduceIte, Nat.reduceEqDiff, hgWf_SI, hgWf_SJ, hgO_SI, hgO_SJ, hgAr_SI, hgAr_SJ, hgRp_SI, hgRp_SJ, hgN_SI, hgN_SJ, hgO_g, hgO_d, hgO_rl, hgO_r, hgO_0, hgO_1, hgO_64, hgO_298, hgO_300, hgCd_0, hgCd_1, hgCd_2, hgCd_3, hgCd_4, hgCd_5, hgRecv_O, hgRecv_99, List.length_cons, List.length_nil, Nat.zero_add, Nat.add_zero, Nat.le_refl, Nat.zero_le, and_self, or_true, true_or, true_and, and_true, ne_eq, not_false_eq_true, Nat.reduceLT, Nat.reduceLeDiff, Nat.reduceAdd, Nat.reduceEqDiff, hgn_eq, hgn_lt, hgn_le, if_true, if_false, reduceIte, Nat.not_lt_zero, hgs_aa_d, hgs_aa_r, hgs_aa_h, hgs_aa_m, hgs_aa_t, hgs_ld_wp, hgs_st_wp, hgs_ld_qf, hgs_st_qf, hgs_ld_qt, hgs_st_qt, hgs_ld_2, hgs_st_2, hgs_ld_3, hgs_st_3, hgs_ld_4, hgs_st_4, hgs_ld_301, hgs_st_301, hgs_ld_D, hgs_st_D, hgs_ld_s, hgs_ld_T, hgs_st_T, hgs_ld_o, hgs_st_o, hgs_ld_b, hgs_st_b, hgs_ld_z, hgs_st_z, hgs_al_b, hgx_alen_s, hgn_add, hgn_mul, hw, hg, h1, h3, r12, k45, hgB_t, k57, ih', Bool.true_and, Bool.not_true, Bool.false_eq_true]
theorem hgk_56s (hw : hgWf M) (hm : hgSm V) (hr : ru < vR V) (h : hgCV M g V) : ∀ (k n : Nat) (v3 : Option Value), n + k = 4 → hgW X 56 16 [some (.ref (g + 12)), some (.int (nI ru)), some (.int (nI n)), v3] [] (0, 0) M = some (.inl (.int (hgB (!hgAny (fun s => hgAny (fun r => vMg V ru (nI s) (nI r) && !vCvF V ru (nI s) (nI r)) 0 3) n k))), M) := by
  intro k
  induction k with
  | zero =>
    intro n v3 hi
    have h1 : n < 2147483648 := by omega
    have h3 : 3 < n := by omega
    rw [hgu56_16]
    simp (maxDischargeDepth := 7) only [hgM_t, hgM_f, hgM_n, hgx_iload_n_1, hgx_if_lt, hgx_aload_n_0, hgx_get0, hgx_ic_lt, hgx_iconst_0, hgx_ret3, hgx_istore_n_2i, hgx_istore_n_2r, hgx_istore_n_2f, hgx_istore_n_2n, hgx_istore_n_2l, hgx_iload_n_2, hgx_iconst_3, hgx_ic_gt, hgx_istore_n_3i, hgx_istore_n_3r, hgx_istore_n_3f, hgx_istore_n_3n, hgx_istore_n_3l, hgx_iload_n_3, hgx_ic_ge, hgs_get_5_0, hgx_invvirtual_3, hgx_aft_e, hgx_aft_i, hgx_aft_l, hgx_aft_v, hgx_if_eq, hgx_invvirtual_4, hgx_if_ne, hgx_iinc_3_1, hgx_goto, hgx_iinc_2_1, hgx_iconst_1, hgv56_0, hgr56_0, hgu56_0, hgv56_12, hgr56_12, hgu56_12, hgv56_14, hgr56_14, hgu56_14, hgv56_16, hgr56_16, hgv56_23, ← hgu56_23, hgv56_54, hgr56_54, hgu56_54, hgv56_60, hgr56_60, hgu56_60, hgv56_66, hgr56_66, hgu56_66, hgI_SI, hgI_SJ, hgJ_SI, hgJ_SJ, if_true, if_false, reduceIte, Nat.reduceEqDiff, hgWf_SI, hgWf_SJ, hgO_SI, hgO_SJ, hgAr_SI, hgAr_SJ, hgRp_SI, hgRp_SJ, hgN_SI, hgN_SJ, hgO_g, hgO_d, hgO_rl, hgO_r, hgO_0, hgO_1, hgO_64, hgO_298, hgO_300, hgCd_0, hgCd_1, hgCd_2, hgCd_3, hgCd_4, hgCd_5, hgRecv_O, hgRecv_99, List.length_cons, List.length_nil, Nat.zero_add, Nat.add_zero, Nat.le_refl, Nat.zero_le, and_self, or_true, true_or, true_and, and_true, ne_eq, not_false_eq_true, Nat.reduceLT, Nat.reduceLeDiff, Nat.reduceAdd, Nat.reduceEqDiff, hgn_eq, hgn_lt, hgn_le, if_true, if_false, reduceIte, Nat.not_lt_zero, hgn_add, hgn_mul, h1, h3, hgAny, Bool.not_false, hgB_t]
  | succ k ih =>
    intro n v3 hi
    have h1 : n < 2147483648 := by omega
    have h3 : ¬ 3 < n := by omega
    have ih' := ih (n + 1) none (by omega)
    have kr := hgk_56r (X := X) (n := n) hw hm hr h 3 0 (by omega)
    rw [hgu56_16]
    simp (maxDischargeDepth := 7) only [hgM_t, hgM_f, hgM_n, hgx_iload_n_1, hgx_if_lt, hgx_aload_n_0, hgx_get0, hgx_ic_lt, hgx_iconst_0, hgx_ret3, hgx_istore_n_2i, hgx_istore_n_2r, hgx_istore_n_2f, hgx_istore_n_2n, hgx_istore_n_2l, hgx_iload_n_2, hgx_iconst_3, hgx_ic_gt, hgx_istore_n_3i, hgx_istore_n_3r, hgx_istore_n_3f, hgx_istore_n_3n, hgx_istore_n_3l, hgx_iload_n_3, hgx_ic_ge, hgs_get_5_0, hgx_invvirtual_3, hgx_aft_e, hgx_aft_i, hgx_aft_l, hgx_aft_v, hgx_if_eq, hgx_invvirtual_4, hgx_if_ne, hgx_iinc_3_1, hgx_goto, hgx_iinc_2_1, hgx_iconst_1, hgv56_0, hgr56_0, hgu56_0, hgv56_12, hgr56_12, hgu56_12, hgv56_14, hgr56_14, hgu56_14, hgv56_16, hgr56_16, hgv56_23, ← hgu56_23, hgv56_54, hgr56_54, hgu56_54, hgv56_60, hgr56_60, hgu56_60, hgv56_66, hgr56_66, hgu56_66, hgI_SI, hgI_SJ, hgJ_SI, hgJ_SJ, if_true, if_false, reduceIte, Nat.reduceEqDiff, hgWf_SI, hgWf_SJ, hgO_SI, hgO_SJ, hgAr_SI, hgAr_SJ, hgRp_SI, hgRp_SJ, hgN_SI, hgN_SJ, hgO_g, hgO_d, hgO_rl, hgO_r, hgO_0, hgO_1, hgO_64, hgO_298, hgO_300, hgCd_0, hgCd_1, hgCd_2, hgCd_3, hgCd_4, hgCd_5, hgRecv_O, hgRecv_99, List.length_cons, List.length_nil, Nat.zero_add, Nat.add_zero, Nat.le_refl, Nat.zero_le, and_self, or_true, true_or, true_and, and_true, ne_eq, not_false_eq_true, Nat.reduceLT, Nat.reduceLeDiff, Nat.reduceAdd, Nat.reduceEqDiff, hgn_eq, hgn_lt, hgn_le, if_true, if_false, reduceIte, Nat.not_lt_zero, hgn_add, hgn_mul, h1, h3]
    rw [kr]
    have e : hgAny (fun s => hgAny (fun r => vMg V ru (nI s) (nI r) && !vCvF V ru (nI s) (nI r)) 0 3) n (k + 1) = if hgAny (fun r => vMg V ru (nI n) (nI r) && !vCvF V ru (nI n) (nI r)) 0 3 = true then true else hgAny (fun s => hgAny (fun r => vMg V ru (nI s) (nI r) && !vCvF V ru (nI s) (nI r)) 0 3) (n + 1) k := rfl
    rw [e]
    by_cases a : hgAny (fun r => vMg V ru (nI n) (nI r) && !vCvF V ru (nI n) (nI r)) 0 3 = true
    · rw [if_pos a, if_pos a]; rfl
    · rw [if_neg a, if_neg a, ih']
theorem hgCV_56 (hw : hgWf M) (hm : hgSm V) (hr : ru < vR V) (h : hgCV M g V) : hgWC X 56 [.ref (g + 12), .int (nI ru)] M = some (.inl (.int (hgB (vUse V ru))), M) := by
  have hg := h.1
  have hn := hm.2.1
  have hc := h.2.2.1
  have r1 : ru < 2147483648 := by omega
  have r2 : vR V < 2147483648 := by omega
  have k := hgk_56s (X := X) hw hm hr h 4 0 none (by omega)
  simp (maxDischargeDepth := 7) only [hgc56, hgM_t, hgM_f, hgM_n, hgx_iload_n_1, hgx_if_lt, hgx_aload_n_0, hgx_get0, hgx_ic_lt, hgx_iconst_0, hgx_ret3, hgx_istore_n_2i, hgx_istore_n_2r, hgx_istore_n_2f, hgx_istore_n_2n, hgx_istore_n_2l, hgx_iload_n_2, hgx_iconst_3, hgx_ic_gt, hgx_istore_n_3i, hgx_istore_n_3r, hgx_istore_n_3f, hgx_istore_n_3n, hgx_istore_n_3l, hgx_iload_n_3, hgx_ic_ge, hgs_get_5_0, hgx_invvirtual_3, hgx_aft_e, hgx_aft_i, hgx_aft_l, hgx_aft_v, hgx_if_eq, hgx_invvirtual_4, hgx_if_ne, hgx_iinc_3_1, hgx_goto, hgx_iinc_2_1, hgx_iconst_1, hgv56_0, hgr56_0, hgu56_0, hgv56_12, hgr56_12, hgu56_12, hgv56_14, hgr56_14, hgu56_14, hgv56_16, ← hgu56_16, hgv56_23, ← hgu56_23, hgv56_54, hgr56_54, hgu56_54, hgv56_60, hgr56_60, hgu56_60, hgv56_66, hgr56_66, hgu56_66, hgI_SI, hgI_SJ, hgJ_SI, hgJ_SJ, if_true, if_false, reduceIte, Nat.reduceEqDiff, hgWf_SI, hgWf_SJ, hgO_SI, hgO_SJ, hgAr_SI, hgAr_SJ, hgRp_SI, hgRp_SJ, hgN_SI, hgN_SJ, hgO_g, hgO_d, hgO_rl, hgO_r, hgO_0, hgO_1, hgO_64, hgO_298, hgO_300, hgCd_0, hgCd_1, hgCd_2, hgCd_3, hgCd_4, hgCd_5, hgRecv_O, hgRecv_99, List.length_cons, List.length_nil, Nat.zero_add, Nat.add_zero, Nat.le_refl, Nat.zero_le, and_self, or_true, true_or, true_and, and_true, ne_eq, not_false_eq_true, Nat.reduceLT, Nat.reduceLeDiff, Nat.reduceAdd, Nat.reduceEqDiff, hgn_eq, hgn_lt, hgn_le, if_true, if_false, reduceIte, Nat.not_lt_zero, hw, hg, hc, r1, r2, hr]
  exact k
/-- the reference looks at every port -/
theorem hgk_185p (hw : hgWf M) (hm : hgSm V) (hr : ru < vR V) (h : hgRV M 302 314 V) : ∀ (k i : Nat), i + k = 1000 → hgW X 185 32 [some (.ref 300), some (.int (nI ru)), some (.int (nI n)), some (.int (nI q)), some (.int (nI i))] [] (0, 0) M = if hgAny (fun p => vMt V (nI n) (nI q) (nI p) ru && !vEar V ru (nI n) (nI q) (nI p)) i k = true then some (.inl (.int (nI 0)), M) else hgW X 185 24 [some (.ref 300), some (.int (nI ru)), some (.int (nI n)), some (.int (nI (q + 1))), none] [] (0, 0) M := by
  intro k
  have hn := hm.2.1
  have r12 : ru < 12 := by omega
  induction k with
  | zero =>
    intro i hi
    have h1 : i < 2147483648 := by omega
    have h3 : 999 < i := by omega
    rw [hgu185_32]
    simp (maxDischargeDepth := 7) only [hgM_t, hgM_f, hgM_n, hgx_aload_n_0, hgx_iconst_0, hgx_put0, hgx_iload_n_1, hgx_invvirtual_2, hgx_aft_e, hgx_aft_i, hgx_aft_l, hgx_aft_v, hgx_if_eq, hgx_ret3, hgx_istore_n_2i, hgx_istore_n_2r, hgx_istore_n_2f, hgx_istore_n_2n, hgx_istore_n_2l, hgx_iload_n_2, hgx_iconst_3, hgx_ic_gt, hgx_istore_n_3i, hgx_istore_n_3r, hgx_istore_n_3f, hgx_istore_n_3n, hgx_istore_n_3l, hgx_iload_n_3, hgx_ic_ge, hgx_istore_4i, hgx_istore_4r, hgx_istore_4f, hgx_istore_4n, hgx_istore_4l, hgx_iload_4, hgx_sipush_999, hgx_invvirtual_5, hgx_iconst_m1, hgx_ic_ne, hgx_iinc_4_1, hgx_goto, hgx_iinc_3_1, hgx_iinc_2_1, hgx_iconst_1, hgv185_0, hgr185_0, hgu185_0, hgv185_15, hgr185_15, hgu185_15, hgv185_17, ← hgu185_17, hgv185_24, ← hgu185_24, hgv185_32, hgr185_32, hgv185_67, hgr185_67, hgu185_67, hgv185_73, hgr185_73, hgu185_73, hgv185_79, hgr185_79, hgu185_79, hgv185_85, hgr185_85, hgu185_85, hgI_SI, hgI_SJ, hgJ_SI, hgJ_SJ, if_true, if_false, reduceIte, Nat.reduceEqDiff, hgWf_SI, hgWf_SJ, hgO_SI, hgO_SJ, hgAr_SI, hgAr_SJ, hgRp_SI, hgRp_SJ, hgN_SI, hgN_SJ, hgO_g, hgO_d, hgO_rl, hgO_r, hgO_0, hgO_1, hgO_64, hgO_298, hgO_300, hgCd_0, hgCd_1, hgCd_2, hgCd_3, hgCd_4, hgCd_5, hgRecv_O, hgRecv_99, List.length_cons, List.length_nil, Nat.zero_add, Nat.add_zero, Nat.le_refl, Nat.zero_le, and_self, or_true, true_or, true_and, and_true, ne_eq, not_false_eq_true, Nat.reduceLT, Nat.reduceLeDiff, Nat.reduceAdd, Nat.reduceEqDiff, hgn_eq, hgn_lt, hgn_le, if_true, if_false, reduceIte, Nat.not_lt_zero, hgn_add, hgn_mul, h1, h3, hgAny, Bool.false_eq_true]
  | succ k ih =>
    intro i hi
    have h1 : i < 2147483648 := by omega
    have h3 : ¬ 999 < i := by omega
    have ih' := ih (i + 1) (by omega)
    have k156 := hgk_156 (X := X) (x := nI n) (y := nI q) (z := nI i) hw r12
    have e156 : hgMm M 302 (nI n) (nI q) (nI i) ru = vMt V (nI n) (nI q) (nI i) ru := by
      have f := h.2.2.2.2.2.2.2.2.1 ru hr
      unfold hgMm vMt
      rw [f 1 (by omega), f 2 (by omega), f 3 (by omega), f 4 (by omega)]
    rw [e156] at k156
    have k157 := hgk_157 (X := X) (n := ru) (x := nI n) (y := nI q) (z := nI i) hw (by omega)
    have e157 : hgFind (hgMm M 302 (nI n) (nI q) (nI i)) 0 ru = hgFind (vMt V (nI n) (nI q) (nI i)) 0 ru := hgFind_cg _ _ (fun j _ hj => by
      have f := h.2.2.2.2.2.2.2.2.1 j (by omega)
      unfold hgMm vMt
      rw [f 1 (by omega), f 2 (by omega), f 3 (by omega), f 4 (by omega)])
    rw [e157] at k157
    rw [hgu185_32]
    unfold hgAny
    cases a1 : vMt V (nI n) (nI q) (nI i) ru with
    | false =>
      rw [a1] at k156
      simp (maxDischargeDepth := 7) only [hgM_t, hgM_f, hgM_n, hgx_aload_n_0, hgx_iconst_0, hgx_put0, hgx_iload_n_1, hgx_invvirtual_2, hgx_aft_e, hgx_aft_i, hgx_aft_l, hgx_aft_v, hgx_if_eq, hgx_ret3, hgx_istore_n_2i, hgx_istore_n_2r, hgx_istore_n_2f, hgx_istore_n_2n, hgx_istore_n_2l, hgx_iload_n_2, hgx_iconst_3, hgx_ic_gt, hgx_istore_n_3i, hgx_istore_n_3r, hgx_istore_n_3f, hgx_istore_n_3n, hgx_istore_n_3l, hgx_iload_n_3, hgx_ic_ge, hgx_istore_4i, hgx_istore_4r, hgx_istore_4f, hgx_istore_4n, hgx_istore_4l, hgx_iload_4, hgx_sipush_999, hgx_invvirtual_5, hgx_iconst_m1, hgx_ic_ne, hgx_iinc_4_1, hgx_goto, hgx_iinc_3_1, hgx_iinc_2_1, hgx_iconst_1, hgv185_0, hgr185_0, hgu185_0, hgv185_15, hgr185_15, hgu185_15, hgv185_17, ← hgu185_17, hgv185_24, ← hgu185_24, hgv185_32, hgr185_32, hgv185_67, hgr185_67, hgu185_67, hgv185_73, hgr185_73, hgu185_73, hgv185_79, hgr185_79, hgu185_79, hgv185_85, hgr185_85, hgu185_85, hgI_SI, hgI_SJ, hgJ_SI, hgJ_SJ, if_true, if_false, reduceIte, Nat.reduceEqDiff, hgWf_SI, hgWf_SJ, hgO_SI, hgO_SJ, hgAr_SI, hgAr_SJ, hgRp_SI, hgRp_SJ, hgN_SI, hgN_SJ, hgO_g, hgO_d, hgO_rl, hgO_r, hgO_0, hgO_1, hgO_64, hgO_298, hgO_300, hgCd_0, hgCd_1, hgCd_2, hgCd_3, hgCd_4, hgCd_5, hgRecv_O, hgRecv_99, List.length_cons, List.length_nil, Nat.zero_add, Nat.add_zero, Nat.le_refl, Nat.zero_le, and_self, or_true, true_or, true_and, and_true, ne_eq, not_false_eq_true, Nat.reduceLT, Nat.reduceLeDiff, Nat.reduceAdd, Nat.reduceEqDiff, hgn_eq, hgn_lt, hgn_le, if_true, if_false, reduceIte, Nat.not_lt_zero, hgn_add, hgn_mul, hw, h1, h3, k156, hgB_f, ih', Bool.false_and, Bool.false_eq_true]
    | true =>
      rw [a1] at k156
      unfold vEar
      cases a2 : hgFind (vMt V (nI n) (nI q) (nI i)) 0 ru with
      | none =>
        rw [a2, hgOi_n] at k157
        simp (maxDischargeDepth := 7) only [hgM_t, hgM_f, hgM_n, hgx_aload_n_0, hgx_iconst_0, hgx_put0, hgx_iload_n_1, hgx_invvirtual_2, hgx_aft_e, hgx_aft_i, hgx_aft_l, hgx_aft_v, hgx_if_eq, hgx_ret3, hgx_istore_n_2i, hgx_istore_n_2r, hgx_istore_n_2f, hgx_istore_n_2n, hgx_istore_n_2l, hgx_iload_n_2, hgx_iconst_3, hgx_ic_gt, hgx_istore_n_3i, hgx_istore_n_3r, hgx_istore_n_3f, hgx_istore_n_3n, hgx_istore_n_3l, hgx_iload_n_3, hgx_ic_ge, hgx_istore_4i, hgx_istore_4r, hgx_istore_4f, hgx_istore_4n, hgx_istore_4l, hgx_iload_4, hgx_sipush_999, hgx_invvirtual_5, hgx_iconst_m1, hgx_ic_ne, hgx_iinc_4_1, hgx_goto, hgx_iinc_3_1, hgx_iinc_2_1, hgx_iconst_1, hgv185_0, hgr185_0, hgu185_0, hgv185_15, hgr185_15, hgu185_15, hgv185_17, ← hgu185_17, hgv185_24, ← hgu185_24, hgv185_32, hgr185_32, hgv185_67, hgr185_67, hgu185_67, hgv185_73, hgr185_73, hgu185_73, hgv185_79, hgr185_79, hgu185_79, hgv185_85, hgr185_85, hgu185_85, hgI_SI, hgI_SJ, hgJ_SI, hgJ_SJ, if_true, if_false, reduceIte, Nat.reduceEqDiff, hgWf_SI, hgWf_SJ, hgO_SI, hgO_SJ, hgAr_SI, hgAr_SJ, hgRp_SI, hgRp_SJ, hgN_SI, hgN_SJ, hgO_g, hgO_d, hgO_rl, hgO_r, hgO_0, hgO_1, hgO_64, hgO_298, hgO_300, hgCd_0, hgCd_1, hgCd_2, hgCd_3, hgCd_4, hgCd_5, hgRecv_O, hgRecv_99, List.length_cons, List.length_nil, Nat.zero_add, Nat.add_zero, Nat.le_refl, Nat.zero_le, and_self, or_true, true_or, true_and, and_true, ne_eq, not_false_eq_true, Nat.reduceLT, Nat.reduceLeDiff, Nat.reduceAdd, Nat.reduceEqDiff, hgn_eq, hgn_lt, hgn_le, if_true, if_false, reduceIte, Nat.not_lt_zero, hgn_add, hgn_mul, hw, h1, h3, k156, hgB_t, k157, hgm1_m1, Option.isSome_none, Bool.true_and, Bool.not_false]
      | some j =>
        rw [a2, hgOi_s] at k157
        have hj : j < 1000 := by have := hgFind_lt a2; omega
        simp (maxDischargeDepth := 7) only [hgM_t, hgM_f, hgM_n, hgx_aload_n_0, hgx_iconst_0, hgx_put0, hgx_iload_n_1, hgx_invvirtual_2, hgx_aft_e, hgx_aft_i, hgx_aft_l, hgx_aft_v, hgx_if_eq, hgx_ret3, hgx_istore_n_2i, hgx_istore_n_2r, hgx_istore_n_2f, hgx_istore_n_2n, hgx_istore_n_2l, hgx_iload_n_2, hgx_iconst_3, hgx_ic_gt, hgx_istore_n_3i, hgx_istore_n_3r, hgx_istore_n_3f, hgx_istore_n_3n, hgx_istore_n_3l, hgx_iload_n_3, hgx_ic_ge, hgx_istore_4i, hgx_istore_4r, hgx_istore_4f, hgx_istore_4n, hgx_istore_4l, hgx_iload_4, hgx_sipush_999, hgx_invvirtual_5, hgx_iconst_m1, hgx_ic_ne, hgx_iinc_4_1, hgx_goto, hgx_iinc_3_1, hgx_iinc_2_1, hgx_iconst_1, hgv185_0, hgr185_0, hgu185_0, hgv185_15, hgr185_15, hgu185_15, hgv185_17, ← hgu185_17, hgv185_24, ← hgu185_24, hgv185_32, hgr185_32, hgv185_67, hgr185_67, hgu185_67, hgv185_73, hgr185_73, hgu185_73, hgv185_79, hgr185_79, hgu185_79, hgv185_85, hgr185_85, hgu185_85, hgI_SI, hgI_SJ, hgJ_SI, hgJ_SJ, if_true, if_false, reduceIte, Nat.reduceEqDiff, hgWf_SI, hgWf_SJ, hgO_SI, hgO_SJ, hgAr_SI, hgAr_SJ, hgRp_SI, hgRp_SJ, hgN_SI, hgN_SJ, hgO_g, hgO_d, hgO_rl, hgO_r, hgO_0, hgO_1, hgO_64, hgO_298, hgO_300, hgCd_0, hgCd_1, hgCd_2, hgCd_3, hgCd_4, hgCd_5, hgRecv_O, hgRecv_99, List.length_cons, List.length_nil, Nat.zero_add, Nat.add_zero, Nat.le_refl, Nat.zero_le, and_self, or_true, true_or, true_and, and_true, ne_eq, not_false_eq_true, Nat.reduceLT, Nat.reduceLeDiff, Nat.reduceAdd, Nat.reduceEqDiff, hgn_eq, hgn_lt, hgn_le, if_true, if_false, reduceIte, Nat.not_lt_zero, hgn_add, hgn_mul, hw, h1, h3, k156, hgB_t, k157, hgm1_nI, hj, Option.isSome_some, Bool.true_and, Bool.not_true, Bool.false_eq_true]
        exact ih'
theorem hgk_185r (hw : hgWf M) (hm : hgSm V) (hr : ru < vR V) (h : hgRV M 302 314 V) : ∀ (k q : Nat) (v4 : Option Value), q + k = 3 → hgW X 185 24 [some (.ref 300), some (.int (nI ru)), some (.int (nI n)), some (.int (nI q)), v4] [] (0, 0) M = if hgAny (fun q => hgAny (fun p => vMt V (nI n) (nI q) (nI p) ru && !vEar V ru (nI n) (nI q) (nI p)) 0 1000) q k = true then some (.inl (.int (nI 0)), M) else hgW X 185 17 [some (.ref 300), some (.int (nI ru)), some (.int (nI (n + 1))), none, none] [] (0, 0) M := by
  intro k
  induction k with
  | zero =>
    intro q v4 hi
    have h1 : q < 2147483648 := by omega
    have h3 : 3 ≤ q := by omega
    rw [hgu185_24]
    simp (maxDischargeDepth := 7) only [hgM_t, hgM_f, hgM_n, hgx_aload_n_0, hgx_iconst_0, hgx_put0, hgx_iload_n_1, hgx_invvirtual_2, hgx_aft_e, hgx_aft_i, hgx_aft_l, hgx_aft_v, hgx_if_eq, hgx_ret3, hgx_istore_n_2i, hgx_istore_n_2r, hgx_istore_n_2f, hgx_istore_n_2n, hgx_istore_n_2l, hgx_iload_n_2, hgx_iconst_3, hgx_ic_gt, hgx_istore_n_3i, hgx_istore_n_3r, hgx_istore_n_3f, hgx_istore_n_3n, hgx_istore_n_3l, hgx_iload_n_3, hgx_ic_ge, hgx_istore_4i, hgx_istore_4r, hgx_istore_4f, hgx_istore_4n, hgx_istore_4l, hgx_iload_4, hgx_sipush_999, hgx_invvirtual_5, hgx_iconst_m1, hgx_ic_ne, hgx_iinc_4_1, hgx_goto, hgx_iinc_3_1, hgx_iinc_2_1, hgx_iconst_1, hgv185_0, hgr185_0, hgu185_0, hgv185_15, hgr185_15, hgu185_15, hgv185_17, ← hgu185_17, hgv185_24, hgr185_24, hgv185_32, ← hgu185_32, hgv185_67, hgr185_67, hgu185_67, hgv185_73, hgr185_73, hgu185_73, hgv185_79, hgr185_79, hgu185_79, hgv185_85, hgr185_85, hgu185_85, hgI_SI, hgI_SJ, hgJ_SI, hgJ_SJ, if_true, if_false, reduceIte, Nat.reduceEqDiff, hgWf_SI, hgWf_SJ, hgO_SI, hgO_SJ, hgAr_SI, hgAr_SJ, hgRp_SI, hgRp_SJ, hgN_SI, hgN_SJ, hgO_g, hgO_d, hgO_rl, hgO_r, hgO_0, hgO_1, hgO_64, hgO_298, hgO_300, hgCd_0, hgCd_1, hgCd_2, hgCd_3, hgCd_4, hgCd_5, hgRecv_O, hgRecv_99, List.length_cons, List.length_nil, Nat.zero_add, Nat.add_zero, Nat.le_refl, Nat.zero_le, and_self, or_true, true_or, true_and, and_true, ne_eq, not_false_eq_true, Nat.reduceLT, Nat.reduceLeDiff, Nat.reduceAdd, Nat.reduceEqDiff, hgn_eq, hgn_lt, hgn_le, if_true, if_false, reduceIte, Nat.not_lt_zero, hgn_add, hgn_mul, h1, h3, hgAny, Bool.false_eq_true]
  | succ k ih =>
    intro q v4 hi
    have h1 : q < 2147483648 := by omega
    have h3 : ¬ 3 ≤ q := by omega
    have ih' := ih (q + 1) none (by omega)
    have kr := hgk_185p (X := X) (n := n) (q := q) hw hm hr h 1000 0 (by omega)
    rw [hgu185_24]
    simp (maxDischargeDepth := 7) only [hgM_t, hgM_f, hgM_n, hgx_aload_n_0, hgx_iconst_0, hgx_put0, hgx_iload_n_1, hgx_invvirtual_2, hgx_aft_e, hgx_aft_i, hgx_aft_l, hgx_aft_v, hgx_if_eq, hgx_ret3, hgx_istore_n_2i, hgx_istore_n_2r, hgx_istore_n_2f, hgx_istore_n_2n, hgx_istore_n_2l, hgx_iload_n_2, hgx_iconst_3, hgx_ic_gt, hgx_istore_n_3i, hgx_istore_n_3r, hgx_istore_n_3f, hgx_istore_n_3n, hgx_istore_n_3l, hgx_iload_n_3, hgx_ic_ge, hgx_istore_4i, hgx_istore_4r, hgx_istore_4f, hgx_istore_4n, hgx_istore_4l, hgx_iload_4, hgx_sipush_999, hgx_invvirtual_5, hgx_iconst_m1, hgx_ic_ne, hgx_iinc_4_1, hgx_goto, hgx_iinc_3_1, hgx_iinc_2_1, hgx_iconst_1, hgv185_0, hgr185_0, hgu185_0, hgv185_15, hgr185_15, hgu185_15, hgv185_17, ← hgu185_17, hgv185_24, hgr185_24, hgv185_32, ← hgu185_32, hgv185_67, hgr185_67, hgu185_67, hgv185_73, hgr185_73, hgu185_73, hgv185_79, hgr185_79, hgu185_79, hgv185_85, hgr185_85, hgu185_85, hgI_SI, hgI_SJ, hgJ_SI, hgJ_SJ, if_true, if_false, reduceIte, Nat.reduceEqDiff, hgWf_SI, hgWf_SJ, hgO_SI, hgO_SJ, hgAr_SI, hgAr_SJ, hgRp_SI, hgRp_SJ, hgN_SI, hgN_SJ, hgO_g, hgO_d, hgO_rl, hgO_r, hgO_0, hgO_1, hgO_64, hgO_298, hgO_300, hgCd_0, hgCd_1, hgCd_2, hgCd_3, hgCd_4, hgCd_5, hgRecv_O, hgRecv_99, List.length_cons, List.length_nil, Nat.zero_add, Nat.add_zero, Nat.le_refl, Nat.zero_le, and_self, or_true, true_or, true_and, and_true, ne_eq, not_false_eq_true, Nat.reduceLT, Nat.reduceLeDiff, Nat.reduceAdd, Nat.reduceEqDiff, hgn_eq, hgn_lt, hgn_le, if_true, if_false, reduceIte, Nat.not_lt_zero, hgn_add, hgn_mul, h1, h3]
    rw [kr]
    have e : hgAny (fun q => hgAny (fun p => vMt V (nI n) (nI q) (nI p) ru && !vEar V ru (nI n) (nI q) (nI p)) 0 1000) q (k + 1) = if hgAny (fun p => vMt V (nI n) (nI q) (nI p) ru && !vEar V ru (nI n) (nI q) (nI p)) 0 1000 = true then true else hgAny (fun q => hgAny (fun p => vMt V (nI n) (nI q) (nI p) ru && !vEar V ru (nI n) (nI q) (nI p)) 0 1000) (q + 1) k := rfl
    rw [e]
    by_cases a : hgAny (fun p => vMt V (nI n) (nI q) (nI p) ru && !vEar V ru (nI n) (nI q) (nI p)) 0 1000 = true
    · rw [if_pos a, if_pos a, if_pos rfl]
    · rw [if_neg a, if_neg a, ih']
def vUs2 (V : hgV) (ru : Nat) : Bool := !hgAny (fun s => hgAny (fun q => hgAny (fun p => vMt V (nI s) (nI q) (nI p) ru && !vEar V ru (nI s) (nI q) (nI p)) 0 1000) 0 3) 0 4
theorem hgk_185s (hw : hgWf M) (hm : hgSm V) (hr : ru < vR V) (h : hgRV M 302 314 V) : ∀ (k n : Nat) (v3 v4 : Option Value), n + k = 4 → hgW X 185 17 [some (.ref 300), some (.int (nI ru)), some (.int (nI n)), v3, v4] [] (0, 0) M = some (.inl (.int (hgB (!hgAny (fun s => hgAny (fun q => hgAny (fun p => vMt V (nI s) (nI q) (nI p) ru && !vEar V ru (nI s) (nI q) (nI p)) 0 1000) 0 3) n k))), M) := by
  intro k
  induction k with
  | zero =>
    intro n v3 v4 hi
    have h1 : n < 2147483648 := by omega
    have h3 : 3 < n := by omega
    rw [hgu185_17]
    simp (maxDischargeDepth := 7) only [hgM_t, hgM_f, hgM_n, hgx_aload_n_0, hgx_iconst_0, hgx_put0, hgx_iload_n_1, hgx_invvirtual_2, hgx_aft_e, hgx_aft_i, hgx_aft_l, hgx_aft_v, hgx_if_eq, hgx_ret3, hgx_istore_n_2i, hgx_istore_n_2r, hgx_istore_n_2f, hgx_istore_n_2n, hgx_istore_n_2l, hgx_iload_n_2, hgx_iconst_3, hgx_ic_gt, hgx_istore_n_3i, hgx_istore_n_3r, hgx_istore_n_3f, hgx_istore_n_3n, hgx_istore_n_3l, hgx_iload_n_3, hgx_ic_ge, hgx_istore_4i, hgx_istore_4r, hgx_istore_4f, hgx_istore_4n, hgx_istore_4l, hgx_iload_4, hgx_sipush_999, hgx_invvirtual_5, hgx_iconst_m1, hgx_ic_ne, hgx_iinc_4_1, hgx_goto, hgx_iinc_3_1, hgx_iinc_2_1, hgx_iconst_1, hgv185_0, hgr185_0, hgu185_0, hgv185_15, hgr185_15, hgu185_15, hgv185_17, hgr185_17, hgv185_24, ← hgu185_24, hgv185_32, ← hgu185_32, hgv185_67, hgr185_67, hgu185_67, hgv185_73, hgr185_73, hgu185_73, hgv185_79, hgr185_79, hgu185_79, hgv185_85, hgr185_85, hgu185_85, hgI_SI, hgI_SJ, hgJ_SI, hgJ_SJ, if_true, if_false, reduceIte, Nat.reduceEqDiff, hgWf_SI, hgWf_SJ, hgO_SI, hgO_SJ, hgAr_SI, hgAr_SJ, hgRp_SI, hgRp_SJ, hgN_SI, hgN_SJ, hgO_g, hgO_d, hgO_rl, hgO_r, hgO_0, hgO_1, hgO_64, hgO_298, hgO_300, hgCd_0, hgCd_1, hgCd_2, hgCd_3, hgCd_4, hgCd_5, hgRecv_O, hgRecv_99, List.length_cons, List.length_nil, Nat.zero_add, Nat.add_zero, Nat.le_refl, Nat.zero_le, and_self, or_true, true_or, true_and, and_true, ne_eq, not_false_eq_true, Nat.reduceLT, Nat.reduceLeDiff, Nat.reduceAdd, Nat.reduceEqDiff, hgn_eq, hgn_lt, hgn_le, if_true, if_false, reduceIte, Nat.not_lt_zero, hgn_add, hgn_mul, h1, h3, hgAny, Bool.not_false, hgB_t]
  | succ k ih =>
    intro n v3 v4 hi
    have h1 : n < 2147483648 := by omega
    have h3 : ¬ 3 < n := by omega
    have ih' := ih (n + 1) none none (by omega)
    have kr := fun v4 => hgk_185r (X := X) (n := n) hw hm hr h 3 0 v4 (by omega)
    rw [hgu185_17]
    simp (maxDischargeDepth := 7) only [hgM_t, hgM_f, hgM_n, hgx_aload_n_0, hgx_iconst_0, hgx_put0, hgx_iload_n_1, hgx_invvirtual_2, hgx_aft_e, hgx_aft_i, hgx_aft_l, hgx_aft_v, hgx_if_eq, hgx_ret3, hgx_istore_n_2i, hgx_istore_n_2r, hgx_istore_n_2f, hgx_istore_n_2n, hgx_istore_n_2l, hgx_iload_n_2, hgx_iconst_3, hgx_ic_gt, hgx_istore_n_3i, hgx_istore_n_3r, hgx_istore_n_3f, hgx_istore_n_3n, hgx_istore_n_3l, hgx_iload_n_3, hgx_ic_ge, hgx_istore_4i, hgx_istore_4r, hgx_istore_4f, hgx_istore_4n, hgx_istore_4l, hgx_iload_4, hgx_sipush_999, hgx_invvirtual_5, hgx_iconst_m1, hgx_ic_ne, hgx_iinc_4_1, hgx_goto, hgx_iinc_3_1, hgx_iinc_2_1, hgx_iconst_1, hgv185_0, hgr185_0, hgu185_0, hgv185_15, hgr185_15, hgu185_15, hgv185_17, hgr185_17, hgv185_24, ← hgu185_24, hgv185_32, ← hgu185_32, hgv185_67, hgr185_67, hgu185_67, hgv185_73, hgr185_73, hgu185_73, hgv185_79, hgr185_79, hgu185_79, hgv185_85, hgr185_85, hgu185_85, hgI_SI, hgI_SJ, hgJ_SI, hgJ_SJ, if_true, if_false, reduceIte, Nat.reduceEqDiff, hgWf_SI, hgWf_SJ, hgO_SI, hgO_SJ, hgAr_SI, hgAr_SJ, hgRp_SI, hgRp_SJ, hgN_SI, hgN_SJ, hgO_g, hgO_d, hgO_rl, hgO_r, hgO_0, hgO_1, hgO_64, hgO_298, hgO_300, hgCd_0, hgCd_1, hgCd_2, hgCd_3, hgCd_4, hgCd_5, hgRecv_O, hgRecv_99, List.length_cons, List.length_nil, Nat.zero_add, Nat.add_zero, Nat.le_refl, Nat.zero_le, and_self, or_true, true_or, true_and, and_true, ne_eq, not_false_eq_true, Nat.reduceLT, Nat.reduceLeDiff, Nat.reduceAdd, Nat.reduceEqDiff, hgn_eq, hgn_lt, hgn_le, if_true, if_false, reduceIte, Nat.not_lt_zero, hgn_add, hgn_mul, h1, h3]
    rw [kr]
    have e : hgAny (fun s => hgAny (fun q => hgAny (fun p => vMt V (nI s) (nI q) (nI p) ru && !vEar V ru (nI s) (nI q) (nI p)) 0 1000) 0 3) n (k + 1) = if hgAny (fun q => hgAny (fun p => vMt V (nI n) (nI q) (nI p) ru && !vEar V ru (nI n) (nI q) (nI p)) 0 1000) 0 3 = true then true else hgAny (fun s => hgAny (fun q => hgAny (fun p => vMt V (nI s) (nI q) (nI p) ru && !vEar V ru (nI s) (nI q) (nI p)) 0 1000) 0 3) (n + 1) k := rfl
    rw [e]
    by_cases a : hgAny (fun q => hgAny (fun p => vMt V (nI n) (nI q) (nI p) ru && !vEar V ru (nI n) (nI q) (nI p)) 0 1000) 0 3 = true
    · rw [if_pos a, if_pos a]; rfl
    · rw [if_neg a, if_neg a, ih']
theorem vUs_eq (hk : hgVok V c) (hr : ru < vR V) : vUs2 V ru = vUse V ru := by
  unfold vUs2 vUse
  congr 1
  refine hgAny_cg 4 0 (fun s _ hs => hgAny_cg 3 0 (fun q _ hq => ?_))
  obtain ⟨_, _, l3, l4⟩ := vLH hk hr
  have e : hgAny (fun p => vMt V (nI s) (nI q) (nI p) ru && !vEar V ru (nI s) (nI q) (nI p)) 0 1000 = true ↔ (vMg V ru (nI s) (nI q) && !vCvF V ru (nI s) (nI q)) = true := by
    rw [hgAny_iff, Bool.and_eq_true, Bool.not_eq_true']
    constructor
    · rintro ⟨p, p1, p2, p3⟩
      rw [Bool.and_eq_true, Bool.not_eq_true'] at p3
      obtain ⟨m1, m2, m3⟩ := (vMt_n hk hr (show p ≤ 1000 by omega)).mp p3.1
      refine ⟨m3, ?_⟩
      cases hC : vCvF V ru (nI s) (nI q) with
      | false => rfl
      | true =>
        have := (vCvF_n hk hr).mp hC p m1 m2
        rw [p3.2] at this
        cases this
    · rintro ⟨m, c0⟩
      have : ¬ ∀ p, vLo V ru ≤ p → p ≤ vHi V ru → vEar V ru (nI s) (nI q) (nI p) = true := fun hall => by
        rw [(vCvF_n hk hr).mpr hall] at c0
        cases c0
      have : ∃ p, vLo V ru ≤ p ∧ p ≤ vHi V ru ∧ vEar V ru (nI s) (nI q) (nI p) = false := Classical.byContradiction (fun hne => this (fun p p1 p2 => by
        cases hE : vEar V ru (nI s) (nI q) (nI p) with
        | true => rfl
        | false => exact absurd ⟨p, p1, p2, hE⟩ hne))
      obtain ⟨p, p1, p2, p3⟩ := this
      refine ⟨p, by omega, by omega, ?_⟩
      rw [Bool.and_eq_true, Bool.not_eq_true']
      exact ⟨(vMt_n hk hr (by omega)).mpr ⟨p1, p2, m⟩, p3⟩
  exact Bool.eq_iff_iff.mpr e
theorem hgOp_216 (h : hgInv M N) : hgBb X 216 [.ref 0, .int x, .ref 325] 185 [.ref 300, .int x] M N := by
  obtain ⟨V, Hs, c, hc, hC, hR, hH, hb⟩ := h
  obtain ⟨hw, g6, _, _, hn, hN⟩ := hgSC_6 hC
  by_cases hx : ∃ i, i < vR V ∧ x = nI i
  · obtain ⟨ru, hr, rfl⟩ := hx
    have k1 := hgk_119a (X := X) hC hr
    have k56 : hgWC X 56 [.ref 18, .int (nI ru)] M = some (.inl (.int (hgB (vUse V ru))), M) := hgCV_56 (g := 6) hw (hgSm_ok hC.2.2.2.2.1) hr hC.2.2.1
    have o18 : hgO M 18 5 := hgO_rl hw g6
    have kc : hgWC X 102 [.ref 0, .int (nI ru)] M = some (.inl (.int (hgB (vUse V ru))), M) := by
      simp (maxDischargeDepth := 7) only [hgc102, hgM_t, hgM_f, hgM_n, hgx_aload_n_0, hgx_iload_n_1, hgx_invvirtual_2, hgx_aft_e, hgx_aft_i, hgx_aft_l, hgx_aft_v, hgs_get_7_3, hgs_get_1_7, hgx_ret3, hgv102_0, hgr102_0, hgu102_0, hgI_SI, hgI_SJ, hgJ_SI, hgJ_SJ, if_true, if_false, reduceIte, Nat.reduceEqDiff, hgWf_SI, hgWf_SJ, hgO_SI, hgO_SJ, hgAr_SI, hgAr_SJ, hgRp_SI, hgRp_SJ, hgN_SI, hgN_SJ, hgO_g, hgO_d, hgO_rl, hgO_r, hgO_0, hgO_1, hgO_64, hgO_298, hgO_300, hgCd_0, hgCd_1, hgCd_2, hgCd_3, hgCd_4, hgCd_5, hgRecv_O, hgRecv_99, List.length_cons, List.length_nil, Nat.zero_add, Nat.add_zero, Nat.le_refl, Nat.zero_le, and_self, or_true, true_or, true_and, and_true, ne_eq, not_false_eq_true, Nat.reduceLT, Nat.reduceLeDiff, Nat.reduceAdd, Nat.reduceEqDiff, hgn_eq, hgn_lt, hgn_le, if_true, if_false, reduceIte, Nat.not_lt_zero, hw, g6, k1, k56, o18, hgB_o]
    refine hgBb_ok hb (hgL_216 hw hw kc) hC hgFC_r ⟨hgSI (hgSJ M 325 0 (if vUse V ru = true then 1 else 0)) 300 0 (nI 0), ?_, hgSM_0 (hgSM_o hR), hgFR_0, hgI_at⟩ hH (by omega)
    have h3 : hgSM (hgSI (hgSJ M 325 0 (if vUse V ru = true then 1 else 0)) 300 0 (nI 0)) V Hs c := hgSM_0 (hgSM_o hR)
    have r1 := hgk_167a (X := X) h3 hgI_at ⟨ru, hr, rfl⟩
    have ks := hgk_185s (X := X) h3.1 (hgSm_ok h3.2.2.2.1) hr h3.2.1 4 0 none none (by omega)
    have eu : (!hgAny (fun s => hgAny (fun q => hgAny (fun p => vMt V (nI s) (nI q) (nI p) ru && !vEar V ru (nI s) (nI q) (nI p)) 0 1000) 0 3) 0 4) = vUse V ru := vUs_eq hC.2.2.2.2.1 hr
    rw [eu] at ks
    simp (maxDischargeDepth := 7) only [hgc185, hgM_t, hgM_f, hgM_n, hgx_aload_n_0, hgx_iconst_0, hgx_put0, hgx_iload_n_1, hgx_invvirtual_2, hgx_aft_e, hgx_aft_i, hgx_aft_l, hgx_aft_v, hgx_if_eq, hgx_ret3, hgx_istore_n_2i, hgx_istore_n_2r, hgx_istore_n_2f, hgx_istore_n_2n, hgx_istore_n_2l, hgx_iload_n_2, hgx_iconst_3, hgx_ic_gt, hgx_istore_n_3i, hgx_istore_n_3r, hgx_istore_n_3f, hgx_istore_n_3n, hgx_istore_n_3l, hgx_iload_n_3, hgx_ic_ge, hgx_istore_4i, hgx_istore_4r, hgx_istore_4f, hgx_istore_4n, hgx_istore_4l, hgx_iload_4, hgx_sipush_999, hgx_invvirtual_5, hgx_iconst_m1, hgx_ic_ne, hgx_iinc_4_1, hgx_goto, hgx_iinc_3_1, hgx_iinc_2_1, hgx_iconst_1, hgv185_0, hgr185_0, hgu185_0, hgv185_15, hgr185_15, hgu185_15, hgv185_17, ← hgu185_17, hgv185_24, ← hgu185_24, hgv185_32, ← hgu185_32, hgv185_67, hgr185_67, hgu185_67, hgv185_73, hgr185_73, hgu185_73, hgv185_79, hgr185_79, hgu185_79, hgv185_85, hgr185_85, hgu185_85, hgWf_SI, hgWf_SJ, hgO_SI, hgO_SJ, hgAr_SI, hgAr_SJ, hgRp_SI, hgRp_SJ, hgN_SI, hgN_SJ, hgO_g, hgO_d, hgO_rl, hgO_r, hgO_0, hgO_1, hgO_64, hgO_298, hgO_300, hgCd_0, hgCd_1, hgCd_2, hgCd_3, hgCd_4, hgCd_5, hgRecv_O, hgRecv_99, List.length_cons, List.length_nil, Nat.zero_add, Nat.add_zero, Nat.le_refl, Nat.zero_le, and_self, or_true, true_or, true_and, and_true, ne_eq, not_false_eq_true, Nat.reduceLT, Nat.reduceLeDiff, Nat.reduceAdd, Nat.reduceEqDiff, hgn_eq, hgn_lt, hgn_le, if_true, if_false, reduceIte, Nat.not_lt_zero, hw, r1]
    exact ks
  · have k1 := hgk_119b (X := X) hC hx
    have kc : hgWC X 102 [.ref 0, .int x] M = some (.inr 2, M) := by
      simp (maxDischargeDepth := 7) only [hgc102, hgM_t, hgM_f, hgM_n, hgx_aload_n_0, hgx_iload_n_1, hgx_invvirtual_2, hgx_aft_e, hgx_aft_i, hgx_aft_l, hgx_aft_v, hgs_get_7_3, hgs_get_1_7, hgx_ret3, hgv102_0, hgr102_0, hgu102_0, hgI_SI, hgI_SJ, hgJ_SI, hgJ_SJ, if_true, if_false, reduceIte, Nat.reduceEqDiff, hgWf_SI, hgWf_SJ, hgO_SI, hgO_SJ, hgAr_SI, hgAr_SJ, hgRp_SI, hgRp_SJ, hgN_SI, hgN_SJ, hgO_g, hgO_d, hgO_rl, hgO_r, hgO_0, hgO_1, hgO_64, hgO_298, hgO_300, hgCd_0, hgCd_1, hgCd_2, hgCd_3, hgCd_4, hgCd_5, hgRecv_O, hgRecv_99, List.length_cons, List.length_nil, Nat.zero_add, Nat.add_zero, Nat.le_refl, Nat.zero_le, and_self, or_true, true_or, true_and, and_true, ne_eq, not_false_eq_true, Nat.reduceLT, Nat.reduceLeDiff, Nat.reduceAdd, Nat.reduceEqDiff, hgn_eq, hgn_lt, hgn_le, if_true, if_false, reduceIte, Nat.not_lt_zero, hw, k1]
    have h2 : hgSM (hgSI M 300 0 (nI 0)) V Hs c := hgSM_0 hR
    have r1 := hgk_167b (X := X) h2 hgI_at hx
    refine hgBb_no (v := false) hb hgn10 (hgL_216_2 hw kc) ?_ hC hR hH (by omega)
    simp (maxDischargeDepth := 7) only [hgc185, hgM_t, hgM_f, hgM_n, hgx_aload_n_0, hgx_iconst_0, hgx_put0, hgx_iload_n_1, hgx_invvirtual_2, hgx_aft_e, hgx_aft_i, hgx_aft_l, hgx_aft_v, hgx_if_eq, hgx_ret3, hgx_istore_n_2i, hgx_istore_n_2r, hgx_istore_n_2f, hgx_istore_n_2n, hgx_istore_n_2l, hgx_iload_n_2, hgx_iconst_3, hgx_ic_gt, hgx_istore_n_3i, hgx_istore_n_3r, hgx_istore_n_3f, hgx_istore_n_3n, hgx_istore_n_3l, hgx_iload_n_3, hgx_ic_ge, hgx_istore_4i, hgx_istore_4r, hgx_istore_4f, hgx_istore_4n, hgx_istore_4l, hgx_iload_4, hgx_sipush_999, hgx_invvirtual_5, hgx_iconst_m1, hgx_ic_ne, hgx_iinc_4_1, hgx_goto, hgx_iinc_3_1, hgx_iinc_2_1, hgx_iconst_1, hgv185_0, hgr185_0, hgu185_0, hgv185_15, hgr185_15, hgu185_15, hgv185_17, ← hgu185_17, hgv185_24, ← hgu185_24, hgv185_32, ← hgu185_32, hgv185_67, hgr185_67, hgu185_67, hgv185_73, hgr185_73, hgu185_73, hgv185_79, hgr185_79, hgu185_79, hgv185_85, hgr185_85, hgu185_85, hgWf_SI, hgWf_SJ, hgO_SI, hgO_SJ, hgAr_SI, hgAr_SJ, hgRp_SI, hgRp_SJ, hgN_SI, hgN_SJ, hgO_g, hgO_d, hgO_rl, hgO_r, hgO_0, hgO_1, hgO_64, hgO_298, hgO_300, hgCd_0, hgCd_1, hgCd_2, hgCd_3, hgCd_4, hgCd_5, hgRecv_O, hgRecv_99, List.length_cons, List.length_nil, Nat.zero_add, Nat.add_zero, Nat.le_refl, Nat.zero_le, and_self, or_true, true_or, true_and, and_true, ne_eq, not_false_eq_true, Nat.reduceLT, Nat.reduceLeDiff, Nat.reduceAdd, Nat.reduceEqDiff, hgn_eq, hgn_lt, hgn_le, if_true, if_false, reduceIte, Nat.not_lt_zero, hw, r1, hgB_f]
end HGCOV

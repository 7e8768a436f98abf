/-! RULES ARE MOVED, both sides. -/
def vMv (r p j : Nat) : Nat := if r ≤ p then (if r ≤ j ∧ j < p then j + 1 else if j = p then r else j) else (if p < j ∧ j ≤ r then j - 1 else if j = p then r else j)
def vSh (V : hgV) (r p : Nat) : hgV := (V.1, V.2.1, V.2.2.1, V.2.2.2.1, V.2.2.2.2.1, (fun j => vU V (vMv r p j)), V.2.2.2.2.2.2)
def vSw (V : hgV) (r q : Nat) : hgV := (V.1, V.2.1, V.2.2.1, V.2.2.2.1, V.2.2.2.2.1, (fun j => if j = r then vU V q else if j = q then vU V r else vU V j), V.2.2.2.2.2.2)
def vUp : Nat → Nat → hgV → hgV
  | _, 0, V => V
  | i, k + 1, V => vUp (i + 1) k (vSw V i (i + 1))
def vDn : Nat → Nat → hgV → hgV
  | _, 0, V => V
  | i, k + 1, V => vDn (i - 1) k (vSw V i (i - 1))
theorem vUp_f : ∀ (k i : Nat) (V : hgV), vUp i k V = (V.1, V.2.1, V.2.2.1, V.2.2.2.1, V.2.2.2.2.1, (fun j => vU V (if i ≤ j ∧ j < i + k then j + 1 else if j = i + k then i else j)), V.2.2.2.2.2.2)
  | 0, i, V => by
    have : (fun j => vU V (if i ≤ j ∧ j < i + 0 then j + 1 else if j = i + 0 then i else j)) = vU V := by
      funext j
      congr 1
      split
      · omega
      · split <;> omega
    rw [this]
    rfl
  | k + 1, i, V => by
    show vUp (i + 1) k (vSw V i (i + 1)) = _
    rw [vUp_f k (i + 1)]
    have : (fun j => vU (vSw V i (i + 1)) (if i + 1 ≤ j ∧ j < i + 1 + k then j + 1 else if j = i + 1 + k then i + 1 else j)) = (fun j => vU V (if i ≤ j ∧ j < i + (k + 1) then j + 1 else if j = i + (k + 1) then i else j)) := by
      funext j
      show (if (if i + 1 ≤ j ∧ j < i + 1 + k then j + 1 else if j = i + 1 + k then i + 1 else j) = i then vU V (i + 1) else if (if i + 1 ≤ j ∧ j < i + 1 + k then j + 1 else if j = i + 1 + k then i + 1 else j) = i + 1 then vU V i else vU V (if i + 1 ≤ j ∧ j < i + 1 + k then j + 1 else if j = i + 1 + k then i + 1 else j)) = _
      by_cases h1 : i + 1 ≤ j ∧ j < i + 1 + k
      · rw [if_pos h1, if_neg (by omega), if_neg (by omega), if_pos (by omega)]
      · rw [if_neg h1]
        by_cases h2 : j = i + 1 + k
        · rw [if_pos h2, if_neg (by omega), if_pos rfl, if_neg (by omega), if_pos (by omega)]
        · rw [if_neg h2]
          by_cases h3 : j = i
          · rw [if_pos h3, if_pos (by omega), h3]
          · rw [if_neg h3, if_neg (by omega), if_neg (by omega), if_neg (by omega)]
    rw [this]
    rfl
theorem vDn_f : ∀ (k i : Nat) (V : hgV), k ≤ i → vDn i k V = (V.1, V.2.1, V.2.2.1, V.2.2.2.1, V.2.2.2.2.1, (fun j => vU V (if i - k < j ∧ j ≤ i then j - 1 else if j = i - k then i else j)), V.2.2.2.2.2.2)
  | 0, i, V, _ => by
    have : (fun j => vU V (if i - 0 < j ∧ j ≤ i then j - 1 else if j = i - 0 then i else j)) = vU V := by
      funext j
      congr 1
      split
      · omega
      · split <;> omega
    rw [this]
    rfl
  | k + 1, i, V, hk => by
    show vDn (i - 1) k (vSw V i (i - 1)) = _
    rw [vDn_f k (i - 1) _ (by omega)]
    have : (fun j => vU (vSw V i (i - 1)) (if i - 1 - k < j ∧ j ≤ i - 1 then j - 1 else if j = i - 1 - k then i - 1 else j)) = (fun j => vU V (if i - (k + 1) < j ∧ j ≤ i then j - 1 else if j = i - (k + 1) then i else j)) := by
      funext j
      show (if (if i - 1 - k < j ∧ j ≤ i - 1 then j - 1 else if j = i - 1 - k then i - 1 else j) = i then vU V (i - 1) else if (if i - 1 - k < j ∧ j ≤ i - 1 then j - 1 else if j = i - 1 - k then i - 1 else j) = i - 1 then vU V i else vU V (if i - 1 - k < j ∧ j ≤ i - 1 then j - 1 else if j = i - 1 - k then i - 1 else j)) = _
      by_cases h1 : i - 1 - k < j ∧ j ≤ i - 1
      · rw [if_pos h1, if_neg (by omega), if_neg (by omega), if_pos (by omega)]
      · rw [if_neg h1]
        by_cases h2 : j = i - 1 - k
        · rw [if_pos h2, if_neg (by omega), if_pos rfl, if_neg (by omega), if_pos (by omega)]
        · rw [if_neg h2]
          by_cases h3 : j = i
          · rw [if_pos h3, if_pos (by omega), h3]
          · rw [if_neg h3, if_neg (by omega), if_neg (by omega), if_neg (by omega)]
    rw [this]
    rfl
theorem vUp_s {V : hgV} {r p : Nat} (h : r ≤ p) : vUp r (p - r) V = vSh V r p := by
  rw [vUp_f]
  unfold vSh
  have : (fun j => vU V (if r ≤ j ∧ j < r + (p - r) then j + 1 else if j = r + (p - r) then r else j)) = (fun j => vU V (vMv r p j)) := by
    funext j
    unfold vMv
    rw [if_pos h, show r + (p - r) = p by omega]
  rw [this]
theorem vDn_s {V : hgV} {r p : Nat} (h : p < r) : vDn r (r - p) V = vSh V r p := by
  rw [vDn_f _ _ _ (by omega)]
  unfold vSh
  have : (fun j => vU V (if r - (r - p) < j ∧ j ≤ r then j - 1 else if j = r - (r - p) then r else j)) = (fun j => vU V (vMv r p j)) := by
    funext j
    unfold vMv
    rw [show r - (r - p) = p by omega, if_neg (show ¬ r ≤ p by omega)]
  rw [this]
theorem hgR_SR {M : hgMem} {a k x b j : Nat} : hgR (hgSR M a k x) b j = if b = a then (if j = k then some x else hgR M b j) else hgR M b j := id rfl
theorem hgn_dec {i : Nat} : nI (i + 1) + -1 = nI i := by
  have : (-1 : Int32) = - nI 1 := by decide
  rw [this, ← Int32.sub_eq_add_neg, hgn_sub (by omega), Nat.add_sub_cancel]
/-- only the places of g's rules differ -/
def hgSo (M M' : hgMem) (g : Nat) : Prop := M'.1 = M.1 ∧ (∀ b k, hgI M' b k = hgI M b k) ∧ (∀ b k, hgJ M' b k = hgJ M b k) ∧ ∀ b, b ≠ g + 13 → ∀ k, hgR M' b k = hgR M b k
section HGSHI
variable {X : hgX} {M M' M1 M2 M3 Mo : hgMem} {d t g h i j q c k a b n p N l r : Nat} {V V' V1 W U : hgV} {Hs Hs' : List hgV} {x y z x1 x2 x3 x4 x5 s ans : Int32} {u : Int64} {P : Nat → Prop} {o : Option Nat} {v1 : Option Value}
theorem hgSo_r : hgSo M M g := ⟨rfl, fun _ _ => rfl, fun _ _ => rfl, fun _ _ _ => rfl⟩
theorem hgSo_t (h1 : hgSo M M1 g) (h2 : hgSo M1 M2 g) : hgSo M M2 g := ⟨h2.1.trans h1.1, fun b k => (h2.2.1 b k).trans (h1.2.1 b k), fun b k => (h2.2.2.1 b k).trans (h1.2.2.1 b k), fun b hb k => (h2.2.2.2 b hb k).trans (h1.2.2.2 b hb k)⟩
theorem hgSo_SR : hgSo M (hgSR M (g + 13) k a) g := ⟨rfl, fun _ _ => rfl, fun _ _ => rfl, fun b hb k => by rw [hgR_SR, if_neg hb]⟩
/-- where g's rules lie, by f -/
def hgPl (M : hgMem) (g : Nat) (f : Nat → Nat) : Prop := M.1 = 326 ∧ hgR M (g + 12) 0 = some (g + 13) ∧ ∀ j, j < 12 → hgR M (g + 13) j = some (f j) ∧ g + 14 ≤ f j ∧ f j < g + 26
theorem hgPl_O (hg : hgGw g) (h : M.1 = 326) : hgO M (g + 12) 5 ∧ hgAr M (g + 13) 25 12 ∧ ∀ a, g + 14 ≤ a → a < g + 26 → hgO M a 4 := by
  have hg2 := hgGw_le hg
  refine ⟨⟨by omega, by rw [hgSh_g hg (by omega)]; rfl⟩, ⟨by omega, by rw [hgSh_g hg (by omega)]; rfl⟩, fun a h1 h2 => ⟨by omega, ?_⟩⟩
  rw [show a = g + (a - g) by omega, hgSh_g hg (by omega)]
  unfold hgGsh
  rw [if_neg (by omega), if_neg (by omega), if_neg (by omega), if_neg (by omega), if_neg (by omega), if_pos (by omega)]
theorem hgPl_S {f : Nat → Nat} (h : hgPl M g f) (ha : g + 14 ≤ a ∧ a < g + 26) : hgPl (hgSR M (g + 13) i a) g (fun j => if j = i then a else f j) := by
  refine ⟨h.1, by rw [hgR_SR, if_neg (by omega)]; exact h.2.1, fun j hj => ?_⟩
  rw [hgR_SR, if_pos rfl]
  dsimp only
  by_cases e : j = i
  · rw [if_pos e, if_pos e]; exact ⟨rfl, ha⟩
  · rw [if_neg e, if_neg e]; exact h.2.2 j hj
theorem hgk_52u (hg : hgGw g) (hp : p < 12) (hr : r < 12) : ∀ (k i : Nat) (M : hgMem) (f : Nat → Nat), (i + k = p ∨ (k = 0 ∧ p ≤ i)) → i < 12 → hgPl M g f → ∃ M', hgW X 52 35 [some (.ref (g + 12)), some (.int (nI r)), some (.int (nI p)), some (.ref a), some (.int (nI i))] [] (0, 0) M = hgW X 52 66 [some (.ref (g + 12)), some (.int (nI r)), some (.int (nI p)), some (.ref a), some (.int (nI r))] [] (0, 0) M' ∧ hgSo M M' g ∧ hgPl M' g (fun j => if i ≤ j ∧ j < i + k then f (j + 1) else f j) := by
  intro k
  induction k with
  | zero =>
    intro i M f hi hi2 h
    have h1 : i < 2147483648 := by omega
    have h2 : p < 2147483648 := by omega
    have h3 : p ≤ i := by omega
    refine ⟨M, ?_, hgSo_r, ?_⟩
    · rw [hgu52_35]
      simp (maxDischargeDepth := 7) only [hgM_t, hgM_f, hgM_n, hgx_iload_n_1, hgx_if_lt, hgx_aload_n_0, hgx_get0, hgx_ic_ge, hgx_iload_n_2, hgx_ic_lt, hgx_vret, hgs_get_5_0, hgx_astore_n_3i, hgx_astore_n_3r, hgx_astore_n_3f, hgx_astore_n_3n, hgx_astore_n_3l, hgx_istore_4i, hgx_istore_4r, hgx_istore_4f, hgx_istore_4n, hgx_istore_4l, hgx_iload_4, hgx_iconst_1, hgx_iadd, hgx_iinc_4_1, hgx_goto, hgx_ic_le, hgx_isub, hgx_iinc_4_m1, hgx_aload_n_3, hgv52_0, hgr52_0, hgu52_0, hgv52_24, hgr52_24, hgu52_24, hgv52_25, hgr52_25, hgu52_25, hgv52_35, hgr52_35, hgv52_63, hgr52_63, hgu52_63, hgv52_66, ← hgu52_66, hgv52_94, hgr52_94, hgu52_94, hgI_SI, hgI_SJ, hgJ_SI, hgJ_SJ, if_true, if_false, reduceIte, Nat.reduceEqDiff, hgWf_SI, hgWf_SJ, hgO_SI, hgO_SJ, hgAr_SI, hgAr_SJ, hgRp_SI, hgRp_SJ, hgN_SI, hgN_SJ, hgO_g, hgO_d, hgO_rl, hgO_r, hgO_0, hgO_1, hgO_64, hgO_298, hgO_300, hgCd_0, hgCd_1, hgCd_2, hgCd_3, hgCd_4, hgCd_5, hgRecv_O, hgRecv_99, List.length_cons, List.length_nil, Nat.zero_add, Nat.add_zero, Nat.le_refl, Nat.zero_le, and_self, or_true, true_or, true_and, and_true, ne_eq, not_false_eq_true, Nat.reduceLT, Nat.reduceLeDiff, Nat.reduceAdd, Nat.reduceEqDiff, hgn_eq, hgn_lt, hgn_le, if_true, if_false, reduceIte, Nat.not_lt_zero, h1, h2, h3]
    · have : (fun j => if i ≤ j ∧ j < i + 0 then f (j + 1) else f j) = f := by funext j; rw [if_neg (by omega)]
      rw [this]
      exact h
  | succ k ih =>
    intro i M f hi hi2 h
    have h1 : i < 2147483648 := by omega
    have h2 : p < 2147483648 := by omega
    have h3 : ¬ p ≤ i := by omega
    have h4 : i + 1 < 12 := by omega
    obtain ⟨o1, o2, o3⟩ := hgPl_O hg h.1
    have hf := h.2.2 (i + 1) h4
    have of := o3 _ hf.2.1 hf.2.2
    obtain ⟨M', e, r1, r2⟩ := ih (i + 1) (hgSR M (g + 13) i (f (i + 1))) (fun j => if j = i then f (i + 1) else f j) (by omega) h4 (hgPl_S h hf.2)
    refine ⟨M', ?_, hgSo_t hgSo_SR r1, ?_⟩
    · refine Eq.trans ?_ e
      rw [hgu52_35]
      simp (maxDischargeDepth := 7) only [hgM_t, hgM_f, hgM_n, hgx_iload_n_1, hgx_if_lt, hgx_aload_n_0, hgx_get0, hgx_ic_ge, hgx_iload_n_2, hgx_ic_lt, hgx_vret, hgs_get_5_0, hgx_astore_n_3i, hgx_astore_n_3r, hgx_astore_n_3f, hgx_astore_n_3n, hgx_astore_n_3l, hgx_istore_4i, hgx_istore_4r, hgx_istore_4f, hgx_istore_4n, hgx_istore_4l, hgx_iload_4, hgx_iconst_1, hgx_iadd, hgx_iinc_4_1, hgx_goto, hgx_ic_le, hgx_isub, hgx_iinc_4_m1, hgx_aload_n_3, hgv52_0, hgr52_0, hgu52_0, hgv52_24, hgr52_24, hgu52_24, hgv52_25, hgr52_25, hgu52_25, hgv52_35, hgr52_35, hgv52_63, hgr52_63, hgu52_63, hgv52_66, ← hgu52_66, hgv52_94, hgr52_94, hgu52_94, hgI_SI, hgI_SJ, hgJ_SI, hgJ_SJ, if_true, if_false, reduceIte, Nat.reduceEqDiff, hgWf_SI, hgWf_SJ, hgO_SI, hgO_SJ, hgAr_SI, hgAr_SJ, hgRp_SI, hgRp_SJ, hgN_SI, hgN_SJ, hgO_g, hgO_d, hgO_rl, hgO_r, hgO_0, hgO_1, hgO_64, hgO_298, hgO_300, hgCd_0, hgCd_1, hgCd_2, hgCd_3, hgCd_4, hgCd_5, hgRecv_O, hgRecv_99, List.length_cons, List.length_nil, Nat.zero_add, Nat.add_zero, Nat.le_refl, Nat.zero_le, and_self, or_true, true_or, true_and, and_true, ne_eq, not_false_eq_true, Nat.reduceLT, Nat.reduceLeDiff, Nat.reduceAdd, Nat.reduceEqDiff, hgn_eq, hgn_lt, hgn_le, if_true, if_false, reduceIte, Nat.not_lt_zero, hgn_add, hgn_mul, h1, h2, h3, hgx_get2 (b := g + 13) o1 h.2.1, hgx_aaload (n := 12) (ci := 25) o2 (by omega) h4 (by omega) hf.1, hgx_aastore (n := 12) (ci := 25) (d := 4) o2 (by omega) of rfl hi2 (by omega)]
    · have : (fun j => if i ≤ j ∧ j < i + (k + 1) then f (j + 1) else f j) = (fun j => if i + 1 ≤ j ∧ j < i + 1 + k then (fun j => if j = i then f (i + 1) else f j) (j + 1) else (fun j => if j = i then f (i + 1) else f j) j) := by
        funext j
        dsimp only
        by_cases q1 : i + 1 ≤ j ∧ j < i + 1 + k
        · rw [if_pos (by omega), if_pos q1, if_neg (by omega)]
        · rw [if_neg q1]
          by_cases q2 : j = i
          · rw [if_pos (by omega), if_pos q2, q2]
          · rw [if_neg (by omega), if_neg q2]
      rw [this]
      exact r2
theorem hgk_52d (hg : hgGw g) (hp : p < 12) : ∀ (k i : Nat) (M : hgMem) (f : Nat → Nat) (v1 : Option Value), (i = p + k ∨ (k = 0 ∧ i ≤ p)) → i < 12 → hgPl M g f → ∃ M', hgW X 52 66 [some (.ref (g + 12)), v1, some (.int (nI p)), some (.ref a), some (.int (nI i))] [] (0, 0) M = hgW X 52 94 [some (.ref (g + 12)), none, some (.int (nI p)), some (.ref a), none] [] (0, 0) M' ∧ hgSo M M' g ∧ hgPl M' g (fun j => if i - k < j ∧ j ≤ i then f (j - 1) else f j) := by
  intro k
  induction k with
  | zero =>
    intro i M f v1 hi hi2 h
    have h1 : i < 2147483648 := by omega
    have h2 : p < 2147483648 := by omega
    have h3 : i ≤ p := by omega
    refine ⟨M, ?_, hgSo_r, ?_⟩
    · rw [hgu52_66]
      simp (maxDischargeDepth := 7) only [hgx_iload_4, hgx_iload_n_2, hgx_ic_le, hgr52_66, hgv52_94, hgM_t, hgM_f, hgM_n, hgI_SI, hgI_SJ, hgJ_SI, hgJ_SJ, if_true, if_false, reduceIte, Nat.reduceEqDiff, hgWf_SI, hgWf_SJ, hgO_SI, hgO_SJ, hgAr_SI, hgAr_SJ, hgRp_SI, hgRp_SJ, hgN_SI, hgN_SJ, hgO_g, hgO_d, hgO_rl, hgO_r, hgO_0, hgO_1, hgO_64, hgO_298, hgO_300, hgCd_0, hgCd_1, hgCd_2, hgCd_3, hgCd_4, hgCd_5, hgRecv_O, hgRecv_99, List.length_cons, List.length_nil, Nat.zero_add, Nat.add_zero, Nat.le_refl, Nat.zero_le, and_self, or_true, true_or, true_and, and_true, ne_eq, not_false_eq_true, Nat.reduceLT, Nat.reduceLeDiff, Nat.reduceAdd, Nat.reduceEqDiff, hgn_eq, hgn_lt, hgn_le, if_true, if_false, reduceIte, Nat.not_lt_zero, h1, h2, h3]
    · have : (fun j => if i - 0 < j ∧ j ≤ i then f (j - 1) else f j) = f := by funext j; rw [if_neg (by omega)]
      rw [this]
      exact h
  | succ k ih =>
    intro i M f v1 hi hi2 h
    obtain ⟨i', rfl⟩ : ∃ i', i = i' + 1 := ⟨i - 1, by omega⟩
    have h1 : i' + 1 < 2147483648 := by omega
    have h2 : p < 2147483648 := by omega
    have h3 : ¬ i' + 1 ≤ p := by omega
    have h4 : i' < 12 := by omega
    obtain ⟨o1, o2, o3⟩ := hgPl_O hg h.1
    have hf := h.2.2 i' h4
    have of := o3 _ hf.2.1 hf.2.2
    obtain ⟨M', e, r1, r2⟩ := ih i' (hgSR M (g + 13) (i' + 1) (f i')) (fun j => if j = i' + 1 then f i' else f j) none (by omega) h4 (hgPl_S h hf.2)
    refine ⟨M', ?_, hgSo_t hgSo_SR r1, ?_⟩
    · refine Eq.trans ?_ e
      rw [hgu52_66]
      simp (maxDischargeDepth := 7) only [hgM_t, hgM_f, hgM_n, hgx_iload_n_1, hgx_if_lt, hgx_aload_n_0, hgx_get0, hgx_ic_ge, hgx_iload_n_2, hgx_ic_lt, hgx_vret, hgs_get_5_0, hgx_astore_n_3i, hgx_astore_n_3r, hgx_astore_n_3f, hgx_astore_n_3n, hgx_astore_n_3l, hgx_istore_4i, hgx_istore_4r, hgx_istore_4f, hgx_istore_4n, hgx_istore_4l, hgx_iload_4, hgx_iconst_1, hgx_iadd, hgx_iinc_4_1, hgx_goto, hgx_ic_le, hgx_isub, hgx_iinc_4_m1, hgx_aload_n_3, hgv52_0, hgr52_0, hgu52_0, hgv52_24, hgr52_24, hgu52_24, hgv52_25, hgr52_25, hgu52_25, hgv52_35, ← hgu52_35, hgv52_63, hgr52_63, hgu52_63, hgv52_66, hgr52_66, hgv52_94, hgr52_94, hgu52_94, hgI_SI, hgI_SJ, hgJ_SI, hgJ_SJ, if_true, if_false, reduceIte, Nat.reduceEqDiff, hgWf_SI, hgWf_SJ, hgO_SI, hgO_SJ, hgAr_SI, hgAr_SJ, hgRp_SI, hgRp_SJ, hgN_SI, hgN_SJ, hgO_g, hgO_d, hgO_rl, hgO_r, hgO_0, hgO_1, hgO_64, hgO_298, hgO_300, hgCd_0, hgCd_1, hgCd_2, hgCd_3, hgCd_4, hgCd_5, hgRecv_O, hgRecv_99, List.length_cons, List.length_nil, Nat.zero_add, Nat.add_zero, Nat.le_refl, Nat.zero_le, and_self, or_true, true_or, true_and, and_true, ne_eq, not_false_eq_true, Nat.reduceLT, Nat.reduceLeDiff, Nat.reduceAdd, Nat.reduceEqDiff, hgn_eq, hgn_lt, hgn_le, if_true, if_false, reduceIte, Nat.not_lt_zero, hgn_add, hgn_mul, h1, h2, h3, hgn_sub, Nat.le_add_left, Nat.add_sub_cancel, hgn_dec, hgx_get2 (b := g + 13) o1 h.2.1, hgx_aaload (n := 12) (ci := 25) o2 (by omega) h4 (by omega) hf.1, hgx_aastore (n := 12) (ci := 25) (d := 4) o2 (by omega) of rfl hi2 (by omega)]
    · have : (fun j => if i' + 1 - (k + 1) < j ∧ j ≤ i' + 1 then f (j - 1) else f j) = (fun j => if i' - k < j ∧ j ≤ i' then (fun j => if j = i' + 1 then f i' else f j) (j - 1) else (fun j => if j = i' + 1 then f i' else f j) j) := by
        funext j
        dsimp only
        by_cases q1 : i' - k < j ∧ j ≤ i'
        · rw [if_pos (by omega), if_pos q1, if_neg (by omega)]
        · rw [if_neg q1]
          by_cases q2 : j = i' + 1
          · rw [if_pos (by omega), if_pos q2, q2, Nat.add_sub_cancel]
          · rw [if_neg (by omega), if_neg q2]
      rw [this]
      exact r2
theorem vMv_lt (hr : r < 12) (hp : p < 12) (hj : j < 12) : vMv r p j < 12 := by
  unfold vMv
  split <;> split <;> (try split) <;> omega
theorem vMv_ij (hr : r < 12) (hp : p < 12) (h : vMv r p i = vMv r p j) : i = j := by
  unfold vMv at h
  by_cases hrp : r ≤ p
  · rw [if_pos hrp, if_pos hrp] at h
    split at h <;> split at h <;> (try split at h) <;> (try split at h) <;> omega
  · rw [if_neg hrp, if_neg hrp] at h
    split at h <;> split at h <;> (try split at h) <;> (try split at h) <;> omega
/-- the component moves a rule -/
theorem hgk_52 (hw : hgWf M) (hg : hgGw g) (hn : hgI M (g + 12) 1 = nI n) (hn2 : n ≤ 12) (hr : r < n) (hp : p < n) : ∃ M', hgWC X 52 [.ref (g + 12), .int (nI r), .int (nI p)] M = some (.inl .null, M') ∧ hgSo M M' g ∧ hgWf M' ∧ ∀ j, j < 12 → hgRp M' g j = hgRp M g (vMv r p j) := by
  have hpl : hgPl M g (hgRp M g) := ⟨hw.1, (hw.2.1 g hg).2.2.2.2.2.2.1, fun j hj => hgRp_f hw hg hj⟩
  have r12 : r < 12 := by omega
  have p12 : p < 12 := by omega
  obtain ⟨M1, e1, s1, p1⟩ := hgk_52u (X := X) (a := hgRp M g r) hg p12 r12 (p - r) r M (hgRp M g) (by omega) r12 hpl
  obtain ⟨M2, e2, s2, p2⟩ := hgk_52d (X := X) (a := hgRp M g r) hg p12 (r - p) r M1 _ (some (.int (nI r))) (by omega) r12 p1
  obtain ⟨o1, o2, o3⟩ := hgPl_O hg p2.1
  have fr := hgRp_f hw hg r12
  have of := o3 _ fr.2.1 fr.2.2
  have p3 := hgPl_S (i := p) p2 fr.2
  have h1 : r < 2147483648 := by omega
  have h2 : p < 2147483648 := by omega
  have h3 : n < 2147483648 := by omega
  have h4 : ¬ n ≤ r := by omega
  have hS : hgSo M (hgSR M2 (g + 13) p (hgRp M g r)) g := hgSo_t (hgSo_t s1 s2) hgSo_SR
  have hR : ∀ j, j < 12 → hgR (hgSR M2 (g + 13) p (hgRp M g r)) (g + 13) j = some (hgRp M g (vMv r p j)) := fun j hj => by
    rw [(p3.2.2 j hj).1]
    congr 1
    dsimp only
    unfold vMv
    by_cases hrp : r ≤ p
    · rw [if_pos hrp]
      by_cases q1 : j = p
      · rw [if_pos q1, if_neg (by omega), if_pos q1]
      · rw [if_neg q1, if_neg (by omega)]
        by_cases q2 : r ≤ j ∧ j < p
        · rw [if_pos (by omega), if_pos q2]
        · rw [if_neg (by omega), if_neg q2, if_neg q1]
    · rw [if_neg hrp]
      by_cases q1 : j = p
      · rw [if_pos q1, if_neg (by omega), if_pos q1]
      · rw [if_neg q1]
        by_cases q2 : p < j ∧ j ≤ r
        · rw [if_pos (by omega), if_neg (by omega), if_pos q2]
        · rw [if_neg (by omega), if_neg (by omega), if_neg q2, if_neg q1]
  refine ⟨hgSR M2 (g + 13) p (hgRp M g r), ?_, hS, ?_, fun j hj => (show hgRp (hgSR M2 (g + 13) p (hgRp M g r)) g j = (hgR (hgSR M2 (g + 13) p (hgRp M g r)) (g + 13) j).getD 0 from rfl).trans (by rw [hR j hj]; rfl)⟩
  · simp (maxDischargeDepth := 7) only [hgc52, hgM_t, hgM_f, hgM_n, hgx_iload_n_1, hgx_if_lt, hgx_aload_n_0, hgx_get0, hgx_ic_ge, hgx_iload_n_2, hgx_ic_lt, hgx_vret, hgs_get_5_0, hgx_astore_n_3i, hgx_astore_n_3r, hgx_astore_n_3f, hgx_astore_n_3n, hgx_astore_n_3l, hgx_istore_4i, hgx_istore_4r, hgx_istore_4f, hgx_istore_4n, hgx_istore_4l, hgx_iload_4, hgx_iconst_1, hgx_iadd, hgx_iinc_4_1, hgx_goto, hgx_ic_le, hgx_isub, hgx_iinc_4_m1, hgx_aload_n_3, hgv52_0, hgr52_0, hgu52_0, hgv52_24, hgr52_24, hgu52_24, hgv52_25, hgr52_25, hgu52_25, hgv52_35, ← hgu52_35, hgv52_63, hgr52_63, hgu52_63, hgv52_66, ← hgu52_66, hgv52_94, hgr52_94, hgu52_94, hgI_SI, hgI_SJ, hgJ_SI, hgJ_SJ, if_true, if_false, reduceIte, Nat.reduceEqDiff, hgWf_SI, hgWf_SJ, hgO_SI, hgO_SJ, hgAr_SI, hgAr_SJ, hgRp_SI, hgRp_SJ, hgN_SI, hgN_SJ, hgO_g, hgO_d, hgO_rl, hgO_r, hgO_0, hgO_1, hgO_64, hgO_298, hgO_300, hgCd_0, hgCd_1, hgCd_2, hgCd_3, hgCd_4, hgCd_5, hgRecv_O, hgRecv_99, List.length_cons, List.length_nil, Nat.zero_add, Nat.add_zero, Nat.le_refl, Nat.zero_le, and_self, or_true, true_or, true_and, and_true, ne_eq, not_false_eq_true, Nat.reduceLT, Nat.reduceLeDiff, Nat.reduceAdd, Nat.reduceEqDiff, hgn_eq, hgn_lt, hgn_le, if_true, if_false, reduceIte, Nat.not_lt_zero, hgs_aa_d, hgs_aa_r, hgs_aa_h, hgs_aa_m, hgs_aa_t, hgs_ld_wp, hgs_st_wp, hgs_ld_qf, hgs_st_qf, hgs_ld_qt, hgs_st_qt, hgs_ld_2, hgs_st_2, hgs_ld_3, hgs_st_3, hgs_ld_4, hgs_st_4, hgs_ld_301, hgs_st_301, hgs_ld_D, hgs_st_D, hgs_ld_s, hgs_ld_T, hgs_st_T, hgs_ld_o, hgs_st_o, hgs_ld_b, hgs_st_b, hgs_ld_z, hgs_st_z, hgs_al_b, hgx_alen_s, hw, hg, hn, h1, h2, h3, h4, hr, hp, r12]
    rw [e1, e2, hgu52_94]
    simp (maxDischargeDepth := 7) only [hgM_t, hgM_f, hgM_n, hgx_iload_n_1, hgx_if_lt, hgx_aload_n_0, hgx_get0, hgx_ic_ge, hgx_iload_n_2, hgx_ic_lt, hgx_vret, hgs_get_5_0, hgx_astore_n_3i, hgx_astore_n_3r, hgx_astore_n_3f, hgx_astore_n_3n, hgx_astore_n_3l, hgx_istore_4i, hgx_istore_4r, hgx_istore_4f, hgx_istore_4n, hgx_istore_4l, hgx_iload_4, hgx_iconst_1, hgx_iadd, hgx_iinc_4_1, hgx_goto, hgx_ic_le, hgx_isub, hgx_iinc_4_m1, hgx_aload_n_3, hgv52_0, hgr52_0, hgu52_0, hgv52_24, hgr52_24, hgu52_24, hgv52_25, hgr52_25, hgu52_25, hgv52_35, ← hgu52_35, hgv52_63, hgr52_63, hgu52_63, hgv52_66, ← hgu52_66, hgv52_94, hgr52_94, hgu52_94, hgI_SI, hgI_SJ, hgJ_SI, hgJ_SJ, if_true, if_false, reduceIte, Nat.reduceEqDiff, hgWf_SI, hgWf_SJ, hgO_SI, hgO_SJ, hgAr_SI, hgAr_SJ, hgRp_SI, hgRp_SJ, hgN_SI, hgN_SJ, hgO_g, hgO_d, hgO_rl, hgO_r, hgO_0, hgO_1, hgO_64, hgO_298, hgO_300, hgCd_0, hgCd_1, hgCd_2, hgCd_3, hgCd_4, hgCd_5, hgRecv_O, hgRecv_99, List.length_cons, List.length_nil, Nat.zero_add, Nat.add_zero, Nat.le_refl, Nat.zero_le, and_self, or_true, true_or, true_and, and_true, ne_eq, not_false_eq_true, Nat.reduceLT, Nat.reduceLeDiff, Nat.reduceAdd, Nat.reduceEqDiff, hgn_eq, hgn_lt, hgn_le, if_true, if_false, reduceIte, Nat.not_lt_zero, hgx_get2 (b := g + 13) o1 p2.2.1, hgx_aastore (n := 12) (ci := 25) (d := 4) o2 (by omega) of rfl p12 (by omega)]
  · obtain ⟨q1, q2, q3, q4, q5, q6, q7, q8, q9, q10⟩ := hw
    have hg2 := hgGw_le hg
    have ne : ∀ b, b ≠ g + 13 → ∀ k, hgR (hgSR M2 (g + 13) p (hgRp M g r)) b k = hgR M b k := hS.2.2.2
    have gne : ∀ h, hgGw h → ∀ m, m < 29 → m ≠ 13 → h + m ≠ g + 13 := fun h hh m hm hm2 => by
      by_cases e : h = g
      · omega
      · have := hgGw_dj hh hg e
        omega
    have gne2 : ∀ h, hgGw h → h ≠ g → h + 13 ≠ g + 13 := fun h hh e => by omega
    have nm : ∀ a, (∀ m, m = 13 → a ≠ g + m) → a ≠ g + 13 := fun a h => h 13 rfl
    have h6 : (0 : Nat) ≠ g + 13 ∧ (1 : Nat) ≠ g + 13 := by omega
    have hg3 := hg
    unfold hgGw at hg3
    refine ⟨hS.1.trans q1, fun h hh => ?_, ⟨by rw [ne 0 (by omega)]; exact q3.1, by rw [ne 0 (by omega)]; exact q3.2.1, by rw [ne 0 (by omega)]; exact q3.2.2.1, by rw [ne 0 (by omega)]; exact q3.2.2.2.1, by rw [ne 0 (by omega)]; exact q3.2.2.2.2⟩, ⟨by rw [ne 1 (by omega)]; exact q4.1, by rw [ne 1 (by omega)]; exact q4.2.1, by rw [ne 1 (by omega)]; exact q4.2.2⟩, ⟨by rw [ne 64 (by omega)]; exact q5.1, fun j hj => by rw [ne 65 (by omega)]; exact q5.2 j hj⟩, ⟨by rw [ne 298 (by omega)]; exact q6.1, by rw [ne 298 (by omega)]; exact q6.2.1, by rw [ne 298 (by omega)]; exact q6.2.2⟩, ?_, fun j hj => by rw [ne 305 (by omega)]; exact q8 j hj, fun j hj => by rw [ne 316 (by omega)]; exact q9 j hj, fun h hh i j hi hj hij => ?_⟩
    · have z := q2 h hh
      refine ⟨by rw [ne h (gne h hh 0 (by omega) (by omega))]; exact z.1, by rw [ne h (gne h hh 0 (by omega) (by omega))]; exact z.2.1, by rw [ne h (gne h hh 0 (by omega) (by omega))]; exact z.2.2.1, by rw [ne h (gne h hh 0 (by omega) (by omega))]; exact z.2.2.2.1, by rw [ne h (gne h hh 0 (by omega) (by omega))]; exact z.2.2.2.2.1, by rw [ne h (gne h hh 0 (by omega) (by omega))]; exact z.2.2.2.2.2.1, by rw [ne _ (gne h hh 12 (by omega) (by omega))]; exact z.2.2.2.2.2.2.1, fun j hj => by rw [ne _ (gne h hh 1 (by omega) (by omega))]; exact z.2.2.2.2.2.2.2.1 j hj, fun j hj => ?_⟩
      by_cases e : h = g
      · subst e
        have w := p3.2.2 j hj
        exact ⟨_, w.1, w.2.1, w.2.2⟩
      · rw [ne _ (gne2 h hh e)]
        exact z.2.2.2.2.2.2.2.2 j hj
    · rw [ne 300 (by omega), ne 300 (by omega), ne 300 (by omega), ne 300 (by omega), ne 300 (by omega), ne 300 (by omega), ne 300 (by omega), ne 300 (by omega)]
      exact q7
    · by_cases e : h = g
      · subst e
        rw [hR i hi, hR j hj] at hij
        have hinj : hgRp M h (vMv r p i) = hgRp M h (vMv r p j) := by injection hij
        have li := vMv_lt r12 p12 hi
        have lj := vMv_lt r12 p12 hj
        have hw2 : hgWf M := ⟨q1, q2, q3, q4, q5, q6, q7, q8, q9, q10⟩
        have e2 : vMv r p i = vMv r p j := Classical.byContradiction (fun ne2 => hgRp_ij hw2 hh li lj ne2 hinj)
        exact vMv_ij r12 p12 e2
      · rw [ne _ (gne2 h hh e), ne _ (gne2 h hh e)] at hij
        exact q10 h hh i j hi hj hij
end HGSHI

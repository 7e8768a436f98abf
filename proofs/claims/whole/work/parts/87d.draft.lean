/-! THE DRAFT, the component's: a new device, wake port, quiet hours, rate and day. -/
section HGDRF
variable {X : hgX} {M M' M0 M1 M2 M3 Mo : hgMem} {t : hgTxt} {i j k a b n p q e N l s lo hi g w d c : Nat} {x y z v : Int32} {D V : hgV} {f : Nat → Bool}
def hgSu (M : hgMem) (a : Nat) (x y z w : Int32) : hgMem := hgSI (hgSI (hgSI (hgSI (hgSI (hgSI (hgSI (hgSJ (hgSI (hgSI (hgSI (hgSI (hgSI (hgSI (hgSI M a 0 x) a 1 y) a 2 z) a 3 w) a 4 (nI 0)) a 5 (nI 0)) a 6 (nI 0)) a 7 (lN 0)) a 8 (nI 0)) a 9 (-1)) a 10 (-1)) a 11 (-1)) a 12 (nI 0)) a 13 (nI 0)) a 14 (nI 0)
theorem hgSu_k (h : hgO M a 0) : hgWC X 1 [.ref a, .int x, .int y, .int z, .int v] M = some (.inl .null, hgSu M a x y z v) := hgk_1 h
theorem hgSu_f : hgFn (fun b => b = a) M (hgSu M a x y z v) := hgFn_SI (hgFn_SI (hgFn_SI (hgFn_SI (hgFn_SI (hgFn_SI (hgFn_SI (hgFn_SJ (hgFn_SI (hgFn_SI (hgFn_SI (hgFn_SI (hgFn_SI (hgFn_SI (hgFn_SI hgFn_r rfl) rfl) rfl) rfl) rfl) rfl) rfl) rfl) rfl) rfl) rfl) rfl) rfl) rfl) rfl
theorem hgSu_r : hgI (hgSu M a x y z v) a 0 = x ∧ hgI (hgSu M a x y z v) a 1 = y ∧ hgI (hgSu M a x y z v) a 2 = z ∧ hgI (hgSu M a x y z v) a 3 = v ∧ hgI (hgSu M a x y z v) a 4 = nI 0 ∧ hgI (hgSu M a x y z v) a 5 = nI 0 ∧ hgI (hgSu M a x y z v) a 6 = nI 0 ∧ hgI (hgSu M a x y z v) a 8 = nI 0 ∧ hgI (hgSu M a x y z v) a 9 = -1 ∧ hgI (hgSu M a x y z v) a 12 = nI 0 ∧ hgI (hgSu M a x y z v) a 13 = nI 0 ∧ hgI (hgSu M a x y z v) a 14 = nI 0 ∧ hgJ (hgSu M a x y z v) a 7 = lN 0 := by
  unfold hgSu
  simp only [hgI_SI, hgI_SJ, hgJ_SI, hgJ_SJ, if_true, if_false, reduceIte, Nat.reduceEqDiff, and_self]
theorem hgCV_ad (hw : hgWf M) (hk : hgDk V) (hn : vN V < 10) (h : hgCV M g V) : hgCV (hgSI (hgSu M (g + 2 + vN V) (nI i) (nI w) (nI d) (nI p)) g 6 (nI (vN V + 1))) g (vAd V i w d p) ∧ hgFn (fun b => g ≤ b ∧ b < g + 29) M (hgSI (hgSu M (g + 2 + vN V) (nI i) (nI w) (nI d) (nI p)) g 6 (nI (vN V + 1))) := by
  have hg := hgGw_le h.1
  obtain ⟨r0, r1, r2, r3, r4, r5, r6, r8, r9, r12, r13, r14, rJ⟩ := hgSu_r (M := M) (a := g + 2 + vN V) (x := nI i) (y := nI w) (z := nI d) (v := nI p)
  have f0 : hgFn (fun b => b = g + 2 + vN V) M (hgSu M (g + 2 + vN V) (nI i) (nI w) (nI d) (nI p)) := hgSu_f
  generalize hgSu M (g + 2 + vN V) (nI i) (nI w) (nI d) (nI p) = M0 at *
  have f : hgFn (fun b => b = g + 2 + vN V ∨ b = g) M (hgSI M0 g 6 (nI (vN V + 1))) := hgFn_SI (hgFn_m f0 (fun b hb => Or.inl hb)) (Or.inr rfl)
  have o : ∀ b, ¬ (b = g + 2 + vN V ∨ b = g) → ∀ k, _ := fun b hb k => (f.2.2 b hb k).1
  have og : ∀ k, k ≠ 6 → hgI (hgSI M0 g 6 (nI (vN V + 1))) g k = hgI M g k := fun k hk => by rw [hgI_nk hk]; exact (f0.2.2 g (by omega) k).1
  have oa : ∀ k, hgI (hgSI M0 g 6 (nI (vN V + 1))) (g + 2 + vN V) k = hgI M0 (g + 2 + vN V) k := fun k => hgI_na (by omega)
  obtain ⟨m1, m2, m3, m4⟩ := hgDk_sm hk
  obtain ⟨q1, q2, q3⟩ := hk.2.2.2.2.2.2.2.2 (vN V)
  obtain ⟨a1, a2, a3, a4, a5, a6, a7, a8, a9, a10, a11, a12, a13, a14, a15, a16, a17⟩ := h
  refine ⟨⟨a1, by rw [hgI_at]; rfl, by rw [o _ (by omega)]; exact a3, by rw [og _ (by omega)]; exact a4, by rw [og _ (by omega)]; exact a5, by rw [og _ (by omega)]; exact a6, by rw [og _ (by omega)]; exact a7, by rw [og _ (by omega)]; exact a8, by rw [og _ (by omega)]; exact a9, by rw [og _ (by omega)]; exact a10, by rw [og _ (by omega)]; exact a11, fun j hj => ?_, fun j hj k hk => ?_, fun k hk => by rw [o _ (by omega)]; exact a14 k hk, fun q hq => by rw [o _ (by omega), o _ (by omega)]; exact a15 q hq, by rw [og _ (by omega)]; exact a16, by rw [og _ (by omega)]; exact a17⟩, hgFn_m f (fun b hb => by omega)⟩
  · have hj2 : j < vN V + 1 := hj
    have eD : ∀ k, vD (vAd V i w d p) j k = if j = vN V then (if k = 0 then nI i else if k = 1 then nI w else if k = 2 then nI d else if k = 3 then nI p else if k = 8 then -1 else nI 0) else vD V j k := fun k => rfl
    by_cases e : j = vN V
    · have eQ : vQ (vAd V i w d p) j = [] := by rw [e]; exact q1
      have eB : vB (vAd V i w d p) j = [] := by rw [e]; exact q2
      have eT : vT (vAd V i w d p) j = lN 0 := by rw [e]; exact q3
      unfold hgDv
      rw [eQ, eB, eT]
      simp only [eD, if_pos e]
      rw [e]
      refine ⟨fun k hk => ?_, by exact rJ, by rw [oa]; exact r12, by rw [oa]; exact r13, ⟨trivial, rfl⟩, Or.inl (by rw [oa]; exact r14)⟩
      rw [oa]
      have : k = 0 ∨ k = 1 ∨ k = 2 ∨ k = 3 ∨ k = 4 ∨ k = 5 ∨ k = 6 ∨ k = 7 ∨ k = 8 := by omega
      rcases this with e | e | e | e | e | e | e | e | e <;> subst e
      · exact r0
      · exact r1
      · exact r2
      · exact r3
      · exact r4
      · exact r5
      · exact r6
      · exact r8
      · exact r9
    · have v : hgDv (hgSI M0 g 6 (nI (vN V + 1))) (g + 2 + j) V j := hgDv_to (V := V) (fun k => o _ (by omega) k) (f.2.2 _ (by omega) 7).2 (fun p _ => o 4 (by omega) p) (fun p _ => ⟨o 2 (by omega) p, o 3 (by omega) p⟩) (a12 j (by omega))
      unfold hgDv at v ⊢
      simp only [eD, if_neg e]
      exact v
  · have hj2 : j < vR V := hj
    rw [hgRf_to (M := M) (fun a k h1 h2 => o a (by omega) k) (f.2.1 _) hw a1 (by omega)]
    exact a13 j hj k hk
theorem hgCV_aw (hw : hgWf M) (hk : hgDk V) (h : hgCV M g V) : hgCV (hgSI (hgSI M (g + 26) (vW V) (nI p)) g 9 (nI (vW V + 1))) g (vAw V p) ∧ hgFn (fun b => g ≤ b ∧ b < g + 29) M (hgSI (hgSI M (g + 26) (vW V) (nI p)) g 9 (nI (vW V + 1))) := by
  have hg := hgGw_le h.1
  have f : hgFn (fun b => b = g + 26 ∨ b = g) M (hgSI (hgSI M (g + 26) (vW V) (nI p)) g 9 (nI (vW V + 1))) := hgFn_SI (hgFn_SI hgFn_r (Or.inl rfl)) (Or.inr rfl)
  have o : ∀ b, ¬ (b = g + 26 ∨ b = g) → ∀ k, _ := fun b hb k => (f.2.2 b hb k).1
  have og : ∀ k, k ≠ 9 → hgI (hgSI (hgSI M (g + 26) (vW V) (nI p)) g 9 (nI (vW V + 1))) g k = hgI M g k := fun k hk => by rw [hgI_nk hk, hgI_na (by omega)]
  obtain ⟨m1, m2, m3, m4⟩ := hgDk_sm hk
  obtain ⟨a1, a2, a3, a4, a5, a6, a7, a8, a9, a10, a11, a12, a13, a14, a15, a16, a17⟩ := h
  refine ⟨⟨a1, by rw [og _ (by omega)]; exact a2, by rw [o _ (by omega)]; exact a3, by rw [hgI_at]; rfl, by rw [og _ (by omega)]; exact a5, by rw [og _ (by omega)]; exact a6, by rw [og _ (by omega)]; exact a7, by rw [og _ (by omega)]; exact a8, by rw [og _ (by omega)]; exact a9, by rw [og _ (by omega)]; exact a10, by rw [og _ (by omega)]; exact a11, fun j hj => ?_, fun j hj k hk => ?_, fun k hk => ?_, fun q hq => by rw [o _ (by omega), o _ (by omega)]; exact a15 q hq, by rw [og _ (by omega)]; exact a16, by rw [og _ (by omega)]; exact a17⟩, hgFn_m f (fun b hb => by omega)⟩
  · have hj2 : j < vN V := hj
    exact hgDv_to (V := V) (fun k => o _ (by omega) k) (f.2.2 _ (by omega) 7).2 (fun p _ => o 4 (by omega) p) (fun p _ => ⟨o 2 (by omega) p, o 3 (by omega) p⟩) (a12 j hj2)
  · have hj2 : j < vR V := hj
    rw [hgRf_to (M := M) (fun a k h1 h2 => o a (by omega) k) (f.2.1 _) hw a1 (by omega)]
    exact a13 j hj k hk
  · have hk2 : k < vW V + 1 := hk
    show _ = if k = vW V then nI p else vP V k
    rw [hgI_na (by omega)]
    by_cases e : k = vW V
    · rw [if_pos e, e, hgI_at]
    · rw [if_neg e, hgI_nk e]
      exact a14 k (by omega)
theorem hgCV_ah (hw : hgWf M) (hk : hgDk V) (h : hgCV M g V) : hgCV (hgSI (hgSI M (g + 27) q (nI i)) (g + 28) q (nI j)) g (vAh V q i j) ∧ hgFn (fun b => g ≤ b ∧ b < g + 29) M (hgSI (hgSI M (g + 27) q (nI i)) (g + 28) q (nI j)) := by
  have hg := hgGw_le h.1
  have f : hgFn (fun b => b = g + 27 ∨ b = g + 28) M (hgSI (hgSI M (g + 27) q (nI i)) (g + 28) q (nI j)) := hgFn_SI (hgFn_SI hgFn_r (Or.inl rfl)) (Or.inr rfl)
  have o : ∀ b, ¬ (b = g + 27 ∨ b = g + 28) → ∀ k, _ := fun b hb k => (f.2.2 b hb k).1
  obtain ⟨m1, m2, m3, m4⟩ := hgDk_sm hk
  obtain ⟨a1, a2, a3, a4, a5, a6, a7, a8, a9, a10, a11, a12, a13, a14, a15, a16, a17⟩ := h
  refine ⟨⟨a1, by rw [o _ (by omega)]; exact a2, by rw [o _ (by omega)]; exact a3, by rw [o _ (by omega)]; exact a4, by rw [o _ (by omega)]; exact a5, by rw [o _ (by omega)]; exact a6, by rw [o _ (by omega)]; exact a7, by rw [o _ (by omega)]; exact a8, by rw [o _ (by omega)]; exact a9, by rw [o _ (by omega)]; exact a10, by rw [o _ (by omega)]; exact a11, fun j hj => ?_, fun j hj k hk => ?_, fun k hk => by rw [o _ (by omega)]; exact a14 k hk, fun r hr => ?_, by rw [o _ (by omega)]; exact a16, by rw [o _ (by omega)]; exact a17⟩, hgFn_m f (fun b hb => by omega)⟩
  · have hj2 : j < vN V := hj
    exact hgDv_to (V := V) (fun k => o _ (by omega) k) (f.2.2 _ (by omega) 7).2 (fun p _ => o 4 (by omega) p) (fun p _ => ⟨o 2 (by omega) p, o 3 (by omega) p⟩) (a12 j hj2)
  · have hj2 : j < vR V := hj
    rw [hgRf_to (M := M) (fun a k h1 h2 => o a (by omega) k) (f.2.1 _) hw a1 (by omega)]
    exact a13 j hj k hk
  · show _ = (if r = q then (if 0 = 0 then nI i else nI j) else vH V r 0) ∧ _ = (if r = q then (if 1 = 0 then nI i else nI j) else vH V r 1)
    rw [hgI_na (show g + 27 ≠ g + 28 by omega)]
    by_cases e : r = q
    · rw [if_pos e, if_pos e, e, hgI_at, hgI_at]
      exact ⟨rfl, rfl⟩
    · rw [if_neg e, if_neg e, hgI_nk e, hgI_nk e, hgI_na (by omega)]
      exact a15 r hr
theorem hgCV_s45 (hw : hgWf M) (hk : hgDk V) (hn : (k = 4 ∧ n = 2 ∧ x ≠ nI 0) ∨ (k = 5 ∧ n = 3)) (h : hgCV M g V) : hgCV (hgSI M g n x) g (vSs V k x) := by
  have hg := hgGw_le h.1
  obtain ⟨m1, m2, m3, m4⟩ := hgDk_sm hk
  obtain ⟨r, r1, r2, r3⟩ := hk.2.2.2.2.2.2.1
  obtain ⟨a1, a2, a3, a4, a5, a6, a7, a8, a9, a10, a11, a12, a13, a14, a15, a16, a17⟩ := h
  have o : ∀ b, b ≠ g → ∀ j, hgI (hgSI M g n x) b j = hgI M b j := fun b hb j => hgI_na hb
  have hdv : ∀ i, i < vN V → hgDv (hgSI M g n x) (g + 2 + i) (vSs V k x) i := fun i hi => hgDv_to (V := V) (fun j => o _ (by omega) j) rfl (fun p _ => o 4 (by omega) p) (fun p _ => ⟨o 2 (by omega) p, o 3 (by omega) p⟩) (a12 i hi)
  have hrf : ∀ j, j < vR V → ∀ q, q ≤ 4 → hgRf (hgSI M g n x) g j q = vU V j q := fun j hj q hq => by
    rw [hgRf_to (M := M) (fun a b z1 z2 => o a (by omega) b) (fun _ => rfl) hw a1 (by omega)]
    exact a13 j hj q hq
  have r := fun j => hgI_SI (M := M) (a := g) (k := n) (x := x) (b := g) (j := j)
  have s := fun j => vS_ss (V := V) (k := k) (x := x) (a := j)
  have pr : hgI M g 1 ≠ nI 0 := fun e => by
    have e2 := a17.mp e
    rw [r3, hgn_eq (by omega) (by omega)] at e2
    omega
  rcases hn with ⟨e1, e2, e3⟩ | ⟨e1, e2⟩
  · subst e1
    subst e2
    refine ⟨a1, ?_, by rw [o _ (by omega)]; exact a3, ?_, ?_, ?_, ?_, ?_, ?_, ?_, ?_, hdv, hrf, fun j hj => by rw [o _ (by omega)]; exact a14 j hj, fun q hq => by rw [o _ (by omega), o _ (by omega)]; exact a15 q hq, ?_, ?_⟩
    all_goals
      simp only [r, s, if_true, if_false, reduceIte, Nat.reduceEqDiff]
    all_goals
      first | done | exact a2 | exact a4 | exact a5 | exact a6 | exact a7 | exact a8 | exact a9 | exact a10 | exact a11 | exact a16 | exact ⟨fun z => absurd z pr, fun z => absurd z e3⟩
  · subst e1
    subst e2
    refine ⟨a1, ?_, by rw [o _ (by omega)]; exact a3, ?_, ?_, ?_, ?_, ?_, ?_, ?_, ?_, hdv, hrf, fun j hj => by rw [o _ (by omega)]; exact a14 j hj, fun q hq => by rw [o _ (by omega), o _ (by omega)]; exact a15 q hq, ?_, ?_⟩
    all_goals
      simp only [r, s, if_true, if_false, reduceIte, Nat.reduceEqDiff]
    all_goals
      first | done | exact a2 | exact a4 | exact a5 | exact a6 | exact a7 | exact a8 | exact a9 | exact a10 | exact a11 | exact a16 | exact a17
theorem hgk_11 (hw : hgWf M) (hk : hgDk V) (hn : vN V < 10) (h : hgCV M g V) : ∃ M', hgWC X 11 [.ref g, .int (nI i), .int (nI w), .int (nI d), .int (nI p)] M = some (.inl .null, M') ∧ hgCV M' g (vAd V i w d p) ∧ hgFn (fun b => g ≤ b ∧ b < g + 29) M M' := by
  have hg := h.1
  have hg2 := hgGw_le h.1
  have h6 := h.2.1
  obtain ⟨c1, c2⟩ := hgCV_ad (i := i) (w := w) (d := d) (p := p) hw hk hn h
  refine ⟨_, ?_, c1, c2⟩
  have k1 := hgSu_k (X := X) (x := nI i) (y := nI w) (z := nI d) (v := nI p) (hgO_d hw hg hn)
  have f0 : hgFn (fun b => b = g + 2 + vN V) M (hgSu M (g + 2 + vN V) (nI i) (nI w) (nI d) (nI p)) := hgSu_f
  clear c1 c2
  generalize hgSu M (g + 2 + vN V) (nI i) (nI w) (nI d) (nI p) = M0 at *
  have w0 := hgFn_w f0 hw
  have r6 : hgI M0 g 6 = nI (vN V) := by rw [(f0.2.2 g (by omega) 6).1]; exact h6
  have b1 : vN V < 2147483648 := by omega
  have b2 : ¬ 10 ≤ vN V := by omega
  simp (maxDischargeDepth := 7) only [hgc11, hgM_t, hgM_f, hgM_n, hgx_aload_n_0, hgx_get0, hgx_if_lt, hgx_bipush_10, hgx_ic_ge, hgs_get_1_5, hgx_iload_n_1, hgx_iload_n_2, hgx_iload_n_3, hgx_iload_4, hgx_invvirtual_5, hgx_aft_e, hgx_aft_i, hgx_aft_l, hgx_aft_v, hgx_dup_i, hgx_dup_f, hgx_dup_r, hgx_iconst_1, hgx_iadd, hgx_put0, hgx_vret, hgv11_0, hgr11_0, hgu11_0, hgv11_43, hgr11_43, hgu11_43, hgI_SI, hgI_SJ, hgJ_SI, hgJ_SJ, if_true, if_false, reduceIte, Nat.reduceEqDiff, hgWf_SI, hgWf_SJ, hgO_SI, hgO_SJ, hgAr_SI, hgAr_SJ, hgRp_SI, hgRp_SJ, hgN_SI, hgN_SJ, hgO_g, hgO_d, hgO_rl, hgO_r, hgO_0, hgO_1, hgO_64, hgO_298, hgO_300, hgCd_0, hgCd_1, hgCd_2, hgCd_3, hgCd_4, hgCd_5, hgRecv_O, hgRecv_99, List.length_cons, List.length_nil, Nat.zero_add, Nat.add_zero, Nat.le_refl, Nat.zero_le, and_self, or_true, true_or, true_and, and_true, ne_eq, not_false_eq_true, Nat.reduceLT, Nat.reduceLeDiff, Nat.reduceAdd, Nat.reduceEqDiff, hgn_eq, hgn_lt, hgn_le, if_true, if_false, reduceIte, Nat.not_lt_zero, hgs_aa_d, hgs_aa_r, hgs_aa_h, hgs_aa_m, hgs_aa_t, hgs_ld_wp, hgs_st_wp, hgs_ld_qf, hgs_st_qf, hgs_ld_qt, hgs_st_qt, hgs_ld_2, hgs_st_2, hgs_ld_3, hgs_st_3, hgs_ld_4, hgs_st_4, hgs_ld_301, hgs_st_301, hgs_ld_D, hgs_st_D, hgs_ld_s, hgs_ld_T, hgs_st_T, hgs_ld_o, hgs_st_o, hgs_ld_b, hgs_st_b, hgs_ld_z, hgs_st_z, hgs_al_b, hgx_alen_s, hgn_add, hgn_mul, hw, hg, h6, b1, b2, hn, k1, w0, r6]
theorem hgk_12 (hw : hgWf M) (hk : hgDk V) (hn : vW V < 8) (h : hgCV M g V) : ∃ M', hgWC X 12 [.ref g, .int (nI p)] M = some (.inl .null, M') ∧ hgCV M' g (vAw V p) ∧ hgFn (fun b => g ≤ b ∧ b < g + 29) M M' := by
  have hg := h.1
  have hg2 := hgGw_le h.1
  have h9 := h.2.2.2.1
  obtain ⟨c1, c2⟩ := hgCV_aw (p := p) hw hk h
  refine ⟨_, ?_, c1, c2⟩
  have n1 : ¬ g = g + 26 := by omega
  have b1 : vW V < 2147483648 := by omega
  have b2 : ¬ 8 ≤ vW V := by omega
  simp (maxDischargeDepth := 7) only [hgc12, hgM_t, hgM_f, hgM_n, hgx_aload_n_0, hgx_get0, hgx_if_lt, hgx_bipush_8, hgx_ic_ge, hgs_get_1_8, hgx_iload_n_1, hgx_dup_i, hgx_dup_f, hgx_dup_r, hgx_iconst_1, hgx_iadd, hgx_put0, hgx_vret, hgv12_0, hgr12_0, hgu12_0, hgv12_36, hgr12_36, hgu12_36, hgI_SI, hgI_SJ, hgJ_SI, hgJ_SJ, if_true, if_false, reduceIte, Nat.reduceEqDiff, hgWf_SI, hgWf_SJ, hgO_SI, hgO_SJ, hgAr_SI, hgAr_SJ, hgRp_SI, hgRp_SJ, hgN_SI, hgN_SJ, hgO_g, hgO_d, hgO_rl, hgO_r, hgO_0, hgO_1, hgO_64, hgO_298, hgO_300, hgCd_0, hgCd_1, hgCd_2, hgCd_3, hgCd_4, hgCd_5, hgRecv_O, hgRecv_99, List.length_cons, List.length_nil, Nat.zero_add, Nat.add_zero, Nat.le_refl, Nat.zero_le, and_self, or_true, true_or, true_and, and_true, ne_eq, not_false_eq_true, Nat.reduceLT, Nat.reduceLeDiff, Nat.reduceAdd, Nat.reduceEqDiff, hgn_eq, hgn_lt, hgn_le, if_true, if_false, reduceIte, Nat.not_lt_zero, hgs_aa_d, hgs_aa_r, hgs_aa_h, hgs_aa_m, hgs_aa_t, hgs_ld_wp, hgs_st_wp, hgs_ld_qf, hgs_st_qf, hgs_ld_qt, hgs_st_qt, hgs_ld_2, hgs_st_2, hgs_ld_3, hgs_st_3, hgs_ld_4, hgs_st_4, hgs_ld_301, hgs_st_301, hgs_ld_D, hgs_st_D, hgs_ld_s, hgs_ld_T, hgs_st_T, hgs_ld_o, hgs_st_o, hgs_ld_b, hgs_st_b, hgs_ld_z, hgs_st_z, hgs_al_b, hgx_alen_s, hgn_add, hgn_mul, hw, hg, h9, b1, b2, hn, n1]
theorem hgk_14 (hw : hgWf M) (hg : hgGw g) (hq : q < 3) : hgWC X 14 [.ref g, .int (nI q), .int x, .int y] M = some (.inl .null, hgSI (hgSI M (g + 27) q x) (g + 28) q y) := by
  have b1 : q < 2147483648 := by omega
  have b2 : ¬ 3 ≤ q := by omega
  simp (maxDischargeDepth := 7) only [hgc14, hgM_t, hgM_f, hgM_n, hgx_iload_n_1, hgx_if_lt, hgx_iconst_3, hgx_ic_ge, hgx_aload_n_0, hgs_get_1_10, hgx_iload_n_2, hgs_get_1_11, hgx_iload_n_3, hgx_vret, hgv14_0, hgr14_0, hgu14_0, hgv14_23, hgr14_23, hgu14_23, hgI_SI, hgI_SJ, hgJ_SI, hgJ_SJ, if_true, if_false, reduceIte, Nat.reduceEqDiff, hgWf_SI, hgWf_SJ, hgO_SI, hgO_SJ, hgAr_SI, hgAr_SJ, hgRp_SI, hgRp_SJ, hgN_SI, hgN_SJ, hgO_g, hgO_d, hgO_rl, hgO_r, hgO_0, hgO_1, hgO_64, hgO_298, hgO_300, hgCd_0, hgCd_1, hgCd_2, hgCd_3, hgCd_4, hgCd_5, hgRecv_O, hgRecv_99, List.length_cons, List.length_nil, Nat.zero_add, Nat.add_zero, Nat.le_refl, Nat.zero_le, and_self, or_true, true_or, true_and, and_true, ne_eq, not_false_eq_true, Nat.reduceLT, Nat.reduceLeDiff, Nat.reduceAdd, Nat.reduceEqDiff, hgn_eq, hgn_lt, hgn_le, if_true, if_false, reduceIte, Nat.not_lt_zero, hgs_aa_d, hgs_aa_r, hgs_aa_h, hgs_aa_m, hgs_aa_t, hgs_ld_wp, hgs_st_wp, hgs_ld_qf, hgs_st_qf, hgs_ld_qt, hgs_st_qt, hgs_ld_2, hgs_st_2, hgs_ld_3, hgs_st_3, hgs_ld_4, hgs_st_4, hgs_ld_301, hgs_st_301, hgs_ld_D, hgs_st_D, hgs_ld_s, hgs_ld_T, hgs_st_T, hgs_ld_o, hgs_st_o, hgs_ld_b, hgs_st_b, hgs_ld_z, hgs_st_z, hgs_al_b, hgx_alen_s, hgn_add, hgn_mul, hw, hg, b1, b2, hq]
theorem hgk_10s (hw : hgWf M) (hg : hgGw g) (hi : i < 3) : hgW X 10 42 [some (.ref g), some (.int (nI i))] [] (0, 0) M = hgW X 10 42 [some (.ref g), some (.int (nI (i + 1)))] [] (0, 0) (hgSI (hgSI M (g + 27) i (nI 0)) (g + 28) i (nI 0)) := by
  have b1 : i < 2147483648 := by omega
  have b2 : ¬ 3 ≤ i := by omega
  have k14 := hgk_14 (X := X) (x := nI 0) (y := nI 0) hw hg hi
  rw [hgu10_42]
  simp (maxDischargeDepth := 7) only [hgM_t, hgM_f, hgM_n, hgx_aload_n_0, hgx_iconst_1, hgx_put3, hgx_put0, hgx_sipush_200, hgx_iconst_0, hgs_get_1_7, hgx_istore_n_1i, hgx_istore_n_1r, hgx_istore_n_1f, hgx_istore_n_1n, hgx_istore_n_1l, hgx_iload_n_1, hgx_iconst_3, hgx_ic_ge, hgx_invvirtual_4, hgx_aft_e, hgx_aft_i, hgx_aft_l, hgx_aft_v, hgx_iinc_1_1, hgx_goto, hgx_vret, hgv10_0, hgr10_0, hgu10_0, hgv10_42, hgr10_42, hgv10_60, hgr10_60, hgu10_60, hgI_SI, hgI_SJ, hgJ_SI, hgJ_SJ, if_true, if_false, reduceIte, Nat.reduceEqDiff, hgWf_SI, hgWf_SJ, hgO_SI, hgO_SJ, hgAr_SI, hgAr_SJ, hgRp_SI, hgRp_SJ, hgN_SI, hgN_SJ, hgO_g, hgO_d, hgO_rl, hgO_r, hgO_0, hgO_1, hgO_64, hgO_298, hgO_300, hgCd_0, hgCd_1, hgCd_2, hgCd_3, hgCd_4, hgCd_5, hgRecv_O, hgRecv_99, List.length_cons, List.length_nil, Nat.zero_add, Nat.add_zero, Nat.le_refl, Nat.zero_le, and_self, or_true, true_or, true_and, and_true, ne_eq, not_false_eq_true, Nat.reduceLT, Nat.reduceLeDiff, Nat.reduceAdd, Nat.reduceEqDiff, hgn_eq, hgn_lt, hgn_le, if_true, if_false, reduceIte, Nat.not_lt_zero, hgn_add, hgn_mul, hw, hg, b1, b2, k14]
theorem hgk_10e (hw : hgWf M) (hg : hgGw g) : hgW X 10 42 [some (.ref g), some (.int (nI 3))] [] (0, 0) M = some (.inl .null, hgSI (hgSI (hgSI (hgSI M g 12 (nI 0)) g 13 (nI 0)) g 14 (nI 0)) g 15 (nI 0)) := by
  rw [hgu10_42]
  simp (maxDischargeDepth := 7) only [hgM_t, hgM_f, hgM_n, hgx_aload_n_0, hgx_iconst_1, hgx_put3, hgx_put0, hgx_sipush_200, hgx_iconst_0, hgs_get_1_7, hgx_istore_n_1i, hgx_istore_n_1r, hgx_istore_n_1f, hgx_istore_n_1n, hgx_istore_n_1l, hgx_iload_n_1, hgx_iconst_3, hgx_ic_ge, hgx_invvirtual_4, hgx_aft_e, hgx_aft_i, hgx_aft_l, hgx_aft_v, hgx_iinc_1_1, hgx_goto, hgx_vret, hgv10_0, hgr10_0, hgu10_0, hgv10_42, hgr10_42, hgv10_60, hgr10_60, hgu10_60, hgI_SI, hgI_SJ, hgJ_SI, hgJ_SJ, if_true, if_false, reduceIte, Nat.reduceEqDiff, hgWf_SI, hgWf_SJ, hgO_SI, hgO_SJ, hgAr_SI, hgAr_SJ, hgRp_SI, hgRp_SJ, hgN_SI, hgN_SJ, hgO_g, hgO_d, hgO_rl, hgO_r, hgO_0, hgO_1, hgO_64, hgO_298, hgO_300, hgCd_0, hgCd_1, hgCd_2, hgCd_3, hgCd_4, hgCd_5, hgRecv_O, hgRecv_99, List.length_cons, List.length_nil, Nat.zero_add, Nat.add_zero, Nat.le_refl, Nat.zero_le, and_self, or_true, true_or, true_and, and_true, ne_eq, not_false_eq_true, Nat.reduceLT, Nat.reduceLeDiff, Nat.reduceAdd, Nat.reduceEqDiff, hgn_eq, hgn_lt, hgn_le, if_true, if_false, reduceIte, Nat.not_lt_zero, hgn_add, hgn_mul, hw, hg]
theorem hgk_10 (hw : hgWf M) (hg : hgGw g) : ∃ M', hgWC X 10 [.ref g] M = some (.inl .null, M') ∧ hgCV M' g vD0 ∧ hgFn (fun b => g ≤ b ∧ b < g + 29) M M' := by
  have hg2 := hgGw_le hg
  have n1 : ¬ g = g + 12 := by omega
  have n2 : ¬ g = g + 27 := by omega
  have n3 : ¬ g = g + 28 := by omega
  have n4 : ¬ g + 12 = g := by omega
  have n5 : ¬ g + 12 = g + 27 := by omega
  have n6 : ¬ g + 12 = g + 28 := by omega
  have n7 : ¬ g + 27 = g := by omega
  have n8 : ¬ g + 28 = g := by omega
  have n9 : ¬ g + 27 = g + 28 := by omega
  have n10 : ¬ g + 28 = g + 27 := by omega
  have n11 : ¬ g + 27 = g + 12 := by omega
  have n12 : ¬ g + 28 = g + 12 := by omega
  have orl := hgO_rl hw hg
  have ef : ∀ Mx : hgMem, hgFn (fun b => g ≤ b ∧ b < g + 29) M Mx → hgFn (fun b => g ≤ b ∧ b < g + 29) M (hgSI (hgSI (hgSI (hgSI (hgSI (hgSI (hgSI (hgSI (hgSI (hgSI Mx (g + 27) 0 (nI 0)) (g + 28) 0 (nI 0)) (g + 27) 1 (nI 0)) (g + 28) 1 (nI 0)) (g + 27) 2 (nI 0)) (g + 28) 2 (nI 0)) g 12 (nI 0)) g 13 (nI 0)) g 14 (nI 0)) g 15 (nI 0)) := fun Mx h => hgFn_SI (hgFn_SI (hgFn_SI (hgFn_SI (hgFn_SI (hgFn_SI (hgFn_SI (hgFn_SI (hgFn_SI (hgFn_SI h (by omega)) (by omega)) (by omega)) (by omega)) (by omega)) (by omega)) (by omega)) (by omega)) (by omega)) (by omega)
  refine ⟨hgSI (hgSI (hgSI (hgSI (hgSI (hgSI (hgSI (hgSI (hgSI (hgSI (hgSI (hgSI (hgSI (hgSI (hgSI (hgSI (hgSI M g 1 (nI 1)) g 2 (nI 1)) g 3 (nI 1)) g 4 (nI 200)) g 6 (nI 0)) (g + 12) 1 (nI 0)) g 9 (nI 0)) (g + 27) 0 (nI 0)) (g + 28) 0 (nI 0)) (g + 27) 1 (nI 0)) (g + 28) 1 (nI 0)) (g + 27) 2 (nI 0)) (g + 28) 2 (nI 0)) g 12 (nI 0)) g 13 (nI 0)) g 14 (nI 0)) g 15 (nI 0), ?_, ?_, ?_⟩
  · simp (maxDischargeDepth := 7) only [hgc10, hgM_t, hgM_f, hgM_n, hgx_aload_n_0, hgx_iconst_1, hgx_put3, hgx_put0, hgx_sipush_200, hgx_iconst_0, hgs_get_1_7, hgx_istore_n_1i, hgx_istore_n_1r, hgx_istore_n_1f, hgx_istore_n_1n, hgx_istore_n_1l, hgx_iload_n_1, hgx_iconst_3, hgx_ic_ge, hgx_invvirtual_4, hgx_aft_e, hgx_aft_i, hgx_aft_l, hgx_aft_v, hgx_iinc_1_1, hgx_goto, hgx_vret, hgv10_0, hgr10_0, hgu10_0, hgv10_42, ← hgu10_42, hgv10_60, hgr10_60, hgu10_60, hgI_SI, hgI_SJ, hgJ_SI, hgJ_SJ, if_true, if_false, reduceIte, Nat.reduceEqDiff, hgWf_SI, hgWf_SJ, hgO_SI, hgO_SJ, hgAr_SI, hgAr_SJ, hgRp_SI, hgRp_SJ, hgN_SI, hgN_SJ, hgO_g, hgO_d, hgO_rl, hgO_r, hgO_0, hgO_1, hgO_64, hgO_298, hgO_300, hgCd_0, hgCd_1, hgCd_2, hgCd_3, hgCd_4, hgCd_5, hgRecv_O, hgRecv_99, List.length_cons, List.length_nil, Nat.zero_add, Nat.add_zero, Nat.le_refl, Nat.zero_le, and_self, or_true, true_or, true_and, and_true, ne_eq, not_false_eq_true, Nat.reduceLT, Nat.reduceLeDiff, Nat.reduceAdd, Nat.reduceEqDiff, hgn_eq, hgn_lt, hgn_le, if_true, if_false, reduceIte, Nat.not_lt_zero, hgn_add, hgn_mul, hw, hg, orl]
    refine (hgk_10s (i := 0) (by exact hw) hg (by omega)).trans ?_
    refine (hgk_10s (i := 1) (by exact hw) hg (by omega)).trans ?_
    refine (hgk_10s (i := 2) (by exact hw) hg (by omega)).trans ?_
    exact hgk_10e (by exact hw) hg
  · refine ⟨hg, ?_, ?_, ?_, ?_, ?_, ?_, ?_, ?_, ?_, ?_, fun i hi => absurd hi (Nat.not_lt_zero i), fun i hi => absurd hi (Nat.not_lt_zero i), fun i hi => absurd hi (Nat.not_lt_zero i), fun q hq => ?_, ?_, ?_⟩
    all_goals
      try simp only [hgI_SI, hgI_SJ, hgJ_SI, hgJ_SJ, if_true, if_false, reduceIte, Nat.reduceEqDiff, n1, n2, n3, n4, n5, n6, n7, n8, n9, n10, n11, n12]
    · rfl
    · rfl
    · rfl
    · rfl
    · rfl
    · rfl
    · rfl
    · rfl
    · rfl
    · rfl
    · have : q = 0 ∨ q = 1 ∨ q = 2 := by omega
      rcases this with e | e | e <;> subst e <;> exact ⟨rfl, rfl⟩
    · exact Or.inr trivial
    · exact ⟨fun z => absurd z (by decide), fun z => absurd z (by decide)⟩
  · exact ef _ (hgFn_SI (hgFn_SI (hgFn_SI (hgFn_SI (hgFn_SI (hgFn_SI (hgFn_SI hgFn_r (by omega)) (by omega)) (by omega)) (by omega)) (by omega)) (by omega)) (by omega))
end HGDRF

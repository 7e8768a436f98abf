/-! STATEMENTS, the component's. -/
def hgSn (M : hgMem) (f : Nat → Bool) : Prop := hgI M 298 6 = hgB (f 0) ∧ hgI M 298 7 = hgB (f 1) ∧ ∀ g, g < 3 → hgI M 299 g = hgB (f (2 + g))
def hgOkc (M : hgMem) (t : hgTxt) (z : hgPt) : Prop := hgRc M t z.1 ∧ hgCV M 35 z.2.1 ∧ hgSn M z.2.2 ∧ hgI M 298 9 = nI 0 ∧ hgI M 298 10 = -1
def hgOuc (M : hgMem) (t : hgTxt) : hgQt → Prop
  | .inl z => hgOkc M t z
  | .inr e => hgWf M ∧ hgI M 298 9 = e.1 ∧ hgI M 298 10 = nI e.2
def hgRb : hgQt → Int32
  | .inl _ => nI 1
  | .inr _ => nI 0
def hgFd (M M' : hgMem) : Prop := hgFn (fun b => (35 ≤ b ∧ b < 64) ∨ b = 298 ∨ b = 299) M M'
/-- a method of the reader does what the text says -/
def hgDo (X : hgX) (m : Nat) (A : List Value) (M : hgMem) (t : hgTxt) (r : hgQt) : Prop := ∃ M', hgWC X m A M = some (.inl (.int (hgRb r)), M') ∧ hgOuc M' t r ∧ hgFd M M'
section HGRDR
variable {X : hgX} {M M' M0 M1 M2 M3 Mo : hgMem} {t : hgTxt} {i j k a b n p q N l s lo hi g w d c m : Nat} {x y v : Int32} {D V : hgV} {f f' : Nat → Bool} {A : List Value} {z : hgPt} {e : Int32 × Nat} {r : hgQt}
theorem hgFd_r : hgFd M M := hgFn_r
theorem hgFd_t (h1 : hgFd M M1) (h2 : hgFd M1 M2) : hgFd M M2 := hgFn_t h1 h2
theorem hgFd_c (h : hgFc M M1) : hgFd M M1 := hgFn_m h.1 (fun b hb => Or.inr (Or.inl hb))
theorem hgFd_v (h : hgFn (fun b => 35 ≤ b ∧ b < 35 + 29) M M1) : hgFd M M1 := hgFn_m h (fun b hb => Or.inl hb)
theorem hgFd_e (h : hgEr M M1 x n) : hgFd M M1 := hgFn_m h.1 (fun b hb => Or.inr (Or.inl hb))
theorem hgDo_f (k : hgWC X m A M = some (.inl (.int (nI 0)), hgSI (hgSI M1 298 9 x) 298 10 (hgI M1 298 3))) (w : hgWf M1) (h3 : hgI M1 298 3 = nI n) (f : hgFd M M1) : hgDo X m A M t (.inr (x, n)) := ⟨_, k, ⟨w, by rw [hgI_nk (by omega), hgI_at], by rw [hgI_at]; exact h3⟩, hgFn_SI (hgFn_SI f (by omega)) (by omega)⟩
theorem hgDo_n (k : hgWC X m A M = some (.inl (.int (nI 0)), M2)) (h : hgEr M1 M2 e.1 e.2) (f : hgFd M M1) : hgDo X m A M t (.inr e) := ⟨_, k, ⟨h.2.2.2.2, h.2.2.1, h.2.2.2.1⟩, hgFd_t f (hgFd_e h)⟩
theorem hgDo_l (k : hgWC X m A M = some (.inl (.int (nI 1)), M2)) (h : hgOkc M2 t z) (f : hgFd M M2) : hgDo X m A M t (.inl z) := ⟨_, k, h, f⟩
theorem hgOkc_c (h : hgOkc M t (p, D, f)) (hk : hgDk D) (hf : hgFc M M1) (hr : hgRc M1 t q) : hgOkc M1 t (q, D, f) := by
  obtain ⟨h1, h2, h3, h4, h5⟩ := h
  refine ⟨hr, hgCV_fm h1.1 (hgDk_sm hk) (hgFn_f hf.1) (fun b hb => by omega) h2, ⟨by rw [hf.2 6 (by omega) (by omega) (by omega)]; exact h3.1, by rw [hf.2 7 (by omega) (by omega) (by omega)]; exact h3.2.1, fun g hg => by rw [(hf.1.2.2 299 (by omega) g).1]; exact h3.2.2 g hg⟩, by rw [hf.2 9 (by omega) (by omega) (by omega)]; exact h4, by rw [hf.2 10 (by omega) (by omega) (by omega)]; exact h5⟩
theorem hgOkc_v (h : hgOkc M t (p, D, f)) (hf : hgFn (fun b => 35 ≤ b ∧ b < 35 + 29) M M1) (hv : hgCV M1 35 V) : hgOkc M1 t (p, V, f) := by
  obtain ⟨⟨b1, b2, b3, b4, b5, b6⟩, h2, h3, h4, h5⟩ := h
  have o : ∀ b, 64 ≤ b ∨ b < 35 → ∀ k, hgI M1 b k = hgI M b k := fun b hb k => (hf.2.2 b (by omega) k).1
  exact ⟨⟨hgFn_w hf b1, by rw [o _ (by omega)]; exact b2, by rw [o _ (by omega)]; exact b3, b4, b5, fun k hk => by rw [o _ (by omega)]; exact b6 k hk⟩, hv, ⟨by rw [o _ (by omega)]; exact h3.1, by rw [o _ (by omega)]; exact h3.2.1, fun g hg => by rw [o _ (by omega)]; exact h3.2.2 g hg⟩, by rw [o _ (by omega)]; exact h4, by rw [o _ (by omega)]; exact h5⟩
theorem hg35 : hgGw 35 := Or.inr (Or.inl rfl)
theorem hgk_75 (h : hgOkc M t (p, D, f)) (hk : hgDk D) (h3 : hgI M 298 3 = nI s) : hgDo X 75 [.ref 298] M t (sDev t p s D f) := by
  have hw := h.1.1
  have g35 := hg35
  have hn := h.2.1.2.1
  have n10 := hk.1
  have b0 : vN D < 2147483648 := by omega
  have m1 : (-1 : Int32) < nI 0 := by decide
  unfold sDev
  by_cases q : vN D = 10
  · rw [if_pos q]
    rw [q] at hn
    have k62 := hgk_62 (X := X) (x := -4) hw
    refine hgDo_f ?_ hw h3 hgFd_r
    simp (maxDischargeDepth := 7) only [hgc75, hgM_t, hgM_f, hgM_n, hgx_aload_n_0, hgs_get_6_5, hgx_get0, hgx_bipush_10, hgx_ic_lt, hgx_bipush_m4, hgx_invvirtual_2, hgx_aft_e, hgx_aft_i, hgx_aft_l, hgx_aft_v, hgx_ret3, hgx_invvirtual_1, hgx_istore_n_1i, hgx_istore_n_1r, hgx_istore_n_1f, hgx_istore_n_1n, hgx_istore_n_1l, hgx_iload_n_1, hgx_if_lt, hgx_iconst_3, hgx_bipush_m2, hgx_iconst_1, hgx_bipush_9, hgx_invvirtual_3, hgx_if_ne, hgx_iconst_0, hgx_istore_n_2i, hgx_istore_n_2r, hgx_istore_n_2f, hgx_istore_n_2n, hgx_istore_n_2l, hgx_istore_n_3i, hgx_istore_n_3r, hgx_istore_n_3f, hgx_istore_n_3n, hgx_istore_n_3l, hgx_bipush_99, hgx_iload_n_2, hgx_iload_n_3, hgx_invvirtual_5, hgv75_0, hgr75_0, hgu75_0, hgv75_19, hgr75_19, hgu75_19, hgv75_33, hgr75_33, hgu75_33, hgv75_40, hgr75_40, hgu75_40, hgv75_52, hgr75_52, hgu75_52, hgv75_69, hgr75_69, hgu75_69, hgv75_86, hgr75_86, hgu75_86, hgI_SI, hgI_SJ, hgJ_SI, hgJ_SJ, if_true, if_false, reduceIte, Nat.reduceEqDiff, hgWf_SI, hgWf_SJ, hgO_SI, hgO_SJ, hgAr_SI, hgAr_SJ, hgRp_SI, hgRp_SJ, hgN_SI, hgN_SJ, hgO_g, hgO_d, hgO_rl, hgO_r, hgO_0, hgO_1, hgO_64, hgO_298, hgO_300, hgCd_0, hgCd_1, hgCd_2, hgCd_3, hgCd_4, hgCd_5, hgRecv_O, hgRecv_99, List.length_cons, List.length_nil, Nat.zero_add, Nat.add_zero, Nat.le_refl, Nat.zero_le, and_self, or_true, true_or, true_and, and_true, ne_eq, not_false_eq_true, Nat.reduceLT, Nat.reduceLeDiff, Nat.reduceAdd, Nat.reduceEqDiff, hgn_eq, hgn_lt, hgn_le, if_true, if_false, reduceIte, Nat.not_lt_zero, hw, g35, hn, k62]
  · rw [if_neg q]
    have q1 : vN D < 10 := by omega
    obtain ⟨M1, e1, r1, r2, r3⟩ := hgk_72 (X := X) h.1
    have w1 := r1.1
    have ok1 := hgOkc_c h hk r3 r1
    have k62 := hgk_62 (X := X) (x := -2) w1
    cases hs : sSel t p with
    | none =>
      rw [hs, hgOi_n] at e1
      refine hgDo_f ?_ w1 r2 (hgFd_c r3)
      simp (maxDischargeDepth := 7) only [hgc75, hgM_t, hgM_f, hgM_n, hgx_aload_n_0, hgs_get_6_5, hgx_get0, hgx_bipush_10, hgx_ic_lt, hgx_bipush_m4, hgx_invvirtual_2, hgx_aft_e, hgx_aft_i, hgx_aft_l, hgx_aft_v, hgx_ret3, hgx_invvirtual_1, hgx_istore_n_1i, hgx_istore_n_1r, hgx_istore_n_1f, hgx_istore_n_1n, hgx_istore_n_1l, hgx_iload_n_1, hgx_if_lt, hgx_iconst_3, hgx_bipush_m2, hgx_iconst_1, hgx_bipush_9, hgx_invvirtual_3, hgx_if_ne, hgx_iconst_0, hgx_istore_n_2i, hgx_istore_n_2r, hgx_istore_n_2f, hgx_istore_n_2n, hgx_istore_n_2l, hgx_istore_n_3i, hgx_istore_n_3r, hgx_istore_n_3f, hgx_istore_n_3n, hgx_istore_n_3l, hgx_bipush_99, hgx_iload_n_2, hgx_iload_n_3, hgx_invvirtual_5, hgv75_0, hgr75_0, hgu75_0, hgv75_19, hgr75_19, hgu75_19, hgv75_33, hgr75_33, hgu75_33, hgv75_40, hgr75_40, hgu75_40, hgv75_52, hgr75_52, hgu75_52, hgv75_69, hgr75_69, hgu75_69, hgv75_86, hgr75_86, hgu75_86, hgI_SI, hgI_SJ, hgJ_SI, hgJ_SJ, if_true, if_false, reduceIte, Nat.reduceEqDiff, hgWf_SI, hgWf_SJ, hgO_SI, hgO_SJ, hgAr_SI, hgAr_SJ, hgRp_SI, hgRp_SJ, hgN_SI, hgN_SJ, hgO_g, hgO_d, hgO_rl, hgO_r, hgO_0, hgO_1, hgO_64, hgO_298, hgO_300, hgCd_0, hgCd_1, hgCd_2, hgCd_3, hgCd_4, hgCd_5, hgRecv_O, hgRecv_99, List.length_cons, List.length_nil, Nat.zero_add, Nat.add_zero, Nat.le_refl, Nat.zero_le, and_self, or_true, true_or, true_and, and_true, ne_eq, not_false_eq_true, Nat.reduceLT, Nat.reduceLeDiff, Nat.reduceAdd, Nat.reduceEqDiff, hgn_eq, hgn_lt, hgn_le, if_true, if_false, reduceIte, Nat.not_lt_zero, hw, g35, hn, b0, q1, e1, m1, w1, k62]
    | some g =>
      have g4 := sSel_lt hs
      have b1 : g < 2147483648 := by omega
      rw [hs, hgOi_s] at e1
      by_cases g3 : g < 3
      · dsimp only
        rw [if_pos g3]
        cases hn1 : sNum t (tWe t (tSk t p)) 1 9 with
        | inr e =>
          obtain ⟨M2, e2, s1, _, _⟩ := hgk_71b (X := X) ok1.1 (by omega) (by omega) hn1
          refine hgDo_n ?_ s1 (hgFd_c r3)
          simp (maxDischargeDepth := 7) only [hgc75, hgM_t, hgM_f, hgM_n, hgx_aload_n_0, hgs_get_6_5, hgx_get0, hgx_bipush_10, hgx_ic_lt, hgx_bipush_m4, hgx_invvirtual_2, hgx_aft_e, hgx_aft_i, hgx_aft_l, hgx_aft_v, hgx_ret3, hgx_invvirtual_1, hgx_istore_n_1i, hgx_istore_n_1r, hgx_istore_n_1f, hgx_istore_n_1n, hgx_istore_n_1l, hgx_iload_n_1, hgx_if_lt, hgx_iconst_3, hgx_bipush_m2, hgx_iconst_1, hgx_bipush_9, hgx_invvirtual_3, hgx_if_ne, hgx_iconst_0, hgx_istore_n_2i, hgx_istore_n_2r, hgx_istore_n_2f, hgx_istore_n_2n, hgx_istore_n_2l, hgx_istore_n_3i, hgx_istore_n_3r, hgx_istore_n_3f, hgx_istore_n_3n, hgx_istore_n_3l, hgx_bipush_99, hgx_iload_n_2, hgx_iload_n_3, hgx_invvirtual_5, hgv75_0, hgr75_0, hgu75_0, hgv75_19, hgr75_19, hgu75_19, hgv75_33, hgr75_33, hgu75_33, hgv75_40, hgr75_40, hgu75_40, hgv75_52, hgr75_52, hgu75_52, hgv75_69, hgr75_69, hgu75_69, hgv75_86, hgr75_86, hgu75_86, hgI_SI, hgI_SJ, hgJ_SI, hgJ_SJ, if_true, if_false, reduceIte, Nat.reduceEqDiff, hgWf_SI, hgWf_SJ, hgO_SI, hgO_SJ, hgAr_SI, hgAr_SJ, hgRp_SI, hgRp_SJ, hgN_SI, hgN_SJ, hgO_g, hgO_d, hgO_rl, hgO_r, hgO_0, hgO_1, hgO_64, hgO_298, hgO_300, hgCd_0, hgCd_1, hgCd_2, hgCd_3, hgCd_4, hgCd_5, hgRecv_O, hgRecv_99, List.length_cons, List.length_nil, Nat.zero_add, Nat.add_zero, Nat.le_refl, Nat.zero_le, and_self, or_true, true_or, true_and, and_true, ne_eq, not_false_eq_true, Nat.reduceLT, Nat.reduceLeDiff, Nat.reduceAdd, Nat.reduceEqDiff, hgn_eq, hgn_lt, hgn_le, if_true, if_false, reduceIte, Nat.not_lt_zero, hw, g35, hn, b0, q1, e1, b1, g3, w1, e2]
        | inl v =>
          obtain ⟨M2, e2, s1, s4, s3, l1, l2, f2⟩ := hgk_71a (X := X) ok1.1 (by omega) (by omega) hn1
          have ok2 := hgOkc_c ok1 hk f2 s1
          have w2 := s1.1
          show hgDo X 75 [.ref 298] M t (sB (sNum t v.2 0 9) (fun d => sB (sNum t d.2 0 99) (fun z => .inl (z.2, vAd D g v.1 d.1 z.1, f))))
          cases hn2 : sNum t v.2 0 9 with
          | inr e =>
            obtain ⟨M3, e3, t1, _, _⟩ := hgk_71b (X := X) ok2.1 (by omega) (by omega) hn2
            refine hgDo_n ?_ t1 (hgFd_t (hgFd_c r3) (hgFd_c f2))
            simp (maxDischargeDepth := 7) only [hgc75, hgM_t, hgM_f, hgM_n, hgx_aload_n_0, hgs_get_6_5, hgx_get0, hgx_bipush_10, hgx_ic_lt, hgx_bipush_m4, hgx_invvirtual_2, hgx_aft_e, hgx_aft_i, hgx_aft_l, hgx_aft_v, hgx_ret3, hgx_invvirtual_1, hgx_istore_n_1i, hgx_istore_n_1r, hgx_istore_n_1f, hgx_istore_n_1n, hgx_istore_n_1l, hgx_iload_n_1, hgx_if_lt, hgx_iconst_3, hgx_bipush_m2, hgx_iconst_1, hgx_bipush_9, hgx_invvirtual_3, hgx_if_ne, hgx_iconst_0, hgx_istore_n_2i, hgx_istore_n_2r, hgx_istore_n_2f, hgx_istore_n_2n, hgx_istore_n_2l, hgx_istore_n_3i, hgx_istore_n_3r, hgx_istore_n_3f, hgx_istore_n_3n, hgx_istore_n_3l, hgx_bipush_99, hgx_iload_n_2, hgx_iload_n_3, hgx_invvirtual_5, hgv75_0, hgr75_0, hgu75_0, hgv75_19, hgr75_19, hgu75_19, hgv75_33, hgr75_33, hgu75_33, hgv75_40, hgr75_40, hgu75_40, hgv75_52, hgr75_52, hgu75_52, hgv75_69, hgr75_69, hgu75_69, hgv75_86, hgr75_86, hgu75_86, hgI_SI, hgI_SJ, hgJ_SI, hgJ_SJ, if_true, if_false, reduceIte, Nat.reduceEqDiff, hgWf_SI, hgWf_SJ, hgO_SI, hgO_SJ, hgAr_SI, hgAr_SJ, hgRp_SI, hgRp_SJ, hgN_SI, hgN_SJ, hgO_g, hgO_d, hgO_rl, hgO_r, hgO_0, hgO_1, hgO_64, hgO_298, hgO_300, hgCd_0, hgCd_1, hgCd_2, hgCd_3, hgCd_4, hgCd_5, hgRecv_O, hgRecv_99, List.length_cons, List.length_nil, Nat.zero_add, Nat.add_zero, Nat.le_refl, Nat.zero_le, and_self, or_true, true_or, true_and, and_true, ne_eq, not_false_eq_true, Nat.reduceLT, Nat.reduceLeDiff, Nat.reduceAdd, Nat.reduceEqDiff, hgn_eq, hgn_lt, hgn_le, if_true, if_false, reduceIte, Nat.not_lt_zero, hw, g35, hn, b0, q1, e1, b1, g3, w1, e2, w2, s4, e3]
          | inl d =>
            obtain ⟨M3, e3, t1, t4, t3, l3, l4, f3⟩ := hgk_71a (X := X) ok2.1 (by omega) (by omega) hn2
            have ok3 := hgOkc_c ok2 hk f3 t1
            have w3 := t1.1
            show hgDo X 75 [.ref 298] M t (sB (sNum t d.2 0 99) (fun z => .inl (z.2, vAd D g v.1 d.1 z.1, f)))
            cases hn3 : sNum t d.2 0 99 with
            | inr e =>
              obtain ⟨M4, e4, u1, _, _⟩ := hgk_71b (X := X) ok3.1 (by omega) (by omega) hn3
              refine hgDo_n ?_ u1 (hgFd_t (hgFd_t (hgFd_c r3) (hgFd_c f2)) (hgFd_c f3))
              simp (maxDischargeDepth := 7) only [hgc75, hgM_t, hgM_f, hgM_n, hgx_aload_n_0, hgs_get_6_5, hgx_get0, hgx_bipush_10, hgx_ic_lt, hgx_bipush_m4, hgx_invvirtual_2, hgx_aft_e, hgx_aft_i, hgx_aft_l, hgx_aft_v, hgx_ret3, hgx_invvirtual_1, hgx_istore_n_1i, hgx_istore_n_1r, hgx_istore_n_1f, hgx_istore_n_1n, hgx_istore_n_1l, hgx_iload_n_1, hgx_if_lt, hgx_iconst_3, hgx_bipush_m2, hgx_iconst_1, hgx_bipush_9, hgx_invvirtual_3, hgx_if_ne, hgx_iconst_0, hgx_istore_n_2i, hgx_istore_n_2r, hgx_istore_n_2f, hgx_istore_n_2n, hgx_istore_n_2l, hgx_istore_n_3i, hgx_istore_n_3r, hgx_istore_n_3f, hgx_istore_n_3n, hgx_istore_n_3l, hgx_bipush_99, hgx_iload_n_2, hgx_iload_n_3, hgx_invvirtual_5, hgv75_0, hgr75_0, hgu75_0, hgv75_19, hgr75_19, hgu75_19, hgv75_33, hgr75_33, hgu75_33, hgv75_40, hgr75_40, hgu75_40, hgv75_52, hgr75_52, hgu75_52, hgv75_69, hgr75_69, hgu75_69, hgv75_86, hgr75_86, hgu75_86, hgI_SI, hgI_SJ, hgJ_SI, hgJ_SJ, if_true, if_false, reduceIte, Nat.reduceEqDiff, hgWf_SI, hgWf_SJ, hgO_SI, hgO_SJ, hgAr_SI, hgAr_SJ, hgRp_SI, hgRp_SJ, hgN_SI, hgN_SJ, hgO_g, hgO_d, hgO_rl, hgO_r, hgO_0, hgO_1, hgO_64, hgO_298, hgO_300, hgCd_0, hgCd_1, hgCd_2, hgCd_3, hgCd_4, hgCd_5, hgRecv_O, hgRecv_99, List.length_cons, List.length_nil, Nat.zero_add, Nat.add_zero, Nat.le_refl, Nat.zero_le, and_self, or_true, true_or, true_and, and_true, ne_eq, not_false_eq_true, Nat.reduceLT, Nat.reduceLeDiff, Nat.reduceAdd, Nat.reduceEqDiff, hgn_eq, hgn_lt, hgn_le, if_true, if_false, reduceIte, Nat.not_lt_zero, hw, g35, hn, b0, q1, e1, b1, g3, w1, e2, w2, s4, e3, w3, t4, e4]
            | inl c =>
              obtain ⟨M4, e4, u1, u4, u3, l5, l6, f4⟩ := hgk_71a (X := X) ok3.1 (by omega) (by omega) hn3
              have ok4 := hgOkc_c ok3 hk f4 u1
              have w4 := u1.1
              obtain ⟨M5, e5, v1, v2⟩ := hgk_11 (X := X) (i := g) (w := v.1) (d := d.1) (p := c.1) w4 hk q1 ok4.2.1
              refine hgDo_l ?_ (hgOkc_v ok4 v2 v1) (hgFd_t (hgFd_t (hgFd_t (hgFd_t (hgFd_c r3) (hgFd_c f2)) (hgFd_c f3)) (hgFd_c f4)) (hgFd_v v2))
              simp (maxDischargeDepth := 7) only [hgc75, hgM_t, hgM_f, hgM_n, hgx_aload_n_0, hgs_get_6_5, hgx_get0, hgx_bipush_10, hgx_ic_lt, hgx_bipush_m4, hgx_invvirtual_2, hgx_aft_e, hgx_aft_i, hgx_aft_l, hgx_aft_v, hgx_ret3, hgx_invvirtual_1, hgx_istore_n_1i, hgx_istore_n_1r, hgx_istore_n_1f, hgx_istore_n_1n, hgx_istore_n_1l, hgx_iload_n_1, hgx_if_lt, hgx_iconst_3, hgx_bipush_m2, hgx_iconst_1, hgx_bipush_9, hgx_invvirtual_3, hgx_if_ne, hgx_iconst_0, hgx_istore_n_2i, hgx_istore_n_2r, hgx_istore_n_2f, hgx_istore_n_2n, hgx_istore_n_2l, hgx_istore_n_3i, hgx_istore_n_3r, hgx_istore_n_3f, hgx_istore_n_3n, hgx_istore_n_3l, hgx_bipush_99, hgx_iload_n_2, hgx_iload_n_3, hgx_invvirtual_5, hgv75_0, hgr75_0, hgu75_0, hgv75_19, hgr75_19, hgu75_19, hgv75_33, hgr75_33, hgu75_33, hgv75_40, hgr75_40, hgu75_40, hgv75_52, hgr75_52, hgu75_52, hgv75_69, hgr75_69, hgu75_69, hgv75_86, hgr75_86, hgu75_86, hgI_SI, hgI_SJ, hgJ_SI, hgJ_SJ, if_true, if_false, reduceIte, Nat.reduceEqDiff, hgWf_SI, hgWf_SJ, hgO_SI, hgO_SJ, hgAr_SI, hgAr_SJ, hgRp_SI, hgRp_SJ, hgN_SI, hgN_SJ, hgO_g, hgO_d, hgO_rl, hgO_r, hgO_0, hgO_1, hgO_64, hgO_298, hgO_300, hgCd_0, hgCd_1, hgCd_2, hgCd_3, hgCd_4, hgCd_5, hgRecv_O, hgRecv_99, List.length_cons, List.length_nil, Nat.zero_add, Nat.add_zero, Nat.le_refl, Nat.zero_le, and_self, or_true, true_or, true_and, and_true, ne_eq, not_false_eq_true, Nat.reduceLT, Nat.reduceLeDiff, Nat.reduceAdd, Nat.reduceEqDiff, hgn_eq, hgn_lt, hgn_le, if_true, if_false, reduceIte, Nat.not_lt_zero, hw, g35, hn, b0, q1, e1, b1, g3, w1, e2, w2, s4, e3, w3, t4, e4, w4, u4, e5]
      · dsimp only
        rw [if_neg g3]
        refine hgDo_f ?_ w1 r2 (hgFd_c r3)
        simp (maxDischargeDepth := 7) only [hgc75, hgM_t, hgM_f, hgM_n, hgx_aload_n_0, hgs_get_6_5, hgx_get0, hgx_bipush_10, hgx_ic_lt, hgx_bipush_m4, hgx_invvirtual_2, hgx_aft_e, hgx_aft_i, hgx_aft_l, hgx_aft_v, hgx_ret3, hgx_invvirtual_1, hgx_istore_n_1i, hgx_istore_n_1r, hgx_istore_n_1f, hgx_istore_n_1n, hgx_istore_n_1l, hgx_iload_n_1, hgx_if_lt, hgx_iconst_3, hgx_bipush_m2, hgx_iconst_1, hgx_bipush_9, hgx_invvirtual_3, hgx_if_ne, hgx_iconst_0, hgx_istore_n_2i, hgx_istore_n_2r, hgx_istore_n_2f, hgx_istore_n_2n, hgx_istore_n_2l, hgx_istore_n_3i, hgx_istore_n_3r, hgx_istore_n_3f, hgx_istore_n_3n, hgx_istore_n_3l, hgx_bipush_99, hgx_iload_n_2, hgx_iload_n_3, hgx_invvirtual_5, hgv75_0, hgr75_0, hgu75_0, hgv75_19, hgr75_19, hgu75_19, hgv75_33, hgr75_33, hgu75_33, hgv75_40, hgr75_40, hgu75_40, hgv75_52, hgr75_52, hgu75_52, hgv75_69, hgr75_69, hgu75_69, hgv75_86, hgr75_86, hgu75_86, hgI_SI, hgI_SJ, hgJ_SI, hgJ_SJ, if_true, if_false, reduceIte, Nat.reduceEqDiff, hgWf_SI, hgWf_SJ, hgO_SI, hgO_SJ, hgAr_SI, hgAr_SJ, hgRp_SI, hgRp_SJ, hgN_SI, hgN_SJ, hgO_g, hgO_d, hgO_rl, hgO_r, hgO_0, hgO_1, hgO_64, hgO_298, hgO_300, hgCd_0, hgCd_1, hgCd_2, hgCd_3, hgCd_4, hgCd_5, hgRecv_O, hgRecv_99, List.length_cons, List.length_nil, Nat.zero_add, Nat.add_zero, Nat.le_refl, Nat.zero_le, and_self, or_true, true_or, true_and, and_true, ne_eq, not_false_eq_true, Nat.reduceLT, Nat.reduceLeDiff, Nat.reduceAdd, Nat.reduceEqDiff, hgn_eq, hgn_lt, hgn_le, if_true, if_false, reduceIte, Nat.not_lt_zero, hw, g35, hn, b0, q1, e1, b1, g3, w1, k62]
end HGRDR

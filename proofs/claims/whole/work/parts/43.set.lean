/-! SETTERS of the picture, and the writes of both sides that do what they do. -/
def vSs (V : hgV) (k : Nat) (x : Int32) : hgV := (V.1, (fun j => if j = k then x else vS V j), V.2.2)
def vSd (V : hgV) (i k : Nat) (x : Int32) : hgV := (V.1, V.2.1, (fun a b => if a = i ∧ b = k then x else vD V a b), V.2.2.2)
def vSt (V : hgV) (i : Nat) (u : Int64) : hgV := (V.1, V.2.1, V.2.2.1, (fun a => if a = i then u else vT V a), V.2.2.2.2)
def vSq (V : hgV) (i : Nat) (Q : List (Int32 × Int32)) (B : List Nat) : hgV := (V.1, V.2.1, V.2.2.1, V.2.2.2.1, (fun a => if a = i then Q else vQ V a), V.2.2.2.2.2.1, V.2.2.2.2.2.2.1, V.2.2.2.2.2.2.2.1, (fun a => if a = i then B else vB V a))
def hgSm (V : hgV) : Prop := vN V ≤ 10 ∧ vR V ≤ 12 ∧ vW V ≤ 8 ∧ ∀ j, j < vN V → (vQ V j).length ≤ 999
theorem hgSm_ok {V : hgV} {c : Nat} (h : hgVok V c) : hgSm V := ⟨h.1, h.2.1, h.2.2.1, fun j hj => by have := (h.2.2.2.1 j hj).2.2.1; omega⟩
section HGSET
variable {X : hgX} {M M' : hgMem} {d t g i j q c k a b n p : Nat} {V V' : hgV} {x y z : Int32} {u : Int64} {Q : List (Int32 × Int32)} {B : List Nat}
theorem vN_ss : vN (vSs V k x) = vN V := id rfl
theorem vR_ss : vR (vSs V k x) = vR V := id rfl
theorem vW_ss : vW (vSs V k x) = vW V := id rfl
theorem vS_ss : vS (vSs V k x) a = if a = k then x else vS V a := id rfl
theorem vD_ss : vD (vSs V k x) a b = vD V a b := id rfl
theorem vT_ss : vT (vSs V k x) a = vT V a := id rfl
theorem vQ_ss : vQ (vSs V k x) a = vQ V a := id rfl
theorem vU_ss : vU (vSs V k x) a b = vU V a b := id rfl
theorem vP_ss : vP (vSs V k x) a = vP V a := id rfl
theorem vH_ss : vH (vSs V k x) a b = vH V a b := id rfl
theorem vB_ss : vB (vSs V k x) a = vB V a := id rfl
theorem vN_sd : vN (vSd V i k x) = vN V := id rfl
theorem vR_sd : vR (vSd V i k x) = vR V := id rfl
theorem vW_sd : vW (vSd V i k x) = vW V := id rfl
theorem vS_sd : vS (vSd V i k x) a = vS V a := id rfl
theorem vD_sd : vD (vSd V i k x) a b = if a = i ∧ b = k then x else vD V a b := id rfl
theorem vT_sd : vT (vSd V i k x) a = vT V a := id rfl
theorem vQ_sd : vQ (vSd V i k x) a = vQ V a := id rfl
theorem vU_sd : vU (vSd V i k x) a b = vU V a b := id rfl
theorem vP_sd : vP (vSd V i k x) a = vP V a := id rfl
theorem vH_sd : vH (vSd V i k x) a b = vH V a b := id rfl
theorem vB_sd : vB (vSd V i k x) a = vB V a := id rfl
theorem vN_st : vN (vSt V i u) = vN V := id rfl
theorem vR_st : vR (vSt V i u) = vR V := id rfl
theorem vW_st : vW (vSt V i u) = vW V := id rfl
theorem vS_st : vS (vSt V i u) a = vS V a := id rfl
theorem vD_st : vD (vSt V i u) a b = vD V a b := id rfl
theorem vT_st : vT (vSt V i u) a = if a = i then u else vT V a := id rfl
theorem vQ_st : vQ (vSt V i u) a = vQ V a := id rfl
theorem vU_st : vU (vSt V i u) a b = vU V a b := id rfl
theorem vP_st : vP (vSt V i u) a = vP V a := id rfl
theorem vH_st : vH (vSt V i u) a b = vH V a b := id rfl
theorem vB_st : vB (vSt V i u) a = vB V a := id rfl
theorem vN_sq : vN (vSq V i Q B) = vN V := id rfl
theorem vR_sq : vR (vSq V i Q B) = vR V := id rfl
theorem vW_sq : vW (vSq V i Q B) = vW V := id rfl
theorem vS_sq : vS (vSq V i Q B) a = vS V a := id rfl
theorem vD_sq : vD (vSq V i Q B) a b = vD V a b := id rfl
theorem vT_sq : vT (vSq V i Q B) a = vT V a := id rfl
theorem vQ_sq : vQ (vSq V i Q B) a = if a = i then Q else vQ V a := id rfl
theorem vU_sq : vU (vSq V i Q B) a b = vU V a b := id rfl
theorem vP_sq : vP (vSq V i Q B) a = vP V a := id rfl
theorem vH_sq : vH (vSq V i Q B) a b = vH V a b := id rfl
theorem vB_sq : vB (vSq V i Q B) a = if a = i then B else vB V a := id rfl
theorem hgIds_to : ∀ {b : List Nat} {f l : Int32}, (∀ p ∈ b.dropLast, hgI M' 4 p = hgI M 4 p) → hgIds M b f l → hgIds M' b f l
  | [], _, _, _, _ => trivial
  | [_], _, _, _, h => h
  | p :: q :: r, f, l, h4, h => by
    refine ⟨h.1, ?_⟩
    rw [h4 p (by simp [List.dropLast])]
    exact hgIds_to (fun s hs => h4 s (by rw [List.dropLast_cons_of_ne_nil (by simp)]; exact List.mem_cons_of_mem _ hs)) h.2
theorem hgQd_to {f l : Int32} (h4 : ∀ p ∈ B.dropLast, hgI M' 4 p = hgI M 4 p) (h2 : ∀ p ∈ B, hgI M' 2 p = hgI M 2 p ∧ hgI M' 3 p = hgI M 3 p) (h : hgQd M Q B f l) : hgQd M' Q B f l := by
  refine ⟨hgIds_to h4 h.1, h.2.trans ?_⟩
  exact List.map_congr_left (fun p hp => by rw [(h2 p hp).1, (h2 p hp).2])
theorem hgDv_to (hI : ∀ k, hgI M' a k = hgI M a k) (hJ : hgJ M' a 7 = hgJ M a 7) (h4 : ∀ p ∈ (vB V i).dropLast, hgI M' 4 p = hgI M 4 p) (h2 : ∀ p ∈ vB V i, hgI M' 2 p = hgI M 2 p ∧ hgI M' 3 p = hgI M 3 p) (h : hgDv M a V i) : hgDv M' a V i := by
  unfold hgDv at h ⊢
  simp only [hI, hJ]
  exact ⟨h.1, h.2.1, h.2.2.1, h.2.2.2.1, hgQd_to h4 h2 h.2.2.2.2.1, h.2.2.2.2.2⟩
theorem hgRf_to (hI : ∀ a k, g + 14 ≤ a → a < g + 26 → hgI M' a k = hgI M a k) (hR : ∀ k, hgR M' (g + 13) k = hgR M (g + 13) k) (hw : hgWf M) (hg : hgGw g) (hj : j < 12) : hgRf M' g j k = hgRf M g j k := by
  unfold hgRf
  have e : hgRp M' g j = hgRp M g j := by unfold hgRp; rw [hR]
  have r := hgRp_f hw hg hj
  rw [e, hI _ _ r.2.1 r.2.2]
/-- a gateway is as it was, where nothing of it was written -/
theorem hgCV_to (hw : hgWf M) (hm : hgSm V) (hI : ∀ a k, g ≤ a → a < g + 29 → hgI M' a k = hgI M a k) (hJ : ∀ a, g ≤ a → a < g + 29 → hgJ M' a 7 = hgJ M a 7) (hR : ∀ k, hgR M' (g + 13) k = hgR M (g + 13) k) (h4 : ∀ i, i < vN V → ∀ p ∈ (vB V i).dropLast, hgI M' 4 p = hgI M 4 p) (h2 : ∀ i, i < vN V → ∀ p ∈ vB V i, hgI M' 2 p = hgI M 2 p ∧ hgI M' 3 p = hgI M 3 p) (h : hgCV M g V) : hgCV M' g V := by
  have e := fun k => hI g k (by omega) (by omega)
  obtain ⟨hN, hn, _, _⟩ := hm
  unfold hgCV at h ⊢
  rw [e, e, e, e, e, e, e, e, e, e, hI (g + 12) 1 (by omega) (by omega)]
  refine ⟨h.1, h.2.1, h.2.2.1, h.2.2.2.1, h.2.2.2.2.1, h.2.2.2.2.2.1, h.2.2.2.2.2.2.1, h.2.2.2.2.2.2.2.1, h.2.2.2.2.2.2.2.2.1, h.2.2.2.2.2.2.2.2.2.1, h.2.2.2.2.2.2.2.2.2.2.1, fun i hi => hgDv_to (fun k => hI _ k (by omega) (by omega)) (hJ _ (by omega) (by omega)) (h4 i hi) (h2 i hi) (h.2.2.2.2.2.2.2.2.2.2.2.1 i hi), fun j hj k hk => ?_, fun k hk => ?_, fun q hq => ?_, h.2.2.2.2.2.2.2.2.2.2.2.2.2.2.2⟩
  · rw [hgRf_to (fun a k h1 h2 => hI a k (by omega) (by omega)) hR hw h.1 (by omega)]
    exact h.2.2.2.2.2.2.2.2.2.2.2.2.1 j hj k hk
  · rw [hI _ _ (by omega) (by omega)]
    exact h.2.2.2.2.2.2.2.2.2.2.2.2.2.1 k hk
  · rw [hI _ _ (by omega) (by omega), hI _ _ (by omega) (by omega)]
    exact h.2.2.2.2.2.2.2.2.2.2.2.2.2.2.1 q hq
/-- one device of a gateway is changed -/
theorem hgCV_dev (hw : hgWf M) (hm : hgSm V) (hi : i < 10) (e1 : V'.1 = V.1) (eS : vS V' = vS V) (eU : vU V' = vU V) (eP : vP V' = vP V) (eH : vH V' = vH V) (hD : ∀ j, j ≠ i → vD V' j = vD V j ∧ vT V' j = vT V j ∧ vQ V' j = vQ V j ∧ vB V' j = vB V j) (hM : ∀ b, b ≠ g + 2 + i → ∀ k, hgI M' b k = hgI M b k ∧ hgJ M' b k = hgJ M b k) (hR : ∀ b k, hgR M' b k = hgR M b k) (h : hgCV M g V) (hd : i < vN V → hgDv M (g + 2 + i) V i → hgDv M' (g + 2 + i) V' i) : hgCV M' g V' := by
  have eN : vN V' = vN V := by unfold vN; rw [e1]
  have eR : vR V' = vR V := by unfold vR; rw [e1]
  have eW : vW V' = vW V := by unfold vW; rw [e1]
  have hg := hgGw_le h.1
  have e := fun k => (hM g (by omega) k).1
  have hdv := h.2.2.2.2.2.2.2.2.2.2.2.1
  obtain ⟨hN, hn, _, _⟩ := hm
  unfold hgCV at h ⊢
  rw [e, e, e, e, e, e, e, e, e, e, (hM (g + 12) (by omega) 1).1, eN, eR, eW, eS, eU, eP, eH]
  refine ⟨h.1, h.2.1, h.2.2.1, h.2.2.2.1, h.2.2.2.2.1, h.2.2.2.2.2.1, h.2.2.2.2.2.2.1, h.2.2.2.2.2.2.2.1, h.2.2.2.2.2.2.2.2.1, h.2.2.2.2.2.2.2.2.2.1, h.2.2.2.2.2.2.2.2.2.2.1, fun j hj => ?_, fun j hj k hk => ?_, fun k hk => ?_, fun q hq => ?_, h.2.2.2.2.2.2.2.2.2.2.2.2.2.2.2⟩
  · by_cases hji : j = i
    · rw [hji]
      exact hd (by omega) (hdv i (by omega))
    · have w := hD j hji
      have v : hgDv M' (g + 2 + j) V j := hgDv_to (fun k => (hM _ (by omega) k).1) (hM _ (by omega) 7).2 (fun p _ => (hM 4 (by omega) p).1) (fun p _ => ⟨(hM 2 (by omega) p).1, (hM 3 (by omega) p).1⟩) (hdv j hj)
      unfold hgDv at v ⊢
      rw [w.1, w.2.1, w.2.2.1, w.2.2.2]
      exact v
  · rw [hgRf_to (fun a k h1 h2 => (hM a (by omega) k).1) (hR _) hw h.1 (by omega)]
    exact h.2.2.2.2.2.2.2.2.2.2.2.2.1 j hj k hk
  · rw [(hM _ (by omega) _).1]
    exact h.2.2.2.2.2.2.2.2.2.2.2.2.2.1 k hk
  · rw [(hM _ (by omega) _).1, (hM _ (by omega) _).1]
    exact h.2.2.2.2.2.2.2.2.2.2.2.2.2.2.1 q hq
theorem hgQd_ne {f l : Int32} (h4 : ∀ p, hgI M' 4 p = hgI M 4 p) (h2 : ∀ p, hgI M' 2 p = hgI M 2 p) (h3 : ∀ p, hgI M' 3 p = hgI M 3 p) (h : hgQd M Q B f l) : hgQd M' Q B f l := hgQd_to (fun p _ => h4 p) (fun p _ => ⟨h2 p, h3 p⟩) h
theorem hgFs_ne (h1 : k ≤ 8) (h2 : j ≤ 8) : hgFs k = hgFs j ↔ k = j := by unfold hgFs; split <;> split <;> omega
theorem hgFs_o (h1 : k ≤ 8) : hgFs k ≠ 10 ∧ hgFs k ≠ 11 ∧ hgFs k ≠ 12 ∧ hgFs k ≠ 13 ∧ hgFs k ≠ 14 := by unfold hgFs; split <;> omega
/-- a device's field -/
theorem hgCV_sd (hw : hgWf M) (hm : hgSm V) (hi : i < 10) (hk : k ≤ 8) (h : hgCV M g V) : hgCV (hgSI M (g + 2 + i) (hgFs k) x) g (vSd V i k x) := by
  have hg := hgGw_le h.1
  refine hgCV_dev (M := M) (V := V) (i := i) hw hm hi rfl rfl rfl rfl rfl (fun j hj => ⟨?_, rfl, rfl, rfl⟩) (fun b hb k => ⟨hgI_na hb, rfl⟩) (fun _ _ => rfl) h (fun _ hd => ?_)
  · funext b
    rw [vD_sd, if_neg (by omega)]
  · have o := hgFs_o hk
    unfold hgDv at hd ⊢
    refine ⟨fun j hj => ?_, hd.2.1, ?_, ?_, ?_, ?_⟩
    · rw [hgI_SI, if_pos rfl, vD_sd]
      by_cases e : j = k
      · rw [if_pos (by rw [e]), if_pos ⟨rfl, e⟩]
      · rw [if_neg (by rw [hgFs_ne hj hk]; exact e), if_neg (by omega)]
        exact hd.1 j hj
    · rw [hgI_nk (by omega)]
      exact hd.2.2.1
    · rw [hgI_nk (by omega)]
      exact hd.2.2.2.1
    · rw [hgI_nk (by omega), hgI_nk (by omega)]
      exact hgQd_ne (fun p => hgI_na (by omega)) (fun p => hgI_na (by omega)) (fun p => hgI_na (by omega)) hd.2.2.2.2.1
    · rw [hgI_nk (by omega)]
      exact hd.2.2.2.2.2
/-- served in this tick -/
theorem hgCV_s14 (hw : hgWf M) (hm : hgSm V) (hi : i < 10) (hx : x = nI 0 ∨ x = nI 1) (h : hgCV M g V) : hgCV (hgSI M (g + 2 + i) 14 x) g V := by
  have hg := hgGw_le h.1
  refine hgCV_dev (M := M) (V := V) (i := i) hw hm hi rfl rfl rfl rfl rfl (fun j hj => ⟨rfl, rfl, rfl, rfl⟩) (fun b hb k => ⟨hgI_na hb, rfl⟩) (fun _ _ => rfl) h (fun _ hd => ?_)
  unfold hgDv at hd ⊢
  refine ⟨fun j hj => ?_, hd.2.1, ?_, ?_, ?_, ?_⟩
  · have o := hgFs_o hj
    rw [hgI_nk (by omega)]
    exact hd.1 j hj
  · rw [hgI_nk (by omega)]
    exact hd.2.2.1
  · rw [hgI_nk (by omega)]
    exact hd.2.2.2.1
  · rw [hgI_nk (by omega), hgI_nk (by omega)]
    exact hgQd_ne (fun p => hgI_na (by omega)) (fun p => hgI_na (by omega)) (fun p => hgI_na (by omega)) hd.2.2.2.2.1
  · rw [hgI_at]
    exact hx
theorem hgCV_st (hw : hgWf M) (hm : hgSm V) (hi : i < 10) (h : hgCV M g V) : hgCV (hgSJ M (g + 2 + i) 7 u) g (vSt V i u) := by
  have hg := hgGw_le h.1
  refine hgCV_dev (M := M) (V := V) (i := i) hw hm hi rfl rfl rfl rfl rfl (fun j hj => ⟨rfl, ?_, rfl, rfl⟩) (fun b hb k => ⟨rfl, hgJ_na hb⟩) (fun _ _ => rfl) h (fun _ hd => ?_)
  · rw [vT_st, if_neg hj]
  · unfold hgDv at hd ⊢
    refine ⟨fun j hj => hd.1 j hj, ?_, hd.2.2.1, hd.2.2.2.1, hgQd_ne (M := M) (fun p => rfl) (fun p => rfl) (fun p => rfl) hd.2.2.2.2.1, hd.2.2.2.2.2⟩
    rw [hgJ_at, vT_st, if_pos rfl]
theorem hgBk_f (x : Int32) : ∀ (q : List (Int32 × Int32)) (y : Int32), q.foldl (fun s z => s + z.1) (x + y) = x + q.foldl (fun s z => s + z.1) y
  | [], y => rfl
  | z :: q, y => by
    show q.foldl (fun s z => s + z.1) (x + y + z.1) = x + q.foldl (fun s z => s + z.1) (y + z.1)
    rw [Int32.add_assoc, hgBk_f x q]
theorem hgBk_c (z : Int32 × Int32) (q : List (Int32 × Int32)) : hgBk (z :: q) = z.1 + hgBk q := by
  unfold hgBk
  show q.foldl (fun s z => s + z.1) (nI 0 + z.1) = _
  rw [Int32.add_comm, hgBk_f]
theorem hgBk_l (z : Int32 × Int32) : ∀ (q : List (Int32 × Int32)), hgBk (q ++ [z]) = hgBk q + z.1 := fun q => by
  unfold hgBk
  rw [List.foldl_append]
  rfl
/-- the first packet leaves the queue -/
theorem hgCV_pop {z0 : Int32 × Int32} (hw : hgWf M) (hm : hgSm V) (hi : i < vN V) (hq : vQ V i = z0 :: Q) (hl : Q.length < 1000) (h : hgCV M g V) : ∃ p B, vB V i = p :: B ∧ hgI M (g + 2 + i) 10 = nI p ∧ hgI M 2 p = z0.1 ∧ hgI M 3 p = z0.2 ∧ hgCV (hgSI (hgSI (hgSI M (g + 2 + i) 10 (hgI M 4 p)) (g + 2 + i) 12 (hgI M (g + 2 + i) 12 - nI 1)) (g + 2 + i) 13 (hgI M (g + 2 + i) 13 - z0.1)) g (vSq V i Q B) := by
  have hg := hgGw_le h.1
  have hd := h.2.2.2.2.2.2.2.2.2.2.2.1 i hi
  have hN := hm.1
  unfold hgDv at hd
  have hc := hd.2.2.2.2.1
  rw [hq] at hc
  cases hb : vB V i with
  | nil => rw [hb] at hc; exact absurd hc.2 (by simp)
  | cons p B =>
    rw [hb] at hc
    have e2 := hc.2
    rw [List.map_cons] at e2
    injection e2 with e3 e4
    have f0 : hgI M (g + 2 + i) 10 = nI p := by
      cases B with
      | nil => exact hc.1.1
      | cons _ _ => exact hc.1.1
    refine ⟨p, B, rfl, f0, by rw [e3], by rw [e3], ?_⟩
    refine hgCV_dev (M := M) (V := V) (i := i) hw hm (by omega) rfl rfl rfl rfl rfl (fun j hj => ⟨rfl, rfl, ?_, ?_⟩) (fun b hb k => ⟨by rw [hgI_na hb, hgI_na hb, hgI_na hb], rfl⟩) (fun _ _ => rfl) h (fun _ _ => ?_)
    · rw [vQ_sq, if_neg hj]
    · rw [vB_sq, if_neg hj]
    · unfold hgDv
      rw [vQ_sq, if_pos rfl, vB_sq, if_pos rfl]
      refine ⟨fun j hj => ?_, hd.2.1, ?_, ?_, ?_, ?_⟩
      · have o := hgFs_o hj
        rw [hgI_nk (by omega), hgI_nk (by omega), hgI_nk (by omega)]
        exact hd.1 j hj
      · rw [hgI_nk (by omega), hgI_at, hd.2.2.1, hq, List.length_cons, hgn_sub (by omega), Nat.add_sub_cancel]
      · rw [hgI_at, hd.2.2.2.1, hq, hgBk_c, Int32.add_comm, Int32.add_sub_cancel]
      · have m1 : ∀ b, b ≠ g + 2 + i → ∀ k, hgI (hgSI (hgSI (hgSI M (g + 2 + i) 10 (hgI M 4 p)) (g + 2 + i) 12 (hgI M (g + 2 + i) 12 - nI 1)) (g + 2 + i) 13 (hgI M (g + 2 + i) 13 - z0.1)) b k = hgI M b k := fun b hb k => by rw [hgI_na hb, hgI_na hb, hgI_na hb]
        refine hgQd_ne (fun p => m1 _ (by omega) p) (fun p => m1 _ (by omega) p) (fun p => m1 _ (by omega) p) ⟨?_, e4⟩
        rw [hgI_nk (by omega), hgI_nk (by omega), hgI_at, hgI_nk (by omega), hgI_nk (by omega), hgI_nk (by omega)]
        cases B with
        | nil => exact trivial
        | cons _ _ => exact hc.1.2
      · rw [hgI_nk (by omega), hgI_nk (by omega), hgI_nk (by omega)]
        exact hd.2.2.2.2.2
/-- the reference's side -/
theorem hgRV_to (hN : M'.1 = M.1) (hI : ∀ k, hgI M' d k = hgI M d k) (hJ : ∀ k, hgJ M' t k = hgJ M t k) (h : hgRV M d t V) : hgRV M' d t V := by
  unfold hgRV at h ⊢
  simp only [hI, hJ]
  exact ⟨hgAr_to h.1 hN, h.2.1, hgAr_to h.2.2.1 hN, h.2.2.2⟩
/-- a change of the device i alone -/
theorem hgRV_dev (hN : M'.1 = M.1) (hm : hgSm V) (hi : i < 10) (e1 : V'.1 = V.1) (eS : vS V' = vS V) (eU : vU V' = vU V) (eP : vP V' = vP V) (eH : vH V' = vH V) (hD : ∀ j, j ≠ i → vD V' j = vD V j ∧ vT V' j = vT V j ∧ vQ V' j = vQ V j) (hI : ∀ k, (k < 27 + 10 * i ∨ 27 + 10 * i + 10 ≤ k) → (k < 187 + 2000 * i ∨ 187 + 2000 * i + 2000 ≤ k) → hgI M' d k = hgI M d k) (hJ : ∀ k, k ≠ i → hgJ M' t k = hgJ M t k) (h : hgRV M d t V) (hd : i < vN V → (∀ k, k ≤ 8 → hgI M' d (27 + 10 * i + k) = vD V' i k) ∧ hgI M' d (27 + 10 * i + 9) = nI (vQ V' i).length ∧ hgJ M' t i = vT V' i ∧ (∀ k z, (vQ V' i)[k]? = some z → hgI M' d (187 + 2 * (1000 * i + k)) = z.1 ∧ hgI M' d (187 + 2 * (1000 * i + k) + 1) = z.2)) : hgRV M' d t V' := by
  have eN : vN V' = vN V := by unfold vN; rw [e1]
  have eR : vR V' = vR V := by unfold vR; rw [e1]
  have eW : vW V' = vW V := by unfold vW; rw [e1]
  have hN0 := hm.1
  have i0 : ∀ k, k < 27 → hgI M' d k = hgI M d k := fun k hk => hI k (by omega) (by omega)
  obtain ⟨h1, h2, h3, h4, h5, h6, h7, h8, h9, h10, h11⟩ := h
  unfold hgRV
  rw [i0 0 (by omega), i0 1 (by omega), i0 2 (by omega), eN, eR, eW, eS, eU, eP, eH]
  refine ⟨hgAr_to h1 hN, h2, hgAr_to h3 hN, h4, h5, h6, fun k k1 k2 => ?_, fun j hj => ?_, fun j hj k hk => ?_, fun k hk => ?_, fun q hq => ?_⟩
  · rw [i0 k (by omega)]
    exact h7 k k1 k2
  · by_cases e : j = i
    · rw [e]
      exact hd (by omega)
    · have w := h8 j hj
      have v := hD j e
      have l := hm.2.2.2 j hj
      rw [v.1, v.2.1, v.2.2]
      refine ⟨fun k hk => ?_, ?_, ?_, fun k z hz => ?_⟩
      · rw [hI _ (by omega) (by omega)]
        exact w.1 k hk
      · rw [hI _ (by omega) (by omega)]
        exact w.2.1
      · rw [hJ _ e]
        exact w.2.2.1
      · have lt : k < (vQ V j).length := by
          rw [List.getElem?_eq_some_iff] at hz
          exact hz.1
        rw [hI _ (by omega) (by omega), hI _ (by omega) (by omega)]
        exact w.2.2.2 k z hz
  · have := hm.2.1
    rw [hI _ (by omega) (by omega)]
    exact h9 j hj k hk
  · have := hm.2.2.1
    rw [i0 _ (by omega)]
    exact h10 k hk
  · rw [i0 _ (by omega), i0 _ (by omega), i0 _ (by omega)]
    exact h11 q hq
theorem hgRV_sd (hm : hgSm V) (hi : i < 10) (hk : k ≤ 8) (h : hgRV M d t V) : hgRV (hgSI M d (27 + 10 * i + k) x) d t (vSd V i k x) := by
  have e := h.2.2.2.2.2.2.2.1 i
  refine hgRV_dev (M := M) (V := V) (i := i) rfl hm hi rfl rfl rfl rfl rfl (fun j hj => ⟨?_, rfl, rfl⟩) (fun k h1 h2 => hgI_nk (by omega)) (fun k hk => rfl) h (fun hi2 => ⟨fun j hj => ?_, ?_, (e hi2).2.2.1, fun j z hz => ?_⟩)
  · funext b
    rw [vD_sd, if_neg (by omega)]
  · rw [vD_sd]
    by_cases w : j = k
    · rw [w, hgI_at, if_pos ⟨rfl, rfl⟩]
    · rw [hgI_nk (by omega), if_neg (by omega)]
      exact (e hi2).1 j hj
  · rw [hgI_nk (by omega)]
    exact (e hi2).2.1
  · rw [hgI_nk (by omega), hgI_nk (by omega)]
    exact (e hi2).2.2.2 j z hz
theorem hgRV_st (hm : hgSm V) (hi : i < 10) (h : hgRV M d t V) : hgRV (hgSJ M t i u) d t (vSt V i u) := by
  have e := h.2.2.2.2.2.2.2.1 i
  refine hgRV_dev (M := M) (V := V) (i := i) rfl hm hi rfl rfl rfl rfl rfl (fun j hj => ⟨rfl, ?_, rfl⟩) (fun k h1 h2 => rfl) (fun k hk => hgJ_nk hk) h (fun hi2 => ⟨(e hi2).1, (e hi2).2.1, ?_, (e hi2).2.2.2⟩)
  · rw [vT_st, if_neg hj]
  · rw [hgJ_at, vT_st, if_pos rfl]
/-- the first packet leaves the queue, the reference's side -/
theorem hgRV_pop {z0 : Int32 × Int32} (hm : hgSm V) (hi : i < vN V) (hq : vQ V i = z0 :: Q) (h : hgRV M d t V) : hgRV (hgShf d (187 + 2 * (1000 * i)) (2 * Q.length) (hgSI M d (27 + 10 * i + 9) (nI Q.length))) d t (vSq V i Q B) := by
  have e := h.2.2.2.2.2.2.2.1 i hi
  have hN := hm.1
  have hl := hm.2.2.2 i hi
  rw [hq, List.length_cons] at hl
  have r := fun k => hgShf_I (d := d) (2 * Q.length) (187 + 2 * (1000 * i)) (hgSI M d (27 + 10 * i + 9) (nI Q.length)) d k
  refine hgRV_dev (M := M) (V := V) (i := i) ((hgShf_N _ _ _).trans rfl) hm (by omega) rfl rfl rfl rfl rfl (fun j hj => ⟨rfl, rfl, ?_⟩) (fun k h1 h2 => ?_) (fun k hk => (hgShf_J _ _ _ _ _).trans rfl) h (fun hi2 => ⟨fun j hj => ?_, ?_, (hgShf_J _ _ _ _ _).trans e.2.2.1, fun j z hz => ?_⟩)
  · rw [vQ_sq, if_neg hj]
  · rw [r, if_neg (by omega), hgI_nk (by omega)]
  · rw [r, if_neg (by omega), hgI_nk (by omega)]
    exact e.1 j hj
  · rw [r, if_neg (by omega), hgI_at, vQ_sq, if_pos rfl]
  · rw [vQ_sq, if_pos rfl] at hz
    have lt : j < Q.length := by
      rw [List.getElem?_eq_some_iff] at hz
      exact hz.1
    have w := e.2.2.2 (j + 1) z (by rw [hq, List.getElem?_cons_succ]; exact hz)
    rw [r, if_pos (by omega), r, if_pos (by omega), hgI_nk (by omega), hgI_nk (by omega)]
    exact w
theorem hgCV_sd2 (h : hgCV M g V) (hw : hgWf M) (hm : hgSm V) (hi : i < 10) (hk : k ≤ 8) : hgCV (hgSI M (g + 2 + i) (hgFs k) x) g (vSd V i k x) := hgCV_sd hw hm hi hk h
theorem hgCV_s142 (h : hgCV M g V) (hw : hgWf M) (hm : hgSm V) (hi : i < 10) (hx : x = nI 0 ∨ x = nI 1) : hgCV (hgSI M (g + 2 + i) 14 x) g V := hgCV_s14 hw hm hi hx h
theorem hgCV_st2 (h : hgCV M g V) (hw : hgWf M) (hm : hgSm V) (hi : i < 10) : hgCV (hgSJ M (g + 2 + i) 7 u) g (vSt V i u) := hgCV_st hw hm hi h
theorem hgRV_sd2 (h : hgRV M d t V) (hm : hgSm V) (hi : i < 10) (hk : k ≤ 8) : hgRV (hgSI M d (27 + 10 * i + k) x) d t (vSd V i k x) := hgRV_sd hm hi hk h
theorem hgRV_st2 (h : hgRV M d t V) (hm : hgSm V) (hi : i < 10) : hgRV (hgSJ M t i u) d t (vSt V i u) := hgRV_st hm hi h
theorem hgSm_pop {z0 : Int32 × Int32} (hm : hgSm V) (hi : i < vN V) (hq : vQ V i = z0 :: Q) : hgSm (vSq V i Q B) := by
  refine ⟨hm.1, hm.2.1, hm.2.2.1, fun j hj => ?_⟩
  have l := hm.2.2.2
  rw [vQ_sq]
  split
  · have := l i hi
    rw [hq, List.length_cons] at this
    omega
  · exact l j hj
end HGSET

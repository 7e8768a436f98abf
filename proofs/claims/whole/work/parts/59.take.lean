/-! A PACKET COMES: the component's take. -/
def vWk (V : hgV) (p : Int32) : Bool := hgAny (fun j => decide (vP V j = p)) 0 (vW V)
def vQ1 (V : hgV) (i : Nat) : hgV := if (vQ V i).length = 0 then vSt V i (vMx V i) else V
def vQ2 (V : hgV) (i : Nat) (s : Int32) (c : Nat) : hgV := vSq (vQ1 V i) i (vQ V i ++ [(s, vS V 3)]) (vB V i ++ [c])
def vQ3 (V : hgV) (i : Nat) (s : Int32) (c : Nat) : hgV := if vD V i 4 = nI 2 then vSd (vSd (vQ2 V i s c) i 4 (nI 1)) i 5 (vD V i 2) else vQ2 V i s c
/-- what the store and the device have taken -/
def hgPs (M M' : hgMem) (a c : Nat) (l : Option Nat) : Prop := M'.1 = M.1 ∧ (∀ b k, hgR M' b k = hgR M b k) ∧ hgI M' 1 3 = nI (c + 1) ∧ (∀ q, q ≠ c → hgI M' 2 q = hgI M 2 q ∧ hgI M' 3 q = hgI M 3 q) ∧ (∀ q, l ≠ some q → hgI M' 4 q = hgI M 4 q) ∧ ∀ b, b ≠ a → (6 ≤ b ∨ b = 0 ∨ b = 5) → ∀ k, hgI M' b k = hgI M b k ∧ hgJ M' b k = hgJ M b k
section HGTAK
variable {X : hgX} {M M' M1 M2 M3 : hgMem} {d t g h i j q c k a b n p N l r : Nat} {V V' V1 W U : hgV} {Hs Hs' : List hgV} {x y z x1 x2 x3 x4 x5 s : Int32} {u : Int64} {P : Nat → Prop} {o : Option Nat} {S : Nat → Bool} {Q : List (Int32 × Int32)} {B : List Nat}
theorem vMx_c (hk : hgVok V c) (hi : i < vN V) : (if hgOl (vLst V) < vT V i then vT V i else hgOl (vLst V)) = vMx V i := by
  have t0 := (hk.2.2.2.1 i hi).2.2.2.2.2.2.2.2.1
  unfold vMx
  cases hL : vLst V with
  | none =>
    show (if (0 : Int64) < vT V i then vT V i else 0) = vT V i
    by_cases q : (0 : Int64) < vT V i
    · rw [if_pos q]
    · rw [if_neg q]
      rw [hglt_n] at q
      apply Int64.toInt_inj.mp
      have : (0 : Int64).toInt = 0 := by decide
      omega
  | some u =>
    show (if u < vT V i then vT V i else u) = (if vT V i < u then u else vT V i)
    by_cases q : u < vT V i
    · have q2 : ¬ vT V i < u := fun w => absurd (Int64.lt_trans w q) Int64.lt_irrefl
      rw [if_pos q, if_neg q2]
    · rw [if_neg q]
      by_cases q2 : vT V i < u
      · rw [if_pos q2]
      · rw [if_neg q2]
        exact Int64.le_antisymm (Int64.not_lt.mp q2) (Int64.not_lt.mp q)
theorem vMx_r (hk : hgVok V c) (hi : i < vN V) : (if vT V i ≤ hgOm (vLst V) then hgOm (vLst V) else vT V i) = vMx V i := by
  have t0 := (hk.2.2.2.1 i hi).2.2.2.2.2.2.2.2.1
  unfold vMx
  cases hL : vLst V with
  | none =>
    show (if vT V i ≤ -lN 1 then -lN 1 else vT V i) = vT V i
    have : ¬ vT V i ≤ -lN 1 := by
      rw [Int64.le_iff_toInt_le]
      have : (-lN 1 : Int64).toInt = -1 := by decide
      omega
    rw [if_neg this]
  | some u =>
    show (if vT V i ≤ u then u else vT V i) = (if vT V i < u then u else vT V i)
    by_cases q : vT V i < u
    · rw [if_pos q, if_pos (Int64.le_of_lt q)]
    · rw [if_neg q]
      by_cases q2 : vT V i ≤ u
      · rw [if_pos q2]
        exact Int64.le_antisymm (Int64.not_lt.mp q) q2
      · rw [if_neg q2]
theorem hgVok_mx (hk : hgVok V c) (hi : i < vN V) (hq : (vQ V i).length = 0) : hgVok (vSt V i (vMx V i)) c := by
  obtain ⟨k1, k2, k3, k4, k5⟩ := hk
  refine ⟨k1, k2, k3, fun j hj => ?_, k5⟩
  have w := k4 j hj
  simp only [vN_ss, vR_ss, vW_ss, vS_ss, vD_ss, vT_ss, vQ_ss, vU_ss, vP_ss, vH_ss, vB_ss, vN_sd, vR_sd, vW_sd, vS_sd, vD_sd, vT_sd, vQ_sd, vU_sd, vP_sd, vH_sd, vB_sd, vN_st, vR_st, vW_st, vS_st, vD_st, vT_st, vQ_st, vU_st, vP_st, vH_st, vB_st, vN_sq, vR_sq, vW_sq, vS_sq, vD_sq, vT_sq, vQ_sq, vU_sq, vP_sq, vH_sq, vB_sq]
  by_cases e : j = i
  · subst e
    rw [if_pos rfl]
    obtain ⟨w1, w2, w3, w4, w5, w6, w7, w8, w9⟩ := w
    refine ⟨w1, w2, w3, w4, w5, w6, w7, w8, ?_⟩
    unfold vMx
    cases hL : vLst V with
    | none => exact w9
    | some u =>
      obtain ⟨j9, j91, j92⟩ := hgLeast_of (n := vN V) (vN V) 0 none (by omega) (fun c h => by cases h) u hL
      have w19 := (k4 j9 j91).2.2.2.2.2.2.2.2
      rw [hq]
      dsimp only
      split
      · rw [j92]
        omega
      · rw [hq] at w9
        exact w9
  · rw [if_neg e]
    exact w
theorem hgVok_up (hk : hgVok V c) (hc : c < 512) : hgVok V (c + 1) := by
  obtain ⟨k1, k2, k3, k4, k5, k6, k7, k8, k9⟩ := hk
  refine ⟨k1, k2, k3, fun j hj => ?_, k5, k6, k7, k8, by omega⟩
  obtain ⟨w1, w2, w3, w4, w5, w6, w7, ⟨m, m1, m2⟩, w9⟩ := k4 j hj
  exact ⟨w1, w2, w3, w4, w5, w6, fun p hp => by have := w7 p hp; omega, ⟨m, m1, by omega⟩, by omega⟩
theorem hgVok_q2 (hk : hgVok V c) (hc : c < 512) (hi : i < vN V) (hs : ∃ w, 1 ≤ w ∧ w ≤ 99 ∧ s = nI w) : hgVok (vSq V i (vQ V i ++ [(s, y)]) (vB V i ++ [c])) (c + 1) := by
  obtain ⟨k1, k2, k3, k4, k5, k6, k7, k8, k9⟩ := hk
  refine ⟨k1, k2, k3, fun j hj => ?_, k5, k6, k7, k8, by omega⟩
  obtain ⟨w1, w2, w3, w4, w5, w6, w7, ⟨m, m1, m2⟩, w9⟩ := k4 j hj
  simp only [vN_ss, vR_ss, vW_ss, vS_ss, vD_ss, vT_ss, vQ_ss, vU_ss, vP_ss, vH_ss, vB_ss, vN_sd, vR_sd, vW_sd, vS_sd, vD_sd, vT_sd, vQ_sd, vU_sd, vP_sd, vH_sd, vB_sd, vN_st, vR_st, vW_st, vS_st, vD_st, vT_st, vQ_st, vU_st, vP_st, vH_st, vB_st, vN_sq, vR_sq, vW_sq, vS_sq, vD_sq, vT_sq, vQ_sq, vU_sq, vP_sq, vH_sq, vB_sq]
  by_cases e : j = i
  · subst e
    rw [if_pos rfl, if_pos rfl, List.length_append, List.length_cons, List.length_nil]
    refine ⟨w1, w2, by omega, fun z hz => ?_, w5, w6, fun p hp => ?_, ⟨m, m1, by omega⟩, by omega⟩
    · rcases List.mem_append.mp hz with q | q
      · exact w4 z q
      · rw [List.mem_singleton.mp q]
        exact hs
    · rcases List.mem_append.mp hp with q | q
      · have := w7 p q; omega
      · rw [List.mem_singleton.mp q]; omega
  · rw [if_neg e, if_neg e]
    exact ⟨w1, w2, w3, w4, w5, w6, fun p hp => by have := w7 p hp; omega, ⟨m, m1, by omega⟩, by omega⟩
theorem hgVok_q3 (hk : hgVok V c) (hc : c < 512) (hi : i < vN V) (hs : ∃ w, 1 ≤ w ∧ w ≤ 99 ∧ s = nI w) : hgVok (vQ3 V i s c) (c + 1) := by
  have h1 : hgVok (vQ1 V i) c := by
    unfold vQ1
    split
    · next e => exact hgVok_mx hk hi e
    · exact hk
  have eq1 : vQ (vQ1 V i) = vQ V ∧ vB (vQ1 V i) = vB V ∧ vD (vQ1 V i) = vD V ∧ vN (vQ1 V i) = vN V := by
    unfold vQ1
    split <;> exact ⟨rfl, rfl, rfl, rfl⟩
  have h2 : hgVok (vQ2 V i s c) (c + 1) := by
    have := hgVok_q2 (y := vS V 3) h1 hc (by rw [eq1.2.2.2]; exact hi) hs
    rw [eq1.1, eq1.2.1] at this
    exact this
  unfold vQ3
  split
  · exact hgVok_d5 (hgVok_d6 h2 (by omega)) (hk.2.2.2.1 i hi).2.2.2.2.1
  · exact h2
/-- a packet at the end of the component's queue, an empty one -/
theorem hgCV_push0 (hw : hgWf M) (hm : hgSm V) (hi : i < vN V) (hids : ∀ j, j < vN V → ∀ p ∈ vB V j, p < c) (h0 : (vQ V i).length = 0) (h : hgCV M g V) (hM : M1 = hgSI (hgSI (hgSI M 2 c s) 3 c y) 1 3 (nI (c + 1))) : hgCV (hgSI (hgSI (hgSI (hgSI M1 (g + 2 + i) 10 (nI c)) (g + 2 + i) 11 (nI c)) (g + 2 + i) 12 (nI 1)) (g + 2 + i) 13 (hgI M1 (g + 2 + i) 13 + hgI M1 2 c)) g (vSq V i (vQ V i ++ [(s, y)]) (vB V i ++ [c])) ∧ hgPs M (hgSI (hgSI (hgSI (hgSI M1 (g + 2 + i) 10 (nI c)) (g + 2 + i) 11 (nI c)) (g + 2 + i) 12 (nI 1)) (g + 2 + i) 13 (hgI M1 (g + 2 + i) 13 + hgI M1 2 c)) (g + 2 + i) c (vB V i).getLast? := by
  have hg := hgGw_le h.1
  have hN := hm.1
  have m1 : ∀ b, 6 ≤ b ∨ b = 0 ∨ b = 5 → ∀ k, hgI M1 b k = hgI M b k := fun b hb k => by rw [hM, hgI_na (by omega), hgI_na (by omega), hgI_na (by omega)]
  have m2 : hgI M1 2 c = s := by rw [hM, hgI_na (by omega), hgI_na (by omega), hgI_at]
  have m3 : hgI M1 3 c = y := by rw [hM, hgI_na (by omega), hgI_at]
  have m4 : ∀ q, hgI M1 4 q = hgI M 4 q := fun q => by rw [hM, hgI_na (by omega), hgI_na (by omega), hgI_na (by omega)]
  have m5 : ∀ q, q ≠ c → hgI M1 2 q = hgI M 2 q ∧ hgI M1 3 q = hgI M 3 q := fun q hq => by
    rw [hM, hgI_na (by omega), hgI_na (by omega), hgI_nk hq, hgI_na (by omega), hgI_nk hq, hgI_na (by omega)]
    exact ⟨rfl, rfl⟩
  have mJ : ∀ b k, hgJ M1 b k = hgJ M b k := fun b k => by rw [hM]; rfl
  have mR : ∀ b k, hgR M1 b k = hgR M b k := fun b k => by rw [hM]; rfl
  have mN : M1.1 = M.1 := by rw [hM]; rfl
  have m6 : hgI M1 1 3 = nI (c + 1) := by rw [hM, hgI_at]
  have o : ∀ b, b ≠ g + 2 + i → ∀ k, hgI (hgSI (hgSI (hgSI (hgSI M1 (g + 2 + i) 10 (nI c)) (g + 2 + i) 11 (nI c)) (g + 2 + i) 12 (nI 1)) (g + 2 + i) 13 (hgI M1 (g + 2 + i) 13 + hgI M1 2 c)) b k = hgI M1 b k := fun b hb k => by rw [hgI_na hb, hgI_na hb, hgI_na hb, hgI_na hb]
  have q0 : vQ V i = [] := List.length_eq_zero_iff.mp h0
  refine ⟨hgCV_dev2 (M := M) (V := V) (i := i) hw hm (by omega) rfl rfl rfl rfl rfl (fun j hj => ⟨rfl, rfl, by rw [vQ_sq, if_neg hj], by rw [vB_sq, if_neg hj]⟩) (fun b hb1 hb2 k => ⟨by rw [o b hb2, m1 b (Or.inl hb1)], mJ b k⟩) (fun j hj hji p hp => by rw [o 4 (by omega), m4]) (fun j hj hji p hp => ?_) mR h (fun _ hd => ?_), mN, mR, by rw [o 1 (by omega)]; exact m6, fun q hq => by rw [o 2 (by omega), o 3 (by omega)]; exact m5 q hq, fun q _ => by rw [o 4 (by omega), m4], fun b hb1 hb2 k => ⟨by rw [o b hb1, m1 b hb2], mJ b k⟩⟩
  · have := hids j hj p hp
    rw [o 2 (by omega), o 3 (by omega)]
    exact m5 p (by omega)
  · unfold hgDv at hd ⊢
    have hb : vB V i = [] := by
      have := hd.2.2.2.2.1.2
      rw [q0] at this
      exact List.map_eq_nil_iff.mp this.symm
    rw [vQ_sq, if_pos rfl, vB_sq, if_pos rfl]
    refine ⟨fun k hk => ?_, (mJ _ _).trans hd.2.1, ?_, ?_, ?_, ?_⟩
    · have of := hgFs_o hk
      rw [hgI_nk (by omega), hgI_nk (by omega), hgI_nk (by omega), hgI_nk (by omega), m1 _ (by omega)]
      exact hd.1 k hk
    · rw [hgI_nk (by omega), hgI_at, q0]
      rfl
    · rw [hgI_at, m1 _ (by omega), hd.2.2.2.1, m2, hgBk_l]
    · rw [hgI_nk (by omega), hgI_nk (by omega), hgI_nk (by omega), hgI_at, hgI_nk (by omega), hgI_nk (by omega), hgI_at, hb, q0]
      refine ⟨⟨rfl, rfl⟩, ?_⟩
      rw [List.nil_append, List.nil_append, List.map_singleton, o 2 (by omega), o 3 (by omega), m2, m3]
    · rw [hgI_nk (by omega), hgI_nk (by omega), hgI_nk (by omega), hgI_nk (by omega), m1 _ (by omega)]
      exact hd.2.2.2.2.2
/-- a packet at the end of the component's queue, one with packets -/
theorem hgCV_push1 {l0 : Nat} (hw : hgWf M) (hm : hgSm V) (hi : i < vN V) (hids : ∀ j, j < vN V → ∀ p ∈ vB V j, p < c) (hl0 : (vB V i).getLast? = some l0) (hls : hgLs V V) (h : hgCV M g V) (hM : M1 = hgSI (hgSI (hgSI M 2 c s) 3 c y) 1 3 (nI (c + 1))) : hgCV (hgSI (hgSI (hgSI (hgSI M1 4 l0 (nI c)) (g + 2 + i) 11 (nI c)) (g + 2 + i) 12 (nI ((vQ V i).length + 1))) (g + 2 + i) 13 (hgI M1 (g + 2 + i) 13 + hgI M1 2 c)) g (vSq V i (vQ V i ++ [(s, y)]) (vB V i ++ [c])) ∧ hgPs M (hgSI (hgSI (hgSI (hgSI M1 4 l0 (nI c)) (g + 2 + i) 11 (nI c)) (g + 2 + i) 12 (nI ((vQ V i).length + 1))) (g + 2 + i) 13 (hgI M1 (g + 2 + i) 13 + hgI M1 2 c)) (g + 2 + i) c (vB V i).getLast? := by
  have hg := hgGw_le h.1
  have hN := hm.1
  have m1 : ∀ b, 6 ≤ b ∨ b = 0 ∨ b = 5 → ∀ k, hgI M1 b k = hgI M b k := fun b hb k => by rw [hM, hgI_na (by omega), hgI_na (by omega), hgI_na (by omega)]
  have m2 : hgI M1 2 c = s := by rw [hM, hgI_na (by omega), hgI_na (by omega), hgI_at]
  have m3 : hgI M1 3 c = y := by rw [hM, hgI_na (by omega), hgI_at]
  have m4 : ∀ q, hgI M1 4 q = hgI M 4 q := fun q => by rw [hM, hgI_na (by omega), hgI_na (by omega), hgI_na (by omega)]
  have m5 : ∀ q, q ≠ c → hgI M1 2 q = hgI M 2 q ∧ hgI M1 3 q = hgI M 3 q := fun q hq => by
    rw [hM, hgI_na (by omega), hgI_na (by omega), hgI_nk hq, hgI_na (by omega), hgI_nk hq, hgI_na (by omega)]
    exact ⟨rfl, rfl⟩
  have mJ : ∀ b k, hgJ M1 b k = hgJ M b k := fun b k => by rw [hM]; rfl
  have mR : ∀ b k, hgR M1 b k = hgR M b k := fun b k => by rw [hM]; rfl
  have mN : M1.1 = M.1 := by rw [hM]; rfl
  have m6 : hgI M1 1 3 = nI (c + 1) := by rw [hM, hgI_at]
  obtain ⟨M3, hM3⟩ : ∃ M3, M3 = hgSI (hgSI (hgSI (hgSI M1 4 l0 (nI c)) (g + 2 + i) 11 (nI c)) (g + 2 + i) 12 (nI ((vQ V i).length + 1))) (g + 2 + i) 13 (hgI M1 (g + 2 + i) 13 + hgI M1 2 c) := ⟨_, rfl⟩
  have o : ∀ b, b ≠ g + 2 + i → b ≠ 4 → ∀ k, hgI M3 b k = hgI M1 b k := fun b hb h4 k => by rw [hM3, hgI_na hb, hgI_na hb, hgI_na hb, hgI_na h4]
  have o4 : ∀ q, q ≠ l0 → hgI M3 4 q = hgI M 4 q := fun q hq => by rw [hM3, hgI_na (by omega), hgI_na (by omega), hgI_na (by omega), hgI_nk hq, m4]
  have o4l : hgI M3 4 l0 = nI c := by rw [hM3, hgI_na (by omega), hgI_na (by omega), hgI_na (by omega), hgI_at]
  have oJ : ∀ b k, hgJ M3 b k = hgJ M b k := fun b k => by rw [hM3]; exact mJ b k
  have oR : ∀ b k, hgR M3 b k = hgR M b k := fun b k => by rw [hM3]; exact mR b k
  have oN : M3.1 = M.1 := by rw [hM3]; exact mN
  rw [← hM3]
  refine ⟨hgCV_dev2 (M := M) (V := V) (i := i) hw hm (by omega) rfl rfl rfl rfl rfl (fun j hj => ⟨rfl, rfl, by rw [vQ_sq, if_neg hj], by rw [vB_sq, if_neg hj]⟩) (fun b hb1 hb2 k => ⟨by rw [o b hb2 (by omega), m1 b (Or.inl hb1)], oJ b k⟩) (fun j hj hji p hp => o4 p (fun e => hls j hj i hi l0 hl0 (by rw [← e]; exact hp))) (fun j hj hji p hp => ?_) oR h (fun _ hd => ?_), oN, oR, by rw [o 1 (by omega) (by omega)]; exact m6, fun q hq => by rw [o 2 (by omega) (by omega), o 3 (by omega) (by omega)]; exact m5 q hq, fun q hq => o4 q (fun e => hq (by rw [hl0, e])), fun b hb1 hb2 k => ⟨by rw [o b hb1 (by omega), m1 b hb2], oJ b k⟩⟩
  · have := hids j hj p hp
    rw [o 2 (by omega) (by omega), o 3 (by omega) (by omega)]
    exact m5 p (by omega)
  · unfold hgDv at hd ⊢
    rw [vQ_sq, if_pos rfl, vB_sq, if_pos rfl]
    refine ⟨fun k hk => ?_, (oJ _ _).trans hd.2.1, ?_, ?_, ?_, ?_⟩
    · have of := hgFs_o hk
      rw [hM3, hgI_nk (by omega), hgI_nk (by omega), hgI_nk (by omega), hgI_na (by omega), m1 _ (by omega)]
      exact hd.1 k hk
    · rw [hM3, hgI_nk (by omega), hgI_at, List.length_append]
      rfl
    · rw [hM3, hgI_at, m1 _ (by omega), hd.2.2.2.1, m2, hgBk_l]
    · have e10 : hgI M3 (g + 2 + i) 10 = hgI M (g + 2 + i) 10 := by rw [hM3, hgI_nk (by omega), hgI_nk (by omega), hgI_nk (by omega), hgI_na (by omega), m1 _ (by omega)]
      have e11 : hgI M3 (g + 2 + i) 11 = nI c := by rw [hM3, hgI_nk (by omega), hgI_nk (by omega), hgI_at]
      rw [e10, e11]
      refine ⟨hgIds_push hd.2.2.2.2.1.1 hl0 (fun p hp => o4 p (fun e => hls i hi i hi l0 hl0 (by rw [← e]; exact hp))) o4l, ?_⟩
      rw [List.map_append, hd.2.2.2.2.1.2]
      have e2 : ∀ p ∈ vB V i, (hgI M3 2 p, hgI M3 3 p) = (hgI M 2 p, hgI M 3 p) := fun p hp => by
        have := hids i hi p hp
        rw [o 2 (by omega) (by omega), o 3 (by omega) (by omega), (m5 p (by omega)).1, (m5 p (by omega)).2]
      rw [List.map_congr_left e2]
      show _ = _ ++ [(hgI M3 2 c, hgI M3 3 c)]
      rw [o 2 (by omega) (by omega), o 3 (by omega) (by omega), m2, m3]
    · rw [hM3, hgI_nk (by omega), hgI_nk (by omega), hgI_nk (by omega), hgI_na (by omega), m1 _ (by omega)]
      exact hd.2.2.2.2.2
end HGTAK

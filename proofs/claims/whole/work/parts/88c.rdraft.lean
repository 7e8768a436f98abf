/-! THE DRAFT, the reference's. -/
def hgRD (M : hgMem) (V : hgV) : Prop := hgI M 303 0 = nI (vN V) ∧ hgI M 303 1 = nI (vR V) ∧ hgI M 303 2 = nI (vW V) ∧ (∀ k, 3 ≤ k → k ≤ 9 → hgI M 303 k = vS V k) ∧ (∀ i, i < vN V → ∀ k, k ≤ 8 → hgI M 303 (27 + 10 * i + k) = vD V i k) ∧ (∀ i, i < vN V → hgI M 303 (27 + 10 * i + 9) = nI 0) ∧ (∀ k, 27 + 10 * vN V ≤ k → k < 127 → hgI M 303 k = nI 0) ∧ (∀ j, j < vR V → ∀ k, k ≤ 4 → hgI M 303 (127 + 5 * j + k) = vU V j k) ∧ (∀ k, k < vW V → hgI M 303 (10 + k) = vP V k) ∧ (∀ q, q < 3 → (hgI M 303 (18 + 3 * q) = nI 0 ∧ vH V q 0 = nI 0 ∧ vH V q 1 = nI 0) ∨ (hgI M 303 (18 + 3 * q) = nI 1 ∧ nI 0 < vS V 5 ∧ hgI M 303 (18 + 3 * q + 1) = vH V q 0 ∧ hgI M 303 (18 + 3 * q + 2) = vH V q 1))
def hgOkr (M : hgMem) (t : hgTxt) (z : hgPt) : Prop := hgRr M t z.1 ∧ hgRD M z.2.1 ∧ hgMk (hgI M 300 17) z.2.2 ∧ hgI M 300 6 = -1
def hgOur (M : hgMem) (t : hgTxt) : hgQt → Prop
  | .inl z => hgOkr M t z
  | .inr e => hgEm M e
/-- a method of the reference's reader does what the text says -/
def hgDr (X : hgX) (m : Nat) (A : List Value) (M : hgMem) (t : hgTxt) (r : hgQt) : Prop := ∃ M', hgWC X m A M = some (.inl .null, M') ∧ hgOur M' t r ∧ hgFh M M'
section HGRDF
variable {X : hgX} {M M' M0 M1 M2 M3 Mo : hgMem} {t : hgTxt} {i j k a b n p q N l s lo hi g w d c m : Nat} {x y x1 x2 x3 x4 x5 : Int32} {D V : hgV} {f f' : Nat → Bool} {A : List Value} {z : hgPt} {e : Int32 × Nat} {r : hgQt}
theorem hgRD_to (h : hgRD M V) (o : ∀ k, hgI M' 303 k = hgI M 303 k) : hgRD M' V := by
  unfold hgRD at h ⊢
  simp only [o]
  exact h
theorem hgDr_e (k : hgWC X m A M = some (.inl .null, M1)) (h : hgEm M1 e) (f : hgFh M M1) : hgDr X m A M t (.inr e) := ⟨M1, k, h, f⟩
theorem hgDr_l (k : hgWC X m A M = some (.inl .null, M1)) (h : hgOkr M1 t z) (f : hgFh M M1) : hgDr X m A M t (.inl z) := ⟨M1, k, h, f⟩
theorem hgOkr_g (h : hgOkr M t (p, D, f)) (hf : hgFg M M1) (hr : hgRr M1 t q) : hgOkr M1 t (q, D, f) := ⟨hr, hgRD_to h.2.1 (fun k => (hf.1.2.2 303 (by omega) k).1), by rw [hf.2 17 (by omega) (by omega)]; exact h.2.2.1, by rw [hf.2 6 (by omega) (by omega)]; exact h.2.2.2⟩
theorem hgRD_s6 (hm : hgSm V) (h : hgRD M V) : hgRD (hgSI M 303 6 x) (vSs V 6 x) := by
  obtain ⟨m1, m2, m3, m4⟩ := hm
  obtain ⟨a1, a2, a3, a4, a5, a6, a7, a8, a9, a10⟩ := h
  refine ⟨by rw [hgI_nk (by omega)]; exact a1, by rw [hgI_nk (by omega)]; exact a2, by rw [hgI_nk (by omega)]; exact a3, fun k k1 k2 => ?_, fun i hi k hk => by rw [hgI_nk (by omega)]; exact a5 i hi k hk, fun i hi => by rw [hgI_nk (by omega)]; exact a6 i hi, fun k k1 k2 => by rw [hgI_nk (by omega)]; exact a7 k k1 k2, fun j hj k hk => by rw [hgI_nk (by omega)]; exact a8 j hj k hk, fun k hk => ?_, fun q hq => ?_⟩
  · rw [vS_ss]
    by_cases e : k = 6
    · rw [e, hgI_at, if_pos rfl]
    · rw [hgI_nk e, if_neg e]
      exact a4 k k1 k2
  · rw [hgI_nk (by omega)]
    exact a9 k hk
  · rw [hgI_nk (by omega), hgI_nk (by omega), hgI_nk (by omega), vS_ss, if_neg (by omega)]
    exact a10 q hq
theorem hgRD_ad (hm : hgSm V) (hn : vN V < 10) (h : hgRD M V) : hgRD (hgSI (hgSI (hgSI (hgSI (hgSI (hgSI M 303 (27 + 10 * vN V) (nI g)) 303 (27 + 10 * vN V + 1) (nI w)) 303 (27 + 10 * vN V + 2) (nI d)) 303 (27 + 10 * vN V + 3) (nI p)) 303 (27 + 10 * vN V + 8) (-1)) 303 0 (nI (vN V + 1))) (vAd V g w d p) := by
  obtain ⟨m1, m2, m3, m4⟩ := hm
  obtain ⟨a1, a2, a3, a4, a5, a6, a7, a8, a9, a10⟩ := h
  have o : ∀ k, k ≠ 0 → (k < 27 + 10 * vN V ∨ 27 + 10 * vN V + 10 ≤ k) → hgI (hgSI (hgSI (hgSI (hgSI (hgSI (hgSI M 303 (27 + 10 * vN V) (nI g)) 303 (27 + 10 * vN V + 1) (nI w)) 303 (27 + 10 * vN V + 2) (nI d)) 303 (27 + 10 * vN V + 3) (nI p)) 303 (27 + 10 * vN V + 8) (-1)) 303 0 (nI (vN V + 1))) 303 k = hgI M 303 k := fun k h1 h2 => by
    rw [hgI_nk h1, hgI_nk (by omega), hgI_nk (by omega), hgI_nk (by omega), hgI_nk (by omega), hgI_nk (by omega)]
  have o2 : ∀ k, k = 4 ∨ k = 5 ∨ k = 6 ∨ k = 7 ∨ k = 9 → hgI (hgSI (hgSI (hgSI (hgSI (hgSI (hgSI M 303 (27 + 10 * vN V) (nI g)) 303 (27 + 10 * vN V + 1) (nI w)) 303 (27 + 10 * vN V + 2) (nI d)) 303 (27 + 10 * vN V + 3) (nI p)) 303 (27 + 10 * vN V + 8) (-1)) 303 0 (nI (vN V + 1))) 303 (27 + 10 * vN V + k) = nI 0 := fun k h1 => by
    rw [hgI_nk (by omega), hgI_nk (by omega), hgI_nk (by omega), hgI_nk (by omega), hgI_nk (by omega), hgI_nk (by omega)]
    exact a7 _ (by omega) (by omega)
  refine ⟨by rw [hgI_at]; rfl, by rw [o _ (by omega) (by omega)]; exact a2, by rw [o _ (by omega) (by omega)]; exact a3, fun k k1 k2 => by rw [o _ (by omega) (by omega)]; exact a4 k k1 k2, fun i hi k hk => ?_, fun i hi => ?_, fun k k1 k2 => ?_, fun j hj k hk => by rw [o _ (by omega) (by omega)]; exact a8 j hj k hk, fun k hk => ?_, fun q hq => ?_⟩
  · have hi2 : i < vN V + 1 := hi
    show _ = if i = vN V then (if k = 0 then nI g else if k = 1 then nI w else if k = 2 then nI d else if k = 3 then nI p else if k = 8 then -1 else nI 0) else vD V i k
    by_cases e : i = vN V
    · rw [if_pos e, e]
      have : k = 0 ∨ k = 1 ∨ k = 2 ∨ k = 3 ∨ k = 4 ∨ k = 5 ∨ k = 6 ∨ k = 7 ∨ k = 8 := by omega
      rcases this with e | e | e | e | e | e | e | e | e <;> subst e
      · rw [hgI_nk (by omega), hgI_nk (by omega), hgI_nk (by omega), hgI_nk (by omega), hgI_nk (by omega)]; exact hgI_at
      · rw [hgI_nk (by omega), hgI_nk (by omega), hgI_nk (by omega), hgI_nk (by omega)]; exact hgI_at
      · rw [hgI_nk (by omega), hgI_nk (by omega), hgI_nk (by omega)]; exact hgI_at
      · rw [hgI_nk (by omega), hgI_nk (by omega)]; exact hgI_at
      · exact o2 4 (by omega)
      · exact o2 5 (by omega)
      · exact o2 6 (by omega)
      · exact o2 7 (by omega)
      · rw [hgI_nk (by omega)]; exact hgI_at
    · rw [if_neg e, o _ (by omega) (by omega)]
      exact a5 i (by omega) k hk
  · have hi2 : i < vN V + 1 := hi
    by_cases e : i = vN V
    · rw [e]
      exact o2 9 (by omega)
    · rw [o _ (by omega) (by omega)]
      exact a6 i (by omega)
  · have k3 : 27 + 10 * (vN V + 1) ≤ k := k1
    rw [o _ (by omega) (by omega)]
    exact a7 k (by omega) k2
  · have hk2 : k < vW V := hk
    rw [o _ (by omega) (by omega)]
    exact a9 k hk2
  · rw [o _ (by omega) (by omega), o _ (by omega) (by omega), o _ (by omega) (by omega)]
    exact a10 q hq
theorem hgRD_ar (hm : hgSm V) (hn : vR V < 12) (h : hgRD M V) : hgRD (hgSI (hgSI (hgSI (hgSI (hgSI (hgSI M 303 (127 + 5 * vR V) x1) 303 (127 + 5 * vR V + 1) x2) 303 (127 + 5 * vR V + 2) x3) 303 (127 + 5 * vR V + 3) x4) 303 (127 + 5 * vR V + 4) x5) 303 1 (nI (vR V + 1))) (vAr V x1 x2 x3 x4 x5) := by
  obtain ⟨m1, m2, m3, m4⟩ := hm
  obtain ⟨a1, a2, a3, a4, a5, a6, a7, a8, a9, a10⟩ := h
  have o : ∀ k, k ≠ 1 → (k < 127 + 5 * vR V ∨ 127 + 5 * vR V + 5 ≤ k) → hgI (hgSI (hgSI (hgSI (hgSI (hgSI (hgSI M 303 (127 + 5 * vR V) x1) 303 (127 + 5 * vR V + 1) x2) 303 (127 + 5 * vR V + 2) x3) 303 (127 + 5 * vR V + 3) x4) 303 (127 + 5 * vR V + 4) x5) 303 1 (nI (vR V + 1))) 303 k = hgI M 303 k := fun k h1 h2 => by
    rw [hgI_nk h1, hgI_nk (by omega), hgI_nk (by omega), hgI_nk (by omega), hgI_nk (by omega), hgI_nk (by omega)]
  refine ⟨by rw [o _ (by omega) (by omega)]; exact a1, by rw [hgI_at]; rfl, by rw [o _ (by omega) (by omega)]; exact a3, fun k k1 k2 => by rw [o _ (by omega) (by omega)]; exact a4 k k1 k2, fun i hi k hk => ?_, fun i hi => ?_, fun k k1 k2 => ?_, fun j hj k hk => ?_, fun k hk => ?_, fun q hq => ?_⟩
  · have hi2 : i < vN V := hi
    rw [o _ (by omega) (by omega)]
    exact a5 i hi2 k hk
  · have hi2 : i < vN V := hi
    rw [o _ (by omega) (by omega)]
    exact a6 i hi2
  · have k3 : 27 + 10 * vN V ≤ k := k1
    rw [o _ (by omega) (by omega)]
    exact a7 k k3 k2
  · have hj2 : j < vR V + 1 := hj
    show _ = if j = vR V then (if k = 0 then x1 else if k = 1 then x2 else if k = 2 then x3 else if k = 3 then x4 else x5) else vU V j k
    by_cases e : j = vR V
    · rw [if_pos e, e]
      have : k = 0 ∨ k = 1 ∨ k = 2 ∨ k = 3 ∨ k = 4 := by omega
      rcases this with e | e | e | e | e <;> subst e
      · rw [hgI_nk (by omega), hgI_nk (by omega), hgI_nk (by omega), hgI_nk (by omega), hgI_nk (by omega)]; exact hgI_at
      · rw [hgI_nk (by omega), hgI_nk (by omega), hgI_nk (by omega), hgI_nk (by omega)]; exact hgI_at
      · rw [hgI_nk (by omega), hgI_nk (by omega), hgI_nk (by omega)]; exact hgI_at
      · rw [hgI_nk (by omega), hgI_nk (by omega)]; exact hgI_at
      · rw [hgI_nk (by omega)]; exact hgI_at
    · rw [if_neg e, o _ (by omega) (by omega)]
      exact a8 j (by omega) k hk
  · have hk2 : k < vW V := hk
    rw [o _ (by omega) (by omega)]
    exact a9 k hk2
  · rw [o _ (by omega) (by omega), o _ (by omega) (by omega), o _ (by omega) (by omega)]
    exact a10 q hq
theorem hgRD_aw (hm : hgSm V) (hn : vW V < 8) (h : hgRD M V) : hgRD (hgSI (hgSI M 303 (10 + vW V) (nI p)) 303 2 (nI (vW V + 1))) (vAw V p) := by
  obtain ⟨m1, m2, m3, m4⟩ := hm
  obtain ⟨a1, a2, a3, a4, a5, a6, a7, a8, a9, a10⟩ := h
  have o : ∀ k, k ≠ 2 → k ≠ 10 + vW V → hgI (hgSI (hgSI M 303 (10 + vW V) (nI p)) 303 2 (nI (vW V + 1))) 303 k = hgI M 303 k := fun k h1 h2 => by
    rw [hgI_nk h1, hgI_nk h2]
  refine ⟨by rw [o _ (by omega) (by omega)]; exact a1, by rw [o _ (by omega) (by omega)]; exact a2, by rw [hgI_at]; rfl, fun k k1 k2 => by rw [o _ (by omega) (by omega)]; exact a4 k k1 k2, fun i hi k hk => by rw [o _ (by omega) (by omega)]; exact a5 i hi k hk, fun i hi => by rw [o _ (by omega) (by omega)]; exact a6 i hi, fun k k1 k2 => ?_, fun j hj k hk => by rw [o _ (by omega) (by omega)]; exact a8 j hj k hk, fun k hk => ?_, fun q hq => ?_⟩
  · have k3 : 27 + 10 * vN V ≤ k := k1
    rw [o _ (by omega) (by omega)]
    exact a7 k k3 k2
  · have hk2 : k < vW V + 1 := hk
    show _ = if k = vW V then nI p else vP V k
    by_cases e : k = vW V
    · rw [if_pos e, e, hgI_nk (by omega), hgI_at]
    · rw [if_neg e, o _ (by omega) (by omega)]
      exact a9 k (by omega)
  · rw [o _ (by omega) (by omega), o _ (by omega) (by omega), o _ (by omega) (by omega)]
    exact a10 q hq
theorem hgRD_ah (hm : hgSm V) (hg : g < 3) (h5 : nI 0 < vS V 5) (h : hgRD M V) : hgRD (hgSI (hgSI (hgSI M 303 (18 + 3 * g) (nI 1)) 303 (18 + 3 * g + 1) (nI a)) 303 (18 + 3 * g + 2) (nI b)) (vAh V g a b) := by
  obtain ⟨m1, m2, m3, m4⟩ := hm
  obtain ⟨a1, a2, a3, a4, a5, a6, a7, a8, a9, a10⟩ := h
  have o : ∀ k, (k < 18 + 3 * g ∨ 18 + 3 * g + 3 ≤ k) → hgI (hgSI (hgSI (hgSI M 303 (18 + 3 * g) (nI 1)) 303 (18 + 3 * g + 1) (nI a)) 303 (18 + 3 * g + 2) (nI b)) 303 k = hgI M 303 k := fun k h1 => by
    rw [hgI_nk (by omega), hgI_nk (by omega), hgI_nk (by omega)]
  refine ⟨by rw [o _ (by omega)]; exact a1, by rw [o _ (by omega)]; exact a2, by rw [o _ (by omega)]; exact a3, fun k k1 k2 => by rw [o _ (by omega)]; exact a4 k k1 k2, fun i hi k hk => by rw [o _ (by omega)]; exact a5 i hi k hk, fun i hi => by rw [o _ (by omega)]; exact a6 i hi, fun k k1 k2 => ?_, fun j hj k hk => by rw [o _ (by omega)]; exact a8 j hj k hk, fun k hk => ?_, fun q hq => ?_⟩
  · have k3 : 27 + 10 * vN V ≤ k := k1
    rw [o _ (by omega)]
    exact a7 k k3 k2
  · have hk2 : k < vW V := hk
    rw [o _ (by omega)]
    exact a9 k hk2
  · have eH : ∀ k, vH (vAh V g a b) q k = if q = g then (if k = 0 then nI a else nI b) else vH V q k := fun k => rfl
    have eS : vS (vAh V g a b) 5 = vS V 5 := rfl
    rw [eH, eH, eS]
    by_cases e : q = g
    · rw [if_pos e, if_pos e, e]
      refine Or.inr ⟨?_, h5, ?_, ?_⟩
      · rw [hgI_nk (by omega), hgI_nk (by omega)]; exact hgI_at
      · rw [hgI_nk (by omega)]; exact hgI_at
      · exact hgI_at
    · rw [if_neg e, if_neg e, o _ (by omega), o _ (by omega), o _ (by omega)]
      exact a10 q hq
theorem hgRD_hd (h : ∀ k, k < 187 → hgI M 303 k = if k = 6 then nI 200 else nI 0) : hgRD (hgSI (hgSI M 303 4 (nI a)) 303 5 (nI b)) (vHd a b) := by
  have o : ∀ k, k ≠ 4 → k ≠ 5 → hgI (hgSI (hgSI M 303 4 (nI a)) 303 5 (nI b)) 303 k = hgI M 303 k := fun k h1 h2 => by rw [hgI_nk h2, hgI_nk h1]
  refine ⟨?_, ?_, ?_, fun k k1 k2 => ?_, fun i hi => absurd hi (Nat.not_lt_zero i), fun i hi => absurd hi (Nat.not_lt_zero i), fun k k1 k2 => ?_, fun i hi => absurd hi (Nat.not_lt_zero i), fun i hi => absurd hi (Nat.not_lt_zero i), fun q hq => Or.inl ⟨?_, rfl, rfl⟩⟩
  · rw [o _ (by omega) (by omega), h _ (by omega), if_neg (by omega)]; rfl
  · rw [o _ (by omega) (by omega), h _ (by omega), if_neg (by omega)]; rfl
  · rw [o _ (by omega) (by omega), h _ (by omega), if_neg (by omega)]; rfl
  · have : k = 3 ∨ k = 4 ∨ k = 5 ∨ k = 6 ∨ k = 7 ∨ k = 8 ∨ k = 9 := by omega
    rcases this with e | e | e | e | e | e | e <;> subst e
    · rw [o _ (by omega) (by omega), h _ (by omega)]; rfl
    · rw [hgI_nk (by omega), hgI_at]; rfl
    · rw [hgI_at]; rfl
    · rw [o _ (by omega) (by omega), h _ (by omega)]; rfl
    · rw [o _ (by omega) (by omega), h _ (by omega)]; rfl
    · rw [o _ (by omega) (by omega), h _ (by omega)]; rfl
    · rw [o _ (by omega) (by omega), h _ (by omega)]; rfl
  · have k3 : 27 + 10 * 0 ≤ k := k1
    rw [o _ (by omega) (by omega), h _ (by omega), if_neg (by omega)]
  · rw [o _ (by omega) (by omega), h _ (by omega), if_neg (by omega)]
/-- the draft is taken over -/
theorem hgRD_RV (hk : hgDk V) (h : hgRD M V) (hA : hgAr M' 302 20 20187) (hT : hgAr M' 314 21 10) (o : ∀ k, k < 187 → hgI M' 302 k = hgI M 303 k) (oJ : ∀ i, i < 10 → hgJ M' 314 i = lN 0) : hgRV M' 302 314 V := by
  obtain ⟨m1, m2, m3, m4⟩ := hgDk_sm hk
  have k9 := hk.2.2.2.2.2.2.2.2
  obtain ⟨a1, a2, a3, a4, a5, a6, a7, a8, a9, a10⟩ := h
  refine ⟨hA, by omega, hT, by rw [o _ (by omega)]; exact a1, by rw [o _ (by omega)]; exact a2, by rw [o _ (by omega)]; exact a3, fun k k1 k2 => by rw [o _ (by omega)]; exact a4 k k1 k2, fun i hi => ⟨fun k hk => by rw [o _ (by omega)]; exact a5 i hi k hk, by rw [o _ (by omega), (k9 i).1]; exact a6 i hi, by rw [oJ _ (by omega), (k9 i).2.2], fun k z hz => ?_⟩, fun j hj k hk => by rw [o _ (by omega)]; exact a8 j hj k hk, fun k hk => by rw [o _ (by omega)]; exact a9 k hk, fun q hq => ?_⟩
  · rw [(k9 i).1, List.getElem?_nil] at hz
    cases hz
  · rw [o _ (by omega), o _ (by omega), o _ (by omega)]
    exact a10 q hq
theorem hgRD_150 (hw : hgWf M) (hm : hgSm V) (h : hgRD M V) : hgWC X 150 [.ref 303, .int x] M = some (.inl (.int (hgB (vWk V x))), M) := by
  have k := hgk_150 (X := X) (M := M) (d := 303) (x := x) (hgArf hw (by omega) rfl) (by omega) h.2.2.1 hm.2.2.1
  rw [k]
  unfold vWk
  rw [hgAny_cg (f' := fun j => decide (vP V j = x)) (vW V) 0 (fun j _ hj => by
    rw [h.2.2.2.2.2.2.2.2.1 j (by omega)])]
end HGRDF

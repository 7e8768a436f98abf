/-! WHAT A TEXT SAYS: the picture that it asks for, or its first error (code, place). -/
def sB {α β γ : Type} (x : α ⊕ β) (f : α → γ ⊕ β) : γ ⊕ β := match x with
  | .inl a => f a
  | .inr e => .inr e
/-- the place, the picture so far, the statements seen: 0 wake, 1 limit, 2.. quiet -/
abbrev hgPt : Type := Nat × hgV × (Nat → Bool)
abbrev hgQt : Type := hgPt ⊕ (Int32 × Nat)
def vAd (V : hgV) (g w d p : Nat) : hgV := ((vN V + 1, vR V, vW V), V.2.1, (fun i k => if i = vN V then (if k = 0 then nI g else if k = 1 then nI w else if k = 2 then nI d else if k = 3 then nI p else if k = 8 then -1 else nI 0) else vD V i k), V.2.2.2)
def vAw (V : hgV) (p : Nat) : hgV := ((vN V, vR V, vW V + 1), V.2.1, V.2.2.1, V.2.2.2.1, V.2.2.2.2.1, V.2.2.2.2.2.1, (fun k => if k = vW V then nI p else vP V k), V.2.2.2.2.2.2.2)
def vAh (V : hgV) (q a b : Nat) : hgV := (V.1, V.2.1, V.2.2.1, V.2.2.2.1, V.2.2.2.2.1, V.2.2.2.2.2.1, V.2.2.2.2.2.2.1, (fun j k => if j = q then (if k = 0 then nI a else nI b) else vH V j k), V.2.2.2.2.2.2.2.2)
def vD0 : hgV := ((0, 0, 0), (fun k => if k = 6 then nI 200 else if k = 4 then nI 1 else if k = 5 then nI 1 else nI 0), (fun _ _ => nI 0), (fun _ => lN 0), (fun _ => []), (fun _ _ => nI 0), (fun _ => nI 0), (fun _ _ => nI 0), (fun _ => []))
/-- what the picture of a text keeps -/
def hgDk (V : hgV) : Prop := vN V ≤ 10 ∧ vR V ≤ 12 ∧ vW V ≤ 8 ∧ (∀ i, i < vN V → (∃ q, q < 3 ∧ vD V i 0 = nI q) ∧ (∃ w, 1 ≤ w ∧ w ≤ 9 ∧ vD V i 1 = nI w) ∧ (∃ w, w ≤ 9 ∧ vD V i 2 = nI w) ∧ vD V i 5 = nI 0 ∧ vD V i 7 = nI 0) ∧ (∀ j, j < vR V → (vU V j 0 = nI 0 ∨ vU V j 0 = nI 1) ∧ ∃ lo hi, lo ≤ hi ∧ hi ≤ 999 ∧ vU V j 3 = nI lo ∧ vU V j 4 = nI hi) ∧ (∃ d, 1 ≤ d ∧ d ≤ 100 ∧ vS V 5 = nI d) ∧ (∃ r, 1 ≤ r ∧ r ≤ 999 ∧ vS V 4 = nI r) ∧ vS V 3 = nI 0 ∧ ∀ i, vQ V i = [] ∧ vB V i = [] ∧ vT V i = lN 0
def fS (f : Nat → Bool) (k : Nat) : Nat → Bool := fun j => if j = k then true else f j
def sDev (t : hgTxt) (p s : Nat) (D : hgV) (f : Nat → Bool) : hgQt := if vN D = 10 then .inr (-4, s) else match sSel t p with
  | none => .inr (-2, tSk t p)
  | some g => if g < 3 then sB (sNum t (tWe t (tSk t p)) 1 9) (fun w => sB (sNum t w.2 0 9) (fun d => sB (sNum t d.2 0 99) (fun z => .inl (z.2, vAd D g w.1 d.1 z.1, f)))) else .inr (-2, tSk t p)
def sRul (t : hgTxt) (p s : Nat) (b : Bool) (D : hgV) (f : Nat → Bool) : hgQt := if vR D = 12 then .inr (-4, s) else match sSel t p with
  | none => .inr (-2, tSk t p)
  | some g => match sSel t (tWe t (tSk t p)) with
    | none => .inr (-2, tSk t (tWe t (tSk t p)))
    | some h => sB (sNum t (tWe t (tSk t (tWe t (tSk t p)))) 0 999) (fun l => sB (sNum t l.2 l.1 999) (fun z => .inl (z.2, vAr D (hgB b) (nI g) (nI h) (nI l.1) (nI z.1), f)))
/-- one wake port -/
def sWk1 (t : hgTxt) (p : Nat) (D : hgV) (f : Nat → Bool) : hgQt := sB (sNum t p 0 999) (fun v => if vWk D (nI v.1) = true then .inr (-3, tSk t p) else if vW D = 8 then .inr (-4, tSk t p) else .inl (v.2, vAw D v.1, f))
def sWkL (t : hgTxt) : Nat → hgPt → hgQt
  | 0, s => .inl s
  | k + 1, s => if tDg t (tSk t s.1) = true then sB (sWk1 t s.1 s.2.1 s.2.2) (sWkL t k) else .inl (tSk t s.1, s.2.1, s.2.2)
def sWak (t : hgTxt) (p s : Nat) (D : hgV) (f : Nat → Bool) : hgQt := if f 0 = true then .inr (-2, s) else sB (sWk1 t p D (fS f 0)) (fun z => sWkL t (9 - vW z.2.1) z)
def vDy (D : hgV) : Nat := (vS D 5).toNatClampNeg
def sQut (t : hgTxt) (p : Nat) (D : hgV) (f : Nat → Bool) : hgQt := match sSel t p with
  | none => .inr (-2, tSk t p)
  | some g => if g < 3 ∧ f (2 + g) = false then sB (sNum t (tWe t (tSk t p)) 0 (vDy D - 1)) (fun a => sB (sNum t a.2 0 (vDy D - 1)) (fun b => .inl (b.2, vAh D g a.1 b.1, fS f (2 + g)))) else .inr (-2, tSk t p)
def sLim (t : hgTxt) (p s : Nat) (D : hgV) (f : Nat → Bool) : hgQt := if f 1 = true then .inr (-2, s) else sB (sNum t p 1 999) (fun v => .inl (v.2, vSs D 6 (nI v.1), fS f 1))
/-- a statement, without its semicolon -/
def sSta (t : hgTxt) (p : Nat) (D : hgV) (f : Nat → Bool) : hgQt :=
  if tWd t p [100, 101, 118, 105, 99, 101] = true then sDev t (tWe t (tSk t p)) (tSk t p) D f
  else if tWd t p [97, 108, 108, 111, 119] = true then sRul t (tWe t (tSk t p)) (tSk t p) true D f
  else if tWd t p [100, 101, 110, 121] = true then sRul t (tWe t (tSk t p)) (tSk t p) false D f
  else if tWd t p [119, 97, 107, 101] = true then sWak t (tWe t (tSk t p)) (tSk t p) D f
  else if tWd t p [113, 117, 105, 101, 116] = true then sQut t (tWe t (tSk t p)) D f
  else if tWd t p [108, 105, 109, 105, 116] = true then sLim t (tWe t (tSk t p)) (tSk t p) D f
  else .inr (-2, tSk t p)
def sSem (t : hgTxt) (z : hgPt) : hgQt := if tSc t z.1 = true then .inl (tSk t z.1 + 1, z.2.1, z.2.2) else .inr (-2, tSk t z.1)
def sLop (t : hgTxt) : Nat → hgPt → hgQt
  | 0, z => .inl z
  | k + 1, z => if tSk t z.1 < t.2 then sB (sB (sSta t z.1 z.2.1 z.2.2) (sSem t)) (sLop t k) else .inl z
def vHd (r d : Nat) : hgV := vSs (vSs vD0 4 (nI r)) 5 (nI d)
def sHed (t : hgTxt) : hgQt := if tWd t 0 [103, 97, 116, 101, 119, 97, 121] = true then sB (sNum t (tWe t (tSk t 0)) 1 999) (fun r => sB (sNum t r.2 1 100) (fun d => .inl (d.2, vHd r.1 d.1, fun _ => false))) else .inr (-2, tSk t 0)
def sTxt (t : hgTxt) : hgQt := sB (sB (sHed t) (sSem t)) (sLop t 900)
/-- the places go on, the picture keeps its bounds, the codes are the document's -/
def hgCo (x : Int32) : Prop := x = -2 ∨ x = -3 ∨ x = -4
def hgNx (t : hgTxt) (p : Nat) (r : hgQt) : Prop := match r with
  | .inl z => p ≤ z.1 ∧ z.1 ≤ t.2 ∧ hgDk z.2.1
  | .inr e => hgCo e.1
section HGSPC
variable {X : hgX} {M M' M1 M2 M3 Mo : hgMem} {t : hgTxt} {i j k a b n p q e N l s lo hi g w d c : Nat} {x y z : Int32} {D V : hgV} {f : Nat → Bool}
theorem hgDk_sm (h : hgDk V) : hgSm V := ⟨h.1, h.2.1, h.2.2.1, fun j _ => by rw [(h.2.2.2.2.2.2.2.2 j).1]; exact Nat.zero_le _⟩
theorem hgDk_ok (h : hgDk V) (hc : c ≤ 512) : hgVok V c := by
  obtain ⟨k1, k2, k3, k4, k5, ⟨d, d1, d2, d3⟩, ⟨r, r1, r2, r3⟩, k8, k9⟩ := h
  refine ⟨k1, k2, k3, fun i hi => ?_, fun j hj => (k5 j hj).1, fun h5 => ?_, ⟨r, r2, r3⟩, fun j hj => (k5 j hj).2, hc⟩
  · obtain ⟨b1, b2, b3, b4, b5⟩ := k4 i hi
    obtain ⟨q1, q2, q3⟩ := k9 i
    refine ⟨b1, b2, by rw [q1]; exact Nat.zero_le _, (fun z hz => by rw [q1] at hz; cases hz), b3, ⟨0, by omega, b4⟩, (fun p hp => by rw [q2] at hp; cases hp), ⟨0, b5, by rw [q1, List.length_nil]; omega⟩, ?_⟩
    have e0 : (lN 0).toInt = 0 := by decide
    rw [q1, q3, e0, List.length_nil]
    omega
  · rw [d3, hgn_eq (by omega) (by omega)] at h5
    omega
theorem hgDk_0 : hgDk vD0 := ⟨by decide, by decide, by decide, (fun i hi => absurd hi (Nat.not_lt_zero i)), (fun i hi => absurd hi (Nat.not_lt_zero i)), ⟨1, by omega, by omega, rfl⟩, ⟨1, by omega, by omega, rfl⟩, rfl, fun _ => ⟨rfl, rfl, rfl⟩⟩
theorem hgDk_s6 (h : hgDk V) : hgDk (vSs V 6 x) := h
theorem hgDk_hd (r1 : 1 ≤ a) (r2 : a ≤ 999) (d1 : 1 ≤ b) (d2 : b ≤ 100) : hgDk (vHd a b) := ⟨Nat.zero_le _, Nat.zero_le _, Nat.zero_le _, (fun i hi => absurd hi (Nat.not_lt_zero i)), (fun i hi => absurd hi (Nat.not_lt_zero i)), ⟨b, d1, d2, rfl⟩, ⟨a, r1, r2, rfl⟩, rfl, fun _ => ⟨rfl, rfl, rfl⟩⟩
theorem hgDk_ad (h : hgDk V) (hn : vN V < 10) (hg : g < 3) (h1 : 1 ≤ w) (h2 : w ≤ 9) (h3 : d ≤ 9) : hgDk (vAd V g w d p) := by
  obtain ⟨k1, k2, k3, k4, k5, k6, k7, k8, k9⟩ := h
  refine ⟨hn, k2, k3, fun i hi => ?_, k5, k6, k7, k8, k9⟩
  have hi2 : i < vN V + 1 := hi
  have e : ∀ k, vD (vAd V g w d p) i k = if i = vN V then (if k = 0 then nI g else if k = 1 then nI w else if k = 2 then nI d else if k = 3 then nI p else if k = 8 then -1 else nI 0) else vD V i k := fun k => rfl
  by_cases q : i = vN V
  · simp only [e, if_pos q, if_true, reduceIte, Nat.reduceEqDiff, if_false]
    exact ⟨⟨g, hg, rfl⟩, ⟨w, h1, h2, rfl⟩, ⟨d, h3, rfl⟩, trivial, trivial⟩
  · simp only [e, if_neg q]
    exact k4 i (by omega)
theorem hgDk_ar (h : hgDk V) {v : Bool} {x2 x3 : Int32} (hn : vR V < 12) (h1 : lo ≤ hi) (h2 : hi ≤ 999) : hgDk (vAr V (hgB v) x2 x3 (nI lo) (nI hi)) := by
  obtain ⟨k1, k2, k3, k4, k5, k6, k7, k8, k9⟩ := h
  refine ⟨k1, hn, k3, k4, fun j hj => ?_, k6, k7, k8, k9⟩
  have hj2 : j < vR V + 1 := hj
  have e : ∀ k, vU (vAr V (hgB v) x2 x3 (nI lo) (nI hi)) j k = if j = vR V then (if k = 0 then hgB v else if k = 1 then x2 else if k = 2 then x3 else if k = 3 then nI lo else nI hi) else vU V j k := fun k => rfl
  by_cases q : j = vR V
  · simp only [e, if_pos q, if_true, reduceIte, Nat.reduceEqDiff, if_false]
    exact ⟨hgB_o v, lo, hi, h1, h2, rfl, rfl⟩
  · simp only [e, if_neg q]
    exact k5 j (by omega)
theorem hgDk_aw (h : hgDk V) (hn : vW V < 8) : hgDk (vAw V p) := ⟨h.1, h.2.1, hn, h.2.2.2⟩
theorem hgDk_ah (h : hgDk V) : hgDk (vAh V q a b) := h
theorem hgDk_dy (h : hgDk D) : 1 ≤ vDy D ∧ vDy D ≤ 100 ∧ vS D 5 = nI (vDy D) := by
  obtain ⟨d, d1, d2, d3⟩ := h.2.2.2.2.2.1
  unfold vDy
  rw [d3, hgn_cl (by omega)]
  exact ⟨d1, d2, rfl⟩
theorem sSel_lt (h : sSel t p = some g) : g ≤ 4 := by
  unfold sSel at h
  split at h
  · cases h; omega
  · split at h
    · cases h; omega
    · split at h
      · cases h; omega
      · split at h
        · cases h; omega
        · split at h
          · cases h; omega
          · cases h
theorem tWs_f (h : p ≤ t.2) : p ≤ tWe t (tSk t p) ∧ tWe t (tSk t p) ≤ t.2 := by
  have a := tSk_f h
  have b := tWe_f a.2.1
  omega
theorem sNum_i {v : Nat × Nat} (h : p ≤ t.2) (e : sNum t p lo hi = .inl v) : p ≤ v.2 ∧ v.2 ≤ t.2 ∧ lo ≤ v.1 ∧ v.1 ≤ hi := by
  unfold sNum at e
  split at e
  · split at e
    · next _ r =>
      injection e with e
      have a := tSk_f h
      have b := pDv_f (t := t) (t.2 - tSk t p) (tSk t p) 0 (by omega)
      have e2 : pDv t (t.2 - tSk t p) (tSk t p) 0 = v := e
      rw [e2] at b
      rw [e] at r
      omega
    · cases e
  · cases e
theorem sNum_e {v : Int32 × Nat} (e : sNum t p lo hi = .inr v) : v.2 = tSk t p ∧ (v.1 = -2 ∨ v.1 = -3) := by
  unfold sNum at e
  split at e
  · split at e
    · cases e
    · injection e with e
      rw [← e]
      exact ⟨rfl, Or.inr rfl⟩
  · injection e with e
    rw [← e]
    exact ⟨rfl, Or.inl rfl⟩
theorem hgNx_n {F : Nat × Nat → hgQt} (hq : q ≤ t.2) (h : ∀ v : Nat × Nat, q ≤ v.2 → v.2 ≤ t.2 → lo ≤ v.1 → v.1 ≤ hi → hgNx t p (F v)) : hgNx t p (sB (sNum t q lo hi) F) := by
  cases e : sNum t q lo hi with
  | inl v =>
    obtain ⟨a, b, c, d⟩ := sNum_i hq e
    exact h v a b c d
  | inr v =>
    rcases (sNum_e e).2 with r | r
    · exact Or.inl r
    · exact Or.inr (Or.inl r)
theorem hgNx_b {F : hgPt → hgQt} {r : hgQt} (h1 : hgNx t p r) (h : ∀ z : hgPt, p ≤ z.1 → z.1 ≤ t.2 → hgDk z.2.1 → hgNx t p (F z)) : hgNx t p (sB r F) := by
  cases r with
  | inl z => exact h z h1.1 h1.2.1 h1.2.2
  | inr v => exact h1
theorem hgNx_m {r : hgQt} (hp : p ≤ q) (h : hgNx t q r) : hgNx t p r := by
  cases r with
  | inl z =>
    have h2 : q ≤ z.1 ∧ z.1 ≤ t.2 ∧ hgDk z.2.1 := h
    exact ⟨by omega, h2.2⟩
  | inr v => exact h
theorem hgNx_2 : hgNx t p (.inr (-2, n)) := Or.inl rfl
theorem hgNx_3 : hgNx t p (.inr (-3, n)) := Or.inr (Or.inl rfl)
theorem hgNx_4 : hgNx t p (.inr (-4, n)) := Or.inr (Or.inr rfl)
theorem sDev_n (hp : p ≤ t.2) (h : hgDk D) : hgNx t p (sDev t p s D f) := by
  have w := tWs_f hp
  have n1 := h.1
  unfold sDev
  split
  · exact hgNx_4
  · split
    · exact hgNx_2
    · split
      · next n0 _ g _ hg =>
        refine hgNx_n w.2 (fun a a1 a2 a3 a4 => ?_)
        refine hgNx_n a2 (fun b b1 b2 b3 b4 => ?_)
        refine hgNx_n b2 (fun c c1 c2 c3 c4 => ?_)
        exact ⟨by show p ≤ c.2; omega, c2, hgDk_ad h (by omega) hg a3 a4 b4⟩
      · exact hgNx_2
theorem sRul_n {v : Bool} (hp : p ≤ t.2) (h : hgDk D) : hgNx t p (sRul t p s v D f) := by
  have w := tWs_f hp
  have w2 := tWs_f w.2
  have n1 := h.2.1
  unfold sRul
  split
  · exact hgNx_4
  · split
    · exact hgNx_2
    · split
      · exact hgNx_2
      · refine hgNx_n w2.2 (fun a a1 a2 a3 a4 => ?_)
        refine hgNx_n a2 (fun b b1 b2 b3 b4 => ?_)
        exact ⟨by show p ≤ b.2; omega, b2, hgDk_ar h (by omega) b3 b4⟩
theorem sWk1_n (hp : p ≤ t.2) (h : hgDk D) : hgNx t p (sWk1 t p D f) := by
  have n1 := h.2.2.1
  unfold sWk1
  refine hgNx_n hp (fun a a1 a2 a3 a4 => ?_)
  split
  · exact hgNx_3
  · split
    · exact hgNx_4
    · exact ⟨a1, a2, hgDk_aw h (by omega)⟩
theorem sWkL_n : ∀ (k : Nat) (z : hgPt), z.1 ≤ t.2 → hgDk z.2.1 → hgNx t z.1 (sWkL t k z)
  | 0, z, h1, h2 => ⟨Nat.le_refl _, h1, h2⟩
  | k + 1, z, h1, h2 => by
    have sk := tSk_f h1
    unfold sWkL
    split
    · exact hgNx_b (sWk1_n h1 h2) (fun y y1 y2 y3 => hgNx_m y1 (sWkL_n k y y2 y3))
    · exact ⟨sk.1, sk.2.1, h2⟩
theorem sWak_n (hp : p ≤ t.2) (h : hgDk D) : hgNx t p (sWak t p s D f) := by
  unfold sWak
  split
  · exact hgNx_2
  · exact hgNx_b (sWk1_n hp h) (fun y y1 y2 y3 => hgNx_m y1 (sWkL_n _ y y2 y3))
theorem sQut_n (hp : p ≤ t.2) (h : hgDk D) : hgNx t p (sQut t p D f) := by
  have w := tWs_f hp
  unfold sQut
  split
  · exact hgNx_2
  · split
    · refine hgNx_n w.2 (fun a a1 a2 a3 a4 => ?_)
      refine hgNx_n a2 (fun b b1 b2 b3 b4 => ?_)
      exact ⟨by show p ≤ b.2; omega, b2, hgDk_ah h⟩
    · exact hgNx_2
theorem sLim_n (hp : p ≤ t.2) (h : hgDk D) : hgNx t p (sLim t p s D f) := by
  unfold sLim
  split
  · exact hgNx_2
  · refine hgNx_n hp (fun a a1 a2 a3 a4 => ?_)
    exact ⟨a1, a2, hgDk_s6 h⟩
theorem sSta_n (hp : p ≤ t.2) (h : hgDk D) : hgNx t p (sSta t p D f) := by
  have w := tWs_f hp
  unfold sSta
  split
  · exact hgNx_m w.1 (sDev_n w.2 h)
  · split
    · exact hgNx_m w.1 (sRul_n w.2 h)
    · split
      · exact hgNx_m w.1 (sRul_n w.2 h)
      · split
        · exact hgNx_m w.1 (sWak_n w.2 h)
        · split
          · exact hgNx_m w.1 (sQut_n w.2 h)
          · split
            · exact hgNx_m w.1 (sLim_n w.2 h)
            · exact hgNx_2
/-- the semicolon is behind the statement -/
theorem sSem_n {z : hgPt} (hp : z.1 ≤ t.2) (h : hgDk z.2.1) : hgNx t (z.1 + 1) (sSem t z) := by
  have sk := tSk_f hp
  unfold sSem
  split
  · next r =>
    unfold tSc at r
    rw [Bool.and_eq_true, decide_eq_true_iff] at r
    exact ⟨by show z.1 + 1 ≤ tSk t z.1 + 1; omega, r.1, h⟩
  · exact hgNx_2
theorem sStm_n (hp : p ≤ t.2) (h : hgDk D) : hgNx t (p + 1) (sB (sSta t p D f) (sSem t)) := by
  have a := sSta_n (f := f) hp h
  cases e : sSta t p D f with
  | inl z =>
    rw [e] at a
    have a2 : p ≤ z.1 ∧ z.1 ≤ t.2 ∧ hgDk z.2.1 := a
    exact hgNx_m (by omega) (sSem_n a2.2.1 a2.2.2)
  | inr v => rw [e] at a; exact a
theorem sHed_n (t : hgTxt) : hgNx t 0 (sHed t) := by
  have w := tWs_f (t := t) (Nat.zero_le _)
  unfold sHed
  split
  · refine hgNx_n w.2 (fun a a1 a2 a3 a4 => ?_)
    refine hgNx_n a2 (fun b b1 b2 b3 b4 => ?_)
    exact ⟨Nat.zero_le _, b2, hgDk_hd a3 a4 b3 b4⟩
  · exact hgNx_2
theorem sLop_n : ∀ (k : Nat) (z : hgPt), z.1 ≤ t.2 → hgDk z.2.1 → hgNx t 0 (sLop t k z)
  | 0, z, h1, h2 => ⟨Nat.zero_le _, h1, h2⟩
  | k + 1, z, h1, h2 => by
    unfold sLop
    split
    · exact hgNx_b (hgNx_m (Nat.zero_le _) (sStm_n h1 h2)) (fun y y1 y2 y3 => sLop_n k y y2 y3)
    · exact ⟨Nat.zero_le _, h1, h2⟩
theorem sTxt_n (t : hgTxt) : hgNx t 0 (sTxt t) := by
  unfold sTxt
  refine hgNx_b (hgNx_b (sHed_n t) (fun y y1 y2 y3 => hgNx_m (Nat.zero_le _) (sSem_n y2 y3))) (fun y y1 y2 y3 => sLop_n _ y y2 y3)
end HGSPC

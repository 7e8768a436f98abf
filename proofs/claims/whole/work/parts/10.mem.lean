/-! THE ROWS that read and write cells. -/
def hgNf (ci : Nat) : Nat := [15, 16, 3, 4, 5, 2, 11, 7, 18].getD ci 0
set_option maxRecDepth 100000 in
theorem hgSh_n : ∀ a, a < 326 → (hgSh a).1 < 9 → (hgSh a).2 = hgNf (hgSh a).1 := by decide +kernel
theorem hgSh_big {a : Nat} (h : 326 ≤ a) : hgSh a = (99, 0) := by
  unfold hgSh
  repeat rw [if_neg (by omega)]
theorem hgSh_lt {a : Nat} (h : (hgSh a).1 ≠ 99) : a < 326 := by
  rcases Nat.lt_or_ge a 326 with g | g
  · exact g
  · rw [hgSh_big g] at h
    exact absurd rfl h
theorem hgSh_nf {a ci : Nat} (h : (hgSh a).1 = ci) (hc : ci < 9) : (hgSh a).2 = hgNf ci := by
  have := hgSh_n a (hgSh_lt (by omega)) (by omega)
  rw [h] at this
  exact this
def hgTyOk (kd : Nat) (ty : FieldType) : Bool := match kd, ty with
  | 0, .int => true
  | 1, .long => true
  | 2, .object _ => true
  | 2, .array _ => true
  | 3, .boolean => true
  | _, _ => false
/-- what holds of a class: its words stay, its fields' types, its size -/
def hgClsOk (ci : Nat) (C : String) (T : u_T) (N : Nat) : Prop := (∀ w ∈ u_ws C T N, w ∈ hgTb) ∧ (∃ ty : Nat → FieldType, (∀ k, k < N → parseFieldDescriptor (T k).2.2.1 = some (ty k)) ∧ ∀ k, k < N → hgTyOk (hgFk ci k) (ty k) = true) ∧ (∀ a, a < N → ∀ b, b < N → a ≠ b → (T a).2.1 ≠ (T b).2.1) ∧ hgNf ci = N ∧ ci < 9 ∧ Cond.instantiable C N ∈ hgTb ∧ Cond.initialized C ∈ hgTb
theorem hgIt_mem {w : Cond} (h : hgIt w = true) : w ∈ hgTb := by
  simp only [hgIt, Bool.and_eq_true, decide_eq_true_eq] at h
  exact List.mem_filter.mpr h
theorem hgAll_mem {ws : List Cond} (h : ws.all hgIt = true) : ∀ w ∈ ws, w ∈ hgTb := fun w hw => hgIt_mem (List.all_eq_true.mp h w hw)
set_option maxRecDepth 100000 in
theorem hgCls : ∀ {ci : Nat} {C : String} {T : u_T} {N : Nat}, vwCl[ci]? = some (C, T, N) → hgClsOk ci C T N := by
  intro ci C T N h
  match ci, h with
  | 0, h => cases h; exact ⟨hgAll_mem (by decide +kernel), ⟨tyX0, tyX0_ok, by decide +kernel⟩, nmX0, rfl, by decide, hgIt_mem (by decide +kernel), hgIt_mem (by decide +kernel)⟩
  | 1, h => cases h; exact ⟨hgAll_mem (by decide +kernel), ⟨tyX1, tyX1_ok, by decide +kernel⟩, nmX1, rfl, by decide, hgIt_mem (by decide +kernel), hgIt_mem (by decide +kernel)⟩
  | 2, h => cases h; exact ⟨hgAll_mem (by decide +kernel), ⟨tyX2, tyX2_ok, by decide +kernel⟩, nmX2, rfl, by decide, hgIt_mem (by decide +kernel), hgIt_mem (by decide +kernel)⟩
  | 3, h => cases h; exact ⟨hgAll_mem (by decide +kernel), ⟨tyX3, tyX3_ok, by decide +kernel⟩, nmX3, rfl, by decide, hgIt_mem (by decide +kernel), hgIt_mem (by decide +kernel)⟩
  | 4, h => cases h; exact ⟨hgAll_mem (by decide +kernel), ⟨tyX4, tyX4_ok, by decide +kernel⟩, nmX4, rfl, by decide, hgIt_mem (by decide +kernel), hgIt_mem (by decide +kernel)⟩
  | 5, h => cases h; exact ⟨hgAll_mem (by decide +kernel), ⟨tyX5, tyX5_ok, by decide +kernel⟩, nmX5, rfl, by decide, hgIt_mem (by decide +kernel), hgIt_mem (by decide +kernel)⟩
  | 6, h => cases h; exact ⟨hgAll_mem (by decide +kernel), ⟨tyX6, tyX6_ok, by decide +kernel⟩, nmX6, rfl, by decide, hgIt_mem (by decide +kernel), hgIt_mem (by decide +kernel)⟩
  | 7, h => cases h; exact ⟨hgAll_mem (by decide +kernel), ⟨tyX7, tyX7_ok, by decide +kernel⟩, nmX7, rfl, by decide, hgIt_mem (by decide +kernel), hgIt_mem (by decide +kernel)⟩
  | 8, h => cases h; exact ⟨hgAll_mem (by decide +kernel), ⟨tyX8, tyX8_ok, by decide +kernel⟩, nmX8, rfl, by decide, hgIt_mem (by decide +kernel), hgIt_mem (by decide +kernel)⟩
  | n + 9, h => simp at h
theorem hgFld_spec {q idx ci f kd w : Nat} (h : hgFld q idx ci f kd w = true) : ∃ C T N, vwCl[ci]? = some (C, T, N) ∧ f < N ∧ hgFk ci f = kd ∧ (T f).1 = C ∧ hgWt w = some (.fieldLink (hgOwn q) idx C (T f).2.1 (T f).2.2.1) := by
  unfold hgFld at h
  split at h
  · next C T N hc =>
    simp only [Bool.and_eq_true, decide_eq_true_eq] at h
    exact ⟨C, T, N, hc, h.1.1.1, h.1.1.2, h.1.2, h.2⟩
  · cases h
section HGMEM
variable {p : Program} {l : Launch} {e : Env} {R : Room} {s : State} {m : MethodId} {args : Array Value} {below : List Frame} {meth : Method} {c : Code} {Q : State → Prop} {q B0 nL N0 : Nat} {D : va_G} {cy : Nat → ClassId} {X : hgX} {ad0 : Nat → Nat}
theorem hgNow.mem {ad : Nat → Nat} {L : hgL} {S S1 : List Value} {M M1 : hgMem} {H H1 : Heap} {locs locs1 : List Loc} {ls : Array Slot} (h : hgNow B0 D cy s nL N0 ad0 ad L S M H locs ls) (hN : M1.1 = M.1) (hP : va_P D vwCl (hgWs cy ad M1) H1) (hD : va_D (hgA B0) (hgWs cy ad M1)) (hS : va_S (hgA B0) s.heap H1 locs1) (hR : hgRok M1) (hk : hgSk M.1 S1) : hgNow B0 D cy s nL N0 ad0 ad L S1 M1 H1 locs1 ls :=
  ⟨hP, hD, hS, h.2.2.2.1, fun i v hv => by rw [hN]; exact h.2.2.2.2.1 i v hv, by rw [hN]; exact hk, hR, by rw [hN]; exact h.2.2.2.2.2.2.2.1, h.2.2.2.2.2.2.2.2⟩
theorem hgFs_at (ad : Nat → Nat) (M : hgMem) (a ci n : Nat) {f : Nat} (h : f < n) : ((List.range n).map (fun k => hgFv ad M a ci k))[f]? = some (hgFv ad M a ci f) := by simp [h]
variable {call : Nat → List Value → hgMem → Option hgOut} {jump : Nat → hgL → List Value → hgK → hgMem → Option hgOut} {len : Nat} {ps : List Nat} {hs : List (Nat × Nat × Nat)} {pc : Nat} {out : hgOut} {L : hgL} {S : List Value} {K : hgK} {M : hgMem} {k : hgL → List Value → hgK → hgMem → Option hgOut}
set_option maxHeartbeats 4000000 in
theorem hg_getfield (hC : hgCx p l R s m args meth c q B0 D cy X ad0) {idx : Nat} (hd : decode (hgCode q) pc = .ok (.getfield idx, len)) (hk : hgChk q pc (.getfield idx) len ps hs = true) (h : hgStep X (hgRm q) call jump (.getfield idx) ps hs L S K M k = some out)
    (kk : ∀ L S K M, k L S K M = some out → hgGo p l e R s m args below meth c Q B0 D cy (hgMl q) N0 ad0 (pc + len) L S K M) : hgGo p l e R s m args below meth c Q B0 D cy (hgMl q) N0 ad0 pc L S K M := by
  obtain ⟨hx, hb, -, hown, hts, -, hK, -⟩ := hC
  match ps, hk, h with
  | [ci, f, kd, w], hk, h =>
    have hk : (decide (len = 3) && hgFld q idx ci f kd w) = true := hk
    simp only [Bool.and_eq_true, decide_eq_true_eq] at hk
    obtain ⟨hl, hk⟩ := hk
    subst hl
    obtain ⟨C, T, N, hc, hf, hkd, hT, hw⟩ := hgFld_spec hk
    obtain ⟨g1, -, -, g4, g5, -⟩ := hgCls hc
    have h : (hgr1 S fun a r => hgget M a ci f kd fun v => k L (v :: r) K M) = some out := h
    obtain ⟨a, r, rfl, h9⟩ := hgr1_some h
    unfold hgget at h9
    split at h9
    · next ha =>
      intro ad H locs ls hn kc ks
      have hn2 : (hgSh a).2 = N := by rw [hgSh_nf ha.2 g5, g4]
      have he : (hgWs cy ad M)[a]? = some (ad a, .inr (ci, (List.range (hgSh a).2).map (fun k => hgFv ad M a ci k))) := by rw [hgWs_at cy ad M ha.1, hgEn_obj cy ad M ha.2 (by omega)]
      refine va_get hx hb hts g1 hown hK hn.1 a he hc f hf (hts _ (hgTb_of hw rfl)) (fun x hx9 => by rw [hT] at hx9; exact hx9) (hgFs_at ad M a ci _ (by omega)) hd ?_
      unfold hgFv
      rw [hkd]
      split at h9
      · exact kk _ _ _ _ h9 ad H locs ls (hn.to (hgSk_c hgVk_l (hgSk_t hn.sk))) kc ks
      · split at h9
        · next r9 hr9 =>
          rw [hr9]
          exact kk _ _ _ _ h9 ad H locs ls (hn.to (hgSk_c (hgVk_r (hn.2.2.2.2.2.2.1 _ _ _ hr9)) (hgSk_t hn.sk))) kc ks
        · cases h9
      · next n1 n2 =>
        rw [if_neg (fun z => n1 z), if_neg (fun z => n2 z)]
        exact kk _ _ _ _ h9 ad H locs ls (hn.to (hgSk_c hgVk_i (hgSk_t hn.sk))) kc ks
    · cases h9
  | [], hk, h => cases h
  | [_], hk, h => cases h
  | [_, _], hk, h => cases h
  | [_, _, _], hk, h => cases h
  | _ :: _ :: _ :: _ :: _ :: _, hk, h => cases h
end HGMEM

/-! Arrays of arrays. -/
theorem hgNews_N : ∀ (n : Nat) (M : hgMem), (hgNews n M).1 = M.1 + n
  | 0, M => rfl
  | n + 1, M => by rw [hgNews, hgNews_N n]; show M.1 + 1 + n = _; omega
theorem hgNews_I : ∀ (n : Nat) (M : hgMem) (a : Nat), hgI (hgNews n M) a = if M.1 ≤ a ∧ a < M.1 + n then (fun _ => 0) else hgI M a
  | 0, M, a => by rw [if_neg (by omega)]; rfl
  | n + 1, M, a => by
    rw [hgNews, hgNews_I n]
    by_cases h : a = M.1
    · subst h
      rw [if_neg (show ¬ ((hgNew M).1 ≤ M.1 ∧ M.1 < (hgNew M).1 + n) from fun q => by have : M.1 + 1 ≤ M.1 := q.1; omega), if_pos (by omega), hgI_new_at]
    · rw [hgI_new M h]
      show (if M.1 + 1 ≤ a ∧ a < M.1 + 1 + n then _ else _) = _
      by_cases h2 : M.1 + 1 ≤ a ∧ a < M.1 + 1 + n
      · rw [if_pos h2, if_pos (by omega)]
      · rw [if_neg h2, if_neg (by omega)]
theorem hgNews_J : ∀ (n : Nat) (M : hgMem) (a : Nat), hgJ (hgNews n M) a = if M.1 ≤ a ∧ a < M.1 + n then (fun _ => 0) else hgJ M a
  | 0, M, a => by rw [if_neg (by omega)]; rfl
  | n + 1, M, a => by
    rw [hgNews, hgNews_J n]
    by_cases h : a = M.1
    · subst h
      rw [if_neg (show ¬ ((hgNew M).1 ≤ M.1 ∧ M.1 < (hgNew M).1 + n) from fun q => by have : M.1 + 1 ≤ M.1 := q.1; omega), if_pos (by omega), hgJ_new_at]
    · rw [hgJ_new M h]
      show (if M.1 + 1 ≤ a ∧ a < M.1 + 1 + n then _ else _) = _
      by_cases h2 : M.1 + 1 ≤ a ∧ a < M.1 + 1 + n
      · rw [if_pos h2, if_pos (by omega)]
      · rw [if_neg h2, if_neg (by omega)]
theorem hgNews_R : ∀ (n : Nat) (M : hgMem) (a : Nat), hgR (hgNews n M) a = if M.1 ≤ a ∧ a < M.1 + n then (fun _ => none) else hgR M a
  | 0, M, a => by rw [if_neg (by omega)]; rfl
  | n + 1, M, a => by
    rw [hgNews, hgNews_R n]
    by_cases h : a = M.1
    · subst h
      rw [if_neg (show ¬ ((hgNew M).1 ≤ M.1 ∧ M.1 < (hgNew M).1 + n) from fun q => by have : M.1 + 1 ≤ M.1 := q.1; omega), if_pos (by omega), hgR_new_at]
    · rw [hgR_new M h]
      show (if M.1 + 1 ≤ a ∧ a < M.1 + 1 + n then _ else _) = _
      by_cases h2 : M.1 + 1 ≤ a ∧ a < M.1 + 1 + n
      · rw [if_pos h2, if_pos (by omega)]
      · rw [if_neg h2, if_neg (by omega)]
theorem hgGrid_N (a : Nat) : ∀ (n : Nat) (M : hgMem), (hgGrid a n M).1 = M.1
  | 0, M => rfl
  | n + 1, M => hgGrid_N a n M
theorem hgGrid_I (a : Nat) : ∀ (n : Nat) (M : hgMem), hgI (hgGrid a n M) = hgI M
  | 0, M => rfl
  | n + 1, M => hgGrid_I a n M
theorem hgGrid_J (a : Nat) : ∀ (n : Nat) (M : hgMem), hgJ (hgGrid a n M) = hgJ M
  | 0, M => rfl
  | n + 1, M => hgGrid_J a n M
theorem hgGrid_R (a : Nat) : ∀ (n : Nat) (M : hgMem) (b j : Nat), hgR (hgGrid a n M) b j = if b = a ∧ j < n then some (a + 1 + j) else hgR M b j
  | 0, M, b, j => by rw [if_neg (by omega)]; rfl
  | n + 1, M, b, j => by
    show hgU (hgR (hgGrid a n M)) a n (some (a + 1 + n)) b j = _
    unfold hgU
    by_cases h : b = a
    · rw [if_pos h]
      by_cases h2 : j = n
      · rw [if_pos h2, if_pos (by omega), h2]
      · rw [if_neg h2, hgGrid_R a n]
        by_cases h3 : b = a ∧ j < n
        · rw [if_pos h3, if_pos (by omega)]
        · rw [if_neg h3, if_neg (by omega)]
    · rw [if_neg h, hgGrid_R a n, if_neg (by omega), if_neg (by omega)]
def hgAdG (ad : Nat → Nat) (N b n : Nat) (r : Nat → Nat) : Nat → Nat := fun a => if a = N then b else if N < a ∧ a < N + 1 + n then r (a - N - 1) else ad a
section HGGRID
variable {p : Program} {l : Launch} {e : Env} {R : Room} {s : State} {m : MethodId} {args : Array Value} {below : List Frame} {meth : Method} {c : Code} {Q : State → Prop} {q B0 nL N0 : Nat} {D : va_G} {cy : Nat → ClassId} {X : hgX} {ad0 : Nat → Nat}
variable {call : Nat → List Value → hgMem → Option hgOut} {jump : Nat → hgL → List Value → hgK → hgMem → Option hgOut} {len : Nat} {ps : List Nat} {hs : List (Nat × Nat × Nat)} {pc : Nat} {out : hgOut} {L : hgL} {S : List Value} {K : hgK} {M : hgMem} {k : hgL → List Value → hgK → hgMem → Option hgOut}
theorem hgRok_grid (h : hgRok M) (n : Nat) : hgRok (hgGrid M.1 n (hgNews (1 + n) M)) := by
  intro a j r hr
  rw [hgGrid_N, hgNews_N]
  rw [hgGrid_R] at hr
  split at hr
  · next g =>
    cases hr
    omega
  · rw [hgNews_R] at hr
    split at hr
    · cases hr
    · have := h a j r hr
      omega
theorem hgWs_grid (ad : Nat → Nat) (M : hgMem) (b n kd kr w : Nat) (r : Nat → Nat) (hr : hgRok M) (hk : hgSh M.1 = (kd, n)) (h24 : 24 ≤ kd) (hrow : ∀ j, j < n → hgSh (M.1 + 1 + j) = (kr, w)) (hkr : kr = 20 ∨ kr = 21) :
    hgWs cy (hgAdG ad M.1 b n r) (hgGrid M.1 n (hgNews (1 + n) M)) = (hgWs cy ad M ++ [(b, .inl (cy kd, n, .inr (.inr (.inr (.inr (fun i => if i < n then some (r i) else none))))))]) ++ (List.range n).map (fun j => (r j, .inl (cy kr, w, if kr = 21 then .inr (.inl (fun _ => 0)) else .inl (fun _ => 0)))) := by
  show (List.range (hgGrid M.1 n (hgNews (1 + n) M)).1).map _ = _
  rw [hgGrid_N, hgNews_N, show M.1 + (1 + n) = (M.1 + 1) + n by omega, List.range_add, List.range_succ, List.map_append, List.map_append]
  congr 1
  · congr 1
    · refine List.map_congr_left (fun a ha => ?_)
      have ha : a < M.1 := List.mem_range.mp ha
      refine Prod.ext_iff.mpr ⟨?_, ?_⟩
      · show hgAdG ad M.1 b n r a = ad a
        unfold hgAdG
        rw [if_neg (by omega), if_neg (by omega)]
      · have g1 : ¬ (M.1 ≤ a ∧ a < M.1 + (1 + n)) := by omega
        refine hgEn_ad cy ?_ ?_ ?_ (fun j x h => ?_)
        · rw [hgGrid_I, hgNews_I, if_neg g1]
        · rw [hgGrid_J, hgNews_J, if_neg g1]
        · funext j
          rw [hgGrid_R, if_neg (by omega), hgNews_R, if_neg g1]
        · have := hr a j x h
          unfold hgAdG
          rw [if_neg (by omega), if_neg (by omega)]
    · show [(hgAdG ad M.1 b n r M.1, _)] = _
      have e1 : hgAdG ad M.1 b n r M.1 = b := if_pos rfl
      have e2 : (fun i => (hgR (hgGrid M.1 n (hgNews (1 + n) M)) M.1 i).map (hgAdG ad M.1 b n r)) = fun i => if i < n then some (r i) else none := by
        funext i
        rw [hgGrid_R]
        by_cases hi : i < n
        · rw [if_pos ⟨rfl, hi⟩, if_pos hi]
          show some (hgAdG ad M.1 b n r (M.1 + 1 + i)) = _
          unfold hgAdG
          rw [if_neg (by omega), if_pos (by omega), show M.1 + 1 + i - M.1 - 1 = i by omega]
        · rw [if_neg (by omega), if_neg hi, hgNews_R, if_pos (by omega)]
          rfl
      rw [hgEn_ref cy _ _ (by rw [hk]) h24, hk, e2, e1]
  · rw [List.map_map]
    refine List.map_congr_left (fun j hj => ?_)
    have hj : j < n := List.mem_range.mp hj
    have g1 : M.1 ≤ M.1 + 1 + j ∧ M.1 + 1 + j < M.1 + (1 + n) := by omega
    refine Prod.ext_iff.mpr ⟨?_, ?_⟩
    · show hgAdG ad M.1 b n r (M.1 + 1 + j) = r j
      unfold hgAdG
      rw [if_neg (by omega), if_pos (by omega), show M.1 + 1 + j - M.1 - 1 = j by omega]
    · show hgEn cy _ _ (M.1 + 1 + j) = _
      rcases hkr with h | h
      · subst h
        rw [hgEn_int cy _ _ (by rw [hrow j hj]) (Or.inl rfl), hrow j hj, hgGrid_I, hgNews_I, if_pos g1]
        rfl
      · subst h
        rw [hgEn_long cy _ _ (by rw [hrow j hj]), hrow j hj, hgGrid_J, hgNews_J, if_pos g1]
        rfl
theorem hgmn_some {f : Nat → Nat → Nat → Nat → Nat → Int32 → Int32 → List Value → Option hgOut} (h : (match ps with
    | [kd, kr, n, w, z] => match S with
      | .int y :: .int x :: r => f kd kr n w z x y r
      | _ => none
    | _ => none) = some out) : ∃ kd kr n w z x y r, ps = [kd, kr, n, w, z] ∧ S = .int y :: .int x :: r ∧ f kd kr n w z x y r = some out := by
  split at h
  · split at h
    · exact ⟨_, _, _, _, _, _, _, _, rfl, rfl, h⟩
    · cases h
  · cases h
set_option maxHeartbeats 4000000 in
set_option maxRecDepth 100000 in
theorem hg_multi (hC : hgCx p l R s m args meth c q B0 D cy X ad0) {idx dim : Nat} (hd : decode (hgCode q) pc = .ok (.multianewarray idx dim, len)) (hk : hgChk q pc (.multianewarray idx dim) len ps hs = true) (h : hgStep X (hgRm q) call jump (.multianewarray idx dim) ps hs L S K M k = some out)
    (kk : ∀ L S K M, k L S K M = some out → hgGo p l e R s m args below meth c Q B0 D cy (hgMl q) N0 ad0 (pc + len) L S K M) : hgGo p l e R s m args below meth c Q B0 D cy (hgMl q) N0 ad0 pc L S K M := by
  have hA := hg_hA hC
  obtain ⟨hx, hb, -, hown, hts, -, hK, hst, ⟨-, -, hr1, hr2⟩, -⟩ := hC
  obtain ⟨kd, kr, n, w, z, x, y, r, rfl, rfl, h9⟩ := hgmn_some (f := fun kd kr n w z x y r => if x = nI n ∧ y = nI w ∧ hgSh M.1 = (kd, n) ∧ (List.range n).all (fun j => decide (hgSh (M.1 + 1 + j) = (kr, w))) = true ∧ K.1 + (1 + n) ≤ (hgRm q).1 ∧ K.2 + (n + n * w) ≤ (hgRm q).2 then k L (.ref M.1 :: r) (K.1 + (1 + n), K.2 + (n + n * w)) (hgGrid M.1 n (hgNews (1 + n) M)) else none) h
  clear h
  split at h9
  · next hc =>
    obtain ⟨rfl, rfl, hsh, hrow, k1, k2⟩ := hc
    have hrow : ∀ j, j < n → hgSh (M.1 + 1 + j) = (kr, w) := fun j hj => of_decide_eq_true (List.all_eq_true.mp hrow j (List.mem_range.mpr hj))
    have hao := hst.2.2.2.1.2
    have hac := hgAll_mem hgAc
    intro ad H locs ls hn kc ks
    have key : ∀ (ty : FieldType) (t0 : Nat), len = 4 → dim = 2 → 24 ≤ kd → kd ≠ 99 → n < 1000 → w < 1000000 → kr = 20 ∨ kr = 21 → (Cond.classLink (hgOwn q) idx ("[" ++ (FieldType.array ty).toString)).before args s = true → va_AOA ty s → (Cond.arrayClass ty).before args s = true → s.vm.findClass (FieldType.array ty).toString = some (cy kr) → (hgTys cy)[t0]? = some (cy kd, .array ty) → componentBytes ty ≤ 8 → fits ty (defaultValue ty) = true → (defaultValue ty).isDefault = true → (∀ c : ClassId, Jvm.Free.Multi.innerC c w (defaultValue ty) = vp_cell c (w, if kr = 21 then .inr (.inl (fun _ => 0)) else .inl (fun _ => 0))) → W p l e R s m args below meth c H locs K.1 K.2 Q (F0 m pc ls ((.int (nI w) :: .int (nI n) :: r).map (hgPh ad))) := by
      intro ty t0 hl hdim h24 h99 hn1 hw1 hkr hlink hov harr hcy ht hcb hf1 hf2 hin
      subst hl
      subst hdim
      have hM : M.1 < 326 := hgSh_lt (by rw [hsh]; exact h99)
      have c1 : (nI n).toNatClampNeg = n := nI_clamp (by omega)
      have c2 : (nI w).toNatClampNeg = w := nI_clamp (by omega)
      have hP0 : va_P D vwCl (hgWs cy ad M ++ va_pl [] (fun _ => .inr (0, []))) H := by simpa [va_pl] using hn.1
      have hD0 : va_D (hgA B0) (hgWs cy ad M ++ va_pl [] (fun _ => .inr (0, []))) := by simpa [va_pl] using hn.2.1
      have hb2 : w * componentBytes ty ≤ 536870912 := Nat.le_trans (Nat.mul_le_mul_left w hcb) (by omega)
      refine va_mna (N' := n) (K' := w) hx hb hown hlink hov harr hcy hK hP0 hD0 hn.2.2.1 hA (nI_pos (by omega)) (nI_pos (by omega)) c1 c2 (by omega) hb2 (by omega) hf1 hf2 (by omega) (by omega) hin hd (fun b rr cA H1 _ _ hK1 hP hD hS => ?_)
      have ec := hg_cA hK ht hK1
      subst ec
      have eL : (hgWs cy ad M ++ [(b, Sum.inl (cy kd, n, Sum.inr (Sum.inr (Sum.inr (Sum.inr (fun i => if i < n then some (rr i) else none))))))]) ++ va_pl ([] ++ (List.range n).map rr) (vr_up (fun _ => Sum.inr (0, [])) ((List.range n).map rr) (Sum.inl (cy kr, w, if kr = 21 then .inr (.inl (fun _ => 0)) else .inl (fun _ => 0)))) = hgWs cy (hgAdG ad M.1 b n rr) (hgGrid M.1 n (hgNews (1 + n) M)) := by
        rw [hgWs_grid ad M b n kd kr w rr hn.2.2.2.2.2.2.1 hsh h24 hrow hkr]
        congr 1
        unfold va_pl
        rw [List.nil_append, List.map_map]
        refine List.map_congr_left (fun j hj => ?_)
        show (rr j, vr_up _ _ _ (rr j)) = _
        rw [vr_up_in (List.mem_map_of_mem hj)]
      rw [eL] at hP hD
      have hxt : hgExt M.1 ad (hgAdG ad M.1 b n rr) := fun a ha => by
        show (if a = M.1 then b else if M.1 < a ∧ a < M.1 + 1 + n then rr (a - M.1 - 1) else ad a) = ad a
        have : M.1 + n < 1000 := by
          rcases Nat.eq_zero_or_pos n with g | g
          · omega
          · have := hgSh_lt (a := M.1 + 1 + (n - 1)) (by rw [hrow (n - 1) (by omega)]; rcases hkr with h | h <;> rw [h] <;> (show (_ : Nat) ≠ 99) <;> omega)
            omega
        rw [if_neg (by omega), if_neg (by omega)]
      have hN1 : (hgGrid M.1 n (hgNews (1 + n) M)).1 = M.1 + (1 + n) := by rw [hgGrid_N, hgNews_N]
      obtain ⟨h1, h2, h3, h4, h5, h6, h7, h8, h10⟩ := hn
      have hsk := hgSk_t (hgSk_t h6)
      have hn2 : hgNow B0 D cy s (hgMl q) N0 ad0 (hgAdG ad M.1 b n rr) L (.ref M.1 :: r) (hgGrid M.1 n (hgNews (1 + n) M)) H1 locs ls := by
        refine ⟨hP, hD, hS, hgLH_mono h4 (fun i v hv => ?_), fun i v hv => hgVk_m (h5 i v hv) (by omega), hgSk_c (hgVk_r (by omega)) (fun v hv => hgVk_m (hsk v hv) (by omega)), hgRok_grid h7 n, by omega, h10.tr h8 hxt⟩
        rw [hgPh_ext hxt (h5 i v hv)]
        exact hgAs_mem.mpr ⟨i, v, (Nat.zero_add i).symm, hv, rfl⟩
      have e3 : r.map (hgPh (hgAdG ad M.1 b n rr)) = r.map (hgPh ad) := List.map_congr_left (fun v hv => hgPh_ext hxt (hsk v hv))
      have e4 : (F0 m (pc + 4) ls (.ref b :: r.map (hgPh ad))) = F0 m (pc + 4) ls ((.ref M.1 :: r).map (hgPh (hgAdG ad M.1 b n rr))) := by
        rw [List.map_cons, e3]
        show _ = F0 m (pc + 4) ls (.ref (hgAdG ad M.1 b n rr M.1) :: _)
        rw [show hgAdG ad M.1 b n rr M.1 = b from if_pos rfl]
      have go := kk _ _ _ _ h9 (hgAdG ad M.1 b n rr) H1 locs ls hn2 (by show K.1 + (1 + n) ≤ _; omega) (by show K.2 + (n + n * w) ≤ _; omega)
      rw [← e4] at go
      exact W.cs (by show K.1 + 1 + n = K.1 + (1 + n); omega) (by show K.2 + n + n * w = K.2 + (n + n * w); omega) go
    have hk2 : (decide (len = 4) && decide (dim = 2) && (match [kd, kr, n, w, z] with
      | [27, 20, n, k, w] => decide (hgWt w = some (.classLink (hgOwn q) idx "[[I")) && decide (n < 1000) && decide (k < 1000000)
      | [28, 21, n, k, w] => decide (hgWt w = some (.classLink (hgOwn q) idx "[[J")) && decide (n < 1000) && decide (k < 1000000)
      | _ => false)) = true := hk
    rw [Bool.and_eq_true, Bool.and_eq_true, decide_eq_true_eq, decide_eq_true_eq] at hk2
    obtain ⟨⟨hl, hdim⟩, hk3⟩ := hk2
    split at hk3
    · next e9 =>
      cases e9
      rw [Bool.and_eq_true, Bool.and_eq_true, decide_eq_true_eq, decide_eq_true_eq, decide_eq_true_eq] at hk3
      exact key .int 7 hl hdim (by omega) (by omega) hk3.1.2 hk3.2 (Or.inl rfl) (hts _ (hgTb_of (x := .classLink (hgOwn q) idx "[[I") hk3.1.1 rfl)) hao.2.2.2.1 (hts _ (hac _ (by simp))) (hK.2 0 _ rfl).2 rfl (by decide) rfl rfl (fun c => by show _ = arrV c w (fun _ => .int 0); first | (rw [arrV_new]; rfl) | (rw [← arrV_new]; rfl))
    · next e9 =>
      cases e9
      rw [Bool.and_eq_true, Bool.and_eq_true, decide_eq_true_eq, decide_eq_true_eq, decide_eq_true_eq] at hk3
      exact key .long 8 hl hdim (by omega) (by omega) hk3.1.2 hk3.2 (Or.inr rfl) (hts _ (hgTb_of (x := .classLink (hgOwn q) idx "[[J") hk3.1.1 rfl)) hao.2.2.2.2.1 (hts _ (hac _ (by simp))) (hK.2 1 _ rfl).2 rfl (by decide) rfl rfl (fun c => by show _ = arrV c w (fun _ => .long 0); first | (rw [arrV_new]; rfl) | (rw [← arrV_new]; rfl))
    · cases hk3
  · cases h9
end HGGRID

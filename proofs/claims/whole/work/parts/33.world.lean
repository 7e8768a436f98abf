/-! THE OBJECTS as they lie, once made: where each reference goes. -/
/-- where a gateway may lie -/
def hgGw (g : Nat) : Prop := g = 6 ∨ g = 35 ∨ (66 ≤ g ∧ g < 298 ∧ (g - 66) % 29 = 0)
def hgWf (M : hgMem) : Prop := M.1 = 326 ∧
  (∀ g, hgGw g → hgR M g 0 = some 1 ∧ hgR M g 5 = some (g + 1) ∧ hgR M g 7 = some (g + 12) ∧ hgR M g 8 = some (g + 26) ∧ hgR M g 10 = some (g + 27) ∧ hgR M g 11 = some (g + 28) ∧ hgR M (g + 12) 0 = some (g + 13) ∧ (∀ j, j < 10 → hgR M (g + 1) j = some (g + 2 + j)) ∧ (∀ j, j < 12 → ∃ r, hgR M (g + 13) j = some r ∧ g + 14 ≤ r ∧ r < g + 26)) ∧
  (hgR M 0 0 = some 5 ∧ hgR M 0 3 = some 6 ∧ hgR M 0 4 = some 35 ∧ hgR M 0 5 = some 64 ∧ hgR M 0 6 = some 298) ∧
  (hgR M 1 0 = some 2 ∧ hgR M 1 1 = some 3 ∧ hgR M 1 2 = some 4) ∧
  (hgR M 64 0 = some 65 ∧ ∀ j, j < 8 → hgR M 65 j = some (66 + 29 * j)) ∧
  (hgR M 298 0 = some 5 ∧ hgR M 298 5 = some 35 ∧ hgR M 298 8 = some 299) ∧
  (hgR M 300 1 = some 301 ∧ hgR M 300 8 = some 302 ∧ hgR M 300 9 = some 303 ∧ hgR M 300 10 = some 304 ∧ hgR M 300 11 = some 305 ∧ hgR M 300 12 = some 314 ∧ hgR M 300 13 = some 315 ∧ hgR M 300 14 = some 316) ∧
  (∀ j, j < 8 → hgR M 305 j = some (306 + j)) ∧ (∀ j, j < 8 → hgR M 316 j = some (317 + j)) ∧
  (∀ g, hgGw g → ∀ i j, i < 12 → j < 12 → hgR M (g + 13) i = hgR M (g + 13) j → i = j)
theorem hgGw_le {g : Nat} (h : hgGw g) : 6 ≤ g ∧ g < 270 := by
  unfold hgGw at h
  omega
theorem hgSh_g {g j : Nat} (h : hgGw g) (hj : j < 29) : hgSh (g + j) = hgGsh j := by
  unfold hgGw at h
  unfold hgSh
  rcases h with h | h | ⟨h1, h2, h3⟩
  · subst h
    rw [if_neg (by omega), if_neg (by omega), if_neg (by omega), if_neg (by omega), if_pos (by omega), show (6 + j - 6) % 29 = j by omega]
  · subst h
    rw [if_neg (by omega), if_neg (by omega), if_neg (by omega), if_neg (by omega), if_pos (by omega), show (35 + j - 6) % 29 = j by omega]
  · rw [if_neg (by omega), if_neg (by omega), if_neg (by omega), if_neg (by omega), if_neg (by omega), if_neg (by omega), if_neg (by omega), if_pos (by omega), show (g + j - 66) % 29 = j by omega]
/-- the rule at a place -/
def hgRp (M : hgMem) (g j : Nat) : Nat := (hgR M (g + 13) j).getD 0
section HGWF
variable {X : hgX} {rm : hgK} {C : Nat → List Value → hgMem → Option hgOut} {J : Nat → hgL → List Value → hgK → hgMem → Option hgOut} {l : Nat} {ps : List Nat} {hs : List (Nat × Nat × Nat)} {rs : List hgRow} {L : hgL} {S as : List Value} {K : hgK} {M : hgMem} {x y z : Int32} {u v : Int64} {a b t k n j w ci idx g i N : Nat}
theorem hgWf_SI : hgWf (hgSI M a k x) = hgWf M := id rfl
theorem hgWf_SJ : hgWf (hgSJ M a k u) = hgWf M := id rfl
theorem hgO_SI : hgO (hgSI M b k x) a ci = hgO M a ci := id rfl
theorem hgO_SJ : hgO (hgSJ M b k u) a ci = hgO M a ci := id rfl
theorem hgAr_SI : hgAr (hgSI M b k x) a ci n = hgAr M a ci n := id rfl
theorem hgAr_SJ : hgAr (hgSJ M b k u) a ci n = hgAr M a ci n := id rfl
theorem hgRp_SI : hgRp (hgSI M b k x) g j = hgRp M g j := id rfl
theorem hgRp_SJ : hgRp (hgSJ M b k u) g j = hgRp M g j := id rfl
theorem hgN_SI : (hgSI M b k x).1 = M.1 := id rfl
theorem hgN_SJ : (hgSJ M b k u).1 = M.1 := id rfl
theorem hgI_SI : hgI (hgSI M a k x) b j = if b = a then (if j = k then x else hgI M b j) else hgI M b j := id rfl
theorem hgI_at : hgI (hgSI M a k x) a k = x := by rw [hgI_SI, if_pos rfl, if_pos rfl]
theorem hgI_na (h : b ≠ a) : hgI (hgSI M a k x) b j = hgI M b j := by rw [hgI_SI, if_neg h]
theorem hgI_nk (h : j ≠ k) : hgI (hgSI M a k x) b j = hgI M b j := by
  rw [hgI_SI, if_neg h]
  exact ite_self _
theorem hgI_SJ : hgI (hgSJ M a k u) b j = hgI M b j := id rfl
theorem hgJ_SI : hgJ (hgSI M a k x) b j = hgJ M b j := id rfl
theorem hgJ_SJ : hgJ (hgSJ M a k u) b j = if b = a then (if j = k then u else hgJ M b j) else hgJ M b j := id rfl
theorem hgJ_at : hgJ (hgSJ M a k u) a k = u := by rw [hgJ_SJ, if_pos rfl, if_pos rfl]
theorem hgJ_na (h : b ≠ a) : hgJ (hgSJ M a k u) b j = hgJ M b j := by rw [hgJ_SJ, if_neg h]
theorem hgJ_nk (h : j ≠ k) : hgJ (hgSJ M a k u) b j = hgJ M b j := by
  rw [hgJ_SJ, if_neg h]
  exact ite_self _
theorem hgR_SI : hgR (hgSI M a k x) b j = hgR M b j := id rfl
theorem hgR_SJ : hgR (hgSJ M a k u) b j = hgR M b j := id rfl
theorem hgRecv_O (h : hgO M a ci) : hgRecv ci M.1 (.ref a :: as) = true := by
  show (decide (ci = 99) || (decide (a < M.1) && decide ((hgSh a).1 = ci))) = true
  rw [decide_eq_true h.1, decide_eq_true h.2]
  simp
theorem hgRecv_99 : hgRecv 99 N as = true := by
  unfold hgRecv
  split <;> rfl
theorem hgCat2 (v : Value) : v.category ≤ 2 := by cases v <;> simp [Value.category]
theorem hgCd_0 {r1 r2 k1 k2 mc ms : Nat} (h2 : k1 + mc ≤ r1) (h3 : k2 + ms ≤ r2) (h4 : hgRecv ci M.1 as = true) : hgCd (r1, r2) mc ms ci as [] (k1, k2) M := by
  refine ⟨?_, h2, h3, h4⟩
  simp only [List.map_cons, List.map_nil, List.sum_cons, List.sum_nil]
  omega
theorem hgCd_1 {v0 : Value} {r1 r2 k1 k2 mc ms : Nat} (h2 : k1 + mc ≤ r1) (h3 : k2 + ms ≤ r2) (h4 : hgRecv ci M.1 as = true) : hgCd (r1, r2) mc ms ci as [v0] (k1, k2) M := by
  refine ⟨?_, h2, h3, h4⟩
  have c0 := hgCat2 v0
  simp only [List.map_cons, List.map_nil, List.sum_cons, List.sum_nil]
  omega
theorem hgCd_2 {v0 v1 : Value} {r1 r2 k1 k2 mc ms : Nat} (h2 : k1 + mc ≤ r1) (h3 : k2 + ms ≤ r2) (h4 : hgRecv ci M.1 as = true) : hgCd (r1, r2) mc ms ci as [v0, v1] (k1, k2) M := by
  refine ⟨?_, h2, h3, h4⟩
  have c0 := hgCat2 v0
  have c1 := hgCat2 v1
  simp only [List.map_cons, List.map_nil, List.sum_cons, List.sum_nil]
  omega
theorem hgCd_3 {v0 v1 v2 : Value} {r1 r2 k1 k2 mc ms : Nat} (h2 : k1 + mc ≤ r1) (h3 : k2 + ms ≤ r2) (h4 : hgRecv ci M.1 as = true) : hgCd (r1, r2) mc ms ci as [v0, v1, v2] (k1, k2) M := by
  refine ⟨?_, h2, h3, h4⟩
  have c0 := hgCat2 v0
  have c1 := hgCat2 v1
  have c2 := hgCat2 v2
  simp only [List.map_cons, List.map_nil, List.sum_cons, List.sum_nil]
  omega
theorem hgCd_4 {v0 v1 v2 v3 : Value} {r1 r2 k1 k2 mc ms : Nat} (h2 : k1 + mc ≤ r1) (h3 : k2 + ms ≤ r2) (h4 : hgRecv ci M.1 as = true) : hgCd (r1, r2) mc ms ci as [v0, v1, v2, v3] (k1, k2) M := by
  refine ⟨?_, h2, h3, h4⟩
  have c0 := hgCat2 v0
  have c1 := hgCat2 v1
  have c2 := hgCat2 v2
  have c3 := hgCat2 v3
  simp only [List.map_cons, List.map_nil, List.sum_cons, List.sum_nil]
  omega
theorem hgCd_5 {a1 a5 : Nat} {x2 x3 x4 : Int32} {r1 r2 k1 k2 mc ms : Nat} (h2 : k1 + mc ≤ r1) (h3 : k2 + ms ≤ r2) (h4 : hgRecv ci M.1 as = true) : hgCd (r1, r2) mc ms ci as [.ref a1, .int x2, .int x3, .int x4, .ref a5] (k1, k2) M := ⟨Nat.le_of_ble_eq_true rfl, h2, h3, h4⟩
theorem hgOf (hw : hgWf M) (ha : a < 326) (hc : (hgSh a).1 = ci) : hgO M a ci := ⟨by rw [hw.1]; exact ha, hc⟩
theorem hgArf (hw : hgWf M) (ha : a < 326) (hc : hgSh a = (ci, n)) : hgAr M a ci n := ⟨by rw [hw.1]; exact ha, hc⟩
theorem hgO_g (hw : hgWf M) (hg : hgGw g) : hgO M g 1 := hgOf hw (by have := hgGw_le hg; omega) (by rw [show g = g + 0 from rfl, hgSh_g hg (by omega)]; rfl)
theorem hgO_d (hw : hgWf M) (hg : hgGw g) (hj : j < 10) : hgO M (g + 2 + j) 0 := hgOf hw (by have := hgGw_le hg; omega) (by
  rw [Nat.add_assoc, hgSh_g hg (by omega)]
  unfold hgGsh
  rw [if_neg (by omega), if_neg (by omega), if_pos (by omega)])
theorem hgO_rl (hw : hgWf M) (hg : hgGw g) : hgO M (g + 12) 5 := hgOf hw (by have := hgGw_le hg; omega) (by rw [hgSh_g hg (by omega)]; rfl)
theorem hgRp_f (hw : hgWf M) (hg : hgGw g) (hj : j < 12) : hgR M (g + 13) j = some (hgRp M g j) ∧ g + 14 ≤ hgRp M g j ∧ hgRp M g j < g + 26 := by
  obtain ⟨r, h1, h2, h3⟩ := (hw.2.1 g hg).2.2.2.2.2.2.2.2 j hj
  have : hgRp M g j = r := by unfold hgRp; rw [h1]; rfl
  rw [this]
  exact ⟨h1, h2, h3⟩
theorem hgO_rr (hw : hgWf M) (hg : hgGw g) (h1 : g + 14 ≤ a) (h2 : a < g + 26) : hgO M a 4 := hgOf hw (by have := hgGw_le hg; omega) (by
  rw [show a = g + (a - g) by omega, hgSh_g hg (by omega)]
  unfold hgGsh
  rw [if_neg (by omega), if_neg (by omega), if_neg (by omega), if_neg (by omega), if_neg (by omega), if_pos (by omega)])
theorem hgO_r (hw : hgWf M) (hg : hgGw g) (hj : j < 12) : hgO M (hgRp M g j) 4 := hgO_rr hw hg (hgRp_f hw hg hj).2.1 (hgRp_f hw hg hj).2.2
theorem hgO_0 (hw : hgWf M) : hgO M 0 7 := hgOf hw (by omega) rfl
theorem hgO_1 (hw : hgWf M) : hgO M 1 3 := hgOf hw (by omega) rfl
theorem hgO_64 (hw : hgWf M) : hgO M 64 2 := hgOf hw (by omega) rfl
theorem hgO_298 (hw : hgWf M) : hgO M 298 6 := hgOf hw (by omega) rfl
theorem hgO_300 (hw : hgWf M) : hgO M 300 8 := hgOf hw (by omega) rfl
theorem hgs_get_1_0 (hw : hgWf M) (hg : hgGw g) : hgEx X rm C J ((.getfield idx, l, [1, 0, 2, w], hs) :: rs) L (.ref g :: S) K M = hgEx X rm C J rs L (.ref 1 :: S) K M := hgx_get2 (hgO_g hw hg) ((hw.2.1 g hg).1)
theorem hgs_get_1_5 (hw : hgWf M) (hg : hgGw g) : hgEx X rm C J ((.getfield idx, l, [1, 5, 2, w], hs) :: rs) L (.ref g :: S) K M = hgEx X rm C J rs L (.ref (g + 1) :: S) K M := hgx_get2 (hgO_g hw hg) ((hw.2.1 g hg).2.1)
theorem hgs_get_1_7 (hw : hgWf M) (hg : hgGw g) : hgEx X rm C J ((.getfield idx, l, [1, 7, 2, w], hs) :: rs) L (.ref g :: S) K M = hgEx X rm C J rs L (.ref (g + 12) :: S) K M := hgx_get2 (hgO_g hw hg) ((hw.2.1 g hg).2.2.1)
theorem hgs_get_1_8 (hw : hgWf M) (hg : hgGw g) : hgEx X rm C J ((.getfield idx, l, [1, 8, 2, w], hs) :: rs) L (.ref g :: S) K M = hgEx X rm C J rs L (.ref (g + 26) :: S) K M := hgx_get2 (hgO_g hw hg) ((hw.2.1 g hg).2.2.2.1)
theorem hgs_get_1_10 (hw : hgWf M) (hg : hgGw g) : hgEx X rm C J ((.getfield idx, l, [1, 10, 2, w], hs) :: rs) L (.ref g :: S) K M = hgEx X rm C J rs L (.ref (g + 27) :: S) K M := hgx_get2 (hgO_g hw hg) ((hw.2.1 g hg).2.2.2.2.1)
theorem hgs_get_1_11 (hw : hgWf M) (hg : hgGw g) : hgEx X rm C J ((.getfield idx, l, [1, 11, 2, w], hs) :: rs) L (.ref g :: S) K M = hgEx X rm C J rs L (.ref (g + 28) :: S) K M := hgx_get2 (hgO_g hw hg) ((hw.2.1 g hg).2.2.2.2.2.1)
theorem hgs_get_5_0 (hw : hgWf M) (hg : hgGw g) : hgEx X rm C J ((.getfield idx, l, [5, 0, 2, w], hs) :: rs) L (.ref (g + 12) :: S) K M = hgEx X rm C J rs L (.ref (g + 13) :: S) K M := hgx_get2 (hgO_rl hw hg) ((hw.2.1 g hg).2.2.2.2.2.2.1)
theorem hgs_get_7_0 (hw : hgWf M) : hgEx X rm C J ((.getfield idx, l, [7, 0, 2, w], hs) :: rs) L (.ref 0 :: S) K M = hgEx X rm C J rs L (.ref 5 :: S) K M := hgx_get2 (hgO_0 hw) (hw.2.2.1.1)
theorem hgs_get_7_3 (hw : hgWf M) : hgEx X rm C J ((.getfield idx, l, [7, 3, 2, w], hs) :: rs) L (.ref 0 :: S) K M = hgEx X rm C J rs L (.ref 6 :: S) K M := hgx_get2 (hgO_0 hw) (hw.2.2.1.2.1)
theorem hgs_get_7_4 (hw : hgWf M) : hgEx X rm C J ((.getfield idx, l, [7, 4, 2, w], hs) :: rs) L (.ref 0 :: S) K M = hgEx X rm C J rs L (.ref 35 :: S) K M := hgx_get2 (hgO_0 hw) (hw.2.2.1.2.2.1)
theorem hgs_get_7_5 (hw : hgWf M) : hgEx X rm C J ((.getfield idx, l, [7, 5, 2, w], hs) :: rs) L (.ref 0 :: S) K M = hgEx X rm C J rs L (.ref 64 :: S) K M := hgx_get2 (hgO_0 hw) (hw.2.2.1.2.2.2.1)
theorem hgs_get_7_6 (hw : hgWf M) : hgEx X rm C J ((.getfield idx, l, [7, 6, 2, w], hs) :: rs) L (.ref 0 :: S) K M = hgEx X rm C J rs L (.ref 298 :: S) K M := hgx_get2 (hgO_0 hw) (hw.2.2.1.2.2.2.2)
theorem hgs_get_3_0 (hw : hgWf M) : hgEx X rm C J ((.getfield idx, l, [3, 0, 2, w], hs) :: rs) L (.ref 1 :: S) K M = hgEx X rm C J rs L (.ref 2 :: S) K M := hgx_get2 (hgO_1 hw) (hw.2.2.2.1.1)
theorem hgs_get_3_1 (hw : hgWf M) : hgEx X rm C J ((.getfield idx, l, [3, 1, 2, w], hs) :: rs) L (.ref 1 :: S) K M = hgEx X rm C J rs L (.ref 3 :: S) K M := hgx_get2 (hgO_1 hw) (hw.2.2.2.1.2.1)
theorem hgs_get_3_2 (hw : hgWf M) : hgEx X rm C J ((.getfield idx, l, [3, 2, 2, w], hs) :: rs) L (.ref 1 :: S) K M = hgEx X rm C J rs L (.ref 4 :: S) K M := hgx_get2 (hgO_1 hw) (hw.2.2.2.1.2.2)
theorem hgs_get_2_0 (hw : hgWf M) : hgEx X rm C J ((.getfield idx, l, [2, 0, 2, w], hs) :: rs) L (.ref 64 :: S) K M = hgEx X rm C J rs L (.ref 65 :: S) K M := hgx_get2 (hgO_64 hw) (hw.2.2.2.2.1.1)
theorem hgs_get_6_0 (hw : hgWf M) : hgEx X rm C J ((.getfield idx, l, [6, 0, 2, w], hs) :: rs) L (.ref 298 :: S) K M = hgEx X rm C J rs L (.ref 5 :: S) K M := hgx_get2 (hgO_298 hw) (hw.2.2.2.2.2.1.1)
theorem hgs_get_6_5 (hw : hgWf M) : hgEx X rm C J ((.getfield idx, l, [6, 5, 2, w], hs) :: rs) L (.ref 298 :: S) K M = hgEx X rm C J rs L (.ref 35 :: S) K M := hgx_get2 (hgO_298 hw) (hw.2.2.2.2.2.1.2.1)
theorem hgs_get_6_8 (hw : hgWf M) : hgEx X rm C J ((.getfield idx, l, [6, 8, 2, w], hs) :: rs) L (.ref 298 :: S) K M = hgEx X rm C J rs L (.ref 299 :: S) K M := hgx_get2 (hgO_298 hw) (hw.2.2.2.2.2.1.2.2)
theorem hgs_get_8_1 (hw : hgWf M) : hgEx X rm C J ((.getfield idx, l, [8, 1, 2, w], hs) :: rs) L (.ref 300 :: S) K M = hgEx X rm C J rs L (.ref 301 :: S) K M := hgx_get2 (hgO_300 hw) (hw.2.2.2.2.2.2.1.1)
theorem hgs_get_8_8 (hw : hgWf M) : hgEx X rm C J ((.getfield idx, l, [8, 8, 2, w], hs) :: rs) L (.ref 300 :: S) K M = hgEx X rm C J rs L (.ref 302 :: S) K M := hgx_get2 (hgO_300 hw) (hw.2.2.2.2.2.2.1.2.1)
theorem hgs_get_8_9 (hw : hgWf M) : hgEx X rm C J ((.getfield idx, l, [8, 9, 2, w], hs) :: rs) L (.ref 300 :: S) K M = hgEx X rm C J rs L (.ref 303 :: S) K M := hgx_get2 (hgO_300 hw) (hw.2.2.2.2.2.2.1.2.2.1)
theorem hgs_get_8_10 (hw : hgWf M) : hgEx X rm C J ((.getfield idx, l, [8, 10, 2, w], hs) :: rs) L (.ref 300 :: S) K M = hgEx X rm C J rs L (.ref 304 :: S) K M := hgx_get2 (hgO_300 hw) (hw.2.2.2.2.2.2.1.2.2.2.1)
theorem hgs_get_8_11 (hw : hgWf M) : hgEx X rm C J ((.getfield idx, l, [8, 11, 2, w], hs) :: rs) L (.ref 300 :: S) K M = hgEx X rm C J rs L (.ref 305 :: S) K M := hgx_get2 (hgO_300 hw) (hw.2.2.2.2.2.2.1.2.2.2.2.1)
theorem hgs_get_8_12 (hw : hgWf M) : hgEx X rm C J ((.getfield idx, l, [8, 12, 2, w], hs) :: rs) L (.ref 300 :: S) K M = hgEx X rm C J rs L (.ref 314 :: S) K M := hgx_get2 (hgO_300 hw) (hw.2.2.2.2.2.2.1.2.2.2.2.2.1)
theorem hgs_get_8_13 (hw : hgWf M) : hgEx X rm C J ((.getfield idx, l, [8, 13, 2, w], hs) :: rs) L (.ref 300 :: S) K M = hgEx X rm C J rs L (.ref 315 :: S) K M := hgx_get2 (hgO_300 hw) (hw.2.2.2.2.2.2.1.2.2.2.2.2.2.1)
theorem hgs_get_8_14 (hw : hgWf M) : hgEx X rm C J ((.getfield idx, l, [8, 14, 2, w], hs) :: rs) L (.ref 300 :: S) K M = hgEx X rm C J rs L (.ref 316 :: S) K M := hgx_get2 (hgO_300 hw) (hw.2.2.2.2.2.2.1.2.2.2.2.2.2.2)
theorem hgs_aa_d (hw : hgWf M) (hg : hgGw g) (hj : j < 10) : hgEx X rm C J ((.aaload, l, ps, hs) :: rs) L (.int (nI j) :: .ref (g + 1) :: S) K M = hgEx X rm C J rs L (.ref (g + 2 + j) :: S) K M := hgx_aaload (n := 10) (ci := 24) (hgArf hw (by have := hgGw_le hg; omega) (by rw [hgSh_g hg (by omega)]; rfl)) (by omega) hj (by omega) ((hw.2.1 g hg).2.2.2.2.2.2.2.1 j hj)
theorem hgs_aa_r (hw : hgWf M) (hg : hgGw g) (hj : j < 12) : hgEx X rm C J ((.aaload, l, ps, hs) :: rs) L (.int (nI j) :: .ref (g + 13) :: S) K M = hgEx X rm C J rs L (.ref (hgRp M g j) :: S) K M := hgx_aaload (n := 12) (ci := 25) (hgArf hw (by have := hgGw_le hg; omega) (by rw [hgSh_g hg (by omega)]; rfl)) (by omega) hj (by omega) ((hgRp_f hw hg hj).1)
theorem hgs_aa_h (hw : hgWf M) (hj : j < 8) : hgEx X rm C J ((.aaload, l, ps, hs) :: rs) L (.int (nI j) :: .ref 65 :: S) K M = hgEx X rm C J rs L (.ref (66 + 29 * j) :: S) K M := hgx_aaload (n := 8) (ci := 26) (hgArf hw (by omega) rfl) (by omega) hj (by omega) (hw.2.2.2.2.1.2 j hj)
theorem hgs_aa_m (hw : hgWf M) (hj : j < 8) : hgEx X rm C J ((.aaload, l, ps, hs) :: rs) L (.int (nI j) :: .ref 305 :: S) K M = hgEx X rm C J rs L (.ref (306 + j) :: S) K M := hgx_aaload (n := 8) (ci := 27) (hgArf hw (by omega) rfl) (by omega) hj (by omega) (hw.2.2.2.2.2.2.2.1 j hj)
theorem hgs_aa_t (hw : hgWf M) (hj : j < 8) : hgEx X rm C J ((.aaload, l, ps, hs) :: rs) L (.int (nI j) :: .ref 316 :: S) K M = hgEx X rm C J rs L (.ref (317 + j) :: S) K M := hgx_aaload (n := 8) (ci := 28) (hgArf hw (by omega) rfl) (by omega) hj (by omega) (hw.2.2.2.2.2.2.2.2.1 j hj)
theorem hgs_ld_wp (hw : hgWf M) (hg : hgGw g) (hj : j < 8) : hgEx X rm C J ((.iaload, l, ps, hs) :: rs) L (.int (nI j) :: .ref (g + 26) :: S) K M = hgEx X rm C J rs L (.int (hgI M (g + 26) j) :: S) K M := hgx_iaload (n := 8) (hgArf hw (by have := hgGw_le hg; omega) (by rw [hgSh_g hg (by omega)]; rfl)) (by have := hgGw_le hg; omega) hj (by omega)
theorem hgs_st_wp (hw : hgWf M) (hg : hgGw g) (hj : j < 8) : hgEx X rm C J ((.iastore, l, ps, hs) :: rs) L (.int x :: .int (nI j) :: .ref (g + 26) :: S) K M = hgEx X rm C J rs L S K (hgSI M (g + 26) j x) := hgx_iastore (n := 8) (hgArf hw (by have := hgGw_le hg; omega) (by rw [hgSh_g hg (by omega)]; rfl)) hj (by omega)
theorem hgs_ld_qf (hw : hgWf M) (hg : hgGw g) (hj : j < 3) : hgEx X rm C J ((.iaload, l, ps, hs) :: rs) L (.int (nI j) :: .ref (g + 27) :: S) K M = hgEx X rm C J rs L (.int (hgI M (g + 27) j) :: S) K M := hgx_iaload (n := 3) (hgArf hw (by have := hgGw_le hg; omega) (by rw [hgSh_g hg (by omega)]; rfl)) (by have := hgGw_le hg; omega) hj (by omega)
theorem hgs_st_qf (hw : hgWf M) (hg : hgGw g) (hj : j < 3) : hgEx X rm C J ((.iastore, l, ps, hs) :: rs) L (.int x :: .int (nI j) :: .ref (g + 27) :: S) K M = hgEx X rm C J rs L S K (hgSI M (g + 27) j x) := hgx_iastore (n := 3) (hgArf hw (by have := hgGw_le hg; omega) (by rw [hgSh_g hg (by omega)]; rfl)) hj (by omega)
theorem hgs_ld_qt (hw : hgWf M) (hg : hgGw g) (hj : j < 3) : hgEx X rm C J ((.iaload, l, ps, hs) :: rs) L (.int (nI j) :: .ref (g + 28) :: S) K M = hgEx X rm C J rs L (.int (hgI M (g + 28) j) :: S) K M := hgx_iaload (n := 3) (hgArf hw (by have := hgGw_le hg; omega) (by rw [hgSh_g hg (by omega)]; rfl)) (by have := hgGw_le hg; omega) hj (by omega)
theorem hgs_st_qt (hw : hgWf M) (hg : hgGw g) (hj : j < 3) : hgEx X rm C J ((.iastore, l, ps, hs) :: rs) L (.int x :: .int (nI j) :: .ref (g + 28) :: S) K M = hgEx X rm C J rs L S K (hgSI M (g + 28) j x) := hgx_iastore (n := 3) (hgArf hw (by have := hgGw_le hg; omega) (by rw [hgSh_g hg (by omega)]; rfl)) hj (by omega)
theorem hgs_ld_2 (hw : hgWf M) (hj : j < 512) : hgEx X rm C J ((.iaload, l, ps, hs) :: rs) L (.int (nI j) :: .ref 2 :: S) K M = hgEx X rm C J rs L (.int (hgI M 2 j) :: S) K M := hgx_iaload (n := 512) (hgArf hw (by omega) rfl) (by omega) hj (by omega)
theorem hgs_st_2 (hw : hgWf M) (hj : j < 512) : hgEx X rm C J ((.iastore, l, ps, hs) :: rs) L (.int x :: .int (nI j) :: .ref 2 :: S) K M = hgEx X rm C J rs L S K (hgSI M 2 j x) := hgx_iastore (n := 512) (hgArf hw (by omega) rfl) hj (by omega)
theorem hgs_ld_3 (hw : hgWf M) (hj : j < 512) : hgEx X rm C J ((.iaload, l, ps, hs) :: rs) L (.int (nI j) :: .ref 3 :: S) K M = hgEx X rm C J rs L (.int (hgI M 3 j) :: S) K M := hgx_iaload (n := 512) (hgArf hw (by omega) rfl) (by omega) hj (by omega)
theorem hgs_st_3 (hw : hgWf M) (hj : j < 512) : hgEx X rm C J ((.iastore, l, ps, hs) :: rs) L (.int x :: .int (nI j) :: .ref 3 :: S) K M = hgEx X rm C J rs L S K (hgSI M 3 j x) := hgx_iastore (n := 512) (hgArf hw (by omega) rfl) hj (by omega)
theorem hgs_ld_4 (hw : hgWf M) (hj : j < 512) : hgEx X rm C J ((.iaload, l, ps, hs) :: rs) L (.int (nI j) :: .ref 4 :: S) K M = hgEx X rm C J rs L (.int (hgI M 4 j) :: S) K M := hgx_iaload (n := 512) (hgArf hw (by omega) rfl) (by omega) hj (by omega)
theorem hgs_st_4 (hw : hgWf M) (hj : j < 512) : hgEx X rm C J ((.iastore, l, ps, hs) :: rs) L (.int x :: .int (nI j) :: .ref 4 :: S) K M = hgEx X rm C J rs L S K (hgSI M 4 j x) := hgx_iastore (n := 512) (hgArf hw (by omega) rfl) hj (by omega)
theorem hgs_ld_301 (hw : hgWf M) (hj : j < 900) : hgEx X rm C J ((.iaload, l, ps, hs) :: rs) L (.int (nI j) :: .ref 301 :: S) K M = hgEx X rm C J rs L (.int (hgI M 301 j) :: S) K M := hgx_iaload (n := 900) (hgArf hw (by omega) rfl) (by omega) hj (by omega)
theorem hgs_st_301 (hw : hgWf M) (hj : j < 900) : hgEx X rm C J ((.iastore, l, ps, hs) :: rs) L (.int x :: .int (nI j) :: .ref 301 :: S) K M = hgEx X rm C J rs L S K (hgSI M 301 j x) := hgx_iastore (n := 900) (hgArf hw (by omega) rfl) hj (by omega)
theorem hgs_ld_D (ha : hgAr M a 20 20187) (h2 : a ≠ 2000) (hj : j < 20187) : hgEx X rm C J ((.iaload, l, ps, hs) :: rs) L (.int (nI j) :: .ref a :: S) K M = hgEx X rm C J rs L (.int (hgI M a j) :: S) K M := hgx_iaload (n := 20187) (ha) (h2) hj (by omega)
theorem hgs_st_D (ha : hgAr M a 20 20187) (h2 : a ≠ 2000) (hj : j < 20187) : hgEx X rm C J ((.iastore, l, ps, hs) :: rs) L (.int x :: .int (nI j) :: .ref a :: S) K M = hgEx X rm C J rs L S K (hgSI M a j x) := hgx_iastore (n := 20187) (ha) hj (by omega)
theorem hgs_ld_s (hj : j < X.1) (hn : X.1 < 2147483648) : hgEx X rm C J ((.iaload, l, ps, hs) :: rs) L (.int (nI j) :: .ref 2000 :: S) K M = hgEx X rm C J rs L (.int (X.2 j) :: S) K M := hgx_sload hj hn
theorem hgs_ld_T (ha : hgAr M a 21 10) (hj : j < 10) : hgEx X rm C J ((.laload, l, ps, hs) :: rs) L (.int (nI j) :: .ref a :: S) K M = hgEx X rm C J rs L (.long (hgJ M a j) :: S) K M := hgx_laload (n := 10) (ha) hj (by omega)
theorem hgs_st_T (ha : hgAr M a 21 10) (hj : j < 10) : hgEx X rm C J ((.lastore, l, ps, hs) :: rs) L (.long u :: .int (nI j) :: .ref a :: S) K M = hgEx X rm C J rs L S K (hgSJ M a j u) := hgx_lastore (n := 10) (ha) hj (by omega)
theorem hgs_ld_o (hw : hgWf M) (hj : j < 1) : hgEx X rm C J ((.laload, l, ps, hs) :: rs) L (.int (nI j) :: .ref 325 :: S) K M = hgEx X rm C J rs L (.long (hgJ M 325 j) :: S) K M := hgx_laload (n := 1) (hgArf hw (by omega) rfl) hj (by omega)
theorem hgs_st_o (hw : hgWf M) (hj : j < 1) : hgEx X rm C J ((.lastore, l, ps, hs) :: rs) L (.long u :: .int (nI j) :: .ref 325 :: S) K M = hgEx X rm C J rs L S K (hgSJ M 325 j u) := hgx_lastore (n := 1) (hgArf hw (by omega) rfl) hj (by omega)
theorem hgs_ld_b (hw : hgWf M) (hj : j < 900) : hgEx X rm C J ((.baload, l, ps, hs) :: rs) L (.int (nI j) :: .ref 5 :: S) K M = hgEx X rm C J rs L (.int (hgI M 5 j) :: S) K M := hgx_baload2 (n := 900) (hgArf hw (by omega) rfl) hj (by omega)
theorem hgs_st_b (hw : hgWf M) (hj : j < 900) : hgEx X rm C J ((.bastore, l, ps, hs) :: rs) L (.int x :: .int (nI j) :: .ref 5 :: S) K M = hgEx X rm C J rs L S K (hgSI M 5 j (vp_nar .byte x)) := hgx_bastore2 (n := 900) (hgArf hw (by omega) rfl) hj (by omega)
theorem hgs_ld_z (hw : hgWf M) (hj : j < 3) : hgEx X rm C J ((.baload, l, ps, hs) :: rs) L (.int (nI j) :: .ref 299 :: S) K M = hgEx X rm C J rs L (.int (hgI M 299 j) :: S) K M := hgx_baload3 (n := 3) (hgArf hw (by omega) rfl) hj (by omega)
theorem hgs_st_z (hw : hgWf M) (hj : j < 3) : hgEx X rm C J ((.bastore, l, ps, hs) :: rs) L (.int x :: .int (nI j) :: .ref 299 :: S) K M = hgEx X rm C J rs L S K (hgSI M 299 j (vp_nar .boolean x)) := hgx_bastore3 (n := 3) (hgArf hw (by omega) rfl) hj (by omega)
theorem hgs_al_b (hw : hgWf M) : hgEx X rm C J ((.arraylength, l, ps, hs) :: rs) L (.ref 5 :: S) K M = hgEx X rm C J rs L (.int (nI 900) :: S) K M := hgx_alen (n := 900) (ci := 22) (hgArf hw (by omega) rfl) (by omega) (by omega)
end HGWF

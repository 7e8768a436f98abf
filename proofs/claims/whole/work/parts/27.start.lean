/-! THE START: what the Statement gives at the law's entry. -/
def hgRep : List (String × Nat) := [("HomeGateway$SetupReader", 102), ("HomeGateway$SetupReader", 108), ("HomeGateway$SetupReader", 110), ("HomeGateway$SetupReader", 112), ("HomeGateway$SetupReader", 114), ("HomeGateway$SetupReader", 116), ("HomeGateway$SetupReader", 128), ("HomeGateway$SetupReader", 133), ("HomeGateway$SetupReader", 139), ("HomeGateway$SetupReader", 141), ("HomeGateway$SetupReader", 146), ("HomeGateway$SetupReader", 151)]
def hgTm (i : Nat) : Term := Term.string (hgRep.getD i ("", 0)).1 (hgRep.getD i ("", 0)).2
def hgFlat : List Cond := flatC (Jvm.Cond.and given_1 narrow_1)
def hgStrOk (i : Nat) : Bool := decide (Cond.exactly (hgTm i) "java/lang/String" ∈ hgFlat) && decide (Cond.eq (.field (hgTm i) "java/lang/String" "coder" "B") (.int 0) ∈ hgFlat) && decide (Cond.arrayOf (.field (hgTm i) "java/lang/String" "value" "[B") .byte ∈ hgFlat) && decide (Cond.eq (.length (.field (hgTm i) "java/lang/String" "value" "[B")) (.int (Int32.ofNat (hgStr.getD i []).length)) ∈ hgFlat) && (List.range (hgStr.getD i []).length).all (fun j => decide (Cond.eq (.elem (.field (hgTm i) "java/lang/String" "value" "[B") (.int (Int32.ofNat j))) (.int (nI ((hgStr.getD i []).getD j 0))) ∈ hgFlat))
set_option maxRecDepth 100000 in
theorem hgStrAll : (List.range 12).all hgStrOk = true := by decide +kernel
/-- of each text of the tables: it is a String; one of the twelve words is the one that stands for it -/
def hgRefOk (w : Cond) : Bool := match w with
  | .stringRef own k tx => decide (Cond.exactly (.string own k) "java/lang/String" ∈ hgFlat) && (List.range 12).all (fun i => if hgTx[i]? = some tx then (decide (Term.string own k = hgTm i) || decide (Cond.eq (.string own k) (hgTm i) ∈ hgFlat) || decide (Cond.eq (hgTm i) (.string own k) ∈ hgFlat)) else true)
  | _ => true
set_option maxRecDepth 100000 in
theorem hgRefAll : tables_1.all hgRefOk = true := by decide +kernel
set_option maxRecDepth 100000 in
theorem hgStW : [Cond.laysStatic Bundle.tN "UNASSIGNED_STACK" Bundle.steD, Cond.laysStatic Bundle.tN "SUPPRESSED_SENTINEL" Bundle.listD, Cond.initialized Bundle.tN, Cond.laysStatic "java/lang/String" "COMPACT_STRINGS" "Z", Cond.initialized "java/lang/String", Cond.laysStatic "jdk/internal/util/Preconditions" "SIOOBE_FORMATTER" "Ljava/util/function/BiFunction;", Cond.initialized "jdk/internal/util/Preconditions", Cond.arrayOver (.object RX0), Cond.arrayOver (.object RX4), Cond.arrayOver (.object RX1), Cond.arrayOver (.array .int), Cond.arrayOver (.array .long), Cond.arrayClass .int, Cond.arrayClass .long, Cond.arrayClass .byte, Cond.arrayClass .boolean].all (fun w => decide (w ∈ lw_tbl)) = true := by decide +kernel
set_option maxRecDepth 100000 in
theorem hgStF : [Cond.isRef (.static Bundle.tN "UNASSIGNED_STACK" Bundle.steD), Cond.isRef (.static Bundle.tN "SUPPRESSED_SENTINEL" Bundle.listD), Cond.isRef (.static "jdk/internal/util/Preconditions" "SIOOBE_FORMATTER" "Ljava/util/function/BiFunction;"), Cond.eq (.static "java/lang/String" "COMPACT_STRINGS" "Z") (.int 1), Cond.not (.castable (hgXn 0) (hgXn 1)), Cond.not (.castable (hgXn 0) (hgXn 2)), Cond.not (.castable (hgXn 1) (hgXn 0)), Cond.not (.castable (hgXn 1) (hgXn 2)), Cond.not (.castable (hgXn 2) (hgXn 0)), Cond.not (.castable (hgXn 2) (hgXn 1))].all (fun w => decide (w ∈ hgFlat)) = true := by decide +kernel
theorem hgDec {ws big : List Cond} (h : ws.all (fun w => decide (w ∈ big)) = true) : ∀ w ∈ ws, w ∈ big := fun w hw => of_decide_eq_true (List.all_eq_true.mp h w hw)
theorem hgEqRef {args : Array Value} {s : State} {t u : Term} {a b : Nat} (h : (Cond.eq t u).before args s = true) (h1 : t.eval args s none [] s = some (.ref a)) (h2 : u.eval args s none [] s = some (.ref b)) : a = b := by
  simp [Cond.before, Cond.holds, Cond.value, h1, h2] at h
  exact h
set_option maxHeartbeats 4000000 in
set_option maxRecDepth 100000 in
theorem hg_stat0 {s : State} {b L : Nat} {xs : Nat → Int32} (hts : ∀ w ∈ lw_tbl, w.before #[Value.ref b] s = true) (hX : va_X b L xs s s.heap) (hbl : b < s.heap.size) (hgv : (Jvm.Cond.and given_1 narrow_1).before #[Value.ref b] s = true) : ∃ ad : Nat → Nat, ad 2000 = b ∧ hgStat s.heap.size (L, xs) ad s s.heap := by
  have hfl : ∀ w ∈ hgFlat, w.before #[Value.ref b] s = true := flat_of_before _ hgv
  have hA : ∀ a : Nat, a < s.heap.size → ¬ hgA s.heap.size a := fun a h1 h2 => Nat.lt_irrefl _ (Nat.lt_of_lt_of_le h1 h2)
  have hw := hgDec hgStW
  have hf := hgDec hgStF
  have h0 : ∀ i : Nat, ∃ a : Nat, i < 12 → (hgTm i).eval #[Value.ref b] s none [] s = some (.ref a) ∧ ∃ av : Nat, va_O "java/lang/String" a (hgA s.heap.size) s s.heap ∧ va_OF "java/lang/String" "coder" "B" (.int 0) a (hgA s.heap.size) s s.heap ∧ va_OF "java/lang/String" "value" "[B" (.ref av) a (hgA s.heap.size) s s.heap ∧ va_T .byte av (hgStr.getD i []).length (fun j => .int (nI ((hgStr.getD i []).getD j 0))) (hgA s.heap.size) s s.heap := by
    intro i
    by_cases hi : i < 12
    · have hok := List.all_eq_true.mp hgStrAll i (List.mem_range.mpr hi)
      unfold hgStrOk at hok
      simp only [Bool.and_eq_true, decide_eq_true_eq] at hok
      obtain ⟨⟨⟨⟨a1, a2⟩, a3⟩, a4⟩, a5⟩ := hok
      obtain ⟨a, c, cA, kA, q1, q2, q3, q4, q5, q6, -⟩ := Cond.exactly_spec (args := #[Value.ref b]) (first := s) (o := none) (s := s) (idx := []) (t := hgTm i) (cls := "java/lang/String") (hfl _ a1)
      obtain ⟨t, ht, hT⟩ := va_Tof (f := fun j => .int (nI ((hgStr.getD i []).getD j 0))) (A := hgA s.heap.size) (hgStr_len i) (hfl _ a3) (va_eqt (hfl _ a4)) (fun j hj => va_eqt (hfl _ (of_decide_eq_true (List.all_eq_true.mp a5 j (List.mem_range.mpr hj))))) hA
      exact ⟨a, fun _ => ⟨q1, t, ⟨cA, q3, q5, by rw [q6]; exact q2, hA a (Array.getElem?_eq_some_iff.mp q3).1⟩, vk_OFof q1 (va_eqt (hfl _ a2)) hA, vk_OFof q1 ht hA, hT⟩⟩
    · exact ⟨0, fun h => absurd h hi⟩
  have hch : ∀ i, i < 12 → (hgTm i).eval #[Value.ref b] s none [] s = some (.ref (Classical.choose (h0 i))) ∧ _ := fun i hi => Classical.choose_spec (h0 i) hi
  refine ⟨fun n => if n = 2000 then b else Classical.choose (h0 (n - 1000)), if_pos rfl, ?_⟩
  have ead : ∀ i, i < 12 → (if 1000 + i = 2000 then b else Classical.choose (h0 (1000 + i - 1000))) = Classical.choose (h0 i) := fun i hi => by
    rw [if_neg (by omega), show 1000 + i - 1000 = i by omega]
  refine ⟨vx_Zqof (hts _ (hw _ (by simp))) (hts _ (hw _ (by simp))) (hfl _ (hf _ (by simp))) hA, vx_Zqof (hts _ (hw _ (by simp))) (hts _ (hw _ (by simp))) (hfl _ (hf _ (by simp))) hA, fun i hi => ?_, ⟨fun own k tx hm => ?_, va_AO.of (hts _ (hw (.arrayOver (.object RX0)) (by simp))), va_AO.of (hts _ (hw (.arrayOver (.object RX4)) (by simp))), va_AO.of (hts _ (hw (.arrayOver (.object RX1)) (by simp))), hts _ (hw (.arrayOver (.array .int)) (by simp)), hts _ (hw (.arrayOver (.array .long)) (by simp)), ?_, fun w h1 h2 => va_Nw.of (hgDc_on h2) (hts w h1)⟩, va_Zof (hts _ (hw _ (by simp))) (hts _ (hw _ (by simp))) (va_eqt (hfl _ (hf _ (by simp)))) hA, va_Zqof (hts _ (hw _ (by simp))) (hts _ (hw _ (by simp))) (hfl _ (hf _ (by simp))) hA, ?_, ?_⟩
  · obtain ⟨g1, av, g2⟩ := hch i hi
    refine ⟨av, ?_⟩
    show va_O "java/lang/String" (if 1000 + i = 2000 then b else Classical.choose (h0 (1000 + i - 1000))) _ _ _ ∧ va_OF "java/lang/String" "coder" "B" (.int 0) (if 1000 + i = 2000 then b else Classical.choose (h0 (1000 + i - 1000))) _ _ _ ∧ va_OF "java/lang/String" "value" "[B" (.ref av) (if 1000 + i = 2000 then b else Classical.choose (h0 (1000 + i - 1000))) _ _ _ ∧ _
    rw [ead i hi]
    exact g2
  · have hok := List.all_eq_true.mp hgRefAll _ hm
    have hok : (decide (Cond.exactly (.string own k) "java/lang/String" ∈ hgFlat) && (List.range 12).all (fun i => if hgTx[i]? = some tx then (decide (Term.string own k = hgTm i) || decide (Cond.eq (.string own k) (hgTm i) ∈ hgFlat) || decide (Cond.eq (hgTm i) (.string own k) ∈ hgFlat)) else true)) = true := hok
    rw [Bool.and_eq_true, decide_eq_true_eq] at hok
    obtain ⟨a, c, cA, kA, q1, -⟩ := Cond.exactly_spec (args := #[Value.ref b]) (first := s) (o := none) (s := s) (idx := []) (t := .string own k) (cls := "java/lang/String") (hfl _ hok.1)
    refine ⟨a, vk_R.of (hts _ (List.mem_append_right _ hm)) q1, fun i hi => ?_⟩
    have hi12 : i < 12 := (List.getElem?_eq_some_iff.mp hi).1
    have := List.all_eq_true.mp hok.2 i (List.mem_range.mpr hi12)
    rw [if_pos hi] at this
    show a = (if 1000 + i = 2000 then b else Classical.choose (h0 (1000 + i - 1000)))
    rw [ead i hi12]
    simp only [Bool.or_eq_true, decide_eq_true_eq] at this
    have ev := (hch i hi12).1
    rcases this with (h | h) | h
    · rw [h, ev] at q1
      cases q1
      rfl
    · exact hgEqRef (hfl _ h) q1 ev
    · exact (hgEqRef (hfl _ h) ev q1).symm
  · intro E1 E2 h1 h2 h3
    have : (E1 = 0 ∧ E2 = 1) ∨ (E1 = 0 ∧ E2 = 2) ∨ (E1 = 1 ∧ E2 = 0) ∨ (E1 = 1 ∧ E2 = 2) ∨ (E1 = 2 ∧ E2 = 0) ∨ (E1 = 2 ∧ E2 = 1) := by omega
    rcases this with ⟨rfl, rfl⟩ | ⟨rfl, rfl⟩ | ⟨rfl, rfl⟩ | ⟨rfl, rfl⟩ | ⟨rfl, rfl⟩ | ⟨rfl, rfl⟩ <;> exact va_Nc.of (hfl _ (hf _ (by simp)))
  · show va_X (if 2000 = 2000 then b else _) L xs s s.heap
    rw [if_pos rfl]
    exact hX
  · show (if 2000 = 2000 then b else _) < s.heap.size
    rw [if_pos rfl]
    exact hbl
theorem hg_arr1 {args : Array Value} {s : State} {t : FieldType} (h : (Cond.arrayClass t).before args s = true) (ho : ∀ C, t ≠ .object C) : ∃ c : ClassId, ArrOfT s c t ∧ va_RA s c t := by
  obtain ⟨c, k, comp, h1, h2, h3⟩ := Cond.arrayClass_spec h
  refine ⟨c, fun N z => ⟨(fun q hq => by cases hq), k, h2, comp, h3⟩, ?_⟩
  cases t <;> first | exact h1 | exact absurd rfl (ho _)
theorem hg_arr2 {s : State} {C : String} (h : va_AO C s) : ∃ c : ClassId, ArrOfT s c (.object C) ∧ va_RA s c (.object C) := by
  obtain ⟨comp, c, k, h1, h2, h3, h4, h5⟩ := Cond.arrayOver_spec h
  exact ⟨c, fun N z => ⟨(fun q hq => by cases hq), k, h3, comp, h4⟩, k, comp, h3, h4, h1, h5⟩
theorem hg_arr3 {s : State} {t : FieldType} (h : va_AOA t s) : ∃ c : ClassId, ArrOfT s c (.array t) ∧ va_RA s c (.array t) := by
  obtain ⟨comp, c, k, h1, h2, h3, h4, h5⟩ := arrayOverA_spec h
  exact ⟨c, fun N z => ⟨(fun q hq => by cases hq), k, h3, comp, h4⟩, h5⟩
set_option maxHeartbeats 4000000 in
set_option maxRecDepth 100000 in
theorem hg_tab0 {s : State} {args : Array Value} (hts : ∀ w ∈ lw_tbl, w.before args s = true) (hao : hgAov s) : ∃ (D : va_G) (cy : Nat → ClassId), va_K D vwCl (hgTys cy) s := by
  have hts2 : ∀ w ∈ hgTb, w.before args s = true := fun w hw => hts w (List.mem_filter.mp hw).1
  have h1 : ∀ ci : Nat, ∃ q : ClassId × (Nat → Nat), ∀ v, vwCl[ci]? = some v → u_Kn s v.1 v.2.1 v.2.2 q.1 q.2 := by
    intro ci
    cases h : vwCl[ci]? with
    | none => exact ⟨(0, fun _ => 0), fun v hv => by cases hv⟩
    | some v =>
      obtain ⟨C, T, N⟩ := v
      obtain ⟨g1, -, -, -, -, g6, -⟩ := hgCls h
      obtain ⟨cC, iS, hk⟩ := u_known (C := C) (T := T) (N := N) (n := N) hts2 g1 (hts2 _ g6)
      exact ⟨(cC, iS), fun v hv => by cases hv; exact hk⟩
  have hw := hgDec hgStW
  obtain ⟨c20, h20⟩ := hg_arr1 (hts (.arrayClass .int) (hw _ (by simp))) (fun C h => by cases h)
  obtain ⟨c21, h21⟩ := hg_arr1 (hts (.arrayClass .long) (hw _ (by simp))) (fun C h => by cases h)
  obtain ⟨c22, h22⟩ := hg_arr1 (hts (.arrayClass .byte) (hw _ (by simp))) (fun C h => by cases h)
  obtain ⟨c23, h23⟩ := hg_arr1 (hts (.arrayClass .boolean) (hw _ (by simp))) (fun C h => by cases h)
  obtain ⟨c24, h24⟩ := hg_arr2 hao.1
  obtain ⟨c25, h25⟩ := hg_arr2 hao.2.1
  obtain ⟨c26, h26⟩ := hg_arr2 hao.2.2.1
  obtain ⟨c27, h27⟩ := hg_arr3 hao.2.2.2.1
  obtain ⟨c28, h28⟩ := hg_arr3 hao.2.2.2.2.1
  refine ⟨(fun ci => (Classical.choose (h1 ci)).1, fun ci => (Classical.choose (h1 ci)).2), fun k => if k = 20 then c20 else if k = 21 then c21 else if k = 22 then c22 else if k = 23 then c23 else if k = 24 then c24 else if k = 25 then c25 else if k = 26 then c26 else if k = 27 then c27 else c28, fun ci v hv => Classical.choose_spec (h1 ci) v hv, fun k q hk => ?_⟩
  match k, hk with
  | 0, hk => cases hk; exact h20
  | 1, hk => cases hk; exact h21
  | 2, hk => cases hk; exact h22
  | 3, hk => cases hk; exact h23
  | 4, hk => cases hk; exact h24
  | 5, hk => cases hk; exact h25
  | 6, hk => cases hk; exact h26
  | 7, hk => cases hk; exact h27
  | 8, hk => cases hk; exact h28
  | k + 9, hk => simp [hgTys] at hk

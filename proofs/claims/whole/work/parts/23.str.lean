/-! THE TEXTS: String.length and String.charAt of the program's own words. -/
theorem hgS128 : ∀ l ∈ hgStr, ∀ x ∈ l, x < 128 := by decide +kernel
theorem hgStr_lt (a j : Nat) : (hgStr.getD a []).getD j 0 < 128 := by
  by_cases h : a < hgStr.length
  · have e1 : hgStr.getD a [] = hgStr[a] := by simp [List.getD, h]
    rw [e1]
    by_cases h2 : j < hgStr[a].length
    · have e2 : hgStr[a].getD j 0 = hgStr[a][j] := by simp [List.getD, h2]
      rw [e2]
      exact hgS128 _ (List.getElem_mem h) _ (List.getElem_mem h2)
    · have e2 : hgStr[a].getD j 0 = 0 := by simp [List.getD, h2]
      rw [e2]
      decide
  · have e1 : hgStr.getD a [] = [] := by simp [List.getD, h]
    rw [e1]
    simp [List.getD]
theorem hgByte : ∀ k, k < 128 → ((nI k &&& 255).toUInt32 % 65536).toInt32 = nI k ∧ narrow .char (.int (nI k)) = .int (nI k) := by decide +kernel
set_option maxRecDepth 100000 in
theorem hgJw : [Cond.code yJ3_checkIndex_8e157 cJ3_checkIndex_8e157 3 (some .int), Cond.code yJ0_checkIndex_df160 cJ0_checkIndex_df160 2 none, Cond.code yJ1_charAt_3b067 cJ1_charAt_3b067 2 (some .char), Cond.code yJ0_isLatin1_aae02 cJ0_isLatin1_aae02 1 (some .boolean), Cond.code yJ0_coder_7d493 cJ0_coder_7d493 1 (some .byte), Cond.code yJ0_length_8abf5 cJ0_length_8abf5 1 (some .int), Cond.code yJ0_charAt_5068e cJ0_charAt_5068e 2 (some .char), Cond.initialized RJ0, Cond.initialized RJ1, Cond.initialized RJ3,
  Cond.methodLink RJ0 1059 yJ3_checkIndex_8e157, Cond.static yJ3_checkIndex_8e157, Cond.methodLink RJ1 9 yJ0_checkIndex_df160, Cond.static yJ0_checkIndex_df160, Cond.methodLink RJ0 495 yJ1_charAt_3b067, Cond.static yJ1_charAt_3b067, Cond.methodLink RJ0 492 yJ0_isLatin1_aae02, Cond.instanceMethod yJ0_isLatin1_aae02, Cond.selects RJ0 yJ0_isLatin1_aae02 yJ0_isLatin1_aae02, Cond.methodLink RJ0 335 yJ0_coder_7d493, Cond.instanceMethod yJ0_coder_7d493, Cond.selects RJ0 yJ0_coder_7d493 yJ0_coder_7d493,
  Cond.instanceMethod yJ0_length_8abf5, Cond.selects RJ0 yJ0_length_8abf5 yJ0_length_8abf5, Cond.instanceMethod yJ0_charAt_5068e, Cond.selects RJ0 yJ0_charAt_5068e yJ0_charAt_5068e, Cond.fieldLink RJ0 38 RJ0 "COMPACT_STRINGS" "Z", Cond.fieldLink RJ0 1053 RJ3 "SIOOBE_FORMATTER" "Ljava/util/function/BiFunction;", Cond.fieldLink RJ0 9 RJ0 "value" "[B", Cond.fieldLink RJ0 15 RJ0 "coder" "B"].all hgIt = true := by decide +kernel
/-- what these methods find: the texts -/
def hgPj (B0 : Nat) (X : hgX) (ad : Nat → Nat) (av : List Value) : Array Value → State → Prop := va_Pc av (fun U => hgStat B0 X ad U U.heap)
def hgQv : Array Value → State → Outcome → State → Prop := fun _ st o t => o = .returned none ∧ t.heap = st.heap
section HGSTR
variable {l : Launch} {B0 : Nat} {X : hgX} {ad : Nat → Nat}
theorem hgPj_blind {av : List Value} : FrameBlind (hgPj B0 X ad av) := fun a U g mk h => ⟨h.1, hgStat.warm (s := U) (U := U.calling g mk a) (State.WarmedH.refl U) h.2⟩
theorem hgPj_of {av : List Value} {s U : State} (h : hgStat B0 X ad s s.heap) (hU : U.heap = s.heap) (hW : s.WarmedH U.vm) : hgPj B0 X ad av av.toArray U := ⟨rfl, by show hgStat B0 X ad U U.heap; rw [hU]; exact h.warm hW⟩
theorem hgJb {R : Room} {s : State} {args : Array Value} (hts : ∀ w ∈ hgTb, w.before args s = true) {own : String} {idx : Nat} {y : MethodName} {cc : ByteArray} {n : Nat} {ret : Option FieldType} {f k a : Nat} (h1 : Cond.code y cc n ret ∈ hgTb) (h2 : Cond.initialized y.cls ∈ hgTb) (h3 : Cond.methodLink own idx y ∈ hgTb) (h4 : y.cls ≠ "java/lang/invoke/MethodHandle" ∧ y.cls ≠ "java/lang/invoke/VarHandle") (h5 : ∀ sig, parseMethodDescriptor y.desc = some sig → a = sig.parameters.length) (hf : f + 1 ≤ R.frames) (hl : 8 + (n + 11) + k ≤ R.locals) :
    CallB R s args own idx y cc n ret (Cond.code y cc n ret :: hgTb) (k2_rm f k) 0 0 a := by
  refine ⟨rfl, rfl, hf, hl, fun w hw a' U hW => ?_, List.mem_cons_self, hts _ h1, hts _ h2, h4, h5, hts _ h3⟩
  have hin : w ∈ hgTb := by
    rcases List.mem_cons.mp hw with h | h
    · rw [h]; exact h1
    · exact h
  exact word_at hW (good_of_word (List.mem_filter.mp hin).2) (hts w hin)
theorem hgSig {y : MethodName} {a : Nat} (h : (parseMethodDescriptor y.desc).map (fun d => d.parameters.length) = some a) : ∀ sig, parseMethodDescriptor y.desc = some sig → a = sig.parameters.length := by
  intro sig hs
  rw [hs] at h
  exact (Option.some.inj h).symm
set_option maxHeartbeats 4000000 in
set_option maxRecDepth 100000 in
theorem cj_pre (i n : Int32) (v : Value) (h0 : ¬ i < 0) (h1 : i < n) : Met l yJ3_checkIndex_8e157 (Cond.code yJ3_checkIndex_8e157 cJ3_checkIndex_8e157 3 (some .int) :: hgTb) (k2_rm 1 40) (va_Pc [.int i, .int n, v] (fun _ => v.category = 1)) (QcRead i) 0 0 (fun _ => False) := by
  refine Met.ofW (cc := cJ3_checkIndex_8e157) (maxL := 3) (ret := some .int) (by decide) rfl ?_
  intro p e s m args below meth c s₁ B hml hv
  obtain ⟨rfl, hcat⟩ := hv
  have hx := B.exec
  have hb := B.bytes
  have hr := B.returns
  have hlocks := B.notSynchronized
  have hl := lv_entry ([.int i, .int n, v]) (n := 3) (by cases v <;> first | exact Nat.le_of_ble_eq_true rfl | (simp [Value.category] at hcat))
  rw [lg_entry_eq]
  generalize (lg_sl ([.int i, .int n, v]) ++ List.replicate (3 - (lg_sl ([.int i, .int n, v])).length) Slot.unset).toArray = ls at hl ⊢
  have hl : lv_has ls 3 [(0, .int i), (1, .int n), (2, v)] := hl
  refine lv_iload_n hx hb (show decode cJ3_checkIndex_8e157 0 = .ok (.iload_n 0, 1) by decide +kernel) rfl (lv_at hl 0 rfl) ?_
  refine lv_if_lt (tgt := 9) hx hb (show decode cJ3_checkIndex_8e157 1 = .ok (.ifCond .lt 8, 3) by decide +kernel) (by decide) (fun g => absurd g h0) (fun _ => ?_)
  refine lv_iload_n hx hb (show decode cJ3_checkIndex_8e157 4 = .ok (.iload_n 0, 1) by decide +kernel) rfl (lv_at hl 0 rfl) ?_
  refine lv_iload_n hx hb (show decode cJ3_checkIndex_8e157 5 = .ok (.iload_n 1, 1) by decide +kernel) rfl (lv_at hl 1 rfl) ?_
  refine lv_icmp_lt (tgt := 16) hx hb (show decode cJ3_checkIndex_8e157 6 = .ok (.if_icmp .lt 10, 3) by decide +kernel) (by decide) (fun _ => ?_) (fun g => absurd h1 g)
  refine lv_iload_n hx hb (show decode cJ3_checkIndex_8e157 16 = .ok (.iload_n 0, 1) by decide +kernel) rfl (lv_at hl 0 rfl) ?_
  exact W.iret (v := i) hx hb hr (fun t ht _ => ⟨rfl, ht⟩) (fun q h => by cases h) (show decode cJ3_checkIndex_8e157 17 = .ok (.ireturn, 1) by decide +kernel)
set_option maxHeartbeats 4000000 in
set_option maxRecDepth 100000 in
theorem cj_chk (i n : Int32) (h0 : ¬ i < 0) (h1 : i < n) : Met l yJ0_checkIndex_df160 (Cond.code yJ0_checkIndex_df160 cJ0_checkIndex_df160 2 none :: hgTb) (k2_rm 2 80) (hgPj B0 X ad [.int i, .int n]) hgQv 0 0 (fun _ => False) := by
  refine Met.ofW (cc := cJ0_checkIndex_df160) (maxL := 2) (ret := none) (by decide) rfl ?_
  intro p e s m args below meth c s₁ B hml hv
  obtain ⟨rfl, hst⟩ := hv
  have hst : hgStat B0 X ad s s.heap := hst
  have hx := B.exec
  have hb := B.bytes
  have hr := B.returns
  have hlocks := B.notSynchronized
  have hts0 := atoms_spec (ws := Cond.code yJ0_checkIndex_df160 cJ0_checkIndex_df160 2 none :: hgTb) B.pre
  have hts : ∀ w ∈ hgTb, w.before _ s = true := fun w hw => hts0 w (List.mem_cons_of_mem _ hw)
  have hj := hgAll_mem hgJw
  have hown : s.vm.findClass RJ0 = some m.cls := findClass_of_methodNamed B.named
  have hl := lv_entry ([.int i, .int n]) (n := 2) (Nat.le_of_ble_eq_true rfl)
  rw [lg_entry_eq]
  generalize (lg_sl ([.int i, .int n]) ++ List.replicate (2 - (lg_sl ([.int i, .int n])).length) Slot.unset).toArray = ls at hl ⊢
  have hl : lv_has ls 2 [(0, .int i), (1, .int n)] := hl
  refine lv_iload_n hx hb (show decode cJ0_checkIndex_df160 0 = .ok (.iload_n 0, 1) by decide +kernel) rfl (lv_at hl 0 rfl) ?_
  refine lv_iload_n hx hb (show decode cJ0_checkIndex_df160 1 = .ok (.iload_n 1, 1) by decide +kernel) rfl (lv_at hl 1 rfl) ?_
  have go : ∀ v : Value, v.category = 1 → W p l e (k2_rm 2 80) s m #[.int i, .int n] below meth c s.heap [] 0 0 (MQ below hgQv #[.int i, .int n] s 0 0 (fun _ => False)) (F0 m 5 ls [v, .int n, .int i]) := by
    intro v hv
    refine W.callR (W.runS (cc := cJ0_checkIndex_df160) (nL := 2) (Ts := hgTb) (own := RJ0) (As := [.int i, .int n, v]) (rest := []) ⟨hx, hb, hml, hown, hts⟩ (cj_pre i n v h0 h1) ⟨hgJb hts (hj _ (by simp)) (hj _ (by simp [yJ3_checkIndex_8e157])) (hj (.methodLink RJ0 1059 yJ3_checkIndex_8e157) (by simp)) ⟨by decide, by decide⟩ (hgSig (a := 3) (by decide +kernel)) (by decide) (by decide), hts _ (hj _ (by simp))⟩ ⟨fun a U g mk h => h, fun U hU hW => ⟨rfl, hv⟩⟩ rfl rfl hl.1 rfl (lv_room (Nat.le_of_ble_eq_true rfl)) (show decode cJ0_checkIndex_df160 5 = .ok (.invokestatic 1059, 3) by decide +kernel) ⟨Nat.le_refl _, Nat.le_refl _⟩) ?_
    refine lv_pop hx hb (show decode cJ0_checkIndex_df160 8 = .ok (.pop, 1) by decide +kernel) rfl ?_
    exact W.vret hx hb hr (fun t ht _ => ⟨rfl, ht⟩) (fun q h => by cases h) (show decode cJ0_checkIndex_df160 9 = .ok (.return_, 1) by decide +kernel)
  have hlink := hts _ (hj (.fieldLink RJ0 1053 RJ3 "SIOOBE_FORMATTER" "Ljava/util/function/BiFunction;") (by simp))
  rcases hst.2.2.2.2.2.1 with hz | ⟨t, hz⟩
  · exact va_gets hx hb hz va_S.rf hown hlink (fun _ h => h) (show decode cJ0_checkIndex_df160 2 = .ok (.getstatic 1053, 3) by decide +kernel) (go .null rfl)
  · exact va_gets hx hb hz va_S.rf hown hlink (fun _ h => h) (show decode cJ0_checkIndex_df160 2 = .ok (.getstatic 1053, 3) by decide +kernel) (go (.ref t) rfl)
theorem hgStr_len (a : Nat) : (hgStr.getD a []).length < 2 ^ 31 := by
  have h : ∀ l ∈ hgStr, l.length < 100 := by decide +kernel
  by_cases g : a < hgStr.length
  · have e1 : hgStr.getD a [] = hgStr[a] := by simp [List.getD, g]
    rw [e1]
    have := h _ (List.getElem_mem g)
    omega
  · have e1 : hgStr.getD a [] = [] := by simp [List.getD, g]
    rw [e1]
    decide
/-- a call that answers nothing and changes nothing -/
theorem hg_callQ {p : Program} {e : Env} {R : Room} {s : State} {m : MethodId} {args : Array Value} {below : List Frame} {meth : Method} {c : Code} {H : Heap} {locs : List Loc} {cells slots : Nat} {Q : State → Prop} {g : JFrame} {rest : List Value} {a : Array Value} (hr : CallRun p l e R s m args below meth c H locs cells slots 0 0 g rest (hgQv a) (fun _ => False)) (kk : W p l e R s m args below meth c H locs cells slots Q { g with pc := g.pc + 3, stack := rest }) : W p l e R s m args below meth c H locs cells slots Q g := by
  intro T hT Xs
  obtain ⟨v, st₀, t, T', L, h0, X', hL, e1, ⟨hv, hh⟩, st⟩ := hr T hT Xs
  cases hv
  have hL0 : L = [] := by
    cases L with
    | nil => rfl
    | cons x r => exact absurd (hL x List.mem_cons_self) id
  subst hL0
  rw [List.append_nil] at X'
  obtain ⟨t2, a1, b1⟩ := kk T' (by rw [e1, hh, h0]) X'
  exact ⟨t2, st t2 a1, b1⟩
set_option maxHeartbeats 4000000 in
set_option maxRecDepth 100000 in
theorem cj_cod (a : Nat) (ha : a < 12) : Met l yJ0_coder_7d493 (Cond.code yJ0_coder_7d493 cJ0_coder_7d493 1 (some .byte) :: hgTb) (k2_rm 1 40) (hgPj B0 X ad [.ref (ad (1000 + a))]) (QcRead 0) 0 0 (fun _ => False) := by
  refine Met.ofW (cc := cJ0_coder_7d493) (maxL := 1) (ret := some .byte) (by decide) rfl ?_
  intro p e s m args below meth c s₁ B hml hv
  obtain ⟨rfl, hst⟩ := hv
  have hst : hgStat B0 X ad s s.heap := hst
  have hx := B.exec
  have hb := B.bytes
  have hr := B.returns
  have hlocks := B.notSynchronized
  have hts0 := atoms_spec (ws := Cond.code yJ0_coder_7d493 cJ0_coder_7d493 1 (some .byte) :: hgTb) B.pre
  have hts : ∀ w ∈ hgTb, w.before _ s = true := fun w hw => hts0 w (List.mem_cons_of_mem _ hw)
  have hj := hgAll_mem hgJw
  have hown : s.vm.findClass RJ0 = some m.cls := findClass_of_methodNamed B.named
  have hl := lv_entry ([.ref (ad (1000 + a))]) (n := 1) (Nat.le_of_ble_eq_true rfl)
  rw [lg_entry_eq]
  generalize (lg_sl ([.ref (ad (1000 + a))]) ++ List.replicate (1 - (lg_sl ([.ref (ad (1000 + a))])).length) Slot.unset).toArray = ls at hl ⊢
  have hl : lv_has ls 1 [(0, .ref (ad (1000 + a)))] := hl
  obtain ⟨av, t1, t2, t3, t4⟩ := hst.2.2.1 a ha
  refine va_gets hx hb hst.2.2.2.2.1 va_S.rf hown (hts _ (hj (.fieldLink RJ0 38 RJ0 "COMPACT_STRINGS" "Z") (by simp))) (fun _ h => h) (show decode cJ0_coder_7d493 0 = .ok (.getstatic 38, 3) by decide +kernel) ?_
  refine lv_if_eq (tgt := 13) hx hb (show decode cJ0_coder_7d493 3 = .ok (.ifCond .eq 10, 3) by decide +kernel) (by decide) (fun g => absurd g (by decide)) (fun _ => ?_)
  refine lv_aload_n hx hb (show decode cJ0_coder_7d493 6 = .ok (.aload_n 0, 1) by decide +kernel) rfl (lv_at hl 0 rfl) ?_
  refine vk_getf hx hb t2 va_S.rf hown (hts _ (hj (.fieldLink RJ0 15 RJ0 "coder" "B") (by simp))) (fun _ h => h) (show decode cJ0_coder_7d493 7 = .ok (.getfield 15, 3) by decide +kernel) ?_
  refine lv_goto (tgt := 14) hx hb (show decode cJ0_coder_7d493 10 = .ok (.goto 4, 3) by decide +kernel) (by decide) ?_
  exact W.zret (v := 0) (ty := .byte) hx hb hr (by decide) (fun t ht _ => ⟨rfl, ht⟩) (fun q h => by cases h) (show decode cJ0_coder_7d493 14 = .ok (.ireturn, 1) by decide +kernel)
set_option maxHeartbeats 4000000 in
set_option maxRecDepth 100000 in
theorem cj_lat (a : Nat) (ha : a < 12) : Met l yJ0_isLatin1_aae02 (Cond.code yJ0_isLatin1_aae02 cJ0_isLatin1_aae02 1 (some .boolean) :: hgTb) (k2_rm 1 40) (hgPj B0 X ad [.ref (ad (1000 + a))]) (QcRead 1) 0 0 (fun _ => False) := by
  refine Met.ofW (cc := cJ0_isLatin1_aae02) (maxL := 1) (ret := some .boolean) (by decide) rfl ?_
  intro p e s m args below meth c s₁ B hml hv
  obtain ⟨rfl, hst⟩ := hv
  have hst : hgStat B0 X ad s s.heap := hst
  have hx := B.exec
  have hb := B.bytes
  have hr := B.returns
  have hlocks := B.notSynchronized
  have hts0 := atoms_spec (ws := Cond.code yJ0_isLatin1_aae02 cJ0_isLatin1_aae02 1 (some .boolean) :: hgTb) B.pre
  have hts : ∀ w ∈ hgTb, w.before _ s = true := fun w hw => hts0 w (List.mem_cons_of_mem _ hw)
  have hj := hgAll_mem hgJw
  have hown : s.vm.findClass RJ0 = some m.cls := findClass_of_methodNamed B.named
  have hl := lv_entry ([.ref (ad (1000 + a))]) (n := 1) (Nat.le_of_ble_eq_true rfl)
  rw [lg_entry_eq]
  generalize (lg_sl ([.ref (ad (1000 + a))]) ++ List.replicate (1 - (lg_sl ([.ref (ad (1000 + a))])).length) Slot.unset).toArray = ls at hl ⊢
  have hl : lv_has ls 1 [(0, .ref (ad (1000 + a)))] := hl
  obtain ⟨av, t1, t2, t3, t4⟩ := hst.2.2.1 a ha
  refine va_gets hx hb hst.2.2.2.2.1 va_S.rf hown (hts _ (hj (.fieldLink RJ0 38 RJ0 "COMPACT_STRINGS" "Z") (by simp))) (fun _ h => h) (show decode cJ0_isLatin1_aae02 0 = .ok (.getstatic 38, 3) by decide +kernel) ?_
  refine lv_if_eq (tgt := 17) hx hb (show decode cJ0_isLatin1_aae02 3 = .ok (.ifCond .eq 14, 3) by decide +kernel) (by decide) (fun g => absurd g (by decide)) (fun _ => ?_)
  refine lv_aload_n hx hb (show decode cJ0_isLatin1_aae02 6 = .ok (.aload_n 0, 1) by decide +kernel) rfl (lv_at hl 0 rfl) ?_
  refine vk_getf hx hb t2 va_S.rf hown (hts _ (hj (.fieldLink RJ0 15 RJ0 "coder" "B") (by simp))) (fun _ h => h) (show decode cJ0_isLatin1_aae02 7 = .ok (.getfield 15, 3) by decide +kernel) ?_
  refine lv_if_ne (tgt := 17) hx hb (show decode cJ0_isLatin1_aae02 10 = .ok (.ifCond .ne 7, 3) by decide +kernel) (by decide) (fun g => absurd rfl g) (fun _ => ?_)
  refine lv_iconst (v := 1) hx hb (show decode cJ0_isLatin1_aae02 13 = .ok (.iconst 1, 1) by decide +kernel) (by decide) ?_
  refine lv_goto (tgt := 18) hx hb (show decode cJ0_isLatin1_aae02 14 = .ok (.goto 4, 3) by decide +kernel) (by decide) ?_
  exact W.zret (v := 1) (ty := .boolean) hx hb hr (by decide) (fun t ht _ => ⟨rfl, ht⟩) (fun q h => by cases h) (show decode cJ0_isLatin1_aae02 18 = .ok (.ireturn, 1) by decide +kernel)
set_option maxHeartbeats 4000000 in
set_option maxRecDepth 100000 in
theorem cj_len (a : Nat) (ha : a < 12) : Met l yJ0_length_8abf5 (Cond.code yJ0_length_8abf5 cJ0_length_8abf5 1 (some .int) :: hgTb) (k2_rm 2 80) (hgPj B0 X ad [.ref (ad (1000 + a))]) (QcRead (nI (hgStr.getD a []).length)) 0 0 (fun _ => False) := by
  refine Met.ofW (cc := cJ0_length_8abf5) (maxL := 1) (ret := some .int) (by decide) rfl ?_
  intro p e s m args below meth c s₁ B hml hv
  obtain ⟨rfl, hst⟩ := hv
  have hst : hgStat B0 X ad s s.heap := hst
  have hx := B.exec
  have hb := B.bytes
  have hr := B.returns
  have hlocks := B.notSynchronized
  have hts0 := atoms_spec (ws := Cond.code yJ0_length_8abf5 cJ0_length_8abf5 1 (some .int) :: hgTb) B.pre
  have hts : ∀ w ∈ hgTb, w.before _ s = true := fun w hw => hts0 w (List.mem_cons_of_mem _ hw)
  have hj := hgAll_mem hgJw
  have hown : s.vm.findClass RJ0 = some m.cls := findClass_of_methodNamed B.named
  have hl := lv_entry ([.ref (ad (1000 + a))]) (n := 1) (Nat.le_of_ble_eq_true rfl)
  rw [lg_entry_eq]
  generalize (lg_sl ([.ref (ad (1000 + a))]) ++ List.replicate (1 - (lg_sl ([.ref (ad (1000 + a))])).length) Slot.unset).toArray = ls at hl ⊢
  have hl : lv_has ls 1 [(0, .ref (ad (1000 + a)))] := hl
  obtain ⟨av, t1, t2, t3, t4⟩ := hst.2.2.1 a ha
  have hrec : ∃ cell : Cell, s.heap[ad (1000 + a)]? = some cell ∧ cell.vm.isStatics = false ∧ s.vm.findClass RJ0 = some cell.cls := by
    obtain ⟨cell, q1, q2, q3, -⟩ := t1
    exact ⟨cell, q1, q2, q3⟩
  refine lv_aload_n hx hb (show decode cJ0_length_8abf5 0 = .ok (.aload_n 0, 1) by decide +kernel) rfl (lv_at hl 0 rfl) ?_
  refine vk_getf hx hb t3 va_S.rf hown (hts _ (hj (.fieldLink RJ0 9 RJ0 "value" "[B") (by simp))) (fun _ h => h) (show decode cJ0_length_8abf5 1 = .ok (.getfield 9, 3) by decide +kernel) ?_
  refine va_tlen hx hb t4 va_S.rf rfl (show decode cJ0_length_8abf5 4 = .ok (.arraylength, 1) by decide +kernel) ?_
  refine lv_aload_n hx hb (show decode cJ0_length_8abf5 5 = .ok (.aload_n 0, 1) by decide +kernel) rfl (lv_at hl 0 rfl) ?_
  refine W.callR (W.runV (cc := cJ0_length_8abf5) (nL := 1) (Ts := hgTb) (own := RJ0) (C := RJ0) (b := ad (1000 + a)) (As := []) (rest := [.int (Int32.ofNat (hgStr.getD a []).length)]) ⟨hx, hb, hml, hown, hts⟩ (cj_cod a ha) ⟨hgJb hts (hj _ (by simp)) (hj (.initialized RJ0) (by simp)) (hj (.methodLink RJ0 335 yJ0_coder_7d493) (by simp)) ⟨by decide, by decide⟩ (hgSig (a := 0) (by decide +kernel)) (by decide) (by decide), hts _ (hj _ (by simp)), hts _ (hj _ (by simp))⟩ ⟨hgPj_blind, hrec, fun U hU hW => hgPj_of hst hU hW⟩ rfl rfl hl.1 rfl (lv_room (Nat.le_of_ble_eq_true rfl)) (show decode cJ0_length_8abf5 6 = .ok (.invokevirtual 335, 3) by decide +kernel) ⟨Nat.le_refl _, Nat.le_refl _⟩) ?_
  refine lv_ishr hx hb (show decode cJ0_length_8abf5 9 = .ok (.ishr, 1) by decide +kernel) ?_
  have e9 : Int32.ofNat (hgStr.getD a []).length >>> ((0 : Int32) &&& 31) = nI (hgStr.getD a []).length := sb_shr0 _
  rw [e9]
  exact W.iret (v := nI (hgStr.getD a []).length) hx hb hr (fun t ht _ => ⟨rfl, ht⟩) (fun q h => by cases h) (show decode cJ0_length_8abf5 10 = .ok (.ireturn, 1) by decide +kernel)
set_option maxHeartbeats 4000000 in
set_option maxRecDepth 100000 in
theorem cj_l1 (a av : Nat) (i : Int32) (ha : a < 12) (hi : hgIn i (hgStr.getD a []).length = true) : Met l yJ1_charAt_3b067 (Cond.code yJ1_charAt_3b067 cJ1_charAt_3b067 2 (some .char) :: hgTb) (k2_rm 3 120) (va_Pc [.ref av, .int i] (fun U => hgStat B0 X ad U U.heap ∧ va_T .byte av (hgStr.getD a []).length (fun j => .int (nI ((hgStr.getD a []).getD j 0))) (hgA B0) U U.heap)) (QcRead (nI ((hgStr.getD a []).getD i.toNatClampNeg 0))) 0 0 (fun _ => False) := by
  refine Met.ofW (cc := cJ1_charAt_3b067) (maxL := 2) (ret := some .char) (by decide) rfl ?_
  intro p e s m args below meth c s₁ B hml hv
  obtain ⟨rfl, hst, t4⟩ := hv
  have hx := B.exec
  have hb := B.bytes
  have hr := B.returns
  have hlocks := B.notSynchronized
  have hts0 := atoms_spec (ws := Cond.code yJ1_charAt_3b067 cJ1_charAt_3b067 2 (some .char) :: hgTb) B.pre
  have hts : ∀ w ∈ hgTb, w.before _ s = true := fun w hw => hts0 w (List.mem_cons_of_mem _ hw)
  have hj := hgAll_mem hgJw
  have hown : s.vm.findClass RJ1 = some m.cls := findClass_of_methodNamed B.named
  have hl := lv_entry ([.ref av, .int i]) (n := 2) (Nat.le_of_ble_eq_true rfl)
  rw [lg_entry_eq]
  generalize (lg_sl ([.ref av, .int i]) ++ List.replicate (2 - (lg_sl ([.ref av, .int i])).length) Slot.unset).toArray = ls at hl ⊢
  have hl : lv_has ls 2 [(0, .ref av), (1, .int i)] := hl
  have hlt : (hgStr.getD a []).length < 2 ^ 31 := hgStr_len a
  have hin := hgIn_vp hi
  obtain ⟨j, hj1, hj2⟩ := vp_in_of hin hlt
  have h0 : ¬ i < 0 := fun z => hin (Or.inl z)
  have h1 : i < Int32.ofNat (hgStr.getD a []).length := by rw [hj2]; exact nI_lt hj1 hlt
  refine lv_iload_n hx hb (show decode cJ1_charAt_3b067 0 = .ok (.iload_n 1, 1) by decide +kernel) rfl (lv_at hl 1 rfl) ?_
  refine lv_aload_n hx hb (show decode cJ1_charAt_3b067 1 = .ok (.aload_n 0, 1) by decide +kernel) rfl (lv_at hl 0 rfl) ?_
  refine va_tlen hx hb t4 va_S.rf rfl (show decode cJ1_charAt_3b067 2 = .ok (.arraylength, 1) by decide +kernel) ?_
  refine hg_callQ (W.runS (cc := cJ1_charAt_3b067) (nL := 2) (Ts := hgTb) (own := RJ1) (As := [.int i, .int (Int32.ofNat (hgStr.getD a []).length)]) (rest := []) ⟨hx, hb, hml, hown, hts⟩ (cj_chk (B0 := B0) (X := X) (ad := ad) i _ h0 h1) ⟨hgJb hts (hj _ (by simp)) (hj (.initialized RJ0) (by simp)) (hj (.methodLink RJ1 9 yJ0_checkIndex_df160) (by simp)) ⟨by decide, by decide⟩ (hgSig (a := 2) (by decide +kernel)) (by decide) (by decide), hts _ (hj _ (by simp))⟩ ⟨hgPj_blind, fun U hU hW => hgPj_of hst hU hW⟩ rfl rfl hl.1 rfl (lv_room (Nat.le_of_ble_eq_true rfl)) (show decode cJ1_charAt_3b067 3 = .ok (.invokestatic 9, 3) by decide +kernel) ⟨Nat.le_refl _, Nat.le_refl _⟩) ?_
  refine lv_aload_n hx hb (show decode cJ1_charAt_3b067 6 = .ok (.aload_n 0, 1) by decide +kernel) rfl (lv_at hl 0 rfl) ?_
  refine lv_iload_n hx hb (show decode cJ1_charAt_3b067 7 = .ok (.iload_n 1, 1) by decide +kernel) rfl (lv_at hl 1 rfl) ?_
  refine va_tb hx hb t4 va_S.rf hin rfl (show decode cJ1_charAt_3b067 8 = .ok (.baload, 1) by decide +kernel) ?_
  refine lv_sipush (v := 255) hx hb (show decode cJ1_charAt_3b067 9 = .ok (.sipush 255, 3) by decide +kernel) (by decide) ?_
  refine lv_iand hx hb (show decode cJ1_charAt_3b067 12 = .ok (.iand, 1) by decide +kernel) ?_
  obtain ⟨b1, b2⟩ := hgByte _ (hgStr_lt a i.toNatClampNeg)
  refine lv_i2c hx hb (show decode cJ1_charAt_3b067 13 = .ok (.i2c, 1) by decide +kernel) b1 ?_
  exact W.zret (v := nI ((hgStr.getD a []).getD i.toNatClampNeg 0)) (ty := .char) hx hb hr b2 (fun t ht _ => ⟨rfl, ht⟩) (fun q h => by cases h) (show decode cJ1_charAt_3b067 14 = .ok (.ireturn, 1) by decide +kernel)
set_option maxHeartbeats 4000000 in
set_option maxRecDepth 100000 in
theorem cj_chr (a : Nat) (i : Int32) (ha : a < 12) (hi : hgIn i (hgStr.getD a []).length = true) : Met l yJ0_charAt_5068e (Cond.code yJ0_charAt_5068e cJ0_charAt_5068e 2 (some .char) :: hgTb) (k2_rm 4 160) (hgPj B0 X ad [.ref (ad (1000 + a)), .int i]) (QcRead (nI ((hgStr.getD a []).getD i.toNatClampNeg 0))) 0 0 (fun _ => False) := by
  refine Met.ofW (cc := cJ0_charAt_5068e) (maxL := 2) (ret := some .char) (by decide) rfl ?_
  intro p e s m args below meth c s₁ B hml hv
  obtain ⟨rfl, hst⟩ := hv
  have hst : hgStat B0 X ad s s.heap := hst
  have hx := B.exec
  have hb := B.bytes
  have hr := B.returns
  have hlocks := B.notSynchronized
  have hts0 := atoms_spec (ws := Cond.code yJ0_charAt_5068e cJ0_charAt_5068e 2 (some .char) :: hgTb) B.pre
  have hts : ∀ w ∈ hgTb, w.before _ s = true := fun w hw => hts0 w (List.mem_cons_of_mem _ hw)
  have hj := hgAll_mem hgJw
  have hown : s.vm.findClass RJ0 = some m.cls := findClass_of_methodNamed B.named
  have hl := lv_entry ([.ref (ad (1000 + a)), .int i]) (n := 2) (Nat.le_of_ble_eq_true rfl)
  rw [lg_entry_eq]
  generalize (lg_sl ([.ref (ad (1000 + a)), .int i]) ++ List.replicate (2 - (lg_sl ([.ref (ad (1000 + a)), .int i])).length) Slot.unset).toArray = ls at hl ⊢
  have hl : lv_has ls 2 [(0, .ref (ad (1000 + a))), (1, .int i)] := hl
  obtain ⟨av, t1, t2, t3, t4⟩ := hst.2.2.1 a ha
  have hrec : ∃ cell : Cell, s.heap[ad (1000 + a)]? = some cell ∧ cell.vm.isStatics = false ∧ s.vm.findClass RJ0 = some cell.cls := by
    obtain ⟨cell, q1, q2, q3, -⟩ := t1
    exact ⟨cell, q1, q2, q3⟩
  refine lv_aload_n hx hb (show decode cJ0_charAt_5068e 0 = .ok (.aload_n 0, 1) by decide +kernel) rfl (lv_at hl 0 rfl) ?_
  refine W.callR (W.runV (cc := cJ0_charAt_5068e) (nL := 2) (Ts := hgTb) (own := RJ0) (C := RJ0) (b := ad (1000 + a)) (As := []) (rest := []) ⟨hx, hb, hml, hown, hts⟩ (cj_lat a ha) ⟨hgJb hts (hj _ (by simp)) (hj (.initialized RJ0) (by simp)) (hj (.methodLink RJ0 492 yJ0_isLatin1_aae02) (by simp)) ⟨by decide, by decide⟩ (hgSig (a := 0) (by decide +kernel)) (by decide) (by decide), hts _ (hj _ (by simp)), hts _ (hj _ (by simp))⟩ ⟨hgPj_blind, hrec, fun U hU hW => hgPj_of hst hU hW⟩ rfl rfl hl.1 rfl (lv_room (Nat.le_of_ble_eq_true rfl)) (show decode cJ0_charAt_5068e 1 = .ok (.invokevirtual 492, 3) by decide +kernel) ⟨Nat.le_refl _, Nat.le_refl _⟩) ?_
  refine W.eq (g2 := F0 m 4 ls [.int 1]) rfl ?_
  refine lv_if_eq (tgt := 16) hx hb (show decode cJ0_charAt_5068e 4 = .ok (.ifCond .eq 12, 3) by decide +kernel) (by decide) (fun g => absurd g (by decide)) (fun _ => ?_)
  refine lv_aload_n hx hb (show decode cJ0_charAt_5068e 7 = .ok (.aload_n 0, 1) by decide +kernel) rfl (lv_at hl 0 rfl) ?_
  refine vk_getf hx hb t3 va_S.rf hown (hts _ (hj (.fieldLink RJ0 9 RJ0 "value" "[B") (by simp))) (fun _ h => h) (show decode cJ0_charAt_5068e 8 = .ok (.getfield 9, 3) by decide +kernel) ?_
  refine lv_iload_n hx hb (show decode cJ0_charAt_5068e 11 = .ok (.iload_n 1, 1) by decide +kernel) rfl (lv_at hl 1 rfl) ?_
  refine W.callR (W.runS (cc := cJ0_charAt_5068e) (nL := 2) (Ts := hgTb) (own := RJ0) (As := [.ref av, .int i]) (rest := []) ⟨hx, hb, hml, hown, hts⟩ (cj_l1 (B0 := B0) (X := X) (ad := ad) a av i ha hi) ⟨hgJb hts (hj _ (by simp)) (hj (.initialized RJ1) (by simp)) (hj (.methodLink RJ0 495 yJ1_charAt_3b067) (by simp)) ⟨by decide, by decide⟩ (hgSig (a := 2) (by decide +kernel)) (by decide) (by decide), hts _ (hj _ (by simp))⟩ ⟨fun b U g mk h => ⟨h.1, hgStat.warm (s := U) (U := U.calling g mk b) (State.WarmedH.refl U) h.2.1, va_T.moved (u := U) (U := U.calling g mk b) (Vm.Alike.refl U.vm) h.2.2⟩, fun U hU hW => ⟨rfl, (hgPj_of (av := []) hst hU hW).2, by rw [hU]; exact va_T.moved hW.alike t4⟩⟩ rfl rfl hl.1 rfl (lv_room (Nat.le_of_ble_eq_true rfl)) (show decode cJ0_charAt_5068e 12 = .ok (.invokestatic 495, 3) by decide +kernel) ⟨Nat.le_refl _, Nat.le_refl _⟩) ?_
  exact W.zret (v := nI ((hgStr.getD a []).getD i.toNatClampNeg 0)) (ty := .char) hx hb hr (hgByte _ (hgStr_lt a i.toNatClampNeg)).2 (fun t ht _ => ⟨rfl, ht⟩) (fun q h => by cases h) (show decode cJ0_charAt_5068e 15 = .ok (.ireturn, 1) by decide +kernel)
theorem hgPj_at {av : List Value} {s U : State} {H : Heap} (h : hgStat B0 X ad s H) (hU : U.heap = H) (hW : s.WarmedH U.vm) : hgPj B0 X ad av av.toArray U := ⟨rfl, by show hgStat B0 X ad U U.heap; rw [hU]; exact h.warm hW⟩
set_option maxHeartbeats 4000000 in
set_option maxRecDepth 100000 in
theorem hg_lenOk : hgLenOk l := by
  intro p e R s m args below meth c Q q B0 N0 D cy X ad0 ad L S r K M H locs ls pc idx w a hC hn hw hf hl hc hs hr4 hd ha kk
  obtain ⟨hx, hb, hml, hown, hts, -, hK, hst, -⟩ := hC
  have hj := hgAll_mem hgJw
  have hst9 : hgStat B0 X ad s H := (hst.kept hn.2.2.1.2.1).ext hn.2.2.2.2.2.2.2.2
  have hrec : ∃ cell : Cell, H[ad (1000 + a)]? = some cell ∧ cell.vm.isStatics = false ∧ s.vm.findClass RJ0 = some cell.cls := by
    obtain ⟨av, t1, -⟩ := hst9.2.2.1 a ha
    obtain ⟨cell, q1, q2, q3, -⟩ := t1
    exact ⟨cell, q1, q2, q3⟩
  have hcat := hgCat ad r
  exact W.callR (W.runV (cc := hgCode q) (nL := hgMl q) (Ts := hgTb) (own := hgOwn q) (C := RJ0) (b := ad (1000 + a)) (As := []) (rest := r.map (hgPh ad)) ⟨hx, hb, hml, hown, hts⟩ (cj_len (B0 := B0) (X := X) (ad := ad) a ha) ⟨hgJb hts (hj _ (by simp)) (hj (.initialized RJ0) (by simp)) (hgTb_of hw rfl) ⟨by decide, by decide⟩ (hgSig (a := 0) (by decide +kernel)) hf (by omega), hts _ (hj _ (by simp)), hts _ (hj _ (by simp))⟩ ⟨hgPj_blind, hrec, fun U hU hW => hgPj_at hst9 hU hW⟩ rfl rfl hn.2.2.2.1.1 rfl (lv_room (by omega)) hd ⟨hc, hs⟩) kk
set_option maxHeartbeats 4000000 in
set_option maxRecDepth 100000 in
theorem hg_chrOk : hgChrOk l := by
  intro p e R s m args below meth c Q q B0 N0 D cy X ad0 ad L S r K M H locs ls pc idx w a i hC hn hw hf hl hc hs hr4 hd ha hi kk
  obtain ⟨hx, hb, hml, hown, hts, -, hK, hst, -⟩ := hC
  have hj := hgAll_mem hgJw
  have hst9 : hgStat B0 X ad s H := (hst.kept hn.2.2.1.2.1).ext hn.2.2.2.2.2.2.2.2
  have hrec : ∃ cell : Cell, H[ad (1000 + a)]? = some cell ∧ cell.vm.isStatics = false ∧ s.vm.findClass RJ0 = some cell.cls := by
    obtain ⟨av, t1, -⟩ := hst9.2.2.1 a ha
    obtain ⟨cell, q1, q2, q3, -⟩ := t1
    exact ⟨cell, q1, q2, q3⟩
  have hcat := hgCat ad r
  exact W.callR (W.runV (cc := hgCode q) (nL := hgMl q) (Ts := hgTb) (own := hgOwn q) (C := RJ0) (b := ad (1000 + a)) (As := [.int i]) (rest := r.map (hgPh ad)) ⟨hx, hb, hml, hown, hts⟩ (cj_chr (B0 := B0) (X := X) (ad := ad) a i ha hi) ⟨hgJb hts (hj _ (by simp)) (hj (.initialized RJ0) (by simp)) (hgTb_of hw rfl) ⟨by decide, by decide⟩ (hgSig (a := 1) (by decide +kernel)) (by omega) (by omega), hts _ (hj _ (by simp)), hts _ (hj _ (by simp))⟩ ⟨hgPj_blind, hrec, fun U hU hW => hgPj_at hst9 hU hW⟩ rfl rfl hn.2.2.2.1.1 rfl (lv_room (by omega)) hd ⟨hc, hs⟩) kk
end HGSTR

/-- a word of the tables that stays is among the good ones -/
theorem hgTb_of {w : Nat} {x : Cond} (h : hgWt w = some x) (hg : goodWord x = true) : x ∈ hgTb := List.mem_filter.mpr ⟨List.mem_append_right _ (List.mem_of_getElem? h), hg⟩
def hgHard (i : Instr) : Bool := match i with
  | .ldc _ => true | .ldc_w _ => true | .ldc2_w _ => true | .getfield _ => true | .putfield _ => true
  | .iaload => true | .baload => true | .laload => true | .aaload => true | .iastore => true | .bastore => true | .lastore => true | .aastore => true | .arraylength => true
  | .new _ => true | .newarray _ => true | .anewarray _ => true | .multianewarray _ _ => true | .invokevirtual _ => true | .invokestatic _ => true | .invokespecial _ => true | .ireturn => true | .lreturn => true | .return_ => true
  | _ => false
section HGSTEP
variable {p : Program} {l : Launch} {e : Env} {R : Room} {s : State} {m : MethodId} {args : Array Value} {below : List Frame} {meth : Method} {c : Code} {Q : State → Prop} {q B0 N0 : Nat} {D : va_G} {cy : Nat → ClassId} {X : hgX} {ad0 : Nat → Nat}
set_option maxHeartbeats 4000000 in
set_option maxRecDepth 100000 in
theorem hg_easy (hC : hgCx p l R s m args meth c q B0 D cy X ad0) {call : Nat → List Value → hgMem → Option hgOut} {jump : Nat → hgL → List Value → hgK → hgMem → Option hgOut} {i : Instr} {len : Nat} {ps : List Nat} {hs : List (Nat × Nat × Nat)} {pc : Nat} {out : hgOut} (hd : decode (hgCode q) pc = .ok (i, len)) (hk : hgChk q pc i len ps hs = true)
    {L : hgL} {S : List Value} {K : hgK} {M : hgMem} {k : hgL → List Value → hgK → hgMem → Option hgOut} (h : hgStep X (hgRm q) call jump i ps hs L S K M k = some out)
    (kk : ∀ L S K M, k L S K M = some out → hgGo p l e R s m args below meth c Q B0 D cy (hgMl q) N0 ad0 (pc + len) L S K M)
    (kj : ∀ t L S K M, jump t L S K M = some out → hgGo p l e R s m args below meth c Q B0 D cy (hgMl q) N0 ad0 t L S K M)
    (kh : hgHard i = true → hgGo p l e R s m args below meth c Q B0 D cy (hgMl q) N0 ad0 pc L S K M) : hgGo p l e R s m args below meth c Q B0 D cy (hgMl q) N0 ad0 pc L S K M := by
  have hx := hC.1
  have hb := hC.2.1
  cases i with
  | iconst n =>
    have hl : len = 1 := of_decide_eq_true (show decide (len = 1) = true from hk)
    subst hl
    intro ad H locs ls hn kc ks
    exact lv_iconst hx hb hd rfl (kk _ _ _ _ h ad H locs ls (hn.to (hgSk_c hgVk_i hn.sk)) kc ks)
  | bipush n =>
    have hl : len = 2 := of_decide_eq_true (show decide (len = 2) = true from hk)
    subst hl
    intro ad H locs ls hn kc ks
    exact lv_bipush hx hb hd rfl (kk _ _ _ _ h ad H locs ls (hn.to (hgSk_c hgVk_i hn.sk)) kc ks)
  | sipush n =>
    have hl : len = 3 := of_decide_eq_true (show decide (len = 3) = true from hk)
    subst hl
    intro ad H locs ls hn kc ks
    exact lv_sipush hx hb hd rfl (kk _ _ _ _ h ad H locs ls (hn.to (hgSk_c hgVk_i hn.sk)) kc ks)
  | lconst n =>
    have hl : len = 1 := of_decide_eq_true (show decide (len = 1) = true from hk)
    subst hl
    intro ad H locs ls hn kc ks
    exact lv_lconst hx hb hd rfl (kk _ _ _ _ h ad H locs ls (hn.to (hgSk_c hgVk_l hn.sk)) kc ks)
  | iload n =>
    have hl : len = 2 := of_decide_eq_true (show decide (len = 2) = true from hk)
    subst hl
    have h : (hgld L n 0 fun v => k L (v :: S) K M) = some out := h
    obtain ⟨x, g, h9⟩ := hgld0_some h
    intro ad H locs ls hn kc ks
    exact lv_iload hx hb hd (hgLH_get hn.2.2.2.1 g) (kk _ _ _ _ h9 ad H locs ls (hn.to (hgSk_c hgVk_i hn.sk)) kc ks)
  | iload_n n =>
    have hl : len = 1 := of_decide_eq_true (show decide (len = 1) = true from hk)
    subst hl
    have h : (hgld L n.val 0 fun v => k L (v :: S) K M) = some out := h
    obtain ⟨x, g, h9⟩ := hgld0_some h
    intro ad H locs ls hn kc ks
    exact lv_iload_n hx hb hd rfl (hgLH_get hn.2.2.2.1 g) (kk _ _ _ _ h9 ad H locs ls (hn.to (hgSk_c hgVk_i hn.sk)) kc ks)
  | lload n =>
    have hl : len = 2 := of_decide_eq_true (show decide (len = 2) = true from hk)
    subst hl
    have h : (hgld L n 1 fun v => k L (v :: S) K M) = some out := h
    obtain ⟨x, g, h9⟩ := hgld1_some h
    intro ad H locs ls hn kc ks
    exact lv_lload hx hb hd (hgLH_get hn.2.2.2.1 g) (kk _ _ _ _ h9 ad H locs ls (hn.to (hgSk_c hgVk_l hn.sk)) kc ks)
  | lload_n n =>
    have hl : len = 1 := of_decide_eq_true (show decide (len = 1) = true from hk)
    subst hl
    have h : (hgld L n.val 1 fun v => k L (v :: S) K M) = some out := h
    obtain ⟨x, g, h9⟩ := hgld1_some h
    intro ad H locs ls hn kc ks
    exact lv_lload_n hx hb hd rfl (hgLH_get hn.2.2.2.1 g) (kk _ _ _ _ h9 ad H locs ls (hn.to (hgSk_c hgVk_l hn.sk)) kc ks)
  | fload n =>
    have hl : len = 2 := of_decide_eq_true (show decide (len = 2) = true from hk)
    subst hl
    have h : (hgld L n 2 fun v => k L (v :: S) K M) = some out := h
    obtain ⟨x, g, h9⟩ := hgld2_some h
    intro ad H locs ls hn kc ks
    exact lv_fload hx hb hd (hgLH_get hn.2.2.2.1 g) (kk _ _ _ _ h9 ad H locs ls (hn.to (hgSk_c hgVk_f hn.sk)) kc ks)
  | fload_n n =>
    have hl : len = 1 := of_decide_eq_true (show decide (len = 1) = true from hk)
    subst hl
    have h : (hgld L n.val 2 fun v => k L (v :: S) K M) = some out := h
    obtain ⟨x, g, h9⟩ := hgld2_some h
    intro ad H locs ls hn kc ks
    exact lv_fload_n hx hb hd rfl (hgLH_get hn.2.2.2.1 g) (kk _ _ _ _ h9 ad H locs ls (hn.to (hgSk_c hgVk_f hn.sk)) kc ks)
  | aload n =>
    have hl : len = 2 := of_decide_eq_true (show decide (len = 2) = true from hk)
    subst hl
    have h : (hgld L n 3 fun v => k L (v :: S) K M) = some out := h
    obtain ⟨x, g, h9⟩ := hgld3_some h
    intro ad H locs ls hn kc ks
    exact lv_aload hx hb hd (hgLH_get hn.2.2.2.1 g) (kk _ _ _ _ h9 ad H locs ls (hn.to (hgSk_c (hn.2.2.2.2.1 _ _ g) hn.sk)) kc ks)
  | aload_n n =>
    have hl : len = 1 := of_decide_eq_true (show decide (len = 1) = true from hk)
    subst hl
    have h : (hgld L n.val 3 fun v => k L (v :: S) K M) = some out := h
    obtain ⟨x, g, h9⟩ := hgld3_some h
    intro ad H locs ls hn kc ks
    exact lv_aload_n hx hb hd rfl (hgLH_get hn.2.2.2.1 g) (kk _ _ _ _ h9 ad H locs ls (hn.to (hgSk_c (hn.2.2.2.2.1 _ _ g) hn.sk)) kc ks)
  | istore n =>
    have hl : len = 2 ∧ n < hgMl q := by
      have hk : (decide (len = 2) && decide (n < hgMl q)) = true := hk
      simpa using hk
    obtain ⟨hl, hlt⟩ := hl
    subst hl
    have h : (hgst S 0 fun v r => k (hgS1 L n (some v)) r K M) = some out := h
    obtain ⟨x, r, rfl, h9⟩ := hgst0_some h
    intro ad H locs ls hn kc ks
    exact lv_istore hx hb hd hn.2.2.2.1 hlt rfl (fun ls1 hl1 => kk _ _ _ _ h9 ad H locs ls1 (hn.st1 hgVk_i (hgSk_t hn.sk) hl1) kc ks)
  | istore_n n =>
    have hl : len = 1 ∧ n.val < hgMl q := by
      have hk : (decide (len = 1) && decide (n.val < hgMl q)) = true := hk
      simpa using hk
    obtain ⟨hl, hlt⟩ := hl
    subst hl
    have h : (hgst S 0 fun v r => k (hgS1 L n.val (some v)) r K M) = some out := h
    obtain ⟨x, r, rfl, h9⟩ := hgst0_some h
    intro ad H locs ls hn kc ks
    exact lv_istore_n hx hb hd rfl hn.2.2.2.1 hlt rfl (fun ls1 hl1 => kk _ _ _ _ h9 ad H locs ls1 (hn.st1 hgVk_i (hgSk_t hn.sk) hl1) kc ks)
  | fstore n =>
    have hl : len = 2 ∧ n < hgMl q := by
      have hk : (decide (len = 2) && decide (n < hgMl q)) = true := hk
      simpa using hk
    obtain ⟨hl, hlt⟩ := hl
    subst hl
    have h : (hgst S 2 fun v r => k (hgS1 L n (some v)) r K M) = some out := h
    obtain ⟨x, r, rfl, h9⟩ := hgst2_some h
    intro ad H locs ls hn kc ks
    exact lv_fstore hx hb hd hn.2.2.2.1 hlt rfl (fun ls1 hl1 => kk _ _ _ _ h9 ad H locs ls1 (hn.st1 hgVk_f (hgSk_t hn.sk) hl1) kc ks)
  | fstore_n n =>
    have hl : len = 1 ∧ n.val < hgMl q := by
      have hk : (decide (len = 1) && decide (n.val < hgMl q)) = true := hk
      simpa using hk
    obtain ⟨hl, hlt⟩ := hl
    subst hl
    have h : (hgst S 2 fun v r => k (hgS1 L n.val (some v)) r K M) = some out := h
    obtain ⟨x, r, rfl, h9⟩ := hgst2_some h
    intro ad H locs ls hn kc ks
    exact lv_fstore_n hx hb hd rfl hn.2.2.2.1 hlt rfl (fun ls1 hl1 => kk _ _ _ _ h9 ad H locs ls1 (hn.st1 hgVk_f (hgSk_t hn.sk) hl1) kc ks)
  | astore n =>
    have hl : len = 2 ∧ n < hgMl q := by
      have hk : (decide (len = 2) && decide (n < hgMl q)) = true := hk
      simpa using hk
    obtain ⟨hl, hlt⟩ := hl
    subst hl
    have h : (hgst S 3 fun v r => k (hgS1 L n (some v)) r K M) = some out := h
    obtain ⟨x, r, rfl, h9⟩ := hgst3_some h
    intro ad H locs ls hn kc ks
    exact lv_astore hx hb hd hn.2.2.2.1 hlt rfl (fun ls1 hl1 => kk _ _ _ _ h9 ad H locs ls1 (hn.st1 (hgSk_h hn.sk) (hgSk_t hn.sk) hl1) kc ks)
  | astore_n n =>
    have hl : len = 1 ∧ n.val < hgMl q := by
      have hk : (decide (len = 1) && decide (n.val < hgMl q)) = true := hk
      simpa using hk
    obtain ⟨hl, hlt⟩ := hl
    subst hl
    have h : (hgst S 3 fun v r => k (hgS1 L n.val (some v)) r K M) = some out := h
    obtain ⟨x, r, rfl, h9⟩ := hgst3_some h
    intro ad H locs ls hn kc ks
    exact lv_astore_n hx hb hd rfl hn.2.2.2.1 hlt rfl (fun ls1 hl1 => kk _ _ _ _ h9 ad H locs ls1 (hn.st1 (hgSk_h hn.sk) (hgSk_t hn.sk) hl1) kc ks)
  | lstore n =>
    have hl : len = 2 ∧ n + 1 < hgMl q := by
      have hk : (decide (len = 2) && decide (n + 1 < hgMl q)) = true := hk
      simpa using hk
    obtain ⟨hl, hlt⟩ := hl
    subst hl
    have h : (hgst S 1 fun v r => k (hgS2 L n (some v)) r K M) = some out := h
    obtain ⟨x, r, rfl, h9⟩ := hgst1_some h
    intro ad H locs ls hn kc ks
    exact lv_lstore hx hb hd hn.2.2.2.1 hlt rfl (fun ls1 hl1 => kk _ _ _ _ h9 ad H locs ls1 (hn.st2 hgVk_l (hgSk_t hn.sk) hl1) kc ks)
  | lstore_n n =>
    have hl : len = 1 ∧ n.val + 1 < hgMl q := by
      have hk : (decide (len = 1) && decide (n.val + 1 < hgMl q)) = true := hk
      simpa using hk
    obtain ⟨hl, hlt⟩ := hl
    subst hl
    have h : (hgst S 1 fun v r => k (hgS2 L n.val (some v)) r K M) = some out := h
    obtain ⟨x, r, rfl, h9⟩ := hgst1_some h
    intro ad H locs ls hn kc ks
    exact lv_lstore_n hx hb hd rfl hn.2.2.2.1 hlt rfl (fun ls1 hl1 => kk _ _ _ _ h9 ad H locs ls1 (hn.st2 hgVk_l (hgSk_t hn.sk) hl1) kc ks)
  | iinc n d =>
    have hl : len = 3 := of_decide_eq_true (show decide (len = 3) = true from hk)
    subst hl
    have h : (match hgG L n with
      | some (.int x) => k (hgPut L n (some (.int (x + Int32.ofInt d)))) S K M
      | _ => none) = some out := h
    split at h
    · next x g =>
      intro ad H locs ls hn kc ks
      obtain ⟨j, hj⟩ := List.getElem?_of_mem (hgAs_mem.mpr ⟨n, .int x, (Nat.zero_add n).symm, g, rfl⟩ : (n, hgPh ad (.int x)) ∈ hgAs ad 0 L)
      refine lv_iinc hx hb hd hn.2.2.2.1 hj rfl (hgG_lt hn.2.2.2.1 g) rfl (fun ls1 hl1 => kk _ _ _ _ h ad H locs ls1 ?_ kc ks)
      refine ⟨hn.1, hn.2.1, hn.2.2.1, hgLH_mono hl1 (fun i v hv => ?_), fun i v hv => ?_, hn.sk, hn.2.2.2.2.2.2⟩
      · rcases hgG_put hv with ⟨g1, g2⟩ | ⟨g1, g2⟩
        · cases g2
          rw [g1]
          exact List.mem_cons_self
        · refine List.mem_cons_of_mem _ (List.mem_filter.mpr ⟨hgAs_mem.mpr ⟨i, v, (Nat.zero_add i).symm, g2, rfl⟩, ?_⟩)
          simp only [Bool.and_eq_true, Bool.not_eq_true', beq_eq_false_iff_ne, ne_eq, Bool.and_eq_false_iff, hgPh_cat]
          refine ⟨g1, ?_⟩
          by_cases e9 : i + 1 = n
          · refine Or.inr (fun h9 => ?_)
            have f1 := hgLH_get hn.2.2.2.1 g2
            have f2 := hn.2.2.2.1.2.1.1 i _ f1 (by rw [hgPh_cat]; exact h9)
            rw [e9, hgLH_get hn.2.2.2.1 g] at f2
            cases f2
          · exact Or.inl e9
      · rcases hgG_put hv with ⟨_, g2⟩ | ⟨_, g2⟩
        · cases g2; exact hgVk_i
        · exact hn.2.2.2.2.1 i v g2
    · cases h
  | iadd =>
    have hl : len = 1 := of_decide_eq_true (show decide (len = 1) = true from hk)
    subst hl
    have h : (hgi2 S fun x y r => k L (.int (x + y) :: r) K M) = some out := h
    obtain ⟨x, y, r, rfl, h9⟩ := hgi2_some h
    intro ad H locs ls hn kc ks
    exact lv_iadd hx hb hd (kk _ _ _ _ h9 ad H locs ls (hn.to (hgSk_c hgVk_i (hgSk_t (hgSk_t hn.sk)))) kc ks)
  | isub =>
    have hl : len = 1 := of_decide_eq_true (show decide (len = 1) = true from hk)
    subst hl
    have h : (hgi2 S fun x y r => k L (.int (x - y) :: r) K M) = some out := h
    obtain ⟨x, y, r, rfl, h9⟩ := hgi2_some h
    intro ad H locs ls hn kc ks
    exact lv_isub hx hb hd (kk _ _ _ _ h9 ad H locs ls (hn.to (hgSk_c hgVk_i (hgSk_t (hgSk_t hn.sk)))) kc ks)
  | imul =>
    have hl : len = 1 := of_decide_eq_true (show decide (len = 1) = true from hk)
    subst hl
    have h : (hgi2 S fun x y r => k L (.int (x * y) :: r) K M) = some out := h
    obtain ⟨x, y, r, rfl, h9⟩ := hgi2_some h
    intro ad H locs ls hn kc ks
    exact lv_imul hx hb hd (kk _ _ _ _ h9 ad H locs ls (hn.to (hgSk_c hgVk_i (hgSk_t (hgSk_t hn.sk)))) kc ks)
  | iand =>
    have hl : len = 1 := of_decide_eq_true (show decide (len = 1) = true from hk)
    subst hl
    have h : (hgi2 S fun x y r => k L (.int (x &&& y) :: r) K M) = some out := h
    obtain ⟨x, y, r, rfl, h9⟩ := hgi2_some h
    intro ad H locs ls hn kc ks
    exact lv_iand hx hb hd (kk _ _ _ _ h9 ad H locs ls (hn.to (hgSk_c hgVk_i (hgSk_t (hgSk_t hn.sk)))) kc ks)
  | ior =>
    have hl : len = 1 := of_decide_eq_true (show decide (len = 1) = true from hk)
    subst hl
    have h : (hgi2 S fun x y r => k L (.int (x ||| y) :: r) K M) = some out := h
    obtain ⟨x, y, r, rfl, h9⟩ := hgi2_some h
    intro ad H locs ls hn kc ks
    exact lv_ior hx hb hd (kk _ _ _ _ h9 ad H locs ls (hn.to (hgSk_c hgVk_i (hgSk_t (hgSk_t hn.sk)))) kc ks)
  | ishl =>
    have hl : len = 1 := of_decide_eq_true (show decide (len = 1) = true from hk)
    subst hl
    have h : (hgi2 S fun x y r => k L (.int (x <<< (y &&& 31)) :: r) K M) = some out := h
    obtain ⟨x, y, r, rfl, h9⟩ := hgi2_some h
    intro ad H locs ls hn kc ks
    exact lv_ishl hx hb hd (kk _ _ _ _ h9 ad H locs ls (hn.to (hgSk_c hgVk_i (hgSk_t (hgSk_t hn.sk)))) kc ks)
  | ishr =>
    have hl : len = 1 := of_decide_eq_true (show decide (len = 1) = true from hk)
    subst hl
    have h : (hgi2 S fun x y r => k L (.int (x >>> (y &&& 31)) :: r) K M) = some out := h
    obtain ⟨x, y, r, rfl, h9⟩ := hgi2_some h
    intro ad H locs ls hn kc ks
    exact lv_ishr hx hb hd (kk _ _ _ _ h9 ad H locs ls (hn.to (hgSk_c hgVk_i (hgSk_t (hgSk_t hn.sk)))) kc ks)
  | iushr =>
    have hl : len = 1 := of_decide_eq_true (show decide (len = 1) = true from hk)
    subst hl
    have h : (hgi2 S fun x y r => k L (.int (x.toUInt32 >>> (y.toUInt32 &&& Int32.toUInt32 31)).toInt32 :: r) K M) = some out := h
    obtain ⟨x, y, r, rfl, h9⟩ := hgi2_some h
    intro ad H locs ls hn kc ks
    exact lv_iushr hx hb hd rfl (kk _ _ _ _ h9 ad H locs ls (hn.to (hgSk_c hgVk_i (hgSk_t (hgSk_t hn.sk)))) kc ks)
  | idiv =>
    have hl : len = 1 := of_decide_eq_true (show decide (len = 1) = true from hk)
    subst hl
    have h : (hgi2 S fun x y r => if y = 0 then none else k L (.int (x / y) :: r) K M) = some out := h
    obtain ⟨x, y, r, rfl, h9⟩ := hgi2_some h
    split at h9
    · cases h9
    · next hy =>
      intro ad H locs ls hn kc ks
      exact lv_idiv hx hb hd hy (kk _ _ _ _ h9 ad H locs ls (hn.to (hgSk_c hgVk_i (hgSk_t (hgSk_t hn.sk)))) kc ks)
  | irem =>
    have hl : len = 1 := of_decide_eq_true (show decide (len = 1) = true from hk)
    subst hl
    have h : (hgi2 S fun x y r => if y = 0 then none else k L (.int (x - x / y * y) :: r) K M) = some out := h
    obtain ⟨x, y, r, rfl, h9⟩ := hgi2_some h
    split at h9
    · cases h9
    · next hy =>
      intro ad H locs ls hn kc ks
      exact lv_irem hx hb hd hy (kk _ _ _ _ h9 ad H locs ls (hn.to (hgSk_c hgVk_i (hgSk_t (hgSk_t hn.sk)))) kc ks)
  | i2l =>
    have hl : len = 1 := of_decide_eq_true (show decide (len = 1) = true from hk)
    subst hl
    have h : (hgi1 S fun x r => k L (.long x.toInt64 :: r) K M) = some out := h
    obtain ⟨x, r, rfl, h9⟩ := hgi1_some h
    intro ad H locs ls hn kc ks
    exact lv_i2l hx hb hd rfl (kk _ _ _ _ h9 ad H locs ls (hn.to (hgSk_c hgVk_l (hgSk_t hn.sk))) kc ks)
  | i2b =>
    have hl : len = 1 := of_decide_eq_true (show decide (len = 1) = true from hk)
    subst hl
    have h : (hgi1 S fun x r => k L (.int x.toInt8.toInt32 :: r) K M) = some out := h
    obtain ⟨x, r, rfl, h9⟩ := hgi1_some h
    intro ad H locs ls hn kc ks
    exact lv_i2b hx hb hd rfl (kk _ _ _ _ h9 ad H locs ls (hn.to (hgSk_c hgVk_i (hgSk_t hn.sk))) kc ks)
  | i2f =>
    have hl : len = 1 := of_decide_eq_true (show decide (len = 1) = true from hk)
    subst hl
    have h : (hgi1 S fun x r => k L (.float (FP.i2f x) :: r) K M) = some out := h
    obtain ⟨x, r, rfl, h9⟩ := hgi1_some h
    intro ad H locs ls hn kc ks
    exact lv_i2f hx hb hd (kk _ _ _ _ h9 ad H locs ls (hn.to (hgSk_c hgVk_f (hgSk_t hn.sk))) kc ks)
  | f2i =>
    have hl : len = 1 := of_decide_eq_true (show decide (len = 1) = true from hk)
    subst hl
    have h : (hgf1 S fun x r => k L (.int (FP.f2i x) :: r) K M) = some out := h
    obtain ⟨x, r, rfl, h9⟩ := hgf1_some h
    intro ad H locs ls hn kc ks
    exact lv_f2i hx hb hd (kk _ _ _ _ h9 ad H locs ls (hn.to (hgSk_c hgVk_i (hgSk_t hn.sk))) kc ks)
  | ladd =>
    have hl : len = 1 := of_decide_eq_true (show decide (len = 1) = true from hk)
    subst hl
    have h : (hgj2 S fun x y r => k L (.long (x + y) :: r) K M) = some out := h
    obtain ⟨x, y, r, rfl, h9⟩ := hgj2_some h
    intro ad H locs ls hn kc ks
    exact lv_ladd hx hb hd (kk _ _ _ _ h9 ad H locs ls (hn.to (hgSk_c hgVk_l (hgSk_t (hgSk_t hn.sk)))) kc ks)
  | lmul =>
    have hl : len = 1 := of_decide_eq_true (show decide (len = 1) = true from hk)
    subst hl
    have h : (hgj2 S fun x y r => k L (.long (x * y) :: r) K M) = some out := h
    obtain ⟨x, y, r, rfl, h9⟩ := hgj2_some h
    intro ad H locs ls hn kc ks
    exact lv_lmul hx hb hd (kk _ _ _ _ h9 ad H locs ls (hn.to (hgSk_c hgVk_l (hgSk_t (hgSk_t hn.sk)))) kc ks)
  | lcmp =>
    have hl : len = 1 := of_decide_eq_true (show decide (len = 1) = true from hk)
    subst hl
    have h : (hgj2 S fun x y r => k L (.int (lg_cmp x y) :: r) K M) = some out := h
    obtain ⟨x, y, r, rfl, h9⟩ := hgj2_some h
    intro ad H locs ls hn kc ks
    exact W.lcmp hx hb hd (kk _ _ _ _ h9 ad H locs ls (hn.to (hgSk_c hgVk_i (hgSk_t (hgSk_t hn.sk)))) kc ks)
  | fadd =>
    have hl : len = 1 := of_decide_eq_true (show decide (len = 1) = true from hk)
    subst hl
    have h : (hgf2 S fun x y r => if (FP.fadd x y) &&& 0x7fffffff ≤ 0x7f800000 then k L (.float (FP.fadd x y) :: r) K M else none) = some out := h
    obtain ⟨x, y, r, rfl, h9⟩ := hgf2_some h
    split at h9
    · next hy =>
      intro ad H locs ls hn kc ks
      exact lv_fadd hx hb hd hy (kk _ _ _ _ h9 ad H locs ls (hn.to (hgSk_c hgVk_f (hgSk_t (hgSk_t hn.sk)))) kc ks)
    · cases h9
  | fmul =>
    have hl : len = 1 := of_decide_eq_true (show decide (len = 1) = true from hk)
    subst hl
    have h : (hgf2 S fun x y r => if (FP.fmul x y) &&& 0x7fffffff ≤ 0x7f800000 then k L (.float (FP.fmul x y) :: r) K M else none) = some out := h
    obtain ⟨x, y, r, rfl, h9⟩ := hgf2_some h
    split at h9
    · next hy =>
      intro ad H locs ls hn kc ks
      exact lv_fmul hx hb hd hy (kk _ _ _ _ h9 ad H locs ls (hn.to (hgSk_c hgVk_f (hgSk_t (hgSk_t hn.sk)))) kc ks)
    · cases h9
  | fdiv =>
    have hl : len = 1 := of_decide_eq_true (show decide (len = 1) = true from hk)
    subst hl
    have h : (hgf2 S fun x y r => if (FP.fdiv x y) &&& 0x7fffffff ≤ 0x7f800000 then k L (.float (FP.fdiv x y) :: r) K M else none) = some out := h
    obtain ⟨x, y, r, rfl, h9⟩ := hgf2_some h
    split at h9
    · next hy =>
      intro ad H locs ls hn kc ks
      exact lv_fdiv hx hb hd hy (kk _ _ _ _ h9 ad H locs ls (hn.to (hgSk_c hgVk_f (hgSk_t (hgSk_t hn.sk)))) kc ks)
    · cases h9
  | fcmp op =>
    have hl : len = 1 := of_decide_eq_true (show decide (len = 1) = true from hk)
    subst hl
    have h : (hgf2 S fun x y r => k L (.int (Op.cmpValue (FP.fcmp x y) op) :: r) K M) = some out := h
    obtain ⟨x, y, r, rfl, h9⟩ := hgf2_some h
    intro ad H locs ls hn kc ks
    exact lv_fcmp hx hb hd (kk _ _ _ _ h9 ad H locs ls (hn.to (hgSk_c hgVk_i (hgSk_t (hgSk_t hn.sk)))) kc ks)
  | dup =>
    have hl : len = 1 := of_decide_eq_true (show decide (len = 1) = true from hk)
    subst hl
    have h : (hgdup S fun v r => k L (v :: v :: r) K M) = some out := h
    obtain ⟨v, r, rfl, hc, h9⟩ := hgdup_some h
    intro ad H locs ls hn kc ks
    exact lv_dup hx hb hd (by rw [hgPh_cat]; exact hc) (kk _ _ _ _ h9 ad H locs ls (hn.to (hgSk_c (hgSk_h hn.sk) hn.sk)) kc ks)
  | pop =>
    have hl : len = 1 := of_decide_eq_true (show decide (len = 1) = true from hk)
    subst hl
    have h : (hgdup S fun _ r => k L r K M) = some out := h
    obtain ⟨v, r, rfl, hc, h9⟩ := hgdup_some h
    intro ad H locs ls hn kc ks
    exact lv_pop hx hb hd (by rw [hgPh_cat]; exact hc) (kk _ _ _ _ h9 ad H locs ls (hn.to (hgSk_t hn.sk)) kc ks)
  | dup2 =>
    have hl : len = 1 := of_decide_eq_true (show decide (len = 1) = true from hk)
    subst hl
    have h : (hgr2 S fun a i r => k L (.int i :: .ref a :: .int i :: .ref a :: r) K M) = some out := h
    obtain ⟨a, i, r, rfl, h9⟩ := hgr2_some h
    intro ad H locs ls hn kc ks
    exact lv_dup2_11 hx hb hd rfl rfl (kk _ _ _ _ h9 ad H locs ls (hn.to (hgSk_c hgVk_i (hgSk_c (hgSk_h (hgSk_t hn.sk)) hn.sk))) kc ks)
  | fconst n =>
    have hl : len = 1 := of_decide_eq_true (show decide (len = 1) = true from hk)
    subst hl
    have h : (if n.val = 0 then k L (.float FP.fconst0 :: S) K M else if n.val = 1 then k L (.float FP.fconst1 :: S) K M else none) = some out := h
    intro ad H locs ls hn kc ks
    split at h
    · next g =>
      have g : n = 0 := Fin.ext g
      subst g
      exact lv_fconst0 hx hb hd (kk _ _ _ _ h ad H locs ls (hn.to (hgSk_c hgVk_f hn.sk)) kc ks)
    · split at h
      · next g =>
        have g : n = 1 := Fin.ext g
        subst g
        exact lv_fconst1 hx hb hd (kk _ _ _ _ h ad H locs ls (hn.to (hgSk_c hgVk_f hn.sk)) kc ks)
      · cases h
  | ifCond cd off =>
    have hl : len = 3 := by
      simp only [hgChk, Bool.and_eq_true, decide_eq_true_eq] at hk
      exact hk.1
    subst hl
    match ps, hk, h with
    | [t], hk, h =>
      have ht : (pc : Int) + off = (t : Int) := by
        have hk : (decide (3 = 3) && decide ((pc : Int) + off = (t : Int))) = true := hk
        simpa using hk
      cases cd with
      | eq =>
        have h : (hgi1 S fun x r => if x = 0 then jump t L r K M else k L r K M) = some out := h
        obtain ⟨x, r, rfl, h9⟩ := hgi1_some h
        intro ad H locs ls hn kc ks
        exact lv_if_eq hx hb hd ht (fun g => kj _ _ _ _ _ (by rw [if_pos g] at h9; exact h9) ad H locs ls (hn.to (hgSk_t hn.sk)) kc ks) (fun g => kk _ _ _ _ (by rw [if_neg g] at h9; exact h9) ad H locs ls (hn.to (hgSk_t hn.sk)) kc ks)
      | ne =>
        have h : (hgi1 S fun x r => if x = 0 then k L r K M else jump t L r K M) = some out := h
        obtain ⟨x, r, rfl, h9⟩ := hgi1_some h
        intro ad H locs ls hn kc ks
        exact lv_if_ne hx hb hd ht (fun g => kj _ _ _ _ _ (by rw [if_neg g] at h9; exact h9) ad H locs ls (hn.to (hgSk_t hn.sk)) kc ks) (fun g => kk _ _ _ _ (by rw [if_pos g] at h9; exact h9) ad H locs ls (hn.to (hgSk_t hn.sk)) kc ks)
      | lt =>
        have h : (hgi1 S fun x r => if x < 0 then jump t L r K M else k L r K M) = some out := h
        obtain ⟨x, r, rfl, h9⟩ := hgi1_some h
        intro ad H locs ls hn kc ks
        exact lv_if_lt hx hb hd ht (fun g => kj _ _ _ _ _ (by rw [if_pos g] at h9; exact h9) ad H locs ls (hn.to (hgSk_t hn.sk)) kc ks) (fun g => kk _ _ _ _ (by rw [if_neg g] at h9; exact h9) ad H locs ls (hn.to (hgSk_t hn.sk)) kc ks)
      | ge =>
        have h : (hgi1 S fun x r => if 0 ≤ x then jump t L r K M else k L r K M) = some out := h
        obtain ⟨x, r, rfl, h9⟩ := hgi1_some h
        intro ad H locs ls hn kc ks
        exact lv_if_ge hx hb hd ht (fun g => kj _ _ _ _ _ (by rw [if_pos g] at h9; exact h9) ad H locs ls (hn.to (hgSk_t hn.sk)) kc ks) (fun g => kk _ _ _ _ (by rw [if_neg g] at h9; exact h9) ad H locs ls (hn.to (hgSk_t hn.sk)) kc ks)
      | gt =>
        have h : (hgi1 S fun x r => if 0 < x then jump t L r K M else k L r K M) = some out := h
        obtain ⟨x, r, rfl, h9⟩ := hgi1_some h
        intro ad H locs ls hn kc ks
        exact lv_if_gt hx hb hd ht (fun g => kj _ _ _ _ _ (by rw [if_pos g] at h9; exact h9) ad H locs ls (hn.to (hgSk_t hn.sk)) kc ks) (fun g => kk _ _ _ _ (by rw [if_neg g] at h9; exact h9) ad H locs ls (hn.to (hgSk_t hn.sk)) kc ks)
      | le =>
        have h : (hgi1 S fun x r => if x ≤ 0 then jump t L r K M else k L r K M) = some out := h
        obtain ⟨x, r, rfl, h9⟩ := hgi1_some h
        intro ad H locs ls hn kc ks
        exact lv_if_le hx hb hd ht (fun g => kj _ _ _ _ _ (by rw [if_pos g] at h9; exact h9) ad H locs ls (hn.to (hgSk_t hn.sk)) kc ks) (fun g => kk _ _ _ _ (by rw [if_neg g] at h9; exact h9) ad H locs ls (hn.to (hgSk_t hn.sk)) kc ks)
    | [], hk, h => cases h
    | _ :: _ :: _, hk, h => cases h
  | if_icmp cd off =>
    have hl : len = 3 := by
      simp only [hgChk, Bool.and_eq_true, decide_eq_true_eq] at hk
      exact hk.1
    subst hl
    match ps, hk, h with
    | [t], hk, h =>
      have ht : (pc : Int) + off = (t : Int) := by
        have hk : (decide (3 = 3) && decide ((pc : Int) + off = (t : Int))) = true := hk
        simpa using hk
      cases cd with
      | eq =>
        have h : (hgi2 S fun x y r => if x = y then jump t L r K M else k L r K M) = some out := h
        obtain ⟨x, y, r, rfl, h9⟩ := hgi2_some h
        intro ad H locs ls hn kc ks
        exact lv_icmp_eq hx hb hd ht (fun g => kj _ _ _ _ _ (by rw [if_pos g] at h9; exact h9) ad H locs ls (hn.to (hgSk_t (hgSk_t hn.sk))) kc ks) (fun g => kk _ _ _ _ (by rw [if_neg g] at h9; exact h9) ad H locs ls (hn.to (hgSk_t (hgSk_t hn.sk))) kc ks)
      | ne =>
        have h : (hgi2 S fun x y r => if x = y then k L r K M else jump t L r K M) = some out := h
        obtain ⟨x, y, r, rfl, h9⟩ := hgi2_some h
        intro ad H locs ls hn kc ks
        exact lv_icmp_ne hx hb hd ht (fun g => kj _ _ _ _ _ (by rw [if_neg g] at h9; exact h9) ad H locs ls (hn.to (hgSk_t (hgSk_t hn.sk))) kc ks) (fun g => kk _ _ _ _ (by rw [if_pos g] at h9; exact h9) ad H locs ls (hn.to (hgSk_t (hgSk_t hn.sk))) kc ks)
      | lt =>
        have h : (hgi2 S fun x y r => if x < y then jump t L r K M else k L r K M) = some out := h
        obtain ⟨x, y, r, rfl, h9⟩ := hgi2_some h
        intro ad H locs ls hn kc ks
        exact lv_icmp_lt hx hb hd ht (fun g => kj _ _ _ _ _ (by rw [if_pos g] at h9; exact h9) ad H locs ls (hn.to (hgSk_t (hgSk_t hn.sk))) kc ks) (fun g => kk _ _ _ _ (by rw [if_neg g] at h9; exact h9) ad H locs ls (hn.to (hgSk_t (hgSk_t hn.sk))) kc ks)
      | ge =>
        have h : (hgi2 S fun x y r => if y ≤ x then jump t L r K M else k L r K M) = some out := h
        obtain ⟨x, y, r, rfl, h9⟩ := hgi2_some h
        intro ad H locs ls hn kc ks
        exact lv_icmp_ge hx hb hd ht (fun g => kj _ _ _ _ _ (by rw [if_pos g] at h9; exact h9) ad H locs ls (hn.to (hgSk_t (hgSk_t hn.sk))) kc ks) (fun g => kk _ _ _ _ (by rw [if_neg g] at h9; exact h9) ad H locs ls (hn.to (hgSk_t (hgSk_t hn.sk))) kc ks)
      | gt =>
        have h : (hgi2 S fun x y r => if y < x then jump t L r K M else k L r K M) = some out := h
        obtain ⟨x, y, r, rfl, h9⟩ := hgi2_some h
        intro ad H locs ls hn kc ks
        exact lv_icmp_gt hx hb hd ht (fun g => kj _ _ _ _ _ (by rw [if_pos g] at h9; exact h9) ad H locs ls (hn.to (hgSk_t (hgSk_t hn.sk))) kc ks) (fun g => kk _ _ _ _ (by rw [if_neg g] at h9; exact h9) ad H locs ls (hn.to (hgSk_t (hgSk_t hn.sk))) kc ks)
      | le =>
        have h : (hgi2 S fun x y r => if x ≤ y then jump t L r K M else k L r K M) = some out := h
        obtain ⟨x, y, r, rfl, h9⟩ := hgi2_some h
        intro ad H locs ls hn kc ks
        exact lv_icmp_le hx hb hd ht (fun g => kj _ _ _ _ _ (by rw [if_pos g] at h9; exact h9) ad H locs ls (hn.to (hgSk_t (hgSk_t hn.sk))) kc ks) (fun g => kk _ _ _ _ (by rw [if_neg g] at h9; exact h9) ad H locs ls (hn.to (hgSk_t (hgSk_t hn.sk))) kc ks)
    | [], hk, h => cases h
    | _ :: _ :: _, hk, h => cases h
  | goto off =>
    have hl : len = 3 := by
      simp only [hgChk, Bool.and_eq_true, decide_eq_true_eq] at hk
      exact hk.1
    subst hl
    match ps, hk, h with
    | [t], hk, h =>
      have ht : (pc : Int) + off = (t : Int) := by
        have hk : (decide (3 = 3) && decide ((pc : Int) + off = (t : Int))) = true := hk
        simpa using hk
      intro ad H locs ls hn kc ks
      exact lv_goto hx hb hd ht (kj _ _ _ _ _ h ad H locs ls hn kc ks)
    | [], hk, h => cases h
    | _ :: _ :: _, hk, h => cases h
  | tableswitch d lo hi offs =>
    match ps, hk, h with
    | [t], hk, h =>
      simp only [hgChk, Bool.and_eq_true, decide_eq_true_eq] at hk
      obtain ⟨⟨⟨⟨ht, hlo⟩, hhi⟩, hsz⟩, hall⟩ := hk
      have h : (hgi1 S fun x r => if hgIn x hs.length = true then jump (hs.getD x.toNatClampNeg (0, 0, 0)).1 L r K M else jump t L r K M) = some out := h
      obtain ⟨x, r, rfl, h9⟩ := hgi1_some h
      intro ad H locs ls hn kc ks
      split at h9
      · next g =>
        simp only [hgIn, Bool.and_eq_true, decide_eq_true_eq] at g
        have hj : x.toInt.toNat < hs.length := by omega
        have hcl : x.toNatClampNeg = x.toInt.toNat := rfl
        have h1 := List.all_eq_true.mp hall x.toInt.toNat (List.mem_range.mpr hj)
        split at h1
        · next o9 ho =>
          simp only [decide_eq_true_eq] at h1
          refine lv_tableIn hx hb hd (by omega) (by omega) (off := o9) (by rw [hlo, Int.sub_zero]; exact ho) h1 ?_
          exact kj _ _ _ _ _ h9 ad H locs ls (hn.to (hgSk_t hn.sk)) kc ks
        · cases h1
      · next g =>
        have hout : x.toInt < lo ∨ hi < x.toInt := by
          simp only [hgIn, Bool.and_eq_true, decide_eq_true_eq] at g
          omega
        exact lv_tableOut hx hb hd hout ht (kj _ _ _ _ _ h9 ad H locs ls (hn.to (hgSk_t hn.sk)) kc ks)
    | [], hk, h => cases h
    | _ :: _ :: _, hk, h => cases h
  | _ => first | exact kh rfl | cases h
end HGSTEP

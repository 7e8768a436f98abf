/-! THE MACHINE WITHOUT FUEL: hgW is what the machine answers with fuel enough; it keeps the machine's equation. -/
theorem hgEv {f g : Nat → Option hgOut} {o : hgOut} (h : ∃ n, ∀ t, n ≤ t → f t = some o) (e : ∀ t, g t = f t) : ∃ n, ∀ t, n ≤ t → g t = some o := by
  obtain ⟨n, hn⟩ := h
  exact ⟨n, fun t ht => (e t).trans (hn t ht)⟩
theorem hgget_c {M : hgMem} {a ci k kd : Nat} {f : Value → Option hgOut} {o : hgOut} (h : hgget M a ci k kd f = some o) : ∃ v, f v = some o ∧ ∀ g : Value → Option hgOut, hgget M a ci k kd g = g v := by
  unfold hgget at h
  split at h
  · next hc =>
    split at h
    · exact ⟨_, h, fun g => by unfold hgget; rw [if_pos hc]; rfl⟩
    · split at h
      · next r hr => exact ⟨_, h, fun g => by unfold hgget; rw [if_pos hc]; show (match hgR M a k with | some r => g (.ref r) | none => none) = _; rw [hr]⟩
      · cases h
    · next h1 h2 =>
      refine ⟨_, h, fun g => ?_⟩
      unfold hgget
      rw [if_pos hc]
      split
      · exact absurd rfl h1
      · exact absurd rfl h2
      · rfl
  · cases h
theorem hgput_c {M : hgMem} {S : List Value} {ci k kd : Nat} {f : List Value → hgMem → Option hgOut} {o : hgOut} (h : hgput M S ci k kd f = some o) : ∃ r M1, f r M1 = some o ∧ ∀ g : List Value → hgMem → Option hgOut, hgput M S ci k kd g = g r M1 := by
  unfold hgput at h
  split at h
  · split at h
    · next hc => exact ⟨_, _, h, fun g => by unfold hgput; exact if_pos hc⟩
    · cases h
  · split at h
    · next hc => exact ⟨_, _, h, fun g => by unfold hgput; exact if_pos hc⟩
    · cases h
  · split at h
    · next hc => exact ⟨_, _, h, fun g => by unfold hgput; exact if_pos hc⟩
    · cases h
  · split at h
    · next hc => exact ⟨_, _, h, fun g => by unfold hgput; exact if_pos hc⟩
    · cases h
  · cases h
theorem hgPrim_c {p : Nat} {S : List Value} {M : hgMem} {f : List Value → Option hgOut} {o : hgOut} (h : hgPrim p S M f = some o) : ∃ r, f r = some o ∧ ∀ g : List Value → Option hgOut, hgPrim p S M g = g r := by
  unfold hgPrim at h
  split at h
  · exact ⟨_, h, fun g => rfl⟩
  · exact ⟨_, h, fun g => rfl⟩
  · exact ⟨_, h, fun g => rfl⟩
  · split at h
    · next hc => exact ⟨_, h, fun g => by unfold hgPrim; exact if_pos hc⟩
    · cases h
  · split at h
    · next hc => exact ⟨_, h, fun g => by unfold hgPrim; exact if_pos hc⟩
    · cases h
  · split at h
    · next hc => exact ⟨_, h, fun g => by unfold hgPrim; exact if_pos hc⟩
    · cases h
  · cases h
section HGOM
variable {X : hgX} {rm : hgK} {call : Nat → List Value → hgMem → Option hgOut} {jump : Nat → hgL → List Value → hgK → hgMem → Option hgOut} {c : Nat → Nat → List Value → hgMem → Option hgOut} {j : Nat → Nat → hgL → List Value → hgK → hgMem → Option hgOut} {i : Instr} {ps : List Nat} {hs : List (Nat × Nat × Nat)} {L : hgL} {S : List Value} {K : hgK} {M : hgMem} {k : hgL → List Value → hgK → hgMem → Option hgOut} {kk : Nat → hgL → List Value → hgK → hgMem → Option hgOut} {o : hgOut}
theorem hgcall_c (hc : ∀ z as M o, call z as M = some o → ∃ n, ∀ t, n ≤ t → c t z as M = some o) (hj : ∀ u L S K M o, jump u L S K M = some o → ∃ n, ∀ t, n ≤ t → j t u L S K M = some o) (hk : ∀ L S K M, k L S K M = some o → ∃ n, ∀ t, n ≤ t → kk t L S K M = some o) (h : hgcall rm call jump ps hs L S K M k = some o) : ∃ n, ∀ t, n ≤ t → hgcall rm (c t) (j t) ps hs L S K M (kk t) = some o := by
  unfold hgcall at h
  split at h
  · next p n v w mc ms ci =>
    split at h
    · next hp =>
      obtain ⟨r, h1, hg⟩ := hgPrim_c h
      split at h1
      · next hr => exact hgEv (hk _ _ _ _ h1) (fun t => by unfold hgcall; dsimp only; rw [if_pos hp, hg, if_pos hr])
      · cases h1
    · next hp =>
      split at h
      · cases h
      · next as r ht =>
        split at h
        · next hcd =>
          split at h
          · cases h
          · next x M1 ho =>
            obtain ⟨n1, hn1⟩ := hc _ _ _ _ ho
            obtain ⟨n2, hn2⟩ := hk _ _ _ _ h
            refine ⟨max n1 n2, fun t ht9 => ?_⟩
            unfold hgcall
            dsimp only
            rw [if_neg hp, ht]
            dsimp only
            rw [if_pos hcd, hn1 t (by omega)]
            exact hn2 t (by omega)
          · next E M1 ho =>
            obtain ⟨n1, hn1⟩ := hc _ _ _ _ ho
            split at h
            · refine ⟨n1, fun t ht9 => ?_⟩
              unfold hgcall
              dsimp only
              rw [if_neg hp, ht]
              dsimp only
              rw [if_pos hcd, hn1 t ht9]
              exact h
            · next hne =>
              split at h
              · cases h
              · next u loc hh =>
                obtain ⟨n2, hn2⟩ := hj _ _ _ _ _ _ h
                refine ⟨max n1 n2, fun t ht9 => ?_⟩
                unfold hgcall
                dsimp only
                rw [if_neg hp, ht]
                dsimp only
                rw [if_pos hcd, hn1 t (by omega)]
                dsimp only
                split
                · exact absurd rfl hne
                · rw [hh]
                  exact hn2 t (by omega)
        · cases h
  · cases h
set_option maxHeartbeats 4000000 in
theorem hgStep_c (hc : ∀ z as M o, call z as M = some o → ∃ n, ∀ t, n ≤ t → c t z as M = some o) (hj : ∀ u L S K M o, jump u L S K M = some o → ∃ n, ∀ t, n ≤ t → j t u L S K M = some o) (hk : ∀ L S K M, k L S K M = some o → ∃ n, ∀ t, n ≤ t → kk t L S K M = some o) (h : hgStep X rm call jump i ps hs L S K M k = some o) : ∃ n, ∀ t, n ≤ t → hgStep X rm (c t) (j t) i ps hs L S K M (kk t) = some o := by
  cases i
  case iconst n =>
    exact hk _ _ _ _ h
  case bipush n =>
    exact hk _ _ _ _ h
  case sipush n =>
    exact hk _ _ _ _ h
  case lconst n =>
    exact hk _ _ _ _ h
  case fconst n =>
    unfold hgStep at h
    (try dsimp only at h)
    split at h
    · next e => exact hgEv (hk _ _ _ _ h) (fun t => if_pos e)
    · next e =>
      split at h
      · next e2 => exact hgEv (hk _ _ _ _ h) (fun t => (if_neg e).trans (if_pos e2))
      · cases h
  case iload n =>
    replace h : hgld L n 0 (fun v => k L (v :: S) K M) = some o := h
    obtain ⟨x, e, h⟩ := hgld0_some h
    exact hgEv (hk _ _ _ _ h) (fun t => by show hgld L n 0 (fun v => kk t L (v :: S) K M) = _; unfold hgld; rw [e]; rfl)
  case iload_n n =>
    replace h : hgld L n.val 0 (fun v => k L (v :: S) K M) = some o := h
    obtain ⟨x, e, h⟩ := hgld0_some h
    exact hgEv (hk _ _ _ _ h) (fun t => by show hgld L n.val 0 (fun v => kk t L (v :: S) K M) = _; unfold hgld; rw [e]; rfl)
  case lload n =>
    replace h : hgld L n 1 (fun v => k L (v :: S) K M) = some o := h
    obtain ⟨x, e, h⟩ := hgld1_some h
    exact hgEv (hk _ _ _ _ h) (fun t => by show hgld L n 1 (fun v => kk t L (v :: S) K M) = _; unfold hgld; rw [e]; rfl)
  case lload_n n =>
    replace h : hgld L n.val 1 (fun v => k L (v :: S) K M) = some o := h
    obtain ⟨x, e, h⟩ := hgld1_some h
    exact hgEv (hk _ _ _ _ h) (fun t => by show hgld L n.val 1 (fun v => kk t L (v :: S) K M) = _; unfold hgld; rw [e]; rfl)
  case fload n =>
    replace h : hgld L n 2 (fun v => k L (v :: S) K M) = some o := h
    obtain ⟨x, e, h⟩ := hgld2_some h
    exact hgEv (hk _ _ _ _ h) (fun t => by show hgld L n 2 (fun v => kk t L (v :: S) K M) = _; unfold hgld; rw [e]; rfl)
  case fload_n n =>
    replace h : hgld L n.val 2 (fun v => k L (v :: S) K M) = some o := h
    obtain ⟨x, e, h⟩ := hgld2_some h
    exact hgEv (hk _ _ _ _ h) (fun t => by show hgld L n.val 2 (fun v => kk t L (v :: S) K M) = _; unfold hgld; rw [e]; rfl)
  case aload n =>
    replace h : hgld L n 3 (fun v => k L (v :: S) K M) = some o := h
    obtain ⟨x, e, h⟩ := hgld3_some h
    exact hgEv (hk _ _ _ _ h) (fun t => by show hgld L n 3 (fun v => kk t L (v :: S) K M) = _; unfold hgld; rw [e]; rfl)
  case aload_n n =>
    replace h : hgld L n.val 3 (fun v => k L (v :: S) K M) = some o := h
    obtain ⟨x, e, h⟩ := hgld3_some h
    exact hgEv (hk _ _ _ _ h) (fun t => by show hgld L n.val 3 (fun v => kk t L (v :: S) K M) = _; unfold hgld; rw [e]; rfl)
  case istore n =>
    replace h : hgst S 0 (fun v r => k (hgS1 L n (some v)) r K M) = some o := h
    obtain ⟨x, r, rfl, h9⟩ := hgst0_some h
    exact hk _ _ _ _ h9
  case istore_n n =>
    replace h : hgst S 0 (fun v r => k (hgS1 L n.val (some v)) r K M) = some o := h
    obtain ⟨x, r, rfl, h9⟩ := hgst0_some h
    exact hk _ _ _ _ h9
  case lstore n =>
    replace h : hgst S 1 (fun v r => k (hgS2 L n (some v)) r K M) = some o := h
    obtain ⟨x, r, rfl, h9⟩ := hgst1_some h
    exact hk _ _ _ _ h9
  case lstore_n n =>
    replace h : hgst S 1 (fun v r => k (hgS2 L n.val (some v)) r K M) = some o := h
    obtain ⟨x, r, rfl, h9⟩ := hgst1_some h
    exact hk _ _ _ _ h9
  case fstore n =>
    replace h : hgst S 2 (fun v r => k (hgS1 L n (some v)) r K M) = some o := h
    obtain ⟨x, r, rfl, h9⟩ := hgst2_some h
    exact hk _ _ _ _ h9
  case fstore_n n =>
    replace h : hgst S 2 (fun v r => k (hgS1 L n.val (some v)) r K M) = some o := h
    obtain ⟨x, r, rfl, h9⟩ := hgst2_some h
    exact hk _ _ _ _ h9
  case astore n =>
    replace h : hgst S 3 (fun v r => k (hgS1 L n (some v)) r K M) = some o := h
    obtain ⟨x, r, rfl, h9⟩ := hgst3_some h
    exact hk _ _ _ _ h9
  case astore_n n =>
    replace h : hgst S 3 (fun v r => k (hgS1 L n.val (some v)) r K M) = some o := h
    obtain ⟨x, r, rfl, h9⟩ := hgst3_some h
    exact hk _ _ _ _ h9
  case iinc n d =>
    unfold hgStep at h
    (try dsimp only at h)
    split at h
    · next x e => exact hgEv (hk _ _ _ _ h) (fun t => by unfold hgStep; dsimp only; rw [e])
    · cases h
  case iadd =>
    obtain ⟨x, y, r, rfl, h9⟩ := hgi2_some h
    exact hk _ _ _ _ h9
  case isub =>
    obtain ⟨x, y, r, rfl, h9⟩ := hgi2_some h
    exact hk _ _ _ _ h9
  case imul =>
    obtain ⟨x, y, r, rfl, h9⟩ := hgi2_some h
    exact hk _ _ _ _ h9
  case iand =>
    obtain ⟨x, y, r, rfl, h9⟩ := hgi2_some h
    exact hk _ _ _ _ h9
  case ior =>
    obtain ⟨x, y, r, rfl, h9⟩ := hgi2_some h
    exact hk _ _ _ _ h9
  case ishl =>
    obtain ⟨x, y, r, rfl, h9⟩ := hgi2_some h
    exact hk _ _ _ _ h9
  case ishr =>
    obtain ⟨x, y, r, rfl, h9⟩ := hgi2_some h
    exact hk _ _ _ _ h9
  case iushr =>
    obtain ⟨x, y, r, rfl, h9⟩ := hgi2_some h
    exact hk _ _ _ _ h9
  case idiv =>
    unfold hgStep at h
    (try dsimp only at h)
    obtain ⟨x, y, r, rfl, h9⟩ := hgi2_some h
    (try dsimp only at h9)
    split at h9
    · cases h9
    · next e => exact hgEv (hk _ _ _ _ h9) (fun t => if_neg e)
  case irem =>
    unfold hgStep at h
    (try dsimp only at h)
    obtain ⟨x, y, r, rfl, h9⟩ := hgi2_some h
    (try dsimp only at h9)
    split at h9
    · cases h9
    · next e => exact hgEv (hk _ _ _ _ h9) (fun t => if_neg e)
  case i2l =>
    obtain ⟨x, r, rfl, h9⟩ := hgi1_some h
    exact hk _ _ _ _ h9
  case i2b =>
    obtain ⟨x, r, rfl, h9⟩ := hgi1_some h
    exact hk _ _ _ _ h9
  case i2f =>
    obtain ⟨x, r, rfl, h9⟩ := hgi1_some h
    exact hk _ _ _ _ h9
  case f2i =>
    obtain ⟨x, r, rfl, h9⟩ := hgf1_some h
    exact hk _ _ _ _ h9
  case ladd =>
    obtain ⟨x, y, r, rfl, h9⟩ := hgj2_some h
    exact hk _ _ _ _ h9
  case lmul =>
    obtain ⟨x, y, r, rfl, h9⟩ := hgj2_some h
    exact hk _ _ _ _ h9
  case lcmp =>
    obtain ⟨x, y, r, rfl, h9⟩ := hgj2_some h
    exact hk _ _ _ _ h9
  case fadd =>
    unfold hgStep at h
    (try dsimp only at h)
    obtain ⟨x, y, r, rfl, h9⟩ := hgf2_some h
    (try dsimp only at h9)
    split at h9
    · next e => exact hgEv (hk _ _ _ _ h9) (fun t => if_pos e)
    · cases h9
  case fmul =>
    unfold hgStep at h
    (try dsimp only at h)
    obtain ⟨x, y, r, rfl, h9⟩ := hgf2_some h
    (try dsimp only at h9)
    split at h9
    · next e => exact hgEv (hk _ _ _ _ h9) (fun t => if_pos e)
    · cases h9
  case fdiv =>
    unfold hgStep at h
    (try dsimp only at h)
    obtain ⟨x, y, r, rfl, h9⟩ := hgf2_some h
    (try dsimp only at h9)
    split at h9
    · next e => exact hgEv (hk _ _ _ _ h9) (fun t => if_pos e)
    · cases h9
  case fcmp op =>
    obtain ⟨x, y, r, rfl, h9⟩ := hgf2_some h
    exact hk _ _ _ _ h9
  case dup =>
    unfold hgStep hgdup at h
    (try dsimp only at h)
    split at h
    · exact hk _ _ _ _ h
    · exact hk _ _ _ _ h
    · exact hk _ _ _ _ h
    · cases h
  case pop =>
    unfold hgStep hgdup at h
    (try dsimp only at h)
    split at h
    · exact hk _ _ _ _ h
    · exact hk _ _ _ _ h
    · exact hk _ _ _ _ h
    · cases h
  case dup2 =>
    obtain ⟨a, y, r, rfl, h9⟩ := hgr2_some h
    exact hk _ _ _ _ h9
  case goto f =>
    unfold hgStep at h
    (try dsimp only at h)
    split at h
    · exact hj _ _ _ _ _ _ h
    · cases h
  case ifCond q f =>
    unfold hgStep at h
    (try dsimp only at h)
    split at h
    · next t =>
      obtain ⟨x, r, rfl, h9⟩ := hgi1_some h
      cases q with
      | eq =>
        replace h9 : (if x = 0 then jump t L r K M else k L r K M) = some o := h9
        split at h9
        · next e => exact hgEv (hj _ _ _ _ _ _ h9) (fun t => if_pos e)
        · next e => exact hgEv (hk _ _ _ _ h9) (fun t => if_neg e)
      | ne =>
        replace h9 : (if x = 0 then k L r K M else jump t L r K M) = some o := h9
        split at h9
        · next e => exact hgEv (hk _ _ _ _ h9) (fun t => if_pos e)
        · next e => exact hgEv (hj _ _ _ _ _ _ h9) (fun t => if_neg e)
      | lt =>
        replace h9 : (if x < 0 then jump t L r K M else k L r K M) = some o := h9
        split at h9
        · next e => exact hgEv (hj _ _ _ _ _ _ h9) (fun t => if_pos e)
        · next e => exact hgEv (hk _ _ _ _ h9) (fun t => if_neg e)
      | ge =>
        replace h9 : (if 0 ≤ x then jump t L r K M else k L r K M) = some o := h9
        split at h9
        · next e => exact hgEv (hj _ _ _ _ _ _ h9) (fun t => if_pos e)
        · next e => exact hgEv (hk _ _ _ _ h9) (fun t => if_neg e)
      | gt =>
        replace h9 : (if 0 < x then jump t L r K M else k L r K M) = some o := h9
        split at h9
        · next e => exact hgEv (hj _ _ _ _ _ _ h9) (fun t => if_pos e)
        · next e => exact hgEv (hk _ _ _ _ h9) (fun t => if_neg e)
      | le =>
        replace h9 : (if x ≤ 0 then jump t L r K M else k L r K M) = some o := h9
        split at h9
        · next e => exact hgEv (hj _ _ _ _ _ _ h9) (fun t => if_pos e)
        · next e => exact hgEv (hk _ _ _ _ h9) (fun t => if_neg e)
    · cases h
  case if_icmp q f =>
    unfold hgStep at h
    (try dsimp only at h)
    split at h
    · next t =>
      obtain ⟨x, y, r, rfl, h9⟩ := hgi2_some h
      cases q with
      | eq =>
        replace h9 : (if x = y then jump t L r K M else k L r K M) = some o := h9
        split at h9
        · next e => exact hgEv (hj _ _ _ _ _ _ h9) (fun t => if_pos e)
        · next e => exact hgEv (hk _ _ _ _ h9) (fun t => if_neg e)
      | ne =>
        replace h9 : (if x = y then k L r K M else jump t L r K M) = some o := h9
        split at h9
        · next e => exact hgEv (hk _ _ _ _ h9) (fun t => if_pos e)
        · next e => exact hgEv (hj _ _ _ _ _ _ h9) (fun t => if_neg e)
      | lt =>
        replace h9 : (if x < y then jump t L r K M else k L r K M) = some o := h9
        split at h9
        · next e => exact hgEv (hj _ _ _ _ _ _ h9) (fun t => if_pos e)
        · next e => exact hgEv (hk _ _ _ _ h9) (fun t => if_neg e)
      | ge =>
        replace h9 : (if y ≤ x then jump t L r K M else k L r K M) = some o := h9
        split at h9
        · next e => exact hgEv (hj _ _ _ _ _ _ h9) (fun t => if_pos e)
        · next e => exact hgEv (hk _ _ _ _ h9) (fun t => if_neg e)
      | gt =>
        replace h9 : (if y < x then jump t L r K M else k L r K M) = some o := h9
        split at h9
        · next e => exact hgEv (hj _ _ _ _ _ _ h9) (fun t => if_pos e)
        · next e => exact hgEv (hk _ _ _ _ h9) (fun t => if_neg e)
      | le =>
        replace h9 : (if x ≤ y then jump t L r K M else k L r K M) = some o := h9
        split at h9
        · next e => exact hgEv (hj _ _ _ _ _ _ h9) (fun t => if_pos e)
        · next e => exact hgEv (hk _ _ _ _ h9) (fun t => if_neg e)
    · cases h
  case tableswitch a b d f =>
    unfold hgStep at h
    (try dsimp only at h)
    split at h
    · obtain ⟨x, r, rfl, h9⟩ := hgi1_some h
      (try dsimp only at h9)
      split at h9
      · next e => exact hgEv (hj _ _ _ _ _ _ h9) (fun t => if_pos e)
      · next e => exact hgEv (hj _ _ _ _ _ _ h9) (fun t => if_neg e)
    · cases h
  case ldc n =>
    unfold hgStep at h
    (try dsimp only at h)
    split at h
    · exact hk _ _ _ _ h
    · exact hk _ _ _ _ h
    · exact hk _ _ _ _ h
    · cases h
  case ldc_w n =>
    unfold hgStep at h
    (try dsimp only at h)
    split at h
    · exact hk _ _ _ _ h
    · cases h
  case ldc2_w n =>
    unfold hgStep at h
    (try dsimp only at h)
    split at h
    · exact hk _ _ _ _ h
    · exact hk _ _ _ _ h
    · cases h
  case getfield n =>
    unfold hgStep at h
    (try dsimp only at h)
    split at h
    · next ci f kd w =>
      obtain ⟨a, r, rfl, h9⟩ := hgr1_some h
      replace h9 : hgget M a ci f kd (fun v => k L (v :: r) K M) = some o := h9
      obtain ⟨v, h1, hg⟩ := hgget_c h9
      exact hgEv (hk _ _ _ _ h1) (fun t => by unfold hgStep; dsimp only [hgr1]; exact hg _)
    · cases h
  case putfield n =>
    unfold hgStep at h
    (try dsimp only at h)
    split at h
    · next ci f kd w fin =>
      replace h : hgput M S ci f kd (fun r M1 => k L r K M1) = some o := h
      obtain ⟨r, M1, h1, hg⟩ := hgput_c h
      exact hgEv (hk _ _ _ _ h1) (fun t => hg _)
    · cases h
  case iaload =>
    unfold hgStep at h
    (try dsimp only at h)
    obtain ⟨a, y, r, rfl, h9⟩ := hgr2_some h
    (try dsimp only at h9)
    split at h9
    · next e =>
      split at h9
      · next e2 => exact hgEv (hk _ _ _ _ h9) (fun t => (if_pos e).trans (if_pos e2))
      · cases h9
    · next e =>
      split at h9
      · next e2 => exact hgEv (hk _ _ _ _ h9) (fun t => (if_neg e).trans (if_pos e2))
      · cases h9
  case baload =>
    unfold hgStep at h
    (try dsimp only at h)
    obtain ⟨a, y, r, rfl, h9⟩ := hgr2_some h
    (try dsimp only at h9)
    split at h9
    · next e => exact hgEv (hk _ _ _ _ h9) (fun t => if_pos e)
    · cases h9
  case laload =>
    unfold hgStep at h
    (try dsimp only at h)
    obtain ⟨a, y, r, rfl, h9⟩ := hgr2_some h
    (try dsimp only at h9)
    split at h9
    · next e => exact hgEv (hk _ _ _ _ h9) (fun t => if_pos e)
    · cases h9
  case aaload =>
    unfold hgStep at h
    (try dsimp only at h)
    obtain ⟨a, y, r, rfl, h9⟩ := hgr2_some h
    (try dsimp only at h9)
    split at h9
    · next e =>
      split at h9
      · next q e2 => exact hgEv (hk _ _ _ _ h9) (fun t => (if_pos e).trans (by rw [e2]))
      · cases h9
    · cases h9
  case iastore =>
    unfold hgStep at h
    (try dsimp only at h)
    split at h
    · split at h
      · next e => exact hgEv (hk _ _ _ _ h) (fun t => if_pos e)
      · cases h
    · cases h
  case lastore =>
    unfold hgStep at h
    (try dsimp only at h)
    split at h
    · split at h
      · next e => exact hgEv (hk _ _ _ _ h) (fun t => if_pos e)
      · cases h
    · cases h
  case aastore =>
    unfold hgStep at h
    (try dsimp only at h)
    split at h
    · split at h
      · next e => exact hgEv (hk _ _ _ _ h) (fun t => if_pos e)
      · cases h
    · cases h
  case bastore =>
    unfold hgStep at h
    (try dsimp only at h)
    split at h
    · split at h
      · next e => exact hgEv (hk _ _ _ _ h) (fun t => if_pos e)
      · next e =>
        split at h
        · next e2 => exact hgEv (hk _ _ _ _ h) (fun t => (if_neg e).trans (if_pos e2))
        · cases h
    · cases h
  case arraylength =>
    unfold hgStep at h
    (try dsimp only at h)
    obtain ⟨a, r, rfl, h9⟩ := hgr1_some h
    (try dsimp only at h9)
    split at h9
    · next e => exact hgEv (hk _ _ _ _ h9) (fun t => if_pos e)
    · next e =>
      split at h9
      · next e2 => exact hgEv (hk _ _ _ _ h9) (fun t => (if_neg e).trans (if_pos e2))
      · cases h9
  case new n =>
    unfold hgStep at h
    (try dsimp only at h)
    split at h
    · split at h
      · next e => exact hgEv (hk _ _ _ _ h) (fun t => if_pos e)
      · cases h
    · split at h
      · next e => exact ⟨0, fun t _ => (if_pos e).trans h⟩
      · cases h
    · cases h
  case newarray n =>
    unfold hgStep at h
    (try dsimp only at h)
    split at h
    · obtain ⟨x, r, rfl, h9⟩ := hgi1_some h
      (try dsimp only at h9)
      split at h9
      · next e => exact hgEv (hk _ _ _ _ h9) (fun t => if_pos e)
      · cases h9
    · cases h
  case anewarray n =>
    unfold hgStep at h
    (try dsimp only at h)
    split at h
    · obtain ⟨x, r, rfl, h9⟩ := hgi1_some h
      (try dsimp only at h9)
      split at h9
      · next e => exact hgEv (hk _ _ _ _ h9) (fun t => if_pos e)
      · cases h9
    · cases h
  case multianewarray n d =>
    unfold hgStep at h
    (try dsimp only at h)
    split at h
    · split at h
      · split at h
        · next e => exact hgEv (hk _ _ _ _ h) (fun t => if_pos e)
        · cases h
      · cases h
    · cases h
  case invokevirtual n =>
    exact hgcall_c hc hj hk h
  case invokestatic n =>
    exact hgcall_c hc hj hk h
  case invokespecial n =>
    exact hgcall_c hc hj hk h
  case ireturn =>
    exact ⟨0, fun t _ => h⟩
  case lreturn =>
    exact ⟨0, fun t _ => h⟩
  case return_ =>
    exact ⟨0, fun t _ => h⟩
  all_goals cases h
theorem hgEx_c (hc : ∀ z as M o, call z as M = some o → ∃ n, ∀ t, n ≤ t → c t z as M = some o) (hj : ∀ u L S K M o, jump u L S K M = some o → ∃ n, ∀ t, n ≤ t → j t u L S K M = some o) : ∀ (rs : List hgRow) (L : hgL) (S : List Value) (K : hgK) (M : hgMem), hgEx X rm call jump rs L S K M = some o → ∃ n, ∀ t, n ≤ t → hgEx X rm (c t) (j t) rs L S K M = some o
  | [], L, S, K, M, h => by cases h
  | (i, l, ps, hs) :: rs, L, S, K, M, h => hgStep_c (k := fun L S K M => hgEx X rm call jump rs L S K M) (kk := fun t L S K M => hgEx X rm (c t) (j t) rs L S K M) hc hj (fun L S K M h => hgEx_c hc hj rs L S K M h) h
end HGOM
theorem hgRun_up (X : hgX) : ∀ (n t : Nat), n ≤ t → ∀ (m pc : Nat) (L : hgL) (S : List Value) (K : hgK) (M : hgMem) (o : hgOut), hgRun X n m pc L S K M = some o → hgRun X t m pc L S K M = some o
  | 0, t, _, m, pc, L, S, K, M, o, h => by cases h
  | n + 1, 0, h0, m, pc, L, S, K, M, o, h => absurd h0 (by omega)
  | n + 1, t + 1, h0, m, pc, L, S, K, M, o, h => by
    rw [hgRun_succ] at h ⊢
    obtain ⟨u, hu⟩ := hgEx_c (c := fun _ => hgC X t) (j := fun _ => hgJp X t m) (fun z as M o h => ⟨0, fun _ _ => by
      unfold hgC at h ⊢
      split at h
      · next hl => rw [if_pos hl]; exact hgRun_up X n t (by omega) _ _ _ _ _ _ _ h
      · cases h⟩) (fun u L S K M o h => ⟨0, fun _ _ => hgRun_up X n t (by omega) _ _ _ _ _ _ _ h⟩) _ L S K M h
    exact hu u (Nat.le_refl u)
/-- what the machine answers from this label, with fuel enough -/
noncomputable def hgW (X : hgX) (m pc : Nat) (L : hgL) (S : List Value) (K : hgK) (M : hgMem) : Option hgOut := @dite _ (∃ o n, hgRun X n m pc L S K M = some o) (Classical.propDecidable _) (fun h => some (Classical.choose h)) (fun _ => none)
noncomputable def hgWC (X : hgX) (q : Nat) (as : List Value) (M : hgMem) : Option hgOut := if (hgEnt as).length ≤ hgMl q then hgW X q 0 (hgPad (hgMl q) (hgEnt as)) [] (0, 0) M else none
noncomputable def hgWJ (X : hgX) (m t : Nat) (L : hgL) (S : List Value) (K : hgK) (M : hgMem) : Option hgOut := hgW X m t (hgMask (hgLk t (hgBs m)).1 L) S K M
theorem hgW_iff {X : hgX} {m pc : Nat} {L : hgL} {S : List Value} {K : hgK} {M : hgMem} {o : hgOut} : hgW X m pc L S K M = some o ↔ ∃ n, hgRun X n m pc L S K M = some o := by
  unfold hgW
  constructor
  · intro h
    split at h
    · next hx =>
      cases h
      exact Classical.choose_spec hx
    · cases h
  · intro h
    have hx : ∃ o n, hgRun X n m pc L S K M = some o := ⟨o, h⟩
    split
    · next hx =>
      obtain ⟨n1, h1⟩ := Classical.choose_spec hx
      obtain ⟨n2, h2⟩ := h
      have e1 := hgRun_up X n1 (max n1 n2) (by omega) _ _ _ _ _ _ _ h1
      have e2 := hgRun_up X n2 (max n1 n2) (by omega) _ _ _ _ _ _ _ h2
      rw [e1] at e2
      exact e2
    · next hn => exact absurd hx hn
theorem hgW_eq (X : hgX) (m pc : Nat) (L : hgL) (S : List Value) (K : hgK) (M : hgMem) : hgW X m pc L S K M = hgEx X (hgRm m) (hgWC X) (hgWJ X m) (hgLk pc (hgBs m)).2 L S K M := by
  refine Option.ext (fun o => ?_)
  rw [hgW_iff]
  constructor
  · rintro ⟨n, h⟩
    cases n with
    | zero => cases h
    | succ n =>
      rw [hgRun_succ] at h
      obtain ⟨u, hu⟩ := hgEx_c (c := fun _ => hgWC X) (j := fun _ => hgWJ X m) (fun z as M o h => ⟨0, fun _ _ => by
        unfold hgC at h
        unfold hgWC
        split at h
        · next hl => rw [if_pos hl]; exact hgW_iff.mpr ⟨n, h⟩
        · cases h⟩) (fun u L S K M o h => ⟨0, fun _ _ => hgW_iff.mpr ⟨n, h⟩⟩) _ L S K M h
      exact hu u (Nat.le_refl u)
  · intro h
    obtain ⟨u, hu⟩ := hgEx_c (c := fun t => hgC X t) (j := fun t => hgJp X t m) (fun z as M o h => by
      unfold hgWC at h
      split at h
      · next hl =>
        obtain ⟨n, hn⟩ := hgW_iff.mp h
        exact ⟨n, fun t ht => by unfold hgC; rw [if_pos hl]; exact hgRun_up X n t ht _ _ _ _ _ _ _ hn⟩
      · cases h) (fun u L S K M o h => by
      obtain ⟨n, hn⟩ := hgW_iff.mp h
      exact ⟨n, fun t ht => hgRun_up X n t ht _ _ _ _ _ _ _ hn⟩) _ L S K M h
    exact ⟨u + 1, by rw [hgRun_succ]; exact hu u (Nat.le_refl u)⟩

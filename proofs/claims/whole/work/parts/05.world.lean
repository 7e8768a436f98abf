/-! THE WORLD: which heap cells the abstract memory stands for. ad: the address of each numbered cell (below 1000 the memory's own, from 1000 on the texts, 2000 the script). cy: the class of each kind of array. -/
def hgPh (ad : Nat → Nat) (v : Value) : Value := match v with
  | .ref a => .ref (ad a)
  | v => v
theorem hgPh_cat (ad : Nat → Nat) (v : Value) : (hgPh ad v).category = v.category := by cases v <;> rfl
def hgFv (ad : Nat → Nat) (M : hgMem) (a ci k : Nat) : Value := if hgFk ci k = 1 then .long (hgJ M a k) else if hgFk ci k = 2 then va_rf ((hgR M a k).map ad) else .int (hgI M a k)
def hgEn (cy : Nat → ClassId) (ad : Nat → Nat) (M : hgMem) (a : Nat) : va_E :=
  if (hgSh a).1 < 20 then .inr ((hgSh a).1, (List.range (hgSh a).2).map (fun k => hgFv ad M a (hgSh a).1 k))
  else if (hgSh a).1 = 21 then .inl (cy 21, (hgSh a).2, .inr (.inl (hgJ M a)))
  else if 24 ≤ (hgSh a).1 then .inl (cy (hgSh a).1, (hgSh a).2, .inr (.inr (.inr (.inr (fun i => (hgR M a i).map ad)))))
  else .inl (cy (hgSh a).1, (hgSh a).2, .inl (hgI M a))
def hgWs (cy : Nat → ClassId) (ad : Nat → Nat) (M : hgMem) : va_W := (List.range M.1).map (fun a => (ad a, hgEn cy ad M a))
theorem hgWs_at (cy : Nat → ClassId) (ad : Nat → Nat) (M : hgMem) {a : Nat} (h : a < M.1) : (hgWs cy ad M)[a]? = some (ad a, hgEn cy ad M a) := by
  simp [hgWs, h]
theorem hgWs_lt (cy : Nat → ClassId) (ad : Nat → Nat) (M : hgMem) {a : Nat} {q : Nat × va_E} (h : (hgWs cy ad M)[a]? = some q) : a < M.1 ∧ q = (ad a, hgEn cy ad M a) := by
  rcases Nat.lt_or_ge a M.1 with g | g
  · rw [hgWs_at cy ad M g] at h
    exact ⟨g, (Option.some.inj h).symm⟩
  · rw [List.getElem?_eq_none (by simp [hgWs]; exact g)] at h
    cases h
theorem hgWs_set (cy : Nat → ClassId) (ad : Nat → Nat) (M M1 : hgMem) {a : Nat} {e : va_E} (hN : M1.1 = M.1) (he : hgEn cy ad M1 a = e) (ho : ∀ b, b ≠ a → hgEn cy ad M1 b = hgEn cy ad M b) : (hgWs cy ad M).set a (ad a, e) = hgWs cy ad M1 := by
  apply List.ext_getElem?
  intro b
  rw [List.getElem?_set]
  by_cases hb : a = b
  · subst hb
    rw [if_pos rfl]
    split
    · next h =>
      have h : a < M.1 := by simpa [hgWs] using h
      rw [hgWs_at cy ad M1 (by rw [hN]; exact h), he]
    · next h =>
      have h : ¬ a < M.1 := by simpa [hgWs] using h
      rw [List.getElem?_eq_none (by simp [hgWs]; omega)]
  · rw [if_neg hb]
    rcases Nat.lt_or_ge b M.1 with g | g
    · rw [hgWs_at cy ad M g, hgWs_at cy ad M1 (by rw [hN]; exact g), ho b (fun q => hb q.symm)]
    · rw [List.getElem?_eq_none (by simp [hgWs]; omega), List.getElem?_eq_none (by simp [hgWs]; omega)]
theorem hgU_ne {α : Type} (f : Nat → Nat → α) (a k : Nat) (x : α) {b : Nat} (h : b ≠ a) : hgU f a k x b = f b := by
  funext j
  simp [hgU, h]
theorem hgU_at {α : Type} (f : Nat → Nat → α) (a k : Nat) (x : α) : hgU f a k x a = va_up (f a) k x := by
  funext j
  simp [hgU, va_up]
theorem hgEn_SI_ne (cy : Nat → ClassId) (ad : Nat → Nat) (M : hgMem) (a k : Nat) (x : Int32) {b : Nat} (h : b ≠ a) : hgEn cy ad (hgSI M a k x) b = hgEn cy ad M b := by
  have e1 : hgI (hgSI M a k x) b = hgI M b := hgU_ne _ _ _ _ h
  have e2 : hgJ (hgSI M a k x) b = hgJ M b := rfl
  have e3 : hgR (hgSI M a k x) b = hgR M b := rfl
  simp only [hgEn, hgFv, e1, e2, e3]
theorem hgEn_SJ_ne (cy : Nat → ClassId) (ad : Nat → Nat) (M : hgMem) (a k : Nat) (x : Int64) {b : Nat} (h : b ≠ a) : hgEn cy ad (hgSJ M a k x) b = hgEn cy ad M b := by
  have e1 : hgI (hgSJ M a k x) b = hgI M b := rfl
  have e2 : hgJ (hgSJ M a k x) b = hgJ M b := hgU_ne _ _ _ _ h
  have e3 : hgR (hgSJ M a k x) b = hgR M b := rfl
  simp only [hgEn, hgFv, e1, e2, e3]
theorem hgEn_SR_ne (cy : Nat → ClassId) (ad : Nat → Nat) (M : hgMem) (a k x : Nat) {b : Nat} (h : b ≠ a) : hgEn cy ad (hgSR M a k x) b = hgEn cy ad M b := by
  have e1 : hgI (hgSR M a k x) b = hgI M b := rfl
  have e2 : hgJ (hgSR M a k x) b = hgJ M b := rfl
  have e3 : hgR (hgSR M a k x) b = hgR M b := hgU_ne _ _ _ _ h
  simp only [hgEn, hgFv, e1, e2, e3]
/-- an object's fields, one of them set -/
theorem hgFs_set (ad : Nat → Nat) (M M1 : hgMem) (a ci n k : Nat) {v : Value} (hv : hgFv ad M1 a ci k = v) (ho : ∀ j, j ≠ k → hgFv ad M1 a ci j = hgFv ad M a ci j) : ((List.range n).map (fun j => hgFv ad M a ci j)).set k v = (List.range n).map (fun j => hgFv ad M1 a ci j) := by
  apply List.ext_getElem?
  intro b
  rw [List.getElem?_set]
  by_cases hb : k = b
  · subst hb
    rw [if_pos rfl]
    split
    · next h =>
      have h : k < n := by simpa using h
      simp [h, hv]
    · next h =>
      have h : ¬ k < n := by simpa using h
      simp [h]
  · rw [if_neg hb]
    rcases Nat.lt_or_ge b n with g | g
    · simp [g, ho b (fun q => hb q.symm)]
    · simp [Nat.not_lt.mpr g]
theorem hgEn_obj (cy : Nat → ClassId) (ad : Nat → Nat) (M : hgMem) {a ci : Nat} (h : (hgSh a).1 = ci) (hc : ci < 20) : hgEn cy ad M a = .inr (ci, (List.range (hgSh a).2).map (fun k => hgFv ad M a ci k)) := by
  subst h
  simp [hgEn, hc]
theorem hgEn_int (cy : Nat → ClassId) (ad : Nat → Nat) (M : hgMem) {a kd : Nat} (h : (hgSh a).1 = kd) (hc : kd = 20 ∨ kd = 22 ∨ kd = 23) : hgEn cy ad M a = .inl (cy kd, (hgSh a).2, .inl (hgI M a)) := by
  subst h
  rcases hc with h | h | h <;> simp [hgEn, h]
theorem hgEn_long (cy : Nat → ClassId) (ad : Nat → Nat) (M : hgMem) {a : Nat} (h : (hgSh a).1 = 21) : hgEn cy ad M a = .inl (cy 21, (hgSh a).2, .inr (.inl (hgJ M a))) := by
  simp [hgEn, h]
theorem hgEn_ref (cy : Nat → ClassId) (ad : Nat → Nat) (M : hgMem) {a kd : Nat} (h : (hgSh a).1 = kd) (hc : 24 ≤ kd) : hgEn cy ad M a = .inl (cy kd, (hgSh a).2, .inr (.inr (.inr (.inr (fun i => (hgR M a i).map ad))))) := by
  subst h
  have h1 : ¬ (hgSh a).1 < 20 := by omega
  have h2 : ¬ (hgSh a).1 = 21 := by omega
  simp [hgEn, h1, h2, hc]
/-- references of the memory point into it -/
def hgRok (M : hgMem) : Prop := ∀ a k r, hgR M a k = some r → r < M.1
theorem hgRok_SI {M : hgMem} (h : hgRok M) (a k : Nat) (x : Int32) : hgRok (hgSI M a k x) := h
theorem hgRok_SJ {M : hgMem} (h : hgRok M) (a k : Nat) (x : Int64) : hgRok (hgSJ M a k x) := h
theorem hgRok_SR {M : hgMem} (h : hgRok M) (a k : Nat) {x : Nat} (hx : x < M.1) : hgRok (hgSR M a k x) := by
  intro b j r hr
  have hr : hgU (hgR M) a k (some x) b j = some r := hr
  unfold hgU at hr
  split at hr
  · split at hr
    · cases hr; exact hx
    · exact h b j r hr
  · exact h b j r hr
/-- ad' names the old cells, the texts and the script as ad does -/
def hgExt (N : Nat) (ad ad1 : Nat → Nat) : Prop := ∀ a, a < N ∨ 1000 ≤ a → ad1 a = ad a
theorem hgExt.rf {N : Nat} {ad : Nat → Nat} : hgExt N ad ad := fun _ _ => rfl
theorem hgExt.tr {N N1 : Nat} {ad ad1 ad2 : Nat → Nat} (h : hgExt N ad ad1) (hN : N ≤ N1) (h1 : hgExt N1 ad1 ad2) : hgExt N ad ad2 := fun a ha => (h1 a (by omega)).trans (h a ha)
/-- what the locals hold -/
def hgAs (ad : Nat → Nat) : Nat → hgL → List (Nat × Value)
  | _, [] => []
  | i, none :: L => hgAs ad (i + 1) L
  | i, some v :: L => (i, hgPh ad v) :: hgAs ad (i + 1) L
theorem hgAs_mem {ad : Nat → Nat} : ∀ {L : hgL} {i j : Nat} {w : Value}, (j, w) ∈ hgAs ad i L ↔ ∃ (d : Nat) (v : Value), j = i + d ∧ hgG L d = some v ∧ w = hgPh ad v
  | [], i, j, w => by simp [hgAs, hgG]
  | none :: L, i, j, w => by
    rw [hgAs, hgAs_mem]
    constructor
    · rintro ⟨d, v, h1, h2, h3⟩
      exact ⟨d + 1, v, by omega, h2, h3⟩
    · rintro ⟨d, v, h1, h2, h3⟩
      cases d with
      | zero => simp [hgG] at h2
      | succ d => exact ⟨d, v, by omega, h2, h3⟩
  | some v0 :: L, i, j, w => by
    rw [hgAs, List.mem_cons, hgAs_mem]
    constructor
    · rintro (h | ⟨d, v, h1, h2, h3⟩)
      · cases h
        exact ⟨0, v0, rfl, rfl, rfl⟩
      · exact ⟨d + 1, v, by omega, h2, h3⟩
    · rintro ⟨d, v, h1, h2, h3⟩
      cases d with
      | zero =>
        left
        have h2 : some v0 = some v := h2
        cases h2
        rw [h1, h3]; rfl
      | succ d => exact Or.inr ⟨d, v, by omega, h2, h3⟩
def hgLH (ls : Array Slot) (nL : Nat) (ad : Nat → Nat) (L : hgL) : Prop := lv_has ls nL (hgAs ad 0 L)
theorem hgLH_get {ls : Array Slot} {nL : Nat} {ad : Nat → Nat} {L : hgL} (h : hgLH ls nL ad L) {i : Nat} {v : Value} (hv : hgG L i = some v) : ls[i]? = some (.val (hgPh ad v)) :=
  h.2.2 (i, hgPh ad v) (hgAs_mem.mpr ⟨i, v, (Nat.zero_add i).symm, hv, rfl⟩)
theorem hgLH_mono {ls : Array Slot} {nL : Nat} {ad : Nat → Nat} {L : hgL} {l : List (Nat × Value)} (h : lv_has ls nL l) (hs : ∀ i v, hgG L i = some v → (i, hgPh ad v) ∈ l) : hgLH ls nL ad L := by
  refine ⟨h.1, h.2.1, fun q hq => h.2.2 q ?_⟩
  obtain ⟨j, w⟩ := q
  obtain ⟨d, v, h1, h2, h3⟩ := hgAs_mem.mp hq
  rw [h3, h1, Nat.zero_add]
  exact hs d v h2
theorem hgG_put : ∀ {L : hgL} {i j : Nat} {v : Option Value} {w : Value}, hgG (hgPut L i v) j = some w → (j = i ∧ v = some w) ∨ (j ≠ i ∧ hgG L j = some w)
  | [], i, j, v, w, h => by simp [hgPut, hgG] at h
  | a :: L, 0, 0, v, w, h => Or.inl ⟨rfl, h⟩
  | a :: L, 0, j + 1, v, w, h => Or.inr ⟨by omega, h⟩
  | a :: L, i + 1, 0, v, w, h => Or.inr ⟨by omega, h⟩
  | a :: L, i + 1, j + 1, v, w, h => by
    rcases hgG_put (L := L) (i := i) (j := j) h with ⟨h1, h2⟩ | ⟨h1, h2⟩
    · exact Or.inl ⟨by omega, h2⟩
    · exact Or.inr ⟨by omega, h2⟩
theorem hgWide_of {v : Value} (h : v.category = 2) : hgWide (some v) = true := by
  cases v <;> first | rfl | (simp [Value.category] at h)
theorem hgG_S1 {L : hgL} {i j : Nat} {v : Option Value} {w : Value} (h : hgG (hgS1 L i v) j = some w) : (j = i ∧ v = some w) ∨ (j ≠ i ∧ hgG L j = some w ∧ ¬ (j + 1 = i ∧ w.category = 2)) := by
  cases i with
  | zero =>
    rcases hgG_put h with g | ⟨g1, g2⟩
    · exact Or.inl g
    · exact Or.inr ⟨g1, g2, fun q => by omega⟩
  | succ i =>
    unfold hgS1 at h
    dsimp only at h
    split at h
    · rcases hgG_put h with g | ⟨g1, g2⟩
      · exact Or.inl g
      · rcases hgG_put g2 with ⟨_, g4⟩ | ⟨g3, g4⟩
        · cases g4
        · exact Or.inr ⟨g1, g4, fun q => g3 (by omega)⟩
    · next hw =>
      rcases hgG_put h with g | ⟨g1, g2⟩
      · exact Or.inl g
      · refine Or.inr ⟨g1, g2, fun q => hw ?_⟩
        have e : j = i := by omega
        rw [← e, g2]
        exact hgWide_of q.2
theorem hgLH_st1 {ls ls1 : Array Slot} {nL : Nat} {ad : Nat → Nat} {L : hgL} {i : Nat} {v : Value} (h1 : lv_has ls1 nL ((i, hgPh ad v) :: (hgAs ad 0 L).filter (fun q => !(q.1 == i) && !(q.1 + 1 == i && q.2.category == 2)))) : hgLH ls1 nL ad (hgS1 L i (some v)) := by
  refine hgLH_mono h1 (fun j w hw => ?_)
  rcases hgG_S1 hw with ⟨g1, g2⟩ | ⟨g1, g2, g3⟩
  · cases g2
    rw [g1]
    exact List.mem_cons_self
  · refine List.mem_cons_of_mem _ (List.mem_filter.mpr ⟨hgAs_mem.mpr ⟨j, w, (Nat.zero_add j).symm, g2, rfl⟩, ?_⟩)
    simp only [Bool.and_eq_true, Bool.not_eq_true', beq_eq_false_iff_ne, ne_eq, Bool.and_eq_false_iff, hgPh_cat]
    refine ⟨g1, ?_⟩
    by_cases e : j + 1 = i
    · exact Or.inr (fun q => g3 ⟨e, q⟩)
    · exact Or.inl e
theorem hgLH_st2 {ls ls1 : Array Slot} {nL : Nat} {ad : Nat → Nat} {L : hgL} {i : Nat} {v : Value} (h1 : lv_has ls1 nL ((i, hgPh ad v) :: (hgAs ad 0 L).filter (fun q => !(q.1 == i) && (!(q.1 == i + 1) && !(q.1 + 1 == i && q.2.category == 2))))) : hgLH ls1 nL ad (hgS2 L i (some v)) := by
  refine hgLH_mono h1 (fun j w hw => ?_)
  rcases hgG_put hw with ⟨_, g2⟩ | ⟨g0, g2⟩
  · cases g2
  · rcases hgG_S1 g2 with ⟨g1, g2⟩ | ⟨g1, g2, g3⟩
    · cases g2
      rw [g1]
      exact List.mem_cons_self
    · refine List.mem_cons_of_mem _ (List.mem_filter.mpr ⟨hgAs_mem.mpr ⟨j, w, (Nat.zero_add j).symm, g2, rfl⟩, ?_⟩)
      simp only [Bool.and_eq_true, Bool.not_eq_true', beq_eq_false_iff_ne, ne_eq, Bool.and_eq_false_iff, hgPh_cat]
      refine ⟨g1, g0, ?_⟩
      by_cases e : j + 1 = i
      · exact Or.inr (fun q => g3 ⟨e, q⟩)
      · exact Or.inl e
theorem hgG_mask : ∀ {b : List Bool} {L : hgL} {j : Nat} {w : Value}, hgG (hgMask b L) j = some w → hgG L j = some w
  | [], L, j, w, h => by rw [hgMask] at h; exact h
  | true :: b, [], j, w, h => by simp [hgMask, hgG] at h
  | false :: b, [], j, w, h => by simp [hgMask, hgG] at h
  | true :: b, v :: L, 0, w, h => h
  | true :: b, v :: L, j + 1, w, h => hgG_mask (b := b) (L := L) (j := j) h
  | false :: b, v :: L, 0, w, h => by cases h
  | false :: b, v :: L, j + 1, w, h => hgG_mask (b := b) (L := L) (j := j) h
theorem hgLH_mask {ls : Array Slot} {nL : Nat} {ad : Nat → Nat} {L : hgL} (b : List Bool) (h : hgLH ls nL ad L) : hgLH ls nL ad (hgMask b L) :=
  hgLH_mono h (fun i v hv => hgAs_mem.mpr ⟨i, v, (Nat.zero_add i).symm, hgG_mask hv, rfl⟩)
theorem hgPh_ext {N : Nat} {ad ad1 : Nat → Nat} (h : hgExt N ad ad1) {v : Value} (hv : ∀ a, v = .ref a → a < N ∨ 1000 ≤ a) : hgPh ad1 v = hgPh ad v := by
  cases v <;> first | rfl | skip
  next a => exact congrArg Value.ref (h a (hv a rfl))

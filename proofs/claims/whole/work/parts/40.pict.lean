/-! THE PICTURE of a gateway, for both sides: counts; scalars 3 clock, 4 rate, 5 day, 6 limit, 7-9 counts; devices' fields 0 group, 1 weight, 2 delay, 3 patience, 4 state, 5 wait, 6 idle, 7 delivered, 8 longest; times; queues of (size, arrival); rules' fields 0 allow, 1 from, 2 to, 3 low, 4 high; wake ports; quiet hours 0 from, 1 to. -/
abbrev hgV : Type := (Nat × Nat × Nat) × (Nat → Int32) × (Nat → Nat → Int32) × (Nat → Int64) × (Nat → List (Int32 × Int32)) × (Nat → Nat → Int32) × (Nat → Int32) × (Nat → Nat → Int32) × (Nat → List Nat)
def vN (V : hgV) : Nat := V.1.1
def vR (V : hgV) : Nat := V.1.2.1
def vW (V : hgV) : Nat := V.1.2.2
def vS (V : hgV) : Nat → Int32 := V.2.1
def vD (V : hgV) : Nat → Nat → Int32 := V.2.2.1
def vT (V : hgV) : Nat → Int64 := V.2.2.2.1
def vQ (V : hgV) : Nat → List (Int32 × Int32) := V.2.2.2.2.1
def vU (V : hgV) : Nat → Nat → Int32 := V.2.2.2.2.2.1
def vP (V : hgV) : Nat → Int32 := V.2.2.2.2.2.2.1
def vH (V : hgV) : Nat → Nat → Int32 := V.2.2.2.2.2.2.2.1
/-- the packets' numbers in the component's store -/
def vB (V : hgV) : Nat → List Nat := V.2.2.2.2.2.2.2.2
/-- what every picture keeps; c: how many packets were ever put -/
def hgVok (V : hgV) (c : Nat) : Prop := vN V ≤ 10 ∧ vR V ≤ 12 ∧ vW V ≤ 8 ∧ (∀ i, i < vN V → (∃ q, q < 3 ∧ vD V i 0 = nI q) ∧ (∃ w, 1 ≤ w ∧ w ≤ 9 ∧ vD V i 1 = nI w) ∧ (vQ V i).length ≤ 512 ∧ (∀ z ∈ vQ V i, ∃ s, 1 ≤ s ∧ s ≤ 99 ∧ z.1 = nI s) ∧ (∃ w, w ≤ 9 ∧ vD V i 2 = nI w) ∧ (∃ w, w ≤ 9 ∧ vD V i 5 = nI w) ∧ (∀ p ∈ vB V i, p < c) ∧ (∃ n, vD V i 7 = nI n ∧ n + 99 * (vQ V i).length ≤ 99 * c) ∧ (0 ≤ (vT V i).toInt ∧ (vT V i).toInt + 249480 * (vQ V i).length ≤ 249480 * c)) ∧ (∀ j, j < vR V → vU V j 0 = nI 0 ∨ vU V j 0 = nI 1) ∧ (vS V 5 = nI 0 → ∀ q, q < 3 → vH V q 0 = nI 0 ∧ vH V q 1 = nI 0) ∧ (∃ r, r ≤ 999 ∧ vS V 4 = nI r) ∧ (∀ j, j < vR V → ∃ lo hi, lo ≤ hi ∧ hi ≤ 999 ∧ vU V j 3 = nI lo ∧ vU V j 4 = nI hi) ∧ c ≤ 512
/-- the reference's arrays d and t hold the picture -/
def hgRV (M : hgMem) (d t : Nat) (V : hgV) : Prop :=
  hgAr M d 20 20187 ∧ d ≠ 2000 ∧ hgAr M t 21 10 ∧ hgI M d 0 = nI (vN V) ∧ hgI M d 1 = nI (vR V) ∧ hgI M d 2 = nI (vW V) ∧ (∀ k, 3 ≤ k → k ≤ 9 → hgI M d k = vS V k) ∧
  (∀ i, i < vN V → (∀ k, k ≤ 8 → hgI M d (27 + 10 * i + k) = vD V i k) ∧ hgI M d (27 + 10 * i + 9) = nI (vQ V i).length ∧ hgJ M t i = vT V i ∧ (∀ k z, (vQ V i)[k]? = some z → hgI M d (187 + 2 * (1000 * i + k)) = z.1 ∧ hgI M d (187 + 2 * (1000 * i + k) + 1) = z.2)) ∧
  (∀ j, j < vR V → ∀ k, k ≤ 4 → hgI M d (127 + 5 * j + k) = vU V j k) ∧ (∀ k, k < vW V → hgI M d (10 + k) = vP V k) ∧
  (∀ q, q < 3 → (hgI M d (18 + 3 * q) = nI 0 ∧ vH V q 0 = nI 0 ∧ vH V q 1 = nI 0) ∨ (hgI M d (18 + 3 * q) = nI 1 ∧ nI 0 < vS V 5 ∧ hgI M d (18 + 3 * q + 1) = vH V q 0 ∧ hgI M d (18 + 3 * q + 2) = vH V q 1))
/-- a queue as a chain of packets' numbers: from f, the last at l -/
def hgIds (M : hgMem) : List Nat → Int32 → Int32 → Prop
  | [], _, _ => True
  | [p], f, l => f = nI p ∧ l = nI p
  | p :: q :: r, f, l => f = nI p ∧ hgIds M (q :: r) (hgI M 4 p) l
def hgQd (M : hgMem) (q : List (Int32 × Int32)) (b : List Nat) (f l : Int32) : Prop := hgIds M b f l ∧ q = b.map (fun p => (hgI M 2 p, hgI M 3 p))
/-- a device's field in the component: where the picture's field k lies -/
def hgFs : Nat → Nat := fun k => if k ≤ 6 then k else k + 1
def hgBk (q : List (Int32 × Int32)) : Int32 := q.foldl (fun s z => s + z.1) (nI 0)
/-- the component's device at a is the picture's i -/
def hgDv (M : hgMem) (a : Nat) (V : hgV) (i : Nat) : Prop := (∀ k, k ≤ 8 → hgI M a (hgFs k) = vD V i k) ∧ hgJ M a 7 = vT V i ∧ hgI M a 12 = nI (vQ V i).length ∧ hgI M a 13 = hgBk (vQ V i) ∧ hgQd M (vQ V i) (vB V i) (hgI M a 10) (hgI M a 11) ∧ (hgI M a 14 = nI 0 ∨ hgI M a 14 = nI 1)
/-- the component's gateway g holds the picture -/
def hgCV (M : hgMem) (g : Nat) (V : hgV) : Prop :=
  hgGw g ∧ hgI M g 6 = nI (vN V) ∧ hgI M (g + 12) 1 = nI (vR V) ∧ hgI M g 9 = nI (vW V) ∧ hgI M g 12 = vS V 3 ∧ hgI M g 2 = vS V 4 ∧ hgI M g 3 = vS V 5 ∧ hgI M g 4 = vS V 6 ∧ hgI M g 13 = vS V 7 ∧ hgI M g 14 = vS V 8 ∧ hgI M g 15 = vS V 9 ∧
  (∀ i, i < vN V → hgDv M (g + 2 + i) V i) ∧
  (∀ j, j < vR V → ∀ k, k ≤ 4 → hgRf M g j k = vU V j k) ∧ (∀ k, k < vW V → hgI M (g + 26) k = vP V k) ∧ (∀ q, q < 3 → hgI M (g + 27) q = vH V q 0 ∧ hgI M (g + 28) q = vH V q 1) ∧ (hgI M g 1 = nI 0 ∨ hgI M g 1 = nI 1) ∧ (hgI M g 1 = nI 0 ↔ vS V 4 = nI 0)
/-- answers of the picture -/
def vMt (V : hgV) (s r p : Int32) (j : Nat) : Bool := hgMt (vU V j 1) (vU V j 2) (vU V j 3) (vU V j 4) s r p
def vGp (V : hgV) : Option Nat → Int32
  | some i => vD V i 0
  | none => nI 3
def vIso (V : hgV) (o : Option Nat) (i : Nat) : Bool := decide (vGp V o = nI 1) && (decide (vGp V (some i) = nI 0) || (decide (vGp V (some i) = nI 1) && decide (o ≠ some i)))
def vFst (V : hgV) (s r p : Int32) : Option Nat := hgFind (vMt V s r p) 0 (vR V)
def vOpen (V : hgV) (s r p : Int32) : Bool := match vFst V s r p with
  | none => decide (s ≠ nI 3)
  | some j => decide (vU V j 0 = nI 1)
def vJudge (V : hgV) (o : Option Nat) (i : Nat) (p : Int32) : Int32 := if vIso V o i = true then nI 2 else if vOpen V (vGp V o) (vGp V (some i)) p = true then nI 0 else nI 1
def vQuiet (V : hgV) (q : Nat) : Bool := hgQh (vS V 3) (vS V 5) (vH V q 0) (vH V q 1)
theorem hgFind_cg {f f' : Nat → Bool} : ∀ (k i : Nat), (∀ j, i ≤ j → j < i + k → f j = f' j) → hgFind f i k = hgFind f' i k
  | 0, i, h => rfl
  | k + 1, i, h => by
    unfold hgFind
    rw [h i (Nat.le_refl i) (by omega), hgFind_cg k (i + 1) (fun j h1 h2 => h j (by omega) (by omega))]
section HGPIC
variable {X : hgX} {M : hgMem} {d t g i j q c : Nat} {V : hgV} {o : Option Nat} {s r p x y z : Int32}
theorem hgCV_fst (h : hgCV M g V) : hgFind (hgMr M g s r p) 0 (vR V) = vFst V s r p := hgFind_cg _ _ (fun j _ hj => by
  have e := h.2.2.2.2.2.2.2.2.2.2.2.2.1 j (by omega)
  unfold hgMr vMt
  rw [e 1 (by omega), e 2 (by omega), e 3 (by omega), e 4 (by omega)])
theorem hgCV_gp (h : hgCV M g V) (ho : ∀ i, o = some i → i < vN V) : hgGp M g o = vGp V o := by
  cases o with
  | none => rfl
  | some i => exact (h.2.2.2.2.2.2.2.2.2.2.2.1 i (ho i rfl)).1 0 (by omega)
theorem hgRV_fst (h : hgRV M d t V) : hgFind (hgMm M d s r p) 0 (vR V) = vFst V s r p := hgFind_cg _ _ (fun j _ hj => by
  have e := h.2.2.2.2.2.2.2.2.1 j (by omega)
  unfold hgMm vMt
  rw [e 1 (by omega), e 2 (by omega), e 3 (by omega), e 4 (by omega)])
theorem hgRV_gp (h : hgRV M d t V) (ho : ∀ i, o = some i → i < vN V) : hgGm M d o = vGp V o := by
  cases o with
  | none => rfl
  | some i => exact (h.2.2.2.2.2.2.2.1 i (ho i rfl)).1 0 (by omega)
/-- the component's verdict -/
theorem hgCV_20 (hw : hgWf M) (h : hgCV M g V) (hk : hgVok V c) (ho : ∀ i, o = some i → i < vN V) (hi : i < vN V) : hgWC X 20 [.ref g, .int (hgOi o), .int (nI i), .int z] M = some (.inl (.int (vJudge V o i z)), M) := by
  have e1 := hgCV_gp h ho
  have e2 := hgCV_gp (o := some i) h (fun q hq => by cases hq; exact hi)
  have hr := h.2.2.2.2.2.2.2.2.2.2.2.2.1
  have k := hgk_20 (X := X) (z := z) hw h.1 h.2.1 hk.1 ho hi h.2.2.1 hk.2.1 (fun j hj => by rw [hr j hj 0 (by omega)]; exact hk.2.2.2.2.1 j hj)
  rw [k]
  unfold vJudge vIso hgIso vOpen hgOp
  rw [e1, e2, hgCV_fst h]
  cases hf : vFst V (vGp V o) (vGp V (some i)) z with
  | none => rfl
  | some j =>
    have hj : j < vR V := by have := hgFind_lt hf; omega
    simp only [hr j hj 0 (by omega)]
/-- the reference's verdict -/
theorem hgRV_159 (hw : hgWf M) (h : hgRV M 302 314 V) (hk : hgVok V c) (ho : ∀ i, o = some i → i < vN V) (hi : i < vN V) : hgWC X 159 [.ref 300, .int (hgOi o), .int (nI i), .int z] M = some (.inl (.int (vJudge V o i z)), M) := by
  have e1 := hgRV_gp h ho
  have e2 := hgRV_gp (o := some i) h (fun q hq => by cases hq; exact hi)
  have hr := h.2.2.2.2.2.2.2.2.1
  have hn := hk.1
  have k := hgk_159 (X := X) (z := z) hw h.2.2.2.2.1 hk.2.1 (o := o) (i := i) (fun q hq => by have := ho q hq; omega) (by omega)
  rw [k]
  unfold hgVd vJudge vIso vOpen
  rw [e1, e2, hgRV_fst h]
  cases hf : vFst V (vGp V o) (vGp V (some i)) z with
  | none =>
    dsimp only
    split
    · rfl
    · by_cases a : vGp V o = nI 3 <;> simp [a]
  | some j =>
    have hj : j < vR V := by have := hgFind_lt hf; omega
    dsimp only
    have e3 := hr j hj 0 (by omega)
    rw [show 127 + 5 * j = 127 + 5 * j + 0 from rfl, e3]
    split
    · rfl
    · by_cases a : vU V j 0 = nI 1 <;> simp [a]
end HGPIC

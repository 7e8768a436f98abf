/-! FAIRNESS, both sides: the same numbers of one word, none of them 'not a number'. -/
section HGFP
theorem hgF_m {x : UInt32} (h : x.toNat % 2 ^ 31 ≤ 2139095040) : x &&& 0x7fffffff ≤ 0x7f800000 := by
  rw [UInt32.le_iff_toNat_le, UInt32.toNat_and]
  have e : (0x7fffffff : UInt32).toNat = 2 ^ 31 - 1 := rfl
  have e2 : (0x7f800000 : UInt32).toNat = 2139095040 := rfl
  rw [e, e2, Nat.and_two_pow_sub_one_eq_mod]
  exact h
theorem hgF_k {x : UInt32} {K : Nat} (h : x.toNat % 2 ^ 31 < K * 2 ^ 23) (hK : K ≤ 255) : x &&& 0x7fffffff ≤ 0x7f800000 := hgF_m (by omega)
theorem hgF_i {n : Nat} (h : n ≤ 65536) : (FP.i2f (nI n)).toNat % 2 ^ 31 < 144 * 2 ^ 23 := by
  have h1 : (nI n).toInt.natAbs ≤ 2 ^ 16 := by rw [hgn_int (by omega)]; omega
  have := FP.Core.fromInt_mag32 (FP.Core.toNat_i2f (nI n)) h1 (K := 143) (by decide) (by decide)
  have e : (FP.i2f (nI n)).toNat = (FP.Core.i2f (nI n)).toNat := rfl
  rw [e]
  omega
theorem hgF_1 : FP.fconst1.toNat % 2 ^ 31 < 128 * 2 ^ 23 := by decide
/-- a share: below 147 -/
theorem hgF_x {n w : Nat} (h : n ≤ 65536) (hw : 1 ≤ w) (hw2 : w ≤ 9) : (FP.fmul FP.fconst1 (FP.i2f (nI n))).toNat % 2 ^ 31 < 146 * 2 ^ 23 ∧ (FP.fdiv (FP.fmul FP.fconst1 (FP.i2f (nI n))) (FP.i2f (nI w))).toNat % 2 ^ 31 < 147 * 2 ^ 23 := by
  have a1 := FP.Core.fmul_mag hgF_1 (hgF_i h) (by omega) (by omega)
  have b1 := FP.Core.i2f_big (v := nI w) (by rw [hgn_int (by omega)]; omega)
  have c1 := FP.Core.fdiv_mag (K := 146) (L := 127) a1 b1.1 b1.2 (by omega) (by omega)
  exact ⟨a1, c1⟩
theorem hgF_sq {x : UInt32} (h : x.toNat % 2 ^ 31 < 147 * 2 ^ 23) : (FP.fmul x x).toNat % 2 ^ 31 < 168 * 2 ^ 23 ∧ (FP.fmul x x).toNat < 2 ^ 31 := by
  have a1 := FP.Core.fmul_mag h h (by omega) (by omega)
  refine ⟨a1, ?_⟩
  obtain ⟨s, c, q, e⟩ := FP.Core.fin_of_lt32 h (by omega)
  have e2 : FP.Core.val32 (FP.Core.fmul x x) = FP.Core.roundRatio FP.Core.b32 false (c * c) 1 (q + q) := by
    rw [FP.Core.val32_fmul, e]
    show FP.Core.roundRatio FP.Core.b32 (s != s) (c * c) 1 (q + q) = _
    rw [show (s != s) = false by cases s <;> rfl]
  have nn : FP.Core.val32 (FP.Core.fmul x x) ≠ .nan := by rw [e2]; exact FP.Core.roundRatio_ne_nan _ _ _ _ _
  have sg := FP.Core.sgn_bits32 nn
  rw [e2, FP.Core.sgn_roundRatio] at sg
  have := of_decide_eq_false sg.symm
  exact Nat.lt_of_not_le this
theorem hgF_add {x y : UInt32} {K : Nat} (h1 : x.toNat % 2 ^ 31 < K * 2 ^ 23) (h2 : y.toNat % 2 ^ 31 < K * 2 ^ 23) (hK : K ≤ 255) (n1 : x.toNat < 2 ^ 31) (n2 : y.toNat < 2 ^ 31) : (FP.fadd x y).toNat < 2 ^ 31 := by
  obtain ⟨s, c, q, e⟩ := FP.Core.fin_of_lt32 h1 hK
  obtain ⟨t, d, r, e'⟩ := FP.Core.fin_of_lt32 h2 hK
  have s0 : s = false := by
    have := FP.Core.sign_bits32 (a := x) (s := s) (Or.inl ⟨c, q, e⟩)
    cases s
    · rfl
    · have := this.mp rfl; omega
  have t0 : t = false := by
    have := FP.Core.sign_bits32 (a := y) (s := t) (Or.inl ⟨d, r, e'⟩)
    cases t
    · rfl
    · have := this.mp rfl; omega
  subst s0
  subst t0
  have hu : ¬ FP.Core.sumUnits false c q false d r (min q r) < 0 := by
    unfold FP.Core.sumUnits FP.Core.signed
    simp only [Bool.false_eq_true, if_false]
    omega
  have hs : FP.Core.sumSign false false (FP.Core.sumUnits false c q false d r (min q r)) = false := by
    unfold FP.Core.sumSign
    split
    · rfl
    · exact decide_eq_false hu
  have e2 : FP.Core.val32 (FP.Core.fadd x y) = FP.Core.roundRatio FP.Core.b32 false (FP.Core.sumUnits false c q false d r (min q r)).natAbs 1 (min q r) := by
    rw [FP.Core.val32_fadd, e, e']
    show FP.Core.roundRatio FP.Core.b32 (FP.Core.sumSign false false (FP.Core.sumUnits false c q false d r (min q r))) _ 1 (min q r) = _
    rw [hs]
  have nn : FP.Core.val32 (FP.Core.fadd x y) ≠ .nan := by rw [e2]; exact FP.Core.roundRatio_ne_nan _ _ _ _ _
  have sg := FP.Core.sgn_bits32 nn
  rw [e2, FP.Core.sgn_roundRatio] at sg
  exact Nat.lt_of_not_le (of_decide_eq_false sg.symm)
/-- a product with a whole number is not 0 -/
theorem hgF_den {n K : Nat} {y : UInt32} (h : n ≤ 65536) (hn : 1 ≤ n) (hy : y.toNat % 2 ^ 31 < K * 2 ^ 23) (hK : K ≤ 255) (hy1 : 1 ≤ y.toNat % 2 ^ 31) : 1 ≤ (FP.fmul (FP.i2f (nI n)) y).toNat % 2 ^ 31 := by
  have b1 := FP.Core.i2f_big (v := nI n) (by rw [hgn_int (by omega)]; omega)
  obtain ⟨s, c, q, e⟩ := FP.Core.fin_of_lt32 (K := 255) b1.2 (by omega)
  obtain ⟨t, d, r, e'⟩ := FP.Core.fin_of_lt32 hy hK
  have f1 : FP.Core.fits FP.Core.b32 (.fin s c q) := by rw [← e]; exact FP.Core.val32_fits _
  have f2 : FP.Core.fits FP.Core.b32 (.fin t d r) := by rw [← e']; exact FP.Core.val32_fits _
  obtain ⟨p1, p2, p3⟩ := FP.Core.product_units f1 f2
  have z1 := FP.Core.zmag_toNat32 (a := FP.Core.i2f (nI n)) (by rw [e]; exact FP.Core.Datum.noConfusion)
  have z2 := FP.Core.zmag_toNat32 (a := y) (by rw [e']; exact FP.Core.Datum.noConfusion)
  rw [e] at z1
  rw [e'] at z2
  have u1 : 2 ^ 149 ≤ FP.Core.zmag FP.Core.b32 (.fin s c q) := by
    rw [z1]
    have st := FP.Core.unitsOf_start (f := FP.Core.b32) (K := 127) (by omega)
    have mono := (FP.Core.unitsOf_le_iff (f := FP.Core.b32) (m := 127 * FP.Core.b32.tails) (k := (FP.Core.i2f (nI n)).toNat % 2 ^ 31)).mpr (by rw [FP.Core.tails_b32]; exact b1.1)
    rw [st, FP.Core.tails_b32] at mono
    exact Nat.le_trans (by decide) mono
  have u2 : 1 ≤ FP.Core.zmag FP.Core.b32 (.fin t d r) := by
    rw [z2]
    have : FP.Core.unitsOf FP.Core.b32 (y.toNat % 2 ^ 31) ≠ 0 := fun w => by
      have := FP.Core.unitsOf_eq_zero.mp w
      omega
    omega
  have hn2 : FP.Core.decode FP.Core.b32 (FP.Core.fmul (FP.Core.i2f (nI n)) y).toNat = FP.Core.roundRatio FP.Core.b32 (s != t) (c * d) 1 (q + r) := by
    have := FP.Core.val32_fmul (FP.Core.i2f (nI n)) y
    rw [e, e', p1] at this
    exact this
  have q0 : FP.Core.b32.qmin = -149 := FP.Core.qmin_b32
  have m := FP.Core.mag_ge FP.Core.good_b32 (n := (FP.Core.fmul (FP.Core.i2f (nI n)) y).toNat) (m := 1) (e0 := 2 * FP.Core.b32.qmin) hn2 (by omega) (by omega) p2 (by rw [FP.Core.infBits_b32]; omega) (by
    rw [p3, Nat.mul_one]
    have : FP.Core.unitsOf FP.Core.b32 1 = 1 := by decide
    rw [this, Nat.one_mul, q0]
    refine Nat.le_trans ?_ (Nat.mul_le_mul u1 u2)
    decide)
  rw [FP.Core.mag_toNat32] at m
  exact m
theorem hgF_div {x y : UInt32} {K L : Nat} (hx : x.toNat % 2 ^ 31 < K * 2 ^ 23) (hK : K ≤ 255) (hy : y.toNat % 2 ^ 31 < L * 2 ^ 23) (hL : L ≤ 255) (hy1 : 1 ≤ y.toNat % 2 ^ 31) : (FP.fdiv x y) &&& 0x7fffffff ≤ 0x7f800000 := by
  obtain ⟨s, c, q, e⟩ := FP.Core.fin_of_lt32 hx hK
  obtain ⟨t, d, r, e'⟩ := FP.Core.fin_of_lt32 hy hL
  have d0 : d ≠ 0 := fun w => by
    have := (FP.Core.zero_bits232 y).mp ⟨t, r, by rw [e', w]⟩
    omega
  have nn : FP.Core.val32 (FP.Core.fdiv x y) ≠ .nan := by
    rw [FP.Core.val32_fdiv, e, e']
    show (if d = 0 then (if c = 0 then FP.Core.Datum.nan else .inf (s != t)) else FP.Core.roundRatio FP.Core.b32 (s != t) c d (q - r)) ≠ .nan
    rw [if_neg d0]
    exact FP.Core.roundRatio_ne_nan _ _ _ _ _
  exact hgF_m ((FP.Core.ne_nan32 _).mp nn)
theorem hgF_cmp {x : UInt32} (h : x.toNat < 2 ^ 31) (h2 : x.toNat ≤ 2139095040) : FP.fcmp x FP.fconst0 = some (if x.toNat = 0 then .eq else .gt) := by
  have n1 : FP.Core.val32 x ≠ .nan := (FP.Core.ne_nan32 x).mpr (by omega)
  have n2 : FP.Core.val32 FP.fconst0 ≠ .nan := (FP.Core.ne_nan32 _).mpr (by decide)
  have k1 : FP.Core.fkey x = (x.toNat : Int) := by unfold FP.Core.fkey; rw [if_neg (by omega)]
  have k2 : FP.Core.fkey FP.fconst0 = 0 := by decide
  show FP.Core.fcmp x FP.fconst0 = _
  by_cases e : x.toNat = 0
  · rw [if_pos e, FP.Core.fcmp_eq_key n1 n2, k1, k2]; omega
  · rw [if_neg e, FP.Core.fcmp_gt_key n1 n2, k1, k2]; omega
end HGFP

/-! ONE LEMMA AN INSTRUCTION, over the machine without fuel. -/
/-- an object of class ci -/
def hgO (M : hgMem) (a ci : Nat) : Prop := a < M.1 ∧ (hgSh a).1 = ci
/-- an array of kind ci and length n -/
def hgAr (M : hgMem) (a ci n : Nat) : Prop := a < M.1 ∧ hgSh a = (ci, n)
theorem hgn_add (a b : Nat) : nI a + nI b = nI (a + b) := (Int32.ofNat_add a b).symm
theorem hgn_mul (a b : Nat) : nI a * nI b = nI (a * b) := (Int32.ofNat_mul a b).symm
theorem hgn_int {a : Nat} (h : a < 2147483648) : (nI a).toInt = (a : Int) := Int32.toInt_ofNat_of_lt h
theorem hgn_lt {a b : Nat} (ha : a < 2147483648) (hb : b < 2147483648) : (nI a < nI b) = (a < b) := by
  rw [Int32.lt_iff_toInt_lt, hgn_int ha, hgn_int hb]
  exact propext Int.ofNat_lt
theorem hgn_le {a b : Nat} (ha : a < 2147483648) (hb : b < 2147483648) : (nI a ≤ nI b) = (a ≤ b) := by
  rw [Int32.le_iff_toInt_le, hgn_int ha, hgn_int hb]
  exact propext Int.ofNat_le
theorem hgn_eq {a b : Nat} (ha : a < 2147483648) (hb : b < 2147483648) : (nI a = nI b) = (a = b) := by
  refine propext ⟨fun h => ?_, fun h => by rw [h]⟩
  have := congrArg Int32.toInt h
  rw [hgn_int ha, hgn_int hb] at this
  exact Int.ofNat.inj this
theorem hgn_sub {a b : Nat} (h : b ≤ a) : nI a - nI b = nI (a - b) := (Int32.ofNat_sub a b h).symm
theorem hgn_cl {a : Nat} (h : a < 2147483648) : (nI a).toNatClampNeg = a := by
  rw [Int32.toNatClampNeg, hgn_int h]
  rfl
theorem hgIn_nI {a n : Nat} (h : a < n) (hn : n < 2147483648) : hgIn (nI a) n = true := by
  unfold hgIn
  rw [hgn_int (by omega)]
  simp
  omega
section HGI
variable {X : hgX} {rm : hgK} {C : Nat → List Value → hgMem → Option hgOut} {J : Nat → hgL → List Value → hgK → hgMem → Option hgOut} {l : Nat} {ps : List Nat} {hs : List (Nat × Nat × Nat)} {rs : List hgRow} {L : hgL} {S : List Value} {K : hgK} {M : hgMem} {a0 a1 a2 a3 a4 a5 a6 a7 a8 : Option Value} {x y z : Int32} {u v : Int64} {f g : UInt32} {a b t k n j w ci idx : Nat}
theorem hgx_iconst_m1 : hgEx X rm C J ((.iconst (-1), l, ps, hs) :: rs) L S K M = hgEx X rm C J rs L (.int (-1) :: S) K M := congrArg (fun q => hgEx X rm C J rs L (Value.int q :: S) K M) (by decide : Int32.ofInt (-1) = (-1))
theorem hgx_iconst_0 : hgEx X rm C J ((.iconst 0, l, ps, hs) :: rs) L S K M = hgEx X rm C J rs L (.int (nI 0) :: S) K M := congrArg (fun q => hgEx X rm C J rs L (Value.int q :: S) K M) (by decide : Int32.ofInt 0 = (nI 0))
theorem hgx_iconst_1 : hgEx X rm C J ((.iconst 1, l, ps, hs) :: rs) L S K M = hgEx X rm C J rs L (.int (nI 1) :: S) K M := congrArg (fun q => hgEx X rm C J rs L (Value.int q :: S) K M) (by decide : Int32.ofInt 1 = (nI 1))
theorem hgx_iconst_2 : hgEx X rm C J ((.iconst 2, l, ps, hs) :: rs) L S K M = hgEx X rm C J rs L (.int (nI 2) :: S) K M := congrArg (fun q => hgEx X rm C J rs L (Value.int q :: S) K M) (by decide : Int32.ofInt 2 = (nI 2))
theorem hgx_iconst_3 : hgEx X rm C J ((.iconst 3, l, ps, hs) :: rs) L S K M = hgEx X rm C J rs L (.int (nI 3) :: S) K M := congrArg (fun q => hgEx X rm C J rs L (Value.int q :: S) K M) (by decide : Int32.ofInt 3 = (nI 3))
theorem hgx_iconst_4 : hgEx X rm C J ((.iconst 4, l, ps, hs) :: rs) L S K M = hgEx X rm C J rs L (.int (nI 4) :: S) K M := congrArg (fun q => hgEx X rm C J rs L (Value.int q :: S) K M) (by decide : Int32.ofInt 4 = (nI 4))
theorem hgx_iconst_5 : hgEx X rm C J ((.iconst 5, l, ps, hs) :: rs) L S K M = hgEx X rm C J rs L (.int (nI 5) :: S) K M := congrArg (fun q => hgEx X rm C J rs L (Value.int q :: S) K M) (by decide : Int32.ofInt 5 = (nI 5))
theorem hgx_bipush_m2 : hgEx X rm C J ((.bipush (-2), l, ps, hs) :: rs) L S K M = hgEx X rm C J rs L (.int (-2) :: S) K M := congrArg (fun q => hgEx X rm C J rs L (Value.int q :: S) K M) (by decide : (Int8.ofInt (-2)).toInt32 = (-2))
theorem hgx_bipush_m3 : hgEx X rm C J ((.bipush (-3), l, ps, hs) :: rs) L S K M = hgEx X rm C J rs L (.int (-3) :: S) K M := congrArg (fun q => hgEx X rm C J rs L (Value.int q :: S) K M) (by decide : (Int8.ofInt (-3)).toInt32 = (-3))
theorem hgx_bipush_m4 : hgEx X rm C J ((.bipush (-4), l, ps, hs) :: rs) L S K M = hgEx X rm C J rs L (.int (-4) :: S) K M := congrArg (fun q => hgEx X rm C J rs L (Value.int q :: S) K M) (by decide : (Int8.ofInt (-4)).toInt32 = (-4))
theorem hgx_bipush_10 : hgEx X rm C J ((.bipush 10, l, ps, hs) :: rs) L S K M = hgEx X rm C J rs L (.int (nI 10) :: S) K M := congrArg (fun q => hgEx X rm C J rs L (Value.int q :: S) K M) (by decide : (Int8.ofInt 10).toInt32 = (nI 10))
theorem hgx_bipush_100 : hgEx X rm C J ((.bipush 100, l, ps, hs) :: rs) L S K M = hgEx X rm C J rs L (.int (nI 100) :: S) K M := congrArg (fun q => hgEx X rm C J rs L (Value.int q :: S) K M) (by decide : (Int8.ofInt 100).toInt32 = (nI 100))
theorem hgx_bipush_12 : hgEx X rm C J ((.bipush 12, l, ps, hs) :: rs) L S K M = hgEx X rm C J rs L (.int (nI 12) :: S) K M := congrArg (fun q => hgEx X rm C J rs L (Value.int q :: S) K M) (by decide : (Int8.ofInt 12).toInt32 = (nI 12))
theorem hgx_bipush_122 : hgEx X rm C J ((.bipush 122, l, ps, hs) :: rs) L S K M = hgEx X rm C J rs L (.int (nI 122) :: S) K M := congrArg (fun q => hgEx X rm C J rs L (Value.int q :: S) K M) (by decide : (Int8.ofInt 122).toInt32 = (nI 122))
theorem hgx_bipush_127 : hgEx X rm C J ((.bipush 127, l, ps, hs) :: rs) L S K M = hgEx X rm C J rs L (.int (nI 127) :: S) K M := congrArg (fun q => hgEx X rm C J rs L (Value.int q :: S) K M) (by decide : (Int8.ofInt 127).toInt32 = (nI 127))
theorem hgx_bipush_16 : hgEx X rm C J ((.bipush 16, l, ps, hs) :: rs) L S K M = hgEx X rm C J rs L (.int (nI 16) :: S) K M := congrArg (fun q => hgEx X rm C J rs L (Value.int q :: S) K M) (by decide : (Int8.ofInt 16).toInt32 = (nI 16))
theorem hgx_bipush_18 : hgEx X rm C J ((.bipush 18, l, ps, hs) :: rs) L S K M = hgEx X rm C J rs L (.int (nI 18) :: S) K M := congrArg (fun q => hgEx X rm C J rs L (Value.int q :: S) K M) (by decide : (Int8.ofInt 18).toInt32 = (nI 18))
theorem hgx_bipush_20 : hgEx X rm C J ((.bipush 20, l, ps, hs) :: rs) L S K M = hgEx X rm C J rs L (.int (nI 20) :: S) K M := congrArg (fun q => hgEx X rm C J rs L (Value.int q :: S) K M) (by decide : (Int8.ofInt 20).toInt32 = (nI 20))
theorem hgx_bipush_24 : hgEx X rm C J ((.bipush 24, l, ps, hs) :: rs) L S K M = hgEx X rm C J rs L (.int (nI 24) :: S) K M := congrArg (fun q => hgEx X rm C J rs L (Value.int q :: S) K M) (by decide : (Int8.ofInt 24).toInt32 = (nI 24))
theorem hgx_bipush_27 : hgEx X rm C J ((.bipush 27, l, ps, hs) :: rs) L S K M = hgEx X rm C J rs L (.int (nI 27) :: S) K M := congrArg (fun q => hgEx X rm C J rs L (Value.int q :: S) K M) (by decide : (Int8.ofInt 27).toInt32 = (nI 27))
theorem hgx_bipush_32 : hgEx X rm C J ((.bipush 32, l, ps, hs) :: rs) L S K M = hgEx X rm C J rs L (.int (nI 32) :: S) K M := congrArg (fun q => hgEx X rm C J rs L (Value.int q :: S) K M) (by decide : (Int8.ofInt 32).toInt32 = (nI 32))
theorem hgx_bipush_48 : hgEx X rm C J ((.bipush 48, l, ps, hs) :: rs) L S K M = hgEx X rm C J rs L (.int (nI 48) :: S) K M := congrArg (fun q => hgEx X rm C J rs L (Value.int q :: S) K M) (by decide : (Int8.ofInt 48).toInt32 = (nI 48))
theorem hgx_bipush_57 : hgEx X rm C J ((.bipush 57, l, ps, hs) :: rs) L S K M = hgEx X rm C J rs L (.int (nI 57) :: S) K M := congrArg (fun q => hgEx X rm C J rs L (Value.int q :: S) K M) (by decide : (Int8.ofInt 57).toInt32 = (nI 57))
theorem hgx_bipush_59 : hgEx X rm C J ((.bipush 59, l, ps, hs) :: rs) L S K M = hgEx X rm C J rs L (.int (nI 59) :: S) K M := congrArg (fun q => hgEx X rm C J rs L (Value.int q :: S) K M) (by decide : (Int8.ofInt 59).toInt32 = (nI 59))
theorem hgx_bipush_6 : hgEx X rm C J ((.bipush 6, l, ps, hs) :: rs) L S K M = hgEx X rm C J rs L (.int (nI 6) :: S) K M := congrArg (fun q => hgEx X rm C J rs L (Value.int q :: S) K M) (by decide : (Int8.ofInt 6).toInt32 = (nI 6))
theorem hgx_bipush_63 : hgEx X rm C J ((.bipush 63, l, ps, hs) :: rs) L S K M = hgEx X rm C J rs L (.int (nI 63) :: S) K M := congrArg (fun q => hgEx X rm C J rs L (Value.int q :: S) K M) (by decide : (Int8.ofInt 63).toInt32 = (nI 63))
theorem hgx_bipush_7 : hgEx X rm C J ((.bipush 7, l, ps, hs) :: rs) L S K M = hgEx X rm C J rs L (.int (nI 7) :: S) K M := congrArg (fun q => hgEx X rm C J rs L (Value.int q :: S) K M) (by decide : (Int8.ofInt 7).toInt32 = (nI 7))
theorem hgx_bipush_8 : hgEx X rm C J ((.bipush 8, l, ps, hs) :: rs) L S K M = hgEx X rm C J rs L (.int (nI 8) :: S) K M := congrArg (fun q => hgEx X rm C J rs L (Value.int q :: S) K M) (by decide : (Int8.ofInt 8).toInt32 = (nI 8))
theorem hgx_bipush_9 : hgEx X rm C J ((.bipush 9, l, ps, hs) :: rs) L S K M = hgEx X rm C J rs L (.int (nI 9) :: S) K M := congrArg (fun q => hgEx X rm C J rs L (Value.int q :: S) K M) (by decide : (Int8.ofInt 9).toInt32 = (nI 9))
theorem hgx_bipush_97 : hgEx X rm C J ((.bipush 97, l, ps, hs) :: rs) L S K M = hgEx X rm C J rs L (.int (nI 97) :: S) K M := congrArg (fun q => hgEx X rm C J rs L (Value.int q :: S) K M) (by decide : (Int8.ofInt 97).toInt32 = (nI 97))
theorem hgx_bipush_99 : hgEx X rm C J ((.bipush 99, l, ps, hs) :: rs) L S K M = hgEx X rm C J rs L (.int (nI 99) :: S) K M := congrArg (fun q => hgEx X rm C J rs L (Value.int q :: S) K M) (by decide : (Int8.ofInt 99).toInt32 = (nI 99))
theorem hgx_sipush_1000 : hgEx X rm C J ((.sipush 1000, l, ps, hs) :: rs) L S K M = hgEx X rm C J rs L (.int (nI 1000) :: S) K M := congrArg (fun q => hgEx X rm C J rs L (Value.int q :: S) K M) (by decide : (Int16.ofInt 1000).toInt32 = (nI 1000))
theorem hgx_sipush_10000 : hgEx X rm C J ((.sipush 10000, l, ps, hs) :: rs) L S K M = hgEx X rm C J rs L (.int (nI 10000) :: S) K M := congrArg (fun q => hgEx X rm C J rs L (Value.int q :: S) K M) (by decide : (Int16.ofInt 10000).toInt32 = (nI 10000))
theorem hgx_sipush_187 : hgEx X rm C J ((.sipush 187, l, ps, hs) :: rs) L S K M = hgEx X rm C J rs L (.int (nI 187) :: S) K M := congrArg (fun q => hgEx X rm C J rs L (Value.int q :: S) K M) (by decide : (Int16.ofInt 187).toInt32 = (nI 187))
theorem hgx_sipush_200 : hgEx X rm C J ((.sipush 200, l, ps, hs) :: rs) L S K M = hgEx X rm C J rs L (.int (nI 200) :: S) K M := congrArg (fun q => hgEx X rm C J rs L (Value.int q :: S) K M) (by decide : (Int16.ofInt 200).toInt32 = (nI 200))
theorem hgx_sipush_20187 : hgEx X rm C J ((.sipush 20187, l, ps, hs) :: rs) L S K M = hgEx X rm C J rs L (.int (nI 20187) :: S) K M := congrArg (fun q => hgEx X rm C J rs L (Value.int q :: S) K M) (by decide : (Int16.ofInt 20187).toInt32 = (nI 20187))
theorem hgx_sipush_2520 : hgEx X rm C J ((.sipush 2520, l, ps, hs) :: rs) L S K M = hgEx X rm C J rs L (.int (nI 2520) :: S) K M := congrArg (fun q => hgEx X rm C J rs L (Value.int q :: S) K M) (by decide : (Int16.ofInt 2520).toInt32 = (nI 2520))
theorem hgx_sipush_255 : hgEx X rm C J ((.sipush 255, l, ps, hs) :: rs) L S K M = hgEx X rm C J rs L (.int (nI 255) :: S) K M := congrArg (fun q => hgEx X rm C J rs L (Value.int q :: S) K M) (by decide : (Int16.ofInt 255).toInt32 = (nI 255))
theorem hgx_sipush_300 : hgEx X rm C J ((.sipush 300, l, ps, hs) :: rs) L S K M = hgEx X rm C J rs L (.int (nI 300) :: S) K M := congrArg (fun q => hgEx X rm C J rs L (Value.int q :: S) K M) (by decide : (Int16.ofInt 300).toInt32 = (nI 300))
theorem hgx_sipush_512 : hgEx X rm C J ((.sipush 512, l, ps, hs) :: rs) L S K M = hgEx X rm C J rs L (.int (nI 512) :: S) K M := congrArg (fun q => hgEx X rm C J rs L (Value.int q :: S) K M) (by decide : (Int16.ofInt 512).toInt32 = (nI 512))
theorem hgx_sipush_880 : hgEx X rm C J ((.sipush 880, l, ps, hs) :: rs) L S K M = hgEx X rm C J rs L (.int (nI 880) :: S) K M := congrArg (fun q => hgEx X rm C J rs L (Value.int q :: S) K M) (by decide : (Int16.ofInt 880).toInt32 = (nI 880))
theorem hgx_sipush_900 : hgEx X rm C J ((.sipush 900, l, ps, hs) :: rs) L S K M = hgEx X rm C J rs L (.int (nI 900) :: S) K M := congrArg (fun q => hgEx X rm C J rs L (Value.int q :: S) K M) (by decide : (Int16.ofInt 900).toInt32 = (nI 900))
theorem hgx_sipush_999 : hgEx X rm C J ((.sipush 999, l, ps, hs) :: rs) L S K M = hgEx X rm C J rs L (.int (nI 999) :: S) K M := congrArg (fun q => hgEx X rm C J rs L (Value.int q :: S) K M) (by decide : (Int16.ofInt 999).toInt32 = (nI 999))
theorem hgx_lconst_0 : hgEx X rm C J ((.lconst 0, l, ps, hs) :: rs) L S K M = hgEx X rm C J rs L (.long (lN 0) :: S) K M := congrArg (fun q => hgEx X rm C J rs L (Value.long q :: S) K M) (by decide : Int64.ofNat (0 : Fin 2).val = lN 0)
theorem hgx_lconst_1 : hgEx X rm C J ((.lconst 1, l, ps, hs) :: rs) L S K M = hgEx X rm C J rs L (.long (lN 1) :: S) K M := congrArg (fun q => hgEx X rm C J rs L (Value.long q :: S) K M) (by decide : Int64.ofNat (1 : Fin 2).val = lN 1)
theorem hgx_fconst_0 : hgEx X rm C J ((.fconst 0, l, ps, hs) :: rs) L S K M = hgEx X rm C J rs L (.float FP.fconst0 :: S) K M := id rfl
theorem hgx_fconst_1 : hgEx X rm C J ((.fconst 1, l, ps, hs) :: rs) L S K M = hgEx X rm C J rs L (.float FP.fconst1 :: S) K M := id rfl
theorem hgx_aload_4 : hgEx X rm C J ((.aload 4, l, ps, hs) :: rs) (a0 :: a1 :: a2 :: a3 :: some (.ref a) :: L) S K M = hgEx X rm C J rs (a0 :: a1 :: a2 :: a3 :: some (.ref a) :: L) (.ref a :: S) K M := id rfl
theorem hgx_aload_5 : hgEx X rm C J ((.aload 5, l, ps, hs) :: rs) (a0 :: a1 :: a2 :: a3 :: a4 :: some (.ref a) :: L) S K M = hgEx X rm C J rs (a0 :: a1 :: a2 :: a3 :: a4 :: some (.ref a) :: L) (.ref a :: S) K M := id rfl
theorem hgx_aload_6 : hgEx X rm C J ((.aload 6, l, ps, hs) :: rs) (a0 :: a1 :: a2 :: a3 :: a4 :: a5 :: some (.ref a) :: L) S K M = hgEx X rm C J rs (a0 :: a1 :: a2 :: a3 :: a4 :: a5 :: some (.ref a) :: L) (.ref a :: S) K M := id rfl
theorem hgx_aload_n_0 : hgEx X rm C J ((.aload_n 0, l, ps, hs) :: rs) (some (.ref a) :: L) S K M = hgEx X rm C J rs (some (.ref a) :: L) (.ref a :: S) K M := id rfl
theorem hgx_aload_n_1 : hgEx X rm C J ((.aload_n 1, l, ps, hs) :: rs) (a0 :: some (.ref a) :: L) S K M = hgEx X rm C J rs (a0 :: some (.ref a) :: L) (.ref a :: S) K M := id rfl
theorem hgx_aload_n_2 : hgEx X rm C J ((.aload_n 2, l, ps, hs) :: rs) (a0 :: a1 :: some (.ref a) :: L) S K M = hgEx X rm C J rs (a0 :: a1 :: some (.ref a) :: L) (.ref a :: S) K M := id rfl
theorem hgx_aload_n_3 : hgEx X rm C J ((.aload_n 3, l, ps, hs) :: rs) (a0 :: a1 :: a2 :: some (.ref a) :: L) S K M = hgEx X rm C J rs (a0 :: a1 :: a2 :: some (.ref a) :: L) (.ref a :: S) K M := id rfl
theorem hgx_fload_4 : hgEx X rm C J ((.fload 4, l, ps, hs) :: rs) (a0 :: a1 :: a2 :: a3 :: some (.float f) :: L) S K M = hgEx X rm C J rs (a0 :: a1 :: a2 :: a3 :: some (.float f) :: L) (.float f :: S) K M := id rfl
theorem hgx_fload_n_1 : hgEx X rm C J ((.fload_n 1, l, ps, hs) :: rs) (a0 :: some (.float f) :: L) S K M = hgEx X rm C J rs (a0 :: some (.float f) :: L) (.float f :: S) K M := id rfl
theorem hgx_fload_n_2 : hgEx X rm C J ((.fload_n 2, l, ps, hs) :: rs) (a0 :: a1 :: some (.float f) :: L) S K M = hgEx X rm C J rs (a0 :: a1 :: some (.float f) :: L) (.float f :: S) K M := id rfl
theorem hgx_iload_4 : hgEx X rm C J ((.iload 4, l, ps, hs) :: rs) (a0 :: a1 :: a2 :: a3 :: some (.int x) :: L) S K M = hgEx X rm C J rs (a0 :: a1 :: a2 :: a3 :: some (.int x) :: L) (.int x :: S) K M := id rfl
theorem hgx_iload_5 : hgEx X rm C J ((.iload 5, l, ps, hs) :: rs) (a0 :: a1 :: a2 :: a3 :: a4 :: some (.int x) :: L) S K M = hgEx X rm C J rs (a0 :: a1 :: a2 :: a3 :: a4 :: some (.int x) :: L) (.int x :: S) K M := id rfl
theorem hgx_iload_6 : hgEx X rm C J ((.iload 6, l, ps, hs) :: rs) (a0 :: a1 :: a2 :: a3 :: a4 :: a5 :: some (.int x) :: L) S K M = hgEx X rm C J rs (a0 :: a1 :: a2 :: a3 :: a4 :: a5 :: some (.int x) :: L) (.int x :: S) K M := id rfl
theorem hgx_iload_7 : hgEx X rm C J ((.iload 7, l, ps, hs) :: rs) (a0 :: a1 :: a2 :: a3 :: a4 :: a5 :: a6 :: some (.int x) :: L) S K M = hgEx X rm C J rs (a0 :: a1 :: a2 :: a3 :: a4 :: a5 :: a6 :: some (.int x) :: L) (.int x :: S) K M := id rfl
theorem hgx_iload_8 : hgEx X rm C J ((.iload 8, l, ps, hs) :: rs) (a0 :: a1 :: a2 :: a3 :: a4 :: a5 :: a6 :: a7 :: some (.int x) :: L) S K M = hgEx X rm C J rs (a0 :: a1 :: a2 :: a3 :: a4 :: a5 :: a6 :: a7 :: some (.int x) :: L) (.int x :: S) K M := id rfl
theorem hgx_iload_n_0 : hgEx X rm C J ((.iload_n 0, l, ps, hs) :: rs) (some (.int x) :: L) S K M = hgEx X rm C J rs (some (.int x) :: L) (.int x :: S) K M := id rfl
theorem hgx_iload_n_1 : hgEx X rm C J ((.iload_n 1, l, ps, hs) :: rs) (a0 :: some (.int x) :: L) S K M = hgEx X rm C J rs (a0 :: some (.int x) :: L) (.int x :: S) K M := id rfl
theorem hgx_iload_n_2 : hgEx X rm C J ((.iload_n 2, l, ps, hs) :: rs) (a0 :: a1 :: some (.int x) :: L) S K M = hgEx X rm C J rs (a0 :: a1 :: some (.int x) :: L) (.int x :: S) K M := id rfl
theorem hgx_iload_n_3 : hgEx X rm C J ((.iload_n 3, l, ps, hs) :: rs) (a0 :: a1 :: a2 :: some (.int x) :: L) S K M = hgEx X rm C J rs (a0 :: a1 :: a2 :: some (.int x) :: L) (.int x :: S) K M := id rfl
theorem hgx_lload_6 : hgEx X rm C J ((.lload 6, l, ps, hs) :: rs) (a0 :: a1 :: a2 :: a3 :: a4 :: a5 :: some (.long u) :: L) S K M = hgEx X rm C J rs (a0 :: a1 :: a2 :: a3 :: a4 :: a5 :: some (.long u) :: L) (.long u :: S) K M := id rfl
theorem hgx_lload_n_1 : hgEx X rm C J ((.lload_n 1, l, ps, hs) :: rs) (a0 :: some (.long u) :: L) S K M = hgEx X rm C J rs (a0 :: some (.long u) :: L) (.long u :: S) K M := id rfl
theorem hgx_lload_n_3 : hgEx X rm C J ((.lload_n 3, l, ps, hs) :: rs) (a0 :: a1 :: a2 :: some (.long u) :: L) S K M = hgEx X rm C J rs (a0 :: a1 :: a2 :: some (.long u) :: L) (.long u :: S) K M := id rfl
theorem hgx_astore_4i : hgEx X rm C J ((.astore 4, l, ps, hs) :: rs) (a0 :: a1 :: a2 :: some (.int y) :: a4 :: L) (.ref a :: S) K M = hgEx X rm C J rs (a0 :: a1 :: a2 :: some (.int y) :: some (.ref a) :: L) S K M := id rfl
theorem hgx_astore_4r : hgEx X rm C J ((.astore 4, l, ps, hs) :: rs) (a0 :: a1 :: a2 :: some (.ref b) :: a4 :: L) (.ref a :: S) K M = hgEx X rm C J rs (a0 :: a1 :: a2 :: some (.ref b) :: some (.ref a) :: L) S K M := id rfl
theorem hgx_astore_4f : hgEx X rm C J ((.astore 4, l, ps, hs) :: rs) (a0 :: a1 :: a2 :: some (.float g) :: a4 :: L) (.ref a :: S) K M = hgEx X rm C J rs (a0 :: a1 :: a2 :: some (.float g) :: some (.ref a) :: L) S K M := id rfl
theorem hgx_astore_4n : hgEx X rm C J ((.astore 4, l, ps, hs) :: rs) (a0 :: a1 :: a2 :: none :: a4 :: L) (.ref a :: S) K M = hgEx X rm C J rs (a0 :: a1 :: a2 :: none :: some (.ref a) :: L) S K M := id rfl
theorem hgx_astore_4l : hgEx X rm C J ((.astore 4, l, ps, hs) :: rs) (a0 :: a1 :: a2 :: some (.long v) :: a4 :: L) (.ref a :: S) K M = hgEx X rm C J rs (a0 :: a1 :: a2 :: none :: some (.ref a) :: L) S K M := id rfl
theorem hgx_astore_5i : hgEx X rm C J ((.astore 5, l, ps, hs) :: rs) (a0 :: a1 :: a2 :: a3 :: some (.int y) :: a5 :: L) (.ref a :: S) K M = hgEx X rm C J rs (a0 :: a1 :: a2 :: a3 :: some (.int y) :: some (.ref a) :: L) S K M := id rfl
theorem hgx_astore_5r : hgEx X rm C J ((.astore 5, l, ps, hs) :: rs) (a0 :: a1 :: a2 :: a3 :: some (.ref b) :: a5 :: L) (.ref a :: S) K M = hgEx X rm C J rs (a0 :: a1 :: a2 :: a3 :: some (.ref b) :: some (.ref a) :: L) S K M := id rfl
theorem hgx_astore_5f : hgEx X rm C J ((.astore 5, l, ps, hs) :: rs) (a0 :: a1 :: a2 :: a3 :: some (.float g) :: a5 :: L) (.ref a :: S) K M = hgEx X rm C J rs (a0 :: a1 :: a2 :: a3 :: some (.float g) :: some (.ref a) :: L) S K M := id rfl
theorem hgx_astore_5n : hgEx X rm C J ((.astore 5, l, ps, hs) :: rs) (a0 :: a1 :: a2 :: a3 :: none :: a5 :: L) (.ref a :: S) K M = hgEx X rm C J rs (a0 :: a1 :: a2 :: a3 :: none :: some (.ref a) :: L) S K M := id rfl
theorem hgx_astore_5l : hgEx X rm C J ((.astore 5, l, ps, hs) :: rs) (a0 :: a1 :: a2 :: a3 :: some (.long v) :: a5 :: L) (.ref a :: S) K M = hgEx X rm C J rs (a0 :: a1 :: a2 :: a3 :: none :: some (.ref a) :: L) S K M := id rfl
theorem hgx_astore_6i : hgEx X rm C J ((.astore 6, l, ps, hs) :: rs) (a0 :: a1 :: a2 :: a3 :: a4 :: some (.int y) :: a6 :: L) (.ref a :: S) K M = hgEx X rm C J rs (a0 :: a1 :: a2 :: a3 :: a4 :: some (.int y) :: some (.ref a) :: L) S K M := id rfl
theorem hgx_astore_6r : hgEx X rm C J ((.astore 6, l, ps, hs) :: rs) (a0 :: a1 :: a2 :: a3 :: a4 :: some (.ref b) :: a6 :: L) (.ref a :: S) K M = hgEx X rm C J rs (a0 :: a1 :: a2 :: a3 :: a4 :: some (.ref b) :: some (.ref a) :: L) S K M := id rfl
theorem hgx_astore_6f : hgEx X rm C J ((.astore 6, l, ps, hs) :: rs) (a0 :: a1 :: a2 :: a3 :: a4 :: some (.float g) :: a6 :: L) (.ref a :: S) K M = hgEx X rm C J rs (a0 :: a1 :: a2 :: a3 :: a4 :: some (.float g) :: some (.ref a) :: L) S K M := id rfl
theorem hgx_astore_6n : hgEx X rm C J ((.astore 6, l, ps, hs) :: rs) (a0 :: a1 :: a2 :: a3 :: a4 :: none :: a6 :: L) (.ref a :: S) K M = hgEx X rm C J rs (a0 :: a1 :: a2 :: a3 :: a4 :: none :: some (.ref a) :: L) S K M := id rfl
theorem hgx_astore_6l : hgEx X rm C J ((.astore 6, l, ps, hs) :: rs) (a0 :: a1 :: a2 :: a3 :: a4 :: some (.long v) :: a6 :: L) (.ref a :: S) K M = hgEx X rm C J rs (a0 :: a1 :: a2 :: a3 :: a4 :: none :: some (.ref a) :: L) S K M := id rfl
theorem hgx_astore_n_1i : hgEx X rm C J ((.astore_n 1, l, ps, hs) :: rs) (some (.int y) :: a1 :: L) (.ref a :: S) K M = hgEx X rm C J rs (some (.int y) :: some (.ref a) :: L) S K M := id rfl
theorem hgx_astore_n_1r : hgEx X rm C J ((.astore_n 1, l, ps, hs) :: rs) (some (.ref b) :: a1 :: L) (.ref a :: S) K M = hgEx X rm C J rs (some (.ref b) :: some (.ref a) :: L) S K M := id rfl
theorem hgx_astore_n_1f : hgEx X rm C J ((.astore_n 1, l, ps, hs) :: rs) (some (.float g) :: a1 :: L) (.ref a :: S) K M = hgEx X rm C J rs (some (.float g) :: some (.ref a) :: L) S K M := id rfl
theorem hgx_astore_n_1n : hgEx X rm C J ((.astore_n 1, l, ps, hs) :: rs) (none :: a1 :: L) (.ref a :: S) K M = hgEx X rm C J rs (none :: some (.ref a) :: L) S K M := id rfl
theorem hgx_astore_n_1l : hgEx X rm C J ((.astore_n 1, l, ps, hs) :: rs) (some (.long v) :: a1 :: L) (.ref a :: S) K M = hgEx X rm C J rs (none :: some (.ref a) :: L) S K M := id rfl
theorem hgx_astore_n_2i : hgEx X rm C J ((.astore_n 2, l, ps, hs) :: rs) (a0 :: some (.int y) :: a2 :: L) (.ref a :: S) K M = hgEx X rm C J rs (a0 :: some (.int y) :: some (.ref a) :: L) S K M := id rfl
theorem hgx_astore_n_2r : hgEx X rm C J ((.astore_n 2, l, ps, hs) :: rs) (a0 :: some (.ref b) :: a2 :: L) (.ref a :: S) K M = hgEx X rm C J rs (a0 :: some (.ref b) :: some (.ref a) :: L) S K M := id rfl
theorem hgx_astore_n_2f : hgEx X rm C J ((.astore_n 2, l, ps, hs) :: rs) (a0 :: some (.float g) :: a2 :: L) (.ref a :: S) K M = hgEx X rm C J rs (a0 :: some (.float g) :: some (.ref a) :: L) S K M := id rfl
theorem hgx_astore_n_2n : hgEx X rm C J ((.astore_n 2, l, ps, hs) :: rs) (a0 :: none :: a2 :: L) (.ref a :: S) K M = hgEx X rm C J rs (a0 :: none :: some (.ref a) :: L) S K M := id rfl
theorem hgx_astore_n_2l : hgEx X rm C J ((.astore_n 2, l, ps, hs) :: rs) (a0 :: some (.long v) :: a2 :: L) (.ref a :: S) K M = hgEx X rm C J rs (a0 :: none :: some (.ref a) :: L) S K M := id rfl
theorem hgx_astore_n_3i : hgEx X rm C J ((.astore_n 3, l, ps, hs) :: rs) (a0 :: a1 :: some (.int y) :: a3 :: L) (.ref a :: S) K M = hgEx X rm C J rs (a0 :: a1 :: some (.int y) :: some (.ref a) :: L) S K M := id rfl
theorem hgx_astore_n_3r : hgEx X rm C J ((.astore_n 3, l, ps, hs) :: rs) (a0 :: a1 :: some (.ref b) :: a3 :: L) (.ref a :: S) K M = hgEx X rm C J rs (a0 :: a1 :: some (.ref b) :: some (.ref a) :: L) S K M := id rfl
theorem hgx_astore_n_3f : hgEx X rm C J ((.astore_n 3, l, ps, hs) :: rs) (a0 :: a1 :: some (.float g) :: a3 :: L) (.ref a :: S) K M = hgEx X rm C J rs (a0 :: a1 :: some (.float g) :: some (.ref a) :: L) S K M := id rfl
theorem hgx_astore_n_3n : hgEx X rm C J ((.astore_n 3, l, ps, hs) :: rs) (a0 :: a1 :: none :: a3 :: L) (.ref a :: S) K M = hgEx X rm C J rs (a0 :: a1 :: none :: some (.ref a) :: L) S K M := id rfl
theorem hgx_astore_n_3l : hgEx X rm C J ((.astore_n 3, l, ps, hs) :: rs) (a0 :: a1 :: some (.long v) :: a3 :: L) (.ref a :: S) K M = hgEx X rm C J rs (a0 :: a1 :: none :: some (.ref a) :: L) S K M := id rfl
theorem hgx_fstore_4i : hgEx X rm C J ((.fstore 4, l, ps, hs) :: rs) (a0 :: a1 :: a2 :: some (.int y) :: a4 :: L) (.float f :: S) K M = hgEx X rm C J rs (a0 :: a1 :: a2 :: some (.int y) :: some (.float f) :: L) S K M := id rfl
theorem hgx_fstore_4r : hgEx X rm C J ((.fstore 4, l, ps, hs) :: rs) (a0 :: a1 :: a2 :: some (.ref b) :: a4 :: L) (.float f :: S) K M = hgEx X rm C J rs (a0 :: a1 :: a2 :: some (.ref b) :: some (.float f) :: L) S K M := id rfl
theorem hgx_fstore_4f : hgEx X rm C J ((.fstore 4, l, ps, hs) :: rs) (a0 :: a1 :: a2 :: some (.float g) :: a4 :: L) (.float f :: S) K M = hgEx X rm C J rs (a0 :: a1 :: a2 :: some (.float g) :: some (.float f) :: L) S K M := id rfl
theorem hgx_fstore_4n : hgEx X rm C J ((.fstore 4, l, ps, hs) :: rs) (a0 :: a1 :: a2 :: none :: a4 :: L) (.float f :: S) K M = hgEx X rm C J rs (a0 :: a1 :: a2 :: none :: some (.float f) :: L) S K M := id rfl
theorem hgx_fstore_4l : hgEx X rm C J ((.fstore 4, l, ps, hs) :: rs) (a0 :: a1 :: a2 :: some (.long v) :: a4 :: L) (.float f :: S) K M = hgEx X rm C J rs (a0 :: a1 :: a2 :: none :: some (.float f) :: L) S K M := id rfl
theorem hgx_fstore_n_1i : hgEx X rm C J ((.fstore_n 1, l, ps, hs) :: rs) (some (.int y) :: a1 :: L) (.float f :: S) K M = hgEx X rm C J rs (some (.int y) :: some (.float f) :: L) S K M := id rfl
theorem hgx_fstore_n_1r : hgEx X rm C J ((.fstore_n 1, l, ps, hs) :: rs) (some (.ref b) :: a1 :: L) (.float f :: S) K M = hgEx X rm C J rs (some (.ref b) :: some (.float f) :: L) S K M := id rfl
theorem hgx_fstore_n_1f : hgEx X rm C J ((.fstore_n 1, l, ps, hs) :: rs) (some (.float g) :: a1 :: L) (.float f :: S) K M = hgEx X rm C J rs (some (.float g) :: some (.float f) :: L) S K M := id rfl
theorem hgx_fstore_n_1n : hgEx X rm C J ((.fstore_n 1, l, ps, hs) :: rs) (none :: a1 :: L) (.float f :: S) K M = hgEx X rm C J rs (none :: some (.float f) :: L) S K M := id rfl
theorem hgx_fstore_n_1l : hgEx X rm C J ((.fstore_n 1, l, ps, hs) :: rs) (some (.long v) :: a1 :: L) (.float f :: S) K M = hgEx X rm C J rs (none :: some (.float f) :: L) S K M := id rfl
theorem hgx_fstore_n_2i : hgEx X rm C J ((.fstore_n 2, l, ps, hs) :: rs) (a0 :: some (.int y) :: a2 :: L) (.float f :: S) K M = hgEx X rm C J rs (a0 :: some (.int y) :: some (.float f) :: L) S K M := id rfl
theorem hgx_fstore_n_2r : hgEx X rm C J ((.fstore_n 2, l, ps, hs) :: rs) (a0 :: some (.ref b) :: a2 :: L) (.float f :: S) K M = hgEx X rm C J rs (a0 :: some (.ref b) :: some (.float f) :: L) S K M := id rfl
theorem hgx_fstore_n_2f : hgEx X rm C J ((.fstore_n 2, l, ps, hs) :: rs) (a0 :: some (.float g) :: a2 :: L) (.float f :: S) K M = hgEx X rm C J rs (a0 :: some (.float g) :: some (.float f) :: L) S K M := id rfl
theorem hgx_fstore_n_2n : hgEx X rm C J ((.fstore_n 2, l, ps, hs) :: rs) (a0 :: none :: a2 :: L) (.float f :: S) K M = hgEx X rm C J rs (a0 :: none :: some (.float f) :: L) S K M := id rfl
theorem hgx_fstore_n_2l : hgEx X rm C J ((.fstore_n 2, l, ps, hs) :: rs) (a0 :: some (.long v) :: a2 :: L) (.float f :: S) K M = hgEx X rm C J rs (a0 :: none :: some (.float f) :: L) S K M := id rfl
theorem hgx_istore_4i : hgEx X rm C J ((.istore 4, l, ps, hs) :: rs) (a0 :: a1 :: a2 :: some (.int y) :: a4 :: L) (.int x :: S) K M = hgEx X rm C J rs (a0 :: a1 :: a2 :: some (.int y) :: some (.int x) :: L) S K M := id rfl
theorem hgx_istore_4r : hgEx X rm C J ((.istore 4, l, ps, hs) :: rs) (a0 :: a1 :: a2 :: some (.ref b) :: a4 :: L) (.int x :: S) K M = hgEx X rm C J rs (a0 :: a1 :: a2 :: some (.ref b) :: some (.int x) :: L) S K M := id rfl
theorem hgx_istore_4f : hgEx X rm C J ((.istore 4, l, ps, hs) :: rs) (a0 :: a1 :: a2 :: some (.float g) :: a4 :: L) (.int x :: S) K M = hgEx X rm C J rs (a0 :: a1 :: a2 :: some (.float g) :: some (.int x) :: L) S K M := id rfl
theorem hgx_istore_4n : hgEx X rm C J ((.istore 4, l, ps, hs) :: rs) (a0 :: a1 :: a2 :: none :: a4 :: L) (.int x :: S) K M = hgEx X rm C J rs (a0 :: a1 :: a2 :: none :: some (.int x) :: L) S K M := id rfl
theorem hgx_istore_4l : hgEx X rm C J ((.istore 4, l, ps, hs) :: rs) (a0 :: a1 :: a2 :: some (.long v) :: a4 :: L) (.int x :: S) K M = hgEx X rm C J rs (a0 :: a1 :: a2 :: none :: some (.int x) :: L) S K M := id rfl
theorem hgx_istore_5i : hgEx X rm C J ((.istore 5, l, ps, hs) :: rs) (a0 :: a1 :: a2 :: a3 :: some (.int y) :: a5 :: L) (.int x :: S) K M = hgEx X rm C J rs (a0 :: a1 :: a2 :: a3 :: some (.int y) :: some (.int x) :: L) S K M := id rfl
theorem hgx_istore_5r : hgEx X rm C J ((.istore 5, l, ps, hs) :: rs) (a0 :: a1 :: a2 :: a3 :: some (.ref b) :: a5 :: L) (.int x :: S) K M = hgEx X rm C J rs (a0 :: a1 :: a2 :: a3 :: some (.ref b) :: some (.int x) :: L) S K M := id rfl
theorem hgx_istore_5f : hgEx X rm C J ((.istore 5, l, ps, hs) :: rs) (a0 :: a1 :: a2 :: a3 :: some (.float g) :: a5 :: L) (.int x :: S) K M = hgEx X rm C J rs (a0 :: a1 :: a2 :: a3 :: some (.float g) :: some (.int x) :: L) S K M := id rfl
theorem hgx_istore_5n : hgEx X rm C J ((.istore 5, l, ps, hs) :: rs) (a0 :: a1 :: a2 :: a3 :: none :: a5 :: L) (.int x :: S) K M = hgEx X rm C J rs (a0 :: a1 :: a2 :: a3 :: none :: some (.int x) :: L) S K M := id rfl
theorem hgx_istore_5l : hgEx X rm C J ((.istore 5, l, ps, hs) :: rs) (a0 :: a1 :: a2 :: a3 :: some (.long v) :: a5 :: L) (.int x :: S) K M = hgEx X rm C J rs (a0 :: a1 :: a2 :: a3 :: none :: some (.int x) :: L) S K M := id rfl
theorem hgx_istore_6i : hgEx X rm C J ((.istore 6, l, ps, hs) :: rs) (a0 :: a1 :: a2 :: a3 :: a4 :: some (.int y) :: a6 :: L) (.int x :: S) K M = hgEx X rm C J rs (a0 :: a1 :: a2 :: a3 :: a4 :: some (.int y) :: some (.int x) :: L) S K M := id rfl
theorem hgx_istore_6r : hgEx X rm C J ((.istore 6, l, ps, hs) :: rs) (a0 :: a1 :: a2 :: a3 :: a4 :: some (.ref b) :: a6 :: L) (.int x :: S) K M = hgEx X rm C J rs (a0 :: a1 :: a2 :: a3 :: a4 :: some (.ref b) :: some (.int x) :: L) S K M := id rfl
theorem hgx_istore_6f : hgEx X rm C J ((.istore 6, l, ps, hs) :: rs) (a0 :: a1 :: a2 :: a3 :: a4 :: some (.float g) :: a6 :: L) (.int x :: S) K M = hgEx X rm C J rs (a0 :: a1 :: a2 :: a3 :: a4 :: some (.float g) :: some (.int x) :: L) S K M := id rfl
theorem hgx_istore_6n : hgEx X rm C J ((.istore 6, l, ps, hs) :: rs) (a0 :: a1 :: a2 :: a3 :: a4 :: none :: a6 :: L) (.int x :: S) K M = hgEx X rm C J rs (a0 :: a1 :: a2 :: a3 :: a4 :: none :: some (.int x) :: L) S K M := id rfl
theorem hgx_istore_6l : hgEx X rm C J ((.istore 6, l, ps, hs) :: rs) (a0 :: a1 :: a2 :: a3 :: a4 :: some (.long v) :: a6 :: L) (.int x :: S) K M = hgEx X rm C J rs (a0 :: a1 :: a2 :: a3 :: a4 :: none :: some (.int x) :: L) S K M := id rfl
theorem hgx_istore_7i : hgEx X rm C J ((.istore 7, l, ps, hs) :: rs) (a0 :: a1 :: a2 :: a3 :: a4 :: a5 :: some (.int y) :: a7 :: L) (.int x :: S) K M = hgEx X rm C J rs (a0 :: a1 :: a2 :: a3 :: a4 :: a5 :: some (.int y) :: some (.int x) :: L) S K M := id rfl
theorem hgx_istore_7r : hgEx X rm C J ((.istore 7, l, ps, hs) :: rs) (a0 :: a1 :: a2 :: a3 :: a4 :: a5 :: some (.ref b) :: a7 :: L) (.int x :: S) K M = hgEx X rm C J rs (a0 :: a1 :: a2 :: a3 :: a4 :: a5 :: some (.ref b) :: some (.int x) :: L) S K M := id rfl
theorem hgx_istore_7f : hgEx X rm C J ((.istore 7, l, ps, hs) :: rs) (a0 :: a1 :: a2 :: a3 :: a4 :: a5 :: some (.float g) :: a7 :: L) (.int x :: S) K M = hgEx X rm C J rs (a0 :: a1 :: a2 :: a3 :: a4 :: a5 :: some (.float g) :: some (.int x) :: L) S K M := id rfl
theorem hgx_istore_7n : hgEx X rm C J ((.istore 7, l, ps, hs) :: rs) (a0 :: a1 :: a2 :: a3 :: a4 :: a5 :: none :: a7 :: L) (.int x :: S) K M = hgEx X rm C J rs (a0 :: a1 :: a2 :: a3 :: a4 :: a5 :: none :: some (.int x) :: L) S K M := id rfl
theorem hgx_istore_7l : hgEx X rm C J ((.istore 7, l, ps, hs) :: rs) (a0 :: a1 :: a2 :: a3 :: a4 :: a5 :: some (.long v) :: a7 :: L) (.int x :: S) K M = hgEx X rm C J rs (a0 :: a1 :: a2 :: a3 :: a4 :: a5 :: none :: some (.int x) :: L) S K M := id rfl
theorem hgx_istore_8i : hgEx X rm C J ((.istore 8, l, ps, hs) :: rs) (a0 :: a1 :: a2 :: a3 :: a4 :: a5 :: a6 :: some (.int y) :: a8 :: L) (.int x :: S) K M = hgEx X rm C J rs (a0 :: a1 :: a2 :: a3 :: a4 :: a5 :: a6 :: some (.int y) :: some (.int x) :: L) S K M := id rfl
theorem hgx_istore_8r : hgEx X rm C J ((.istore 8, l, ps, hs) :: rs) (a0 :: a1 :: a2 :: a3 :: a4 :: a5 :: a6 :: some (.ref b) :: a8 :: L) (.int x :: S) K M = hgEx X rm C J rs (a0 :: a1 :: a2 :: a3 :: a4 :: a5 :: a6 :: some (.ref b) :: some (.int x) :: L) S K M := id rfl
theorem hgx_istore_8f : hgEx X rm C J ((.istore 8, l, ps, hs) :: rs) (a0 :: a1 :: a2 :: a3 :: a4 :: a5 :: a6 :: some (.float g) :: a8 :: L) (.int x :: S) K M = hgEx X rm C J rs (a0 :: a1 :: a2 :: a3 :: a4 :: a5 :: a6 :: some (.float g) :: some (.int x) :: L) S K M := id rfl
theorem hgx_istore_8n : hgEx X rm C J ((.istore 8, l, ps, hs) :: rs) (a0 :: a1 :: a2 :: a3 :: a4 :: a5 :: a6 :: none :: a8 :: L) (.int x :: S) K M = hgEx X rm C J rs (a0 :: a1 :: a2 :: a3 :: a4 :: a5 :: a6 :: none :: some (.int x) :: L) S K M := id rfl
theorem hgx_istore_8l : hgEx X rm C J ((.istore 8, l, ps, hs) :: rs) (a0 :: a1 :: a2 :: a3 :: a4 :: a5 :: a6 :: some (.long v) :: a8 :: L) (.int x :: S) K M = hgEx X rm C J rs (a0 :: a1 :: a2 :: a3 :: a4 :: a5 :: a6 :: none :: some (.int x) :: L) S K M := id rfl
theorem hgx_istore_n_1i : hgEx X rm C J ((.istore_n 1, l, ps, hs) :: rs) (some (.int y) :: a1 :: L) (.int x :: S) K M = hgEx X rm C J rs (some (.int y) :: some (.int x) :: L) S K M := id rfl
theorem hgx_istore_n_1r : hgEx X rm C J ((.istore_n 1, l, ps, hs) :: rs) (some (.ref b) :: a1 :: L) (.int x :: S) K M = hgEx X rm C J rs (some (.ref b) :: some (.int x) :: L) S K M := id rfl
theorem hgx_istore_n_1f : hgEx X rm C J ((.istore_n 1, l, ps, hs) :: rs) (some (.float g) :: a1 :: L) (.int x :: S) K M = hgEx X rm C J rs (some (.float g) :: some (.int x) :: L) S K M := id rfl
theorem hgx_istore_n_1n : hgEx X rm C J ((.istore_n 1, l, ps, hs) :: rs) (none :: a1 :: L) (.int x :: S) K M = hgEx X rm C J rs (none :: some (.int x) :: L) S K M := id rfl
theorem hgx_istore_n_1l : hgEx X rm C J ((.istore_n 1, l, ps, hs) :: rs) (some (.long v) :: a1 :: L) (.int x :: S) K M = hgEx X rm C J rs (none :: some (.int x) :: L) S K M := id rfl
theorem hgx_istore_n_2i : hgEx X rm C J ((.istore_n 2, l, ps, hs) :: rs) (a0 :: some (.int y) :: a2 :: L) (.int x :: S) K M = hgEx X rm C J rs (a0 :: some (.int y) :: some (.int x) :: L) S K M := id rfl
theorem hgx_istore_n_2r : hgEx X rm C J ((.istore_n 2, l, ps, hs) :: rs) (a0 :: some (.ref b) :: a2 :: L) (.int x :: S) K M = hgEx X rm C J rs (a0 :: some (.ref b) :: some (.int x) :: L) S K M := id rfl
theorem hgx_istore_n_2f : hgEx X rm C J ((.istore_n 2, l, ps, hs) :: rs) (a0 :: some (.float g) :: a2 :: L) (.int x :: S) K M = hgEx X rm C J rs (a0 :: some (.float g) :: some (.int x) :: L) S K M := id rfl
theorem hgx_istore_n_2n : hgEx X rm C J ((.istore_n 2, l, ps, hs) :: rs) (a0 :: none :: a2 :: L) (.int x :: S) K M = hgEx X rm C J rs (a0 :: none :: some (.int x) :: L) S K M := id rfl
theorem hgx_istore_n_2l : hgEx X rm C J ((.istore_n 2, l, ps, hs) :: rs) (a0 :: some (.long v) :: a2 :: L) (.int x :: S) K M = hgEx X rm C J rs (a0 :: none :: some (.int x) :: L) S K M := id rfl
theorem hgx_istore_n_3i : hgEx X rm C J ((.istore_n 3, l, ps, hs) :: rs) (a0 :: a1 :: some (.int y) :: a3 :: L) (.int x :: S) K M = hgEx X rm C J rs (a0 :: a1 :: some (.int y) :: some (.int x) :: L) S K M := id rfl
theorem hgx_istore_n_3r : hgEx X rm C J ((.istore_n 3, l, ps, hs) :: rs) (a0 :: a1 :: some (.ref b) :: a3 :: L) (.int x :: S) K M = hgEx X rm C J rs (a0 :: a1 :: some (.ref b) :: some (.int x) :: L) S K M := id rfl
theorem hgx_istore_n_3f : hgEx X rm C J ((.istore_n 3, l, ps, hs) :: rs) (a0 :: a1 :: some (.float g) :: a3 :: L) (.int x :: S) K M = hgEx X rm C J rs (a0 :: a1 :: some (.float g) :: some (.int x) :: L) S K M := id rfl
theorem hgx_istore_n_3n : hgEx X rm C J ((.istore_n 3, l, ps, hs) :: rs) (a0 :: a1 :: none :: a3 :: L) (.int x :: S) K M = hgEx X rm C J rs (a0 :: a1 :: none :: some (.int x) :: L) S K M := id rfl
theorem hgx_istore_n_3l : hgEx X rm C J ((.istore_n 3, l, ps, hs) :: rs) (a0 :: a1 :: some (.long v) :: a3 :: L) (.int x :: S) K M = hgEx X rm C J rs (a0 :: a1 :: none :: some (.int x) :: L) S K M := id rfl
theorem hgx_lstore_6i : hgEx X rm C J ((.lstore 6, l, ps, hs) :: rs) (a0 :: a1 :: a2 :: a3 :: a4 :: some (.int y) :: a6 :: a7 :: L) (.long u :: S) K M = hgEx X rm C J rs (a0 :: a1 :: a2 :: a3 :: a4 :: some (.int y) :: some (.long u) :: none :: L) S K M := id rfl
theorem hgx_lstore_6r : hgEx X rm C J ((.lstore 6, l, ps, hs) :: rs) (a0 :: a1 :: a2 :: a3 :: a4 :: some (.ref b) :: a6 :: a7 :: L) (.long u :: S) K M = hgEx X rm C J rs (a0 :: a1 :: a2 :: a3 :: a4 :: some (.ref b) :: some (.long u) :: none :: L) S K M := id rfl
theorem hgx_lstore_6f : hgEx X rm C J ((.lstore 6, l, ps, hs) :: rs) (a0 :: a1 :: a2 :: a3 :: a4 :: some (.float g) :: a6 :: a7 :: L) (.long u :: S) K M = hgEx X rm C J rs (a0 :: a1 :: a2 :: a3 :: a4 :: some (.float g) :: some (.long u) :: none :: L) S K M := id rfl
theorem hgx_lstore_6n : hgEx X rm C J ((.lstore 6, l, ps, hs) :: rs) (a0 :: a1 :: a2 :: a3 :: a4 :: none :: a6 :: a7 :: L) (.long u :: S) K M = hgEx X rm C J rs (a0 :: a1 :: a2 :: a3 :: a4 :: none :: some (.long u) :: none :: L) S K M := id rfl
theorem hgx_lstore_6l : hgEx X rm C J ((.lstore 6, l, ps, hs) :: rs) (a0 :: a1 :: a2 :: a3 :: a4 :: some (.long v) :: a6 :: a7 :: L) (.long u :: S) K M = hgEx X rm C J rs (a0 :: a1 :: a2 :: a3 :: a4 :: none :: some (.long u) :: none :: L) S K M := id rfl
theorem hgx_lstore_n_1i : hgEx X rm C J ((.lstore_n 1, l, ps, hs) :: rs) (some (.int y) :: a1 :: a2 :: L) (.long u :: S) K M = hgEx X rm C J rs (some (.int y) :: some (.long u) :: none :: L) S K M := id rfl
theorem hgx_lstore_n_1r : hgEx X rm C J ((.lstore_n 1, l, ps, hs) :: rs) (some (.ref b) :: a1 :: a2 :: L) (.long u :: S) K M = hgEx X rm C J rs (some (.ref b) :: some (.long u) :: none :: L) S K M := id rfl
theorem hgx_lstore_n_1f : hgEx X rm C J ((.lstore_n 1, l, ps, hs) :: rs) (some (.float g) :: a1 :: a2 :: L) (.long u :: S) K M = hgEx X rm C J rs (some (.float g) :: some (.long u) :: none :: L) S K M := id rfl
theorem hgx_lstore_n_1n : hgEx X rm C J ((.lstore_n 1, l, ps, hs) :: rs) (none :: a1 :: a2 :: L) (.long u :: S) K M = hgEx X rm C J rs (none :: some (.long u) :: none :: L) S K M := id rfl
theorem hgx_lstore_n_1l : hgEx X rm C J ((.lstore_n 1, l, ps, hs) :: rs) (some (.long v) :: a1 :: a2 :: L) (.long u :: S) K M = hgEx X rm C J rs (none :: some (.long u) :: none :: L) S K M := id rfl
theorem hgx_lstore_n_3i : hgEx X rm C J ((.lstore_n 3, l, ps, hs) :: rs) (a0 :: a1 :: some (.int y) :: a3 :: a4 :: L) (.long u :: S) K M = hgEx X rm C J rs (a0 :: a1 :: some (.int y) :: some (.long u) :: none :: L) S K M := id rfl
theorem hgx_lstore_n_3r : hgEx X rm C J ((.lstore_n 3, l, ps, hs) :: rs) (a0 :: a1 :: some (.ref b) :: a3 :: a4 :: L) (.long u :: S) K M = hgEx X rm C J rs (a0 :: a1 :: some (.ref b) :: some (.long u) :: none :: L) S K M := id rfl
theorem hgx_lstore_n_3f : hgEx X rm C J ((.lstore_n 3, l, ps, hs) :: rs) (a0 :: a1 :: some (.float g) :: a3 :: a4 :: L) (.long u :: S) K M = hgEx X rm C J rs (a0 :: a1 :: some (.float g) :: some (.long u) :: none :: L) S K M := id rfl
theorem hgx_lstore_n_3n : hgEx X rm C J ((.lstore_n 3, l, ps, hs) :: rs) (a0 :: a1 :: none :: a3 :: a4 :: L) (.long u :: S) K M = hgEx X rm C J rs (a0 :: a1 :: none :: some (.long u) :: none :: L) S K M := id rfl
theorem hgx_lstore_n_3l : hgEx X rm C J ((.lstore_n 3, l, ps, hs) :: rs) (a0 :: a1 :: some (.long v) :: a3 :: a4 :: L) (.long u :: S) K M = hgEx X rm C J rs (a0 :: a1 :: none :: some (.long u) :: none :: L) S K M := id rfl
theorem hgx_iinc_1_1 : hgEx X rm C J ((.iinc 1 1, l, ps, hs) :: rs) (a0 :: some (.int x) :: L) S K M = hgEx X rm C J rs (a0 :: some (.int (x + nI 1)) :: L) S K M := id rfl
theorem hgx_iincg_2 (q : Int) : hgEx X rm C J ((.iinc 2 q, l, ps, hs) :: rs) (a0 :: a1 :: some (.int x) :: L) S K M = hgEx X rm C J rs (a0 :: a1 :: some (.int (x + Int32.ofInt q)) :: L) S K M := id rfl
theorem hgx_iinc_2_m8 : hgEx X rm C J ((.iinc 2 (-8), l, ps, hs) :: rs) (a0 :: a1 :: some (.int x) :: L) S K M = hgEx X rm C J rs (a0 :: a1 :: some (.int (x - nI 8)) :: L) S K M := (hgx_iincg_2 (-8)).trans (congrArg (fun q => hgEx X rm C J rs (a0 :: a1 :: some (Value.int q) :: L) S K M) (by rw [Int32.sub_eq_add_neg, show Int32.ofInt (-8) = -nI 8 by decide]))
theorem hgx_iinc_2_1 : hgEx X rm C J ((.iinc 2 1, l, ps, hs) :: rs) (a0 :: a1 :: some (.int x) :: L) S K M = hgEx X rm C J rs (a0 :: a1 :: some (.int (x + nI 1)) :: L) S K M := id rfl
theorem hgx_iincg_3 (q : Int) : hgEx X rm C J ((.iinc 3 q, l, ps, hs) :: rs) (a0 :: a1 :: a2 :: some (.int x) :: L) S K M = hgEx X rm C J rs (a0 :: a1 :: a2 :: some (.int (x + Int32.ofInt q)) :: L) S K M := id rfl
theorem hgx_iinc_3_m1 : hgEx X rm C J ((.iinc 3 (-1), l, ps, hs) :: rs) (a0 :: a1 :: a2 :: some (.int x) :: L) S K M = hgEx X rm C J rs (a0 :: a1 :: a2 :: some (.int (x - nI 1)) :: L) S K M := (hgx_iincg_3 (-1)).trans (congrArg (fun q => hgEx X rm C J rs (a0 :: a1 :: a2 :: some (Value.int q) :: L) S K M) (by rw [Int32.sub_eq_add_neg, show Int32.ofInt (-1) = -nI 1 by decide]))
theorem hgx_iinc_3_1 : hgEx X rm C J ((.iinc 3 1, l, ps, hs) :: rs) (a0 :: a1 :: a2 :: some (.int x) :: L) S K M = hgEx X rm C J rs (a0 :: a1 :: a2 :: some (.int (x + nI 1)) :: L) S K M := id rfl
theorem hgx_iincg_4 (q : Int) : hgEx X rm C J ((.iinc 4 q, l, ps, hs) :: rs) (a0 :: a1 :: a2 :: a3 :: some (.int x) :: L) S K M = hgEx X rm C J rs (a0 :: a1 :: a2 :: a3 :: some (.int (x + Int32.ofInt q)) :: L) S K M := id rfl
theorem hgx_iinc_4_m1 : hgEx X rm C J ((.iinc 4 (-1), l, ps, hs) :: rs) (a0 :: a1 :: a2 :: a3 :: some (.int x) :: L) S K M = hgEx X rm C J rs (a0 :: a1 :: a2 :: a3 :: some (.int (x - nI 1)) :: L) S K M := (hgx_iincg_4 (-1)).trans (congrArg (fun q => hgEx X rm C J rs (a0 :: a1 :: a2 :: a3 :: some (Value.int q) :: L) S K M) (by rw [Int32.sub_eq_add_neg, show Int32.ofInt (-1) = -nI 1 by decide]))
theorem hgx_iinc_4_1 : hgEx X rm C J ((.iinc 4 1, l, ps, hs) :: rs) (a0 :: a1 :: a2 :: a3 :: some (.int x) :: L) S K M = hgEx X rm C J rs (a0 :: a1 :: a2 :: a3 :: some (.int (x + nI 1)) :: L) S K M := id rfl
theorem hgx_iinc_4_6 : hgEx X rm C J ((.iinc 4 6, l, ps, hs) :: rs) (a0 :: a1 :: a2 :: a3 :: some (.int x) :: L) S K M = hgEx X rm C J rs (a0 :: a1 :: a2 :: a3 :: some (.int (x + nI 6)) :: L) S K M := id rfl
theorem hgx_iinc_5_1 : hgEx X rm C J ((.iinc 5 1, l, ps, hs) :: rs) (a0 :: a1 :: a2 :: a3 :: a4 :: some (.int x) :: L) S K M = hgEx X rm C J rs (a0 :: a1 :: a2 :: a3 :: a4 :: some (.int (x + nI 1)) :: L) S K M := id rfl
theorem hgx_iinc_6_1 : hgEx X rm C J ((.iinc 6 1, l, ps, hs) :: rs) (a0 :: a1 :: a2 :: a3 :: a4 :: a5 :: some (.int x) :: L) S K M = hgEx X rm C J rs (a0 :: a1 :: a2 :: a3 :: a4 :: a5 :: some (.int (x + nI 1)) :: L) S K M := id rfl
theorem hgx_iinc_8_1 : hgEx X rm C J ((.iinc 8 1, l, ps, hs) :: rs) (a0 :: a1 :: a2 :: a3 :: a4 :: a5 :: a6 :: a7 :: some (.int x) :: L) S K M = hgEx X rm C J rs (a0 :: a1 :: a2 :: a3 :: a4 :: a5 :: a6 :: a7 :: some (.int (x + nI 1)) :: L) S K M := id rfl
theorem hgx_iadd : hgEx X rm C J ((.iadd, l, ps, hs) :: rs) L (.int y :: .int x :: S) K M = hgEx X rm C J rs L (.int (x + y) :: S) K M := id rfl
theorem hgx_isub : hgEx X rm C J ((.isub, l, ps, hs) :: rs) L (.int y :: .int x :: S) K M = hgEx X rm C J rs L (.int (x - y) :: S) K M := id rfl
theorem hgx_imul : hgEx X rm C J ((.imul, l, ps, hs) :: rs) L (.int y :: .int x :: S) K M = hgEx X rm C J rs L (.int (x * y) :: S) K M := id rfl
theorem hgx_iand : hgEx X rm C J ((.iand, l, ps, hs) :: rs) L (.int y :: .int x :: S) K M = hgEx X rm C J rs L (.int (x &&& y) :: S) K M := id rfl
theorem hgx_ior : hgEx X rm C J ((.ior, l, ps, hs) :: rs) L (.int y :: .int x :: S) K M = hgEx X rm C J rs L (.int (x ||| y) :: S) K M := id rfl
theorem hgx_ishl : hgEx X rm C J ((.ishl, l, ps, hs) :: rs) L (.int y :: .int x :: S) K M = hgEx X rm C J rs L (.int (x <<< (y &&& 31)) :: S) K M := id rfl
theorem hgx_ishr : hgEx X rm C J ((.ishr, l, ps, hs) :: rs) L (.int y :: .int x :: S) K M = hgEx X rm C J rs L (.int (x >>> (y &&& 31)) :: S) K M := id rfl
theorem hgx_iushr : hgEx X rm C J ((.iushr, l, ps, hs) :: rs) L (.int y :: .int x :: S) K M = hgEx X rm C J rs L (.int ((x.toUInt32 >>> (y.toUInt32 &&& Int32.toUInt32 31)).toInt32) :: S) K M := id rfl
theorem hgx_idiv (h : y ≠ 0) : hgEx X rm C J ((.idiv, l, ps, hs) :: rs) L (.int y :: .int x :: S) K M = hgEx X rm C J rs L (.int (x / y) :: S) K M := if_neg h
theorem hgx_irem (h : y ≠ 0) : hgEx X rm C J ((.irem, l, ps, hs) :: rs) L (.int y :: .int x :: S) K M = hgEx X rm C J rs L (.int (x - x / y * y) :: S) K M := if_neg h
theorem hgx_i2l : hgEx X rm C J ((.i2l, l, ps, hs) :: rs) L (.int x :: S) K M = hgEx X rm C J rs L (.long x.toInt64 :: S) K M := id rfl
theorem hgx_i2b : hgEx X rm C J ((.i2b, l, ps, hs) :: rs) L (.int x :: S) K M = hgEx X rm C J rs L (.int x.toInt8.toInt32 :: S) K M := id rfl
theorem hgx_i2f : hgEx X rm C J ((.i2f, l, ps, hs) :: rs) L (.int x :: S) K M = hgEx X rm C J rs L (.float (FP.i2f x) :: S) K M := id rfl
theorem hgx_f2i : hgEx X rm C J ((.f2i, l, ps, hs) :: rs) L (.float f :: S) K M = hgEx X rm C J rs L (.int (FP.f2i f) :: S) K M := id rfl
theorem hgx_ladd : hgEx X rm C J ((.ladd, l, ps, hs) :: rs) L (.long v :: .long u :: S) K M = hgEx X rm C J rs L (.long (u + v) :: S) K M := id rfl
theorem hgx_lmul : hgEx X rm C J ((.lmul, l, ps, hs) :: rs) L (.long v :: .long u :: S) K M = hgEx X rm C J rs L (.long (u * v) :: S) K M := id rfl
theorem hgx_lcmp : hgEx X rm C J ((.lcmp, l, ps, hs) :: rs) L (.long v :: .long u :: S) K M = hgEx X rm C J rs L (.int (lg_cmp u v) :: S) K M := id rfl
theorem hgx_fadd (h : (FP.fadd f g) &&& 0x7fffffff ≤ 0x7f800000) : hgEx X rm C J ((.fadd, l, ps, hs) :: rs) L (.float g :: .float f :: S) K M = hgEx X rm C J rs L (.float (FP.fadd f g) :: S) K M := if_pos h
theorem hgx_fmul (h : (FP.fmul f g) &&& 0x7fffffff ≤ 0x7f800000) : hgEx X rm C J ((.fmul, l, ps, hs) :: rs) L (.float g :: .float f :: S) K M = hgEx X rm C J rs L (.float (FP.fmul f g) :: S) K M := if_pos h
theorem hgx_fdiv (h : (FP.fdiv f g) &&& 0x7fffffff ≤ 0x7f800000) : hgEx X rm C J ((.fdiv, l, ps, hs) :: rs) L (.float g :: .float f :: S) K M = hgEx X rm C J rs L (.float (FP.fdiv f g) :: S) K M := if_pos h
theorem hgx_fcmp {q : CmpOp} : hgEx X rm C J ((.fcmp q, l, ps, hs) :: rs) L (.float g :: .float f :: S) K M = hgEx X rm C J rs L (.int (Op.cmpValue (FP.fcmp f g) q) :: S) K M := id rfl
theorem hgx_dup_i : hgEx X rm C J ((.dup, l, ps, hs) :: rs) L (.int x :: S) K M = hgEx X rm C J rs L (.int x :: .int x :: S) K M := id rfl
theorem hgx_pop_i : hgEx X rm C J ((.pop, l, ps, hs) :: rs) L (.int x :: S) K M = hgEx X rm C J rs L S K M := id rfl
theorem hgx_dup_f : hgEx X rm C J ((.dup, l, ps, hs) :: rs) L (.float f :: S) K M = hgEx X rm C J rs L (.float f :: .float f :: S) K M := id rfl
theorem hgx_pop_f : hgEx X rm C J ((.pop, l, ps, hs) :: rs) L (.float f :: S) K M = hgEx X rm C J rs L S K M := id rfl
theorem hgx_dup_r : hgEx X rm C J ((.dup, l, ps, hs) :: rs) L (.ref a :: S) K M = hgEx X rm C J rs L (.ref a :: .ref a :: S) K M := id rfl
theorem hgx_pop_r : hgEx X rm C J ((.pop, l, ps, hs) :: rs) L (.ref a :: S) K M = hgEx X rm C J rs L S K M := id rfl
theorem hgx_dup2 : hgEx X rm C J ((.dup2, l, ps, hs) :: rs) L (.int x :: .ref a :: S) K M = hgEx X rm C J rs L (.int x :: .ref a :: .int x :: .ref a :: S) K M := id rfl
theorem hgx_goto {q : Int} : hgEx X rm C J ((.goto q, l, [t], hs) :: rs) L S K M = J t L S K M := id rfl
theorem hgx_if_eq {q : Int} : hgEx X rm C J ((.ifCond .eq q, l, [t], hs) :: rs) L (.int x :: S) K M = if x = nI 0 then J t L S K M else hgEx X rm C J rs L S K M := id rfl
theorem hgx_if_ne {q : Int} : hgEx X rm C J ((.ifCond .ne q, l, [t], hs) :: rs) L (.int x :: S) K M = if x = nI 0 then hgEx X rm C J rs L S K M else J t L S K M := id rfl
theorem hgx_if_lt {q : Int} : hgEx X rm C J ((.ifCond .lt q, l, [t], hs) :: rs) L (.int x :: S) K M = if x < nI 0 then J t L S K M else hgEx X rm C J rs L S K M := id rfl
theorem hgx_if_ge {q : Int} : hgEx X rm C J ((.ifCond .ge q, l, [t], hs) :: rs) L (.int x :: S) K M = if nI 0 ≤ x then J t L S K M else hgEx X rm C J rs L S K M := id rfl
theorem hgx_if_gt {q : Int} : hgEx X rm C J ((.ifCond .gt q, l, [t], hs) :: rs) L (.int x :: S) K M = if nI 0 < x then J t L S K M else hgEx X rm C J rs L S K M := id rfl
theorem hgx_if_le {q : Int} : hgEx X rm C J ((.ifCond .le q, l, [t], hs) :: rs) L (.int x :: S) K M = if x ≤ nI 0 then J t L S K M else hgEx X rm C J rs L S K M := id rfl
theorem hgx_ic_eq {q : Int} : hgEx X rm C J ((.if_icmp .eq q, l, [t], hs) :: rs) L (.int y :: .int x :: S) K M = if x = y then J t L S K M else hgEx X rm C J rs L S K M := id rfl
theorem hgx_ic_ne {q : Int} : hgEx X rm C J ((.if_icmp .ne q, l, [t], hs) :: rs) L (.int y :: .int x :: S) K M = if x = y then hgEx X rm C J rs L S K M else J t L S K M := id rfl
theorem hgx_ic_lt {q : Int} : hgEx X rm C J ((.if_icmp .lt q, l, [t], hs) :: rs) L (.int y :: .int x :: S) K M = if x < y then J t L S K M else hgEx X rm C J rs L S K M := id rfl
theorem hgx_ic_ge {q : Int} : hgEx X rm C J ((.if_icmp .ge q, l, [t], hs) :: rs) L (.int y :: .int x :: S) K M = if y ≤ x then J t L S K M else hgEx X rm C J rs L S K M := id rfl
theorem hgx_ic_gt {q : Int} : hgEx X rm C J ((.if_icmp .gt q, l, [t], hs) :: rs) L (.int y :: .int x :: S) K M = if y < x then J t L S K M else hgEx X rm C J rs L S K M := id rfl
theorem hgx_ic_le {q : Int} : hgEx X rm C J ((.if_icmp .le q, l, [t], hs) :: rs) L (.int y :: .int x :: S) K M = if x ≤ y then J t L S K M else hgEx X rm C J rs L S K M := id rfl
theorem hgx_ldc_i : hgEx X rm C J ((.ldc idx, l, [0, w, n], hs) :: rs) L S K M = hgEx X rm C J rs L (.int (nI n) :: S) K M := id rfl
theorem hgx_ldc_f : hgEx X rm C J ((.ldc idx, l, [1, w, n], hs) :: rs) L S K M = hgEx X rm C J rs L (.float (UInt32.ofNat n) :: S) K M := id rfl
theorem hgx_ldc_s : hgEx X rm C J ((.ldc idx, l, [2, w, n], hs) :: rs) L S K M = hgEx X rm C J rs L (.ref n :: S) K M := id rfl
theorem hgx_ldc_w : hgEx X rm C J ((.ldc_w idx, l, [0, w, n], hs) :: rs) L S K M = hgEx X rm C J rs L (.int (nI n) :: S) K M := id rfl
theorem hgx_ldc2_0 : hgEx X rm C J ((.ldc2_w idx, l, [0, w, n], hs) :: rs) L S K M = hgEx X rm C J rs L (.long (lN n) :: S) K M := id rfl
theorem hgx_ldc2_1 : hgEx X rm C J ((.ldc2_w idx, l, [1, w, n], hs) :: rs) L S K M = hgEx X rm C J rs L (.long (-lN n) :: S) K M := id rfl
theorem hgx_get0 (h : hgO M a ci) : hgEx X rm C J ((.getfield idx, l, [ci, k, 0, w], hs) :: rs) L (.ref a :: S) K M = hgEx X rm C J rs L (.int (hgI M a k) :: S) K M := if_pos h
theorem hgx_get3 (h : hgO M a ci) : hgEx X rm C J ((.getfield idx, l, [ci, k, 3, w], hs) :: rs) L (.ref a :: S) K M = hgEx X rm C J rs L (.int (hgI M a k) :: S) K M := if_pos h
theorem hgx_get1 (h : hgO M a ci) : hgEx X rm C J ((.getfield idx, l, [ci, k, 1, w], hs) :: rs) L (.ref a :: S) K M = hgEx X rm C J rs L (.long (hgJ M a k) :: S) K M := if_pos h
theorem hgx_get2 (h : hgO M a ci) (hr : hgR M a k = some b) : hgEx X rm C J ((.getfield idx, l, [ci, k, 2, w], hs) :: rs) L (.ref a :: S) K M = hgEx X rm C J rs L (.ref b :: S) K M := by
  show hgget M a ci k 2 (fun v => hgEx X rm C J rs L (v :: S) K M) = _
  unfold hgget
  rw [if_pos (show a < M.1 ∧ (hgSh a).1 = ci from h)]
  dsimp only
  rw [hr]
  rfl
theorem hgx_put0 (h : hgO M a ci) : hgEx X rm C J ((.putfield idx, l, [ci, k, 0, w, n], hs) :: rs) L (.int x :: .ref a :: S) K M = hgEx X rm C J rs L S K (hgSI M a k x) := if_pos h
theorem hgx_put1 (h : hgO M a ci) : hgEx X rm C J ((.putfield idx, l, [ci, k, 1, w, n], hs) :: rs) L (.long u :: .ref a :: S) K M = hgEx X rm C J rs L S K (hgSJ M a k u) := if_pos h
theorem hgx_put2 (h : hgO M a ci) (hb : b < M.1) : hgEx X rm C J ((.putfield idx, l, [ci, k, 2, w, n], hs) :: rs) L (.ref b :: .ref a :: S) K M = hgEx X rm C J rs L S K (hgSR M a k b) := if_pos ⟨h.1, hb, h.2⟩
theorem hgx_put3 (h : hgO M a ci) (hb : x = nI 0 ∨ x = nI 1) : hgEx X rm C J ((.putfield idx, l, [ci, k, 3, w, n], hs) :: rs) L (.int x :: .ref a :: S) K M = hgEx X rm C J rs L S K (hgSI M a k x) := if_pos ⟨h.1, h.2, hb⟩
theorem hgx_iaload (h : hgAr M a 20 n) (h2 : a ≠ 2000) (hj : j < n) (hn : n < 2147483648) : hgEx X rm C J ((.iaload, l, ps, hs) :: rs) L (.int (nI j) :: .ref a :: S) K M = hgEx X rm C J rs L (.int (hgI M a j) :: S) K M := by
  show (if a = 2000 then _ else _) = _
  rw [if_neg h2, if_pos ⟨h.1, by rw [h.2], by rw [h.2]; exact hgIn_nI hj hn⟩, hgn_cl (by omega)]
theorem hgx_sload (hj : j < X.1) (hn : X.1 < 2147483648) : hgEx X rm C J ((.iaload, l, ps, hs) :: rs) L (.int (nI j) :: .ref 2000 :: S) K M = hgEx X rm C J rs L (.int (X.2 j) :: S) K M := by
  have e : (if hgIn (nI j) X.1 = true then hgEx X rm C J rs L (.int (X.2 (nI j).toNatClampNeg) :: S) K M else none) = hgEx X rm C J rs L (.int (X.2 j) :: S) K M := by rw [if_pos (hgIn_nI hj hn), hgn_cl (by omega)]
  exact e
theorem hgx_baload2 (h : hgAr M a 22 n) (hj : j < n) (hn : n < 2147483648) : hgEx X rm C J ((.baload, l, ps, hs) :: rs) L (.int (nI j) :: .ref a :: S) K M = hgEx X rm C J rs L (.int (hgI M a j) :: S) K M := by
  show (if _ then _ else _) = _
  rw [if_pos ⟨h.1, Or.inl (by rw [h.2]), by rw [h.2]; exact hgIn_nI hj hn⟩, hgn_cl (by omega)]
theorem hgx_baload3 (h : hgAr M a 23 n) (hj : j < n) (hn : n < 2147483648) : hgEx X rm C J ((.baload, l, ps, hs) :: rs) L (.int (nI j) :: .ref a :: S) K M = hgEx X rm C J rs L (.int (hgI M a j) :: S) K M := by
  show (if _ then _ else _) = _
  rw [if_pos ⟨h.1, Or.inr (by rw [h.2]), by rw [h.2]; exact hgIn_nI hj hn⟩, hgn_cl (by omega)]
theorem hgx_laload (h : hgAr M a 21 n) (hj : j < n) (hn : n < 2147483648) : hgEx X rm C J ((.laload, l, ps, hs) :: rs) L (.int (nI j) :: .ref a :: S) K M = hgEx X rm C J rs L (.long (hgJ M a j) :: S) K M := by
  show (if _ then _ else _) = _
  rw [if_pos ⟨h.1, by rw [h.2], by rw [h.2]; exact hgIn_nI hj hn⟩, hgn_cl (by omega)]
theorem hgx_aaload (h : hgAr M a ci n) (hc : 24 ≤ ci ∧ ci ≤ 28) (hj : j < n) (hn : n < 2147483648) (hr : hgR M a j = some b) : hgEx X rm C J ((.aaload, l, ps, hs) :: rs) L (.int (nI j) :: .ref a :: S) K M = hgEx X rm C J rs L (.ref b :: S) K M := by
  show (if _ then _ else _) = _
  rw [if_pos ⟨h.1, by rw [h.2]; exact hc.1, by rw [h.2]; exact hc.2, by rw [h.2]; exact hgIn_nI hj hn⟩, hgn_cl (by omega)]
  dsimp only
  rw [hr]
theorem hgx_iastore (h : hgAr M a 20 n) (hj : j < n) (hn : n < 2147483648) : hgEx X rm C J ((.iastore, l, ps, hs) :: rs) L (.int x :: .int (nI j) :: .ref a :: S) K M = hgEx X rm C J rs L S K (hgSI M a j x) := by
  show (if _ then _ else _) = _
  rw [if_pos ⟨h.1, by rw [h.2], by rw [h.2]; exact hgIn_nI hj hn⟩, hgn_cl (by omega)]
theorem hgx_lastore (h : hgAr M a 21 n) (hj : j < n) (hn : n < 2147483648) : hgEx X rm C J ((.lastore, l, ps, hs) :: rs) L (.long u :: .int (nI j) :: .ref a :: S) K M = hgEx X rm C J rs L S K (hgSJ M a j u) := by
  show (if _ then _ else _) = _
  rw [if_pos ⟨h.1, by rw [h.2], by rw [h.2]; exact hgIn_nI hj hn⟩, hgn_cl (by omega)]
theorem hgx_bastore2 (h : hgAr M a 22 n) (hj : j < n) (hn : n < 2147483648) : hgEx X rm C J ((.bastore, l, ps, hs) :: rs) L (.int x :: .int (nI j) :: .ref a :: S) K M = hgEx X rm C J rs L S K (hgSI M a j (vp_nar .byte x)) := by
  show (if _ then _ else _) = _
  rw [if_pos ⟨h.1, by rw [h.2], by rw [h.2]; exact hgIn_nI hj hn⟩, hgn_cl (by omega)]
theorem hgx_bastore3 (h : hgAr M a 23 n) (hj : j < n) (hn : n < 2147483648) : hgEx X rm C J ((.bastore, l, ps, hs) :: rs) L (.int x :: .int (nI j) :: .ref a :: S) K M = hgEx X rm C J rs L S K (hgSI M a j (vp_nar .boolean x)) := by
  show (if _ then _ else _) = _
  rw [if_neg (fun q => by rw [h.2] at q; exact absurd q.2.1 (by decide : ¬ (23 : Nat) = 22)), if_pos ⟨h.1, by rw [h.2], by rw [h.2]; exact hgIn_nI hj hn⟩, hgn_cl (by omega)]
theorem hgx_aastore {d : Nat} (h : hgAr M a ci n) (hc : 24 ≤ ci ∧ ci ≤ 26) (hb : hgO M b d) (he : d = [0, 4, 1].getD (ci - 24) 99) (hj : j < n) (hn : n < 2147483648) : hgEx X rm C J ((.aastore, l, ps, hs) :: rs) L (.ref b :: .int (nI j) :: .ref a :: S) K M = hgEx X rm C J rs L S K (hgSR M a j b) := by
  show (if _ then _ else _) = _
  rw [if_pos ⟨h.1, hb.1, by rw [h.2]; exact hc.1, by rw [h.2]; exact hc.2, by rw [h.2, hb.2]; exact he, by rw [h.2]; exact hgIn_nI hj hn⟩, hgn_cl (by omega)]
theorem hgx_alen_s : hgEx X rm C J ((.arraylength, l, ps, hs) :: rs) L (.ref 2000 :: S) K M = hgEx X rm C J rs L (.int (nI X.1) :: S) K M := id rfl
theorem hgx_alen (h : hgAr M a ci n) (h2 : a ≠ 2000) (hc : 20 ≤ ci ∧ ci ≤ 23) : hgEx X rm C J ((.arraylength, l, ps, hs) :: rs) L (.ref a :: S) K M = hgEx X rm C J rs L (.int (nI n) :: S) K M := by
  show (if a = 2000 then _ else _) = _
  rw [if_neg h2, if_pos ⟨h.1, by rw [h.2]; exact hc.1, by rw [h.2]; exact hc.2⟩, h.2]
theorem hgx_ret1 : hgEx X rm C J ((.ireturn, l, [1], hs) :: rs) L ([.int x]) K M = some (.inl (.int x), M) := id rfl
theorem hgx_ret3 (h : x = nI 0 ∨ x = nI 1) : hgEx X rm C J ((.ireturn, l, [3], hs) :: rs) L ([.int x]) K M = some (.inl (.int x), M) := if_pos h
theorem hgx_lret : hgEx X rm C J ((.lreturn, l, ps, hs) :: rs) L ([.long u]) K M = some (.inl (.long u), M) := id rfl
theorem hgx_vret : hgEx X rm C J ((.return_, l, ps, hs) :: rs) L [] K M = some (.inl .null, M) := id rfl
theorem hgx_throw : hgEx X rm C J ((.new idx, l, [2, n, t, w, k, j], hs) :: rs) L S K M = if S.length ≤ 4 ∧ K.1 + 1 ≤ rm.1 ∧ K.2 + 6 ≤ rm.2 then some (.inr n, M) else none := id rfl
/-- behind a call: go on with its answer, or with what it threw -/
def hgAft (X : hgX) (rm : hgK) (C : Nat → List Value → hgMem → Option hgOut) (J : Nat → hgL → List Value → hgK → hgMem → Option hgOut) (hs : List (Nat × Nat × Nat)) (rs : List hgRow) (L : hgL) (r : List Value) (K : hgK) (q : Option hgOut) : Option hgOut := match q with
  | none => none
  | some (.inl x, M1) => hgEx X rm C J rs L (hgPush x r) K M1
  | some (.inr E, M1) => match hs with
    | [] => some (.inr E, M1)
    | _ => match hgHd E hs with
      | none => none
      | some (t, loc) => J t (hgS1 L loc none) [] K M1
theorem hgx_aft_i : hgAft X rm C J hs rs L S K (some (.inl (.int x), M)) = hgEx X rm C J rs L (.int x :: S) K M := id rfl
theorem hgx_aft_l : hgAft X rm C J hs rs L S K (some (.inl (.long u), M)) = hgEx X rm C J rs L (.long u :: S) K M := id rfl
theorem hgx_aft_v : hgAft X rm C J hs rs L S K (some (.inl .null, M)) = hgEx X rm C J rs L S K M := id rfl
theorem hgx_aft_e : hgAft X rm C J [] rs L S K (some (.inr n, M)) = some (.inr n, M) := id rfl
theorem hgx_aft_h : hgAft X rm C J ((a, t, k) :: hs) rs L S K (some (.inr n, M)) = match hgHd n ((a, t, k) :: hs) with
      | none => none
      | some (t, loc) => J t (hgS1 L loc none) [] K M := id rfl
def hgCd (rm : hgK) (mc ms ci : Nat) (as r : List Value) (K : hgK) (M : hgMem) : Prop := (r.map (fun v => v.category)).sum ≤ 8 ∧ K.1 + mc ≤ rm.1 ∧ K.2 + ms ≤ rm.2 ∧ hgRecv ci M.1 as = true
theorem hgx_invvirtual_1 {v1 : Value} (ht : t < 1000) (hc : hgCd rm a b ci [v1] S K M) : hgEx X rm C J ((.invokevirtual idx, l, [t, 1, w, k, a, b, ci], hs) :: rs) L (v1 :: S) K M = hgAft X rm C J hs rs L S (K.1 + a, K.2 + b) (C t [v1] M) := by
  show hgcall rm C J [t, 1, w, k, a, b, ci] hs L (v1 :: S) K M (fun L S K M => hgEx X rm C J rs L S K M) = _
  unfold hgcall
  dsimp only
  rw [if_neg (by omega : ¬ 1000 ≤ t)]
  dsimp only [hgTake]
  rw [if_pos (show (S.map (fun v => v.category)).sum ≤ 8 ∧ K.1 + a ≤ rm.1 ∧ K.2 + b ≤ rm.2 ∧ hgRecv ci M.1 _ = true from hc)]
  unfold hgAft
  rfl
theorem hgx_invvirtual_2 {v1 v2 : Value} (ht : t < 1000) (hc : hgCd rm a b ci [v1, v2] S K M) : hgEx X rm C J ((.invokevirtual idx, l, [t, 2, w, k, a, b, ci], hs) :: rs) L (v2 :: v1 :: S) K M = hgAft X rm C J hs rs L S (K.1 + a, K.2 + b) (C t [v1, v2] M) := by
  show hgcall rm C J [t, 2, w, k, a, b, ci] hs L (v2 :: v1 :: S) K M (fun L S K M => hgEx X rm C J rs L S K M) = _
  unfold hgcall
  dsimp only
  rw [if_neg (by omega : ¬ 1000 ≤ t)]
  dsimp only [hgTake]
  rw [if_pos (show (S.map (fun v => v.category)).sum ≤ 8 ∧ K.1 + a ≤ rm.1 ∧ K.2 + b ≤ rm.2 ∧ hgRecv ci M.1 _ = true from hc)]
  unfold hgAft
  rfl
theorem hgx_invvirtual_3 {v1 v2 v3 : Value} (ht : t < 1000) (hc : hgCd rm a b ci [v1, v2, v3] S K M) : hgEx X rm C J ((.invokevirtual idx, l, [t, 3, w, k, a, b, ci], hs) :: rs) L (v3 :: v2 :: v1 :: S) K M = hgAft X rm C J hs rs L S (K.1 + a, K.2 + b) (C t [v1, v2, v3] M) := by
  show hgcall rm C J [t, 3, w, k, a, b, ci] hs L (v3 :: v2 :: v1 :: S) K M (fun L S K M => hgEx X rm C J rs L S K M) = _
  unfold hgcall
  dsimp only
  rw [if_neg (by omega : ¬ 1000 ≤ t)]
  dsimp only [hgTake]
  rw [if_pos (show (S.map (fun v => v.category)).sum ≤ 8 ∧ K.1 + a ≤ rm.1 ∧ K.2 + b ≤ rm.2 ∧ hgRecv ci M.1 _ = true from hc)]
  unfold hgAft
  rfl
theorem hgx_invvirtual_4 {v1 v2 v3 v4 : Value} (ht : t < 1000) (hc : hgCd rm a b ci [v1, v2, v3, v4] S K M) : hgEx X rm C J ((.invokevirtual idx, l, [t, 4, w, k, a, b, ci], hs) :: rs) L (v4 :: v3 :: v2 :: v1 :: S) K M = hgAft X rm C J hs rs L S (K.1 + a, K.2 + b) (C t [v1, v2, v3, v4] M) := by
  show hgcall rm C J [t, 4, w, k, a, b, ci] hs L (v4 :: v3 :: v2 :: v1 :: S) K M (fun L S K M => hgEx X rm C J rs L S K M) = _
  unfold hgcall
  dsimp only
  rw [if_neg (by omega : ¬ 1000 ≤ t)]
  dsimp only [hgTake]
  rw [if_pos (show (S.map (fun v => v.category)).sum ≤ 8 ∧ K.1 + a ≤ rm.1 ∧ K.2 + b ≤ rm.2 ∧ hgRecv ci M.1 _ = true from hc)]
  unfold hgAft
  rfl
theorem hgx_invvirtual_5 {v1 v2 v3 v4 v5 : Value} (ht : t < 1000) (hc : hgCd rm a b ci [v1, v2, v3, v4, v5] S K M) : hgEx X rm C J ((.invokevirtual idx, l, [t, 5, w, k, a, b, ci], hs) :: rs) L (v5 :: v4 :: v3 :: v2 :: v1 :: S) K M = hgAft X rm C J hs rs L S (K.1 + a, K.2 + b) (C t [v1, v2, v3, v4, v5] M) := by
  show hgcall rm C J [t, 5, w, k, a, b, ci] hs L (v5 :: v4 :: v3 :: v2 :: v1 :: S) K M (fun L S K M => hgEx X rm C J rs L S K M) = _
  unfold hgcall
  dsimp only
  rw [if_neg (by omega : ¬ 1000 ≤ t)]
  dsimp only [hgTake]
  rw [if_pos (show (S.map (fun v => v.category)).sum ≤ 8 ∧ K.1 + a ≤ rm.1 ∧ K.2 + b ≤ rm.2 ∧ hgRecv ci M.1 _ = true from hc)]
  unfold hgAft
  rfl
theorem hgx_invvirtual_6 {v1 v2 v3 v4 v5 v6 : Value} (ht : t < 1000) (hc : hgCd rm a b ci [v1, v2, v3, v4, v5, v6] S K M) : hgEx X rm C J ((.invokevirtual idx, l, [t, 6, w, k, a, b, ci], hs) :: rs) L (v6 :: v5 :: v4 :: v3 :: v2 :: v1 :: S) K M = hgAft X rm C J hs rs L S (K.1 + a, K.2 + b) (C t [v1, v2, v3, v4, v5, v6] M) := by
  show hgcall rm C J [t, 6, w, k, a, b, ci] hs L (v6 :: v5 :: v4 :: v3 :: v2 :: v1 :: S) K M (fun L S K M => hgEx X rm C J rs L S K M) = _
  unfold hgcall
  dsimp only
  rw [if_neg (by omega : ¬ 1000 ≤ t)]
  dsimp only [hgTake]
  rw [if_pos (show (S.map (fun v => v.category)).sum ≤ 8 ∧ K.1 + a ≤ rm.1 ∧ K.2 + b ≤ rm.2 ∧ hgRecv ci M.1 _ = true from hc)]
  unfold hgAft
  rfl
theorem hgx_invvirtual_7 {v1 v2 v3 v4 v5 v6 v7 : Value} (ht : t < 1000) (hc : hgCd rm a b ci [v1, v2, v3, v4, v5, v6, v7] S K M) : hgEx X rm C J ((.invokevirtual idx, l, [t, 7, w, k, a, b, ci], hs) :: rs) L (v7 :: v6 :: v5 :: v4 :: v3 :: v2 :: v1 :: S) K M = hgAft X rm C J hs rs L S (K.1 + a, K.2 + b) (C t [v1, v2, v3, v4, v5, v6, v7] M) := by
  show hgcall rm C J [t, 7, w, k, a, b, ci] hs L (v7 :: v6 :: v5 :: v4 :: v3 :: v2 :: v1 :: S) K M (fun L S K M => hgEx X rm C J rs L S K M) = _
  unfold hgcall
  dsimp only
  rw [if_neg (by omega : ¬ 1000 ≤ t)]
  dsimp only [hgTake]
  rw [if_pos (show (S.map (fun v => v.category)).sum ≤ 8 ∧ K.1 + a ≤ rm.1 ∧ K.2 + b ≤ rm.2 ∧ hgRecv ci M.1 _ = true from hc)]
  unfold hgAft
  rfl
theorem hgx_invstatic_0 (ht : t < 1000) (hc : hgCd rm a b ci [] S K M) : hgEx X rm C J ((.invokestatic idx, l, [t, 0, w, k, a, b, ci], hs) :: rs) L S K M = hgAft X rm C J hs rs L S (K.1 + a, K.2 + b) (C t [] M) := by
  show hgcall rm C J [t, 0, w, k, a, b, ci] hs L (S) K M (fun L S K M => hgEx X rm C J rs L S K M) = _
  unfold hgcall
  dsimp only
  rw [if_neg (by omega : ¬ 1000 ≤ t)]
  dsimp only [hgTake]
  rw [if_pos (show (S.map (fun v => v.category)).sum ≤ 8 ∧ K.1 + a ≤ rm.1 ∧ K.2 + b ≤ rm.2 ∧ hgRecv ci M.1 _ = true from hc)]
  unfold hgAft
  rfl
theorem hgx_invstatic_1 {v1 : Value} (ht : t < 1000) (hc : hgCd rm a b ci [v1] S K M) : hgEx X rm C J ((.invokestatic idx, l, [t, 1, w, k, a, b, ci], hs) :: rs) L (v1 :: S) K M = hgAft X rm C J hs rs L S (K.1 + a, K.2 + b) (C t [v1] M) := by
  show hgcall rm C J [t, 1, w, k, a, b, ci] hs L (v1 :: S) K M (fun L S K M => hgEx X rm C J rs L S K M) = _
  unfold hgcall
  dsimp only
  rw [if_neg (by omega : ¬ 1000 ≤ t)]
  dsimp only [hgTake]
  rw [if_pos (show (S.map (fun v => v.category)).sum ≤ 8 ∧ K.1 + a ≤ rm.1 ∧ K.2 + b ≤ rm.2 ∧ hgRecv ci M.1 _ = true from hc)]
  unfold hgAft
  rfl
theorem hgx_invstatic_2 {v1 v2 : Value} (ht : t < 1000) (hc : hgCd rm a b ci [v1, v2] S K M) : hgEx X rm C J ((.invokestatic idx, l, [t, 2, w, k, a, b, ci], hs) :: rs) L (v2 :: v1 :: S) K M = hgAft X rm C J hs rs L S (K.1 + a, K.2 + b) (C t [v1, v2] M) := by
  show hgcall rm C J [t, 2, w, k, a, b, ci] hs L (v2 :: v1 :: S) K M (fun L S K M => hgEx X rm C J rs L S K M) = _
  unfold hgcall
  dsimp only
  rw [if_neg (by omega : ¬ 1000 ≤ t)]
  dsimp only [hgTake]
  rw [if_pos (show (S.map (fun v => v.category)).sum ≤ 8 ∧ K.1 + a ≤ rm.1 ∧ K.2 + b ≤ rm.2 ∧ hgRecv ci M.1 _ = true from hc)]
  unfold hgAft
  rfl
theorem hgx_invstatic_3 {v1 v2 v3 : Value} (ht : t < 1000) (hc : hgCd rm a b ci [v1, v2, v3] S K M) : hgEx X rm C J ((.invokestatic idx, l, [t, 3, w, k, a, b, ci], hs) :: rs) L (v3 :: v2 :: v1 :: S) K M = hgAft X rm C J hs rs L S (K.1 + a, K.2 + b) (C t [v1, v2, v3] M) := by
  show hgcall rm C J [t, 3, w, k, a, b, ci] hs L (v3 :: v2 :: v1 :: S) K M (fun L S K M => hgEx X rm C J rs L S K M) = _
  unfold hgcall
  dsimp only
  rw [if_neg (by omega : ¬ 1000 ≤ t)]
  dsimp only [hgTake]
  rw [if_pos (show (S.map (fun v => v.category)).sum ≤ 8 ∧ K.1 + a ≤ rm.1 ∧ K.2 + b ≤ rm.2 ∧ hgRecv ci M.1 _ = true from hc)]
  unfold hgAft
  rfl
theorem hgx_invstatic_4 {v1 v2 v3 v4 : Value} (ht : t < 1000) (hc : hgCd rm a b ci [v1, v2, v3, v4] S K M) : hgEx X rm C J ((.invokestatic idx, l, [t, 4, w, k, a, b, ci], hs) :: rs) L (v4 :: v3 :: v2 :: v1 :: S) K M = hgAft X rm C J hs rs L S (K.1 + a, K.2 + b) (C t [v1, v2, v3, v4] M) := by
  show hgcall rm C J [t, 4, w, k, a, b, ci] hs L (v4 :: v3 :: v2 :: v1 :: S) K M (fun L S K M => hgEx X rm C J rs L S K M) = _
  unfold hgcall
  dsimp only
  rw [if_neg (by omega : ¬ 1000 ≤ t)]
  dsimp only [hgTake]
  rw [if_pos (show (S.map (fun v => v.category)).sum ≤ 8 ∧ K.1 + a ≤ rm.1 ∧ K.2 + b ≤ rm.2 ∧ hgRecv ci M.1 _ = true from hc)]
  unfold hgAft
  rfl
theorem hgx_invstatic_5 {v1 v2 v3 v4 v5 : Value} (ht : t < 1000) (hc : hgCd rm a b ci [v1, v2, v3, v4, v5] S K M) : hgEx X rm C J ((.invokestatic idx, l, [t, 5, w, k, a, b, ci], hs) :: rs) L (v5 :: v4 :: v3 :: v2 :: v1 :: S) K M = hgAft X rm C J hs rs L S (K.1 + a, K.2 + b) (C t [v1, v2, v3, v4, v5] M) := by
  show hgcall rm C J [t, 5, w, k, a, b, ci] hs L (v5 :: v4 :: v3 :: v2 :: v1 :: S) K M (fun L S K M => hgEx X rm C J rs L S K M) = _
  unfold hgcall
  dsimp only
  rw [if_neg (by omega : ¬ 1000 ≤ t)]
  dsimp only [hgTake]
  rw [if_pos (show (S.map (fun v => v.category)).sum ≤ 8 ∧ K.1 + a ≤ rm.1 ∧ K.2 + b ≤ rm.2 ∧ hgRecv ci M.1 _ = true from hc)]
  unfold hgAft
  rfl
theorem hgx_invstatic_6 {v1 v2 v3 v4 v5 v6 : Value} (ht : t < 1000) (hc : hgCd rm a b ci [v1, v2, v3, v4, v5, v6] S K M) : hgEx X rm C J ((.invokestatic idx, l, [t, 6, w, k, a, b, ci], hs) :: rs) L (v6 :: v5 :: v4 :: v3 :: v2 :: v1 :: S) K M = hgAft X rm C J hs rs L S (K.1 + a, K.2 + b) (C t [v1, v2, v3, v4, v5, v6] M) := by
  show hgcall rm C J [t, 6, w, k, a, b, ci] hs L (v6 :: v5 :: v4 :: v3 :: v2 :: v1 :: S) K M (fun L S K M => hgEx X rm C J rs L S K M) = _
  unfold hgcall
  dsimp only
  rw [if_neg (by omega : ¬ 1000 ≤ t)]
  dsimp only [hgTake]
  rw [if_pos (show (S.map (fun v => v.category)).sum ≤ 8 ∧ K.1 + a ≤ rm.1 ∧ K.2 + b ≤ rm.2 ∧ hgRecv ci M.1 _ = true from hc)]
  unfold hgAft
  rfl
theorem hgx_invstatic_7 {v1 v2 v3 v4 v5 v6 v7 : Value} (ht : t < 1000) (hc : hgCd rm a b ci [v1, v2, v3, v4, v5, v6, v7] S K M) : hgEx X rm C J ((.invokestatic idx, l, [t, 7, w, k, a, b, ci], hs) :: rs) L (v7 :: v6 :: v5 :: v4 :: v3 :: v2 :: v1 :: S) K M = hgAft X rm C J hs rs L S (K.1 + a, K.2 + b) (C t [v1, v2, v3, v4, v5, v6, v7] M) := by
  show hgcall rm C J [t, 7, w, k, a, b, ci] hs L (v7 :: v6 :: v5 :: v4 :: v3 :: v2 :: v1 :: S) K M (fun L S K M => hgEx X rm C J rs L S K M) = _
  unfold hgcall
  dsimp only
  rw [if_neg (by omega : ¬ 1000 ≤ t)]
  dsimp only [hgTake]
  rw [if_pos (show (S.map (fun v => v.category)).sum ≤ 8 ∧ K.1 + a ≤ rm.1 ∧ K.2 + b ≤ rm.2 ∧ hgRecv ci M.1 _ = true from hc)]
  unfold hgAft
  rfl
theorem hgx_invspecial_1 {v1 : Value} (ht : t < 1000) (hc : hgCd rm a b ci [v1] S K M) : hgEx X rm C J ((.invokespecial idx, l, [t, 1, w, k, a, b, ci], hs) :: rs) L (v1 :: S) K M = hgAft X rm C J hs rs L S (K.1 + a, K.2 + b) (C t [v1] M) := by
  show hgcall rm C J [t, 1, w, k, a, b, ci] hs L (v1 :: S) K M (fun L S K M => hgEx X rm C J rs L S K M) = _
  unfold hgcall
  dsimp only
  rw [if_neg (by omega : ¬ 1000 ≤ t)]
  dsimp only [hgTake]
  rw [if_pos (show (S.map (fun v => v.category)).sum ≤ 8 ∧ K.1 + a ≤ rm.1 ∧ K.2 + b ≤ rm.2 ∧ hgRecv ci M.1 _ = true from hc)]
  unfold hgAft
  rfl
theorem hgx_invspecial_2 {v1 v2 : Value} (ht : t < 1000) (hc : hgCd rm a b ci [v1, v2] S K M) : hgEx X rm C J ((.invokespecial idx, l, [t, 2, w, k, a, b, ci], hs) :: rs) L (v2 :: v1 :: S) K M = hgAft X rm C J hs rs L S (K.1 + a, K.2 + b) (C t [v1, v2] M) := by
  show hgcall rm C J [t, 2, w, k, a, b, ci] hs L (v2 :: v1 :: S) K M (fun L S K M => hgEx X rm C J rs L S K M) = _
  unfold hgcall
  dsimp only
  rw [if_neg (by omega : ¬ 1000 ≤ t)]
  dsimp only [hgTake]
  rw [if_pos (show (S.map (fun v => v.category)).sum ≤ 8 ∧ K.1 + a ≤ rm.1 ∧ K.2 + b ≤ rm.2 ∧ hgRecv ci M.1 _ = true from hc)]
  unfold hgAft
  rfl
theorem hgx_invspecial_3 {v1 v2 v3 : Value} (ht : t < 1000) (hc : hgCd rm a b ci [v1, v2, v3] S K M) : hgEx X rm C J ((.invokespecial idx, l, [t, 3, w, k, a, b, ci], hs) :: rs) L (v3 :: v2 :: v1 :: S) K M = hgAft X rm C J hs rs L S (K.1 + a, K.2 + b) (C t [v1, v2, v3] M) := by
  show hgcall rm C J [t, 3, w, k, a, b, ci] hs L (v3 :: v2 :: v1 :: S) K M (fun L S K M => hgEx X rm C J rs L S K M) = _
  unfold hgcall
  dsimp only
  rw [if_neg (by omega : ¬ 1000 ≤ t)]
  dsimp only [hgTake]
  rw [if_pos (show (S.map (fun v => v.category)).sum ≤ 8 ∧ K.1 + a ≤ rm.1 ∧ K.2 + b ≤ rm.2 ∧ hgRecv ci M.1 _ = true from hc)]
  unfold hgAft
  rfl
theorem hgx_invspecial_4 {v1 v2 v3 v4 : Value} (ht : t < 1000) (hc : hgCd rm a b ci [v1, v2, v3, v4] S K M) : hgEx X rm C J ((.invokespecial idx, l, [t, 4, w, k, a, b, ci], hs) :: rs) L (v4 :: v3 :: v2 :: v1 :: S) K M = hgAft X rm C J hs rs L S (K.1 + a, K.2 + b) (C t [v1, v2, v3, v4] M) := by
  show hgcall rm C J [t, 4, w, k, a, b, ci] hs L (v4 :: v3 :: v2 :: v1 :: S) K M (fun L S K M => hgEx X rm C J rs L S K M) = _
  unfold hgcall
  dsimp only
  rw [if_neg (by omega : ¬ 1000 ≤ t)]
  dsimp only [hgTake]
  rw [if_pos (show (S.map (fun v => v.category)).sum ≤ 8 ∧ K.1 + a ≤ rm.1 ∧ K.2 + b ≤ rm.2 ∧ hgRecv ci M.1 _ = true from hc)]
  unfold hgAft
  rfl
theorem hgx_invspecial_5 {v1 v2 v3 v4 v5 : Value} (ht : t < 1000) (hc : hgCd rm a b ci [v1, v2, v3, v4, v5] S K M) : hgEx X rm C J ((.invokespecial idx, l, [t, 5, w, k, a, b, ci], hs) :: rs) L (v5 :: v4 :: v3 :: v2 :: v1 :: S) K M = hgAft X rm C J hs rs L S (K.1 + a, K.2 + b) (C t [v1, v2, v3, v4, v5] M) := by
  show hgcall rm C J [t, 5, w, k, a, b, ci] hs L (v5 :: v4 :: v3 :: v2 :: v1 :: S) K M (fun L S K M => hgEx X rm C J rs L S K M) = _
  unfold hgcall
  dsimp only
  rw [if_neg (by omega : ¬ 1000 ≤ t)]
  dsimp only [hgTake]
  rw [if_pos (show (S.map (fun v => v.category)).sum ≤ 8 ∧ K.1 + a ≤ rm.1 ∧ K.2 + b ≤ rm.2 ∧ hgRecv ci M.1 _ = true from hc)]
  unfold hgAft
  rfl
theorem hgx_invspecial_6 {v1 v2 v3 v4 v5 v6 : Value} (ht : t < 1000) (hc : hgCd rm a b ci [v1, v2, v3, v4, v5, v6] S K M) : hgEx X rm C J ((.invokespecial idx, l, [t, 6, w, k, a, b, ci], hs) :: rs) L (v6 :: v5 :: v4 :: v3 :: v2 :: v1 :: S) K M = hgAft X rm C J hs rs L S (K.1 + a, K.2 + b) (C t [v1, v2, v3, v4, v5, v6] M) := by
  show hgcall rm C J [t, 6, w, k, a, b, ci] hs L (v6 :: v5 :: v4 :: v3 :: v2 :: v1 :: S) K M (fun L S K M => hgEx X rm C J rs L S K M) = _
  unfold hgcall
  dsimp only
  rw [if_neg (by omega : ¬ 1000 ≤ t)]
  dsimp only [hgTake]
  rw [if_pos (show (S.map (fun v => v.category)).sum ≤ 8 ∧ K.1 + a ≤ rm.1 ∧ K.2 + b ≤ rm.2 ∧ hgRecv ci M.1 _ = true from hc)]
  unfold hgAft
  rfl
theorem hgx_invspecial_7 {v1 v2 v3 v4 v5 v6 v7 : Value} (ht : t < 1000) (hc : hgCd rm a b ci [v1, v2, v3, v4, v5, v6, v7] S K M) : hgEx X rm C J ((.invokespecial idx, l, [t, 7, w, k, a, b, ci], hs) :: rs) L (v7 :: v6 :: v5 :: v4 :: v3 :: v2 :: v1 :: S) K M = hgAft X rm C J hs rs L S (K.1 + a, K.2 + b) (C t [v1, v2, v3, v4, v5, v6, v7] M) := by
  show hgcall rm C J [t, 7, w, k, a, b, ci] hs L (v7 :: v6 :: v5 :: v4 :: v3 :: v2 :: v1 :: S) K M (fun L S K M => hgEx X rm C J rs L S K M) = _
  unfold hgcall
  dsimp only
  rw [if_neg (by omega : ¬ 1000 ≤ t)]
  dsimp only [hgTake]
  rw [if_pos (show (S.map (fun v => v.category)).sum ≤ 8 ∧ K.1 + a ≤ rm.1 ∧ K.2 + b ≤ rm.2 ∧ hgRecv ci M.1 _ = true from hc)]
  unfold hgAft
  rfl
theorem hgx_max (h : S.length ≤ 4) : hgEx X rm C J ((.invokestatic idx, l, [1000, t, w, k, a, b, ci], hs) :: rs) L (.int y :: .int x :: S) K M = hgEx X rm C J rs L (.int (if x < y then y else x) :: S) K M := if_pos (Nat.succ_le_succ h)
theorem hgx_min (h : S.length ≤ 4) : hgEx X rm C J ((.invokestatic idx, l, [1001, t, w, k, a, b, ci], hs) :: rs) L (.int y :: .int x :: S) K M = hgEx X rm C J rs L (.int (if y < x then y else x) :: S) K M := if_pos (Nat.succ_le_succ h)
theorem hgx_maxl (h : S.length ≤ 4) : hgEx X rm C J ((.invokestatic idx, l, [1002, t, w, k, a, b, ci], hs) :: rs) L (.long v :: .long u :: S) K M = hgEx X rm C J rs L (.long (if v < u then u else v) :: S) K M := if_pos (Nat.succ_le_succ h)
end HGI

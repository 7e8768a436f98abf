/-! THE CHECKS of all rows, by the kernel. -/
def hgOkM (z : Nat) : Bool := (hgBs z).all (fun b => hgOkB z b.1 b.2.2)
theorem hg_chunk {f : Nat → Bool} {a n : Nat} (h : (List.range' a n).all f = true) : ∀ z, a ≤ z → z < a + n → f z = true := fun z h1 h2 => List.all_eq_true.mp h z (List.mem_range'_1.mpr ⟨h1, h2⟩)
set_option maxRecDepth 100000 in
theorem hgm_0 : (List.range' 0 8).all hgMok = true := by decide +kernel
set_option maxRecDepth 100000 in
theorem hgm_8 : (List.range' 8 8).all hgMok = true := by decide +kernel
set_option maxRecDepth 100000 in
theorem hgm_16 : (List.range' 16 8).all hgMok = true := by decide +kernel
set_option maxRecDepth 100000 in
theorem hgm_24 : (List.range' 24 8).all hgMok = true := by decide +kernel
set_option maxRecDepth 100000 in
theorem hgm_32 : (List.range' 32 8).all hgMok = true := by decide +kernel
set_option maxRecDepth 100000 in
theorem hgm_40 : (List.range' 40 8).all hgMok = true := by decide +kernel
set_option maxRecDepth 100000 in
theorem hgm_48 : (List.range' 48 8).all hgMok = true := by decide +kernel
set_option maxRecDepth 100000 in
theorem hgm_56 : (List.range' 56 8).all hgMok = true := by decide +kernel
set_option maxRecDepth 100000 in
theorem hgm_64 : (List.range' 64 8).all hgMok = true := by decide +kernel
set_option maxRecDepth 100000 in
theorem hgm_72 : (List.range' 72 8).all hgMok = true := by decide +kernel
set_option maxRecDepth 100000 in
theorem hgm_80 : (List.range' 80 8).all hgMok = true := by decide +kernel
set_option maxRecDepth 100000 in
theorem hgm_88 : (List.range' 88 8).all hgMok = true := by decide +kernel
set_option maxRecDepth 100000 in
theorem hgm_96 : (List.range' 96 8).all hgMok = true := by decide +kernel
set_option maxRecDepth 100000 in
theorem hgm_104 : (List.range' 104 8).all hgMok = true := by decide +kernel
set_option maxRecDepth 100000 in
theorem hgm_112 : (List.range' 112 8).all hgMok = true := by decide +kernel
set_option maxRecDepth 100000 in
theorem hgm_120 : (List.range' 120 8).all hgMok = true := by decide +kernel
set_option maxRecDepth 100000 in
theorem hgm_128 : (List.range' 128 8).all hgMok = true := by decide +kernel
set_option maxRecDepth 100000 in
theorem hgm_136 : (List.range' 136 8).all hgMok = true := by decide +kernel
set_option maxRecDepth 100000 in
theorem hgm_144 : (List.range' 144 8).all hgMok = true := by decide +kernel
set_option maxRecDepth 100000 in
theorem hgm_152 : (List.range' 152 8).all hgMok = true := by decide +kernel
set_option maxRecDepth 100000 in
theorem hgm_160 : (List.range' 160 8).all hgMok = true := by decide +kernel
set_option maxRecDepth 100000 in
theorem hgm_168 : (List.range' 168 8).all hgMok = true := by decide +kernel
set_option maxRecDepth 100000 in
theorem hgm_176 : (List.range' 176 8).all hgMok = true := by decide +kernel
set_option maxRecDepth 100000 in
theorem hgm_184 : (List.range' 184 8).all hgMok = true := by decide +kernel
set_option maxRecDepth 100000 in
theorem hgm_192 : (List.range' 192 8).all hgMok = true := by decide +kernel
set_option maxRecDepth 100000 in
theorem hgm_200 : (List.range' 200 8).all hgMok = true := by decide +kernel
set_option maxRecDepth 100000 in
theorem hgm_208 : (List.range' 208 8).all hgMok = true := by decide +kernel
set_option maxRecDepth 100000 in
theorem hgm_216 : (List.range' 216 8).all hgMok = true := by decide +kernel
set_option maxRecDepth 100000 in
theorem hgm_224 : (List.range' 224 3).all hgMok = true := by decide +kernel
theorem hgMall : ∀ z, z < 227 → hgMfact z := by
  intro z hz
  refine hgMok_spec ?_
  rcases Nat.lt_or_ge z 8 with h | h
  · exact hg_chunk hgm_0 z (by omega) (by omega)
  rcases Nat.lt_or_ge z 16 with h | h
  · exact hg_chunk hgm_8 z (by omega) (by omega)
  rcases Nat.lt_or_ge z 24 with h | h
  · exact hg_chunk hgm_16 z (by omega) (by omega)
  rcases Nat.lt_or_ge z 32 with h | h
  · exact hg_chunk hgm_24 z (by omega) (by omega)
  rcases Nat.lt_or_ge z 40 with h | h
  · exact hg_chunk hgm_32 z (by omega) (by omega)
  rcases Nat.lt_or_ge z 48 with h | h
  · exact hg_chunk hgm_40 z (by omega) (by omega)
  rcases Nat.lt_or_ge z 56 with h | h
  · exact hg_chunk hgm_48 z (by omega) (by omega)
  rcases Nat.lt_or_ge z 64 with h | h
  · exact hg_chunk hgm_56 z (by omega) (by omega)
  rcases Nat.lt_or_ge z 72 with h | h
  · exact hg_chunk hgm_64 z (by omega) (by omega)
  rcases Nat.lt_or_ge z 80 with h | h
  · exact hg_chunk hgm_72 z (by omega) (by omega)
  rcases Nat.lt_or_ge z 88 with h | h
  · exact hg_chunk hgm_80 z (by omega) (by omega)
  rcases Nat.lt_or_ge z 96 with h | h
  · exact hg_chunk hgm_88 z (by omega) (by omega)
  rcases Nat.lt_or_ge z 104 with h | h
  · exact hg_chunk hgm_96 z (by omega) (by omega)
  rcases Nat.lt_or_ge z 112 with h | h
  · exact hg_chunk hgm_104 z (by omega) (by omega)
  rcases Nat.lt_or_ge z 120 with h | h
  · exact hg_chunk hgm_112 z (by omega) (by omega)
  rcases Nat.lt_or_ge z 128 with h | h
  · exact hg_chunk hgm_120 z (by omega) (by omega)
  rcases Nat.lt_or_ge z 136 with h | h
  · exact hg_chunk hgm_128 z (by omega) (by omega)
  rcases Nat.lt_or_ge z 144 with h | h
  · exact hg_chunk hgm_136 z (by omega) (by omega)
  rcases Nat.lt_or_ge z 152 with h | h
  · exact hg_chunk hgm_144 z (by omega) (by omega)
  rcases Nat.lt_or_ge z 160 with h | h
  · exact hg_chunk hgm_152 z (by omega) (by omega)
  rcases Nat.lt_or_ge z 168 with h | h
  · exact hg_chunk hgm_160 z (by omega) (by omega)
  rcases Nat.lt_or_ge z 176 with h | h
  · exact hg_chunk hgm_168 z (by omega) (by omega)
  rcases Nat.lt_or_ge z 184 with h | h
  · exact hg_chunk hgm_176 z (by omega) (by omega)
  rcases Nat.lt_or_ge z 192 with h | h
  · exact hg_chunk hgm_184 z (by omega) (by omega)
  rcases Nat.lt_or_ge z 200 with h | h
  · exact hg_chunk hgm_192 z (by omega) (by omega)
  rcases Nat.lt_or_ge z 208 with h | h
  · exact hg_chunk hgm_200 z (by omega) (by omega)
  rcases Nat.lt_or_ge z 216 with h | h
  · exact hg_chunk hgm_208 z (by omega) (by omega)
  rcases Nat.lt_or_ge z 224 with h | h
  · exact hg_chunk hgm_216 z (by omega) (by omega)
  exact hg_chunk hgm_224 z (by omega) (by omega)

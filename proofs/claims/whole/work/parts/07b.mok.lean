/-! THE CHECKS of all rows, by the kernel. -/
def hgOkM (z : Nat) : Bool := (hgBs z).all (fun b => hgOkB z b.1 b.2.2)
theorem hg_chunk {f : Nat → Bool} {a n : Nat} (h : (List.range' a n).all f = true) : ∀ z, a ≤ z → z < a + n → f z = true := fun z h1 h2 => List.all_eq_true.mp h z (List.mem_range'_1.mpr ⟨h1, h2⟩)
set_option maxRecDepth 100000 in
theorem hgm_0 : (List.range' 0 8).all hgMok = true := by decide +kernel
set_option maxRecDepth 100000 in
theorem hgm_8 : (List.range' 8 8).all hgMok = true := by decide +kernel
set_option maxRecDepth 100000 in
theorem hgm_16 : (List.range' 16 8).all hgMok = true := by decide +kernel
set_option maxRecDepth 100000 in
theorem hgm_24 : (List.range' 24 8).all hgMok = true := by decide +kernel
set_option maxRecDepth 100000 in
theorem hgm_32 : (List.range' 32 8).all hgMok = true := by decide +kernel
set_option maxRecDepth 100000 in
theorem hgm_40 : (List.range' 40 8).all hgMok = true := by decide +kernel
set_option maxRecDepth 100000 in
theorem hgm_48 : (List.range' 48 8).all hgMok = true := by decide +kernel
set_option maxRecDepth 100000 in
theorem hgm_56 : (List.range' 56 8).all hgMok = true := by decide +kernel
set_option maxRecDepth 100000 in
theorem hgm_64 : (List.range' 64 8).all hgMok = true := by decide +kernel
set_option maxRecDepth 100000 in
theorem hgm_72 : (List.range' 72 8).all hgMok = true := by decide +kernel
set_option maxRecDepth 100000 in
theorem hgm_80 : (List.range' 80 8).all hgMok = true := by decide +kernel
set_option maxRecDepth 100000 in
theorem hgm_88 : (List.range' 88 8).all hgMok = true := by decide +kernel
set_option maxRecDepth 100000 in
theorem hgm_96 : (List.range' 96 8).all hgMok = true := by decide +kernel
set_option maxRecDepth 100000 in
theorem hgm_104 : (List.range' 104 8).all hgMok = true := by decide +kernel
set_option maxRecDepth 100000 in
theorem hgm_112 : (List.range' 112 8).all hgMok = true := by decide +kernel
set_option maxRecDepth 100000 in
theorem hgm_120 : (List.range' 120 8).all hgMok = true := by decide +kernel
set_option maxRecDepth 100000 in
theorem hgm_128 : (List.range' 128 8).all hgMok = true := by decide +kernel
set_option maxRecDepth 100000 in
theorem hgm_136 : (List.range' 136 8).all hgMok = true := by decide +kernel
set_option maxRecDepth 100000 in
theorem hgm_144 : (List.range' 144 8).all hgMok = true := by decide +kernel
set_option maxRecDepth 100000 in
theorem hgm_152 : (List.range' 152 8).all hgMok = true := by decide +kernel
set_option maxRecDepth 100000 in
theorem hgm_160 : (List.range' 160 8).all hgMok = true := by decide +kernel
set_option maxRecDepth 100000 in
theorem hgm_168 : (List.range' 168 8).all hgMok = true := by decide +kernel
set_option maxRecDepth 100000 in
theorem hgm_176 : (List.range' 176 8).all hgMok = true := by decide +kernel
set_option maxRecDepth 100000 in
theorem hgm_184 : (List.range' 184 8).all hgMok = true := by decide +kernel
set_option maxRecDepth 100000 in
theorem hgm_192 : (List.range' 192 8).all hgMok = true := by decide +kernel
set_option maxRecDepth 100000 in
theorem hgm_200 : (List.range' 200 8).all hgMok = true := by decide +kernel
set_option maxRecDepth 100000 in
theorem hgm_208 : (List.range' 208 8).all hgMok = true := by decide +kernel
set_option maxRecDepth 100000 in
theorem hgm_216 : (List.range' 216 8).all hgMok = true := by decide +kernel
set_option maxRecDepth 100000 in
theorem hgm_224 : (List.range' 224 3).all hgMok = true := by decide +kernel

set_option maxRecDepth 100000 in
theorem hgo_0 : (List.range' 0 8).all hgOkM = true := by decide +kernel
set_option maxRecDepth 100000 in
theorem hgo_8 : (List.range' 8 8).all hgOkM = true := by decide +kernel
set_option maxRecDepth 100000 in
theorem hgo_16 : (List.range' 16 8).all hgOkM = true := by decide +kernel
set_option maxRecDepth 100000 in
theorem hgo_24 : (List.range' 24 8).all hgOkM = true := by decide +kernel
set_option maxRecDepth 100000 in
theorem hgo_32 : (List.range' 32 8).all hgOkM = true := by decide +kernel
set_option maxRecDepth 100000 in
theorem hgo_40 : (List.range' 40 8).all hgOkM = true := by decide +kernel
set_option maxRecDepth 100000 in
theorem hgo_48 : (List.range' 48 8).all hgOkM = true := by decide +kernel
set_option maxRecDepth 100000 in
theorem hgo_56 : (List.range' 56 8).all hgOkM = true := by decide +kernel
set_option maxRecDepth 100000 in
theorem hgo_64 : (List.range' 64 8).all hgOkM = true := by decide +kernel
set_option maxRecDepth 100000 in
theorem hgo_72 : (List.range' 72 8).all hgOkM = true := by decide +kernel
set_option maxRecDepth 100000 in
theorem hgo_80 : (List.range' 80 8).all hgOkM = true := by decide +kernel
set_option maxRecDepth 100000 in
theorem hgo_88 : (List.range' 88 8).all hgOkM = true := by decide +kernel
set_option maxRecDepth 100000 in
theorem hgo_96 : (List.range' 96 8).all hgOkM = true := by decide +kernel
set_option maxRecDepth 100000 in
theorem hgo_104 : (List.range' 104 8).all hgOkM = true := by decide +kernel
set_option maxRecDepth 100000 in
theorem hgo_112 : (List.range' 112 8).all hgOkM = true := by decide +kernel
set_option maxRecDepth 100000 in
theorem hgo_120 : (List.range' 120 8).all hgOkM = true := by decide +kernel
set_option maxRecDepth 100000 in
theorem hgo_128 : (List.range' 128 8).all hgOkM = true := by decide +kernel
set_option maxRecDepth 100000 in
theorem hgo_136 : (List.range' 136 8).all hgOkM = true := by decide +kernel
set_option maxRecDepth 100000 in
theorem hgo_144 : (List.range' 144 8).all hgOkM = true := by decide +kernel
set_option maxRecDepth 100000 in
theorem hgo_152 : (List.range' 152 8).all hgOkM = true := by decide +kernel
set_option maxRecDepth 100000 in
theorem hgo_160 : (List.range' 160 8).all hgOkM = true := by decide +kernel
set_option maxRecDepth 100000 in
theorem hgo_168 : (List.range' 168 8).all hgOkM = true := by decide +kernel
set_option maxRecDepth 100000 in
theorem hgo_176 : (List.range' 176 8).all hgOkM = true := by decide +kernel
set_option maxRecDepth 100000 in
theorem hgo_184 : (List.range' 184 8).all hgOkM = true := by decide +kernel
set_option maxRecDepth 100000 in
theorem hgo_192 : (List.range' 192 8).all hgOkM = true := by decide +kernel
set_option maxRecDepth 100000 in
theorem hgo_200 : (List.range' 200 8).all hgOkM = true := by decide +kernel
set_option maxRecDepth 100000 in
theorem hgo_208 : (List.range' 208 8).all hgOkM = true := by decide +kernel
set_option maxRecDepth 100000 in
theorem hgo_216 : (List.range' 216 8).all hgOkM = true := by decide +kernel
set_option maxRecDepth 100000 in
theorem hgo_224 : (List.range' 224 3).all hgOkM = true := by decide +kernel
theorem hgOall : ∀ z, z < 227 → ∀ b ∈ hgBs z, hgOkB z b.1 b.2.2 = true := by
  intro z hz
  refine List.all_eq_true.mp (show hgOkM z = true from ?_)
  rcases Nat.lt_or_ge z 8 with h | h
  · exact hg_chunk hgo_0 z (by omega) (by omega)
  rcases Nat.lt_or_ge z 16 with h | h
  · exact hg_chunk hgo_8 z (by omega) (by omega)
  rcases Nat.lt_or_ge z 24 with h | h
  · exact hg_chunk hgo_16 z (by omega) (by omega)
  rcases Nat.lt_or_ge z 32 with h | h
  · exact hg_chunk hgo_24 z (by omega) (by omega)
  rcases Nat.lt_or_ge z 40 with h | h
  · exact hg_chunk hgo_32 z (by omega) (by omega)
  rcases Nat.lt_or_ge z 48 with h | h
  · exact hg_chunk hgo_40 z (by omega) (by omega)
  rcases Nat.lt_or_ge z 56 with h | h
  · exact hg_chunk hgo_48 z (by omega) (by omega)
  rcases Nat.lt_or_ge z 64 with h | h
  · exact hg_chunk hgo_56 z (by omega) (by omega)
  rcases Nat.lt_or_ge z 72 with h | h
  · exact hg_chunk hgo_64 z (by omega) (by omega)
  rcases Nat.lt_or_ge z 80 with h | h
  · exact hg_chunk hgo_72 z (by omega) (by omega)
  rcases Nat.lt_or_ge z 88 with h | h
  · exact hg_chunk hgo_80 z (by omega) (by omega)
  rcases Nat.lt_or_ge z 96 with h | h
  · exact hg_chunk hgo_88 z (by omega) (by omega)
  rcases Nat.lt_or_ge z 104 with h | h
  · exact hg_chunk hgo_96 z (by omega) (by omega)
  rcases Nat.lt_or_ge z 112 with h | h
  · exact hg_chunk hgo_104 z (by omega) (by omega)
  rcases Nat.lt_or_ge z 120 with h | h
  · exact hg_chunk hgo_112 z (by omega) (by omega)
  rcases Nat.lt_or_ge z 128 with h | h
  · exact hg_chunk hgo_120 z (by omega) (by omega)
  rcases Nat.lt_or_ge z 136 with h | h
  · exact hg_chunk hgo_128 z (by omega) (by omega)
  rcases Nat.lt_or_ge z 144 with h | h
  · exact hg_chunk hgo_136 z (by omega) (by omega)
  rcases Nat.lt_or_ge z 152 with h | h
  · exact hg_chunk hgo_144 z (by omega) (by omega)
  rcases Nat.lt_or_ge z 160 with h | h
  · exact hg_chunk hgo_152 z (by omega) (by omega)
  rcases Nat.lt_or_ge z 168 with h | h
  · exact hg_chunk hgo_160 z (by omega) (by omega)
  rcases Nat.lt_or_ge z 176 with h | h
  · exact hg_chunk hgo_168 z (by omega) (by omega)
  rcases Nat.lt_or_ge z 184 with h | h
  · exact hg_chunk hgo_176 z (by omega) (by omega)
  rcases Nat.lt_or_ge z 192 with h | h
  · exact hg_chunk hgo_184 z (by omega) (by omega)
  rcases Nat.lt_or_ge z 200 with h | h
  · exact hg_chunk hgo_192 z (by omega) (by omega)
  rcases Nat.lt_or_ge z 208 with h | h
  · exact hg_chunk hgo_200 z (by omega) (by omega)
  rcases Nat.lt_or_ge z 216 with h | h
  · exact hg_chunk hgo_208 z (by omega) (by omega)
  rcases Nat.lt_or_ge z 224 with h | h
  · exact hg_chunk hgo_216 z (by omega) (by omega)
  exact hg_chunk hgo_224 z (by omega) (by omega)

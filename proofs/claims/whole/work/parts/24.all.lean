theorem hgMall : ∀ z, z < 227 → hgMfact z := by
  intro z hz
  refine hgMok_spec ?_
  rcases Nat.lt_or_ge z 8 with h | h
  · exact hg_chunk hgm_0 z (by omega) (by omega)
  rcases Nat.lt_or_ge z 16 with h | h
  · exact hg_chunk hgm_8 z (by omega) (by omega)
  rcases Nat.lt_or_ge z 24 with h | h
  · exact hg_chunk hgm_16 z (by omega) (by omega)
  rcases Nat.lt_or_ge z 32 with h | h
  · exact hg_chunk hgm_24 z (by omega) (by omega)
  rcases Nat.lt_or_ge z 40 with h | h
  · exact hg_chunk hgm_32 z (by omega) (by omega)
  rcases Nat.lt_or_ge z 48 with h | h
  · exact hg_chunk hgm_40 z (by omega) (by omega)
  rcases Nat.lt_or_ge z 56 with h | h
  · exact hg_chunk hgm_48 z (by omega) (by omega)
  rcases Nat.lt_or_ge z 64 with h | h
  · exact hg_chunk hgm_56 z (by omega) (by omega)
  rcases Nat.lt_or_ge z 72 with h | h
  · exact hg_chunk hgm_64 z (by omega) (by omega)
  rcases Nat.lt_or_ge z 80 with h | h
  · exact hg_chunk hgm_72 z (by omega) (by omega)
  rcases Nat.lt_or_ge z 88 with h | h
  · exact hg_chunk hgm_80 z (by omega) (by omega)
  rcases Nat.lt_or_ge z 96 with h | h
  · exact hg_chunk hgm_88 z (by omega) (by omega)
  rcases Nat.lt_or_ge z 104 with h | h
  · exact hg_chunk hgm_96 z (by omega) (by omega)
  rcases Nat.lt_or_ge z 112 with h | h
  · exact hg_chunk hgm_104 z (by omega) (by omega)
  rcases Nat.lt_or_ge z 120 with h | h
  · exact hg_chunk hgm_112 z (by omega) (by omega)
  rcases Nat.lt_or_ge z 128 with h | h
  · exact hg_chunk hgm_120 z (by omega) (by omega)
  rcases Nat.lt_or_ge z 136 with h | h
  · exact hg_chunk hgm_128 z (by omega) (by omega)
  rcases Nat.lt_or_ge z 144 with h | h
  · exact hg_chunk hgm_136 z (by omega) (by omega)
  rcases Nat.lt_or_ge z 152 with h | h
  · exact hg_chunk hgm_144 z (by omega) (by omega)
  rcases Nat.lt_or_ge z 160 with h | h
  · exact hg_chunk hgm_152 z (by omega) (by omega)
  rcases Nat.lt_or_ge z 168 with h | h
  · exact hg_chunk hgm_160 z (by omega) (by omega)
  rcases Nat.lt_or_ge z 176 with h | h
  · exact hg_chunk hgm_168 z (by omega) (by omega)
  rcases Nat.lt_or_ge z 184 with h | h
  · exact hg_chunk hgm_176 z (by omega) (by omega)
  rcases Nat.lt_or_ge z 192 with h | h
  · exact hg_chunk hgm_184 z (by omega) (by omega)
  rcases Nat.lt_or_ge z 200 with h | h
  · exact hg_chunk hgm_192 z (by omega) (by omega)
  rcases Nat.lt_or_ge z 208 with h | h
  · exact hg_chunk hgm_200 z (by omega) (by omega)
  rcases Nat.lt_or_ge z 216 with h | h
  · exact hg_chunk hgm_208 z (by omega) (by omega)
  rcases Nat.lt_or_ge z 224 with h | h
  · exact hg_chunk hgm_216 z (by omega) (by omega)
  exact hg_chunk hgm_224 z (by omega) (by omega)
theorem hgOall : ∀ z, z < 227 → ∀ b ∈ hgBs z, hgOkB z b.1 b.2.2 = true := by
  intro z hz
  refine List.all_eq_true.mp (show hgOkM z = true from ?_)
  rcases Nat.lt_or_ge z 8 with h | h
  · exact hg_chunk hgo_0 z (by omega) (by omega)
  rcases Nat.lt_or_ge z 16 with h | h
  · exact hg_chunk hgo_8 z (by omega) (by omega)
  rcases Nat.lt_or_ge z 24 with h | h
  · exact hg_chunk hgo_16 z (by omega) (by omega)
  rcases Nat.lt_or_ge z 32 with h | h
  · exact hg_chunk hgo_24 z (by omega) (by omega)
  rcases Nat.lt_or_ge z 40 with h | h
  · exact hg_chunk hgo_32 z (by omega) (by omega)
  rcases Nat.lt_or_ge z 48 with h | h
  · exact hg_chunk hgo_40 z (by omega) (by omega)
  rcases Nat.lt_or_ge z 56 with h | h
  · exact hg_chunk hgo_48 z (by omega) (by omega)
  rcases Nat.lt_or_ge z 64 with h | h
  · exact hg_chunk hgo_56 z (by omega) (by omega)
  rcases Nat.lt_or_ge z 72 with h | h
  · exact hg_chunk hgo_64 z (by omega) (by omega)
  rcases Nat.lt_or_ge z 80 with h | h
  · exact hg_chunk hgo_72 z (by omega) (by omega)
  rcases Nat.lt_or_ge z 88 with h | h
  · exact hg_chunk hgo_80 z (by omega) (by omega)
  rcases Nat.lt_or_ge z 96 with h | h
  · exact hg_chunk hgo_88 z (by omega) (by omega)
  rcases Nat.lt_or_ge z 104 with h | h
  · exact hg_chunk hgo_96 z (by omega) (by omega)
  rcases Nat.lt_or_ge z 112 with h | h
  · exact hg_chunk hgo_104 z (by omega) (by omega)
  rcases Nat.lt_or_ge z 120 with h | h
  · exact hg_chunk hgo_112 z (by omega) (by omega)
  rcases Nat.lt_or_ge z 128 with h | h
  · exact hg_chunk hgo_120 z (by omega) (by omega)
  rcases Nat.lt_or_ge z 136 with h | h
  · exact hg_chunk hgo_128 z (by omega) (by omega)
  rcases Nat.lt_or_ge z 144 with h | h
  · exact hg_chunk hgo_136 z (by omega) (by omega)
  rcases Nat.lt_or_ge z 152 with h | h
  · exact hg_chunk hgo_144 z (by omega) (by omega)
  rcases Nat.lt_or_ge z 160 with h | h
  · exact hg_chunk hgo_152 z (by omega) (by omega)
  rcases Nat.lt_or_ge z 168 with h | h
  · exact hg_chunk hgo_160 z (by omega) (by omega)
  rcases Nat.lt_or_ge z 176 with h | h
  · exact hg_chunk hgo_168 z (by omega) (by omega)
  rcases Nat.lt_or_ge z 184 with h | h
  · exact hg_chunk hgo_176 z (by omega) (by omega)
  rcases Nat.lt_or_ge z 192 with h | h
  · exact hg_chunk hgo_184 z (by omega) (by omega)
  rcases Nat.lt_or_ge z 200 with h | h
  · exact hg_chunk hgo_192 z (by omega) (by omega)
  rcases Nat.lt_or_ge z 208 with h | h
  · exact hg_chunk hgo_200 z (by omega) (by omega)
  rcases Nat.lt_or_ge z 216 with h | h
  · exact hg_chunk hgo_208 z (by omega) (by omega)
  rcases Nat.lt_or_ge z 224 with h | h
  · exact hg_chunk hgo_216 z (by omega) (by omega)
  exact hg_chunk hgo_224 z (by omega) (by omega)

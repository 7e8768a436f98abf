set_option maxRecDepth 100000 in
theorem hgo_0 : (List.range' 0 8).all hgOkM = true := by decide +kernel
set_option maxRecDepth 100000 in
theorem hgo_8 : (List.range' 8 8).all hgOkM = true := by decide +kernel
set_option maxRecDepth 100000 in
theorem hgo_16 : (List.range' 16 8).all hgOkM = true := by decide +kernel
set_option maxRecDepth 100000 in
theorem hgo_24 : (List.range' 24 8).all hgOkM = true := by decide +kernel
set_option maxRecDepth 100000 in
theorem hgo_32 : (List.range' 32 8).all hgOkM = true := by decide +kernel
set_option maxRecDepth 100000 in
theorem hgo_40 : (List.range' 40 8).all hgOkM = true := by decide +kernel
set_option maxRecDepth 100000 in
theorem hgo_48 : (List.range' 48 8).all hgOkM = true := by decide +kernel
set_option maxRecDepth 100000 in
theorem hgo_56 : (List.range' 56 8).all hgOkM = true := by decide +kernel
set_option maxRecDepth 100000 in
theorem hgo_64 : (List.range' 64 8).all hgOkM = true := by decide +kernel
set_option maxRecDepth 100000 in
theorem hgo_72 : (List.range' 72 8).all hgOkM = true := by decide +kernel
set_option maxRecDepth 100000 in
theorem hgo_80 : (List.range' 80 8).all hgOkM = true := by decide +kernel
set_option maxRecDepth 100000 in
theorem hgo_88 : (List.range' 88 8).all hgOkM = true := by decide +kernel
set_option maxRecDepth 100000 in
theorem hgo_96 : (List.range' 96 8).all hgOkM = true := by decide +kernel
set_option maxRecDepth 100000 in
theorem hgo_104 : (List.range' 104 8).all hgOkM = true := by decide +kernel
set_option maxRecDepth 100000 in
theorem hgo_112 : (List.range' 112 8).all hgOkM = true := by decide +kernel
set_option maxRecDepth 100000 in
theorem hgo_120 : (List.range' 120 8).all hgOkM = true := by decide +kernel
set_option maxRecDepth 100000 in
theorem hgo_128 : (List.range' 128 8).all hgOkM = true := by decide +kernel
set_option maxRecDepth 100000 in
theorem hgo_136 : (List.range' 136 8).all hgOkM = true := by decide +kernel
set_option maxRecDepth 100000 in
theorem hgo_144 : (List.range' 144 8).all hgOkM = true := by decide +kernel
set_option maxRecDepth 100000 in
theorem hgo_152 : (List.range' 152 8).all hgOkM = true := by decide +kernel
set_option maxRecDepth 100000 in
theorem hgo_160 : (List.range' 160 8).all hgOkM = true := by decide +kernel
set_option maxRecDepth 100000 in
theorem hgo_168 : (List.range' 168 8).all hgOkM = true := by decide +kernel
set_option maxRecDepth 100000 in
theorem hgo_176 : (List.range' 176 8).all hgOkM = true := by decide +kernel
set_option maxRecDepth 100000 in
theorem hgo_184 : (List.range' 184 8).all hgOkM = true := by decide +kernel
set_option maxRecDepth 100000 in
theorem hgo_192 : (List.range' 192 8).all hgOkM = true := by decide +kernel
set_option maxRecDepth 100000 in
theorem hgo_200 : (List.range' 200 8).all hgOkM = true := by decide +kernel
set_option maxRecDepth 100000 in
theorem hgo_208 : (List.range' 208 8).all hgOkM = true := by decide +kernel
set_option maxRecDepth 100000 in
theorem hgo_216 : (List.range' 216 8).all hgOkM = true := by decide +kernel
set_option maxRecDepth 100000 in
theorem hgo_224 : (List.range' 224 3).all hgOkM = true := by decide +kernel

set_option maxRecDepth 100000 in
theorem hgo_law : hgOkM 227 = true := by decide +kernel

set_option maxRecDepth 100000 in
theorem hgol_8_0 : (((((hgBs 227).drop (9 * 8)).take 9).drop (3 * 0)).take 3).all (fun b => hgOkB 227 b.1 b.2.2) = true := by decide +kernel
set_option maxRecDepth 100000 in
theorem hgol_8_1 : (((((hgBs 227).drop (9 * 8)).take 9).drop (3 * 1)).take 3).all (fun b => hgOkB 227 b.1 b.2.2) = true := by decide +kernel
set_option maxRecDepth 100000 in
theorem hgol_8_2 : (((((hgBs 227).drop (9 * 8)).take 9).drop (3 * 2)).take 3).all (fun b => hgOkB 227 b.1 b.2.2) = true := by decide +kernel

set_option maxRecDepth 100000 in
theorem hgol_5 : (((hgBs 227).drop (9 * 5)).take 9).all (fun b => hgOkB 227 b.1 b.2.2) = true := by decide +kernel
set_option maxRecDepth 100000 in
theorem hgol_6 : (((hgBs 227).drop (9 * 6)).take 9).all (fun b => hgOkB 227 b.1 b.2.2) = true := by decide +kernel
set_option maxRecDepth 100000 in
theorem hgol_7 : (((hgBs 227).drop (9 * 7)).take 9).all (fun b => hgOkB 227 b.1 b.2.2) = true := by decide +kernel

set_option maxRecDepth 100000 in
theorem hgol_9_0 : (((((hgBs 227).drop (9 * 9)).take 9).drop (3 * 0)).take 3).all (fun b => hgOkB 227 b.1 b.2.2) = true := by decide +kernel
set_option maxRecDepth 100000 in
theorem hgol_9_1 : (((((hgBs 227).drop (9 * 9)).take 9).drop (3 * 1)).take 3).all (fun b => hgOkB 227 b.1 b.2.2) = true := by decide +kernel
set_option maxRecDepth 100000 in
theorem hgol_9_2 : (((((hgBs 227).drop (9 * 9)).take 9).drop (3 * 2)).take 3).all (fun b => hgOkB 227 b.1 b.2.2) = true := by decide +kernel
set_option maxRecDepth 100000 in
theorem hgol_8 : (((hgBs 227).drop (9 * 8)).take 9).all (fun b => hgOkB 227 b.1 b.2.2) = true := by
  refine hg_chunks 3 3 (by omega) (by decide +kernel) (fun k hk => ?_)
  match k, hk with
  | 0, _ => exact hgol_8_0
  | 1, _ => exact hgol_8_1
  | 2, _ => exact hgol_8_2
  | k + 3, hk => omega
set_option maxRecDepth 100000 in
theorem hgol_9 : (((hgBs 227).drop (9 * 9)).take 9).all (fun b => hgOkB 227 b.1 b.2.2) = true := by
  refine hg_chunks 3 3 (by omega) (by decide +kernel) (fun k hk => ?_)
  match k, hk with
  | 0, _ => exact hgol_9_0
  | 1, _ => exact hgol_9_1
  | 2, _ => exact hgol_9_2
  | k + 3, hk => omega
set_option maxRecDepth 100000 in
theorem hgo_law : hgOkM 227 = true := by
  refine hg_chunks 9 10 (by omega) (by decide +kernel) (fun k hk => ?_)
  match k, hk with
  | 0, _ => exact hgol_0
  | 1, _ => exact hgol_1
  | 2, _ => exact hgol_2
  | 3, _ => exact hgol_3
  | 4, _ => exact hgol_4
  | 5, _ => exact hgol_5
  | 6, _ => exact hgol_6
  | 7, _ => exact hgol_7
  | 8, _ => exact hgol_8
  | 9, _ => exact hgol_9
  | k + 10, hk => omega

theorem hg_chunks {l : List (Nat × List Bool × List hgRow)} {f : Nat × List Bool × List hgRow → Bool} (n : Nat) (hn : l.length ≤ 9 * n) (h : ∀ k, k < n → ((l.drop (9 * k)).take 9).all f = true) : l.all f = true := by
  rw [List.all_eq_true]
  intro x hx
  obtain ⟨i, hi, rfl⟩ := List.getElem_of_mem hx
  refine List.all_eq_true.mp (h (i / 9) (by omega)) _ (List.mem_of_getElem? (i := i % 9) ?_)
  rw [List.getElem?_take, if_pos (by omega), List.getElem?_drop, show 9 * (i / 9) + i % 9 = i by omega]
  exact List.getElem?_eq_getElem hi
set_option maxRecDepth 100000 in
theorem hgol_0 : (((hgBs 227).drop (9 * 0)).take 9).all (fun b => hgOkB 227 b.1 b.2.2) = true := by decide +kernel
set_option maxRecDepth 100000 in
theorem hgol_1 : (((hgBs 227).drop (9 * 1)).take 9).all (fun b => hgOkB 227 b.1 b.2.2) = true := by decide +kernel
set_option maxRecDepth 100000 in
theorem hgol_2 : (((hgBs 227).drop (9 * 2)).take 9).all (fun b => hgOkB 227 b.1 b.2.2) = true := by decide +kernel
set_option maxRecDepth 100000 in
theorem hgol_3 : (((hgBs 227).drop (9 * 3)).take 9).all (fun b => hgOkB 227 b.1 b.2.2) = true := by decide +kernel
set_option maxRecDepth 100000 in
theorem hgol_4 : (((hgBs 227).drop (9 * 4)).take 9).all (fun b => hgOkB 227 b.1 b.2.2) = true := by decide +kernel
set_option maxRecDepth 100000 in
theorem hgol_5 : (((hgBs 227).drop (9 * 5)).take 9).all (fun b => hgOkB 227 b.1 b.2.2) = true := by decide +kernel
set_option maxRecDepth 100000 in
theorem hgol_6 : (((hgBs 227).drop (9 * 6)).take 9).all (fun b => hgOkB 227 b.1 b.2.2) = true := by decide +kernel
set_option maxRecDepth 100000 in
theorem hgol_7 : (((hgBs 227).drop (9 * 7)).take 9).all (fun b => hgOkB 227 b.1 b.2.2) = true := by decide +kernel
set_option maxRecDepth 100000 in
theorem hgol_8 : (((hgBs 227).drop (9 * 8)).take 9).all (fun b => hgOkB 227 b.1 b.2.2) = true := by decide +kernel
set_option maxRecDepth 100000 in
theorem hgol_9 : (((hgBs 227).drop (9 * 9)).take 9).all (fun b => hgOkB 227 b.1 b.2.2) = true := by decide +kernel
set_option maxRecDepth 100000 in
theorem hgo_law : hgOkM 227 = true := by
  refine hg_chunks 10 (by decide +kernel) (fun k hk => ?_)
  match k, hk with
  | 0, _ => exact hgol_0
  | 1, _ => exact hgol_1
  | 2, _ => exact hgol_2
  | 3, _ => exact hgol_3
  | 4, _ => exact hgol_4
  | 5, _ => exact hgol_5
  | 6, _ => exact hgol_6
  | 7, _ => exact hgol_7
  | 8, _ => exact hgol_8
  | 9, _ => exact hgol_9
  | k + 10, hk => omega

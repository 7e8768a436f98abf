theorem hg_chunks {l : List (Nat × List Bool × List hgRow)} {f : Nat × List Bool × List hgRow → Bool} (c n : Nat) (hc : 0 < c) (hn : l.length ≤ c * n) (h : ∀ k, k < n → ((l.drop (c * k)).take c).all f = true) : l.all f = true := by
  rw [List.all_eq_true]
  intro x hx
  obtain ⟨i, hi, rfl⟩ := List.getElem_of_mem hx
  have h1 : i / c < n := Nat.div_lt_of_lt_mul (by omega)
  refine List.all_eq_true.mp (h (i / c) h1) _ (List.mem_of_getElem? (i := i % c) ?_)
  rw [List.getElem?_take, if_pos (Nat.mod_lt _ hc), List.getElem?_drop, Nat.div_add_mod]
  exact List.getElem?_eq_getElem hi
set_option maxRecDepth 100000 in
theorem hgol_0 : (((hgBs 227).drop (9 * 0)).take 9).all (fun b => hgOkB 227 b.1 b.2.2) = true := by decide +kernel
set_option maxRecDepth 100000 in
theorem hgol_1 : (((hgBs 227).drop (9 * 1)).take 9).all (fun b => hgOkB 227 b.1 b.2.2) = true := by decide +kernel
set_option maxRecDepth 100000 in
theorem hgol_2 : (((hgBs 227).drop (9 * 2)).take 9).all (fun b => hgOkB 227 b.1 b.2.2) = true := by decide +kernel
set_option maxRecDepth 100000 in
theorem hgol_3 : (((hgBs 227).drop (9 * 3)).take 9).all (fun b => hgOkB 227 b.1 b.2.2) = true := by decide +kernel
set_option maxRecDepth 100000 in
theorem hgol_4 : (((hgBs 227).drop (9 * 4)).take 9).all (fun b => hgOkB 227 b.1 b.2.2) = true := by decide +kernel

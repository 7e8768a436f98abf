/-! THE LAW from its entry, out of what the abstract machine says of it. -/
def hgM0 : hgMem := (0, fun _ _ => 0, fun _ _ => 0, fun _ _ => none)
/-- what is left: the abstract machine answers 1 -/
def hgPure : Prop := ∀ (L : Nat) (xs : Nat → Int32), L ≤ 3072 → ∃ (n : Nat) (M1 : hgMem), hgRun (L, xs) n 227 0 [some (.ref 2000), none, none, none, none, none, none, none] [] (0, 0) hgM0 = some (.inl (.int 1), M1)
set_option maxHeartbeats 4000000 in
set_option maxRecDepth 100000 in
theorem hg_start (hpure : hgPure) {p : Program} {e : Env} {s : State} {m : MethodId} {below : List Frame} {meth : Method} {c : Code} (l : Launch) (hflags : l.flags = flags0) {b L : Nat} {xs : Nat → Int32} (hL : L ≤ 3072) (C0 : lw_At p s m meth c b L xs) : W p l e room_1 s m #[Value.ref b] below meth c s.heap [] 0 0 (lw_Z below #[Value.ref b] s) (entryFrame m ([Value.ref b] : List Value).toArray 8) := by
  obtain ⟨hx, hb, hr, hml, hown, hts, hX, hbl, hlocks, hgv⟩ := C0
  have htr : l.stackTraces = false := by
    unfold Launch.stackTraces
    rw [hflags]
    decide
  obtain ⟨ad, had, hst⟩ := hg_stat0 hts hX hbl hgv
  obtain ⟨D, cy, hK⟩ := hg_tab0 hts hst.2.2.2.1.2
  obtain ⟨n, M1, hrun⟩ := hpure L xs hL
  have hC : hgCx p l room_1 s m #[Value.ref b] meth c 227 s.heap.size D cy (L, xs) ad := ⟨hx, hb, hml, hown, fun w hw => hts w (List.mem_filter.mp hw).1, Nat.le_refl _, hK, hst, ⟨by decide, by decide, rfl, rfl⟩, ⟨htr, fun h => absurd rfl h, hlocks⟩, fun h => absurd h (by decide)⟩
  have hl := lv_entry ([.ref b]) (n := 8) (Nat.le_of_ble_eq_true rfl)
  rw [lg_entry_eq]
  generalize (lg_sl ([.ref b]) ++ List.replicate (8 - (lg_sl ([.ref b])).length) Slot.unset).toArray = ls at hl ⊢
  have hl : lv_has ls 8 [(0, .ref b)] := hl
  have hd0 := Drawn.sameBut.refl s.drawn lw_cs
  refine hg_labels (N0 := 0) (Q := lw_Z below #[Value.ref b] s) hg_lenOk hg_chrOk hgMall (fun b9 h9 => List.all_eq_true.mp hgo_law b9 h9) hC ?_ ?_ ?_ n (fun k _ => hg_sound hg_lenOk hg_chrOk hgMall hgOall htr k) 0 _ [] (0, 0) hgM0 hrun ad s.heap [] ls ?_ (Nat.zero_le _) (Nat.zero_le _)
  · intro v L9 S K M ad9 H locs ls9 pc i ho hd hok hn kc ks
    cases ho
    rcases hok with ⟨hi, x, hv, ht⟩ | ⟨hi, x, hv, ht⟩ | ⟨hi, hv, ht⟩
    · subst hi
      refine va_forget (fun z hz => hn.2.2.1.2.2 z hz) ?_
      refine W.widen (k := 601024) (n := 7293034) kc ks ?_
      exact W.base (lw_ret hd0 hx hb hr hlocks hd)
    · cases hv
    · cases hv
  · intro E L9 S K M ad9 H locs ls9 pc idx w1 w2 w3 w4 hs ho
    cases ho
  · intro E L9 S K M ad9 H locs ls9 pc rest ce q9 ho
    cases ho
  · refine ⟨(fun k x h => by simp [hgWs, hgM0] at h), ⟨(fun i j x y h => by simp [hgWs, hgM0] at h), (fun k x h => by simp [hgWs, hgM0] at h)⟩, va_S.rf, hgLH_mono hl (fun i v hv => ?_), (fun i v hv => ?_), hgSk_n, (fun a k r h => by cases h), Nat.le_refl _, hgExt.rf⟩
    · match i, hv with
      | 0, hv =>
        cases hv
        rw [← had]
        exact List.mem_cons_self
      | 1, hv => cases hv
      | 2, hv => cases hv
      | 3, hv => cases hv
      | 4, hv => cases hv
      | 5, hv => cases hv
      | 6, hv => cases hv
      | 7, hv => cases hv
      | i + 8, hv => cases hv
    · match i, hv with
      | 0, hv => cases hv; exact hgVk_t (by omega)
      | 1, hv => cases hv
      | 2, hv => cases hv
      | 3, hv => cases hv
      | 4, hv => cases hv
      | 5, hv => cases hv
      | 6, hv => cases hv
      | 7, hv => cases hv
      | i + 8, hv => cases hv

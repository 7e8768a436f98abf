/-! ENTRIES, LABELS AND JUMPS of every method, over the machine without fuel. -/
section HGLB
variable {X : hgX} {L : hgL} {S : List Value} {K : hgK} {M : hgMem} {b : List Bool} {q : Option Value}
theorem hgM_t : hgMask (true :: b) (q :: L) = q :: hgMask b L := id rfl
theorem hgM_f : hgMask (false :: b) (q :: L) = none :: hgMask b L := id rfl
theorem hgM_n : hgMask [] L = L := id rfl
/- X0_init -/
theorem hgc0 (a0 : Nat) : hgWC X 0 [.ref a0] M = hgW X 0 0 [some (.ref a0)] [] (0, 0) M := if_pos (Nat.le_of_ble_eq_true rfl)
theorem hgu0_0 : hgW X 0 0 L S K M = hgEx X (0, 0) (hgWC X) (hgWJ X 0) hgr0_0 L S K M := hgW_eq X 0 0 L S K M
theorem hgv0_0 : hgWJ X 0 0 L S K M = hgW X 0 0 (hgMask [true] L) S K M := id rfl
/- X0_setUp -/
theorem hgc1 (a0 : Nat) (x1 x2 x3 x4 : Int32) : hgWC X 1 [.ref a0, .int x1, .int x2, .int x3, .int x4] M = hgW X 1 0 [some (.ref a0), some (.int x1), some (.int x2), some (.int x3), some (.int x4)] [] (0, 0) M := if_pos (Nat.le_of_ble_eq_true rfl)
theorem hgu1_0 : hgW X 1 0 L S K M = hgEx X (0, 0) (hgWC X) (hgWJ X 1) hgr1_0 L S K M := hgW_eq X 1 0 L S K M
theorem hgv1_0 : hgWJ X 1 0 L S K M = hgW X 1 0 (hgMask [true, true, true, true, true] L) S K M := id rfl
/- X0_copyFrom -/
theorem hgc2 (a0 a1 : Nat) : hgWC X 2 [.ref a0, .ref a1] M = hgW X 2 0 [some (.ref a0), some (.ref a1)] [] (0, 0) M := if_pos (Nat.le_of_ble_eq_true rfl)
theorem hgu2_0 : hgW X 2 0 L S K M = hgEx X (0, 0) (hgWC X) (hgWJ X 2) hgr2_0 L S K M := hgW_eq X 2 0 L S K M
theorem hgv2_0 : hgWJ X 2 0 L S K M = hgW X 2 0 (hgMask [true, true] L) S K M := id rfl
/- X0_startWaking -/
theorem hgc3 (a0 : Nat) : hgWC X 3 [.ref a0] M = hgW X 3 0 [some (.ref a0)] [] (0, 0) M := if_pos (Nat.le_of_ble_eq_true rfl)
theorem hgu3_0 : hgW X 3 0 L S K M = hgEx X (0, 0) (hgWC X) (hgWJ X 3) hgr3_0 L S K M := hgW_eq X 3 0 L S K M
theorem hgv3_0 : hgWJ X 3 0 L S K M = hgW X 3 0 (hgMask [true] L) S K M := id rfl
/- X0_beginTick -/
theorem hgc4 (a0 : Nat) : hgWC X 4 [.ref a0] M = hgW X 4 0 [some (.ref a0)] [] (0, 0) M := if_pos (Nat.le_of_ble_eq_true rfl)
theorem hgu4_0 : hgW X 4 0 L S K M = hgEx X (0, 0) (hgWC X) (hgWJ X 4) hgr4_0 L S K M := hgW_eq X 4 0 L S K M
theorem hgv4_0 : hgWJ X 4 0 L S K M = hgW X 4 0 (hgMask [true] L) S K M := id rfl
theorem hgu4_14 : hgW X 4 14 L S K M = hgEx X (0, 0) (hgWC X) (hgWJ X 4) hgr4_14 L S K M := hgW_eq X 4 14 L S K M
theorem hgv4_14 : hgWJ X 4 14 L S K M = hgW X 4 14 (hgMask [true] L) S K M := id rfl
theorem hgu4_34 : hgW X 4 34 L S K M = hgEx X (0, 0) (hgWC X) (hgWJ X 4) hgr4_34 L S K M := hgW_eq X 4 34 L S K M
theorem hgv4_34 : hgWJ X 4 34 L S K M = hgW X 4 34 (hgMask [true] L) S K M := id rfl
theorem hgu4_44 : hgW X 4 44 L S K M = hgEx X (0, 0) (hgWC X) (hgWJ X 4) hgr4_44 L S K M := hgW_eq X 4 44 L S K M
theorem hgv4_44 : hgWJ X 4 44 L S K M = hgW X 4 44 (hgMask [false] L) S K M := id rfl
/- X0_endTick -/
theorem hgc5 (a0 : Nat) : hgWC X 5 [.ref a0] M = hgW X 5 0 [some (.ref a0)] [] (0, 0) M := if_pos (Nat.le_of_ble_eq_true rfl)
theorem hgu5_0 : hgW X 5 0 L S K M = hgEx X (0, 0) (hgWC X) (hgWJ X 5) hgr5_0 L S K M := hgW_eq X 5 0 L S K M
theorem hgv5_0 : hgWJ X 5 0 L S K M = hgW X 5 0 (hgMask [true] L) S K M := id rfl
theorem hgu5_8 : hgW X 5 8 L S K M = hgEx X (0, 0) (hgWC X) (hgWJ X 5) hgr5_8 L S K M := hgW_eq X 5 8 L S K M
theorem hgv5_8 : hgWJ X 5 8 L S K M = hgW X 5 8 (hgMask [true] L) S K M := id rfl
theorem hgu5_22 : hgW X 5 22 L S K M = hgEx X (0, 0) (hgWC X) (hgWJ X 5) hgr5_22 L S K M := hgW_eq X 5 22 L S K M
theorem hgv5_22 : hgWJ X 5 22 L S K M = hgW X 5 22 (hgMask [true] L) S K M := id rfl
theorem hgu5_28 : hgW X 5 28 L S K M = hgEx X (0, 0) (hgWC X) (hgWJ X 5) hgr5_28 L S K M := hgW_eq X 5 28 L S K M
theorem hgv5_28 : hgWJ X 5 28 L S K M = hgW X 5 28 (hgMask [true] L) S K M := id rfl
theorem hgu5_54 : hgW X 5 54 L S K M = hgEx X (0, 0) (hgWC X) (hgWJ X 5) hgr5_54 L S K M := hgW_eq X 5 54 L S K M
theorem hgv5_54 : hgWJ X 5 54 L S K M = hgW X 5 54 (hgMask [false] L) S K M := id rfl
/- X0_enqueue -/
theorem hgc6 (a0 a1 : Nat) (x2 : Int32) : hgWC X 6 [.ref a0, .ref a1, .int x2] M = hgW X 6 0 [some (.ref a0), some (.ref a1), some (.int x2)] [] (0, 0) M := if_pos (Nat.le_of_ble_eq_true rfl)
theorem hgu6_0 : hgW X 6 0 L S K M = hgEx X (0, 0) (hgWC X) (hgWJ X 6) hgr6_0 L S K M := hgW_eq X 6 0 L S K M
theorem hgv6_0 : hgWJ X 6 0 L S K M = hgW X 6 0 (hgMask [true, true, true] L) S K M := id rfl
theorem hgu6_15 : hgW X 6 15 L S K M = hgEx X (0, 0) (hgWC X) (hgWJ X 6) hgr6_15 L S K M := hgW_eq X 6 15 L S K M
theorem hgv6_15 : hgWJ X 6 15 L S K M = hgW X 6 15 (hgMask [true, true, true] L) S K M := id rfl
theorem hgu6_24 : hgW X 6 24 L S K M = hgEx X (0, 0) (hgWC X) (hgWJ X 6) hgr6_24 L S K M := hgW_eq X 6 24 L S K M
theorem hgv6_24 : hgWJ X 6 24 L S K M = hgW X 6 24 (hgMask [true, true, true] L) S K M := id rfl
/- X0_serveFirst -/
theorem hgc7 (a0 a1 : Nat) (x2 : Int32) : hgWC X 7 [.ref a0, .ref a1, .int x2] M = hgW X 7 0 [some (.ref a0), some (.ref a1), some (.int x2), none] [] (0, 0) M := if_pos (Nat.le_of_ble_eq_true rfl)
theorem hgu7_0 : hgW X 7 0 L S K M = hgEx X (0, 0) (hgWC X) (hgWJ X 7) hgr7_0 L S K M := hgW_eq X 7 0 L S K M
theorem hgv7_0 : hgWJ X 7 0 L S K M = hgW X 7 0 (hgMask [true, true, true, false] L) S K M := id rfl
theorem hgu7_99 : hgW X 7 99 L S K M = hgEx X (0, 0) (hgWC X) (hgWJ X 7) hgr7_99 L S K M := hgW_eq X 7 99 L S K M
theorem hgv7_99 : hgWJ X 7 99 L S K M = hgW X 7 99 (hgMask [true, false, false, false] L) S K M := id rfl
/- X1_init -/
theorem hgc8 (a0 a1 : Nat) : hgWC X 8 [.ref a0, .ref a1] M = hgW X 8 0 [some (.ref a0), some (.ref a1), none] [] (0, 0) M := if_pos (Nat.le_of_ble_eq_true rfl)
theorem hgu8_0 : hgW X 8 0 L S K M = hgEx X (28, 248) (hgWC X) (hgWJ X 8) hgr8_0 L S K M := hgW_eq X 8 0 L S K M
theorem hgv8_0 : hgWJ X 8 0 L S K M = hgW X 8 0 (hgMask [true, true, false] L) S K M := id rfl
theorem hgu8_20 : hgW X 8 20 L S K M = hgEx X (28, 248) (hgWC X) (hgWJ X 8) hgr8_20 L S K M := hgW_eq X 8 20 L S K M
theorem hgv8_20 : hgWJ X 8 20 L S K M = hgW X 8 20 (hgMask [true, false, true] L) S K M := id rfl
theorem hgu8_45 : hgW X 8 45 L S K M = hgEx X (28, 248) (hgWC X) (hgWJ X 8) hgr8_45 L S K M := hgW_eq X 8 45 L S K M
theorem hgv8_45 : hgWJ X 8 45 L S K M = hgW X 8 45 (hgMask [true, false, false] L) S K M := id rfl
/- X1_copyFrom -/
theorem hgc9 (a0 a1 : Nat) : hgWC X 9 [.ref a0, .ref a1] M = hgW X 9 0 [some (.ref a0), some (.ref a1), none] [] (0, 0) M := if_pos (Nat.le_of_ble_eq_true rfl)
theorem hgu9_0 : hgW X 9 0 L S K M = hgEx X (0, 0) (hgWC X) (hgWJ X 9) hgr9_0 L S K M := hgW_eq X 9 0 L S K M
theorem hgv9_0 : hgWJ X 9 0 L S K M = hgW X 9 0 (hgMask [true, true, false] L) S K M := id rfl
theorem hgu9_42 : hgW X 9 42 L S K M = hgEx X (0, 0) (hgWC X) (hgWJ X 9) hgr9_42 L S K M := hgW_eq X 9 42 L S K M
theorem hgv9_42 : hgWJ X 9 42 L S K M = hgW X 9 42 (hgMask [true, true, true] L) S K M := id rfl
theorem hgu9_71 : hgW X 9 71 L S K M = hgEx X (0, 0) (hgWC X) (hgWJ X 9) hgr9_71 L S K M := hgW_eq X 9 71 L S K M
theorem hgv9_71 : hgWJ X 9 71 L S K M = hgW X 9 71 (hgMask [true, true, false] L) S K M := id rfl
theorem hgu9_92 : hgW X 9 92 L S K M = hgEx X (0, 0) (hgWC X) (hgWJ X 9) hgr9_92 L S K M := hgW_eq X 9 92 L S K M
theorem hgv9_92 : hgWJ X 9 92 L S K M = hgW X 9 92 (hgMask [true, true, true] L) S K M := id rfl
theorem hgu9_118 : hgW X 9 118 L S K M = hgEx X (0, 0) (hgWC X) (hgWJ X 9) hgr9_118 L S K M := hgW_eq X 9 118 L S K M
theorem hgv9_118 : hgWJ X 9 118 L S K M = hgW X 9 118 (hgMask [true, true, false] L) S K M := id rfl
theorem hgu9_120 : hgW X 9 120 L S K M = hgEx X (0, 0) (hgWC X) (hgWJ X 9) hgr9_120 L S K M := hgW_eq X 9 120 L S K M
theorem hgv9_120 : hgWJ X 9 120 L S K M = hgW X 9 120 (hgMask [true, true, true] L) S K M := id rfl
theorem hgu9_155 : hgW X 9 155 L S K M = hgEx X (0, 0) (hgWC X) (hgWJ X 9) hgr9_155 L S K M := hgW_eq X 9 155 L S K M
theorem hgv9_155 : hgWJ X 9 155 L S K M = hgW X 9 155 (hgMask [true, true, false] L) S K M := id rfl
/- X1_startAnew -/
theorem hgc10 (a0 : Nat) : hgWC X 10 [.ref a0] M = hgW X 10 0 [some (.ref a0), none] [] (0, 0) M := if_pos (Nat.le_of_ble_eq_true rfl)
theorem hgu10_0 : hgW X 10 0 L S K M = hgEx X (0, 0) (hgWC X) (hgWJ X 10) hgr10_0 L S K M := hgW_eq X 10 0 L S K M
theorem hgv10_0 : hgWJ X 10 0 L S K M = hgW X 10 0 (hgMask [true, false] L) S K M := id rfl
theorem hgu10_42 : hgW X 10 42 L S K M = hgEx X (0, 0) (hgWC X) (hgWJ X 10) hgr10_42 L S K M := hgW_eq X 10 42 L S K M
theorem hgv10_42 : hgWJ X 10 42 L S K M = hgW X 10 42 (hgMask [true, true] L) S K M := id rfl
theorem hgu10_60 : hgW X 10 60 L S K M = hgEx X (0, 0) (hgWC X) (hgWJ X 10) hgr10_60 L S K M := hgW_eq X 10 60 L S K M
theorem hgv10_60 : hgWJ X 10 60 L S K M = hgW X 10 60 (hgMask [true, false] L) S K M := id rfl
/- X1_addDevice -/
theorem hgc11 (a0 : Nat) (x1 x2 x3 x4 : Int32) : hgWC X 11 [.ref a0, .int x1, .int x2, .int x3, .int x4] M = hgW X 11 0 [some (.ref a0), some (.int x1), some (.int x2), some (.int x3), some (.int x4)] [] (0, 0) M := if_pos (Nat.le_of_ble_eq_true rfl)
theorem hgu11_0 : hgW X 11 0 L S K M = hgEx X (0, 0) (hgWC X) (hgWJ X 11) hgr11_0 L S K M := hgW_eq X 11 0 L S K M
theorem hgv11_0 : hgWJ X 11 0 L S K M = hgW X 11 0 (hgMask [true, true, true, true, true] L) S K M := id rfl
theorem hgu11_43 : hgW X 11 43 L S K M = hgEx X (0, 0) (hgWC X) (hgWJ X 11) hgr11_43 L S K M := hgW_eq X 11 43 L S K M
theorem hgv11_43 : hgWJ X 11 43 L S K M = hgW X 11 43 (hgMask [false, false, false, false, false] L) S K M := id rfl
/- X1_addWakePort -/
theorem hgc12 (a0 : Nat) (x1 : Int32) : hgWC X 12 [.ref a0, .int x1] M = hgW X 12 0 [some (.ref a0), some (.int x1)] [] (0, 0) M := if_pos (Nat.le_of_ble_eq_true rfl)
theorem hgu12_0 : hgW X 12 0 L S K M = hgEx X (0, 0) (hgWC X) (hgWJ X 12) hgr12_0 L S K M := hgW_eq X 12 0 L S K M
theorem hgv12_0 : hgWJ X 12 0 L S K M = hgW X 12 0 (hgMask [true, true] L) S K M := id rfl
theorem hgu12_36 : hgW X 12 36 L S K M = hgEx X (0, 0) (hgWC X) (hgWJ X 12) hgr12_36 L S K M := hgW_eq X 12 36 L S K M
theorem hgv12_36 : hgWJ X 12 36 L S K M = hgW X 12 36 (hgMask [false, false] L) S K M := id rfl
/- X1_isWakePort -/
theorem hgc13 (a0 : Nat) (x1 : Int32) : hgWC X 13 [.ref a0, .int x1] M = hgW X 13 0 [some (.ref a0), some (.int x1), none] [] (0, 0) M := if_pos (Nat.le_of_ble_eq_true rfl)
theorem hgu13_0 : hgW X 13 0 L S K M = hgEx X (0, 0) (hgWC X) (hgWJ X 13) hgr13_0 L S K M := hgW_eq X 13 0 L S K M
theorem hgv13_0 : hgWJ X 13 0 L S K M = hgW X 13 0 (hgMask [true, true, false] L) S K M := id rfl
theorem hgu13_2 : hgW X 13 2 L S K M = hgEx X (0, 0) (hgWC X) (hgWJ X 13) hgr13_2 L S K M := hgW_eq X 13 2 L S K M
theorem hgv13_2 : hgWJ X 13 2 L S K M = hgW X 13 2 (hgMask [true, true, true] L) S K M := id rfl
theorem hgu13_22 : hgW X 13 22 L S K M = hgEx X (0, 0) (hgWC X) (hgWJ X 13) hgr13_22 L S K M := hgW_eq X 13 22 L S K M
theorem hgv13_22 : hgWJ X 13 22 L S K M = hgW X 13 22 (hgMask [true, true, true] L) S K M := id rfl
theorem hgu13_28 : hgW X 13 28 L S K M = hgEx X (0, 0) (hgWC X) (hgWJ X 13) hgr13_28 L S K M := hgW_eq X 13 28 L S K M
theorem hgv13_28 : hgWJ X 13 28 L S K M = hgW X 13 28 (hgMask [false, false, false] L) S K M := id rfl
/- X1_setQuiet -/
theorem hgc14 (a0 : Nat) (x1 x2 x3 : Int32) : hgWC X 14 [.ref a0, .int x1, .int x2, .int x3] M = hgW X 14 0 [some (.ref a0), some (.int x1), some (.int x2), some (.int x3)] [] (0, 0) M := if_pos (Nat.le_of_ble_eq_true rfl)
theorem hgu14_0 : hgW X 14 0 L S K M = hgEx X (0, 0) (hgWC X) (hgWJ X 14) hgr14_0 L S K M := hgW_eq X 14 0 L S K M
theorem hgv14_0 : hgWJ X 14 0 L S K M = hgW X 14 0 (hgMask [true, true, true, true] L) S K M := id rfl
theorem hgu14_23 : hgW X 14 23 L S K M = hgEx X (0, 0) (hgWC X) (hgWJ X 14) hgr14_23 L S K M := hgW_eq X 14 23 L S K M
theorem hgv14_23 : hgWJ X 14 23 L S K M = hgW X 14 23 (hgMask [false, false, false, false] L) S K M := id rfl
/- X1_isQuietHour -/
theorem hgc15 (a0 : Nat) (x1 : Int32) : hgWC X 15 [.ref a0, .int x1] M = hgW X 15 0 [some (.ref a0), some (.int x1), none, none, none] [] (0, 0) M := if_pos (Nat.le_of_ble_eq_true rfl)
theorem hgu15_0 : hgW X 15 0 L S K M = hgEx X (0, 0) (hgWC X) (hgWJ X 15) hgr15_0 L S K M := hgW_eq X 15 0 L S K M
theorem hgv15_0 : hgWJ X 15 0 L S K M = hgW X 15 0 (hgMask [true, true, false, false, false] L) S K M := id rfl
theorem hgu15_16 : hgW X 15 16 L S K M = hgEx X (0, 0) (hgWC X) (hgWJ X 15) hgr15_16 L S K M := hgW_eq X 15 16 L S K M
theorem hgv15_16 : hgWJ X 15 16 L S K M = hgW X 15 16 (hgMask [false, false, false, false, false] L) S K M := id rfl
theorem hgu15_18 : hgW X 15 18 L S K M = hgEx X (0, 0) (hgWC X) (hgWJ X 15) hgr15_18 L S K M := hgW_eq X 15 18 L S K M
theorem hgv15_18 : hgWJ X 15 18 L S K M = hgW X 15 18 (hgMask [true, true, false, false, false] L) S K M := id rfl
theorem hgu15_60 : hgW X 15 60 L S K M = hgEx X (0, 0) (hgWC X) (hgWJ X 15) hgr15_60 L S K M := hgW_eq X 15 60 L S K M
theorem hgv15_60 : hgWJ X 15 60 L S K M = hgW X 15 60 (hgMask [false, false, false, false, false] L) S K M := id rfl
theorem hgu15_64 : hgW X 15 64 L S K M = hgEx X (0, 0) (hgWC X) (hgWJ X 15) hgr15_64 L S K M := hgW_eq X 15 64 L S K M
theorem hgv15_64 : hgWJ X 15 64 L S K M = hgW X 15 64 (hgMask [false, false, false, false, false] L) S K M := id rfl
theorem hgu15_65 : hgW X 15 65 L S K M = hgEx X (0, 0) (hgWC X) (hgWJ X 15) hgr15_65 L S K M := hgW_eq X 15 65 L S K M
theorem hgv15_65 : hgWJ X 15 65 L S K M = hgW X 15 65 (hgMask [false, false, false, false, false] L) S K M := id rfl
theorem hgu15_66 : hgW X 15 66 L S K M = hgEx X (0, 0) (hgWC X) (hgWJ X 15) hgr15_66 L S K M := hgW_eq X 15 66 L S K M
theorem hgv15_66 : hgWJ X 15 66 L S K M = hgW X 15 66 (hgMask [false, false, true, true, true] L) S K M := id rfl
theorem hgu15_81 : hgW X 15 81 L S K M = hgEx X (0, 0) (hgWC X) (hgWJ X 15) hgr15_81 L S K M := hgW_eq X 15 81 L S K M
theorem hgv15_81 : hgWJ X 15 81 L S K M = hgW X 15 81 (hgMask [false, false, false, false, false] L) S K M := id rfl
theorem hgu15_82 : hgW X 15 82 L S K M = hgEx X (0, 0) (hgWC X) (hgWJ X 15) hgr15_82 L S K M := hgW_eq X 15 82 L S K M
theorem hgv15_82 : hgWJ X 15 82 L S K M = hgW X 15 82 (hgMask [false, false, false, false, false] L) S K M := id rfl
/- X1_hasDevice -/
theorem hgc16 (a0 : Nat) (x1 : Int32) : hgWC X 16 [.ref a0, .int x1] M = hgW X 16 0 [some (.ref a0), some (.int x1)] [] (0, 0) M := if_pos (Nat.le_of_ble_eq_true rfl)
theorem hgu16_0 : hgW X 16 0 L S K M = hgEx X (0, 0) (hgWC X) (hgWJ X 16) hgr16_0 L S K M := hgW_eq X 16 0 L S K M
theorem hgv16_0 : hgWJ X 16 0 L S K M = hgW X 16 0 (hgMask [true, true] L) S K M := id rfl
theorem hgu16_16 : hgW X 16 16 L S K M = hgEx X (0, 0) (hgWC X) (hgWJ X 16) hgr16_16 L S K M := hgW_eq X 16 16 L S K M
theorem hgv16_16 : hgWJ X 16 16 L S K M = hgW X 16 16 (hgMask [false, false] L) S K M := id rfl
theorem hgu16_17 : hgW X 16 17 L S K M = hgEx X (0, 0) (hgWC X) (hgWJ X 16) hgr16_17 L S K M := hgW_eq X 16 17 L S K M
theorem hgv16_17 : hgWJ X 16 17 L S K M = hgW X 16 17 (hgMask [false, false] L) S K M := id rfl
/- X1_groupOf -/
theorem hgc17 (a0 : Nat) (x1 : Int32) : hgWC X 17 [.ref a0, .int x1] M = hgW X 17 0 [some (.ref a0), some (.int x1)] [] (0, 0) M := if_pos (Nat.le_of_ble_eq_true rfl)
theorem hgu17_0 : hgW X 17 0 L S K M = hgEx X (0, 0) (hgWC X) (hgWJ X 17) hgr17_0 L S K M := hgW_eq X 17 0 L S K M
theorem hgv17_0 : hgWJ X 17 0 L S K M = hgW X 17 0 (hgMask [true, true] L) S K M := id rfl
theorem hgu17_20 : hgW X 17 20 L S K M = hgEx X (0, 0) (hgWC X) (hgWJ X 17) hgr17_20 L S K M := hgW_eq X 17 20 L S K M
theorem hgv17_20 : hgWJ X 17 20 L S K M = hgW X 17 20 (hgMask [false, false] L) S K M := id rfl
theorem hgu17_21 : hgW X 17 21 L S K M = hgEx X (0, 0) (hgWC X) (hgWJ X 17) hgr17_21 L S K M := hgW_eq X 17 21 L S K M
theorem hgv17_21 : hgWJ X 17 21 L S K M = hgW X 17 21 (hgMask [false, false] L) S K M := id rfl
/- X1_isIsolated -/
theorem hgc18 (a0 : Nat) (x1 x2 : Int32) : hgWC X 18 [.ref a0, .int x1, .int x2] M = hgW X 18 0 [some (.ref a0), some (.int x1), some (.int x2), none] [] (0, 0) M := if_pos (Nat.le_of_ble_eq_true rfl)
theorem hgu18_0 : hgW X 18 0 L S K M = hgEx X (0, 0) (hgWC X) (hgWJ X 18) hgr18_0 L S K M := hgW_eq X 18 0 L S K M
theorem hgv18_0 : hgWJ X 18 0 L S K M = hgW X 18 0 (hgMask [true, true, true, false] L) S K M := id rfl
theorem hgu18_11 : hgW X 18 11 L S K M = hgEx X (0, 0) (hgWC X) (hgWJ X 18) hgr18_11 L S K M := hgW_eq X 18 11 L S K M
theorem hgv18_11 : hgWJ X 18 11 L S K M = hgW X 18 11 (hgMask [true, true, true, false] L) S K M := id rfl
theorem hgu18_31 : hgW X 18 31 L S K M = hgEx X (0, 0) (hgWC X) (hgWJ X 18) hgr18_31 L S K M := hgW_eq X 18 31 L S K M
theorem hgv18_31 : hgWJ X 18 31 L S K M = hgW X 18 31 (hgMask [false, false, false, false] L) S K M := id rfl
theorem hgu18_35 : hgW X 18 35 L S K M = hgEx X (0, 0) (hgWC X) (hgWJ X 18) hgr18_35 L S K M := hgW_eq X 18 35 L S K M
theorem hgv18_35 : hgWJ X 18 35 L S K M = hgW X 18 35 (hgMask [false, false, false, false] L) S K M := id rfl
theorem hgu18_36 : hgW X 18 36 L S K M = hgEx X (0, 0) (hgWC X) (hgWJ X 18) hgr18_36 L S K M := hgW_eq X 18 36 L S K M
theorem hgv18_36 : hgWJ X 18 36 L S K M = hgW X 18 36 (hgMask [false, false, false, false] L) S K M := id rfl
/- X1_isOpen -/
theorem hgc19 (a0 : Nat) (x1 x2 x3 : Int32) : hgWC X 19 [.ref a0, .int x1, .int x2, .int x3] M = hgW X 19 0 [some (.ref a0), some (.int x1), some (.int x2), some (.int x3), none] [] (0, 0) M := if_pos (Nat.le_of_ble_eq_true rfl)
theorem hgu19_0 : hgW X 19 0 L S K M = hgEx X (0, 0) (hgWC X) (hgWJ X 19) hgr19_0 L S K M := hgW_eq X 19 0 L S K M
theorem hgv19_0 : hgWJ X 19 0 L S K M = hgW X 19 0 (hgMask [true, true, true, true, false] L) S K M := id rfl
theorem hgu19_26 : hgW X 19 26 L S K M = hgEx X (0, 0) (hgWC X) (hgWJ X 19) hgr19_26 L S K M := hgW_eq X 19 26 L S K M
theorem hgv19_26 : hgWJ X 19 26 L S K M = hgW X 19 26 (hgMask [false, false, false, false, false] L) S K M := id rfl
theorem hgu19_30 : hgW X 19 30 L S K M = hgEx X (0, 0) (hgWC X) (hgWJ X 19) hgr19_30 L S K M := hgW_eq X 19 30 L S K M
theorem hgv19_30 : hgWJ X 19 30 L S K M = hgW X 19 30 (hgMask [true, false, false, false, true] L) S K M := id rfl
theorem hgu19_39 : hgW X 19 39 L S K M = hgEx X (0, 0) (hgWC X) (hgWJ X 19) hgr19_39 L S K M := hgW_eq X 19 39 L S K M
theorem hgv19_39 : hgWJ X 19 39 L S K M = hgW X 19 39 (hgMask [false, false, false, false, false] L) S K M := id rfl
/- X1_judge -/
theorem hgc20 (a0 : Nat) (x1 x2 x3 : Int32) : hgWC X 20 [.ref a0, .int x1, .int x2, .int x3] M = hgW X 20 0 [some (.ref a0), some (.int x1), some (.int x2), some (.int x3)] [] (0, 0) M := if_pos (Nat.le_of_ble_eq_true rfl)
theorem hgu20_0 : hgW X 20 0 L S K M = hgEx X (0, 0) (hgWC X) (hgWJ X 20) hgr20_0 L S K M := hgW_eq X 20 0 L S K M
theorem hgv20_0 : hgWJ X 20 0 L S K M = hgW X 20 0 (hgMask [true, true, true, true] L) S K M := id rfl
theorem hgu20_11 : hgW X 20 11 L S K M = hgEx X (0, 0) (hgWC X) (hgWJ X 20) hgr20_11 L S K M := hgW_eq X 20 11 L S K M
theorem hgv20_11 : hgWJ X 20 11 L S K M = hgW X 20 11 (hgMask [true, true, true, true] L) S K M := id rfl
theorem hgu20_33 : hgW X 20 33 L S K M = hgEx X (0, 0) (hgWC X) (hgWJ X 20) hgr20_33 L S K M := hgW_eq X 20 33 L S K M
theorem hgv20_33 : hgWJ X 20 33 L S K M = hgW X 20 33 (hgMask [false, false, false, false] L) S K M := id rfl
theorem hgu20_34 : hgW X 20 34 L S K M = hgEx X (0, 0) (hgWC X) (hgWJ X 20) hgr20_34 L S K M := hgW_eq X 20 34 L S K M
theorem hgv20_34 : hgWJ X 20 34 L S K M = hgW X 20 34 (hgMask [false, false, false, false] L) S K M := id rfl
/- X1_countOpenPorts -/
theorem hgc21 (a0 : Nat) (x1 x2 : Int32) : hgWC X 21 [.ref a0, .int x1, .int x2] M = hgW X 21 0 [some (.ref a0), some (.int x1), some (.int x2), none, none, none, none] [] (0, 0) M := if_pos (Nat.le_of_ble_eq_true rfl)
theorem hgu21_0 : hgW X 21 0 L S K M = hgEx X (0, 0) (hgWC X) (hgWJ X 21) hgr21_0 L S K M := hgW_eq X 21 0 L S K M
theorem hgv21_0 : hgWJ X 21 0 L S K M = hgW X 21 0 (hgMask [true, true, true, false, false, false, false] L) S K M := id rfl
theorem hgu21_11 : hgW X 21 11 L S K M = hgEx X (0, 0) (hgWC X) (hgWJ X 21) hgr21_11 L S K M := hgW_eq X 21 11 L S K M
theorem hgv21_11 : hgWJ X 21 11 L S K M = hgW X 21 11 (hgMask [true, true, true, false, false, false, false] L) S K M := id rfl
theorem hgu21_19 : hgW X 21 19 L S K M = hgEx X (0, 0) (hgWC X) (hgWJ X 21) hgr21_19 L S K M := hgW_eq X 21 19 L S K M
theorem hgv21_19 : hgWJ X 21 19 L S K M = hgW X 21 19 (hgMask [true, true, true, true, true, true, false] L) S K M := id rfl
theorem hgu21_72 : hgW X 21 72 L S K M = hgEx X (0, 0) (hgWC X) (hgWJ X 21) hgr21_72 L S K M := hgW_eq X 21 72 L S K M
theorem hgv21_72 : hgWJ X 21 72 L S K M = hgW X 21 72 (hgMask [true, true, true, true, false, true, true] L) S K M := id rfl
theorem hgu21_82 : hgW X 21 82 L S K M = hgEx X (0, 0) (hgWC X) (hgWJ X 21) hgr21_82 L S K M := hgW_eq X 21 82 L S K M
theorem hgv21_82 : hgWJ X 21 82 L S K M = hgW X 21 82 (hgMask [false, false, false, true, false, false, false] L) S K M := id rfl
/- X1_measureFairness -/
theorem hgc22 (a0 : Nat) : hgWC X 22 [.ref a0] M = hgW X 22 0 [some (.ref a0), none, none, none, none] [] (0, 0) M := if_pos (Nat.le_of_ble_eq_true rfl)
theorem hgu22_0 : hgW X 22 0 L S K M = hgEx X (0, 0) (hgWC X) (hgWJ X 22) hgr22_0 L S K M := hgW_eq X 22 0 L S K M
theorem hgv22_0 : hgWJ X 22 0 L S K M = hgW X 22 0 (hgMask [true, false, false, false, false] L) S K M := id rfl
theorem hgu22_6 : hgW X 22 6 L S K M = hgEx X (0, 0) (hgWC X) (hgWJ X 22) hgr22_6 L S K M := hgW_eq X 22 6 L S K M
theorem hgv22_6 : hgWJ X 22 6 L S K M = hgW X 22 6 (hgMask [true, true, true, true, false] L) S K M := id rfl
theorem hgu22_64 : hgW X 22 64 L S K M = hgEx X (0, 0) (hgWC X) (hgWJ X 22) hgr22_64 L S K M := hgW_eq X 22 64 L S K M
theorem hgv22_64 : hgWJ X 22 64 L S K M = hgW X 22 64 (hgMask [true, true, true, true, false] L) S K M := id rfl
theorem hgu22_70 : hgW X 22 70 L S K M = hgEx X (0, 0) (hgWC X) (hgWJ X 22) hgr22_70 L S K M := hgW_eq X 22 70 L S K M
theorem hgv22_70 : hgWJ X 22 70 L S K M = hgW X 22 70 (hgMask [true, true, true, false, false] L) S K M := id rfl
theorem hgu22_99 : hgW X 22 99 L S K M = hgEx X (0, 0) (hgWC X) (hgWJ X 22) hgr22_99 L S K M := hgW_eq X 22 99 L S K M
theorem hgv22_99 : hgWJ X 22 99 L S K M = hgW X 22 99 (hgMask [false, false, false, false, false] L) S K M := id rfl
/- X1_take -/
theorem hgc23 (a0 : Nat) (x1 x2 x3 x4 : Int32) : hgWC X 23 [.ref a0, .int x1, .int x2, .int x3, .int x4] M = hgW X 23 0 [some (.ref a0), some (.int x1), some (.int x2), some (.int x3), some (.int x4), none] [] (0, 0) M := if_pos (Nat.le_of_ble_eq_true rfl)
theorem hgu23_0 : hgW X 23 0 L S K M = hgEx X (0, 0) (hgWC X) (hgWJ X 23) hgr23_0 L S K M := hgW_eq X 23 0 L S K M
theorem hgv23_0 : hgWJ X 23 0 L S K M = hgW X 23 0 (hgMask [true, true, true, true, true, false] L) S K M := id rfl
theorem hgu23_22 : hgW X 23 22 L S K M = hgEx X (0, 0) (hgWC X) (hgWJ X 23) hgr23_22 L S K M := hgW_eq X 23 22 L S K M
theorem hgv23_22 : hgWJ X 23 22 L S K M = hgW X 23 22 (hgMask [true, false, true, true, true, false] L) S K M := id rfl
theorem hgu23_59 : hgW X 23 59 L S K M = hgEx X (0, 0) (hgWC X) (hgWJ X 23) hgr23_59 L S K M := hgW_eq X 23 59 L S K M
theorem hgv23_59 : hgWJ X 23 59 L S K M = hgW X 23 59 (hgMask [true, false, false, false, true, true] L) S K M := id rfl
theorem hgu23_84 : hgW X 23 84 L S K M = hgEx X (0, 0) (hgWC X) (hgWJ X 23) hgr23_84 L S K M := hgW_eq X 23 84 L S K M
theorem hgv23_84 : hgWJ X 23 84 L S K M = hgW X 23 84 (hgMask [true, false, false, false, false, false] L) S K M := id rfl
theorem hgu23_96 : hgW X 23 96 L S K M = hgEx X (0, 0) (hgWC X) (hgWJ X 23) hgr23_96 L S K M := hgW_eq X 23 96 L S K M
theorem hgv23_96 : hgWJ X 23 96 L S K M = hgW X 23 96 (hgMask [true, false, false, false, true, true] L) S K M := id rfl
theorem hgu23_121 : hgW X 23 121 L S K M = hgEx X (0, 0) (hgWC X) (hgWJ X 23) hgr23_121 L S K M := hgW_eq X 23 121 L S K M
theorem hgv23_121 : hgWJ X 23 121 L S K M = hgW X 23 121 (hgMask [true, false, false, false, true, true] L) S K M := id rfl
theorem hgu23_157 : hgW X 23 157 L S K M = hgEx X (0, 0) (hgWC X) (hgWJ X 23) hgr23_157 L S K M := hgW_eq X 23 157 L S K M
theorem hgv23_157 : hgWJ X 23 157 L S K M = hgW X 23 157 (hgMask [false, false, false, false, false, false] L) S K M := id rfl
/- X1_leastVirtualTime -/
theorem hgc24 (a0 : Nat) : hgWC X 24 [.ref a0] M = hgW X 24 0 [some (.ref a0), none, none, none, none] [] (0, 0) M := if_pos (Nat.le_of_ble_eq_true rfl)
theorem hgu24_0 : hgW X 24 0 L S K M = hgEx X (0, 0) (hgWC X) (hgWJ X 24) hgr24_0 L S K M := hgW_eq X 24 0 L S K M
theorem hgv24_0 : hgWJ X 24 0 L S K M = hgW X 24 0 (hgMask [true, false, false, false, false] L) S K M := id rfl
theorem hgu24_7 : hgW X 24 7 L S K M = hgEx X (0, 0) (hgWC X) (hgWJ X 24) hgr24_7 L S K M := hgW_eq X 24 7 L S K M
theorem hgv24_7 : hgWJ X 24 7 L S K M = hgW X 24 7 (hgMask [true, true, false, true, true] L) S K M := id rfl
theorem hgu24_48 : hgW X 24 48 L S K M = hgEx X (0, 0) (hgWC X) (hgWJ X 24) hgr24_48 L S K M := hgW_eq X 24 48 L S K M
theorem hgv24_48 : hgWJ X 24 48 L S K M = hgW X 24 48 (hgMask [true, false, false, false, true] L) S K M := id rfl
theorem hgu24_61 : hgW X 24 61 L S K M = hgEx X (0, 0) (hgWC X) (hgWJ X 24) hgr24_61 L S K M := hgW_eq X 24 61 L S K M
theorem hgv24_61 : hgWJ X 24 61 L S K M = hgW X 24 61 (hgMask [true, true, false, true, true] L) S K M := id rfl
theorem hgu24_67 : hgW X 24 67 L S K M = hgEx X (0, 0) (hgWC X) (hgWJ X 24) hgr24_67 L S K M := hgW_eq X 24 67 L S K M
theorem hgv24_67 : hgWJ X 24 67 L S K M = hgW X 24 67 (hgMask [false, true, false, false, false] L) S K M := id rfl
/- X1_isDrained -/
theorem hgc25 (a0 : Nat) : hgWC X 25 [.ref a0] M = hgW X 25 0 [some (.ref a0), none] [] (0, 0) M := if_pos (Nat.le_of_ble_eq_true rfl)
theorem hgu25_0 : hgW X 25 0 L S K M = hgEx X (0, 0) (hgWC X) (hgWJ X 25) hgr25_0 L S K M := hgW_eq X 25 0 L S K M
theorem hgv25_0 : hgWJ X 25 0 L S K M = hgW X 25 0 (hgMask [true, false] L) S K M := id rfl
theorem hgu25_2 : hgW X 25 2 L S K M = hgEx X (0, 0) (hgWC X) (hgWJ X 25) hgr25_2 L S K M := hgW_eq X 25 2 L S K M
theorem hgv25_2 : hgWJ X 25 2 L S K M = hgW X 25 2 (hgMask [true, true] L) S K M := id rfl
theorem hgu25_24 : hgW X 25 24 L S K M = hgEx X (0, 0) (hgWC X) (hgWJ X 25) hgr25_24 L S K M := hgW_eq X 25 24 L S K M
theorem hgv25_24 : hgWJ X 25 24 L S K M = hgW X 25 24 (hgMask [true, true] L) S K M := id rfl
theorem hgu25_30 : hgW X 25 30 L S K M = hgEx X (0, 0) (hgWC X) (hgWJ X 25) hgr25_30 L S K M := hgW_eq X 25 30 L S K M
theorem hgv25_30 : hgWJ X 25 30 L S K M = hgW X 25 30 (hgMask [false, false] L) S K M := id rfl
/- X1_passTick -/
theorem hgc26 (a0 : Nat) : hgWC X 26 [.ref a0] M = hgW X 26 0 [some (.ref a0), none, none] [] (0, 0) M := if_pos (Nat.le_of_ble_eq_true rfl)
theorem hgu26_0 : hgW X 26 0 L S K M = hgEx X (0, 0) (hgWC X) (hgWJ X 26) hgr26_0 L S K M := hgW_eq X 26 0 L S K M
theorem hgv26_0 : hgWJ X 26 0 L S K M = hgW X 26 0 (hgMask [true, false, false] L) S K M := id rfl
theorem hgu26_2 : hgW X 26 2 L S K M = hgEx X (0, 0) (hgWC X) (hgWJ X 26) hgr26_2 L S K M := hgW_eq X 26 2 L S K M
theorem hgv26_2 : hgWJ X 26 2 L S K M = hgW X 26 2 (hgMask [true, true, false] L) S K M := id rfl
theorem hgu26_25 : hgW X 26 25 L S K M = hgEx X (0, 0) (hgWC X) (hgWJ X 26) hgr26_25 L S K M := hgW_eq X 26 25 L S K M
theorem hgv26_25 : hgWJ X 26 25 L S K M = hgW X 26 25 (hgMask [true, false, false] L) S K M := id rfl
theorem hgu26_32 : hgW X 26 32 L S K M = hgEx X (0, 0) (hgWC X) (hgWJ X 26) hgr26_32 L S K M := hgW_eq X 26 32 L S K M
theorem hgv26_32 : hgWJ X 26 32 L S K M = hgW X 26 32 (hgMask [true, true, true] L) S K M := id rfl
theorem hgu26_55 : hgW X 26 55 L S K M = hgEx X (0, 0) (hgWC X) (hgWJ X 26) hgr26_55 L S K M := hgW_eq X 26 55 L S K M
theorem hgv26_55 : hgWJ X 26 55 L S K M = hgW X 26 55 (hgMask [true, true, false] L) S K M := id rfl
/- X1_serveLine -/
theorem hgc27 (a0 : Nat) : hgWC X 27 [.ref a0] M = hgW X 27 0 [some (.ref a0), none, none, none, none] [] (0, 0) M := if_pos (Nat.le_of_ble_eq_true rfl)
theorem hgu27_0 : hgW X 27 0 L S K M = hgEx X (0, 0) (hgWC X) (hgWJ X 27) hgr27_0 L S K M := hgW_eq X 27 0 L S K M
theorem hgv27_0 : hgWJ X 27 0 L S K M = hgW X 27 0 (hgMask [true, false, false, false, false] L) S K M := id rfl
theorem hgu27_7 : hgW X 27 7 L S K M = hgEx X (0, 0) (hgWC X) (hgWJ X 27) hgr27_7 L S K M := hgW_eq X 27 7 L S K M
theorem hgv27_7 : hgWJ X 27 7 L S K M = hgW X 27 7 (hgMask [true, true, true, false, false] L) S K M := id rfl
theorem hgu27_30 : hgW X 27 30 L S K M = hgEx X (0, 0) (hgWC X) (hgWJ X 27) hgr27_30 L S K M := hgW_eq X 27 30 L S K M
theorem hgv27_30 : hgWJ X 27 30 L S K M = hgW X 27 30 (hgMask [true, true, true, true, false] L) S K M := id rfl
theorem hgu27_56 : hgW X 27 56 L S K M = hgEx X (0, 0) (hgWC X) (hgWJ X 27) hgr27_56 L S K M := hgW_eq X 27 56 L S K M
theorem hgv27_56 : hgWJ X 27 56 L S K M = hgW X 27 56 (hgMask [true, true, true, true, true] L) S K M := id rfl
theorem hgu27_84 : hgW X 27 84 L S K M = hgEx X (0, 0) (hgWC X) (hgWJ X 27) hgr27_84 L S K M := hgW_eq X 27 84 L S K M
theorem hgv27_84 : hgWJ X 27 84 L S K M = hgW X 27 84 (hgMask [true, false, false, false, false] L) S K M := id rfl
/- X1_nextToServe -/
theorem hgc28 (a0 : Nat) : hgWC X 28 [.ref a0] M = hgW X 28 0 [some (.ref a0), none, none] [] (0, 0) M := if_pos (Nat.le_of_ble_eq_true rfl)
theorem hgu28_0 : hgW X 28 0 L S K M = hgEx X (0, 0) (hgWC X) (hgWJ X 28) hgr28_0 L S K M := hgW_eq X 28 0 L S K M
theorem hgv28_0 : hgWJ X 28 0 L S K M = hgW X 28 0 (hgMask [true, false, false] L) S K M := id rfl
theorem hgu28_4 : hgW X 28 4 L S K M = hgEx X (0, 0) (hgWC X) (hgWJ X 28) hgr28_4 L S K M := hgW_eq X 28 4 L S K M
theorem hgv28_4 : hgWJ X 28 4 L S K M = hgW X 28 4 (hgMask [true, true, true] L) S K M := id rfl
theorem hgu28_51 : hgW X 28 51 L S K M = hgEx X (0, 0) (hgWC X) (hgWJ X 28) hgr28_51 L S K M := hgW_eq X 28 51 L S K M
theorem hgv28_51 : hgWJ X 28 51 L S K M = hgW X 28 51 (hgMask [true, false, true] L) S K M := id rfl
theorem hgu28_53 : hgW X 28 53 L S K M = hgEx X (0, 0) (hgWC X) (hgWJ X 28) hgr28_53 L S K M := hgW_eq X 28 53 L S K M
theorem hgv28_53 : hgWJ X 28 53 L S K M = hgW X 28 53 (hgMask [true, true, true] L) S K M := id rfl
theorem hgu28_59 : hgW X 28 59 L S K M = hgEx X (0, 0) (hgWC X) (hgWJ X 28) hgr28_59 L S K M := hgW_eq X 28 59 L S K M
theorem hgv28_59 : hgWJ X 28 59 L S K M = hgW X 28 59 (hgMask [false, true, false] L) S K M := id rfl
/- X1_canBeServed -/
theorem hgc29 (a0 a1 : Nat) : hgWC X 29 [.ref a0, .ref a1] M = hgW X 29 0 [some (.ref a0), some (.ref a1)] [] (0, 0) M := if_pos (Nat.le_of_ble_eq_true rfl)
theorem hgu29_0 : hgW X 29 0 L S K M = hgEx X (0, 0) (hgWC X) (hgWJ X 29) hgr29_0 L S K M := hgW_eq X 29 0 L S K M
theorem hgv29_0 : hgWJ X 29 0 L S K M = hgW X 29 0 (hgMask [true, true] L) S K M := id rfl
theorem hgu29_29 : hgW X 29 29 L S K M = hgEx X (0, 0) (hgWC X) (hgWJ X 29) hgr29_29 L S K M := hgW_eq X 29 29 L S K M
theorem hgv29_29 : hgWJ X 29 29 L S K M = hgW X 29 29 (hgMask [false, false] L) S K M := id rfl
theorem hgu29_30 : hgW X 29 30 L S K M = hgEx X (0, 0) (hgWC X) (hgWJ X 29) hgr29_30 L S K M := hgW_eq X 29 30 L S K M
theorem hgv29_30 : hgWJ X 29 30 L S K M = hgW X 29 30 (hgMask [false, false] L) S K M := id rfl
/- X1_sumUp -/
theorem hgc30 (a0 : Nat) : hgWC X 30 [.ref a0] M = hgW X 30 0 [some (.ref a0), none, none, none, none] [] (0, 0) M := if_pos (Nat.le_of_ble_eq_true rfl)
theorem hgu30_0 : hgW X 30 0 L S K M = hgEx X (0, 0) (hgWC X) (hgWJ X 30) hgr30_0 L S K M := hgW_eq X 30 0 L S K M
theorem hgv30_0 : hgWJ X 30 0 L S K M = hgW X 30 0 (hgMask [true, false, false, false, false] L) S K M := id rfl
theorem hgu30_44 : hgW X 30 44 L S K M = hgEx X (0, 0) (hgWC X) (hgWJ X 30) hgr30_44 L S K M := hgW_eq X 30 44 L S K M
theorem hgv30_44 : hgWJ X 30 44 L S K M = hgW X 30 44 (hgMask [true, true, false, true, false] L) S K M := id rfl
theorem hgu30_130 : hgW X 30 130 L S K M = hgEx X (0, 0) (hgWC X) (hgWJ X 30) hgr30_130 L S K M := hgW_eq X 30 130 L S K M
theorem hgv30_130 : hgWJ X 30 130 L S K M = hgW X 30 130 (hgMask [true, true, false, false, false] L) S K M := id rfl
/- X2_init -/
theorem hgc31 (a0 a1 : Nat) : hgWC X 31 [.ref a0, .ref a1] M = hgW X 31 0 [some (.ref a0), some (.ref a1), none] [] (0, 0) M := if_pos (Nat.le_of_ble_eq_true rfl)
theorem hgu31_0 : hgW X 31 0 L S K M = hgEx X (233, 2120) (hgWC X) (hgWJ X 31) hgr31_0 L S K M := hgW_eq X 31 0 L S K M
theorem hgv31_0 : hgWJ X 31 0 L S K M = hgW X 31 0 (hgMask [true, true, false] L) S K M := id rfl
theorem hgu31_15 : hgW X 31 15 L S K M = hgEx X (233, 2120) (hgWC X) (hgWJ X 31) hgr31_15 L S K M := hgW_eq X 31 15 L S K M
theorem hgv31_15 : hgWJ X 31 15 L S K M = hgW X 31 15 (hgMask [true, true, true] L) S K M := id rfl
theorem hgu31_41 : hgW X 31 41 L S K M = hgEx X (233, 2120) (hgWC X) (hgWJ X 31) hgr31_41 L S K M := hgW_eq X 31 41 L S K M
theorem hgv31_41 : hgWJ X 31 41 L S K M = hgW X 31 41 (hgMask [false, false, false] L) S K M := id rfl
/- X2_save -/
theorem hgc32 (a0 a1 : Nat) : hgWC X 32 [.ref a0, .ref a1] M = hgW X 32 0 [some (.ref a0), some (.ref a1)] [] (0, 0) M := if_pos (Nat.le_of_ble_eq_true rfl)
theorem hgu32_0 : hgW X 32 0 L S K M = hgEx X (0, 0) (hgWC X) (hgWJ X 32) hgr32_0 L S K M := hgW_eq X 32 0 L S K M
theorem hgv32_0 : hgWJ X 32 0 L S K M = hgW X 32 0 (hgMask [true, true] L) S K M := id rfl
theorem hgu32_16 : hgW X 32 16 L S K M = hgEx X (0, 0) (hgWC X) (hgWJ X 32) hgr32_16 L S K M := hgW_eq X 32 16 L S K M
theorem hgv32_16 : hgWJ X 32 16 L S K M = hgW X 32 16 (hgMask [false, false] L) S K M := id rfl
theorem hgu32_17 : hgW X 32 17 L S K M = hgEx X (0, 0) (hgWC X) (hgWJ X 32) hgr32_17 L S K M := hgW_eq X 32 17 L S K M
theorem hgv32_17 : hgWJ X 32 17 L S K M = hgW X 32 17 (hgMask [true, true] L) S K M := id rfl
theorem hgu32_51 : hgW X 32 51 L S K M = hgEx X (0, 0) (hgWC X) (hgWJ X 32) hgr32_51 L S K M := hgW_eq X 32 51 L S K M
theorem hgv32_51 : hgWJ X 32 51 L S K M = hgW X 32 51 (hgMask [true, false] L) S K M := id rfl
theorem hgu32_52 : hgW X 32 52 L S K M = hgEx X (0, 0) (hgWC X) (hgWJ X 32) hgr32_52 L S K M := hgW_eq X 32 52 L S K M
theorem hgv32_52 : hgWJ X 32 52 L S K M = hgW X 32 52 (hgMask [true, false] L) S K M := id rfl
/- X2_bringBack -/
theorem hgc33 (a0 a1 : Nat) : hgWC X 33 [.ref a0, .ref a1] M = hgW X 33 0 [some (.ref a0), some (.ref a1), none] [] (0, 0) M := if_pos (Nat.le_of_ble_eq_true rfl)
theorem hgu33_0 : hgW X 33 0 L S K M = hgEx X (0, 0) (hgWC X) (hgWJ X 33) hgr33_0 L S K M := hgW_eq X 33 0 L S K M
theorem hgv33_0 : hgWJ X 33 0 L S K M = hgW X 33 0 (hgMask [true, true, false] L) S K M := id rfl
theorem hgu33_16 : hgW X 33 16 L S K M = hgEx X (0, 0) (hgWC X) (hgWJ X 33) hgr33_16 L S K M := hgW_eq X 33 16 L S K M
theorem hgv33_16 : hgWJ X 33 16 L S K M = hgW X 33 16 (hgMask [true, true, false] L) S K M := id rfl
theorem hgu33_18 : hgW X 33 18 L S K M = hgEx X (0, 0) (hgWC X) (hgWJ X 33) hgr33_18 L S K M := hgW_eq X 33 18 L S K M
theorem hgv33_18 : hgWJ X 33 18 L S K M = hgW X 33 18 (hgMask [true, true, false] L) S K M := id rfl
theorem hgu33_32 : hgW X 33 32 L S K M = hgEx X (0, 0) (hgWC X) (hgWJ X 33) hgr33_32 L S K M := hgW_eq X 33 32 L S K M
theorem hgv33_32 : hgWJ X 33 32 L S K M = hgW X 33 32 (hgMask [false, false, false] L) S K M := id rfl
theorem hgu33_33 : hgW X 33 33 L S K M = hgEx X (0, 0) (hgWC X) (hgWJ X 33) hgr33_33 L S K M := hgW_eq X 33 33 L S K M
theorem hgv33_33 : hgWJ X 33 33 L S K M = hgW X 33 33 (hgMask [true, true, true] L) S K M := id rfl
/- X3_init -/
theorem hgc34 (a0 : Nat) : hgWC X 34 [.ref a0] M = hgW X 34 0 [some (.ref a0)] [] (0, 0) M := if_pos (Nat.le_of_ble_eq_true rfl)
theorem hgu34_0 : hgW X 34 0 L S K M = hgEx X (3, 1536) (hgWC X) (hgWJ X 34) hgr34_0 L S K M := hgW_eq X 34 0 L S K M
theorem hgv34_0 : hgWJ X 34 0 L S K M = hgW X 34 0 (hgMask [true] L) S K M := id rfl
/- X3_isFull -/
theorem hgc35 (a0 : Nat) : hgWC X 35 [.ref a0] M = hgW X 35 0 [some (.ref a0)] [] (0, 0) M := if_pos (Nat.le_of_ble_eq_true rfl)
theorem hgu35_0 : hgW X 35 0 L S K M = hgEx X (0, 0) (hgWC X) (hgWJ X 35) hgr35_0 L S K M := hgW_eq X 35 0 L S K M
theorem hgv35_0 : hgWJ X 35 0 L S K M = hgW X 35 0 (hgMask [true] L) S K M := id rfl
theorem hgu35_14 : hgW X 35 14 L S K M = hgEx X (0, 0) (hgWC X) (hgWJ X 35) hgr35_14 L S K M := hgW_eq X 35 14 L S K M
theorem hgv35_14 : hgWJ X 35 14 L S K M = hgW X 35 14 (hgMask [false] L) S K M := id rfl
theorem hgu35_15 : hgW X 35 15 L S K M = hgEx X (0, 0) (hgWC X) (hgWJ X 35) hgr35_15 L S K M := hgW_eq X 35 15 L S K M
theorem hgv35_15 : hgWJ X 35 15 L S K M = hgW X 35 15 (hgMask [false] L) S K M := id rfl
/- X3_holds -/
theorem hgc36 (a0 : Nat) (x1 : Int32) : hgWC X 36 [.ref a0, .int x1] M = hgW X 36 0 [some (.ref a0), some (.int x1)] [] (0, 0) M := if_pos (Nat.le_of_ble_eq_true rfl)
theorem hgu36_0 : hgW X 36 0 L S K M = hgEx X (0, 0) (hgWC X) (hgWJ X 36) hgr36_0 L S K M := hgW_eq X 36 0 L S K M
theorem hgv36_0 : hgWJ X 36 0 L S K M = hgW X 36 0 (hgMask [true, true] L) S K M := id rfl
theorem hgu36_16 : hgW X 36 16 L S K M = hgEx X (0, 0) (hgWC X) (hgWJ X 36) hgr36_16 L S K M := hgW_eq X 36 16 L S K M
theorem hgv36_16 : hgWJ X 36 16 L S K M = hgW X 36 16 (hgMask [false, false] L) S K M := id rfl
theorem hgu36_17 : hgW X 36 17 L S K M = hgEx X (0, 0) (hgWC X) (hgWJ X 36) hgr36_17 L S K M := hgW_eq X 36 17 L S K M
theorem hgv36_17 : hgWJ X 36 17 L S K M = hgW X 36 17 (hgMask [false, false] L) S K M := id rfl
/- X3_put -/
theorem hgc37 (a0 : Nat) (x1 x2 : Int32) : hgWC X 37 [.ref a0, .int x1, .int x2] M = hgW X 37 0 [some (.ref a0), some (.int x1), some (.int x2)] [] (0, 0) M := if_pos (Nat.le_of_ble_eq_true rfl)
theorem hgu37_0 : hgW X 37 0 L S K M = hgEx X (0, 0) (hgWC X) (hgWJ X 37) hgr37_0 L S K M := hgW_eq X 37 0 L S K M
theorem hgv37_0 : hgWJ X 37 0 L S K M = hgW X 37 0 (hgMask [true, true, true] L) S K M := id rfl
theorem hgu37_9 : hgW X 37 9 L S K M = hgEx X (0, 0) (hgWC X) (hgWJ X 37) hgr37_9 L S K M := hgW_eq X 37 9 L S K M
theorem hgv37_9 : hgWJ X 37 9 L S K M = hgW X 37 9 (hgMask [true, true, true] L) S K M := id rfl
/- X3_link -/
theorem hgc38 (a0 : Nat) (x1 x2 : Int32) : hgWC X 38 [.ref a0, .int x1, .int x2] M = hgW X 38 0 [some (.ref a0), some (.int x1), some (.int x2)] [] (0, 0) M := if_pos (Nat.le_of_ble_eq_true rfl)
theorem hgu38_0 : hgW X 38 0 L S K M = hgEx X (0, 0) (hgWC X) (hgWJ X 38) hgr38_0 L S K M := hgW_eq X 38 0 L S K M
theorem hgv38_0 : hgWJ X 38 0 L S K M = hgW X 38 0 (hgMask [true, true, true] L) S K M := id rfl
theorem hgu38_15 : hgW X 38 15 L S K M = hgEx X (0, 0) (hgWC X) (hgWJ X 38) hgr38_15 L S K M := hgW_eq X 38 15 L S K M
theorem hgv38_15 : hgWJ X 38 15 L S K M = hgW X 38 15 (hgMask [false, false, false] L) S K M := id rfl
/- X3_sizeOf -/
theorem hgc39 (a0 : Nat) (x1 : Int32) : hgWC X 39 [.ref a0, .int x1] M = hgW X 39 0 [some (.ref a0), some (.int x1)] [] (0, 0) M := if_pos (Nat.le_of_ble_eq_true rfl)
theorem hgu39_0 : hgW X 39 0 L S K M = hgEx X (0, 0) (hgWC X) (hgWJ X 39) hgr39_0 L S K M := hgW_eq X 39 0 L S K M
theorem hgv39_0 : hgWJ X 39 0 L S K M = hgW X 39 0 (hgMask [true, true] L) S K M := id rfl
theorem hgu39_17 : hgW X 39 17 L S K M = hgEx X (0, 0) (hgWC X) (hgWJ X 39) hgr39_17 L S K M := hgW_eq X 39 17 L S K M
theorem hgv39_17 : hgWJ X 39 17 L S K M = hgW X 39 17 (hgMask [false, false] L) S K M := id rfl
theorem hgu39_18 : hgW X 39 18 L S K M = hgEx X (0, 0) (hgWC X) (hgWJ X 39) hgr39_18 L S K M := hgW_eq X 39 18 L S K M
theorem hgv39_18 : hgWJ X 39 18 L S K M = hgW X 39 18 (hgMask [false, false] L) S K M := id rfl
/- X3_arrivalOf -/
theorem hgc40 (a0 : Nat) (x1 : Int32) : hgWC X 40 [.ref a0, .int x1] M = hgW X 40 0 [some (.ref a0), some (.int x1)] [] (0, 0) M := if_pos (Nat.le_of_ble_eq_true rfl)
theorem hgu40_0 : hgW X 40 0 L S K M = hgEx X (0, 0) (hgWC X) (hgWJ X 40) hgr40_0 L S K M := hgW_eq X 40 0 L S K M
theorem hgv40_0 : hgWJ X 40 0 L S K M = hgW X 40 0 (hgMask [true, true] L) S K M := id rfl
theorem hgu40_17 : hgW X 40 17 L S K M = hgEx X (0, 0) (hgWC X) (hgWJ X 40) hgr40_17 L S K M := hgW_eq X 40 17 L S K M
theorem hgv40_17 : hgWJ X 40 17 L S K M = hgW X 40 17 (hgMask [false, false] L) S K M := id rfl
theorem hgu40_18 : hgW X 40 18 L S K M = hgEx X (0, 0) (hgWC X) (hgWJ X 40) hgr40_18 L S K M := hgW_eq X 40 18 L S K M
theorem hgv40_18 : hgWJ X 40 18 L S K M = hgW X 40 18 (hgMask [false, false] L) S K M := id rfl
/- X3_followerOf -/
theorem hgc41 (a0 : Nat) (x1 : Int32) : hgWC X 41 [.ref a0, .int x1] M = hgW X 41 0 [some (.ref a0), some (.int x1)] [] (0, 0) M := if_pos (Nat.le_of_ble_eq_true rfl)
theorem hgu41_0 : hgW X 41 0 L S K M = hgEx X (0, 0) (hgWC X) (hgWJ X 41) hgr41_0 L S K M := hgW_eq X 41 0 L S K M
theorem hgv41_0 : hgWJ X 41 0 L S K M = hgW X 41 0 (hgMask [true, true] L) S K M := id rfl
theorem hgu41_17 : hgW X 41 17 L S K M = hgEx X (0, 0) (hgWC X) (hgWJ X 41) hgr41_17 L S K M := hgW_eq X 41 17 L S K M
theorem hgv41_17 : hgWJ X 41 17 L S K M = hgW X 41 17 (hgMask [false, false] L) S K M := id rfl
theorem hgu41_18 : hgW X 41 18 L S K M = hgEx X (0, 0) (hgWC X) (hgWJ X 41) hgr41_18 L S K M := hgW_eq X 41 18 L S K M
theorem hgv41_18 : hgWJ X 41 18 L S K M = hgW X 41 18 (hgMask [false, false] L) S K M := id rfl
/- X4_init -/
theorem hgc42 (a0 : Nat) : hgWC X 42 [.ref a0] M = hgW X 42 0 [some (.ref a0)] [] (0, 0) M := if_pos (Nat.le_of_ble_eq_true rfl)
theorem hgu42_0 : hgW X 42 0 L S K M = hgEx X (0, 0) (hgWC X) (hgWJ X 42) hgr42_0 L S K M := hgW_eq X 42 0 L S K M
theorem hgv42_0 : hgWJ X 42 0 L S K M = hgW X 42 0 (hgMask [true] L) S K M := id rfl
/- X4_setUp -/
theorem hgc43 (a0 : Nat) (x1 x2 x3 x4 x5 : Int32) : hgWC X 43 [.ref a0, .int x1, .int x2, .int x3, .int x4, .int x5] M = hgW X 43 0 [some (.ref a0), some (.int x1), some (.int x2), some (.int x3), some (.int x4), some (.int x5)] [] (0, 0) M := if_pos (Nat.le_of_ble_eq_true rfl)
theorem hgu43_0 : hgW X 43 0 L S K M = hgEx X (0, 0) (hgWC X) (hgWJ X 43) hgr43_0 L S K M := hgW_eq X 43 0 L S K M
theorem hgv43_0 : hgWJ X 43 0 L S K M = hgW X 43 0 (hgMask [true, true, true, true, true, true] L) S K M := id rfl
/- X4_copyFrom -/
theorem hgc44 (a0 a1 : Nat) : hgWC X 44 [.ref a0, .ref a1] M = hgW X 44 0 [some (.ref a0), some (.ref a1)] [] (0, 0) M := if_pos (Nat.le_of_ble_eq_true rfl)
theorem hgu44_0 : hgW X 44 0 L S K M = hgEx X (0, 0) (hgWC X) (hgWJ X 44) hgr44_0 L S K M := hgW_eq X 44 0 L S K M
theorem hgv44_0 : hgWJ X 44 0 L S K M = hgW X 44 0 (hgMask [true, true] L) S K M := id rfl
/- X4_matchesGroups -/
theorem hgc45 (a0 : Nat) (x1 x2 : Int32) : hgWC X 45 [.ref a0, .int x1, .int x2] M = hgW X 45 0 [some (.ref a0), some (.int x1), some (.int x2)] [] (0, 0) M := if_pos (Nat.le_of_ble_eq_true rfl)
theorem hgu45_0 : hgW X 45 0 L S K M = hgEx X (0, 0) (hgWC X) (hgWJ X 45) hgr45_0 L S K M := hgW_eq X 45 0 L S K M
theorem hgv45_0 : hgWJ X 45 0 L S K M = hgW X 45 0 (hgMask [true, true, true] L) S K M := id rfl
theorem hgu45_16 : hgW X 45 16 L S K M = hgEx X (0, 0) (hgWC X) (hgWJ X 45) hgr45_16 L S K M := hgW_eq X 45 16 L S K M
theorem hgv45_16 : hgWJ X 45 16 L S K M = hgW X 45 16 (hgMask [true, false, true] L) S K M := id rfl
theorem hgu45_32 : hgW X 45 32 L S K M = hgEx X (0, 0) (hgWC X) (hgWJ X 45) hgr45_32 L S K M := hgW_eq X 45 32 L S K M
theorem hgv45_32 : hgWJ X 45 32 L S K M = hgW X 45 32 (hgMask [false, false, false] L) S K M := id rfl
theorem hgu45_36 : hgW X 45 36 L S K M = hgEx X (0, 0) (hgWC X) (hgWJ X 45) hgr45_36 L S K M := hgW_eq X 45 36 L S K M
theorem hgv45_36 : hgWJ X 45 36 L S K M = hgW X 45 36 (hgMask [false, false, false] L) S K M := id rfl
theorem hgu45_37 : hgW X 45 37 L S K M = hgEx X (0, 0) (hgWC X) (hgWJ X 45) hgr45_37 L S K M := hgW_eq X 45 37 L S K M
theorem hgv45_37 : hgWJ X 45 37 L S K M = hgW X 45 37 (hgMask [false, false, false] L) S K M := id rfl
/- X4_matches -/
theorem hgc46 (a0 : Nat) (x1 x2 x3 : Int32) : hgWC X 46 [.ref a0, .int x1, .int x2, .int x3] M = hgW X 46 0 [some (.ref a0), some (.int x1), some (.int x2), some (.int x3)] [] (0, 0) M := if_pos (Nat.le_of_ble_eq_true rfl)
theorem hgu46_0 : hgW X 46 0 L S K M = hgEx X (0, 0) (hgWC X) (hgWJ X 46) hgr46_0 L S K M := hgW_eq X 46 0 L S K M
theorem hgv46_0 : hgWJ X 46 0 L S K M = hgW X 46 0 (hgMask [true, true, true, true] L) S K M := id rfl
theorem hgu46_29 : hgW X 46 29 L S K M = hgEx X (0, 0) (hgWC X) (hgWJ X 46) hgr46_29 L S K M := hgW_eq X 46 29 L S K M
theorem hgv46_29 : hgWJ X 46 29 L S K M = hgW X 46 29 (hgMask [false, false, false, false] L) S K M := id rfl
theorem hgu46_30 : hgW X 46 30 L S K M = hgEx X (0, 0) (hgWC X) (hgWJ X 46) hgr46_30 L S K M := hgW_eq X 46 30 L S K M
theorem hgv46_30 : hgWJ X 46 30 L S K M = hgW X 46 30 (hgMask [false, false, false, false] L) S K M := id rfl
/- X5_init -/
theorem hgc47 (a0 : Nat) : hgWC X 47 [.ref a0] M = hgW X 47 0 [some (.ref a0), none] [] (0, 0) M := if_pos (Nat.le_of_ble_eq_true rfl)
theorem hgu47_0 : hgW X 47 0 L S K M = hgEx X (13, 72) (hgWC X) (hgWJ X 47) hgr47_0 L S K M := hgW_eq X 47 0 L S K M
theorem hgv47_0 : hgWJ X 47 0 L S K M = hgW X 47 0 (hgMask [true, false] L) S K M := id rfl
theorem hgu47_15 : hgW X 47 15 L S K M = hgEx X (13, 72) (hgWC X) (hgWJ X 47) hgr47_15 L S K M := hgW_eq X 47 15 L S K M
theorem hgv47_15 : hgWJ X 47 15 L S K M = hgW X 47 15 (hgMask [true, true] L) S K M := id rfl
theorem hgu47_40 : hgW X 47 40 L S K M = hgEx X (13, 72) (hgWC X) (hgWJ X 47) hgr47_40 L S K M := hgW_eq X 47 40 L S K M
theorem hgv47_40 : hgWJ X 47 40 L S K M = hgW X 47 40 (hgMask [false, false] L) S K M := id rfl
/- X5_copyFrom -/
theorem hgc48 (a0 a1 : Nat) : hgWC X 48 [.ref a0, .ref a1] M = hgW X 48 0 [some (.ref a0), some (.ref a1), none] [] (0, 0) M := if_pos (Nat.le_of_ble_eq_true rfl)
theorem hgu48_0 : hgW X 48 0 L S K M = hgEx X (0, 0) (hgWC X) (hgWJ X 48) hgr48_0 L S K M := hgW_eq X 48 0 L S K M
theorem hgv48_0 : hgWJ X 48 0 L S K M = hgW X 48 0 (hgMask [true, true, false] L) S K M := id rfl
theorem hgu48_10 : hgW X 48 10 L S K M = hgEx X (0, 0) (hgWC X) (hgWJ X 48) hgr48_10 L S K M := hgW_eq X 48 10 L S K M
theorem hgv48_10 : hgWJ X 48 10 L S K M = hgW X 48 10 (hgMask [true, true, true] L) S K M := id rfl
theorem hgu48_39 : hgW X 48 39 L S K M = hgEx X (0, 0) (hgWC X) (hgWJ X 48) hgr48_39 L S K M := hgW_eq X 48 39 L S K M
theorem hgv48_39 : hgWJ X 48 39 L S K M = hgW X 48 39 (hgMask [false, false, false] L) S K M := id rfl
/- X5_isFull -/
theorem hgc49 (a0 : Nat) : hgWC X 49 [.ref a0] M = hgW X 49 0 [some (.ref a0)] [] (0, 0) M := if_pos (Nat.le_of_ble_eq_true rfl)
theorem hgu49_0 : hgW X 49 0 L S K M = hgEx X (0, 0) (hgWC X) (hgWJ X 49) hgr49_0 L S K M := hgW_eq X 49 0 L S K M
theorem hgv49_0 : hgWJ X 49 0 L S K M = hgW X 49 0 (hgMask [true] L) S K M := id rfl
theorem hgu49_13 : hgW X 49 13 L S K M = hgEx X (0, 0) (hgWC X) (hgWJ X 49) hgr49_13 L S K M := hgW_eq X 49 13 L S K M
theorem hgv49_13 : hgWJ X 49 13 L S K M = hgW X 49 13 (hgMask [false] L) S K M := id rfl
theorem hgu49_14 : hgW X 49 14 L S K M = hgEx X (0, 0) (hgWC X) (hgWJ X 49) hgr49_14 L S K M := hgW_eq X 49 14 L S K M
theorem hgv49_14 : hgWJ X 49 14 L S K M = hgW X 49 14 (hgMask [false] L) S K M := id rfl
/- X5_putLast -/
theorem hgc50 (a0 : Nat) (x1 x2 x3 x4 x5 : Int32) : hgWC X 50 [.ref a0, .int x1, .int x2, .int x3, .int x4, .int x5] M = hgW X 50 0 [some (.ref a0), some (.int x1), some (.int x2), some (.int x3), some (.int x4), some (.int x5)] [] (0, 0) M := if_pos (Nat.le_of_ble_eq_true rfl)
theorem hgu50_0 : hgW X 50 0 L S K M = hgEx X (0, 0) (hgWC X) (hgWJ X 50) hgr50_0 L S K M := hgW_eq X 50 0 L S K M
theorem hgv50_0 : hgWJ X 50 0 L S K M = hgW X 50 0 (hgMask [true, true, true, true, true, true] L) S K M := id rfl
theorem hgu50_45 : hgW X 50 45 L S K M = hgEx X (0, 0) (hgWC X) (hgWJ X 50) hgr50_45 L S K M := hgW_eq X 50 45 L S K M
theorem hgv50_45 : hgWJ X 50 45 L S K M = hgW X 50 45 (hgMask [false, false, false, false, false, false] L) S K M := id rfl
/- X5_takeOut -/
theorem hgc51 (a0 : Nat) (x1 : Int32) : hgWC X 51 [.ref a0, .int x1] M = hgW X 51 0 [some (.ref a0), some (.int x1)] [] (0, 0) M := if_pos (Nat.le_of_ble_eq_true rfl)
theorem hgu51_0 : hgW X 51 0 L S K M = hgEx X (0, 0) (hgWC X) (hgWJ X 51) hgr51_0 L S K M := hgW_eq X 51 0 L S K M
theorem hgv51_0 : hgWJ X 51 0 L S K M = hgW X 51 0 (hgMask [true, true] L) S K M := id rfl
theorem hgu51_33 : hgW X 51 33 L S K M = hgEx X (0, 0) (hgWC X) (hgWJ X 51) hgr51_33 L S K M := hgW_eq X 51 33 L S K M
theorem hgv51_33 : hgWJ X 51 33 L S K M = hgW X 51 33 (hgMask [false, false] L) S K M := id rfl
/- X5_shift -/
theorem hgc52 (a0 : Nat) (x1 x2 : Int32) : hgWC X 52 [.ref a0, .int x1, .int x2] M = hgW X 52 0 [some (.ref a0), some (.int x1), some (.int x2), none, none] [] (0, 0) M := if_pos (Nat.le_of_ble_eq_true rfl)
theorem hgu52_0 : hgW X 52 0 L S K M = hgEx X (0, 0) (hgWC X) (hgWJ X 52) hgr52_0 L S K M := hgW_eq X 52 0 L S K M
theorem hgv52_0 : hgWJ X 52 0 L S K M = hgW X 52 0 (hgMask [true, true, true, false, false] L) S K M := id rfl
theorem hgu52_24 : hgW X 52 24 L S K M = hgEx X (0, 0) (hgWC X) (hgWJ X 52) hgr52_24 L S K M := hgW_eq X 52 24 L S K M
theorem hgv52_24 : hgWJ X 52 24 L S K M = hgW X 52 24 (hgMask [false, false, false, false, false] L) S K M := id rfl
theorem hgu52_25 : hgW X 52 25 L S K M = hgEx X (0, 0) (hgWC X) (hgWJ X 52) hgr52_25 L S K M := hgW_eq X 52 25 L S K M
theorem hgv52_25 : hgWJ X 52 25 L S K M = hgW X 52 25 (hgMask [true, true, true, false, false] L) S K M := id rfl
theorem hgu52_35 : hgW X 52 35 L S K M = hgEx X (0, 0) (hgWC X) (hgWJ X 52) hgr52_35 L S K M := hgW_eq X 52 35 L S K M
theorem hgv52_35 : hgWJ X 52 35 L S K M = hgW X 52 35 (hgMask [true, true, true, true, true] L) S K M := id rfl
theorem hgu52_63 : hgW X 52 63 L S K M = hgEx X (0, 0) (hgWC X) (hgWJ X 52) hgr52_63 L S K M := hgW_eq X 52 63 L S K M
theorem hgv52_63 : hgWJ X 52 63 L S K M = hgW X 52 63 (hgMask [true, true, true, true, false] L) S K M := id rfl
theorem hgu52_66 : hgW X 52 66 L S K M = hgEx X (0, 0) (hgWC X) (hgWJ X 52) hgr52_66 L S K M := hgW_eq X 52 66 L S K M
theorem hgv52_66 : hgWJ X 52 66 L S K M = hgW X 52 66 (hgMask [true, false, true, true, true] L) S K M := id rfl
theorem hgu52_94 : hgW X 52 94 L S K M = hgEx X (0, 0) (hgWC X) (hgWJ X 52) hgr52_94 L S K M := hgW_eq X 52 94 L S K M
theorem hgv52_94 : hgWJ X 52 94 L S K M = hgW X 52 94 (hgMask [true, false, true, true, false] L) S K M := id rfl
/- X5_firstMatch -/
theorem hgc53 (a0 : Nat) (x1 x2 x3 : Int32) : hgWC X 53 [.ref a0, .int x1, .int x2, .int x3] M = hgW X 53 0 [some (.ref a0), some (.int x1), some (.int x2), some (.int x3), none] [] (0, 0) M := if_pos (Nat.le_of_ble_eq_true rfl)
theorem hgu53_0 : hgW X 53 0 L S K M = hgEx X (0, 0) (hgWC X) (hgWJ X 53) hgr53_0 L S K M := hgW_eq X 53 0 L S K M
theorem hgv53_0 : hgWJ X 53 0 L S K M = hgW X 53 0 (hgMask [true, true, true, true, false] L) S K M := id rfl
theorem hgu53_3 : hgW X 53 3 L S K M = hgEx X (0, 0) (hgWC X) (hgWJ X 53) hgr53_3 L S K M := hgW_eq X 53 3 L S K M
theorem hgv53_3 : hgWJ X 53 3 L S K M = hgW X 53 3 (hgMask [true, true, true, true, true] L) S K M := id rfl
theorem hgu53_31 : hgW X 53 31 L S K M = hgEx X (0, 0) (hgWC X) (hgWJ X 53) hgr53_31 L S K M := hgW_eq X 53 31 L S K M
theorem hgv53_31 : hgWJ X 53 31 L S K M = hgW X 53 31 (hgMask [true, true, true, true, true] L) S K M := id rfl
theorem hgu53_37 : hgW X 53 37 L S K M = hgEx X (0, 0) (hgWC X) (hgWJ X 53) hgr53_37 L S K M := hgW_eq X 53 37 L S K M
theorem hgv53_37 : hgWJ X 53 37 L S K M = hgW X 53 37 (hgMask [false, false, false, false, false] L) S K M := id rfl
/- X5_allows -/
theorem hgc54 (a0 : Nat) (x1 : Int32) : hgWC X 54 [.ref a0, .int x1] M = hgW X 54 0 [some (.ref a0), some (.int x1)] [] (0, 0) M := if_pos (Nat.le_of_ble_eq_true rfl)
theorem hgu54_0 : hgW X 54 0 L S K M = hgEx X (0, 0) (hgWC X) (hgWJ X 54) hgr54_0 L S K M := hgW_eq X 54 0 L S K M
theorem hgv54_0 : hgWJ X 54 0 L S K M = hgW X 54 0 (hgMask [true, true] L) S K M := id rfl
theorem hgu54_28 : hgW X 54 28 L S K M = hgEx X (0, 0) (hgWC X) (hgWJ X 54) hgr54_28 L S K M := hgW_eq X 54 28 L S K M
theorem hgv54_28 : hgWJ X 54 28 L S K M = hgW X 54 28 (hgMask [false, false] L) S K M := id rfl
theorem hgu54_29 : hgW X 54 29 L S K M = hgEx X (0, 0) (hgWC X) (hgWJ X 54) hgr54_29 L S K M := hgW_eq X 54 29 L S K M
theorem hgv54_29 : hgWJ X 54 29 L S K M = hgW X 54 29 (hgMask [false, false] L) S K M := id rfl
/- X5_nextEdge -/
theorem hgc55 (a0 : Nat) (x1 : Int32) : hgWC X 55 [.ref a0, .int x1] M = hgW X 55 0 [some (.ref a0), some (.int x1), none, none] [] (0, 0) M := if_pos (Nat.le_of_ble_eq_true rfl)
theorem hgu55_0 : hgW X 55 0 L S K M = hgEx X (0, 0) (hgWC X) (hgWJ X 55) hgr55_0 L S K M := hgW_eq X 55 0 L S K M
theorem hgv55_0 : hgWJ X 55 0 L S K M = hgW X 55 0 (hgMask [true, true, false, false] L) S K M := id rfl
theorem hgu55_6 : hgW X 55 6 L S K M = hgEx X (0, 0) (hgWC X) (hgWJ X 55) hgr55_6 L S K M := hgW_eq X 55 6 L S K M
theorem hgv55_6 : hgWJ X 55 6 L S K M = hgW X 55 6 (hgMask [true, true, true, true] L) S K M := id rfl
theorem hgu55_41 : hgW X 55 41 L S K M = hgEx X (0, 0) (hgWC X) (hgWJ X 55) hgr55_41 L S K M := hgW_eq X 55 41 L S K M
theorem hgv55_41 : hgWJ X 55 41 L S K M = hgW X 55 41 (hgMask [true, true, true, true] L) S K M := id rfl
theorem hgu55_72 : hgW X 55 72 L S K M = hgEx X (0, 0) (hgWC X) (hgWJ X 55) hgr55_72 L S K M := hgW_eq X 55 72 L S K M
theorem hgv55_72 : hgWJ X 55 72 L S K M = hgW X 55 72 (hgMask [true, true, true, true] L) S K M := id rfl
theorem hgu55_78 : hgW X 55 78 L S K M = hgEx X (0, 0) (hgWC X) (hgWJ X 55) hgr55_78 L S K M := hgW_eq X 55 78 L S K M
theorem hgv55_78 : hgWJ X 55 78 L S K M = hgW X 55 78 (hgMask [false, false, true, false] L) S K M := id rfl
/- X5_isCovered -/
theorem hgc56 (a0 : Nat) (x1 : Int32) : hgWC X 56 [.ref a0, .int x1] M = hgW X 56 0 [some (.ref a0), some (.int x1), none, none] [] (0, 0) M := if_pos (Nat.le_of_ble_eq_true rfl)
theorem hgu56_0 : hgW X 56 0 L S K M = hgEx X (0, 0) (hgWC X) (hgWJ X 56) hgr56_0 L S K M := hgW_eq X 56 0 L S K M
theorem hgv56_0 : hgWJ X 56 0 L S K M = hgW X 56 0 (hgMask [true, true, false, false] L) S K M := id rfl
theorem hgu56_12 : hgW X 56 12 L S K M = hgEx X (0, 0) (hgWC X) (hgWJ X 56) hgr56_12 L S K M := hgW_eq X 56 12 L S K M
theorem hgv56_12 : hgWJ X 56 12 L S K M = hgW X 56 12 (hgMask [false, false, false, false] L) S K M := id rfl
theorem hgu56_14 : hgW X 56 14 L S K M = hgEx X (0, 0) (hgWC X) (hgWJ X 56) hgr56_14 L S K M := hgW_eq X 56 14 L S K M
theorem hgv56_14 : hgWJ X 56 14 L S K M = hgW X 56 14 (hgMask [true, true, false, false] L) S K M := id rfl
theorem hgu56_16 : hgW X 56 16 L S K M = hgEx X (0, 0) (hgWC X) (hgWJ X 56) hgr56_16 L S K M := hgW_eq X 56 16 L S K M
theorem hgv56_16 : hgWJ X 56 16 L S K M = hgW X 56 16 (hgMask [true, true, true, false] L) S K M := id rfl
theorem hgu56_23 : hgW X 56 23 L S K M = hgEx X (0, 0) (hgWC X) (hgWJ X 56) hgr56_23 L S K M := hgW_eq X 56 23 L S K M
theorem hgv56_23 : hgWJ X 56 23 L S K M = hgW X 56 23 (hgMask [true, true, true, true] L) S K M := id rfl
theorem hgu56_54 : hgW X 56 54 L S K M = hgEx X (0, 0) (hgWC X) (hgWJ X 56) hgr56_54 L S K M := hgW_eq X 56 54 L S K M
theorem hgv56_54 : hgWJ X 56 54 L S K M = hgW X 56 54 (hgMask [true, true, true, true] L) S K M := id rfl
theorem hgu56_60 : hgW X 56 60 L S K M = hgEx X (0, 0) (hgWC X) (hgWJ X 56) hgr56_60 L S K M := hgW_eq X 56 60 L S K M
theorem hgv56_60 : hgWJ X 56 60 L S K M = hgW X 56 60 (hgMask [true, true, true, false] L) S K M := id rfl
theorem hgu56_66 : hgW X 56 66 L S K M = hgEx X (0, 0) (hgWC X) (hgWJ X 56) hgr56_66 L S K M := hgW_eq X 56 66 L S K M
theorem hgv56_66 : hgWJ X 56 66 L S K M = hgW X 56 66 (hgMask [false, false, false, false] L) S K M := id rfl
/- X5_isCoveredFor -/
theorem hgc57 (a0 : Nat) (x1 x2 x3 : Int32) : hgWC X 57 [.ref a0, .int x1, .int x2, .int x3] M = hgW X 57 0 [some (.ref a0), some (.int x1), some (.int x2), some (.int x3), none, none, none, none] [] (0, 0) M := if_pos (Nat.le_of_ble_eq_true rfl)
theorem hgu57_0 : hgW X 57 0 L S K M = hgEx X (0, 0) (hgWC X) (hgWJ X 57) hgr57_0 L S K M := hgW_eq X 57 0 L S K M
theorem hgv57_0 : hgWJ X 57 0 L S K M = hgW X 57 0 (hgMask [true, true, true, true, false, false, false, false] L) S K M := id rfl
theorem hgu57_12 : hgW X 57 12 L S K M = hgEx X (0, 0) (hgWC X) (hgWJ X 57) hgr57_12 L S K M := hgW_eq X 57 12 L S K M
theorem hgv57_12 : hgWJ X 57 12 L S K M = hgW X 57 12 (hgMask [false, false, false, false, false, false, false, false] L) S K M := id rfl
theorem hgu57_14 : hgW X 57 14 L S K M = hgEx X (0, 0) (hgWC X) (hgWJ X 57) hgr57_14 L S K M := hgW_eq X 57 14 L S K M
theorem hgv57_14 : hgWJ X 57 14 L S K M = hgW X 57 14 (hgMask [true, true, true, true, false, false, false, false] L) S K M := id rfl
theorem hgu57_50 : hgW X 57 50 L S K M = hgEx X (0, 0) (hgWC X) (hgWJ X 57) hgr57_50 L S K M := hgW_eq X 57 50 L S K M
theorem hgv57_50 : hgWJ X 57 50 L S K M = hgW X 57 50 (hgMask [true, true, true, true, true, true, false, false] L) S K M := id rfl
theorem hgu57_53 : hgW X 57 53 L S K M = hgEx X (0, 0) (hgWC X) (hgWJ X 57) hgr57_53 L S K M := hgW_eq X 57 53 L S K M
theorem hgv57_53 : hgWJ X 57 53 L S K M = hgW X 57 53 (hgMask [true, true, true, true, true, true, true, false] L) S K M := id rfl
theorem hgu57_101 : hgW X 57 101 L S K M = hgEx X (0, 0) (hgWC X) (hgWJ X 57) hgr57_101 L S K M := hgW_eq X 57 101 L S K M
theorem hgv57_101 : hgWJ X 57 101 L S K M = hgW X 57 101 (hgMask [true, true, true, true, true, true, true, false] L) S K M := id rfl
theorem hgu57_107 : hgW X 57 107 L S K M = hgEx X (0, 0) (hgWC X) (hgWJ X 57) hgr57_107 L S K M := hgW_eq X 57 107 L S K M
theorem hgv57_107 : hgWJ X 57 107 L S K M = hgW X 57 107 (hgMask [false, false, false, false, false, false, false, false] L) S K M := id rfl
/- X5_matchesEarlier -/
theorem hgc58 (a0 : Nat) (x1 x2 x3 x4 : Int32) : hgWC X 58 [.ref a0, .int x1, .int x2, .int x3, .int x4] M = hgW X 58 0 [some (.ref a0), some (.int x1), some (.int x2), some (.int x3), some (.int x4), none] [] (0, 0) M := if_pos (Nat.le_of_ble_eq_true rfl)
theorem hgu58_0 : hgW X 58 0 L S K M = hgEx X (0, 0) (hgWC X) (hgWJ X 58) hgr58_0 L S K M := hgW_eq X 58 0 L S K M
theorem hgv58_0 : hgWJ X 58 0 L S K M = hgW X 58 0 (hgMask [true, true, true, true, true, false] L) S K M := id rfl
theorem hgu58_25 : hgW X 58 25 L S K M = hgEx X (0, 0) (hgWC X) (hgWJ X 58) hgr58_25 L S K M := hgW_eq X 58 25 L S K M
theorem hgv58_25 : hgWJ X 58 25 L S K M = hgW X 58 25 (hgMask [false, false, false, false, false, false] L) S K M := id rfl
theorem hgu58_26 : hgW X 58 26 L S K M = hgEx X (0, 0) (hgWC X) (hgWJ X 58) hgr58_26 L S K M := hgW_eq X 58 26 L S K M
theorem hgv58_26 : hgWJ X 58 26 L S K M = hgW X 58 26 (hgMask [false, false, false, false, false, false] L) S K M := id rfl
/- X5_addTo -/
theorem hgc59 (a0 : Nat) (u1 : Int64) : hgWC X 59 [.ref a0, .long u1] M = hgW X 59 0 [some (.ref a0), some (.long u1), none, none, none, none, none] [] (0, 0) M := if_pos (Nat.le_of_ble_eq_true rfl)
theorem hgu59_0 : hgW X 59 0 L S K M = hgEx X (0, 0) (hgWC X) (hgWJ X 59) hgr59_0 L S K M := hgW_eq X 59 0 L S K M
theorem hgv59_0 : hgWJ X 59 0 L S K M = hgW X 59 0 (hgMask [true, true, false, false, false, false, false] L) S K M := id rfl
theorem hgu59_5 : hgW X 59 5 L S K M = hgEx X (0, 0) (hgWC X) (hgWJ X 59) hgr59_5 L S K M := hgW_eq X 59 5 L S K M
theorem hgv59_5 : hgWJ X 59 5 L S K M = hgW X 59 5 (hgMask [true, false, false, true, false, true, false] L) S K M := id rfl
theorem hgu59_40 : hgW X 59 40 L S K M = hgEx X (0, 0) (hgWC X) (hgWJ X 59) hgr59_40 L S K M := hgW_eq X 59 40 L S K M
theorem hgv59_40 : hgWJ X 59 40 L S K M = hgW X 59 40 (hgMask [true, false, false, false, false, true, true] L) S K M := id rfl
theorem hgu59_41 : hgW X 59 41 L S K M = hgEx X (0, 0) (hgWC X) (hgWJ X 59) hgr59_41 L S K M := hgW_eq X 59 41 L S K M
theorem hgv59_41 : hgWJ X 59 41 L S K M = hgW X 59 41 (hgMask [true, false, false, false, false, true, true] L) S K M := id rfl
theorem hgu59_102 : hgW X 59 102 L S K M = hgEx X (0, 0) (hgWC X) (hgWJ X 59) hgr59_102 L S K M := hgW_eq X 59 102 L S K M
theorem hgv59_102 : hgWJ X 59 102 L S K M = hgW X 59 102 (hgMask [false, false, false, true, false, false, false] L) S K M := id rfl
/- X6_init -/
theorem hgc60 (a0 a1 a2 : Nat) : hgWC X 60 [.ref a0, .ref a1, .ref a2] M = hgW X 60 0 [some (.ref a0), some (.ref a1), some (.ref a2)] [] (0, 0) M := if_pos (Nat.le_of_ble_eq_true rfl)
theorem hgu60_0 : hgW X 60 0 L S K M = hgEx X (1, 3) (hgWC X) (hgWJ X 60) hgr60_0 L S K M := hgW_eq X 60 0 L S K M
theorem hgv60_0 : hgWJ X 60 0 L S K M = hgW X 60 0 (hgMask [true, true, true] L) S K M := id rfl
/- X6_readDraft -/
theorem hgc61 (a0 : Nat) (x1 : Int32) : hgWC X 61 [.ref a0, .int x1] M = hgW X 61 0 [some (.ref a0), some (.int x1), none, none] [] (0, 0) M := if_pos (Nat.le_of_ble_eq_true rfl)
theorem hgu61_0 : hgW X 61 0 L S K M = hgEx X (0, 0) (hgWC X) (hgWJ X 61) hgr61_0 L S K M := hgW_eq X 61 0 L S K M
theorem hgv61_0 : hgWJ X 61 0 L S K M = hgW X 61 0 (hgMask [true, true, false, false] L) S K M := id rfl
theorem hgu61_37 : hgW X 61 37 L S K M = hgEx X (0, 0) (hgWC X) (hgWJ X 61) hgr61_37 L S K M := hgW_eq X 61 37 L S K M
theorem hgv61_37 : hgWJ X 61 37 L S K M = hgW X 61 37 (hgMask [true, false, true, false] L) S K M := id rfl
theorem hgu61_55 : hgW X 61 55 L S K M = hgEx X (0, 0) (hgWC X) (hgWJ X 61) hgr61_55 L S K M := hgW_eq X 61 55 L S K M
theorem hgv61_55 : hgWJ X 61 55 L S K M = hgW X 61 55 (hgMask [true, false, false, false] L) S K M := id rfl
theorem hgu61_83 : hgW X 61 83 L S K M = hgEx X (0, 0) (hgWC X) (hgWJ X 61) hgr61_83 L S K M := hgW_eq X 61 83 L S K M
theorem hgv61_83 : hgWJ X 61 83 L S K M = hgW X 61 83 (hgMask [true, false, false, false] L) S K M := id rfl
theorem hgu61_84 : hgW X 61 84 L S K M = hgEx X (0, 0) (hgWC X) (hgWJ X 61) hgr61_84 L S K M := hgW_eq X 61 84 L S K M
theorem hgv61_84 : hgWJ X 61 84 L S K M = hgW X 61 84 (hgMask [true, false, false, false] L) S K M := id rfl
theorem hgu61_87 : hgW X 61 87 L S K M = hgEx X (0, 0) (hgWC X) (hgWJ X 61) hgr61_87 L S K M := hgW_eq X 61 87 L S K M
theorem hgv61_87 : hgWJ X 61 87 L S K M = hgW X 61 87 (hgMask [true, false, true, true] L) S K M := id rfl
theorem hgu61_123 : hgW X 61 123 L S K M = hgEx X (0, 0) (hgWC X) (hgWJ X 61) hgr61_123 L S K M := hgW_eq X 61 123 L S K M
theorem hgv61_123 : hgWJ X 61 123 L S K M = hgW X 61 123 (hgMask [true, false, false, true] L) S K M := id rfl
theorem hgu61_124 : hgW X 61 124 L S K M = hgEx X (0, 0) (hgWC X) (hgWJ X 61) hgr61_124 L S K M := hgW_eq X 61 124 L S K M
theorem hgv61_124 : hgWJ X 61 124 L S K M = hgW X 61 124 (hgMask [true, false, false, true] L) S K M := id rfl
theorem hgu61_131 : hgW X 61 131 L S K M = hgEx X (0, 0) (hgWC X) (hgWJ X 61) hgr61_131 L S K M := hgW_eq X 61 131 L S K M
theorem hgv61_131 : hgWJ X 61 131 L S K M = hgW X 61 131 (hgMask [true, false, false, false] L) S K M := id rfl
/- X6_fail -/
theorem hgc62 (a0 : Nat) (x1 : Int32) : hgWC X 62 [.ref a0, .int x1] M = hgW X 62 0 [some (.ref a0), some (.int x1)] [] (0, 0) M := if_pos (Nat.le_of_ble_eq_true rfl)
theorem hgu62_0 : hgW X 62 0 L S K M = hgEx X (0, 0) (hgWC X) (hgWJ X 62) hgr62_0 L S K M := hgW_eq X 62 0 L S K M
theorem hgv62_0 : hgWJ X 62 0 L S K M = hgW X 62 0 (hgMask [true, true] L) S K M := id rfl
/- X6_byteAt -/
theorem hgc63 (a0 : Nat) (x1 : Int32) : hgWC X 63 [.ref a0, .int x1] M = hgW X 63 0 [some (.ref a0), some (.int x1)] [] (0, 0) M := if_pos (Nat.le_of_ble_eq_true rfl)
theorem hgu63_0 : hgW X 63 0 L S K M = hgEx X (0, 0) (hgWC X) (hgWJ X 63) hgr63_0 L S K M := hgW_eq X 63 0 L S K M
theorem hgv63_0 : hgWJ X 63 0 L S K M = hgW X 63 0 (hgMask [true, true] L) S K M := id rfl
theorem hgu63_34 : hgW X 63 34 L S K M = hgEx X (0, 0) (hgWC X) (hgWJ X 63) hgr63_34 L S K M := hgW_eq X 63 34 L S K M
theorem hgv63_34 : hgWJ X 63 34 L S K M = hgW X 63 34 (hgMask [false, false] L) S K M := id rfl
theorem hgu63_35 : hgW X 63 35 L S K M = hgEx X (0, 0) (hgWC X) (hgWJ X 63) hgr63_35 L S K M := hgW_eq X 63 35 L S K M
theorem hgv63_35 : hgWJ X 63 35 L S K M = hgW X 63 35 (hgMask [false, false] L) S K M := id rfl
/- X6_isLetterAt -/
theorem hgc64 (a0 : Nat) (x1 : Int32) : hgWC X 64 [.ref a0, .int x1] M = hgW X 64 0 [some (.ref a0), some (.int x1)] [] (0, 0) M := if_pos (Nat.le_of_ble_eq_true rfl)
theorem hgu64_0 : hgW X 64 0 L S K M = hgEx X (0, 0) (hgWC X) (hgWJ X 64) hgr64_0 L S K M := hgW_eq X 64 0 L S K M
theorem hgv64_0 : hgWJ X 64 0 L S K M = hgW X 64 0 (hgMask [true, true] L) S K M := id rfl
theorem hgu64_24 : hgW X 64 24 L S K M = hgEx X (0, 0) (hgWC X) (hgWJ X 64) hgr64_24 L S K M := hgW_eq X 64 24 L S K M
theorem hgv64_24 : hgWJ X 64 24 L S K M = hgW X 64 24 (hgMask [false, false] L) S K M := id rfl
theorem hgu64_25 : hgW X 64 25 L S K M = hgEx X (0, 0) (hgWC X) (hgWJ X 64) hgr64_25 L S K M := hgW_eq X 64 25 L S K M
theorem hgv64_25 : hgWJ X 64 25 L S K M = hgW X 64 25 (hgMask [false, false] L) S K M := id rfl
/- X6_isDigitAt -/
theorem hgc65 (a0 : Nat) (x1 : Int32) : hgWC X 65 [.ref a0, .int x1] M = hgW X 65 0 [some (.ref a0), some (.int x1)] [] (0, 0) M := if_pos (Nat.le_of_ble_eq_true rfl)
theorem hgu65_0 : hgW X 65 0 L S K M = hgEx X (0, 0) (hgWC X) (hgWJ X 65) hgr65_0 L S K M := hgW_eq X 65 0 L S K M
theorem hgv65_0 : hgWJ X 65 0 L S K M = hgW X 65 0 (hgMask [true, true] L) S K M := id rfl
theorem hgu65_24 : hgW X 65 24 L S K M = hgEx X (0, 0) (hgWC X) (hgWJ X 65) hgr65_24 L S K M := hgW_eq X 65 24 L S K M
theorem hgv65_24 : hgWJ X 65 24 L S K M = hgW X 65 24 (hgMask [false, false] L) S K M := id rfl
theorem hgu65_25 : hgW X 65 25 L S K M = hgEx X (0, 0) (hgWC X) (hgWJ X 65) hgr65_25 L S K M := hgW_eq X 65 25 L S K M
theorem hgv65_25 : hgWJ X 65 25 L S K M = hgW X 65 25 (hgMask [false, false] L) S K M := id rfl
/- X6_startToken -/
theorem hgc66 (a0 : Nat) : hgWC X 66 [.ref a0] M = hgW X 66 0 [some (.ref a0)] [] (0, 0) M := if_pos (Nat.le_of_ble_eq_true rfl)
theorem hgu66_0 : hgW X 66 0 L S K M = hgEx X (0, 0) (hgWC X) (hgWJ X 66) hgr66_0 L S K M := hgW_eq X 66 0 L S K M
theorem hgv66_0 : hgWJ X 66 0 L S K M = hgW X 66 0 (hgMask [true] L) S K M := id rfl
theorem hgu66_37 : hgW X 66 37 L S K M = hgEx X (0, 0) (hgWC X) (hgWJ X 66) hgr66_37 L S K M := hgW_eq X 66 37 L S K M
theorem hgv66_37 : hgWJ X 66 37 L S K M = hgW X 66 37 (hgMask [true] L) S K M := id rfl
/- X6_isAtEnd -/
theorem hgc67 (a0 : Nat) : hgWC X 67 [.ref a0] M = hgW X 67 0 [some (.ref a0)] [] (0, 0) M := if_pos (Nat.le_of_ble_eq_true rfl)
theorem hgu67_0 : hgW X 67 0 L S K M = hgEx X (0, 0) (hgWC X) (hgWJ X 67) hgr67_0 L S K M := hgW_eq X 67 0 L S K M
theorem hgv67_0 : hgWJ X 67 0 L S K M = hgW X 67 0 (hgMask [true] L) S K M := id rfl
theorem hgu67_19 : hgW X 67 19 L S K M = hgEx X (0, 0) (hgWC X) (hgWJ X 67) hgr67_19 L S K M := hgW_eq X 67 19 L S K M
theorem hgv67_19 : hgWJ X 67 19 L S K M = hgW X 67 19 (hgMask [false] L) S K M := id rfl
theorem hgu67_20 : hgW X 67 20 L S K M = hgEx X (0, 0) (hgWC X) (hgWJ X 67) hgr67_20 L S K M := hgW_eq X 67 20 L S K M
theorem hgv67_20 : hgWJ X 67 20 L S K M = hgW X 67 20 (hgMask [false] L) S K M := id rfl
/- X6_readSemicolon -/
theorem hgc68 (a0 : Nat) : hgWC X 68 [.ref a0] M = hgW X 68 0 [some (.ref a0)] [] (0, 0) M := if_pos (Nat.le_of_ble_eq_true rfl)
theorem hgu68_0 : hgW X 68 0 L S K M = hgEx X (0, 0) (hgWC X) (hgWJ X 68) hgr68_0 L S K M := hgW_eq X 68 0 L S K M
theorem hgv68_0 : hgWJ X 68 0 L S K M = hgW X 68 0 (hgMask [true] L) S K M := id rfl
theorem hgu68_24 : hgW X 68 24 L S K M = hgEx X (0, 0) (hgWC X) (hgWJ X 68) hgr68_24 L S K M := hgW_eq X 68 24 L S K M
theorem hgv68_24 : hgWJ X 68 24 L S K M = hgW X 68 24 (hgMask [true] L) S K M := id rfl
/- X6_readWord -/
theorem hgc69 (a0 : Nat) : hgWC X 69 [.ref a0] M = hgW X 69 0 [some (.ref a0)] [] (0, 0) M := if_pos (Nat.le_of_ble_eq_true rfl)
theorem hgu69_0 : hgW X 69 0 L S K M = hgEx X (0, 0) (hgWC X) (hgWJ X 69) hgr69_0 L S K M := hgW_eq X 69 0 L S K M
theorem hgv69_0 : hgWJ X 69 0 L S K M = hgW X 69 0 (hgMask [true] L) S K M := id rfl
theorem hgu69_4 : hgW X 69 4 L S K M = hgEx X (0, 0) (hgWC X) (hgWJ X 69) hgr69_4 L S K M := hgW_eq X 69 4 L S K M
theorem hgv69_4 : hgWJ X 69 4 L S K M = hgW X 69 4 (hgMask [true] L) S K M := id rfl
theorem hgu69_39 : hgW X 69 39 L S K M = hgEx X (0, 0) (hgWC X) (hgWJ X 69) hgr69_39 L S K M := hgW_eq X 69 39 L S K M
theorem hgv69_39 : hgWJ X 69 39 L S K M = hgW X 69 39 (hgMask [false] L) S K M := id rfl
/- X6_isWord -/
theorem hgc70 (a0 a1 : Nat) : hgWC X 70 [.ref a0, .ref a1] M = hgW X 70 0 [some (.ref a0), some (.ref a1), none] [] (0, 0) M := if_pos (Nat.le_of_ble_eq_true rfl)
theorem hgu70_0 : hgW X 70 0 L S K M = hgEx X (0, 0) (hgWC X) (hgWJ X 70) hgr70_0 L S K M := hgW_eq X 70 0 L S K M
theorem hgv70_0 : hgWJ X 70 0 L S K M = hgW X 70 0 (hgMask [true, true, false] L) S K M := id rfl
theorem hgu70_18 : hgW X 70 18 L S K M = hgEx X (0, 0) (hgWC X) (hgWJ X 70) hgr70_18 L S K M := hgW_eq X 70 18 L S K M
theorem hgv70_18 : hgWJ X 70 18 L S K M = hgW X 70 18 (hgMask [true, true, false] L) S K M := id rfl
theorem hgu70_20 : hgW X 70 20 L S K M = hgEx X (0, 0) (hgWC X) (hgWJ X 70) hgr70_20 L S K M := hgW_eq X 70 20 L S K M
theorem hgv70_20 : hgWJ X 70 20 L S K M = hgW X 70 20 (hgMask [true, true, true] L) S K M := id rfl
theorem hgu70_48 : hgW X 70 48 L S K M = hgEx X (0, 0) (hgWC X) (hgWJ X 70) hgr70_48 L S K M := hgW_eq X 70 48 L S K M
theorem hgv70_48 : hgWJ X 70 48 L S K M = hgW X 70 48 (hgMask [true, true, true] L) S K M := id rfl
theorem hgu70_54 : hgW X 70 54 L S K M = hgEx X (0, 0) (hgWC X) (hgWJ X 70) hgr70_54 L S K M := hgW_eq X 70 54 L S K M
theorem hgv70_54 : hgWJ X 70 54 L S K M = hgW X 70 54 (hgMask [false, false, false] L) S K M := id rfl
/- X6_readNumber -/
theorem hgc71 (a0 : Nat) (x1 x2 : Int32) : hgWC X 71 [.ref a0, .int x1, .int x2] M = hgW X 71 0 [some (.ref a0), some (.int x1), some (.int x2)] [] (0, 0) M := if_pos (Nat.le_of_ble_eq_true rfl)
theorem hgu71_0 : hgW X 71 0 L S K M = hgEx X (0, 0) (hgWC X) (hgWJ X 71) hgr71_0 L S K M := hgW_eq X 71 0 L S K M
theorem hgv71_0 : hgWJ X 71 0 L S K M = hgW X 71 0 (hgMask [true, true, true] L) S K M := id rfl
theorem hgu71_22 : hgW X 71 22 L S K M = hgEx X (0, 0) (hgWC X) (hgWJ X 71) hgr71_22 L S K M := hgW_eq X 71 22 L S K M
theorem hgv71_22 : hgWJ X 71 22 L S K M = hgW X 71 22 (hgMask [true, true, true] L) S K M := id rfl
theorem hgu71_27 : hgW X 71 27 L S K M = hgEx X (0, 0) (hgWC X) (hgWJ X 71) hgr71_27 L S K M := hgW_eq X 71 27 L S K M
theorem hgv71_27 : hgWJ X 71 27 L S K M = hgW X 71 27 (hgMask [true, true, true] L) S K M := id rfl
theorem hgu71_91 : hgW X 71 91 L S K M = hgEx X (0, 0) (hgWC X) (hgWJ X 71) hgr71_91 L S K M := hgW_eq X 71 91 L S K M
theorem hgv71_91 : hgWJ X 71 91 L S K M = hgW X 71 91 (hgMask [true, true, true] L) S K M := id rfl
theorem hgu71_107 : hgW X 71 107 L S K M = hgEx X (0, 0) (hgWC X) (hgWJ X 71) hgr71_107 L S K M := hgW_eq X 71 107 L S K M
theorem hgv71_107 : hgWJ X 71 107 L S K M = hgW X 71 107 (hgMask [true, false, false] L) S K M := id rfl
theorem hgu71_114 : hgW X 71 114 L S K M = hgEx X (0, 0) (hgWC X) (hgWJ X 71) hgr71_114 L S K M := hgW_eq X 71 114 L S K M
theorem hgv71_114 : hgWJ X 71 114 L S K M = hgW X 71 114 (hgMask [false, false, false] L) S K M := id rfl
/- X6_readSelector -/
theorem hgc72 (a0 : Nat) : hgWC X 72 [.ref a0] M = hgW X 72 0 [some (.ref a0)] [] (0, 0) M := if_pos (Nat.le_of_ble_eq_true rfl)
theorem hgu72_0 : hgW X 72 0 L S K M = hgEx X (0, 0) (hgWC X) (hgWJ X 72) hgr72_0 L S K M := hgW_eq X 72 0 L S K M
theorem hgv72_0 : hgWJ X 72 0 L S K M = hgW X 72 0 (hgMask [true] L) S K M := id rfl
theorem hgu72_15 : hgW X 72 15 L S K M = hgEx X (0, 0) (hgWC X) (hgWJ X 72) hgr72_15 L S K M := hgW_eq X 72 15 L S K M
theorem hgv72_15 : hgWJ X 72 15 L S K M = hgW X 72 15 (hgMask [true] L) S K M := id rfl
theorem hgu72_26 : hgW X 72 26 L S K M = hgEx X (0, 0) (hgWC X) (hgWJ X 72) hgr72_26 L S K M := hgW_eq X 72 26 L S K M
theorem hgv72_26 : hgWJ X 72 26 L S K M = hgW X 72 26 (hgMask [true] L) S K M := id rfl
theorem hgu72_37 : hgW X 72 37 L S K M = hgEx X (0, 0) (hgWC X) (hgWJ X 72) hgr72_37 L S K M := hgW_eq X 72 37 L S K M
theorem hgv72_37 : hgWJ X 72 37 L S K M = hgW X 72 37 (hgMask [true] L) S K M := id rfl
theorem hgu72_48 : hgW X 72 48 L S K M = hgEx X (0, 0) (hgWC X) (hgWJ X 72) hgr72_48 L S K M := hgW_eq X 72 48 L S K M
theorem hgv72_48 : hgWJ X 72 48 L S K M = hgW X 72 48 (hgMask [true] L) S K M := id rfl
theorem hgu72_61 : hgW X 72 61 L S K M = hgEx X (0, 0) (hgWC X) (hgWJ X 72) hgr72_61 L S K M := hgW_eq X 72 61 L S K M
theorem hgv72_61 : hgWJ X 72 61 L S K M = hgW X 72 61 (hgMask [false] L) S K M := id rfl
theorem hgu72_62 : hgW X 72 62 L S K M = hgEx X (0, 0) (hgWC X) (hgWJ X 72) hgr72_62 L S K M := hgW_eq X 72 62 L S K M
theorem hgv72_62 : hgWJ X 72 62 L S K M = hgW X 72 62 (hgMask [false] L) S K M := id rfl
/- X6_readHead -/
theorem hgc73 (a0 : Nat) : hgWC X 73 [.ref a0] M = hgW X 73 0 [some (.ref a0)] [] (0, 0) M := if_pos (Nat.le_of_ble_eq_true rfl)
theorem hgu73_0 : hgW X 73 0 L S K M = hgEx X (0, 0) (hgWC X) (hgWJ X 73) hgr73_0 L S K M := hgW_eq X 73 0 L S K M
theorem hgv73_0 : hgWJ X 73 0 L S K M = hgW X 73 0 (hgMask [true] L) S K M := id rfl
theorem hgu73_20 : hgW X 73 20 L S K M = hgEx X (0, 0) (hgWC X) (hgWJ X 73) hgr73_20 L S K M := hgW_eq X 73 20 L S K M
theorem hgv73_20 : hgWJ X 73 20 L S K M = hgW X 73 20 (hgMask [true] L) S K M := id rfl
theorem hgu73_33 : hgW X 73 33 L S K M = hgEx X (0, 0) (hgWC X) (hgWJ X 73) hgr73_33 L S K M := hgW_eq X 73 33 L S K M
theorem hgv73_33 : hgWJ X 73 33 L S K M = hgW X 73 33 (hgMask [true] L) S K M := id rfl
theorem hgu73_56 : hgW X 73 56 L S K M = hgEx X (0, 0) (hgWC X) (hgWJ X 73) hgr73_56 L S K M := hgW_eq X 73 56 L S K M
theorem hgv73_56 : hgWJ X 73 56 L S K M = hgW X 73 56 (hgMask [true] L) S K M := id rfl
/- X6_readStatement -/
theorem hgc74 (a0 : Nat) : hgWC X 74 [.ref a0] M = hgW X 74 0 [some (.ref a0)] [] (0, 0) M := if_pos (Nat.le_of_ble_eq_true rfl)
theorem hgu74_0 : hgW X 74 0 L S K M = hgEx X (0, 0) (hgWC X) (hgWJ X 74) hgr74_0 L S K M := hgW_eq X 74 0 L S K M
theorem hgv74_0 : hgWJ X 74 0 L S K M = hgW X 74 0 (hgMask [true] L) S K M := id rfl
theorem hgu74_18 : hgW X 74 18 L S K M = hgEx X (0, 0) (hgWC X) (hgWJ X 74) hgr74_18 L S K M := hgW_eq X 74 18 L S K M
theorem hgv74_18 : hgWJ X 74 18 L S K M = hgW X 74 18 (hgMask [true] L) S K M := id rfl
theorem hgu74_33 : hgW X 74 33 L S K M = hgEx X (0, 0) (hgWC X) (hgWJ X 74) hgr74_33 L S K M := hgW_eq X 74 33 L S K M
theorem hgv74_33 : hgWJ X 74 33 L S K M = hgW X 74 33 (hgMask [true] L) S K M := id rfl
theorem hgu74_48 : hgW X 74 48 L S K M = hgEx X (0, 0) (hgWC X) (hgWJ X 74) hgr74_48 L S K M := hgW_eq X 74 48 L S K M
theorem hgv74_48 : hgWJ X 74 48 L S K M = hgW X 74 48 (hgMask [true] L) S K M := id rfl
theorem hgu74_62 : hgW X 74 62 L S K M = hgEx X (0, 0) (hgWC X) (hgWJ X 74) hgr74_62 L S K M := hgW_eq X 74 62 L S K M
theorem hgv74_62 : hgWJ X 74 62 L S K M = hgW X 74 62 (hgMask [true] L) S K M := id rfl
theorem hgu74_76 : hgW X 74 76 L S K M = hgEx X (0, 0) (hgWC X) (hgWJ X 74) hgr74_76 L S K M := hgW_eq X 74 76 L S K M
theorem hgv74_76 : hgWJ X 74 76 L S K M = hgW X 74 76 (hgMask [true] L) S K M := id rfl
theorem hgu74_92 : hgW X 74 92 L S K M = hgEx X (0, 0) (hgWC X) (hgWJ X 74) hgr74_92 L S K M := hgW_eq X 74 92 L S K M
theorem hgv74_92 : hgWJ X 74 92 L S K M = hgW X 74 92 (hgMask [true] L) S K M := id rfl
theorem hgu74_98 : hgW X 74 98 L S K M = hgEx X (0, 0) (hgWC X) (hgWJ X 74) hgr74_98 L S K M := hgW_eq X 74 98 L S K M
theorem hgv74_98 : hgWJ X 74 98 L S K M = hgW X 74 98 (hgMask [false] L) S K M := id rfl
/- X6_readDevice -/
theorem hgc75 (a0 : Nat) : hgWC X 75 [.ref a0] M = hgW X 75 0 [some (.ref a0), none, none, none] [] (0, 0) M := if_pos (Nat.le_of_ble_eq_true rfl)
theorem hgu75_0 : hgW X 75 0 L S K M = hgEx X (0, 0) (hgWC X) (hgWJ X 75) hgr75_0 L S K M := hgW_eq X 75 0 L S K M
theorem hgv75_0 : hgWJ X 75 0 L S K M = hgW X 75 0 (hgMask [true, false, false, false] L) S K M := id rfl
theorem hgu75_19 : hgW X 75 19 L S K M = hgEx X (0, 0) (hgWC X) (hgWJ X 75) hgr75_19 L S K M := hgW_eq X 75 19 L S K M
theorem hgv75_19 : hgWJ X 75 19 L S K M = hgW X 75 19 (hgMask [true, false, false, false] L) S K M := id rfl
theorem hgu75_33 : hgW X 75 33 L S K M = hgEx X (0, 0) (hgWC X) (hgWJ X 75) hgr75_33 L S K M := hgW_eq X 75 33 L S K M
theorem hgv75_33 : hgWJ X 75 33 L S K M = hgW X 75 33 (hgMask [true, false, false, false] L) S K M := id rfl
theorem hgu75_40 : hgW X 75 40 L S K M = hgEx X (0, 0) (hgWC X) (hgWJ X 75) hgr75_40 L S K M := hgW_eq X 75 40 L S K M
theorem hgv75_40 : hgWJ X 75 40 L S K M = hgW X 75 40 (hgMask [true, true, false, false] L) S K M := id rfl
theorem hgu75_52 : hgW X 75 52 L S K M = hgEx X (0, 0) (hgWC X) (hgWJ X 75) hgr75_52 L S K M := hgW_eq X 75 52 L S K M
theorem hgv75_52 : hgWJ X 75 52 L S K M = hgW X 75 52 (hgMask [true, true, false, false] L) S K M := id rfl
theorem hgu75_69 : hgW X 75 69 L S K M = hgEx X (0, 0) (hgWC X) (hgWJ X 75) hgr75_69 L S K M := hgW_eq X 75 69 L S K M
theorem hgv75_69 : hgWJ X 75 69 L S K M = hgW X 75 69 (hgMask [true, true, true, false] L) S K M := id rfl
theorem hgu75_86 : hgW X 75 86 L S K M = hgEx X (0, 0) (hgWC X) (hgWJ X 75) hgr75_86 L S K M := hgW_eq X 75 86 L S K M
theorem hgv75_86 : hgWJ X 75 86 L S K M = hgW X 75 86 (hgMask [true, true, true, true] L) S K M := id rfl
/- X6_readRule -/
theorem hgc76 (a0 : Nat) (x1 : Int32) : hgWC X 76 [.ref a0, .int x1] M = hgW X 76 0 [some (.ref a0), some (.int x1), none, none, none] [] (0, 0) M := if_pos (Nat.le_of_ble_eq_true rfl)
theorem hgu76_0 : hgW X 76 0 L S K M = hgEx X (0, 0) (hgWC X) (hgWJ X 76) hgr76_0 L S K M := hgW_eq X 76 0 L S K M
theorem hgv76_0 : hgWJ X 76 0 L S K M = hgW X 76 0 (hgMask [true, true, false, false, false] L) S K M := id rfl
theorem hgu76_20 : hgW X 76 20 L S K M = hgEx X (0, 0) (hgWC X) (hgWJ X 76) hgr76_20 L S K M := hgW_eq X 76 20 L S K M
theorem hgv76_20 : hgWJ X 76 20 L S K M = hgW X 76 20 (hgMask [true, true, false, false, false] L) S K M := id rfl
theorem hgu76_36 : hgW X 76 36 L S K M = hgEx X (0, 0) (hgWC X) (hgWJ X 76) hgr76_36 L S K M := hgW_eq X 76 36 L S K M
theorem hgv76_36 : hgWJ X 76 36 L S K M = hgW X 76 36 (hgMask [true, true, true, false, false] L) S K M := id rfl
theorem hgu76_52 : hgW X 76 52 L S K M = hgEx X (0, 0) (hgWC X) (hgWJ X 76) hgr76_52 L S K M := hgW_eq X 76 52 L S K M
theorem hgv76_52 : hgWJ X 76 52 L S K M = hgW X 76 52 (hgMask [true, true, true, true, false] L) S K M := id rfl
theorem hgu76_65 : hgW X 76 65 L S K M = hgEx X (0, 0) (hgWC X) (hgWJ X 76) hgr76_65 L S K M := hgW_eq X 76 65 L S K M
theorem hgv76_65 : hgWJ X 76 65 L S K M = hgW X 76 65 (hgMask [true, true, true, true, false] L) S K M := id rfl
theorem hgu76_85 : hgW X 76 85 L S K M = hgEx X (0, 0) (hgWC X) (hgWJ X 76) hgr76_85 L S K M := hgW_eq X 76 85 L S K M
theorem hgv76_85 : hgWJ X 76 85 L S K M = hgW X 76 85 (hgMask [true, true, true, true, true] L) S K M := id rfl
/- X6_readWakePorts -/
theorem hgc77 (a0 : Nat) : hgWC X 77 [.ref a0] M = hgW X 77 0 [some (.ref a0), none, none] [] (0, 0) M := if_pos (Nat.le_of_ble_eq_true rfl)
theorem hgu77_0 : hgW X 77 0 L S K M = hgEx X (0, 0) (hgWC X) (hgWJ X 77) hgr77_0 L S K M := hgW_eq X 77 0 L S K M
theorem hgv77_0 : hgWJ X 77 0 L S K M = hgW X 77 0 (hgMask [true, false, false] L) S K M := id rfl
theorem hgu77_14 : hgW X 77 14 L S K M = hgEx X (0, 0) (hgWC X) (hgWJ X 77) hgr77_14 L S K M := hgW_eq X 77 14 L S K M
theorem hgv77_14 : hgWJ X 77 14 L S K M = hgW X 77 14 (hgMask [true, false, false] L) S K M := id rfl
theorem hgu77_26 : hgW X 77 26 L S K M = hgEx X (0, 0) (hgWC X) (hgWJ X 77) hgr77_26 L S K M := hgW_eq X 77 26 L S K M
theorem hgv77_26 : hgWJ X 77 26 L S K M = hgW X 77 26 (hgMask [true, true, true] L) S K M := id rfl
theorem hgu77_54 : hgW X 77 54 L S K M = hgEx X (0, 0) (hgWC X) (hgWJ X 77) hgr77_54 L S K M := hgW_eq X 77 54 L S K M
theorem hgv77_54 : hgWJ X 77 54 L S K M = hgW X 77 54 (hgMask [false, true, false] L) S K M := id rfl
/- X6_isNumberNext -/
theorem hgc78 (a0 : Nat) : hgWC X 78 [.ref a0] M = hgW X 78 0 [some (.ref a0)] [] (0, 0) M := if_pos (Nat.le_of_ble_eq_true rfl)
theorem hgu78_0 : hgW X 78 0 L S K M = hgEx X (0, 0) (hgWC X) (hgWJ X 78) hgr78_0 L S K M := hgW_eq X 78 0 L S K M
theorem hgv78_0 : hgWJ X 78 0 L S K M = hgW X 78 0 (hgMask [true] L) S K M := id rfl
/- X6_readWakePort -/
theorem hgc79 (a0 : Nat) : hgWC X 79 [.ref a0] M = hgW X 79 0 [some (.ref a0)] [] (0, 0) M := if_pos (Nat.le_of_ble_eq_true rfl)
theorem hgu79_0 : hgW X 79 0 L S K M = hgEx X (0, 0) (hgWC X) (hgWJ X 79) hgr79_0 L S K M := hgW_eq X 79 0 L S K M
theorem hgv79_0 : hgWJ X 79 0 L S K M = hgW X 79 0 (hgMask [true] L) S K M := id rfl
theorem hgu79_13 : hgW X 79 13 L S K M = hgEx X (0, 0) (hgWC X) (hgWJ X 79) hgr79_13 L S K M := hgW_eq X 79 13 L S K M
theorem hgv79_13 : hgWJ X 79 13 L S K M = hgW X 79 13 (hgMask [true] L) S K M := id rfl
theorem hgu79_34 : hgW X 79 34 L S K M = hgEx X (0, 0) (hgWC X) (hgWJ X 79) hgr79_34 L S K M := hgW_eq X 79 34 L S K M
theorem hgv79_34 : hgWJ X 79 34 L S K M = hgW X 79 34 (hgMask [true] L) S K M := id rfl
theorem hgu79_53 : hgW X 79 53 L S K M = hgEx X (0, 0) (hgWC X) (hgWJ X 79) hgr79_53 L S K M := hgW_eq X 79 53 L S K M
theorem hgv79_53 : hgWJ X 79 53 L S K M = hgW X 79 53 (hgMask [true] L) S K M := id rfl
/- X6_readQuiet -/
theorem hgc80 (a0 : Nat) : hgWC X 80 [.ref a0] M = hgW X 80 0 [some (.ref a0), none, none] [] (0, 0) M := if_pos (Nat.le_of_ble_eq_true rfl)
theorem hgu80_0 : hgW X 80 0 L S K M = hgEx X (0, 0) (hgWC X) (hgWJ X 80) hgr80_0 L S K M := hgW_eq X 80 0 L S K M
theorem hgv80_0 : hgWJ X 80 0 L S K M = hgW X 80 0 (hgMask [true, false, false] L) S K M := id rfl
theorem hgu80_23 : hgW X 80 23 L S K M = hgEx X (0, 0) (hgWC X) (hgWJ X 80) hgr80_23 L S K M := hgW_eq X 80 23 L S K M
theorem hgv80_23 : hgWJ X 80 23 L S K M = hgW X 80 23 (hgMask [true, false, false] L) S K M := id rfl
theorem hgu80_30 : hgW X 80 30 L S K M = hgEx X (0, 0) (hgWC X) (hgWJ X 80) hgr80_30 L S K M := hgW_eq X 80 30 L S K M
theorem hgv80_30 : hgWJ X 80 30 L S K M = hgW X 80 30 (hgMask [true, true, false] L) S K M := id rfl
theorem hgu80_56 : hgW X 80 56 L S K M = hgEx X (0, 0) (hgWC X) (hgWJ X 80) hgr80_56 L S K M := hgW_eq X 80 56 L S K M
theorem hgv80_56 : hgWJ X 80 56 L S K M = hgW X 80 56 (hgMask [true, true, false] L) S K M := id rfl
theorem hgu80_80 : hgW X 80 80 L S K M = hgEx X (0, 0) (hgWC X) (hgWJ X 80) hgr80_80 L S K M := hgW_eq X 80 80 L S K M
theorem hgv80_80 : hgWJ X 80 80 L S K M = hgW X 80 80 (hgMask [true, true, true] L) S K M := id rfl
/- X6_readLimit -/
theorem hgc81 (a0 : Nat) : hgWC X 81 [.ref a0] M = hgW X 81 0 [some (.ref a0)] [] (0, 0) M := if_pos (Nat.le_of_ble_eq_true rfl)
theorem hgu81_0 : hgW X 81 0 L S K M = hgEx X (0, 0) (hgWC X) (hgWJ X 81) hgr81_0 L S K M := hgW_eq X 81 0 L S K M
theorem hgv81_0 : hgWJ X 81 0 L S K M = hgW X 81 0 (hgMask [true] L) S K M := id rfl
theorem hgu81_14 : hgW X 81 14 L S K M = hgEx X (0, 0) (hgWC X) (hgWJ X 81) hgr81_14 L S K M := hgW_eq X 81 14 L S K M
theorem hgv81_14 : hgWJ X 81 14 L S K M = hgW X 81 14 (hgMask [true] L) S K M := id rfl
theorem hgu81_32 : hgW X 81 32 L S K M = hgEx X (0, 0) (hgWC X) (hgWJ X 81) hgr81_32 L S K M := hgW_eq X 81 32 L S K M
theorem hgv81_32 : hgWJ X 81 32 L S K M = hgW X 81 32 (hgMask [true] L) S K M := id rfl
/- X7_init -/
theorem hgc82 (a0 : Nat) : hgWC X 82 [.ref a0] M = hgW X 82 0 [some (.ref a0), none] [] (0, 0) M := if_pos (Nat.le_of_ble_eq_true rfl)
theorem hgu82_0 : hgW X 82 0 L S K M = hgEx X (299, 5105) (hgWC X) (hgWJ X 82) hgr82_0 L S K M := hgW_eq X 82 0 L S K M
theorem hgv82_0 : hgWJ X 82 0 L S K M = hgW X 82 0 (hgMask [true, false] L) S K M := id rfl
/- X7_append -/
theorem hgc83 (a0 : Nat) (x1 x2 x3 x4 x5 : Int32) : hgWC X 83 [.ref a0, .int x1, .int x2, .int x3, .int x4, .int x5] M = hgW X 83 0 [some (.ref a0), some (.int x1), some (.int x2), some (.int x3), some (.int x4), some (.int x5)] [] (0, 0) M := if_pos (Nat.le_of_ble_eq_true rfl)
theorem hgu83_0 : hgW X 83 0 L S K M = hgEx X (0, 0) (hgWC X) (hgWJ X 83) hgr83_0 L S K M := hgW_eq X 83 0 L S K M
theorem hgv83_0 : hgWJ X 83 0 L S K M = hgW X 83 0 (hgMask [true, true, true, true, true, true] L) S K M := id rfl
theorem hgu83_12 : hgW X 83 12 L S K M = hgEx X (0, 0) (hgWC X) (hgWJ X 83) hgr83_12 L S K M := hgW_eq X 83 12 L S K M
theorem hgv83_12 : hgWJ X 83 12 L S K M = hgW X 83 12 (hgMask [true, true, true, true, true, true] L) S K M := id rfl
/- X7_load -/
theorem hgc84 (a0 : Nat) (x1 : Int32) : hgWC X 84 [.ref a0, .int x1] M = hgW X 84 0 [some (.ref a0), some (.int x1), none] [] (0, 0) M := if_pos (Nat.le_of_ble_eq_true rfl)
theorem hgu84_0 : hgW X 84 0 L S K M = hgEx X (1, 6) (hgWC X) (hgWJ X 84) hgr84_0 L S K M := hgW_eq X 84 0 L S K M
theorem hgv84_0 : hgWJ X 84 0 L S K M = hgW X 84 0 (hgMask [true, true, false] L) S K M := id rfl
theorem hgu84_12 : hgW X 84 12 L S K M = hgEx X (1, 6) (hgWC X) (hgWJ X 84) hgr84_12 L S K M := hgW_eq X 84 12 L S K M
theorem hgv84_12 : hgWJ X 84 12 L S K M = hgW X 84 12 (hgMask [false, false, false] L) S K M := id rfl
theorem hgu84_22 : hgW X 84 22 L S K M = hgEx X (1, 6) (hgWC X) (hgWJ X 84) hgr84_22 L S K M := hgW_eq X 84 22 L S K M
theorem hgv84_22 : hgWJ X 84 22 L S K M = hgW X 84 22 (hgMask [true, true, false] L) S K M := id rfl
theorem hgu84_53 : hgW X 84 53 L S K M = hgEx X (1, 6) (hgWC X) (hgWJ X 84) hgr84_53 L S K M := hgW_eq X 84 53 L S K M
theorem hgv84_53 : hgWJ X 84 53 L S K M = hgW X 84 53 (hgMask [true, false, false] L) S K M := id rfl
/- X7_errorOffset -/
theorem hgc85 (a0 : Nat) : hgWC X 85 [.ref a0] M = hgW X 85 0 [some (.ref a0)] [] (0, 0) M := if_pos (Nat.le_of_ble_eq_true rfl)
theorem hgu85_0 : hgW X 85 0 L S K M = hgEx X (0, 0) (hgWC X) (hgWJ X 85) hgr85_0 L S K M := hgW_eq X 85 0 L S K M
theorem hgv85_0 : hgWJ X 85 0 L S K M = hgW X 85 0 (hgMask [true] L) S K M := id rfl
/- X7_deviceCount -/
theorem hgc86 (a0 : Nat) : hgWC X 86 [.ref a0] M = hgW X 86 0 [some (.ref a0)] [] (0, 0) M := if_pos (Nat.le_of_ble_eq_true rfl)
theorem hgu86_0 : hgW X 86 0 L S K M = hgEx X (0, 0) (hgWC X) (hgWJ X 86) hgr86_0 L S K M := hgW_eq X 86 0 L S K M
theorem hgv86_0 : hgWJ X 86 0 L S K M = hgW X 86 0 (hgMask [true] L) S K M := id rfl
/- X7_ruleCount -/
theorem hgc87 (a0 : Nat) : hgWC X 87 [.ref a0] M = hgW X 87 0 [some (.ref a0)] [] (0, 0) M := if_pos (Nat.le_of_ble_eq_true rfl)
theorem hgu87_0 : hgW X 87 0 L S K M = hgEx X (0, 0) (hgWC X) (hgWJ X 87) hgr87_0 L S K M := hgW_eq X 87 0 L S K M
theorem hgv87_0 : hgWJ X 87 0 L S K M = hgW X 87 0 (hgMask [true] L) S K M := id rfl
/- X7_clock -/
theorem hgc88 (a0 : Nat) : hgWC X 88 [.ref a0] M = hgW X 88 0 [some (.ref a0)] [] (0, 0) M := if_pos (Nat.le_of_ble_eq_true rfl)
theorem hgu88_0 : hgW X 88 0 L S K M = hgEx X (0, 0) (hgWC X) (hgWJ X 88) hgr88_0 L S K M := hgW_eq X 88 0 L S K M
theorem hgv88_0 : hgWJ X 88 0 L S K M = hgW X 88 0 (hgMask [true] L) S K M := id rfl
/- X7_state -/
theorem hgc89 (a0 : Nat) (x1 : Int32) : hgWC X 89 [.ref a0, .int x1] M = hgW X 89 0 [some (.ref a0), some (.int x1)] [] (0, 0) M := if_pos (Nat.le_of_ble_eq_true rfl)
theorem hgu89_0 : hgW X 89 0 L S K M = hgEx X (1, 6) (hgWC X) (hgWJ X 89) hgr89_0 L S K M := hgW_eq X 89 0 L S K M
theorem hgv89_0 : hgWJ X 89 0 L S K M = hgW X 89 0 (hgMask [true, true] L) S K M := id rfl
/- X7_weight -/
theorem hgc90 (a0 : Nat) (x1 : Int32) : hgWC X 90 [.ref a0, .int x1] M = hgW X 90 0 [some (.ref a0), some (.int x1)] [] (0, 0) M := if_pos (Nat.le_of_ble_eq_true rfl)
theorem hgu90_0 : hgW X 90 0 L S K M = hgEx X (1, 6) (hgWC X) (hgWJ X 90) hgr90_0 L S K M := hgW_eq X 90 0 L S K M
theorem hgv90_0 : hgWJ X 90 0 L S K M = hgW X 90 0 (hgMask [true, true] L) S K M := id rfl
/- X7_queueLength -/
theorem hgc91 (a0 : Nat) (x1 : Int32) : hgWC X 91 [.ref a0, .int x1] M = hgW X 91 0 [some (.ref a0), some (.int x1)] [] (0, 0) M := if_pos (Nat.le_of_ble_eq_true rfl)
theorem hgu91_0 : hgW X 91 0 L S K M = hgEx X (1, 6) (hgWC X) (hgWJ X 91) hgr91_0 L S K M := hgW_eq X 91 0 L S K M
theorem hgv91_0 : hgWJ X 91 0 L S K M = hgW X 91 0 (hgMask [true, true] L) S K M := id rfl
/- X7_backlog -/
theorem hgc92 (a0 : Nat) (x1 : Int32) : hgWC X 92 [.ref a0, .int x1] M = hgW X 92 0 [some (.ref a0), some (.int x1)] [] (0, 0) M := if_pos (Nat.le_of_ble_eq_true rfl)
theorem hgu92_0 : hgW X 92 0 L S K M = hgEx X (1, 6) (hgWC X) (hgWJ X 92) hgr92_0 L S K M := hgW_eq X 92 0 L S K M
theorem hgv92_0 : hgWJ X 92 0 L S K M = hgW X 92 0 (hgMask [true, true] L) S K M := id rfl
/- X7_virtualTime -/
theorem hgc93 (a0 : Nat) (x1 : Int32) : hgWC X 93 [.ref a0, .int x1] M = hgW X 93 0 [some (.ref a0), some (.int x1)] [] (0, 0) M := if_pos (Nat.le_of_ble_eq_true rfl)
theorem hgu93_0 : hgW X 93 0 L S K M = hgEx X (1, 6) (hgWC X) (hgWJ X 93) hgr93_0 L S K M := hgW_eq X 93 0 L S K M
theorem hgv93_0 : hgWJ X 93 0 L S K M = hgW X 93 0 (hgMask [true, true] L) S K M := id rfl
/- X7_delivered -/
theorem hgc94 (a0 : Nat) (x1 : Int32) : hgWC X 94 [.ref a0, .int x1] M = hgW X 94 0 [some (.ref a0), some (.int x1)] [] (0, 0) M := if_pos (Nat.le_of_ble_eq_true rfl)
theorem hgu94_0 : hgW X 94 0 L S K M = hgEx X (1, 6) (hgWC X) (hgWJ X 94) hgr94_0 L S K M := hgW_eq X 94 0 L S K M
theorem hgv94_0 : hgWJ X 94 0 L S K M = hgW X 94 0 (hgMask [true, true] L) S K M := id rfl
/- X7_longestDelay -/
theorem hgc95 (a0 : Nat) (x1 : Int32) : hgWC X 95 [.ref a0, .int x1] M = hgW X 95 0 [some (.ref a0), some (.int x1)] [] (0, 0) M := if_pos (Nat.le_of_ble_eq_true rfl)
theorem hgu95_0 : hgW X 95 0 L S K M = hgEx X (1, 6) (hgWC X) (hgWJ X 95) hgr95_0 L S K M := hgW_eq X 95 0 L S K M
theorem hgv95_0 : hgWJ X 95 0 L S K M = hgW X 95 0 (hgMask [true, true] L) S K M := id rfl
/- X7_rejected -/
theorem hgc96 (a0 : Nat) : hgWC X 96 [.ref a0] M = hgW X 96 0 [some (.ref a0)] [] (0, 0) M := if_pos (Nat.le_of_ble_eq_true rfl)
theorem hgu96_0 : hgW X 96 0 L S K M = hgEx X (0, 0) (hgWC X) (hgWJ X 96) hgr96_0 L S K M := hgW_eq X 96 0 L S K M
theorem hgv96_0 : hgWJ X 96 0 L S K M = hgW X 96 0 (hgMask [true] L) S K M := id rfl
/- X7_proxied -/
theorem hgc97 (a0 : Nat) : hgWC X 97 [.ref a0] M = hgW X 97 0 [some (.ref a0)] [] (0, 0) M := if_pos (Nat.le_of_ble_eq_true rfl)
theorem hgu97_0 : hgW X 97 0 L S K M = hgEx X (0, 0) (hgWC X) (hgWJ X 97) hgr97_0 L S K M := hgW_eq X 97 0 L S K M
theorem hgv97_0 : hgWJ X 97 0 L S K M = hgW X 97 0 (hgMask [true] L) S K M := id rfl
/- X7_dropped -/
theorem hgc98 (a0 : Nat) : hgWC X 98 [.ref a0] M = hgW X 98 0 [some (.ref a0)] [] (0, 0) M := if_pos (Nat.le_of_ble_eq_true rfl)
theorem hgu98_0 : hgW X 98 0 L S K M = hgEx X (0, 0) (hgWC X) (hgWJ X 98) hgr98_0 L S K M := hgW_eq X 98 0 L S K M
theorem hgv98_0 : hgWJ X 98 0 L S K M = hgW X 98 0 (hgMask [true] L) S K M := id rfl
/- X7_isQuiet -/
theorem hgc99 (a0 : Nat) (x1 : Int32) : hgWC X 99 [.ref a0, .int x1] M = hgW X 99 0 [some (.ref a0), some (.int x1)] [] (0, 0) M := if_pos (Nat.le_of_ble_eq_true rfl)
theorem hgu99_0 : hgW X 99 0 L S K M = hgEx X (1, 6) (hgWC X) (hgWJ X 99) hgr99_0 L S K M := hgW_eq X 99 0 L S K M
theorem hgv99_0 : hgWJ X 99 0 L S K M = hgW X 99 0 (hgMask [true, true] L) S K M := id rfl
theorem hgu99_9 : hgW X 99 9 L S K M = hgEx X (1, 6) (hgWC X) (hgWJ X 99) hgr99_9 L S K M := hgW_eq X 99 9 L S K M
theorem hgv99_9 : hgWJ X 99 9 L S K M = hgW X 99 9 (hgMask [false, false] L) S K M := id rfl
theorem hgu99_19 : hgW X 99 19 L S K M = hgEx X (1, 6) (hgWC X) (hgWJ X 99) hgr99_19 L S K M := hgW_eq X 99 19 L S K M
theorem hgv99_19 : hgWJ X 99 19 L S K M = hgW X 99 19 (hgMask [true, true] L) S K M := id rfl
/- X7_verdict -/
theorem hgc100 (a0 : Nat) (x1 x2 x3 : Int32) : hgWC X 100 [.ref a0, .int x1, .int x2, .int x3] M = hgW X 100 0 [some (.ref a0), some (.int x1), some (.int x2), some (.int x3)] [] (0, 0) M := if_pos (Nat.le_of_ble_eq_true rfl)
theorem hgu100_0 : hgW X 100 0 L S K M = hgEx X (3, 18) (hgWC X) (hgWJ X 100) hgr100_0 L S K M := hgW_eq X 100 0 L S K M
theorem hgv100_0 : hgWJ X 100 0 L S K M = hgW X 100 0 (hgMask [true, true, true, true] L) S K M := id rfl
/- X7_matching -/
theorem hgc101 (a0 : Nat) (x1 x2 x3 : Int32) : hgWC X 101 [.ref a0, .int x1, .int x2, .int x3] M = hgW X 101 0 [some (.ref a0), some (.int x1), some (.int x2), some (.int x3)] [] (0, 0) M := if_pos (Nat.le_of_ble_eq_true rfl)
theorem hgu101_0 : hgW X 101 0 L S K M = hgEx X (2, 12) (hgWC X) (hgWJ X 101) hgr101_0 L S K M := hgW_eq X 101 0 L S K M
theorem hgv101_0 : hgWJ X 101 0 L S K M = hgW X 101 0 (hgMask [true, true, true, true] L) S K M := id rfl
theorem hgu101_18 : hgW X 101 18 L S K M = hgEx X (2, 12) (hgWC X) (hgWJ X 101) hgr101_18 L S K M := hgW_eq X 101 18 L S K M
theorem hgv101_18 : hgWJ X 101 18 L S K M = hgW X 101 18 (hgMask [false, false, false, false] L) S K M := id rfl
theorem hgu101_28 : hgW X 101 28 L S K M = hgEx X (2, 12) (hgWC X) (hgWJ X 101) hgr101_28 L S K M := hgW_eq X 101 28 L S K M
theorem hgv101_28 : hgWJ X 101 28 L S K M = hgW X 101 28 (hgMask [true, true, true, true] L) S K M := id rfl
/- X7_isUseless -/
theorem hgc102 (a0 : Nat) (x1 : Int32) : hgWC X 102 [.ref a0, .int x1] M = hgW X 102 0 [some (.ref a0), some (.int x1)] [] (0, 0) M := if_pos (Nat.le_of_ble_eq_true rfl)
theorem hgu102_0 : hgW X 102 0 L S K M = hgEx X (1, 6) (hgWC X) (hgWJ X 102) hgr102_0 L S K M := hgW_eq X 102 0 L S K M
theorem hgv102_0 : hgWJ X 102 0 L S K M = hgW X 102 0 (hgMask [true, true] L) S K M := id rfl
/- X7_openPorts -/
theorem hgc103 (a0 : Nat) (x1 x2 : Int32) : hgWC X 103 [.ref a0, .int x1, .int x2] M = hgW X 103 0 [some (.ref a0), some (.int x1), some (.int x2)] [] (0, 0) M := if_pos (Nat.le_of_ble_eq_true rfl)
theorem hgu103_0 : hgW X 103 0 L S K M = hgEx X (2, 12) (hgWC X) (hgWJ X 103) hgr103_0 L S K M := hgW_eq X 103 0 L S K M
theorem hgv103_0 : hgWJ X 103 0 L S K M = hgW X 103 0 (hgMask [true, true, true] L) S K M := id rfl
/- X7_fairness -/
theorem hgc104 (a0 : Nat) : hgWC X 104 [.ref a0] M = hgW X 104 0 [some (.ref a0)] [] (0, 0) M := if_pos (Nat.le_of_ble_eq_true rfl)
theorem hgu104_0 : hgW X 104 0 L S K M = hgEx X (0, 0) (hgWC X) (hgWJ X 104) hgr104_0 L S K M := hgW_eq X 104 0 L S K M
theorem hgv104_0 : hgWJ X 104 0 L S K M = hgW X 104 0 (hgMask [true] L) S K M := id rfl
/- X7_drainTime -/
theorem hgc105 (a0 : Nat) (x1 : Int32) : hgWC X 105 [.ref a0, .int x1] M = hgW X 105 0 [some (.ref a0), some (.int x1), none] [] (0, 0) M := if_pos (Nat.le_of_ble_eq_true rfl)
theorem hgu105_0 : hgW X 105 0 L S K M = hgEx X (1, 6) (hgWC X) (hgWJ X 105) hgr105_0 L S K M := hgW_eq X 105 0 L S K M
theorem hgv105_0 : hgWJ X 105 0 L S K M = hgW X 105 0 (hgMask [true, true, false] L) S K M := id rfl
theorem hgu105_11 : hgW X 105 11 L S K M = hgEx X (1, 6) (hgWC X) (hgWJ X 105) hgr105_11 L S K M := hgW_eq X 105 11 L S K M
theorem hgv105_11 : hgWJ X 105 11 L S K M = hgW X 105 11 (hgMask [false, false, false] L) S K M := id rfl
theorem hgu105_21 : hgW X 105 21 L S K M = hgEx X (1, 6) (hgWC X) (hgWJ X 105) hgr105_21 L S K M := hgW_eq X 105 21 L S K M
theorem hgv105_21 : hgWJ X 105 21 L S K M = hgW X 105 21 (hgMask [true, true, false] L) S K M := id rfl
theorem hgu105_34 : hgW X 105 34 L S K M = hgEx X (1, 6) (hgWC X) (hgWJ X 105) hgr105_34 L S K M := hgW_eq X 105 34 L S K M
theorem hgv105_34 : hgWJ X 105 34 L S K M = hgW X 105 34 (hgMask [true, true, true] L) S K M := id rfl
theorem hgu105_51 : hgW X 105 51 L S K M = hgEx X (1, 6) (hgWC X) (hgWJ X 105) hgr105_51 L S K M := hgW_eq X 105 51 L S K M
theorem hgv105_51 : hgWJ X 105 51 L S K M = hgW X 105 51 (hgMask [true, true, true] L) S K M := id rfl
theorem hgu105_65 : hgW X 105 65 L S K M = hgEx X (1, 6) (hgWC X) (hgWJ X 105) hgr105_65 L S K M := hgW_eq X 105 65 L S K M
theorem hgv105_65 : hgWJ X 105 65 L S K M = hgW X 105 65 (hgMask [true, true, false] L) S K M := id rfl
theorem hgu105_79 : hgW X 105 79 L S K M = hgEx X (1, 6) (hgWC X) (hgWJ X 105) hgr105_79 L S K M := hgW_eq X 105 79 L S K M
theorem hgv105_79 : hgWJ X 105 79 L S K M = hgW X 105 79 (hgMask [false, false, false] L) S K M := id rfl
theorem hgu105_80 : hgW X 105 80 L S K M = hgEx X (1, 6) (hgWC X) (hgWJ X 105) hgr105_80 L S K M := hgW_eq X 105 80 L S K M
theorem hgv105_80 : hgWJ X 105 80 L S K M = hgW X 105 80 (hgMask [false, false, false] L) S K M := id rfl
/- X7_arrive -/
theorem hgc106 (a0 : Nat) (x1 x2 x3 x4 : Int32) : hgWC X 106 [.ref a0, .int x1, .int x2, .int x3, .int x4] M = hgW X 106 0 [some (.ref a0), some (.int x1), some (.int x2), some (.int x3), some (.int x4)] [] (0, 0) M := if_pos (Nat.le_of_ble_eq_true rfl)
theorem hgu106_0 : hgW X 106 0 L S K M = hgEx X (4, 24) (hgWC X) (hgWJ X 106) hgr106_0 L S K M := hgW_eq X 106 0 L S K M
theorem hgv106_0 : hgWJ X 106 0 L S K M = hgW X 106 0 (hgMask [true, true, true, true, true] L) S K M := id rfl
theorem hgu106_27 : hgW X 106 27 L S K M = hgEx X (4, 24) (hgWC X) (hgWJ X 106) hgr106_27 L S K M := hgW_eq X 106 27 L S K M
theorem hgv106_27 : hgWJ X 106 27 L S K M = hgW X 106 27 (hgMask [false, false, false, false, false] L) S K M := id rfl
theorem hgu106_37 : hgW X 106 37 L S K M = hgEx X (4, 24) (hgWC X) (hgWJ X 106) hgr106_37 L S K M := hgW_eq X 106 37 L S K M
theorem hgv106_37 : hgWJ X 106 37 L S K M = hgW X 106 37 (hgMask [true, true, true, true, true] L) S K M := id rfl
/- X7_tick -/
theorem hgc107 (a0 : Nat) (x1 : Int32) : hgWC X 107 [.ref a0, .int x1] M = hgW X 107 0 [some (.ref a0), some (.int x1), none, none] [] (0, 0) M := if_pos (Nat.le_of_ble_eq_true rfl)
theorem hgu107_0 : hgW X 107 0 L S K M = hgEx X (2, 12) (hgWC X) (hgWJ X 107) hgr107_0 L S K M := hgW_eq X 107 0 L S K M
theorem hgv107_0 : hgWJ X 107 0 L S K M = hgW X 107 0 (hgMask [true, true, false, false] L) S K M := id rfl
theorem hgu107_11 : hgW X 107 11 L S K M = hgEx X (2, 12) (hgWC X) (hgWJ X 107) hgr107_11 L S K M := hgW_eq X 107 11 L S K M
theorem hgv107_11 : hgWJ X 107 11 L S K M = hgW X 107 11 (hgMask [false, false, false, false] L) S K M := id rfl
theorem hgu107_21 : hgW X 107 21 L S K M = hgEx X (2, 12) (hgWC X) (hgWJ X 107) hgr107_21 L S K M := hgW_eq X 107 21 L S K M
theorem hgv107_21 : hgWJ X 107 21 L S K M = hgW X 107 21 (hgMask [true, true, false, false] L) S K M := id rfl
theorem hgu107_49 : hgW X 107 49 L S K M = hgEx X (2, 12) (hgWC X) (hgWJ X 107) hgr107_49 L S K M := hgW_eq X 107 49 L S K M
theorem hgv107_49 : hgWJ X 107 49 L S K M = hgW X 107 49 (hgMask [true, true, false, false] L) S K M := id rfl
theorem hgu107_64 : hgW X 107 64 L S K M = hgEx X (2, 12) (hgWC X) (hgWJ X 107) hgr107_64 L S K M := hgW_eq X 107 64 L S K M
theorem hgv107_64 : hgWJ X 107 64 L S K M = hgW X 107 64 (hgMask [true, true, true, true] L) S K M := id rfl
theorem hgu107_85 : hgW X 107 85 L S K M = hgEx X (2, 12) (hgWC X) (hgWJ X 107) hgr107_85 L S K M := hgW_eq X 107 85 L S K M
theorem hgv107_85 : hgWJ X 107 85 L S K M = hgW X 107 85 (hgMask [false, false, true, false] L) S K M := id rfl
/- X7_sleep -/
theorem hgc108 (a0 : Nat) (x1 : Int32) : hgWC X 108 [.ref a0, .int x1] M = hgW X 108 0 [some (.ref a0), some (.int x1), none] [] (0, 0) M := if_pos (Nat.le_of_ble_eq_true rfl)
theorem hgu108_0 : hgW X 108 0 L S K M = hgEx X (2, 12) (hgWC X) (hgWJ X 108) hgr108_0 L S K M := hgW_eq X 108 0 L S K M
theorem hgv108_0 : hgWJ X 108 0 L S K M = hgW X 108 0 (hgMask [true, true, false] L) S K M := id rfl
theorem hgu108_33 : hgW X 108 33 L S K M = hgEx X (2, 12) (hgWC X) (hgWJ X 108) hgr108_33 L S K M := hgW_eq X 108 33 L S K M
theorem hgv108_33 : hgWJ X 108 33 L S K M = hgW X 108 33 (hgMask [true, true, true] L) S K M := id rfl
/- X7_wake -/
theorem hgc109 (a0 : Nat) (x1 : Int32) : hgWC X 109 [.ref a0, .int x1] M = hgW X 109 0 [some (.ref a0), some (.int x1)] [] (0, 0) M := if_pos (Nat.le_of_ble_eq_true rfl)
theorem hgu109_0 : hgW X 109 0 L S K M = hgEx X (2, 12) (hgWC X) (hgWJ X 109) hgr109_0 L S K M := hgW_eq X 109 0 L S K M
theorem hgv109_0 : hgWJ X 109 0 L S K M = hgW X 109 0 (hgMask [true, true] L) S K M := id rfl
theorem hgu109_31 : hgW X 109 31 L S K M = hgEx X (2, 12) (hgWC X) (hgWJ X 109) hgr109_31 L S K M := hgW_eq X 109 31 L S K M
theorem hgv109_31 : hgWJ X 109 31 L S K M = hgW X 109 31 (hgMask [true, true] L) S K M := id rfl
/- X7_setWeight -/
theorem hgc110 (a0 : Nat) (x1 x2 : Int32) : hgWC X 110 [.ref a0, .int x1, .int x2] M = hgW X 110 0 [some (.ref a0), some (.int x1), some (.int x2), none] [] (0, 0) M := if_pos (Nat.le_of_ble_eq_true rfl)
theorem hgu110_0 : hgW X 110 0 L S K M = hgEx X (2, 12) (hgWC X) (hgWJ X 110) hgr110_0 L S K M := hgW_eq X 110 0 L S K M
theorem hgv110_0 : hgWJ X 110 0 L S K M = hgW X 110 0 (hgMask [true, true, true, false] L) S K M := id rfl
theorem hgu110_16 : hgW X 110 16 L S K M = hgEx X (2, 12) (hgWC X) (hgWJ X 110) hgr110_16 L S K M := hgW_eq X 110 16 L S K M
theorem hgv110_16 : hgWJ X 110 16 L S K M = hgW X 110 16 (hgMask [false, false, false, false] L) S K M := id rfl
theorem hgu110_26 : hgW X 110 26 L S K M = hgEx X (2, 12) (hgWC X) (hgWJ X 110) hgr110_26 L S K M := hgW_eq X 110 26 L S K M
theorem hgv110_26 : hgWJ X 110 26 L S K M = hgW X 110 26 (hgMask [true, true, true, false] L) S K M := id rfl
/- X7_addRule -/
theorem hgc111 (a0 : Nat) (x1 x2 x3 x4 x5 : Int32) : hgWC X 111 [.ref a0, .int x1, .int x2, .int x3, .int x4, .int x5] M = hgW X 111 0 [some (.ref a0), some (.int x1), some (.int x2), some (.int x3), some (.int x4), some (.int x5)] [] (0, 0) M := if_pos (Nat.le_of_ble_eq_true rfl)
theorem hgu111_0 : hgW X 111 0 L S K M = hgEx X (2, 12) (hgWC X) (hgWJ X 111) hgr111_0 L S K M := hgW_eq X 111 0 L S K M
theorem hgv111_0 : hgWJ X 111 0 L S K M = hgW X 111 0 (hgMask [true, true, true, true, true, true] L) S K M := id rfl
theorem hgu111_18 : hgW X 111 18 L S K M = hgEx X (2, 12) (hgWC X) (hgWJ X 111) hgr111_18 L S K M := hgW_eq X 111 18 L S K M
theorem hgv111_18 : hgWJ X 111 18 L S K M = hgW X 111 18 (hgMask [false, false, false, false, false, false] L) S K M := id rfl
theorem hgu111_28 : hgW X 111 28 L S K M = hgEx X (2, 12) (hgWC X) (hgWJ X 111) hgr111_28 L S K M := hgW_eq X 111 28 L S K M
theorem hgv111_28 : hgWJ X 111 28 L S K M = hgW X 111 28 (hgMask [true, true, true, true, true, true] L) S K M := id rfl
theorem hgu111_48 : hgW X 111 48 L S K M = hgEx X (2, 12) (hgWC X) (hgWJ X 111) hgr111_48 L S K M := hgW_eq X 111 48 L S K M
theorem hgv111_48 : hgWJ X 111 48 L S K M = hgW X 111 48 (hgMask [false, false, false, false, false, false] L) S K M := id rfl
theorem hgu111_58 : hgW X 111 58 L S K M = hgEx X (2, 12) (hgWC X) (hgWJ X 111) hgr111_58 L S K M := hgW_eq X 111 58 L S K M
theorem hgv111_58 : hgWJ X 111 58 L S K M = hgW X 111 58 (hgMask [true, true, true, true, true, true] L) S K M := id rfl
theorem hgu111_85 : hgW X 111 85 L S K M = hgEx X (2, 12) (hgWC X) (hgWJ X 111) hgr111_85 L S K M := hgW_eq X 111 85 L S K M
theorem hgv111_85 : hgWJ X 111 85 L S K M = hgW X 111 85 (hgMask [true, true, true, true, true, true] L) S K M := id rfl
/- X7_removeRule -/
theorem hgc112 (a0 : Nat) (x1 : Int32) : hgWC X 112 [.ref a0, .int x1] M = hgW X 112 0 [some (.ref a0), some (.int x1)] [] (0, 0) M := if_pos (Nat.le_of_ble_eq_true rfl)
theorem hgu112_0 : hgW X 112 0 L S K M = hgEx X (1, 6) (hgWC X) (hgWJ X 112) hgr112_0 L S K M := hgW_eq X 112 0 L S K M
theorem hgv112_0 : hgWJ X 112 0 L S K M = hgW X 112 0 (hgMask [true, true] L) S K M := id rfl
/- X7_moveRule -/
theorem hgc113 (a0 : Nat) (x1 x2 : Int32) : hgWC X 113 [.ref a0, .int x1, .int x2] M = hgW X 113 0 [some (.ref a0), some (.int x1), some (.int x2)] [] (0, 0) M := if_pos (Nat.le_of_ble_eq_true rfl)
theorem hgu113_0 : hgW X 113 0 L S K M = hgEx X (2, 12) (hgWC X) (hgWJ X 113) hgr113_0 L S K M := hgW_eq X 113 0 L S K M
theorem hgv113_0 : hgWJ X 113 0 L S K M = hgW X 113 0 (hgMask [true, true, true] L) S K M := id rfl
/- X7_undo -/
theorem hgc114 (a0 : Nat) : hgWC X 114 [.ref a0] M = hgW X 114 0 [some (.ref a0)] [] (0, 0) M := if_pos (Nat.le_of_ble_eq_true rfl)
theorem hgu114_0 : hgW X 114 0 L S K M = hgEx X (0, 0) (hgWC X) (hgWJ X 114) hgr114_0 L S K M := hgW_eq X 114 0 L S K M
theorem hgv114_0 : hgWJ X 114 0 L S K M = hgW X 114 0 (hgMask [true] L) S K M := id rfl
theorem hgu114_12 : hgW X 114 12 L S K M = hgEx X (0, 0) (hgWC X) (hgWJ X 114) hgr114_12 L S K M := hgW_eq X 114 12 L S K M
theorem hgv114_12 : hgWJ X 114 12 L S K M = hgW X 114 12 (hgMask [true] L) S K M := id rfl
/- X7_checksum -/
theorem hgc115 (a0 : Nat) : hgWC X 115 [.ref a0] M = hgW X 115 0 [some (.ref a0)] [] (0, 0) M := if_pos (Nat.le_of_ble_eq_true rfl)
theorem hgu115_0 : hgW X 115 0 L S K M = hgEx X (0, 0) (hgWC X) (hgWJ X 115) hgr115_0 L S K M := hgW_eq X 115 0 L S K M
theorem hgv115_0 : hgWJ X 115 0 L S K M = hgW X 115 0 (hgMask [true] L) S K M := id rfl
/- X7_appendWord -/
theorem hgc116 (a0 : Nat) (x1 : Int32) : hgWC X 116 [.ref a0, .int x1] M = hgW X 116 0 [some (.ref a0), some (.int x1), none] [] (0, 0) M := if_pos (Nat.le_of_ble_eq_true rfl)
theorem hgu116_0 : hgW X 116 0 L S K M = hgEx X (0, 0) (hgWC X) (hgWJ X 116) hgr116_0 L S K M := hgW_eq X 116 0 L S K M
theorem hgv116_0 : hgWJ X 116 0 L S K M = hgW X 116 0 (hgMask [true, true, false] L) S K M := id rfl
theorem hgu116_3 : hgW X 116 3 L S K M = hgEx X (0, 0) (hgWC X) (hgWJ X 116) hgr116_3 L S K M := hgW_eq X 116 3 L S K M
theorem hgv116_3 : hgWJ X 116 3 L S K M = hgW X 116 3 (hgMask [true, true, true] L) S K M := id rfl
theorem hgu116_49 : hgW X 116 49 L S K M = hgEx X (0, 0) (hgWC X) (hgWJ X 116) hgr116_49 L S K M := hgW_eq X 116 49 L S K M
theorem hgv116_49 : hgWJ X 116 49 L S K M = hgW X 116 49 (hgMask [true, true, true] L) S K M := id rfl
theorem hgu116_55 : hgW X 116 55 L S K M = hgEx X (0, 0) (hgWC X) (hgWJ X 116) hgr116_55 L S K M := hgW_eq X 116 55 L S K M
theorem hgv116_55 : hgWJ X 116 55 L S K M = hgW X 116 55 (hgMask [false, false, false] L) S K M := id rfl
/- X7_checkDevice -/
theorem hgc117 (a0 : Nat) (x1 : Int32) : hgWC X 117 [.ref a0, .int x1] M = hgW X 117 0 [some (.ref a0), some (.int x1)] [] (0, 0) M := if_pos (Nat.le_of_ble_eq_true rfl)
theorem hgu117_0 : hgW X 117 0 L S K M = hgEx X (1, 6) (hgWC X) (hgWJ X 117) hgr117_0 L S K M := hgW_eq X 117 0 L S K M
theorem hgv117_0 : hgWJ X 117 0 L S K M = hgW X 117 0 (hgMask [true, true] L) S K M := id rfl
theorem hgu117_15 : hgW X 117 15 L S K M = hgEx X (1, 6) (hgWC X) (hgWJ X 117) hgr117_15 L S K M := hgW_eq X 117 15 L S K M
theorem hgv117_15 : hgWJ X 117 15 L S K M = hgW X 117 15 (hgMask [false, false] L) S K M := id rfl
theorem hgu117_25 : hgW X 117 25 L S K M = hgEx X (1, 6) (hgWC X) (hgWJ X 117) hgr117_25 L S K M := hgW_eq X 117 25 L S K M
theorem hgv117_25 : hgWJ X 117 25 L S K M = hgW X 117 25 (hgMask [false, false] L) S K M := id rfl
/- X7_checkSender -/
theorem hgc118 (a0 : Nat) (x1 : Int32) : hgWC X 118 [.ref a0, .int x1] M = hgW X 118 0 [some (.ref a0), some (.int x1)] [] (0, 0) M := if_pos (Nat.le_of_ble_eq_true rfl)
theorem hgu118_0 : hgW X 118 0 L S K M = hgEx X (1, 6) (hgWC X) (hgWJ X 118) hgr118_0 L S K M := hgW_eq X 118 0 L S K M
theorem hgv118_0 : hgWJ X 118 0 L S K M = hgW X 118 0 (hgMask [true, true] L) S K M := id rfl
theorem hgu118_16 : hgW X 118 16 L S K M = hgEx X (1, 6) (hgWC X) (hgWJ X 118) hgr118_16 L S K M := hgW_eq X 118 16 L S K M
theorem hgv118_16 : hgWJ X 118 16 L S K M = hgW X 118 16 (hgMask [false, false] L) S K M := id rfl
theorem hgu118_26 : hgW X 118 26 L S K M = hgEx X (1, 6) (hgWC X) (hgWJ X 118) hgr118_26 L S K M := hgW_eq X 118 26 L S K M
theorem hgv118_26 : hgWJ X 118 26 L S K M = hgW X 118 26 (hgMask [false, false] L) S K M := id rfl
/- X7_checkRule -/
theorem hgc119 (a0 : Nat) (x1 : Int32) : hgWC X 119 [.ref a0, .int x1] M = hgW X 119 0 [some (.ref a0), some (.int x1)] [] (0, 0) M := if_pos (Nat.le_of_ble_eq_true rfl)
theorem hgu119_0 : hgW X 119 0 L S K M = hgEx X (1, 6) (hgWC X) (hgWJ X 119) hgr119_0 L S K M := hgW_eq X 119 0 L S K M
theorem hgv119_0 : hgWJ X 119 0 L S K M = hgW X 119 0 (hgMask [true, true] L) S K M := id rfl
theorem hgu119_18 : hgW X 119 18 L S K M = hgEx X (1, 6) (hgWC X) (hgWJ X 119) hgr119_18 L S K M := hgW_eq X 119 18 L S K M
theorem hgv119_18 : hgWJ X 119 18 L S K M = hgW X 119 18 (hgMask [false, false] L) S K M := id rfl
theorem hgu119_28 : hgW X 119 28 L S K M = hgEx X (1, 6) (hgWC X) (hgWJ X 119) hgr119_28 L S K M := hgW_eq X 119 28 L S K M
theorem hgv119_28 : hgWJ X 119 28 L S K M = hgW X 119 28 (hgMask [false, false] L) S K M := id rfl
/- X7_checkPort -/
theorem hgc120 (x0 : Int32) : hgWC X 120 [.int x0] M = hgW X 120 0 [some (.int x0)] [] (0, 0) M := if_pos (Nat.le_of_ble_eq_true rfl)
theorem hgu120_0 : hgW X 120 0 L S K M = hgEx X (1, 6) (hgWC X) (hgWJ X 120) hgr120_0 L S K M := hgW_eq X 120 0 L S K M
theorem hgv120_0 : hgWJ X 120 0 L S K M = hgW X 120 0 (hgMask [true] L) S K M := id rfl
theorem hgu120_11 : hgW X 120 11 L S K M = hgEx X (1, 6) (hgWC X) (hgWJ X 120) hgr120_11 L S K M := hgW_eq X 120 11 L S K M
theorem hgv120_11 : hgWJ X 120 11 L S K M = hgW X 120 11 (hgMask [false] L) S K M := id rfl
theorem hgu120_21 : hgW X 120 21 L S K M = hgEx X (1, 6) (hgWC X) (hgWJ X 120) hgr120_21 L S K M := hgW_eq X 120 21 L S K M
theorem hgv120_21 : hgWJ X 120 21 L S K M = hgW X 120 21 (hgMask [false] L) S K M := id rfl
/- X7_checkGateway -/
theorem hgc121 (a0 : Nat) : hgWC X 121 [.ref a0] M = hgW X 121 0 [some (.ref a0)] [] (0, 0) M := if_pos (Nat.le_of_ble_eq_true rfl)
theorem hgu121_0 : hgW X 121 0 L S K M = hgEx X (1, 6) (hgWC X) (hgWJ X 121) hgr121_0 L S K M := hgW_eq X 121 0 L S K M
theorem hgv121_0 : hgWJ X 121 0 L S K M = hgW X 121 0 (hgMask [true] L) S K M := id rfl
theorem hgu121_20 : hgW X 121 20 L S K M = hgEx X (1, 6) (hgWC X) (hgWJ X 121) hgr121_20 L S K M := hgW_eq X 121 20 L S K M
theorem hgv121_20 : hgWJ X 121 20 L S K M = hgW X 121 20 (hgMask [false] L) S K M := id rfl
/- X8_init -/
theorem hgc122 (a0 : Nat) : hgWC X 122 [.ref a0] M = hgW X 122 0 [some (.ref a0)] [] (0, 0) M := if_pos (Nat.le_of_ble_eq_true rfl)
theorem hgu122_0 : hgW X 122 0 L S K M = hgEx X (24, 223073) (hgWC X) (hgWJ X 122) hgr122_0 L S K M := hgW_eq X 122 0 L S K M
theorem hgv122_0 : hgWJ X 122 0 L S K M = hgW X 122 0 (hgMask [true] L) S K M := id rfl
/- X8_thrown -/
theorem hgc123 (a0 : Nat) : hgWC X 123 [.ref a0] M = hgW X 123 0 [some (.ref a0)] [] (0, 0) M := if_pos (Nat.le_of_ble_eq_true rfl)
theorem hgu123_0 : hgW X 123 0 L S K M = hgEx X (0, 0) (hgWC X) (hgWJ X 123) hgr123_0 L S K M := hgW_eq X 123 0 L S K M
theorem hgv123_0 : hgWJ X 123 0 L S K M = hgW X 123 0 (hgMask [true] L) S K M := id rfl
/- X8_fails -/
theorem hgc124 (a0 : Nat) (x1 x2 : Int32) : hgWC X 124 [.ref a0, .int x1, .int x2] M = hgW X 124 0 [some (.ref a0), some (.int x1), some (.int x2)] [] (0, 0) M := if_pos (Nat.le_of_ble_eq_true rfl)
theorem hgu124_0 : hgW X 124 0 L S K M = hgEx X (0, 0) (hgWC X) (hgWJ X 124) hgr124_0 L S K M := hgW_eq X 124 0 L S K M
theorem hgv124_0 : hgWJ X 124 0 L S K M = hgW X 124 0 (hgMask [true, true, true] L) S K M := id rfl
theorem hgu124_16 : hgW X 124 16 L S K M = hgEx X (0, 0) (hgWC X) (hgWJ X 124) hgr124_16 L S K M := hgW_eq X 124 16 L S K M
theorem hgv124_16 : hgWJ X 124 16 L S K M = hgW X 124 16 (hgMask [true, false, false] L) S K M := id rfl
theorem hgu124_27 : hgW X 124 27 L S K M = hgEx X (0, 0) (hgWC X) (hgWJ X 124) hgr124_27 L S K M := hgW_eq X 124 27 L S K M
theorem hgv124_27 : hgWJ X 124 27 L S K M = hgW X 124 27 (hgMask [false, false, false] L) S K M := id rfl
theorem hgu124_28 : hgW X 124 28 L S K M = hgEx X (0, 0) (hgWC X) (hgWJ X 124) hgr124_28 L S K M := hgW_eq X 124 28 L S K M
theorem hgv124_28 : hgWJ X 124 28 L S K M = hgW X 124 28 (hgMask [false, false, false] L) S K M := id rfl
/- X8_in -/
theorem hgc125 (x0 x1 x2 : Int32) : hgWC X 125 [.int x0, .int x1, .int x2] M = hgW X 125 0 [some (.int x0), some (.int x1), some (.int x2)] [] (0, 0) M := if_pos (Nat.le_of_ble_eq_true rfl)
theorem hgu125_0 : hgW X 125 0 L S K M = hgEx X (0, 0) (hgWC X) (hgWJ X 125) hgr125_0 L S K M := hgW_eq X 125 0 L S K M
theorem hgv125_0 : hgWJ X 125 0 L S K M = hgW X 125 0 (hgMask [true, true, true] L) S K M := id rfl
theorem hgu125_14 : hgW X 125 14 L S K M = hgEx X (0, 0) (hgWC X) (hgWJ X 125) hgr125_14 L S K M := hgW_eq X 125 14 L S K M
theorem hgv125_14 : hgWJ X 125 14 L S K M = hgW X 125 14 (hgMask [false, false, false] L) S K M := id rfl
theorem hgu125_15 : hgW X 125 15 L S K M = hgEx X (0, 0) (hgWC X) (hgWJ X 125) hgr125_15 L S K M := hgW_eq X 125 15 L S K M
theorem hgv125_15 : hgWJ X 125 15 L S K M = hgW X 125 15 (hgMask [false, false, false] L) S K M := id rfl
/- X8_max -/
theorem hgc126 (x0 x1 : Int32) : hgWC X 126 [.int x0, .int x1] M = hgW X 126 0 [some (.int x0), some (.int x1)] [] (0, 0) M := if_pos (Nat.le_of_ble_eq_true rfl)
theorem hgu126_0 : hgW X 126 0 L S K M = hgEx X (0, 0) (hgWC X) (hgWJ X 126) hgr126_0 L S K M := hgW_eq X 126 0 L S K M
theorem hgv126_0 : hgWJ X 126 0 L S K M = hgW X 126 0 (hgMask [true, true] L) S K M := id rfl
theorem hgu126_9 : hgW X 126 9 L S K M = hgEx X (0, 0) (hgWC X) (hgWJ X 126) hgr126_9 L S K M := hgW_eq X 126 9 L S K M
theorem hgv126_9 : hgWJ X 126 9 L S K M = hgW X 126 9 (hgMask [false, true] L) S K M := id rfl
theorem hgu126_10 : hgW X 126 10 L S K M = hgEx X (0, 0) (hgWC X) (hgWJ X 126) hgr126_10 L S K M := hgW_eq X 126 10 L S K M
theorem hgv126_10 : hgWJ X 126 10 L S K M = hgW X 126 10 (hgMask [false, false] L) S K M := id rfl
/- X8_min -/
theorem hgc127 (x0 x1 : Int32) : hgWC X 127 [.int x0, .int x1] M = hgW X 127 0 [some (.int x0), some (.int x1)] [] (0, 0) M := if_pos (Nat.le_of_ble_eq_true rfl)
theorem hgu127_0 : hgW X 127 0 L S K M = hgEx X (0, 0) (hgWC X) (hgWJ X 127) hgr127_0 L S K M := hgW_eq X 127 0 L S K M
theorem hgv127_0 : hgWJ X 127 0 L S K M = hgW X 127 0 (hgMask [true, true] L) S K M := id rfl
theorem hgu127_9 : hgW X 127 9 L S K M = hgEx X (0, 0) (hgWC X) (hgWJ X 127) hgr127_9 L S K M := hgW_eq X 127 9 L S K M
theorem hgv127_9 : hgWJ X 127 9 L S K M = hgW X 127 9 (hgMask [false, true] L) S K M := id rfl
theorem hgu127_10 : hgW X 127 10 L S K M = hgEx X (0, 0) (hgWC X) (hgWJ X 127) hgr127_10 L S K M := hgW_eq X 127 10 L S K M
theorem hgv127_10 : hgWJ X 127 10 L S K M = hgW X 127 10 (hgMask [false, false] L) S K M := id rfl
/- X8_device -/
theorem hgc128 (x0 : Int32) : hgWC X 128 [.int x0] M = hgW X 128 0 [some (.int x0)] [] (0, 0) M := if_pos (Nat.le_of_ble_eq_true rfl)
theorem hgu128_0 : hgW X 128 0 L S K M = hgEx X (0, 0) (hgWC X) (hgWJ X 128) hgr128_0 L S K M := hgW_eq X 128 0 L S K M
theorem hgv128_0 : hgWJ X 128 0 L S K M = hgW X 128 0 (hgMask [true] L) S K M := id rfl
/- X8_rule -/
theorem hgc129 (x0 : Int32) : hgWC X 129 [.int x0] M = hgW X 129 0 [some (.int x0)] [] (0, 0) M := if_pos (Nat.le_of_ble_eq_true rfl)
theorem hgu129_0 : hgW X 129 0 L S K M = hgEx X (0, 0) (hgWC X) (hgWJ X 129) hgr129_0 L S K M := hgW_eq X 129 0 L S K M
theorem hgv129_0 : hgWJ X 129 0 L S K M = hgW X 129 0 (hgMask [true] L) S K M := id rfl
/- X8_packet -/
theorem hgc130 (x0 x1 : Int32) : hgWC X 130 [.int x0, .int x1] M = hgW X 130 0 [some (.int x0), some (.int x1)] [] (0, 0) M := if_pos (Nat.le_of_ble_eq_true rfl)
theorem hgu130_0 : hgW X 130 0 L S K M = hgEx X (0, 0) (hgWC X) (hgWJ X 130) hgr130_0 L S K M := hgW_eq X 130 0 L S K M
theorem hgv130_0 : hgWJ X 130 0 L S K M = hgW X 130 0 (hgMask [true, true] L) S K M := id rfl
/- X8_quiet -/
theorem hgc131 (x0 : Int32) : hgWC X 131 [.int x0] M = hgW X 131 0 [some (.int x0)] [] (0, 0) M := if_pos (Nat.le_of_ble_eq_true rfl)
theorem hgu131_0 : hgW X 131 0 L S K M = hgEx X (0, 0) (hgWC X) (hgWJ X 131) hgr131_0 L S K M := hgW_eq X 131 0 L S K M
theorem hgv131_0 : hgWJ X 131 0 L S K M = hgW X 131 0 (hgMask [true] L) S K M := id rfl
/- X8_copy -/
theorem hgc132 (a0 a1 : Nat) : hgWC X 132 [.ref a0, .ref a1] M = hgW X 132 0 [some (.ref a0), some (.ref a1), none, none] [] (0, 0) M := if_pos (Nat.le_of_ble_eq_true rfl)
theorem hgu132_0 : hgW X 132 0 L S K M = hgEx X (0, 0) (hgWC X) (hgWJ X 132) hgr132_0 L S K M := hgW_eq X 132 0 L S K M
theorem hgv132_0 : hgWJ X 132 0 L S K M = hgW X 132 0 (hgMask [true, true, false, false] L) S K M := id rfl
theorem hgu132_2 : hgW X 132 2 L S K M = hgEx X (0, 0) (hgWC X) (hgWJ X 132) hgr132_2 L S K M := hgW_eq X 132 2 L S K M
theorem hgv132_2 : hgWJ X 132 2 L S K M = hgW X 132 2 (hgMask [true, true, true, false] L) S K M := id rfl
theorem hgu132_21 : hgW X 132 21 L S K M = hgEx X (0, 0) (hgWC X) (hgWJ X 132) hgr132_21 L S K M := hgW_eq X 132 21 L S K M
theorem hgv132_21 : hgWJ X 132 21 L S K M = hgW X 132 21 (hgMask [true, true, false, false] L) S K M := id rfl
theorem hgu132_23 : hgW X 132 23 L S K M = hgEx X (0, 0) (hgWC X) (hgWJ X 132) hgr132_23 L S K M := hgW_eq X 132 23 L S K M
theorem hgv132_23 : hgWJ X 132 23 L S K M = hgW X 132 23 (hgMask [true, true, true, false] L) S K M := id rfl
theorem hgu132_36 : hgW X 132 36 L S K M = hgEx X (0, 0) (hgWC X) (hgWJ X 132) hgr132_36 L S K M := hgW_eq X 132 36 L S K M
theorem hgv132_36 : hgWJ X 132 36 L S K M = hgW X 132 36 (hgMask [true, true, true, true] L) S K M := id rfl
theorem hgu132_65 : hgW X 132 65 L S K M = hgEx X (0, 0) (hgWC X) (hgWJ X 132) hgr132_65 L S K M := hgW_eq X 132 65 L S K M
theorem hgv132_65 : hgWJ X 132 65 L S K M = hgW X 132 65 (hgMask [true, true, true, false] L) S K M := id rfl
theorem hgu132_71 : hgW X 132 71 L S K M = hgEx X (0, 0) (hgWC X) (hgWJ X 132) hgr132_71 L S K M := hgW_eq X 132 71 L S K M
theorem hgv132_71 : hgWJ X 132 71 L S K M = hgW X 132 71 (hgMask [false, false, false, false] L) S K M := id rfl
/- X8_copyTimes -/
theorem hgc133 (a0 a1 : Nat) : hgWC X 133 [.ref a0, .ref a1] M = hgW X 133 0 [some (.ref a0), some (.ref a1), none] [] (0, 0) M := if_pos (Nat.le_of_ble_eq_true rfl)
theorem hgu133_0 : hgW X 133 0 L S K M = hgEx X (0, 0) (hgWC X) (hgWJ X 133) hgr133_0 L S K M := hgW_eq X 133 0 L S K M
theorem hgv133_0 : hgWJ X 133 0 L S K M = hgW X 133 0 (hgMask [true, true, false] L) S K M := id rfl
theorem hgu133_2 : hgW X 133 2 L S K M = hgEx X (0, 0) (hgWC X) (hgWJ X 133) hgr133_2 L S K M := hgW_eq X 133 2 L S K M
theorem hgv133_2 : hgWJ X 133 2 L S K M = hgW X 133 2 (hgMask [true, true, true] L) S K M := id rfl
theorem hgu133_20 : hgW X 133 20 L S K M = hgEx X (0, 0) (hgWC X) (hgWJ X 133) hgr133_20 L S K M := hgW_eq X 133 20 L S K M
theorem hgv133_20 : hgWJ X 133 20 L S K M = hgW X 133 20 (hgMask [false, false, false] L) S K M := id rfl
/- X8_append -/
theorem hgc134 (a0 : Nat) (x1 x2 x3 x4 x5 : Int32) : hgWC X 134 [.ref a0, .int x1, .int x2, .int x3, .int x4, .int x5] M = hgW X 134 0 [some (.ref a0), some (.int x1), some (.int x2), some (.int x3), some (.int x4), some (.int x5), none, none] [] (0, 0) M := if_pos (Nat.le_of_ble_eq_true rfl)
theorem hgu134_0 : hgW X 134 0 L S K M = hgEx X (0, 0) (hgWC X) (hgWJ X 134) hgr134_0 L S K M := hgW_eq X 134 0 L S K M
theorem hgv134_0 : hgWJ X 134 0 L S K M = hgW X 134 0 (hgMask [true, true, true, true, true, true, false, false] L) S K M := id rfl
theorem hgu134_20 : hgW X 134 20 L S K M = hgEx X (0, 0) (hgWC X) (hgWJ X 134) hgr134_20 L S K M := hgW_eq X 134 20 L S K M
theorem hgv134_20 : hgWJ X 134 20 L S K M = hgW X 134 20 (hgMask [true, true, true, true, true, true, false, false] L) S K M := id rfl
theorem hgu134_23 : hgW X 134 23 L S K M = hgEx X (0, 0) (hgWC X) (hgWJ X 134) hgr134_23 L S K M := hgW_eq X 134 23 L S K M
theorem hgv134_23 : hgWJ X 134 23 L S K M = hgW X 134 23 (hgMask [true, true, true, true, true, true, true, false] L) S K M := id rfl
theorem hgu134_40 : hgW X 134 40 L S K M = hgEx X (0, 0) (hgWC X) (hgWJ X 134) hgr134_40 L S K M := hgW_eq X 134 40 L S K M
theorem hgv134_40 : hgWJ X 134 40 L S K M = hgW X 134 40 (hgMask [true, true, true, true, true, true, true, false] L) S K M := id rfl
theorem hgu134_51 : hgW X 134 51 L S K M = hgEx X (0, 0) (hgWC X) (hgWJ X 134) hgr134_51 L S K M := hgW_eq X 134 51 L S K M
theorem hgv134_51 : hgWJ X 134 51 L S K M = hgW X 134 51 (hgMask [true, true, true, true, true, true, true, false] L) S K M := id rfl
theorem hgu134_62 : hgW X 134 62 L S K M = hgEx X (0, 0) (hgWC X) (hgWJ X 134) hgr134_62 L S K M := hgW_eq X 134 62 L S K M
theorem hgv134_62 : hgWJ X 134 62 L S K M = hgW X 134 62 (hgMask [true, true, true, true, true, true, true, false] L) S K M := id rfl
theorem hgu134_74 : hgW X 134 74 L S K M = hgEx X (0, 0) (hgWC X) (hgWJ X 134) hgr134_74 L S K M := hgW_eq X 134 74 L S K M
theorem hgv134_74 : hgWJ X 134 74 L S K M = hgW X 134 74 (hgMask [true, true, true, true, true, true, true, false] L) S K M := id rfl
theorem hgu134_76 : hgW X 134 76 L S K M = hgEx X (0, 0) (hgWC X) (hgWJ X 134) hgr134_76 L S K M := hgW_eq X 134 76 L S K M
theorem hgv134_76 : hgWJ X 134 76 L S K M = hgW X 134 76 (hgMask [true, true, true, true, true, true, true, false] L) S K M := id rfl
theorem hgu134_120 : hgW X 134 120 L S K M = hgEx X (0, 0) (hgWC X) (hgWJ X 134) hgr134_120 L S K M := hgW_eq X 134 120 L S K M
theorem hgv134_120 : hgWJ X 134 120 L S K M = hgW X 134 120 (hgMask [true, false, false, false, false, false, false, false] L) S K M := id rfl
/- X8_byteAt -/
theorem hgc135 (a0 : Nat) (x1 : Int32) : hgWC X 135 [.ref a0, .int x1] M = hgW X 135 0 [some (.ref a0), some (.int x1)] [] (0, 0) M := if_pos (Nat.le_of_ble_eq_true rfl)
theorem hgu135_0 : hgW X 135 0 L S K M = hgEx X (0, 0) (hgWC X) (hgWJ X 135) hgr135_0 L S K M := hgW_eq X 135 0 L S K M
theorem hgv135_0 : hgWJ X 135 0 L S K M = hgW X 135 0 (hgMask [true, true] L) S K M := id rfl
theorem hgu135_17 : hgW X 135 17 L S K M = hgEx X (0, 0) (hgWC X) (hgWJ X 135) hgr135_17 L S K M := hgW_eq X 135 17 L S K M
theorem hgv135_17 : hgWJ X 135 17 L S K M = hgW X 135 17 (hgMask [false, false] L) S K M := id rfl
theorem hgu135_18 : hgW X 135 18 L S K M = hgEx X (0, 0) (hgWC X) (hgWJ X 135) hgr135_18 L S K M := hgW_eq X 135 18 L S K M
theorem hgv135_18 : hgWJ X 135 18 L S K M = hgW X 135 18 (hgMask [false, false] L) S K M := id rfl
/- X8_isGood -/
theorem hgc136 (a0 : Nat) : hgWC X 136 [.ref a0] M = hgW X 136 0 [some (.ref a0)] [] (0, 0) M := if_pos (Nat.le_of_ble_eq_true rfl)
theorem hgu136_0 : hgW X 136 0 L S K M = hgEx X (0, 0) (hgWC X) (hgWJ X 136) hgr136_0 L S K M := hgW_eq X 136 0 L S K M
theorem hgv136_0 : hgWJ X 136 0 L S K M = hgW X 136 0 (hgMask [true] L) S K M := id rfl
theorem hgu136_11 : hgW X 136 11 L S K M = hgEx X (0, 0) (hgWC X) (hgWJ X 136) hgr136_11 L S K M := hgW_eq X 136 11 L S K M
theorem hgv136_11 : hgWJ X 136 11 L S K M = hgW X 136 11 (hgMask [false] L) S K M := id rfl
theorem hgu136_12 : hgW X 136 12 L S K M = hgEx X (0, 0) (hgWC X) (hgWJ X 136) hgr136_12 L S K M := hgW_eq X 136 12 L S K M
theorem hgv136_12 : hgWJ X 136 12 L S K M = hgW X 136 12 (hgMask [false] L) S K M := id rfl
/- X8_report -/
theorem hgc137 (a0 : Nat) (x1 x2 : Int32) : hgWC X 137 [.ref a0, .int x1, .int x2] M = hgW X 137 0 [some (.ref a0), some (.int x1), some (.int x2)] [] (0, 0) M := if_pos (Nat.le_of_ble_eq_true rfl)
theorem hgu137_0 : hgW X 137 0 L S K M = hgEx X (0, 0) (hgWC X) (hgWJ X 137) hgr137_0 L S K M := hgW_eq X 137 0 L S K M
theorem hgv137_0 : hgWJ X 137 0 L S K M = hgW X 137 0 (hgMask [true, true, true] L) S K M := id rfl
theorem hgu137_8 : hgW X 137 8 L S K M = hgEx X (0, 0) (hgWC X) (hgWJ X 137) hgr137_8 L S K M := hgW_eq X 137 8 L S K M
theorem hgv137_8 : hgWJ X 137 8 L S K M = hgW X 137 8 (hgMask [true, true, true] L) S K M := id rfl
/- X8_next -/
theorem hgc138 (a0 : Nat) : hgWC X 138 [.ref a0] M = hgW X 138 0 [some (.ref a0)] [] (0, 0) M := if_pos (Nat.le_of_ble_eq_true rfl)
theorem hgu138_0 : hgW X 138 0 L S K M = hgEx X (0, 0) (hgWC X) (hgWJ X 138) hgr138_0 L S K M := hgW_eq X 138 0 L S K M
theorem hgv138_0 : hgWJ X 138 0 L S K M = hgW X 138 0 (hgMask [true] L) S K M := id rfl
theorem hgu138_26 : hgW X 138 26 L S K M = hgEx X (0, 0) (hgWC X) (hgWJ X 138) hgr138_26 L S K M := hgW_eq X 138 26 L S K M
theorem hgv138_26 : hgWJ X 138 26 L S K M = hgW X 138 26 (hgMask [true] L) S K M := id rfl
/- X8_isLetter -/
theorem hgc139 (x0 : Int32) : hgWC X 139 [.int x0] M = hgW X 139 0 [some (.int x0)] [] (0, 0) M := if_pos (Nat.le_of_ble_eq_true rfl)
theorem hgu139_0 : hgW X 139 0 L S K M = hgEx X (0, 0) (hgWC X) (hgWJ X 139) hgr139_0 L S K M := hgW_eq X 139 0 L S K M
theorem hgv139_0 : hgWJ X 139 0 L S K M = hgW X 139 0 (hgMask [true] L) S K M := id rfl
/- X8_isDigit -/
theorem hgc140 (x0 : Int32) : hgWC X 140 [.int x0] M = hgW X 140 0 [some (.int x0)] [] (0, 0) M := if_pos (Nat.le_of_ble_eq_true rfl)
theorem hgu140_0 : hgW X 140 0 L S K M = hgEx X (0, 0) (hgWC X) (hgWJ X 140) hgr140_0 L S K M := hgW_eq X 140 0 L S K M
theorem hgv140_0 : hgWJ X 140 0 L S K M = hgW X 140 0 (hgMask [true] L) S K M := id rfl
/- X8_takeWord -/
theorem hgc141 (a0 a1 : Nat) : hgWC X 141 [.ref a0, .ref a1] M = hgW X 141 0 [some (.ref a0), some (.ref a1), none] [] (0, 0) M := if_pos (Nat.le_of_ble_eq_true rfl)
theorem hgu141_0 : hgW X 141 0 L S K M = hgEx X (0, 0) (hgWC X) (hgWJ X 141) hgr141_0 L S K M := hgW_eq X 141 0 L S K M
theorem hgv141_0 : hgWJ X 141 0 L S K M = hgW X 141 0 (hgMask [true, true, false] L) S K M := id rfl
theorem hgu141_9 : hgW X 141 9 L S K M = hgEx X (0, 0) (hgWC X) (hgWJ X 141) hgr141_9 L S K M := hgW_eq X 141 9 L S K M
theorem hgv141_9 : hgWJ X 141 9 L S K M = hgW X 141 9 (hgMask [true, true, false] L) S K M := id rfl
theorem hgu141_16 : hgW X 141 16 L S K M = hgEx X (0, 0) (hgWC X) (hgWJ X 141) hgr141_16 L S K M := hgW_eq X 141 16 L S K M
theorem hgv141_16 : hgWJ X 141 16 L S K M = hgW X 141 16 (hgMask [true, true, true] L) S K M := id rfl
theorem hgu141_44 : hgW X 141 44 L S K M = hgEx X (0, 0) (hgWC X) (hgWJ X 141) hgr141_44 L S K M := hgW_eq X 141 44 L S K M
theorem hgv141_44 : hgWJ X 141 44 L S K M = hgW X 141 44 (hgMask [true, true, true] L) S K M := id rfl
theorem hgu141_50 : hgW X 141 50 L S K M = hgEx X (0, 0) (hgWC X) (hgWJ X 141) hgr141_50 L S K M := hgW_eq X 141 50 L S K M
theorem hgv141_50 : hgWJ X 141 50 L S K M = hgW X 141 50 (hgMask [true, true, false] L) S K M := id rfl
theorem hgu141_71 : hgW X 141 71 L S K M = hgEx X (0, 0) (hgWC X) (hgWJ X 141) hgr141_71 L S K M := hgW_eq X 141 71 L S K M
theorem hgv141_71 : hgWJ X 141 71 L S K M = hgW X 141 71 (hgMask [true, true, false] L) S K M := id rfl
/- X8_expect -/
theorem hgc142 (a0 : Nat) (x1 : Int32) : hgWC X 142 [.ref a0, .int x1] M = hgW X 142 0 [some (.ref a0), some (.int x1)] [] (0, 0) M := if_pos (Nat.le_of_ble_eq_true rfl)
theorem hgu142_0 : hgW X 142 0 L S K M = hgEx X (0, 0) (hgWC X) (hgWJ X 142) hgr142_0 L S K M := hgW_eq X 142 0 L S K M
theorem hgv142_0 : hgWJ X 142 0 L S K M = hgW X 142 0 (hgMask [true, true] L) S K M := id rfl
theorem hgu142_8 : hgW X 142 8 L S K M = hgEx X (0, 0) (hgWC X) (hgWJ X 142) hgr142_8 L S K M := hgW_eq X 142 8 L S K M
theorem hgv142_8 : hgWJ X 142 8 L S K M = hgW X 142 8 (hgMask [true, true] L) S K M := id rfl
theorem hgu142_27 : hgW X 142 27 L S K M = hgEx X (0, 0) (hgWC X) (hgWJ X 142) hgr142_27 L S K M := hgW_eq X 142 27 L S K M
theorem hgv142_27 : hgWJ X 142 27 L S K M = hgW X 142 27 (hgMask [true, false] L) S K M := id rfl
/- X8_number -/
theorem hgc143 (a0 : Nat) (x1 x2 : Int32) : hgWC X 143 [.ref a0, .int x1, .int x2] M = hgW X 143 0 [some (.ref a0), some (.int x1), some (.int x2), none] [] (0, 0) M := if_pos (Nat.le_of_ble_eq_true rfl)
theorem hgu143_0 : hgW X 143 0 L S K M = hgEx X (0, 0) (hgWC X) (hgWJ X 143) hgr143_0 L S K M := hgW_eq X 143 0 L S K M
theorem hgv143_0 : hgWJ X 143 0 L S K M = hgW X 143 0 (hgMask [true, true, true, false] L) S K M := id rfl
theorem hgu143_9 : hgW X 143 9 L S K M = hgEx X (0, 0) (hgWC X) (hgWJ X 143) hgr143_9 L S K M := hgW_eq X 143 9 L S K M
theorem hgv143_9 : hgWJ X 143 9 L S K M = hgW X 143 9 (hgMask [true, true, true, false] L) S K M := id rfl
theorem hgu143_31 : hgW X 143 31 L S K M = hgEx X (0, 0) (hgWC X) (hgWJ X 143) hgr143_31 L S K M := hgW_eq X 143 31 L S K M
theorem hgv143_31 : hgWJ X 143 31 L S K M = hgW X 143 31 (hgMask [true, true, true, false] L) S K M := id rfl
theorem hgu143_41 : hgW X 143 41 L S K M = hgEx X (0, 0) (hgWC X) (hgWJ X 143) hgr143_41 L S K M := hgW_eq X 143 41 L S K M
theorem hgv143_41 : hgWJ X 143 41 L S K M = hgW X 143 41 (hgMask [true, true, true, true] L) S K M := id rfl
theorem hgu143_90 : hgW X 143 90 L S K M = hgEx X (0, 0) (hgWC X) (hgWJ X 143) hgr143_90 L S K M := hgW_eq X 143 90 L S K M
theorem hgv143_90 : hgWJ X 143 90 L S K M = hgW X 143 90 (hgMask [true, true, true, true] L) S K M := id rfl
theorem hgu143_109 : hgW X 143 109 L S K M = hgEx X (0, 0) (hgWC X) (hgWJ X 143) hgr143_109 L S K M := hgW_eq X 143 109 L S K M
theorem hgv143_109 : hgWJ X 143 109 L S K M = hgW X 143 109 (hgMask [false, false, false, true] L) S K M := id rfl
/- X8_once -/
theorem hgc144 (a0 : Nat) (x1 x2 : Int32) : hgWC X 144 [.ref a0, .int x1, .int x2] M = hgW X 144 0 [some (.ref a0), some (.int x1), some (.int x2)] [] (0, 0) M := if_pos (Nat.le_of_ble_eq_true rfl)
theorem hgu144_0 : hgW X 144 0 L S K M = hgEx X (0, 0) (hgWC X) (hgWJ X 144) hgr144_0 L S K M := hgW_eq X 144 0 L S K M
theorem hgv144_0 : hgWJ X 144 0 L S K M = hgW X 144 0 (hgMask [true, true, true] L) S K M := id rfl
theorem hgu144_19 : hgW X 144 19 L S K M = hgEx X (0, 0) (hgWC X) (hgWJ X 144) hgr144_19 L S K M := hgW_eq X 144 19 L S K M
theorem hgv144_19 : hgWJ X 144 19 L S K M = hgW X 144 19 (hgMask [true, true, false] L) S K M := id rfl
/- X8_readGroup -/
theorem hgc145 (a0 : Nat) : hgWC X 145 [.ref a0] M = hgW X 145 0 [some (.ref a0), none] [] (0, 0) M := if_pos (Nat.le_of_ble_eq_true rfl)
theorem hgu145_0 : hgW X 145 0 L S K M = hgEx X (0, 0) (hgWC X) (hgWJ X 145) hgr145_0 L S K M := hgW_eq X 145 0 L S K M
theorem hgv145_0 : hgWJ X 145 0 L S K M = hgW X 145 0 (hgMask [true, false] L) S K M := id rfl
theorem hgu145_13 : hgW X 145 13 L S K M = hgEx X (0, 0) (hgWC X) (hgWJ X 145) hgr145_13 L S K M := hgW_eq X 145 13 L S K M
theorem hgv145_13 : hgWJ X 145 13 L S K M = hgW X 145 13 (hgMask [true, false] L) S K M := id rfl
theorem hgu145_26 : hgW X 145 26 L S K M = hgEx X (0, 0) (hgWC X) (hgWJ X 145) hgr145_26 L S K M := hgW_eq X 145 26 L S K M
theorem hgv145_26 : hgWJ X 145 26 L S K M = hgW X 145 26 (hgMask [true, false] L) S K M := id rfl
theorem hgu145_39 : hgW X 145 39 L S K M = hgEx X (0, 0) (hgWC X) (hgWJ X 145) hgr145_39 L S K M := hgW_eq X 145 39 L S K M
theorem hgv145_39 : hgWJ X 145 39 L S K M = hgW X 145 39 (hgMask [true, false] L) S K M := id rfl
theorem hgu145_40 : hgW X 145 40 L S K M = hgEx X (0, 0) (hgWC X) (hgWJ X 145) hgr145_40 L S K M := hgW_eq X 145 40 L S K M
theorem hgv145_40 : hgWJ X 145 40 L S K M = hgW X 145 40 (hgMask [true, false] L) S K M := id rfl
theorem hgu145_56 : hgW X 145 56 L S K M = hgEx X (0, 0) (hgWC X) (hgWJ X 145) hgr145_56 L S K M := hgW_eq X 145 56 L S K M
theorem hgv145_56 : hgWJ X 145 56 L S K M = hgW X 145 56 (hgMask [false, true] L) S K M := id rfl
/- X8_readSelector -/
theorem hgc146 (a0 : Nat) : hgWC X 146 [.ref a0] M = hgW X 146 0 [some (.ref a0)] [] (0, 0) M := if_pos (Nat.le_of_ble_eq_true rfl)
theorem hgu146_0 : hgW X 146 0 L S K M = hgEx X (0, 0) (hgWC X) (hgWJ X 146) hgr146_0 L S K M := hgW_eq X 146 0 L S K M
theorem hgv146_0 : hgWJ X 146 0 L S K M = hgW X 146 0 (hgMask [true] L) S K M := id rfl
theorem hgu146_13 : hgW X 146 13 L S K M = hgEx X (0, 0) (hgWC X) (hgWJ X 146) hgr146_13 L S K M := hgW_eq X 146 13 L S K M
theorem hgv146_13 : hgWJ X 146 13 L S K M = hgW X 146 13 (hgMask [true] L) S K M := id rfl
theorem hgu146_26 : hgW X 146 26 L S K M = hgEx X (0, 0) (hgWC X) (hgWJ X 146) hgr146_26 L S K M := hgW_eq X 146 26 L S K M
theorem hgv146_26 : hgWJ X 146 26 L S K M = hgW X 146 26 (hgMask [true] L) S K M := id rfl
theorem hgu146_30 : hgW X 146 30 L S K M = hgEx X (0, 0) (hgWC X) (hgWJ X 146) hgr146_30 L S K M := hgW_eq X 146 30 L S K M
theorem hgv146_30 : hgWJ X 146 30 L S K M = hgW X 146 30 (hgMask [false] L) S K M := id rfl
/- X8_readDevice -/
theorem hgc147 (a0 : Nat) (x1 : Int32) : hgWC X 147 [.ref a0, .int x1] M = hgW X 147 0 [some (.ref a0), some (.int x1), none, none, none, none, none] [] (0, 0) M := if_pos (Nat.le_of_ble_eq_true rfl)
theorem hgu147_0 : hgW X 147 0 L S K M = hgEx X (0, 0) (hgWC X) (hgWJ X 147) hgr147_0 L S K M := hgW_eq X 147 0 L S K M
theorem hgv147_0 : hgWJ X 147 0 L S K M = hgW X 147 0 (hgMask [true, true, false, false, false, false, false] L) S K M := id rfl
theorem hgu147_18 : hgW X 147 18 L S K M = hgEx X (0, 0) (hgWC X) (hgWJ X 147) hgr147_18 L S K M := hgW_eq X 147 18 L S K M
theorem hgv147_18 : hgWJ X 147 18 L S K M = hgW X 147 18 (hgMask [true, false, false, false, false, false, false] L) S K M := id rfl
theorem hgu147_57 : hgW X 147 57 L S K M = hgEx X (0, 0) (hgWC X) (hgWJ X 147) hgr147_57 L S K M := hgW_eq X 147 57 L S K M
theorem hgv147_57 : hgWJ X 147 57 L S K M = hgW X 147 57 (hgMask [true, false, true, true, true, true, false] L) S K M := id rfl
/- X8_setRule -/
theorem hgc148 (a0 : Nat) (x1 x2 x3 x4 x5 x6 : Int32) : hgWC X 148 [.ref a0, .int x1, .int x2, .int x3, .int x4, .int x5, .int x6] M = hgW X 148 0 [some (.ref a0), some (.int x1), some (.int x2), some (.int x3), some (.int x4), some (.int x5), some (.int x6), none] [] (0, 0) M := if_pos (Nat.le_of_ble_eq_true rfl)
theorem hgu148_0 : hgW X 148 0 L S K M = hgEx X (0, 0) (hgWC X) (hgWJ X 148) hgr148_0 L S K M := hgW_eq X 148 0 L S K M
theorem hgv148_0 : hgWJ X 148 0 L S K M = hgW X 148 0 (hgMask [true, true, true, true, true, true, true, false] L) S K M := id rfl
/- X8_readRule -/
theorem hgc149 (a0 : Nat) (x1 x2 : Int32) : hgWC X 149 [.ref a0, .int x1, .int x2] M = hgW X 149 0 [some (.ref a0), some (.int x1), some (.int x2), none, none, none, none] [] (0, 0) M := if_pos (Nat.le_of_ble_eq_true rfl)
theorem hgu149_0 : hgW X 149 0 L S K M = hgEx X (0, 0) (hgWC X) (hgWJ X 149) hgr149_0 L S K M := hgW_eq X 149 0 L S K M
theorem hgv149_0 : hgWJ X 149 0 L S K M = hgW X 149 0 (hgMask [true, true, true, false, false, false, false] L) S K M := id rfl
theorem hgu149_18 : hgW X 149 18 L S K M = hgEx X (0, 0) (hgWC X) (hgWJ X 149) hgr149_18 L S K M := hgW_eq X 149 18 L S K M
theorem hgv149_18 : hgWJ X 149 18 L S K M = hgW X 149 18 (hgMask [true, false, true, false, false, false, false] L) S K M := id rfl
theorem hgu149_58 : hgW X 149 58 L S K M = hgEx X (0, 0) (hgWC X) (hgWJ X 149) hgr149_58 L S K M := hgW_eq X 149 58 L S K M
theorem hgv149_58 : hgWJ X 149 58 L S K M = hgW X 149 58 (hgMask [true, false, true, true, true, true, true] L) S K M := id rfl
/- X8_isWakePort -/
theorem hgc150 (a0 : Nat) (x1 : Int32) : hgWC X 150 [.ref a0, .int x1] M = hgW X 150 0 [some (.ref a0), some (.int x1), none] [] (0, 0) M := if_pos (Nat.le_of_ble_eq_true rfl)
theorem hgu150_0 : hgW X 150 0 L S K M = hgEx X (0, 0) (hgWC X) (hgWJ X 150) hgr150_0 L S K M := hgW_eq X 150 0 L S K M
theorem hgv150_0 : hgWJ X 150 0 L S K M = hgW X 150 0 (hgMask [true, true, false] L) S K M := id rfl
theorem hgu150_2 : hgW X 150 2 L S K M = hgEx X (0, 0) (hgWC X) (hgWJ X 150) hgr150_2 L S K M := hgW_eq X 150 2 L S K M
theorem hgv150_2 : hgWJ X 150 2 L S K M = hgW X 150 2 (hgMask [true, true, true] L) S K M := id rfl
theorem hgu150_21 : hgW X 150 21 L S K M = hgEx X (0, 0) (hgWC X) (hgWJ X 150) hgr150_21 L S K M := hgW_eq X 150 21 L S K M
theorem hgv150_21 : hgWJ X 150 21 L S K M = hgW X 150 21 (hgMask [true, true, true] L) S K M := id rfl
theorem hgu150_27 : hgW X 150 27 L S K M = hgEx X (0, 0) (hgWC X) (hgWJ X 150) hgr150_27 L S K M := hgW_eq X 150 27 L S K M
theorem hgv150_27 : hgWJ X 150 27 L S K M = hgW X 150 27 (hgMask [false, false, false] L) S K M := id rfl
/- X8_readWake -/
theorem hgc151 (a0 : Nat) : hgWC X 151 [.ref a0] M = hgW X 151 0 [some (.ref a0), none] [] (0, 0) M := if_pos (Nat.le_of_ble_eq_true rfl)
theorem hgu151_0 : hgW X 151 0 L S K M = hgEx X (0, 0) (hgWC X) (hgWJ X 151) hgr151_0 L S K M := hgW_eq X 151 0 L S K M
theorem hgv151_0 : hgWJ X 151 0 L S K M = hgW X 151 0 (hgMask [true, false] L) S K M := id rfl
theorem hgu151_37 : hgW X 151 37 L S K M = hgEx X (0, 0) (hgWC X) (hgWJ X 151) hgr151_37 L S K M := hgW_eq X 151 37 L S K M
theorem hgv151_37 : hgWJ X 151 37 L S K M = hgW X 151 37 (hgMask [true, true] L) S K M := id rfl
theorem hgu151_58 : hgW X 151 58 L S K M = hgEx X (0, 0) (hgWC X) (hgWJ X 151) hgr151_58 L S K M := hgW_eq X 151 58 L S K M
theorem hgv151_58 : hgWJ X 151 58 L S K M = hgW X 151 58 (hgMask [true, true] L) S K M := id rfl
theorem hgu151_66 : hgW X 151 66 L S K M = hgEx X (0, 0) (hgWC X) (hgWJ X 151) hgr151_66 L S K M := hgW_eq X 151 66 L S K M
theorem hgv151_66 : hgWJ X 151 66 L S K M = hgW X 151 66 (hgMask [true, true] L) S K M := id rfl
/- X8_readQuiet -/
theorem hgc152 (a0 : Nat) : hgWC X 152 [.ref a0] M = hgW X 152 0 [some (.ref a0), none, none, none, none] [] (0, 0) M := if_pos (Nat.le_of_ble_eq_true rfl)
theorem hgu152_0 : hgW X 152 0 L S K M = hgEx X (0, 0) (hgWC X) (hgWJ X 152) hgr152_0 L S K M := hgW_eq X 152 0 L S K M
theorem hgv152_0 : hgWJ X 152 0 L S K M = hgW X 152 0 (hgMask [true, false, false, false, false] L) S K M := id rfl
theorem hgu152_23 : hgW X 152 23 L S K M = hgEx X (0, 0) (hgWC X) (hgWJ X 152) hgr152_23 L S K M := hgW_eq X 152 23 L S K M
theorem hgv152_23 : hgWJ X 152 23 L S K M = hgW X 152 23 (hgMask [true, true, true, false, false] L) S K M := id rfl
/- X8_statement -/
theorem hgc153 (a0 : Nat) : hgWC X 153 [.ref a0] M = hgW X 153 0 [some (.ref a0), none] [] (0, 0) M := if_pos (Nat.le_of_ble_eq_true rfl)
theorem hgu153_0 : hgW X 153 0 L S K M = hgEx X (0, 0) (hgWC X) (hgWJ X 153) hgr153_0 L S K M := hgW_eq X 153 0 L S K M
theorem hgv153_0 : hgWJ X 153 0 L S K M = hgW X 153 0 (hgMask [true, false] L) S K M := id rfl
theorem hgu153_27 : hgW X 153 27 L S K M = hgEx X (0, 0) (hgWC X) (hgWJ X 153) hgr153_27 L S K M := hgW_eq X 153 27 L S K M
theorem hgv153_27 : hgWJ X 153 27 L S K M = hgW X 153 27 (hgMask [true, true] L) S K M := id rfl
theorem hgu153_45 : hgW X 153 45 L S K M = hgEx X (0, 0) (hgWC X) (hgWJ X 153) hgr153_45 L S K M := hgW_eq X 153 45 L S K M
theorem hgv153_45 : hgWJ X 153 45 L S K M = hgW X 153 45 (hgMask [true, true] L) S K M := id rfl
theorem hgu153_63 : hgW X 153 63 L S K M = hgEx X (0, 0) (hgWC X) (hgWJ X 153) hgr153_63 L S K M := hgW_eq X 153 63 L S K M
theorem hgv153_63 : hgWJ X 153 63 L S K M = hgW X 153 63 (hgMask [true, true] L) S K M := id rfl
theorem hgu153_85 : hgW X 153 85 L S K M = hgEx X (0, 0) (hgWC X) (hgWJ X 153) hgr153_85 L S K M := hgW_eq X 153 85 L S K M
theorem hgv153_85 : hgWJ X 153 85 L S K M = hgW X 153 85 (hgMask [true, true] L) S K M := id rfl
theorem hgu153_101 : hgW X 153 101 L S K M = hgEx X (0, 0) (hgWC X) (hgWJ X 153) hgr153_101 L S K M := hgW_eq X 153 101 L S K M
theorem hgv153_101 : hgWJ X 153 101 L S K M = hgW X 153 101 (hgMask [true, true] L) S K M := id rfl
theorem hgu153_134 : hgW X 153 134 L S K M = hgEx X (0, 0) (hgWC X) (hgWJ X 153) hgr153_134 L S K M := hgW_eq X 153 134 L S K M
theorem hgv153_134 : hgWJ X 153 134 L S K M = hgW X 153 134 (hgMask [true, true] L) S K M := id rfl
theorem hgu153_141 : hgW X 153 141 L S K M = hgEx X (0, 0) (hgWC X) (hgWJ X 153) hgr153_141 L S K M := hgW_eq X 153 141 L S K M
theorem hgv153_141 : hgWJ X 153 141 L S K M = hgW X 153 141 (hgMask [true, false] L) S K M := id rfl
/- X8_load -/
theorem hgc154 (a0 : Nat) (x1 : Int32) : hgWC X 154 [.ref a0, .int x1] M = hgW X 154 0 [some (.ref a0), some (.int x1), none] [] (0, 0) M := if_pos (Nat.le_of_ble_eq_true rfl)
theorem hgu154_0 : hgW X 154 0 L S K M = hgEx X (0, 0) (hgWC X) (hgWJ X 154) hgr154_0 L S K M := hgW_eq X 154 0 L S K M
theorem hgv154_0 : hgWJ X 154 0 L S K M = hgW X 154 0 (hgMask [true, true, false] L) S K M := id rfl
theorem hgu154_22 : hgW X 154 22 L S K M = hgEx X (0, 0) (hgWC X) (hgWJ X 154) hgr154_22 L S K M := hgW_eq X 154 22 L S K M
theorem hgv154_22 : hgWJ X 154 22 L S K M = hgW X 154 22 (hgMask [true, true, false] L) S K M := id rfl
theorem hgu154_23 : hgW X 154 23 L S K M = hgEx X (0, 0) (hgWC X) (hgWJ X 154) hgr154_23 L S K M := hgW_eq X 154 23 L S K M
theorem hgv154_23 : hgWJ X 154 23 L S K M = hgW X 154 23 (hgMask [true, true, false] L) S K M := id rfl
theorem hgu154_32 : hgW X 154 32 L S K M = hgEx X (0, 0) (hgWC X) (hgWJ X 154) hgr154_32 L S K M := hgW_eq X 154 32 L S K M
theorem hgv154_32 : hgWJ X 154 32 L S K M = hgW X 154 32 (hgMask [true, true, false] L) S K M := id rfl
theorem hgu154_64 : hgW X 154 64 L S K M = hgEx X (0, 0) (hgWC X) (hgWJ X 154) hgr154_64 L S K M := hgW_eq X 154 64 L S K M
theorem hgv154_64 : hgWJ X 154 64 L S K M = hgW X 154 64 (hgMask [true, false, true] L) S K M := id rfl
theorem hgu154_84 : hgW X 154 84 L S K M = hgEx X (0, 0) (hgWC X) (hgWJ X 154) hgr154_84 L S K M := hgW_eq X 154 84 L S K M
theorem hgv154_84 : hgWJ X 154 84 L S K M = hgW X 154 84 (hgMask [true, false, false] L) S K M := id rfl
theorem hgu154_113 : hgW X 154 113 L S K M = hgEx X (0, 0) (hgWC X) (hgWJ X 154) hgr154_113 L S K M := hgW_eq X 154 113 L S K M
theorem hgv154_113 : hgWJ X 154 113 L S K M = hgW X 154 113 (hgMask [true, false, false] L) S K M := id rfl
theorem hgu154_146 : hgW X 154 146 L S K M = hgEx X (0, 0) (hgWC X) (hgWJ X 154) hgr154_146 L S K M := hgW_eq X 154 146 L S K M
theorem hgv154_146 : hgWJ X 154 146 L S K M = hgW X 154 146 (hgMask [true, false, false] L) S K M := id rfl
theorem hgu154_168 : hgW X 154 168 L S K M = hgEx X (0, 0) (hgWC X) (hgWJ X 154) hgr154_168 L S K M := hgW_eq X 154 168 L S K M
theorem hgv154_168 : hgWJ X 154 168 L S K M = hgW X 154 168 (hgMask [true, false, false] L) S K M := id rfl
theorem hgu154_188 : hgW X 154 188 L S K M = hgEx X (0, 0) (hgWC X) (hgWJ X 154) hgr154_188 L S K M := hgW_eq X 154 188 L S K M
theorem hgv154_188 : hgWJ X 154 188 L S K M = hgW X 154 188 (hgMask [true, false, false] L) S K M := id rfl
theorem hgu154_205 : hgW X 154 205 L S K M = hgEx X (0, 0) (hgWC X) (hgWJ X 154) hgr154_205 L S K M := hgW_eq X 154 205 L S K M
theorem hgv154_205 : hgWJ X 154 205 L S K M = hgW X 154 205 (hgMask [true, false, true] L) S K M := id rfl
theorem hgu154_224 : hgW X 154 224 L S K M = hgEx X (0, 0) (hgWC X) (hgWJ X 154) hgr154_224 L S K M := hgW_eq X 154 224 L S K M
theorem hgv154_224 : hgWJ X 154 224 L S K M = hgW X 154 224 (hgMask [true, false, false] L) S K M := id rfl
/- X8_errorOffset -/
theorem hgc155 (a0 : Nat) : hgWC X 155 [.ref a0] M = hgW X 155 0 [some (.ref a0)] [] (0, 0) M := if_pos (Nat.le_of_ble_eq_true rfl)
theorem hgu155_0 : hgW X 155 0 L S K M = hgEx X (0, 0) (hgWC X) (hgWJ X 155) hgr155_0 L S K M := hgW_eq X 155 0 L S K M
theorem hgv155_0 : hgWJ X 155 0 L S K M = hgW X 155 0 (hgMask [true] L) S K M := id rfl
/- X8_matches -/
theorem hgc156 (a0 : Nat) (x1 x2 x3 x4 : Int32) : hgWC X 156 [.ref a0, .int x1, .int x2, .int x3, .int x4] M = hgW X 156 0 [some (.ref a0), some (.int x1), some (.int x2), some (.int x3), some (.int x4), none] [] (0, 0) M := if_pos (Nat.le_of_ble_eq_true rfl)
theorem hgu156_0 : hgW X 156 0 L S K M = hgEx X (0, 0) (hgWC X) (hgWJ X 156) hgr156_0 L S K M := hgW_eq X 156 0 L S K M
theorem hgv156_0 : hgWJ X 156 0 L S K M = hgW X 156 0 (hgMask [true, true, true, true, true, false] L) S K M := id rfl
theorem hgu156_32 : hgW X 156 32 L S K M = hgEx X (0, 0) (hgWC X) (hgWJ X 156) hgr156_32 L S K M := hgW_eq X 156 32 L S K M
theorem hgv156_32 : hgWJ X 156 32 L S K M = hgW X 156 32 (hgMask [true, false, false, true, true, true] L) S K M := id rfl
theorem hgu156_58 : hgW X 156 58 L S K M = hgEx X (0, 0) (hgWC X) (hgWJ X 156) hgr156_58 L S K M := hgW_eq X 156 58 L S K M
theorem hgv156_58 : hgWJ X 156 58 L S K M = hgW X 156 58 (hgMask [true, false, false, false, true, true] L) S K M := id rfl
theorem hgu156_88 : hgW X 156 88 L S K M = hgEx X (0, 0) (hgWC X) (hgWJ X 156) hgr156_88 L S K M := hgW_eq X 156 88 L S K M
theorem hgv156_88 : hgWJ X 156 88 L S K M = hgW X 156 88 (hgMask [false, false, false, false, false, false] L) S K M := id rfl
theorem hgu156_89 : hgW X 156 89 L S K M = hgEx X (0, 0) (hgWC X) (hgWJ X 156) hgr156_89 L S K M := hgW_eq X 156 89 L S K M
theorem hgv156_89 : hgWJ X 156 89 L S K M = hgW X 156 89 (hgMask [false, false, false, false, false, false] L) S K M := id rfl
/- X8_firstRule -/
theorem hgc157 (a0 : Nat) (x1 x2 x3 x4 : Int32) : hgWC X 157 [.ref a0, .int x1, .int x2, .int x3, .int x4] M = hgW X 157 0 [some (.ref a0), some (.int x1), some (.int x2), some (.int x3), some (.int x4), none] [] (0, 0) M := if_pos (Nat.le_of_ble_eq_true rfl)
theorem hgu157_0 : hgW X 157 0 L S K M = hgEx X (0, 0) (hgWC X) (hgWJ X 157) hgr157_0 L S K M := hgW_eq X 157 0 L S K M
theorem hgv157_0 : hgWJ X 157 0 L S K M = hgW X 157 0 (hgMask [true, true, true, true, true, false] L) S K M := id rfl
theorem hgu157_3 : hgW X 157 3 L S K M = hgEx X (0, 0) (hgWC X) (hgWJ X 157) hgr157_3 L S K M := hgW_eq X 157 3 L S K M
theorem hgv157_3 : hgWJ X 157 3 L S K M = hgW X 157 3 (hgMask [true, true, true, true, true, true] L) S K M := id rfl
theorem hgu157_25 : hgW X 157 25 L S K M = hgEx X (0, 0) (hgWC X) (hgWJ X 157) hgr157_25 L S K M := hgW_eq X 157 25 L S K M
theorem hgv157_25 : hgWJ X 157 25 L S K M = hgW X 157 25 (hgMask [true, true, true, true, true, true] L) S K M := id rfl
theorem hgu157_31 : hgW X 157 31 L S K M = hgEx X (0, 0) (hgWC X) (hgWJ X 157) hgr157_31 L S K M := hgW_eq X 157 31 L S K M
theorem hgv157_31 : hgWJ X 157 31 L S K M = hgW X 157 31 (hgMask [false, false, false, false, false, false] L) S K M := id rfl
/- X8_groupOf -/
theorem hgc158 (a0 : Nat) (x1 : Int32) : hgWC X 158 [.ref a0, .int x1] M = hgW X 158 0 [some (.ref a0), some (.int x1)] [] (0, 0) M := if_pos (Nat.le_of_ble_eq_true rfl)
theorem hgu158_0 : hgW X 158 0 L S K M = hgEx X (0, 0) (hgWC X) (hgWJ X 158) hgr158_0 L S K M := hgW_eq X 158 0 L S K M
theorem hgv158_0 : hgWJ X 158 0 L S K M = hgW X 158 0 (hgMask [true, true] L) S K M := id rfl
theorem hgu158_9 : hgW X 158 9 L S K M = hgEx X (0, 0) (hgWC X) (hgWJ X 158) hgr158_9 L S K M := hgW_eq X 158 9 L S K M
theorem hgv158_9 : hgWJ X 158 9 L S K M = hgW X 158 9 (hgMask [true, true] L) S K M := id rfl
theorem hgu158_18 : hgW X 158 18 L S K M = hgEx X (0, 0) (hgWC X) (hgWJ X 158) hgr158_18 L S K M := hgW_eq X 158 18 L S K M
theorem hgv158_18 : hgWJ X 158 18 L S K M = hgW X 158 18 (hgMask [false, false] L) S K M := id rfl
/- X8_verdictOf -/
theorem hgc159 (a0 : Nat) (x1 x2 x3 : Int32) : hgWC X 159 [.ref a0, .int x1, .int x2, .int x3] M = hgW X 159 0 [some (.ref a0), some (.int x1), some (.int x2), some (.int x3), none, none, none] [] (0, 0) M := if_pos (Nat.le_of_ble_eq_true rfl)
theorem hgu159_0 : hgW X 159 0 L S K M = hgEx X (0, 0) (hgWC X) (hgWJ X 159) hgr159_0 L S K M := hgW_eq X 159 0 L S K M
theorem hgv159_0 : hgWJ X 159 0 L S K M = hgW X 159 0 (hgMask [true, true, true, true, false, false, false] L) S K M := id rfl
theorem hgu159_36 : hgW X 159 36 L S K M = hgEx X (0, 0) (hgWC X) (hgWJ X 159) hgr159_36 L S K M := hgW_eq X 159 36 L S K M
theorem hgv159_36 : hgWJ X 159 36 L S K M = hgW X 159 36 (hgMask [false, false, false, false, false, false, false] L) S K M := id rfl
theorem hgu159_38 : hgW X 159 38 L S K M = hgEx X (0, 0) (hgWC X) (hgWJ X 159) hgr159_38 L S K M := hgW_eq X 159 38 L S K M
theorem hgv159_38 : hgWJ X 159 38 L S K M = hgW X 159 38 (hgMask [true, false, false, true, true, true, false] L) S K M := id rfl
theorem hgu159_71 : hgW X 159 71 L S K M = hgEx X (0, 0) (hgWC X) (hgWJ X 159) hgr159_71 L S K M := hgW_eq X 159 71 L S K M
theorem hgv159_71 : hgWJ X 159 71 L S K M = hgW X 159 71 (hgMask [false, false, false, false, false, false, false] L) S K M := id rfl
theorem hgu159_72 : hgW X 159 72 L S K M = hgEx X (0, 0) (hgWC X) (hgWJ X 159) hgr159_72 L S K M := hgW_eq X 159 72 L S K M
theorem hgv159_72 : hgWJ X 159 72 L S K M = hgW X 159 72 (hgMask [false, false, false, false, false, false, false] L) S K M := id rfl
theorem hgu159_73 : hgW X 159 73 L S K M = hgEx X (0, 0) (hgWC X) (hgWJ X 159) hgr159_73 L S K M := hgW_eq X 159 73 L S K M
theorem hgv159_73 : hgWJ X 159 73 L S K M = hgW X 159 73 (hgMask [true, false, false, false, false, false, true] L) S K M := id rfl
theorem hgu159_91 : hgW X 159 91 L S K M = hgEx X (0, 0) (hgWC X) (hgWJ X 159) hgr159_91 L S K M := hgW_eq X 159 91 L S K M
theorem hgv159_91 : hgWJ X 159 91 L S K M = hgW X 159 91 (hgMask [false, false, false, false, false, false, false] L) S K M := id rfl
theorem hgu159_92 : hgW X 159 92 L S K M = hgEx X (0, 0) (hgWC X) (hgWJ X 159) hgr159_92 L S K M := hgW_eq X 159 92 L S K M
theorem hgv159_92 : hgWJ X 159 92 L S K M = hgW X 159 92 (hgMask [false, false, false, false, false, false, false] L) S K M := id rfl
/- X8_isPort -/
theorem hgc160 (x0 : Int32) : hgWC X 160 [.int x0] M = hgW X 160 0 [some (.int x0)] [] (0, 0) M := if_pos (Nat.le_of_ble_eq_true rfl)
theorem hgu160_0 : hgW X 160 0 L S K M = hgEx X (0, 0) (hgWC X) (hgWJ X 160) hgr160_0 L S K M := hgW_eq X 160 0 L S K M
theorem hgv160_0 : hgWJ X 160 0 L S K M = hgW X 160 0 (hgMask [true] L) S K M := id rfl
/- X8_isQuietFor -/
theorem hgc161 (a0 : Nat) (x1 : Int32) : hgWC X 161 [.ref a0, .int x1] M = hgW X 161 0 [some (.ref a0), some (.int x1), none, none, none, none] [] (0, 0) M := if_pos (Nat.le_of_ble_eq_true rfl)
theorem hgu161_0 : hgW X 161 0 L S K M = hgEx X (0, 0) (hgWC X) (hgWJ X 161) hgr161_0 L S K M := hgW_eq X 161 0 L S K M
theorem hgv161_0 : hgWJ X 161 0 L S K M = hgW X 161 0 (hgMask [true, true, false, false, false, false] L) S K M := id rfl
theorem hgu161_13 : hgW X 161 13 L S K M = hgEx X (0, 0) (hgWC X) (hgWJ X 161) hgr161_13 L S K M := hgW_eq X 161 13 L S K M
theorem hgv161_13 : hgWJ X 161 13 L S K M = hgW X 161 13 (hgMask [true, false, true, false, false, false] L) S K M := id rfl
theorem hgu161_54 : hgW X 161 54 L S K M = hgEx X (0, 0) (hgWC X) (hgWJ X 161) hgr161_54 L S K M := hgW_eq X 161 54 L S K M
theorem hgv161_54 : hgWJ X 161 54 L S K M = hgW X 161 54 (hgMask [false, false, false, false, false, false] L) S K M := id rfl
theorem hgu161_58 : hgW X 161 58 L S K M = hgEx X (0, 0) (hgWC X) (hgWJ X 161) hgr161_58 L S K M := hgW_eq X 161 58 L S K M
theorem hgv161_58 : hgWJ X 161 58 L S K M = hgW X 161 58 (hgMask [false, false, false, false, false, false] L) S K M := id rfl
theorem hgu161_62 : hgW X 161 62 L S K M = hgEx X (0, 0) (hgWC X) (hgWJ X 161) hgr161_62 L S K M := hgW_eq X 161 62 L S K M
theorem hgv161_62 : hgWJ X 161 62 L S K M = hgW X 161 62 (hgMask [false, false, false, true, true, true] L) S K M := id rfl
theorem hgu161_78 : hgW X 161 78 L S K M = hgEx X (0, 0) (hgWC X) (hgWJ X 161) hgr161_78 L S K M := hgW_eq X 161 78 L S K M
theorem hgv161_78 : hgWJ X 161 78 L S K M = hgW X 161 78 (hgMask [false, false, false, false, false, false] L) S K M := id rfl
theorem hgu161_79 : hgW X 161 79 L S K M = hgEx X (0, 0) (hgWC X) (hgWJ X 161) hgr161_79 L S K M := hgW_eq X 161 79 L S K M
theorem hgv161_79 : hgWJ X 161 79 L S K M = hgW X 161 79 (hgMask [false, false, false, false, false, false] L) S K M := id rfl
/- X8_canBeServed -/
theorem hgc162 (a0 : Nat) (x1 : Int32) : hgWC X 162 [.ref a0, .int x1] M = hgW X 162 0 [some (.ref a0), some (.int x1)] [] (0, 0) M := if_pos (Nat.le_of_ble_eq_true rfl)
theorem hgu162_0 : hgW X 162 0 L S K M = hgEx X (0, 0) (hgWC X) (hgWJ X 162) hgr162_0 L S K M := hgW_eq X 162 0 L S K M
theorem hgv162_0 : hgWJ X 162 0 L S K M = hgW X 162 0 (hgMask [true, true] L) S K M := id rfl
theorem hgu162_40 : hgW X 162 40 L S K M = hgEx X (0, 0) (hgWC X) (hgWJ X 162) hgr162_40 L S K M := hgW_eq X 162 40 L S K M
theorem hgv162_40 : hgWJ X 162 40 L S K M = hgW X 162 40 (hgMask [false, false] L) S K M := id rfl
theorem hgu162_41 : hgW X 162 41 L S K M = hgEx X (0, 0) (hgWC X) (hgWJ X 162) hgr162_41 L S K M := hgW_eq X 162 41 L S K M
theorem hgv162_41 : hgWJ X 162 41 L S K M = hgW X 162 41 (hgMask [false, false] L) S K M := id rfl
/- X8_deliver -/
theorem hgc163 (a0 a1 : Nat) (x2 : Int32) : hgWC X 163 [.ref a0, .ref a1, .int x2] M = hgW X 163 0 [some (.ref a0), some (.ref a1), some (.int x2), none, none, none] [] (0, 0) M := if_pos (Nat.le_of_ble_eq_true rfl)
theorem hgu163_0 : hgW X 163 0 L S K M = hgEx X (0, 0) (hgWC X) (hgWJ X 163) hgr163_0 L S K M := hgW_eq X 163 0 L S K M
theorem hgv163_0 : hgWJ X 163 0 L S K M = hgW X 163 0 (hgMask [true, true, true, false, false, false] L) S K M := id rfl
theorem hgu163_59 : hgW X 163 59 L S K M = hgEx X (0, 0) (hgWC X) (hgWJ X 163) hgr163_59 L S K M := hgW_eq X 163 59 L S K M
theorem hgv163_59 : hgWJ X 163 59 L S K M = hgW X 163 59 (hgMask [true, true, true, true, true, true] L) S K M := id rfl
theorem hgu163_90 : hgW X 163 90 L S K M = hgEx X (0, 0) (hgWC X) (hgWJ X 163) hgr163_90 L S K M := hgW_eq X 163 90 L S K M
theorem hgv163_90 : hgWJ X 163 90 L S K M = hgW X 163 90 (hgMask [true, true, true, true, true, false] L) S K M := id rfl
/- X8_step -/
theorem hgc164 (a0 a1 : Nat) : hgWC X 164 [.ref a0, .ref a1] M = hgW X 164 0 [some (.ref a0), some (.ref a1), none, none, none, none, none] [] (0, 0) M := if_pos (Nat.le_of_ble_eq_true rfl)
theorem hgu164_0 : hgW X 164 0 L S K M = hgEx X (0, 0) (hgWC X) (hgWJ X 164) hgr164_0 L S K M := hgW_eq X 164 0 L S K M
theorem hgv164_0 : hgWJ X 164 0 L S K M = hgW X 164 0 (hgMask [true, true, false, false, false, false, false] L) S K M := id rfl
theorem hgu164_12 : hgW X 164 12 L S K M = hgEx X (0, 0) (hgWC X) (hgWJ X 164) hgr164_12 L S K M := hgW_eq X 164 12 L S K M
theorem hgv164_12 : hgWJ X 164 12 L S K M = hgW X 164 12 (hgMask [true, true, true, true, true, true, false] L) S K M := id rfl
theorem hgu164_40 : hgW X 164 40 L S K M = hgEx X (0, 0) (hgWC X) (hgWJ X 164) hgr164_40 L S K M := hgW_eq X 164 40 L S K M
theorem hgv164_40 : hgWJ X 164 40 L S K M = hgW X 164 40 (hgMask [true, true, true, true, true, true, true] L) S K M := id rfl
theorem hgu164_62 : hgW X 164 62 L S K M = hgEx X (0, 0) (hgWC X) (hgWJ X 164) hgr164_62 L S K M := hgW_eq X 164 62 L S K M
theorem hgv164_62 : hgWJ X 164 62 L S K M = hgW X 164 62 (hgMask [true, true, true, true, true, true, true] L) S K M := id rfl
theorem hgu164_77 : hgW X 164 77 L S K M = hgEx X (0, 0) (hgWC X) (hgWJ X 164) hgr164_77 L S K M := hgW_eq X 164 77 L S K M
theorem hgv164_77 : hgWJ X 164 77 L S K M = hgW X 164 77 (hgMask [true, true, true, true, true, true, false] L) S K M := id rfl
theorem hgu164_83 : hgW X 164 83 L S K M = hgEx X (0, 0) (hgWC X) (hgWJ X 164) hgr164_83 L S K M := hgW_eq X 164 83 L S K M
theorem hgv164_83 : hgWJ X 164 83 L S K M = hgW X 164 83 (hgMask [true, true, true, true, true, false, false] L) S K M := id rfl
theorem hgu164_89 : hgW X 164 89 L S K M = hgEx X (0, 0) (hgWC X) (hgWJ X 164) hgr164_89 L S K M := hgW_eq X 164 89 L S K M
theorem hgv164_89 : hgWJ X 164 89 L S K M = hgW X 164 89 (hgMask [true, true, true, true, true, true, true] L) S K M := id rfl
theorem hgu164_124 : hgW X 164 124 L S K M = hgEx X (0, 0) (hgWC X) (hgWJ X 164) hgr164_124 L S K M := hgW_eq X 164 124 L S K M
theorem hgv164_124 : hgWJ X 164 124 L S K M = hgW X 164 124 (hgMask [true, true, true, true, true, false, true] L) S K M := id rfl
theorem hgu164_128 : hgW X 164 128 L S K M = hgEx X (0, 0) (hgWC X) (hgWJ X 164) hgr164_128 L S K M := hgW_eq X 164 128 L S K M
theorem hgv164_128 : hgWJ X 164 128 L S K M = hgW X 164 128 (hgMask [true, true, true, true, true, true, true] L) S K M := id rfl
theorem hgu164_134 : hgW X 164 134 L S K M = hgEx X (0, 0) (hgWC X) (hgWJ X 164) hgr164_134 L S K M := hgW_eq X 164 134 L S K M
theorem hgv164_134 : hgWJ X 164 134 L S K M = hgW X 164 134 (hgMask [true, true, true, true, true, true, false] L) S K M := id rfl
theorem hgu164_155 : hgW X 164 155 L S K M = hgEx X (0, 0) (hgWC X) (hgWJ X 164) hgr164_155 L S K M := hgW_eq X 164 155 L S K M
theorem hgv164_155 : hgWJ X 164 155 L S K M = hgW X 164 155 (hgMask [true, true, true, true, true, true, false] L) S K M := id rfl
theorem hgu164_188 : hgW X 164 188 L S K M = hgEx X (0, 0) (hgWC X) (hgWJ X 164) hgr164_188 L S K M := hgW_eq X 164 188 L S K M
theorem hgv164_188 : hgWJ X 164 188 L S K M = hgW X 164 188 (hgMask [true, false, false, true, true, false, false] L) S K M := id rfl
theorem hgu164_191 : hgW X 164 191 L S K M = hgEx X (0, 0) (hgWC X) (hgWJ X 164) hgr164_191 L S K M := hgW_eq X 164 191 L S K M
theorem hgv164_191 : hgWJ X 164 191 L S K M = hgW X 164 191 (hgMask [true, false, false, true, true, true, false] L) S K M := id rfl
theorem hgu164_218 : hgW X 164 218 L S K M = hgEx X (0, 0) (hgWC X) (hgWJ X 164) hgr164_218 L S K M := hgW_eq X 164 218 L S K M
theorem hgv164_218 : hgWJ X 164 218 L S K M = hgW X 164 218 (hgMask [true, false, false, true, true, true, true] L) S K M := id rfl
theorem hgu164_239 : hgW X 164 239 L S K M = hgEx X (0, 0) (hgWC X) (hgWJ X 164) hgr164_239 L S K M := hgW_eq X 164 239 L S K M
theorem hgv164_239 : hgWJ X 164 239 L S K M = hgW X 164 239 (hgMask [true, false, false, true, true, true, true] L) S K M := id rfl
theorem hgu164_250 : hgW X 164 250 L S K M = hgEx X (0, 0) (hgWC X) (hgWJ X 164) hgr164_250 L S K M := hgW_eq X 164 250 L S K M
theorem hgv164_250 : hgWJ X 164 250 L S K M = hgW X 164 250 (hgMask [true, false, false, true, true, true, true] L) S K M := id rfl
theorem hgu164_284 : hgW X 164 284 L S K M = hgEx X (0, 0) (hgWC X) (hgWJ X 164) hgr164_284 L S K M := hgW_eq X 164 284 L S K M
theorem hgv164_284 : hgWJ X 164 284 L S K M = hgW X 164 284 (hgMask [true, false, false, true, true, true, false] L) S K M := id rfl
theorem hgu164_290 : hgW X 164 290 L S K M = hgEx X (0, 0) (hgWC X) (hgWJ X 164) hgr164_290 L S K M := hgW_eq X 164 290 L S K M
theorem hgv164_290 : hgWJ X 164 290 L S K M = hgW X 164 290 (hgMask [true, false, false, true, false, false, false] L) S K M := id rfl
/- X8_noDevice -/
theorem hgc165 (a0 : Nat) (x1 : Int32) : hgWC X 165 [.ref a0, .int x1] M = hgW X 165 0 [some (.ref a0), some (.int x1)] [] (0, 0) M := if_pos (Nat.le_of_ble_eq_true rfl)
theorem hgu165_0 : hgW X 165 0 L S K M = hgEx X (0, 0) (hgWC X) (hgWJ X 165) hgr165_0 L S K M := hgW_eq X 165 0 L S K M
theorem hgv165_0 : hgWJ X 165 0 L S K M = hgW X 165 0 (hgMask [true, true] L) S K M := id rfl
theorem hgu165_21 : hgW X 165 21 L S K M = hgEx X (0, 0) (hgWC X) (hgWJ X 165) hgr165_21 L S K M := hgW_eq X 165 21 L S K M
theorem hgv165_21 : hgWJ X 165 21 L S K M = hgW X 165 21 (hgMask [false, false] L) S K M := id rfl
theorem hgu165_22 : hgW X 165 22 L S K M = hgEx X (0, 0) (hgWC X) (hgWJ X 165) hgr165_22 L S K M := hgW_eq X 165 22 L S K M
theorem hgv165_22 : hgWJ X 165 22 L S K M = hgW X 165 22 (hgMask [false, false] L) S K M := id rfl
/- X8_noSender -/
theorem hgc166 (a0 : Nat) (x1 : Int32) : hgWC X 166 [.ref a0, .int x1] M = hgW X 166 0 [some (.ref a0), some (.int x1)] [] (0, 0) M := if_pos (Nat.le_of_ble_eq_true rfl)
theorem hgu166_0 : hgW X 166 0 L S K M = hgEx X (0, 0) (hgWC X) (hgWJ X 166) hgr166_0 L S K M := hgW_eq X 166 0 L S K M
theorem hgv166_0 : hgWJ X 166 0 L S K M = hgW X 166 0 (hgMask [true, true] L) S K M := id rfl
theorem hgu166_21 : hgW X 166 21 L S K M = hgEx X (0, 0) (hgWC X) (hgWJ X 166) hgr166_21 L S K M := hgW_eq X 166 21 L S K M
theorem hgv166_21 : hgWJ X 166 21 L S K M = hgW X 166 21 (hgMask [false, false] L) S K M := id rfl
theorem hgu166_22 : hgW X 166 22 L S K M = hgEx X (0, 0) (hgWC X) (hgWJ X 166) hgr166_22 L S K M := hgW_eq X 166 22 L S K M
theorem hgv166_22 : hgWJ X 166 22 L S K M = hgW X 166 22 (hgMask [false, false] L) S K M := id rfl
/- X8_noRule -/
theorem hgc167 (a0 : Nat) (x1 : Int32) : hgWC X 167 [.ref a0, .int x1] M = hgW X 167 0 [some (.ref a0), some (.int x1)] [] (0, 0) M := if_pos (Nat.le_of_ble_eq_true rfl)
theorem hgu167_0 : hgW X 167 0 L S K M = hgEx X (0, 0) (hgWC X) (hgWJ X 167) hgr167_0 L S K M := hgW_eq X 167 0 L S K M
theorem hgv167_0 : hgWJ X 167 0 L S K M = hgW X 167 0 (hgMask [true, true] L) S K M := id rfl
theorem hgu167_21 : hgW X 167 21 L S K M = hgEx X (0, 0) (hgWC X) (hgWJ X 167) hgr167_21 L S K M := hgW_eq X 167 21 L S K M
theorem hgv167_21 : hgWJ X 167 21 L S K M = hgW X 167 21 (hgMask [false, false] L) S K M := id rfl
theorem hgu167_22 : hgW X 167 22 L S K M = hgEx X (0, 0) (hgWC X) (hgWJ X 167) hgr167_22 L S K M := hgW_eq X 167 22 L S K M
theorem hgv167_22 : hgWJ X 167 22 L S K M = hgW X 167 22 (hgMask [false, false] L) S K M := id rfl
/- X8_deviceCount -/
theorem hgc168 (a0 : Nat) : hgWC X 168 [.ref a0] M = hgW X 168 0 [some (.ref a0)] [] (0, 0) M := if_pos (Nat.le_of_ble_eq_true rfl)
theorem hgu168_0 : hgW X 168 0 L S K M = hgEx X (0, 0) (hgWC X) (hgWJ X 168) hgr168_0 L S K M := hgW_eq X 168 0 L S K M
theorem hgv168_0 : hgWJ X 168 0 L S K M = hgW X 168 0 (hgMask [true] L) S K M := id rfl
/- X8_ruleCount -/
theorem hgc169 (a0 : Nat) : hgWC X 169 [.ref a0] M = hgW X 169 0 [some (.ref a0)] [] (0, 0) M := if_pos (Nat.le_of_ble_eq_true rfl)
theorem hgu169_0 : hgW X 169 0 L S K M = hgEx X (0, 0) (hgWC X) (hgWJ X 169) hgr169_0 L S K M := hgW_eq X 169 0 L S K M
theorem hgv169_0 : hgWJ X 169 0 L S K M = hgW X 169 0 (hgMask [true] L) S K M := id rfl
/- X8_clock -/
theorem hgc170 (a0 : Nat) : hgWC X 170 [.ref a0] M = hgW X 170 0 [some (.ref a0)] [] (0, 0) M := if_pos (Nat.le_of_ble_eq_true rfl)
theorem hgu170_0 : hgW X 170 0 L S K M = hgEx X (0, 0) (hgWC X) (hgWJ X 170) hgr170_0 L S K M := hgW_eq X 170 0 L S K M
theorem hgv170_0 : hgWJ X 170 0 L S K M = hgW X 170 0 (hgMask [true] L) S K M := id rfl
/- X8_state -/
theorem hgc171 (a0 : Nat) (x1 : Int32) : hgWC X 171 [.ref a0, .int x1] M = hgW X 171 0 [some (.ref a0), some (.int x1)] [] (0, 0) M := if_pos (Nat.le_of_ble_eq_true rfl)
theorem hgu171_0 : hgW X 171 0 L S K M = hgEx X (0, 0) (hgWC X) (hgWJ X 171) hgr171_0 L S K M := hgW_eq X 171 0 L S K M
theorem hgv171_0 : hgWJ X 171 0 L S K M = hgW X 171 0 (hgMask [true, true] L) S K M := id rfl
theorem hgu171_17 : hgW X 171 17 L S K M = hgEx X (0, 0) (hgWC X) (hgWJ X 171) hgr171_17 L S K M := hgW_eq X 171 17 L S K M
theorem hgv171_17 : hgWJ X 171 17 L S K M = hgW X 171 17 (hgMask [true, true] L) S K M := id rfl
theorem hgu171_28 : hgW X 171 28 L S K M = hgEx X (0, 0) (hgWC X) (hgWJ X 171) hgr171_28 L S K M := hgW_eq X 171 28 L S K M
theorem hgv171_28 : hgWJ X 171 28 L S K M = hgW X 171 28 (hgMask [false, false] L) S K M := id rfl
/- X8_weight -/
theorem hgc172 (a0 : Nat) (x1 : Int32) : hgWC X 172 [.ref a0, .int x1] M = hgW X 172 0 [some (.ref a0), some (.int x1)] [] (0, 0) M := if_pos (Nat.le_of_ble_eq_true rfl)
theorem hgu172_0 : hgW X 172 0 L S K M = hgEx X (0, 0) (hgWC X) (hgWJ X 172) hgr172_0 L S K M := hgW_eq X 172 0 L S K M
theorem hgv172_0 : hgWJ X 172 0 L S K M = hgW X 172 0 (hgMask [true, true] L) S K M := id rfl
theorem hgu172_17 : hgW X 172 17 L S K M = hgEx X (0, 0) (hgWC X) (hgWJ X 172) hgr172_17 L S K M := hgW_eq X 172 17 L S K M
theorem hgv172_17 : hgWJ X 172 17 L S K M = hgW X 172 17 (hgMask [true, true] L) S K M := id rfl
theorem hgu172_28 : hgW X 172 28 L S K M = hgEx X (0, 0) (hgWC X) (hgWJ X 172) hgr172_28 L S K M := hgW_eq X 172 28 L S K M
theorem hgv172_28 : hgWJ X 172 28 L S K M = hgW X 172 28 (hgMask [false, false] L) S K M := id rfl
/- X8_queueLength -/
theorem hgc173 (a0 : Nat) (x1 : Int32) : hgWC X 173 [.ref a0, .int x1] M = hgW X 173 0 [some (.ref a0), some (.int x1)] [] (0, 0) M := if_pos (Nat.le_of_ble_eq_true rfl)
theorem hgu173_0 : hgW X 173 0 L S K M = hgEx X (0, 0) (hgWC X) (hgWJ X 173) hgr173_0 L S K M := hgW_eq X 173 0 L S K M
theorem hgv173_0 : hgWJ X 173 0 L S K M = hgW X 173 0 (hgMask [true, true] L) S K M := id rfl
theorem hgu173_17 : hgW X 173 17 L S K M = hgEx X (0, 0) (hgWC X) (hgWJ X 173) hgr173_17 L S K M := hgW_eq X 173 17 L S K M
theorem hgv173_17 : hgWJ X 173 17 L S K M = hgW X 173 17 (hgMask [true, true] L) S K M := id rfl
theorem hgu173_29 : hgW X 173 29 L S K M = hgEx X (0, 0) (hgWC X) (hgWJ X 173) hgr173_29 L S K M := hgW_eq X 173 29 L S K M
theorem hgv173_29 : hgWJ X 173 29 L S K M = hgW X 173 29 (hgMask [false, false] L) S K M := id rfl
/- X8_backlogOf -/
theorem hgc174 (a0 : Nat) (x1 : Int32) : hgWC X 174 [.ref a0, .int x1] M = hgW X 174 0 [some (.ref a0), some (.int x1), none, none] [] (0, 0) M := if_pos (Nat.le_of_ble_eq_true rfl)
theorem hgu174_0 : hgW X 174 0 L S K M = hgEx X (0, 0) (hgWC X) (hgWJ X 174) hgr174_0 L S K M := hgW_eq X 174 0 L S K M
theorem hgv174_0 : hgWJ X 174 0 L S K M = hgW X 174 0 (hgMask [true, true, false, false] L) S K M := id rfl
theorem hgu174_4 : hgW X 174 4 L S K M = hgEx X (0, 0) (hgWC X) (hgWJ X 174) hgr174_4 L S K M := hgW_eq X 174 4 L S K M
theorem hgv174_4 : hgWJ X 174 4 L S K M = hgW X 174 4 (hgMask [true, true, true, true] L) S K M := id rfl
theorem hgu174_39 : hgW X 174 39 L S K M = hgEx X (0, 0) (hgWC X) (hgWJ X 174) hgr174_39 L S K M := hgW_eq X 174 39 L S K M
theorem hgv174_39 : hgWJ X 174 39 L S K M = hgW X 174 39 (hgMask [false, false, true, false] L) S K M := id rfl
/- X8_backlog -/
theorem hgc175 (a0 : Nat) (x1 : Int32) : hgWC X 175 [.ref a0, .int x1] M = hgW X 175 0 [some (.ref a0), some (.int x1)] [] (0, 0) M := if_pos (Nat.le_of_ble_eq_true rfl)
theorem hgu175_0 : hgW X 175 0 L S K M = hgEx X (0, 0) (hgWC X) (hgWJ X 175) hgr175_0 L S K M := hgW_eq X 175 0 L S K M
theorem hgv175_0 : hgWJ X 175 0 L S K M = hgW X 175 0 (hgMask [true, true] L) S K M := id rfl
theorem hgu175_17 : hgW X 175 17 L S K M = hgEx X (0, 0) (hgWC X) (hgWJ X 175) hgr175_17 L S K M := hgW_eq X 175 17 L S K M
theorem hgv175_17 : hgWJ X 175 17 L S K M = hgW X 175 17 (hgMask [true, true] L) S K M := id rfl
theorem hgu175_22 : hgW X 175 22 L S K M = hgEx X (0, 0) (hgWC X) (hgWJ X 175) hgr175_22 L S K M := hgW_eq X 175 22 L S K M
theorem hgv175_22 : hgWJ X 175 22 L S K M = hgW X 175 22 (hgMask [false, false] L) S K M := id rfl
/- X8_virtualTime -/
theorem hgc176 (a0 : Nat) (x1 : Int32) : hgWC X 176 [.ref a0, .int x1] M = hgW X 176 0 [some (.ref a0), some (.int x1)] [] (0, 0) M := if_pos (Nat.le_of_ble_eq_true rfl)
theorem hgu176_0 : hgW X 176 0 L S K M = hgEx X (0, 0) (hgWC X) (hgWJ X 176) hgr176_0 L S K M := hgW_eq X 176 0 L S K M
theorem hgv176_0 : hgWJ X 176 0 L S K M = hgW X 176 0 (hgMask [true, true] L) S K M := id rfl
theorem hgu176_17 : hgW X 176 17 L S K M = hgEx X (0, 0) (hgWC X) (hgWJ X 176) hgr176_17 L S K M := hgW_eq X 176 17 L S K M
theorem hgv176_17 : hgWJ X 176 17 L S K M = hgW X 176 17 (hgMask [true, true] L) S K M := id rfl
theorem hgu176_23 : hgW X 176 23 L S K M = hgEx X (0, 0) (hgWC X) (hgWJ X 176) hgr176_23 L S K M := hgW_eq X 176 23 L S K M
theorem hgv176_23 : hgWJ X 176 23 L S K M = hgW X 176 23 (hgMask [false, false] L) S K M := id rfl
/- X8_delivered -/
theorem hgc177 (a0 : Nat) (x1 : Int32) : hgWC X 177 [.ref a0, .int x1] M = hgW X 177 0 [some (.ref a0), some (.int x1)] [] (0, 0) M := if_pos (Nat.le_of_ble_eq_true rfl)
theorem hgu177_0 : hgW X 177 0 L S K M = hgEx X (0, 0) (hgWC X) (hgWJ X 177) hgr177_0 L S K M := hgW_eq X 177 0 L S K M
theorem hgv177_0 : hgWJ X 177 0 L S K M = hgW X 177 0 (hgMask [true, true] L) S K M := id rfl
theorem hgu177_17 : hgW X 177 17 L S K M = hgEx X (0, 0) (hgWC X) (hgWJ X 177) hgr177_17 L S K M := hgW_eq X 177 17 L S K M
theorem hgv177_17 : hgWJ X 177 17 L S K M = hgW X 177 17 (hgMask [true, true] L) S K M := id rfl
theorem hgu177_29 : hgW X 177 29 L S K M = hgEx X (0, 0) (hgWC X) (hgWJ X 177) hgr177_29 L S K M := hgW_eq X 177 29 L S K M
theorem hgv177_29 : hgWJ X 177 29 L S K M = hgW X 177 29 (hgMask [false, false] L) S K M := id rfl
/- X8_longestDelay -/
theorem hgc178 (a0 : Nat) (x1 : Int32) : hgWC X 178 [.ref a0, .int x1] M = hgW X 178 0 [some (.ref a0), some (.int x1)] [] (0, 0) M := if_pos (Nat.le_of_ble_eq_true rfl)
theorem hgu178_0 : hgW X 178 0 L S K M = hgEx X (0, 0) (hgWC X) (hgWJ X 178) hgr178_0 L S K M := hgW_eq X 178 0 L S K M
theorem hgv178_0 : hgWJ X 178 0 L S K M = hgW X 178 0 (hgMask [true, true] L) S K M := id rfl
theorem hgu178_17 : hgW X 178 17 L S K M = hgEx X (0, 0) (hgWC X) (hgWJ X 178) hgr178_17 L S K M := hgW_eq X 178 17 L S K M
theorem hgv178_17 : hgWJ X 178 17 L S K M = hgW X 178 17 (hgMask [true, true] L) S K M := id rfl
theorem hgu178_29 : hgW X 178 29 L S K M = hgEx X (0, 0) (hgWC X) (hgWJ X 178) hgr178_29 L S K M := hgW_eq X 178 29 L S K M
theorem hgv178_29 : hgWJ X 178 29 L S K M = hgW X 178 29 (hgMask [false, false] L) S K M := id rfl
/- X8_rejected -/
theorem hgc179 (a0 : Nat) : hgWC X 179 [.ref a0] M = hgW X 179 0 [some (.ref a0)] [] (0, 0) M := if_pos (Nat.le_of_ble_eq_true rfl)
theorem hgu179_0 : hgW X 179 0 L S K M = hgEx X (0, 0) (hgWC X) (hgWJ X 179) hgr179_0 L S K M := hgW_eq X 179 0 L S K M
theorem hgv179_0 : hgWJ X 179 0 L S K M = hgW X 179 0 (hgMask [true] L) S K M := id rfl
/- X8_proxied -/
theorem hgc180 (a0 : Nat) : hgWC X 180 [.ref a0] M = hgW X 180 0 [some (.ref a0)] [] (0, 0) M := if_pos (Nat.le_of_ble_eq_true rfl)
theorem hgu180_0 : hgW X 180 0 L S K M = hgEx X (0, 0) (hgWC X) (hgWJ X 180) hgr180_0 L S K M := hgW_eq X 180 0 L S K M
theorem hgv180_0 : hgWJ X 180 0 L S K M = hgW X 180 0 (hgMask [true] L) S K M := id rfl
/- X8_dropped -/
theorem hgc181 (a0 : Nat) : hgWC X 181 [.ref a0] M = hgW X 181 0 [some (.ref a0)] [] (0, 0) M := if_pos (Nat.le_of_ble_eq_true rfl)
theorem hgu181_0 : hgW X 181 0 L S K M = hgEx X (0, 0) (hgWC X) (hgWJ X 181) hgr181_0 L S K M := hgW_eq X 181 0 L S K M
theorem hgv181_0 : hgWJ X 181 0 L S K M = hgW X 181 0 (hgMask [true] L) S K M := id rfl
/- X8_isQuiet -/
theorem hgc182 (a0 : Nat) (x1 : Int32) : hgWC X 182 [.ref a0, .int x1] M = hgW X 182 0 [some (.ref a0), some (.int x1)] [] (0, 0) M := if_pos (Nat.le_of_ble_eq_true rfl)
theorem hgu182_0 : hgW X 182 0 L S K M = hgEx X (0, 0) (hgWC X) (hgWJ X 182) hgr182_0 L S K M := hgW_eq X 182 0 L S K M
theorem hgv182_0 : hgWJ X 182 0 L S K M = hgW X 182 0 (hgMask [true, true] L) S K M := id rfl
theorem hgu182_19 : hgW X 182 19 L S K M = hgEx X (0, 0) (hgWC X) (hgWJ X 182) hgr182_19 L S K M := hgW_eq X 182 19 L S K M
theorem hgv182_19 : hgWJ X 182 19 L S K M = hgW X 182 19 (hgMask [true, true] L) S K M := id rfl
theorem hgu182_20 : hgW X 182 20 L S K M = hgEx X (0, 0) (hgWC X) (hgWJ X 182) hgr182_20 L S K M := hgW_eq X 182 20 L S K M
theorem hgv182_20 : hgWJ X 182 20 L S K M = hgW X 182 20 (hgMask [true, true] L) S K M := id rfl
theorem hgu182_42 : hgW X 182 42 L S K M = hgEx X (0, 0) (hgWC X) (hgWJ X 182) hgr182_42 L S K M := hgW_eq X 182 42 L S K M
theorem hgv182_42 : hgWJ X 182 42 L S K M = hgW X 182 42 (hgMask [false, false] L) S K M := id rfl
theorem hgu182_43 : hgW X 182 43 L S K M = hgEx X (0, 0) (hgWC X) (hgWJ X 182) hgr182_43 L S K M := hgW_eq X 182 43 L S K M
theorem hgv182_43 : hgWJ X 182 43 L S K M = hgW X 182 43 (hgMask [false, false] L) S K M := id rfl
/- X8_verdict -/
theorem hgc183 (a0 : Nat) (x1 x2 x3 : Int32) : hgWC X 183 [.ref a0, .int x1, .int x2, .int x3] M = hgW X 183 0 [some (.ref a0), some (.int x1), some (.int x2), some (.int x3)] [] (0, 0) M := if_pos (Nat.le_of_ble_eq_true rfl)
theorem hgu183_0 : hgW X 183 0 L S K M = hgEx X (0, 0) (hgWC X) (hgWJ X 183) hgr183_0 L S K M := hgW_eq X 183 0 L S K M
theorem hgv183_0 : hgWJ X 183 0 L S K M = hgW X 183 0 (hgMask [true, true, true, true] L) S K M := id rfl
theorem hgu183_33 : hgW X 183 33 L S K M = hgEx X (0, 0) (hgWC X) (hgWJ X 183) hgr183_33 L S K M := hgW_eq X 183 33 L S K M
theorem hgv183_33 : hgWJ X 183 33 L S K M = hgW X 183 33 (hgMask [true, true, true, true] L) S K M := id rfl
theorem hgu183_34 : hgW X 183 34 L S K M = hgEx X (0, 0) (hgWC X) (hgWJ X 183) hgr183_34 L S K M := hgW_eq X 183 34 L S K M
theorem hgv183_34 : hgWJ X 183 34 L S K M = hgW X 183 34 (hgMask [true, true, true, true] L) S K M := id rfl
theorem hgu183_41 : hgW X 183 41 L S K M = hgEx X (0, 0) (hgWC X) (hgWJ X 183) hgr183_41 L S K M := hgW_eq X 183 41 L S K M
theorem hgv183_41 : hgWJ X 183 41 L S K M = hgW X 183 41 (hgMask [false, false, false, false] L) S K M := id rfl
theorem hgu183_45 : hgW X 183 45 L S K M = hgEx X (0, 0) (hgWC X) (hgWJ X 183) hgr183_45 L S K M := hgW_eq X 183 45 L S K M
theorem hgv183_45 : hgWJ X 183 45 L S K M = hgW X 183 45 (hgMask [true, true, true, true] L) S K M := id rfl
theorem hgu183_52 : hgW X 183 52 L S K M = hgEx X (0, 0) (hgWC X) (hgWJ X 183) hgr183_52 L S K M := hgW_eq X 183 52 L S K M
theorem hgv183_52 : hgWJ X 183 52 L S K M = hgW X 183 52 (hgMask [false, false, false, false] L) S K M := id rfl
/- X8_matching -/
theorem hgc184 (a0 : Nat) (x1 x2 x3 : Int32) : hgWC X 184 [.ref a0, .int x1, .int x2, .int x3] M = hgW X 184 0 [some (.ref a0), some (.int x1), some (.int x2), some (.int x3)] [] (0, 0) M := if_pos (Nat.le_of_ble_eq_true rfl)
theorem hgu184_0 : hgW X 184 0 L S K M = hgEx X (0, 0) (hgWC X) (hgWJ X 184) hgr184_0 L S K M := hgW_eq X 184 0 L S K M
theorem hgv184_0 : hgWJ X 184 0 L S K M = hgW X 184 0 (hgMask [true, true, true, true] L) S K M := id rfl
theorem hgu184_31 : hgW X 184 31 L S K M = hgEx X (0, 0) (hgWC X) (hgWJ X 184) hgr184_31 L S K M := hgW_eq X 184 31 L S K M
theorem hgv184_31 : hgWJ X 184 31 L S K M = hgW X 184 31 (hgMask [true, true, true, true] L) S K M := id rfl
theorem hgu184_35 : hgW X 184 35 L S K M = hgEx X (0, 0) (hgWC X) (hgWJ X 184) hgr184_35 L S K M := hgW_eq X 184 35 L S K M
theorem hgv184_35 : hgWJ X 184 35 L S K M = hgW X 184 35 (hgMask [true, true, true, true] L) S K M := id rfl
theorem hgu184_36 : hgW X 184 36 L S K M = hgEx X (0, 0) (hgWC X) (hgWJ X 184) hgr184_36 L S K M := hgW_eq X 184 36 L S K M
theorem hgv184_36 : hgWJ X 184 36 L S K M = hgW X 184 36 (hgMask [true, true, true, true] L) S K M := id rfl
theorem hgu184_47 : hgW X 184 47 L S K M = hgEx X (0, 0) (hgWC X) (hgWJ X 184) hgr184_47 L S K M := hgW_eq X 184 47 L S K M
theorem hgv184_47 : hgWJ X 184 47 L S K M = hgW X 184 47 (hgMask [true, true, true, true] L) S K M := id rfl
theorem hgu184_60 : hgW X 184 60 L S K M = hgEx X (0, 0) (hgWC X) (hgWJ X 184) hgr184_60 L S K M := hgW_eq X 184 60 L S K M
theorem hgv184_60 : hgWJ X 184 60 L S K M = hgW X 184 60 (hgMask [false, false, false, false] L) S K M := id rfl
/- X8_isUseless -/
theorem hgc185 (a0 : Nat) (x1 : Int32) : hgWC X 185 [.ref a0, .int x1] M = hgW X 185 0 [some (.ref a0), some (.int x1), none, none, none] [] (0, 0) M := if_pos (Nat.le_of_ble_eq_true rfl)
theorem hgu185_0 : hgW X 185 0 L S K M = hgEx X (0, 0) (hgWC X) (hgWJ X 185) hgr185_0 L S K M := hgW_eq X 185 0 L S K M
theorem hgv185_0 : hgWJ X 185 0 L S K M = hgW X 185 0 (hgMask [true, true, false, false, false] L) S K M := id rfl
theorem hgu185_15 : hgW X 185 15 L S K M = hgEx X (0, 0) (hgWC X) (hgWJ X 185) hgr185_15 L S K M := hgW_eq X 185 15 L S K M
theorem hgv185_15 : hgWJ X 185 15 L S K M = hgW X 185 15 (hgMask [true, true, false, false, false] L) S K M := id rfl
theorem hgu185_17 : hgW X 185 17 L S K M = hgEx X (0, 0) (hgWC X) (hgWJ X 185) hgr185_17 L S K M := hgW_eq X 185 17 L S K M
theorem hgv185_17 : hgWJ X 185 17 L S K M = hgW X 185 17 (hgMask [true, true, true, false, false] L) S K M := id rfl
theorem hgu185_24 : hgW X 185 24 L S K M = hgEx X (0, 0) (hgWC X) (hgWJ X 185) hgr185_24 L S K M := hgW_eq X 185 24 L S K M
theorem hgv185_24 : hgWJ X 185 24 L S K M = hgW X 185 24 (hgMask [true, true, true, true, false] L) S K M := id rfl
theorem hgu185_32 : hgW X 185 32 L S K M = hgEx X (0, 0) (hgWC X) (hgWJ X 185) hgr185_32 L S K M := hgW_eq X 185 32 L S K M
theorem hgv185_32 : hgWJ X 185 32 L S K M = hgW X 185 32 (hgMask [true, true, true, true, true] L) S K M := id rfl
theorem hgu185_67 : hgW X 185 67 L S K M = hgEx X (0, 0) (hgWC X) (hgWJ X 185) hgr185_67 L S K M := hgW_eq X 185 67 L S K M
theorem hgv185_67 : hgWJ X 185 67 L S K M = hgW X 185 67 (hgMask [true, true, true, true, true] L) S K M := id rfl
theorem hgu185_73 : hgW X 185 73 L S K M = hgEx X (0, 0) (hgWC X) (hgWJ X 185) hgr185_73 L S K M := hgW_eq X 185 73 L S K M
theorem hgv185_73 : hgWJ X 185 73 L S K M = hgW X 185 73 (hgMask [true, true, true, true, false] L) S K M := id rfl
theorem hgu185_79 : hgW X 185 79 L S K M = hgEx X (0, 0) (hgWC X) (hgWJ X 185) hgr185_79 L S K M := hgW_eq X 185 79 L S K M
theorem hgv185_79 : hgWJ X 185 79 L S K M = hgW X 185 79 (hgMask [true, true, true, false, false] L) S K M := id rfl
theorem hgu185_85 : hgW X 185 85 L S K M = hgEx X (0, 0) (hgWC X) (hgWJ X 185) hgr185_85 L S K M := hgW_eq X 185 85 L S K M
theorem hgv185_85 : hgWJ X 185 85 L S K M = hgW X 185 85 (hgMask [false, false, false, false, false] L) S K M := id rfl
/- X8_openPorts -/
theorem hgc186 (a0 : Nat) (x1 x2 : Int32) : hgWC X 186 [.ref a0, .int x1, .int x2] M = hgW X 186 0 [some (.ref a0), some (.int x1), some (.int x2), none, none] [] (0, 0) M := if_pos (Nat.le_of_ble_eq_true rfl)
theorem hgu186_0 : hgW X 186 0 L S K M = hgEx X (0, 0) (hgWC X) (hgWJ X 186) hgr186_0 L S K M := hgW_eq X 186 0 L S K M
theorem hgv186_0 : hgWJ X 186 0 L S K M = hgW X 186 0 (hgMask [true, true, true, false, false] L) S K M := id rfl
theorem hgu186_21 : hgW X 186 21 L S K M = hgEx X (0, 0) (hgWC X) (hgWJ X 186) hgr186_21 L S K M := hgW_eq X 186 21 L S K M
theorem hgv186_21 : hgWJ X 186 21 L S K M = hgW X 186 21 (hgMask [false, false, false, false, false] L) S K M := id rfl
theorem hgu186_23 : hgW X 186 23 L S K M = hgEx X (0, 0) (hgWC X) (hgWJ X 186) hgr186_23 L S K M := hgW_eq X 186 23 L S K M
theorem hgv186_23 : hgWJ X 186 23 L S K M = hgW X 186 23 (hgMask [true, true, true, false, false] L) S K M := id rfl
theorem hgu186_28 : hgW X 186 28 L S K M = hgEx X (0, 0) (hgWC X) (hgWJ X 186) hgr186_28 L S K M := hgW_eq X 186 28 L S K M
theorem hgv186_28 : hgWJ X 186 28 L S K M = hgW X 186 28 (hgMask [true, true, true, true, true] L) S K M := id rfl
theorem hgu186_52 : hgW X 186 52 L S K M = hgEx X (0, 0) (hgWC X) (hgWJ X 186) hgr186_52 L S K M := hgW_eq X 186 52 L S K M
theorem hgv186_52 : hgWJ X 186 52 L S K M = hgW X 186 52 (hgMask [true, true, true, false, true] L) S K M := id rfl
theorem hgu186_53 : hgW X 186 53 L S K M = hgEx X (0, 0) (hgWC X) (hgWJ X 186) hgr186_53 L S K M := hgW_eq X 186 53 L S K M
theorem hgv186_53 : hgWJ X 186 53 L S K M = hgW X 186 53 (hgMask [true, true, true, false, true] L) S K M := id rfl
theorem hgu186_61 : hgW X 186 61 L S K M = hgEx X (0, 0) (hgWC X) (hgWJ X 186) hgr186_61 L S K M := hgW_eq X 186 61 L S K M
theorem hgv186_61 : hgWJ X 186 61 L S K M = hgW X 186 61 (hgMask [false, false, false, true, false] L) S K M := id rfl
/- X8_fairness -/
theorem hgc187 (a0 : Nat) : hgWC X 187 [.ref a0] M = hgW X 187 0 [some (.ref a0), none, none, none, none] [] (0, 0) M := if_pos (Nat.le_of_ble_eq_true rfl)
theorem hgu187_0 : hgW X 187 0 L S K M = hgEx X (0, 0) (hgWC X) (hgWJ X 187) hgr187_0 L S K M := hgW_eq X 187 0 L S K M
theorem hgv187_0 : hgWJ X 187 0 L S K M = hgW X 187 0 (hgMask [true, false, false, false, false] L) S K M := id rfl
theorem hgu187_11 : hgW X 187 11 L S K M = hgEx X (0, 0) (hgWC X) (hgWJ X 187) hgr187_11 L S K M := hgW_eq X 187 11 L S K M
theorem hgv187_11 : hgWJ X 187 11 L S K M = hgW X 187 11 (hgMask [true, true, true, true, false] L) S K M := id rfl
theorem hgu187_70 : hgW X 187 70 L S K M = hgEx X (0, 0) (hgWC X) (hgWJ X 187) hgr187_70 L S K M := hgW_eq X 187 70 L S K M
theorem hgv187_70 : hgWJ X 187 70 L S K M = hgW X 187 70 (hgMask [true, true, true, false, false] L) S K M := id rfl
theorem hgu187_82 : hgW X 187 82 L S K M = hgEx X (0, 0) (hgWC X) (hgWJ X 187) hgr187_82 L S K M := hgW_eq X 187 82 L S K M
theorem hgv187_82 : hgWJ X 187 82 L S K M = hgW X 187 82 (hgMask [true, true, true, false, false] L) S K M := id rfl
theorem hgu187_99 : hgW X 187 99 L S K M = hgEx X (0, 0) (hgWC X) (hgWJ X 187) hgr187_99 L S K M := hgW_eq X 187 99 L S K M
theorem hgv187_99 : hgWJ X 187 99 L S K M = hgW X 187 99 (hgMask [false, false, false, false, false] L) S K M := id rfl
/- X8_isEmpty -/
theorem hgc188 (a0 : Nat) : hgWC X 188 [.ref a0] M = hgW X 188 0 [some (.ref a0), none] [] (0, 0) M := if_pos (Nat.le_of_ble_eq_true rfl)
theorem hgu188_0 : hgW X 188 0 L S K M = hgEx X (0, 0) (hgWC X) (hgWJ X 188) hgr188_0 L S K M := hgW_eq X 188 0 L S K M
theorem hgv188_0 : hgWJ X 188 0 L S K M = hgW X 188 0 (hgMask [true, false] L) S K M := id rfl
theorem hgu188_2 : hgW X 188 2 L S K M = hgEx X (0, 0) (hgWC X) (hgWJ X 188) hgr188_2 L S K M := hgW_eq X 188 2 L S K M
theorem hgv188_2 : hgWJ X 188 2 L S K M = hgW X 188 2 (hgMask [true, true] L) S K M := id rfl
theorem hgu188_23 : hgW X 188 23 L S K M = hgEx X (0, 0) (hgWC X) (hgWJ X 188) hgr188_23 L S K M := hgW_eq X 188 23 L S K M
theorem hgv188_23 : hgWJ X 188 23 L S K M = hgW X 188 23 (hgMask [true, true] L) S K M := id rfl
theorem hgu188_29 : hgW X 188 29 L S K M = hgEx X (0, 0) (hgWC X) (hgWJ X 188) hgr188_29 L S K M := hgW_eq X 188 29 L S K M
theorem hgv188_29 : hgWJ X 188 29 L S K M = hgW X 188 29 (hgMask [false, false] L) S K M := id rfl
/- X8_drainTime -/
theorem hgc189 (a0 : Nat) (x1 : Int32) : hgWC X 189 [.ref a0, .int x1] M = hgW X 189 0 [some (.ref a0), some (.int x1), none] [] (0, 0) M := if_pos (Nat.le_of_ble_eq_true rfl)
theorem hgu189_0 : hgW X 189 0 L S K M = hgEx X (0, 0) (hgWC X) (hgWJ X 189) hgr189_0 L S K M := hgW_eq X 189 0 L S K M
theorem hgv189_0 : hgWJ X 189 0 L S K M = hgW X 189 0 (hgMask [true, true, false] L) S K M := id rfl
theorem hgu189_21 : hgW X 189 21 L S K M = hgEx X (0, 0) (hgWC X) (hgWJ X 189) hgr189_21 L S K M := hgW_eq X 189 21 L S K M
theorem hgv189_21 : hgWJ X 189 21 L S K M = hgW X 189 21 (hgMask [true, true, false] L) S K M := id rfl
theorem hgu189_22 : hgW X 189 22 L S K M = hgEx X (0, 0) (hgWC X) (hgWJ X 189) hgr189_22 L S K M := hgW_eq X 189 22 L S K M
theorem hgv189_22 : hgWJ X 189 22 L S K M = hgW X 189 22 (hgMask [true, true, false] L) S K M := id rfl
theorem hgu189_31 : hgW X 189 31 L S K M = hgEx X (0, 0) (hgWC X) (hgWJ X 189) hgr189_31 L S K M := hgW_eq X 189 31 L S K M
theorem hgv189_31 : hgWJ X 189 31 L S K M = hgW X 189 31 (hgMask [true, true, false] L) S K M := id rfl
theorem hgu189_55 : hgW X 189 55 L S K M = hgEx X (0, 0) (hgWC X) (hgWJ X 189) hgr189_55 L S K M := hgW_eq X 189 55 L S K M
theorem hgv189_55 : hgWJ X 189 55 L S K M = hgW X 189 55 (hgMask [true, true, true] L) S K M := id rfl
theorem hgu189_72 : hgW X 189 72 L S K M = hgEx X (0, 0) (hgWC X) (hgWJ X 189) hgr189_72 L S K M := hgW_eq X 189 72 L S K M
theorem hgv189_72 : hgWJ X 189 72 L S K M = hgW X 189 72 (hgMask [true, true, true] L) S K M := id rfl
theorem hgu189_90 : hgW X 189 90 L S K M = hgEx X (0, 0) (hgWC X) (hgWJ X 189) hgr189_90 L S K M := hgW_eq X 189 90 L S K M
theorem hgv189_90 : hgWJ X 189 90 L S K M = hgW X 189 90 (hgMask [false, false, false] L) S K M := id rfl
/- X8_remember -/
theorem hgc190 (a0 : Nat) : hgWC X 190 [.ref a0] M = hgW X 190 0 [some (.ref a0), none] [] (0, 0) M := if_pos (Nat.le_of_ble_eq_true rfl)
theorem hgu190_0 : hgW X 190 0 L S K M = hgEx X (0, 0) (hgWC X) (hgWJ X 190) hgr190_0 L S K M := hgW_eq X 190 0 L S K M
theorem hgv190_0 : hgWJ X 190 0 L S K M = hgW X 190 0 (hgMask [true, false] L) S K M := id rfl
theorem hgu190_11 : hgW X 190 11 L S K M = hgEx X (0, 0) (hgWC X) (hgWJ X 190) hgr190_11 L S K M := hgW_eq X 190 11 L S K M
theorem hgv190_11 : hgWJ X 190 11 L S K M = hgW X 190 11 (hgMask [true, true] L) S K M := id rfl
theorem hgu190_57 : hgW X 190 57 L S K M = hgEx X (0, 0) (hgWC X) (hgWJ X 190) hgr190_57 L S K M := hgW_eq X 190 57 L S K M
theorem hgv190_57 : hgWJ X 190 57 L S K M = hgW X 190 57 (hgMask [true, false] L) S K M := id rfl
theorem hgu190_67 : hgW X 190 67 L S K M = hgEx X (0, 0) (hgWC X) (hgWJ X 190) hgr190_67 L S K M := hgW_eq X 190 67 L S K M
theorem hgv190_67 : hgWJ X 190 67 L S K M = hgW X 190 67 (hgMask [true, false] L) S K M := id rfl
/- X8_receive -/
theorem hgc191 (a0 : Nat) (x1 x2 x3 x4 : Int32) : hgWC X 191 [.ref a0, .int x1, .int x2, .int x3, .int x4] M = hgW X 191 0 [some (.ref a0), some (.int x1), some (.int x2), some (.int x3), some (.int x4), none, none, none, none] [] (0, 0) M := if_pos (Nat.le_of_ble_eq_true rfl)
theorem hgu191_0 : hgW X 191 0 L S K M = hgEx X (0, 0) (hgWC X) (hgWJ X 191) hgr191_0 L S K M := hgW_eq X 191 0 L S K M
theorem hgv191_0 : hgWJ X 191 0 L S K M = hgW X 191 0 (hgMask [true, true, true, true, true, false, false, false, false] L) S K M := id rfl
theorem hgu191_18 : hgW X 191 18 L S K M = hgEx X (0, 0) (hgWC X) (hgWJ X 191) hgr191_18 L S K M := hgW_eq X 191 18 L S K M
theorem hgv191_18 : hgWJ X 191 18 L S K M = hgW X 191 18 (hgMask [true, false, true, true, true, true, false, false, false] L) S K M := id rfl
theorem hgu191_44 : hgW X 191 44 L S K M = hgEx X (0, 0) (hgWC X) (hgWJ X 191) hgr191_44 L S K M := hgW_eq X 191 44 L S K M
theorem hgv191_44 : hgWJ X 191 44 L S K M = hgW X 191 44 (hgMask [true, false, true, false, true, true, false, false, false] L) S K M := id rfl
theorem hgu191_64 : hgW X 191 64 L S K M = hgEx X (0, 0) (hgWC X) (hgWJ X 191) hgr191_64 L S K M := hgW_eq X 191 64 L S K M
theorem hgv191_64 : hgWJ X 191 64 L S K M = hgW X 191 64 (hgMask [true, false, true, false, true, true, false, false, false] L) S K M := id rfl
theorem hgu191_85 : hgW X 191 85 L S K M = hgEx X (0, 0) (hgWC X) (hgWJ X 191) hgr191_85 L S K M := hgW_eq X 191 85 L S K M
theorem hgv191_85 : hgWJ X 191 85 L S K M = hgW X 191 85 (hgMask [true, false, true, false, true, true, true, false, true] L) S K M := id rfl
theorem hgu191_138 : hgW X 191 138 L S K M = hgEx X (0, 0) (hgWC X) (hgWJ X 191) hgr191_138 L S K M := hgW_eq X 191 138 L S K M
theorem hgv191_138 : hgWJ X 191 138 L S K M = hgW X 191 138 (hgMask [true, false, true, false, true, true, false, false, true] L) S K M := id rfl
theorem hgu191_147 : hgW X 191 147 L S K M = hgEx X (0, 0) (hgWC X) (hgWJ X 191) hgr191_147 L S K M := hgW_eq X 191 147 L S K M
theorem hgv191_147 : hgWJ X 191 147 L S K M = hgW X 191 147 (hgMask [true, false, true, false, true, true, true, false, true] L) S K M := id rfl
theorem hgu191_153 : hgW X 191 153 L S K M = hgEx X (0, 0) (hgWC X) (hgWJ X 191) hgr191_153 L S K M := hgW_eq X 191 153 L S K M
theorem hgv191_153 : hgWJ X 191 153 L S K M = hgW X 191 153 (hgMask [true, false, true, false, true, true, true, false, false] L) S K M := id rfl
theorem hgu191_179 : hgW X 191 179 L S K M = hgEx X (0, 0) (hgWC X) (hgWJ X 191) hgr191_179 L S K M := hgW_eq X 191 179 L S K M
theorem hgv191_179 : hgWJ X 191 179 L S K M = hgW X 191 179 (hgMask [true, false, true, false, true, true, true, false, false] L) S K M := id rfl
theorem hgu191_181 : hgW X 191 181 L S K M = hgEx X (0, 0) (hgWC X) (hgWJ X 191) hgr191_181 L S K M := hgW_eq X 191 181 L S K M
theorem hgv191_181 : hgWJ X 191 181 L S K M = hgW X 191 181 (hgMask [true, false, true, false, true, true, false, false, false] L) S K M := id rfl
theorem hgu191_182 : hgW X 191 182 L S K M = hgEx X (0, 0) (hgWC X) (hgWJ X 191) hgr191_182 L S K M := hgW_eq X 191 182 L S K M
theorem hgv191_182 : hgWJ X 191 182 L S K M = hgW X 191 182 (hgMask [true, false, true, false, true, true, false, false, false] L) S K M := id rfl
theorem hgu191_262 : hgW X 191 262 L S K M = hgEx X (0, 0) (hgWC X) (hgWJ X 191) hgr191_262 L S K M := hgW_eq X 191 262 L S K M
theorem hgv191_262 : hgWJ X 191 262 L S K M = hgW X 191 262 (hgMask [false, false, false, false, false, false, false, false, false] L) S K M := id rfl
/- X8_wakeUp -/
theorem hgc192 (a0 : Nat) (x1 : Int32) : hgWC X 192 [.ref a0, .int x1] M = hgW X 192 0 [some (.ref a0), some (.int x1)] [] (0, 0) M := if_pos (Nat.le_of_ble_eq_true rfl)
theorem hgu192_0 : hgW X 192 0 L S K M = hgEx X (0, 0) (hgWC X) (hgWJ X 192) hgr192_0 L S K M := hgW_eq X 192 0 L S K M
theorem hgv192_0 : hgWJ X 192 0 L S K M = hgW X 192 0 (hgMask [true, true] L) S K M := id rfl
/- X8_arrive -/
theorem hgc193 (a0 : Nat) (x1 x2 x3 x4 : Int32) : hgWC X 193 [.ref a0, .int x1, .int x2, .int x3, .int x4] M = hgW X 193 0 [some (.ref a0), some (.int x1), some (.int x2), some (.int x3), some (.int x4), none] [] (0, 0) M := if_pos (Nat.le_of_ble_eq_true rfl)
theorem hgu193_0 : hgW X 193 0 L S K M = hgEx X (0, 0) (hgWC X) (hgWJ X 193) hgr193_0 L S K M := hgW_eq X 193 0 L S K M
theorem hgv193_0 : hgWJ X 193 0 L S K M = hgW X 193 0 (hgMask [true, true, true, true, true, false] L) S K M := id rfl
theorem hgu193_40 : hgW X 193 40 L S K M = hgEx X (0, 0) (hgWC X) (hgWJ X 193) hgr193_40 L S K M := hgW_eq X 193 40 L S K M
theorem hgv193_40 : hgWJ X 193 40 L S K M = hgW X 193 40 (hgMask [true, true, true, true, true, false] L) S K M := id rfl
theorem hgu193_44 : hgW X 193 44 L S K M = hgEx X (0, 0) (hgWC X) (hgWJ X 193) hgr193_44 L S K M := hgW_eq X 193 44 L S K M
theorem hgv193_44 : hgWJ X 193 44 L S K M = hgW X 193 44 (hgMask [true, true, true, true, true, false] L) S K M := id rfl
theorem hgu193_45 : hgW X 193 45 L S K M = hgEx X (0, 0) (hgWC X) (hgWJ X 193) hgr193_45 L S K M := hgW_eq X 193 45 L S K M
theorem hgv193_45 : hgWJ X 193 45 L S K M = hgW X 193 45 (hgMask [true, true, true, true, true, false] L) S K M := id rfl
theorem hgu193_52 : hgW X 193 52 L S K M = hgEx X (0, 0) (hgWC X) (hgWJ X 193) hgr193_52 L S K M := hgW_eq X 193 52 L S K M
theorem hgv193_52 : hgWJ X 193 52 L S K M = hgW X 193 52 (hgMask [false, false, false, false, false, false] L) S K M := id rfl
theorem hgu193_54 : hgW X 193 54 L S K M = hgEx X (0, 0) (hgWC X) (hgWJ X 193) hgr193_54 L S K M := hgW_eq X 193 54 L S K M
theorem hgv193_54 : hgWJ X 193 54 L S K M = hgW X 193 54 (hgMask [true, true, true, true, true, false] L) S K M := id rfl
theorem hgu193_90 : hgW X 193 90 L S K M = hgEx X (0, 0) (hgWC X) (hgWJ X 193) hgr193_90 L S K M := hgW_eq X 193 90 L S K M
theorem hgv193_90 : hgWJ X 193 90 L S K M = hgW X 193 90 (hgMask [false, false, false, false, false, true] L) S K M := id rfl
/- X8_tick -/
theorem hgc194 (a0 : Nat) (x1 : Int32) : hgWC X 194 [.ref a0, .int x1] M = hgW X 194 0 [some (.ref a0), some (.int x1), none, none] [] (0, 0) M := if_pos (Nat.le_of_ble_eq_true rfl)
theorem hgu194_0 : hgW X 194 0 L S K M = hgEx X (0, 0) (hgWC X) (hgWJ X 194) hgr194_0 L S K M := hgW_eq X 194 0 L S K M
theorem hgv194_0 : hgWJ X 194 0 L S K M = hgW X 194 0 (hgMask [true, true, false, false] L) S K M := id rfl
theorem hgu194_20 : hgW X 194 20 L S K M = hgEx X (0, 0) (hgWC X) (hgWJ X 194) hgr194_20 L S K M := hgW_eq X 194 20 L S K M
theorem hgv194_20 : hgWJ X 194 20 L S K M = hgW X 194 20 (hgMask [true, true, false, false] L) S K M := id rfl
theorem hgu194_21 : hgW X 194 21 L S K M = hgEx X (0, 0) (hgWC X) (hgWJ X 194) hgr194_21 L S K M := hgW_eq X 194 21 L S K M
theorem hgv194_21 : hgWJ X 194 21 L S K M = hgW X 194 21 (hgMask [true, true, false, false] L) S K M := id rfl
theorem hgu194_52 : hgW X 194 52 L S K M = hgEx X (0, 0) (hgWC X) (hgWJ X 194) hgr194_52 L S K M := hgW_eq X 194 52 L S K M
theorem hgv194_52 : hgWJ X 194 52 L S K M = hgW X 194 52 (hgMask [true, true, false, false] L) S K M := id rfl
theorem hgu194_56 : hgW X 194 56 L S K M = hgEx X (0, 0) (hgWC X) (hgWJ X 194) hgr194_56 L S K M := hgW_eq X 194 56 L S K M
theorem hgv194_56 : hgWJ X 194 56 L S K M = hgW X 194 56 (hgMask [true, true, false, false] L) S K M := id rfl
theorem hgu194_57 : hgW X 194 57 L S K M = hgEx X (0, 0) (hgWC X) (hgWJ X 194) hgr194_57 L S K M := hgW_eq X 194 57 L S K M
theorem hgv194_57 : hgWJ X 194 57 L S K M = hgW X 194 57 (hgMask [true, true, false, false] L) S K M := id rfl
theorem hgu194_64 : hgW X 194 64 L S K M = hgEx X (0, 0) (hgWC X) (hgWJ X 194) hgr194_64 L S K M := hgW_eq X 194 64 L S K M
theorem hgv194_64 : hgWJ X 194 64 L S K M = hgW X 194 64 (hgMask [false, false, false, false] L) S K M := id rfl
theorem hgu194_66 : hgW X 194 66 L S K M = hgEx X (0, 0) (hgWC X) (hgWJ X 194) hgr194_66 L S K M := hgW_eq X 194 66 L S K M
theorem hgv194_66 : hgWJ X 194 66 L S K M = hgW X 194 66 (hgMask [true, true, false, false] L) S K M := id rfl
theorem hgu194_74 : hgW X 194 74 L S K M = hgEx X (0, 0) (hgWC X) (hgWJ X 194) hgr194_74 L S K M := hgW_eq X 194 74 L S K M
theorem hgv194_74 : hgWJ X 194 74 L S K M = hgW X 194 74 (hgMask [true, true, true, true] L) S K M := id rfl
theorem hgu194_99 : hgW X 194 99 L S K M = hgEx X (0, 0) (hgWC X) (hgWJ X 194) hgr194_99 L S K M := hgW_eq X 194 99 L S K M
theorem hgv194_99 : hgWJ X 194 99 L S K M = hgW X 194 99 (hgMask [false, false, true, false] L) S K M := id rfl
/- X8_sleep -/
theorem hgc195 (a0 : Nat) (x1 : Int32) : hgWC X 195 [.ref a0, .int x1] M = hgW X 195 0 [some (.ref a0), some (.int x1), none] [] (0, 0) M := if_pos (Nat.le_of_ble_eq_true rfl)
theorem hgu195_0 : hgW X 195 0 L S K M = hgEx X (0, 0) (hgWC X) (hgWJ X 195) hgr195_0 L S K M := hgW_eq X 195 0 L S K M
theorem hgv195_0 : hgWJ X 195 0 L S K M = hgW X 195 0 (hgMask [true, true, false] L) S K M := id rfl
theorem hgu195_15 : hgW X 195 15 L S K M = hgEx X (0, 0) (hgWC X) (hgWJ X 195) hgr195_15 L S K M := hgW_eq X 195 15 L S K M
theorem hgv195_15 : hgWJ X 195 15 L S K M = hgW X 195 15 (hgMask [true, true, false] L) S K M := id rfl
theorem hgu195_37 : hgW X 195 37 L S K M = hgEx X (0, 0) (hgWC X) (hgWJ X 195) hgr195_37 L S K M := hgW_eq X 195 37 L S K M
theorem hgv195_37 : hgWJ X 195 37 L S K M = hgW X 195 37 (hgMask [true, true, true] L) S K M := id rfl
theorem hgu195_38 : hgW X 195 38 L S K M = hgEx X (0, 0) (hgWC X) (hgWJ X 195) hgr195_38 L S K M := hgW_eq X 195 38 L S K M
theorem hgv195_38 : hgWJ X 195 38 L S K M = hgW X 195 38 (hgMask [true, true, true] L) S K M := id rfl
theorem hgu195_47 : hgW X 195 47 L S K M = hgEx X (0, 0) (hgWC X) (hgWJ X 195) hgr195_47 L S K M := hgW_eq X 195 47 L S K M
theorem hgv195_47 : hgWJ X 195 47 L S K M = hgW X 195 47 (hgMask [true, true, true] L) S K M := id rfl
/- X8_wake -/
theorem hgc196 (a0 : Nat) (x1 : Int32) : hgWC X 196 [.ref a0, .int x1] M = hgW X 196 0 [some (.ref a0), some (.int x1)] [] (0, 0) M := if_pos (Nat.le_of_ble_eq_true rfl)
theorem hgu196_0 : hgW X 196 0 L S K M = hgEx X (0, 0) (hgWC X) (hgWJ X 196) hgr196_0 L S K M := hgW_eq X 196 0 L S K M
theorem hgv196_0 : hgWJ X 196 0 L S K M = hgW X 196 0 (hgMask [true, true] L) S K M := id rfl
theorem hgu196_33 : hgW X 196 33 L S K M = hgEx X (0, 0) (hgWC X) (hgWJ X 196) hgr196_33 L S K M := hgW_eq X 196 33 L S K M
theorem hgv196_33 : hgWJ X 196 33 L S K M = hgW X 196 33 (hgMask [true, true] L) S K M := id rfl
theorem hgu196_34 : hgW X 196 34 L S K M = hgEx X (0, 0) (hgWC X) (hgWJ X 196) hgr196_34 L S K M := hgW_eq X 196 34 L S K M
theorem hgv196_34 : hgWJ X 196 34 L S K M = hgW X 196 34 (hgMask [true, true] L) S K M := id rfl
theorem hgu196_41 : hgW X 196 41 L S K M = hgEx X (0, 0) (hgWC X) (hgWJ X 196) hgr196_41 L S K M := hgW_eq X 196 41 L S K M
theorem hgv196_41 : hgWJ X 196 41 L S K M = hgW X 196 41 (hgMask [false, false] L) S K M := id rfl
theorem hgu196_43 : hgW X 196 43 L S K M = hgEx X (0, 0) (hgWC X) (hgWJ X 196) hgr196_43 L S K M := hgW_eq X 196 43 L S K M
theorem hgv196_43 : hgWJ X 196 43 L S K M = hgW X 196 43 (hgMask [true, true] L) S K M := id rfl
/- X8_setWeight -/
theorem hgc197 (a0 : Nat) (x1 x2 : Int32) : hgWC X 197 [.ref a0, .int x1, .int x2] M = hgW X 197 0 [some (.ref a0), some (.int x1), some (.int x2), none] [] (0, 0) M := if_pos (Nat.le_of_ble_eq_true rfl)
theorem hgu197_0 : hgW X 197 0 L S K M = hgEx X (0, 0) (hgWC X) (hgWJ X 197) hgr197_0 L S K M := hgW_eq X 197 0 L S K M
theorem hgv197_0 : hgWJ X 197 0 L S K M = hgW X 197 0 (hgMask [true, true, true, false] L) S K M := id rfl
theorem hgu197_28 : hgW X 197 28 L S K M = hgEx X (0, 0) (hgWC X) (hgWJ X 197) hgr197_28 L S K M := hgW_eq X 197 28 L S K M
theorem hgv197_28 : hgWJ X 197 28 L S K M = hgW X 197 28 (hgMask [true, true, true, false] L) S K M := id rfl
theorem hgu197_29 : hgW X 197 29 L S K M = hgEx X (0, 0) (hgWC X) (hgWJ X 197) hgr197_29 L S K M := hgW_eq X 197 29 L S K M
theorem hgv197_29 : hgWJ X 197 29 L S K M = hgW X 197 29 (hgMask [true, true, true, false] L) S K M := id rfl
theorem hgu197_36 : hgW X 197 36 L S K M = hgEx X (0, 0) (hgWC X) (hgWJ X 197) hgr197_36 L S K M := hgW_eq X 197 36 L S K M
theorem hgv197_36 : hgWJ X 197 36 L S K M = hgW X 197 36 (hgMask [false, false, false, false] L) S K M := id rfl
theorem hgu197_38 : hgW X 197 38 L S K M = hgEx X (0, 0) (hgWC X) (hgWJ X 197) hgr197_38 L S K M := hgW_eq X 197 38 L S K M
theorem hgv197_38 : hgWJ X 197 38 L S K M = hgW X 197 38 (hgMask [true, true, true, false] L) S K M := id rfl
/- X8_addRule -/
theorem hgc198 (a0 : Nat) (x1 x2 x3 x4 x5 : Int32) : hgWC X 198 [.ref a0, .int x1, .int x2, .int x3, .int x4, .int x5] M = hgW X 198 0 [some (.ref a0), some (.int x1), some (.int x2), some (.int x3), some (.int x4), some (.int x5)] [] (0, 0) M := if_pos (Nat.le_of_ble_eq_true rfl)
theorem hgu198_0 : hgW X 198 0 L S K M = hgEx X (0, 0) (hgWC X) (hgWJ X 198) hgr198_0 L S K M := hgW_eq X 198 0 L S K M
theorem hgv198_0 : hgWJ X 198 0 L S K M = hgW X 198 0 (hgMask [true, true, true, true, true, true] L) S K M := id rfl
theorem hgu198_47 : hgW X 198 47 L S K M = hgEx X (0, 0) (hgWC X) (hgWJ X 198) hgr198_47 L S K M := hgW_eq X 198 47 L S K M
theorem hgv198_47 : hgWJ X 198 47 L S K M = hgW X 198 47 (hgMask [true, true, true, true, true, true] L) S K M := id rfl
theorem hgu198_51 : hgW X 198 51 L S K M = hgEx X (0, 0) (hgWC X) (hgWJ X 198) hgr198_51 L S K M := hgW_eq X 198 51 L S K M
theorem hgv198_51 : hgWJ X 198 51 L S K M = hgW X 198 51 (hgMask [true, true, true, true, true, true] L) S K M := id rfl
theorem hgu198_52 : hgW X 198 52 L S K M = hgEx X (0, 0) (hgWC X) (hgWJ X 198) hgr198_52 L S K M := hgW_eq X 198 52 L S K M
theorem hgv198_52 : hgWJ X 198 52 L S K M = hgW X 198 52 (hgMask [true, true, true, true, true, true] L) S K M := id rfl
theorem hgu198_80 : hgW X 198 80 L S K M = hgEx X (0, 0) (hgWC X) (hgWJ X 198) hgr198_80 L S K M := hgW_eq X 198 80 L S K M
theorem hgv198_80 : hgWJ X 198 80 L S K M = hgW X 198 80 (hgMask [true, true, true, true, true, true] L) S K M := id rfl
theorem hgu198_84 : hgW X 198 84 L S K M = hgEx X (0, 0) (hgWC X) (hgWJ X 198) hgr198_84 L S K M := hgW_eq X 198 84 L S K M
theorem hgv198_84 : hgWJ X 198 84 L S K M = hgW X 198 84 (hgMask [true, true, true, true, true, true] L) S K M := id rfl
theorem hgu198_85 : hgW X 198 85 L S K M = hgEx X (0, 0) (hgWC X) (hgWJ X 198) hgr198_85 L S K M := hgW_eq X 198 85 L S K M
theorem hgv198_85 : hgWJ X 198 85 L S K M = hgW X 198 85 (hgMask [true, true, true, true, true, true] L) S K M := id rfl
theorem hgu198_92 : hgW X 198 92 L S K M = hgEx X (0, 0) (hgWC X) (hgWJ X 198) hgr198_92 L S K M := hgW_eq X 198 92 L S K M
theorem hgv198_92 : hgWJ X 198 92 L S K M = hgW X 198 92 (hgMask [false, false, false, false, false, false] L) S K M := id rfl
theorem hgu198_94 : hgW X 198 94 L S K M = hgEx X (0, 0) (hgWC X) (hgWJ X 198) hgr198_94 L S K M := hgW_eq X 198 94 L S K M
theorem hgv198_94 : hgWJ X 198 94 L S K M = hgW X 198 94 (hgMask [true, true, true, true, true, true] L) S K M := id rfl
theorem hgu198_116 : hgW X 198 116 L S K M = hgEx X (0, 0) (hgWC X) (hgWJ X 198) hgr198_116 L S K M := hgW_eq X 198 116 L S K M
theorem hgv198_116 : hgWJ X 198 116 L S K M = hgW X 198 116 (hgMask [true, false, true, true, true, true] L) S K M := id rfl
theorem hgu198_117 : hgW X 198 117 L S K M = hgEx X (0, 0) (hgWC X) (hgWJ X 198) hgr198_117 L S K M := hgW_eq X 198 117 L S K M
theorem hgv198_117 : hgWJ X 198 117 L S K M = hgW X 198 117 (hgMask [true, false, true, true, true, true] L) S K M := id rfl
/- X8_swap -/
theorem hgc199 (a0 : Nat) (x1 x2 : Int32) : hgWC X 199 [.ref a0, .int x1, .int x2] M = hgW X 199 0 [some (.ref a0), some (.int x1), some (.int x2), none, none] [] (0, 0) M := if_pos (Nat.le_of_ble_eq_true rfl)
theorem hgu199_0 : hgW X 199 0 L S K M = hgEx X (0, 0) (hgWC X) (hgWJ X 199) hgr199_0 L S K M := hgW_eq X 199 0 L S K M
theorem hgv199_0 : hgWJ X 199 0 L S K M = hgW X 199 0 (hgMask [true, true, true, false, false] L) S K M := id rfl
theorem hgu199_2 : hgW X 199 2 L S K M = hgEx X (0, 0) (hgWC X) (hgWJ X 199) hgr199_2 L S K M := hgW_eq X 199 2 L S K M
theorem hgv199_2 : hgWJ X 199 2 L S K M = hgW X 199 2 (hgMask [true, true, true, true, false] L) S K M := id rfl
theorem hgu199_61 : hgW X 199 61 L S K M = hgEx X (0, 0) (hgWC X) (hgWJ X 199) hgr199_61 L S K M := hgW_eq X 199 61 L S K M
theorem hgv199_61 : hgWJ X 199 61 L S K M = hgW X 199 61 (hgMask [false, false, false, false, false] L) S K M := id rfl
/- X8_shift -/
theorem hgc200 (a0 : Nat) (x1 x2 : Int32) : hgWC X 200 [.ref a0, .int x1, .int x2] M = hgW X 200 0 [some (.ref a0), some (.int x1), some (.int x2), none] [] (0, 0) M := if_pos (Nat.le_of_ble_eq_true rfl)
theorem hgu200_0 : hgW X 200 0 L S K M = hgEx X (0, 0) (hgWC X) (hgWJ X 200) hgr200_0 L S K M := hgW_eq X 200 0 L S K M
theorem hgv200_0 : hgWJ X 200 0 L S K M = hgW X 200 0 (hgMask [true, true, true, false] L) S K M := id rfl
theorem hgu200_2 : hgW X 200 2 L S K M = hgEx X (0, 0) (hgWC X) (hgWJ X 200) hgr200_2 L S K M := hgW_eq X 200 2 L S K M
theorem hgv200_2 : hgWJ X 200 2 L S K M = hgW X 200 2 (hgMask [true, true, true, true] L) S K M := id rfl
theorem hgu200_21 : hgW X 200 21 L S K M = hgEx X (0, 0) (hgWC X) (hgWJ X 200) hgr200_21 L S K M := hgW_eq X 200 21 L S K M
theorem hgv200_21 : hgWJ X 200 21 L S K M = hgW X 200 21 (hgMask [true, true, true, false] L) S K M := id rfl
theorem hgu200_23 : hgW X 200 23 L S K M = hgEx X (0, 0) (hgWC X) (hgWJ X 200) hgr200_23 L S K M := hgW_eq X 200 23 L S K M
theorem hgv200_23 : hgWJ X 200 23 L S K M = hgW X 200 23 (hgMask [true, false, true, true] L) S K M := id rfl
theorem hgu200_42 : hgW X 200 42 L S K M = hgEx X (0, 0) (hgWC X) (hgWJ X 200) hgr200_42 L S K M := hgW_eq X 200 42 L S K M
theorem hgv200_42 : hgWJ X 200 42 L S K M = hgW X 200 42 (hgMask [false, false, false, false] L) S K M := id rfl
/- X8_removeRule -/
theorem hgc201 (a0 : Nat) (x1 : Int32) : hgWC X 201 [.ref a0, .int x1] M = hgW X 201 0 [some (.ref a0), some (.int x1)] [] (0, 0) M := if_pos (Nat.le_of_ble_eq_true rfl)
theorem hgu201_0 : hgW X 201 0 L S K M = hgEx X (0, 0) (hgWC X) (hgWJ X 201) hgr201_0 L S K M := hgW_eq X 201 0 L S K M
theorem hgv201_0 : hgWJ X 201 0 L S K M = hgW X 201 0 (hgMask [true, true] L) S K M := id rfl
theorem hgu201_15 : hgW X 201 15 L S K M = hgEx X (0, 0) (hgWC X) (hgWJ X 201) hgr201_15 L S K M := hgW_eq X 201 15 L S K M
theorem hgv201_15 : hgWJ X 201 15 L S K M = hgW X 201 15 (hgMask [true, true] L) S K M := id rfl
/- X8_moveRule -/
theorem hgc202 (a0 : Nat) (x1 x2 : Int32) : hgWC X 202 [.ref a0, .int x1, .int x2] M = hgW X 202 0 [some (.ref a0), some (.int x1), some (.int x2)] [] (0, 0) M := if_pos (Nat.le_of_ble_eq_true rfl)
theorem hgu202_0 : hgW X 202 0 L S K M = hgEx X (0, 0) (hgWC X) (hgWJ X 202) hgr202_0 L S K M := hgW_eq X 202 0 L S K M
theorem hgv202_0 : hgWJ X 202 0 L S K M = hgW X 202 0 (hgMask [true, true, true] L) S K M := id rfl
theorem hgu202_21 : hgW X 202 21 L S K M = hgEx X (0, 0) (hgWC X) (hgWJ X 202) hgr202_21 L S K M := hgW_eq X 202 21 L S K M
theorem hgv202_21 : hgWJ X 202 21 L S K M = hgW X 202 21 (hgMask [false, false, false] L) S K M := id rfl
theorem hgu202_23 : hgW X 202 23 L S K M = hgEx X (0, 0) (hgWC X) (hgWJ X 202) hgr202_23 L S K M := hgW_eq X 202 23 L S K M
theorem hgv202_23 : hgWJ X 202 23 L S K M = hgW X 202 23 (hgMask [true, true, true] L) S K M := id rfl
/- X8_undo -/
theorem hgc203 (a0 : Nat) : hgWC X 203 [.ref a0] M = hgW X 203 0 [some (.ref a0)] [] (0, 0) M := if_pos (Nat.le_of_ble_eq_true rfl)
theorem hgu203_0 : hgW X 203 0 L S K M = hgEx X (0, 0) (hgWC X) (hgWJ X 203) hgr203_0 L S K M := hgW_eq X 203 0 L S K M
theorem hgv203_0 : hgWJ X 203 0 L S K M = hgW X 203 0 (hgMask [true] L) S K M := id rfl
theorem hgu203_14 : hgW X 203 14 L S K M = hgEx X (0, 0) (hgWC X) (hgWJ X 203) hgr203_14 L S K M := hgW_eq X 203 14 L S K M
theorem hgv203_14 : hgWJ X 203 14 L S K M = hgW X 203 14 (hgMask [true] L) S K M := id rfl
/- X8_checksum -/
theorem hgc204 (a0 : Nat) : hgWC X 204 [.ref a0] M = hgW X 204 0 [some (.ref a0), none, none, none] [] (0, 0) M := if_pos (Nat.le_of_ble_eq_true rfl)
theorem hgu204_0 : hgW X 204 0 L S K M = hgEx X (0, 0) (hgWC X) (hgWJ X 204) hgr204_0 L S K M := hgW_eq X 204 0 L S K M
theorem hgv204_0 : hgWJ X 204 0 L S K M = hgW X 204 0 (hgMask [true, false, false, false] L) S K M := id rfl
theorem hgu204_16 : hgW X 204 16 L S K M = hgEx X (0, 0) (hgWC X) (hgWJ X 204) hgr204_16 L S K M := hgW_eq X 204 16 L S K M
theorem hgv204_16 : hgWJ X 204 16 L S K M = hgW X 204 16 (hgMask [true, true, false, true] L) S K M := id rfl
theorem hgu204_42 : hgW X 204 42 L S K M = hgEx X (0, 0) (hgWC X) (hgWJ X 204) hgr204_42 L S K M := hgW_eq X 204 42 L S K M
theorem hgv204_42 : hgWJ X 204 42 L S K M = hgW X 204 42 (hgMask [true, true, false, false] L) S K M := id rfl
theorem hgu204_44 : hgW X 204 44 L S K M = hgEx X (0, 0) (hgWC X) (hgWJ X 204) hgr204_44 L S K M := hgW_eq X 204 44 L S K M
theorem hgv204_44 : hgWJ X 204 44 L S K M = hgW X 204 44 (hgMask [true, true, false, true] L) S K M := id rfl
theorem hgu204_144 : hgW X 204 144 L S K M = hgEx X (0, 0) (hgWC X) (hgWJ X 204) hgr204_144 L S K M := hgW_eq X 204 144 L S K M
theorem hgv204_144 : hgWJ X 204 144 L S K M = hgW X 204 144 (hgMask [true, true, false, false] L) S K M := id rfl
theorem hgu204_147 : hgW X 204 147 L S K M = hgEx X (0, 0) (hgWC X) (hgWJ X 204) hgr204_147 L S K M := hgW_eq X 204 147 L S K M
theorem hgv204_147 : hgWJ X 204 147 L S K M = hgW X 204 147 (hgMask [true, true, false, true] L) S K M := id rfl
theorem hgu204_180 : hgW X 204 180 L S K M = hgEx X (0, 0) (hgWC X) (hgWJ X 204) hgr204_180 L S K M := hgW_eq X 204 180 L S K M
theorem hgv204_180 : hgWJ X 204 180 L S K M = hgW X 204 180 (hgMask [false, true, false, false] L) S K M := id rfl
/- L_load -/
theorem hgc205 (a0 a2 : Nat) (x1 : Int32) : hgWC X 205 [.ref a0, .int x1, .ref a2] M = hgW X 205 0 [some (.ref a0), some (.int x1), some (.ref a2), none] [] (0, 0) M := if_pos (Nat.le_of_ble_eq_true rfl)
theorem hgu205_0 : hgW X 205 0 L S K M = hgEx X (1, 6) (hgWC X) (hgWJ X 205) hgr205_0 L S K M := hgW_eq X 205 0 L S K M
theorem hgv205_0 : hgWJ X 205 0 L S K M = hgW X 205 0 (hgMask [true, true, true, false] L) S K M := id rfl
theorem hgu205_13 : hgW X 205 13 L S K M = hgEx X (1, 6) (hgWC X) (hgWJ X 205) hgr205_13 L S K M := hgW_eq X 205 13 L S K M
theorem hgv205_13 : hgWJ X 205 13 L S K M = hgW X 205 13 (hgMask [false, false, false, false] L) S K M := id rfl
theorem hgu205_15 : hgW X 205 15 L S K M = hgEx X (1, 6) (hgWC X) (hgWJ X 205) hgr205_15 L S K M := hgW_eq X 205 15 L S K M
theorem hgv205_15 : hgWJ X 205 15 L S K M = hgW X 205 15 (hgMask [false, false, false, false] L) S K M := id rfl
/- L_state -/
theorem hgc206 (a0 a2 : Nat) (x1 : Int32) : hgWC X 206 [.ref a0, .int x1, .ref a2] M = hgW X 206 0 [some (.ref a0), some (.int x1), some (.ref a2), none] [] (0, 0) M := if_pos (Nat.le_of_ble_eq_true rfl)
theorem hgu206_0 : hgW X 206 0 L S K M = hgEx X (1, 6) (hgWC X) (hgWJ X 206) hgr206_0 L S K M := hgW_eq X 206 0 L S K M
theorem hgv206_0 : hgWJ X 206 0 L S K M = hgW X 206 0 (hgMask [true, true, true, false] L) S K M := id rfl
theorem hgu206_13 : hgW X 206 13 L S K M = hgEx X (1, 6) (hgWC X) (hgWJ X 206) hgr206_13 L S K M := hgW_eq X 206 13 L S K M
theorem hgv206_13 : hgWJ X 206 13 L S K M = hgW X 206 13 (hgMask [false, false, false, false] L) S K M := id rfl
theorem hgu206_15 : hgW X 206 15 L S K M = hgEx X (1, 6) (hgWC X) (hgWJ X 206) hgr206_15 L S K M := hgW_eq X 206 15 L S K M
theorem hgv206_15 : hgWJ X 206 15 L S K M = hgW X 206 15 (hgMask [false, false, false, false] L) S K M := id rfl
/- L_weight -/
theorem hgc207 (a0 a2 : Nat) (x1 : Int32) : hgWC X 207 [.ref a0, .int x1, .ref a2] M = hgW X 207 0 [some (.ref a0), some (.int x1), some (.ref a2), none] [] (0, 0) M := if_pos (Nat.le_of_ble_eq_true rfl)
theorem hgu207_0 : hgW X 207 0 L S K M = hgEx X (1, 6) (hgWC X) (hgWJ X 207) hgr207_0 L S K M := hgW_eq X 207 0 L S K M
theorem hgv207_0 : hgWJ X 207 0 L S K M = hgW X 207 0 (hgMask [true, true, true, false] L) S K M := id rfl
theorem hgu207_13 : hgW X 207 13 L S K M = hgEx X (1, 6) (hgWC X) (hgWJ X 207) hgr207_13 L S K M := hgW_eq X 207 13 L S K M
theorem hgv207_13 : hgWJ X 207 13 L S K M = hgW X 207 13 (hgMask [false, false, false, false] L) S K M := id rfl
theorem hgu207_15 : hgW X 207 15 L S K M = hgEx X (1, 6) (hgWC X) (hgWJ X 207) hgr207_15 L S K M := hgW_eq X 207 15 L S K M
theorem hgv207_15 : hgWJ X 207 15 L S K M = hgW X 207 15 (hgMask [false, false, false, false] L) S K M := id rfl
/- L_queueLength -/
theorem hgc208 (a0 a2 : Nat) (x1 : Int32) : hgWC X 208 [.ref a0, .int x1, .ref a2] M = hgW X 208 0 [some (.ref a0), some (.int x1), some (.ref a2), none] [] (0, 0) M := if_pos (Nat.le_of_ble_eq_true rfl)
theorem hgu208_0 : hgW X 208 0 L S K M = hgEx X (1, 6) (hgWC X) (hgWJ X 208) hgr208_0 L S K M := hgW_eq X 208 0 L S K M
theorem hgv208_0 : hgWJ X 208 0 L S K M = hgW X 208 0 (hgMask [true, true, true, false] L) S K M := id rfl
theorem hgu208_13 : hgW X 208 13 L S K M = hgEx X (1, 6) (hgWC X) (hgWJ X 208) hgr208_13 L S K M := hgW_eq X 208 13 L S K M
theorem hgv208_13 : hgWJ X 208 13 L S K M = hgW X 208 13 (hgMask [false, false, false, false] L) S K M := id rfl
theorem hgu208_15 : hgW X 208 15 L S K M = hgEx X (1, 6) (hgWC X) (hgWJ X 208) hgr208_15 L S K M := hgW_eq X 208 15 L S K M
theorem hgv208_15 : hgWJ X 208 15 L S K M = hgW X 208 15 (hgMask [false, false, false, false] L) S K M := id rfl
/- L_backlog -/
theorem hgc209 (a0 a2 : Nat) (x1 : Int32) : hgWC X 209 [.ref a0, .int x1, .ref a2] M = hgW X 209 0 [some (.ref a0), some (.int x1), some (.ref a2), none] [] (0, 0) M := if_pos (Nat.le_of_ble_eq_true rfl)
theorem hgu209_0 : hgW X 209 0 L S K M = hgEx X (1, 6) (hgWC X) (hgWJ X 209) hgr209_0 L S K M := hgW_eq X 209 0 L S K M
theorem hgv209_0 : hgWJ X 209 0 L S K M = hgW X 209 0 (hgMask [true, true, true, false] L) S K M := id rfl
theorem hgu209_13 : hgW X 209 13 L S K M = hgEx X (1, 6) (hgWC X) (hgWJ X 209) hgr209_13 L S K M := hgW_eq X 209 13 L S K M
theorem hgv209_13 : hgWJ X 209 13 L S K M = hgW X 209 13 (hgMask [false, false, false, false] L) S K M := id rfl
theorem hgu209_15 : hgW X 209 15 L S K M = hgEx X (1, 6) (hgWC X) (hgWJ X 209) hgr209_15 L S K M := hgW_eq X 209 15 L S K M
theorem hgv209_15 : hgWJ X 209 15 L S K M = hgW X 209 15 (hgMask [false, false, false, false] L) S K M := id rfl
/- L_virtualTime -/
theorem hgc210 (a0 a2 : Nat) (x1 : Int32) : hgWC X 210 [.ref a0, .int x1, .ref a2] M = hgW X 210 0 [some (.ref a0), some (.int x1), some (.ref a2), none] [] (0, 0) M := if_pos (Nat.le_of_ble_eq_true rfl)
theorem hgu210_0 : hgW X 210 0 L S K M = hgEx X (1, 6) (hgWC X) (hgWJ X 210) hgr210_0 L S K M := hgW_eq X 210 0 L S K M
theorem hgv210_0 : hgWJ X 210 0 L S K M = hgW X 210 0 (hgMask [true, true, true, false] L) S K M := id rfl
theorem hgu210_12 : hgW X 210 12 L S K M = hgEx X (1, 6) (hgWC X) (hgWJ X 210) hgr210_12 L S K M := hgW_eq X 210 12 L S K M
theorem hgv210_12 : hgWJ X 210 12 L S K M = hgW X 210 12 (hgMask [false, false, false, false] L) S K M := id rfl
theorem hgu210_14 : hgW X 210 14 L S K M = hgEx X (1, 6) (hgWC X) (hgWJ X 210) hgr210_14 L S K M := hgW_eq X 210 14 L S K M
theorem hgv210_14 : hgWJ X 210 14 L S K M = hgW X 210 14 (hgMask [false, false, false, false] L) S K M := id rfl
/- L_delivered -/
theorem hgc211 (a0 a2 : Nat) (x1 : Int32) : hgWC X 211 [.ref a0, .int x1, .ref a2] M = hgW X 211 0 [some (.ref a0), some (.int x1), some (.ref a2), none] [] (0, 0) M := if_pos (Nat.le_of_ble_eq_true rfl)
theorem hgu211_0 : hgW X 211 0 L S K M = hgEx X (1, 6) (hgWC X) (hgWJ X 211) hgr211_0 L S K M := hgW_eq X 211 0 L S K M
theorem hgv211_0 : hgWJ X 211 0 L S K M = hgW X 211 0 (hgMask [true, true, true, false] L) S K M := id rfl
theorem hgu211_13 : hgW X 211 13 L S K M = hgEx X (1, 6) (hgWC X) (hgWJ X 211) hgr211_13 L S K M := hgW_eq X 211 13 L S K M
theorem hgv211_13 : hgWJ X 211 13 L S K M = hgW X 211 13 (hgMask [false, false, false, false] L) S K M := id rfl
theorem hgu211_15 : hgW X 211 15 L S K M = hgEx X (1, 6) (hgWC X) (hgWJ X 211) hgr211_15 L S K M := hgW_eq X 211 15 L S K M
theorem hgv211_15 : hgWJ X 211 15 L S K M = hgW X 211 15 (hgMask [false, false, false, false] L) S K M := id rfl
/- L_longestDelay -/
theorem hgc212 (a0 a2 : Nat) (x1 : Int32) : hgWC X 212 [.ref a0, .int x1, .ref a2] M = hgW X 212 0 [some (.ref a0), some (.int x1), some (.ref a2), none] [] (0, 0) M := if_pos (Nat.le_of_ble_eq_true rfl)
theorem hgu212_0 : hgW X 212 0 L S K M = hgEx X (1, 6) (hgWC X) (hgWJ X 212) hgr212_0 L S K M := hgW_eq X 212 0 L S K M
theorem hgv212_0 : hgWJ X 212 0 L S K M = hgW X 212 0 (hgMask [true, true, true, false] L) S K M := id rfl
theorem hgu212_13 : hgW X 212 13 L S K M = hgEx X (1, 6) (hgWC X) (hgWJ X 212) hgr212_13 L S K M := hgW_eq X 212 13 L S K M
theorem hgv212_13 : hgWJ X 212 13 L S K M = hgW X 212 13 (hgMask [false, false, false, false] L) S K M := id rfl
theorem hgu212_15 : hgW X 212 15 L S K M = hgEx X (1, 6) (hgWC X) (hgWJ X 212) hgr212_15 L S K M := hgW_eq X 212 15 L S K M
theorem hgv212_15 : hgWJ X 212 15 L S K M = hgW X 212 15 (hgMask [false, false, false, false] L) S K M := id rfl
/- L_isQuiet -/
theorem hgc213 (a0 a2 : Nat) (x1 : Int32) : hgWC X 213 [.ref a0, .int x1, .ref a2] M = hgW X 213 0 [some (.ref a0), some (.int x1), some (.ref a2), none] [] (0, 0) M := if_pos (Nat.le_of_ble_eq_true rfl)
theorem hgu213_0 : hgW X 213 0 L S K M = hgEx X (1, 6) (hgWC X) (hgWJ X 213) hgr213_0 L S K M := hgW_eq X 213 0 L S K M
theorem hgv213_0 : hgWJ X 213 0 L S K M = hgW X 213 0 (hgMask [true, true, true, false] L) S K M := id rfl
theorem hgu213_14 : hgW X 213 14 L S K M = hgEx X (1, 6) (hgWC X) (hgWJ X 213) hgr213_14 L S K M := hgW_eq X 213 14 L S K M
theorem hgv213_14 : hgWJ X 213 14 L S K M = hgW X 213 14 (hgMask [false, false, false, false] L) S K M := id rfl
theorem hgu213_15 : hgW X 213 15 L S K M = hgEx X (1, 6) (hgWC X) (hgWJ X 213) hgr213_15 L S K M := hgW_eq X 213 15 L S K M
theorem hgv213_15 : hgWJ X 213 15 L S K M = hgW X 213 15 (hgMask [false, false, false, false] L) S K M := id rfl
theorem hgu213_20 : hgW X 213 20 L S K M = hgEx X (1, 6) (hgWC X) (hgWJ X 213) hgr213_20 L S K M := hgW_eq X 213 20 L S K M
theorem hgv213_20 : hgWJ X 213 20 L S K M = hgW X 213 20 (hgMask [false, false, false, false] L) S K M := id rfl
theorem hgu213_22 : hgW X 213 22 L S K M = hgEx X (1, 6) (hgWC X) (hgWJ X 213) hgr213_22 L S K M := hgW_eq X 213 22 L S K M
theorem hgv213_22 : hgWJ X 213 22 L S K M = hgW X 213 22 (hgMask [false, false, false, false] L) S K M := id rfl
/- L_verdict -/
theorem hgc214 (a0 a4 : Nat) (x1 x2 x3 : Int32) : hgWC X 214 [.ref a0, .int x1, .int x2, .int x3, .ref a4] M = hgW X 214 0 [some (.ref a0), some (.int x1), some (.int x2), some (.int x3), some (.ref a4), none] [] (0, 0) M := if_pos (Nat.le_of_ble_eq_true rfl)
theorem hgu214_0 : hgW X 214 0 L S K M = hgEx X (3, 18) (hgWC X) (hgWJ X 214) hgr214_0 L S K M := hgW_eq X 214 0 L S K M
theorem hgv214_0 : hgWJ X 214 0 L S K M = hgW X 214 0 (hgMask [true, true, true, true, true, false] L) S K M := id rfl
theorem hgu214_17 : hgW X 214 17 L S K M = hgEx X (3, 18) (hgWC X) (hgWJ X 214) hgr214_17 L S K M := hgW_eq X 214 17 L S K M
theorem hgv214_17 : hgWJ X 214 17 L S K M = hgW X 214 17 (hgMask [false, false, false, false, false, false] L) S K M := id rfl
theorem hgu214_21 : hgW X 214 21 L S K M = hgEx X (3, 18) (hgWC X) (hgWJ X 214) hgr214_21 L S K M := hgW_eq X 214 21 L S K M
theorem hgv214_21 : hgWJ X 214 21 L S K M = hgW X 214 21 (hgMask [false, false, false, false, false, false] L) S K M := id rfl
theorem hgu214_23 : hgW X 214 23 L S K M = hgEx X (3, 18) (hgWC X) (hgWJ X 214) hgr214_23 L S K M := hgW_eq X 214 23 L S K M
theorem hgv214_23 : hgWJ X 214 23 L S K M = hgW X 214 23 (hgMask [false, false, false, false, false, false] L) S K M := id rfl
/- L_matching -/
theorem hgc215 (a0 a4 : Nat) (x1 x2 x3 : Int32) : hgWC X 215 [.ref a0, .int x1, .int x2, .int x3, .ref a4] M = hgW X 215 0 [some (.ref a0), some (.int x1), some (.int x2), some (.int x3), some (.ref a4), none] [] (0, 0) M := if_pos (Nat.le_of_ble_eq_true rfl)
theorem hgu215_0 : hgW X 215 0 L S K M = hgEx X (2, 12) (hgWC X) (hgWJ X 215) hgr215_0 L S K M := hgW_eq X 215 0 L S K M
theorem hgv215_0 : hgWJ X 215 0 L S K M = hgW X 215 0 (hgMask [true, true, true, true, true, false] L) S K M := id rfl
theorem hgu215_17 : hgW X 215 17 L S K M = hgEx X (2, 12) (hgWC X) (hgWJ X 215) hgr215_17 L S K M := hgW_eq X 215 17 L S K M
theorem hgv215_17 : hgWJ X 215 17 L S K M = hgW X 215 17 (hgMask [false, false, false, false, false, false] L) S K M := id rfl
theorem hgu215_19 : hgW X 215 19 L S K M = hgEx X (2, 12) (hgWC X) (hgWJ X 215) hgr215_19 L S K M := hgW_eq X 215 19 L S K M
theorem hgv215_19 : hgWJ X 215 19 L S K M = hgW X 215 19 (hgMask [false, false, false, false, false, false] L) S K M := id rfl
/- L_isUseless -/
theorem hgc216 (a0 a2 : Nat) (x1 : Int32) : hgWC X 216 [.ref a0, .int x1, .ref a2] M = hgW X 216 0 [some (.ref a0), some (.int x1), some (.ref a2), none] [] (0, 0) M := if_pos (Nat.le_of_ble_eq_true rfl)
theorem hgu216_0 : hgW X 216 0 L S K M = hgEx X (1, 6) (hgWC X) (hgWJ X 216) hgr216_0 L S K M := hgW_eq X 216 0 L S K M
theorem hgv216_0 : hgWJ X 216 0 L S K M = hgW X 216 0 (hgMask [true, true, true, false] L) S K M := id rfl
theorem hgu216_14 : hgW X 216 14 L S K M = hgEx X (1, 6) (hgWC X) (hgWJ X 216) hgr216_14 L S K M := hgW_eq X 216 14 L S K M
theorem hgv216_14 : hgWJ X 216 14 L S K M = hgW X 216 14 (hgMask [false, false, false, false] L) S K M := id rfl
theorem hgu216_15 : hgW X 216 15 L S K M = hgEx X (1, 6) (hgWC X) (hgWJ X 216) hgr216_15 L S K M := hgW_eq X 216 15 L S K M
theorem hgv216_15 : hgWJ X 216 15 L S K M = hgW X 216 15 (hgMask [false, false, false, false] L) S K M := id rfl
theorem hgu216_20 : hgW X 216 20 L S K M = hgEx X (1, 6) (hgWC X) (hgWJ X 216) hgr216_20 L S K M := hgW_eq X 216 20 L S K M
theorem hgv216_20 : hgWJ X 216 20 L S K M = hgW X 216 20 (hgMask [false, false, false, false] L) S K M := id rfl
theorem hgu216_22 : hgW X 216 22 L S K M = hgEx X (1, 6) (hgWC X) (hgWJ X 216) hgr216_22 L S K M := hgW_eq X 216 22 L S K M
theorem hgv216_22 : hgWJ X 216 22 L S K M = hgW X 216 22 (hgMask [false, false, false, false] L) S K M := id rfl
/- L_openPorts -/
theorem hgc217 (a0 a3 : Nat) (x1 x2 : Int32) : hgWC X 217 [.ref a0, .int x1, .int x2, .ref a3] M = hgW X 217 0 [some (.ref a0), some (.int x1), some (.int x2), some (.ref a3), none] [] (0, 0) M := if_pos (Nat.le_of_ble_eq_true rfl)
theorem hgu217_0 : hgW X 217 0 L S K M = hgEx X (2, 12) (hgWC X) (hgWJ X 217) hgr217_0 L S K M := hgW_eq X 217 0 L S K M
theorem hgv217_0 : hgWJ X 217 0 L S K M = hgW X 217 0 (hgMask [true, true, true, true, false] L) S K M := id rfl
theorem hgu217_15 : hgW X 217 15 L S K M = hgEx X (2, 12) (hgWC X) (hgWJ X 217) hgr217_15 L S K M := hgW_eq X 217 15 L S K M
theorem hgv217_15 : hgWJ X 217 15 L S K M = hgW X 217 15 (hgMask [false, false, false, false, false] L) S K M := id rfl
theorem hgu217_17 : hgW X 217 17 L S K M = hgEx X (2, 12) (hgWC X) (hgWJ X 217) hgr217_17 L S K M := hgW_eq X 217 17 L S K M
theorem hgv217_17 : hgWJ X 217 17 L S K M = hgW X 217 17 (hgMask [false, false, false, false, false] L) S K M := id rfl
/- L_drainTime -/
theorem hgc218 (a0 a2 : Nat) (x1 : Int32) : hgWC X 218 [.ref a0, .int x1, .ref a2] M = hgW X 218 0 [some (.ref a0), some (.int x1), some (.ref a2), none] [] (0, 0) M := if_pos (Nat.le_of_ble_eq_true rfl)
theorem hgu218_0 : hgW X 218 0 L S K M = hgEx X (1, 6) (hgWC X) (hgWJ X 218) hgr218_0 L S K M := hgW_eq X 218 0 L S K M
theorem hgv218_0 : hgWJ X 218 0 L S K M = hgW X 218 0 (hgMask [true, true, true, false] L) S K M := id rfl
theorem hgu218_13 : hgW X 218 13 L S K M = hgEx X (1, 6) (hgWC X) (hgWJ X 218) hgr218_13 L S K M := hgW_eq X 218 13 L S K M
theorem hgv218_13 : hgWJ X 218 13 L S K M = hgW X 218 13 (hgMask [false, false, false, false] L) S K M := id rfl
theorem hgu218_15 : hgW X 218 15 L S K M = hgEx X (1, 6) (hgWC X) (hgWJ X 218) hgr218_15 L S K M := hgW_eq X 218 15 L S K M
theorem hgv218_15 : hgWJ X 218 15 L S K M = hgW X 218 15 (hgMask [false, false, false, false] L) S K M := id rfl
/- L_arrive -/
theorem hgc219 (a0 a5 : Nat) (x1 x2 x3 x4 : Int32) : hgWC X 219 [.ref a0, .int x1, .int x2, .int x3, .int x4, .ref a5] M = hgW X 219 0 [some (.ref a0), some (.int x1), some (.int x2), some (.int x3), some (.int x4), some (.ref a5), none] [] (0, 0) M := if_pos (Nat.le_of_ble_eq_true rfl)
theorem hgu219_0 : hgW X 219 0 L S K M = hgEx X (4, 24) (hgWC X) (hgWJ X 219) hgr219_0 L S K M := hgW_eq X 219 0 L S K M
theorem hgv219_0 : hgWJ X 219 0 L S K M = hgW X 219 0 (hgMask [true, true, true, true, true, true, false] L) S K M := id rfl
theorem hgu219_19 : hgW X 219 19 L S K M = hgEx X (4, 24) (hgWC X) (hgWJ X 219) hgr219_19 L S K M := hgW_eq X 219 19 L S K M
theorem hgv219_19 : hgWJ X 219 19 L S K M = hgW X 219 19 (hgMask [false, false, false, false, false, false, false] L) S K M := id rfl
theorem hgu219_23 : hgW X 219 23 L S K M = hgEx X (4, 24) (hgWC X) (hgWJ X 219) hgr219_23 L S K M := hgW_eq X 219 23 L S K M
theorem hgv219_23 : hgWJ X 219 23 L S K M = hgW X 219 23 (hgMask [false, false, false, false, false, false, false] L) S K M := id rfl
theorem hgu219_25 : hgW X 219 25 L S K M = hgEx X (4, 24) (hgWC X) (hgWJ X 219) hgr219_25 L S K M := hgW_eq X 219 25 L S K M
theorem hgv219_25 : hgWJ X 219 25 L S K M = hgW X 219 25 (hgMask [false, false, false, false, false, false, false] L) S K M := id rfl
/- L_tick -/
theorem hgc220 (a0 a2 : Nat) (x1 : Int32) : hgWC X 220 [.ref a0, .int x1, .ref a2] M = hgW X 220 0 [some (.ref a0), some (.int x1), some (.ref a2), none] [] (0, 0) M := if_pos (Nat.le_of_ble_eq_true rfl)
theorem hgu220_0 : hgW X 220 0 L S K M = hgEx X (2, 12) (hgWC X) (hgWJ X 220) hgr220_0 L S K M := hgW_eq X 220 0 L S K M
theorem hgv220_0 : hgWJ X 220 0 L S K M = hgW X 220 0 (hgMask [true, true, true, false] L) S K M := id rfl
theorem hgu220_13 : hgW X 220 13 L S K M = hgEx X (2, 12) (hgWC X) (hgWJ X 220) hgr220_13 L S K M := hgW_eq X 220 13 L S K M
theorem hgv220_13 : hgWJ X 220 13 L S K M = hgW X 220 13 (hgMask [false, false, false, false] L) S K M := id rfl
theorem hgu220_16 : hgW X 220 16 L S K M = hgEx X (2, 12) (hgWC X) (hgWJ X 220) hgr220_16 L S K M := hgW_eq X 220 16 L S K M
theorem hgv220_16 : hgWJ X 220 16 L S K M = hgW X 220 16 (hgMask [false, false, false, false] L) S K M := id rfl
theorem hgu220_18 : hgW X 220 18 L S K M = hgEx X (2, 12) (hgWC X) (hgWJ X 220) hgr220_18 L S K M := hgW_eq X 220 18 L S K M
theorem hgv220_18 : hgWJ X 220 18 L S K M = hgW X 220 18 (hgMask [false, false, false, false] L) S K M := id rfl
/- L_sleep -/
theorem hgc221 (a0 a2 : Nat) (x1 : Int32) : hgWC X 221 [.ref a0, .int x1, .ref a2] M = hgW X 221 0 [some (.ref a0), some (.int x1), some (.ref a2), none] [] (0, 0) M := if_pos (Nat.le_of_ble_eq_true rfl)
theorem hgu221_0 : hgW X 221 0 L S K M = hgEx X (2, 12) (hgWC X) (hgWJ X 221) hgr221_0 L S K M := hgW_eq X 221 0 L S K M
theorem hgv221_0 : hgWJ X 221 0 L S K M = hgW X 221 0 (hgMask [true, true, true, false] L) S K M := id rfl
theorem hgu221_13 : hgW X 221 13 L S K M = hgEx X (2, 12) (hgWC X) (hgWJ X 221) hgr221_13 L S K M := hgW_eq X 221 13 L S K M
theorem hgv221_13 : hgWJ X 221 13 L S K M = hgW X 221 13 (hgMask [false, false, false, false] L) S K M := id rfl
theorem hgu221_16 : hgW X 221 16 L S K M = hgEx X (2, 12) (hgWC X) (hgWJ X 221) hgr221_16 L S K M := hgW_eq X 221 16 L S K M
theorem hgv221_16 : hgWJ X 221 16 L S K M = hgW X 221 16 (hgMask [false, false, false, false] L) S K M := id rfl
theorem hgu221_18 : hgW X 221 18 L S K M = hgEx X (2, 12) (hgWC X) (hgWJ X 221) hgr221_18 L S K M := hgW_eq X 221 18 L S K M
theorem hgv221_18 : hgWJ X 221 18 L S K M = hgW X 221 18 (hgMask [false, false, false, false] L) S K M := id rfl
/- L_wake -/
theorem hgc222 (a0 a2 : Nat) (x1 : Int32) : hgWC X 222 [.ref a0, .int x1, .ref a2] M = hgW X 222 0 [some (.ref a0), some (.int x1), some (.ref a2), none] [] (0, 0) M := if_pos (Nat.le_of_ble_eq_true rfl)
theorem hgu222_0 : hgW X 222 0 L S K M = hgEx X (2, 12) (hgWC X) (hgWJ X 222) hgr222_0 L S K M := hgW_eq X 222 0 L S K M
theorem hgv222_0 : hgWJ X 222 0 L S K M = hgW X 222 0 (hgMask [true, true, true, false] L) S K M := id rfl
theorem hgu222_13 : hgW X 222 13 L S K M = hgEx X (2, 12) (hgWC X) (hgWJ X 222) hgr222_13 L S K M := hgW_eq X 222 13 L S K M
theorem hgv222_13 : hgWJ X 222 13 L S K M = hgW X 222 13 (hgMask [false, false, false, false] L) S K M := id rfl
theorem hgu222_16 : hgW X 222 16 L S K M = hgEx X (2, 12) (hgWC X) (hgWJ X 222) hgr222_16 L S K M := hgW_eq X 222 16 L S K M
theorem hgv222_16 : hgWJ X 222 16 L S K M = hgW X 222 16 (hgMask [false, false, false, false] L) S K M := id rfl
theorem hgu222_18 : hgW X 222 18 L S K M = hgEx X (2, 12) (hgWC X) (hgWJ X 222) hgr222_18 L S K M := hgW_eq X 222 18 L S K M
theorem hgv222_18 : hgWJ X 222 18 L S K M = hgW X 222 18 (hgMask [false, false, false, false] L) S K M := id rfl
/- L_setWeight -/
theorem hgc223 (a0 a3 : Nat) (x1 x2 : Int32) : hgWC X 223 [.ref a0, .int x1, .int x2, .ref a3] M = hgW X 223 0 [some (.ref a0), some (.int x1), some (.int x2), some (.ref a3), none] [] (0, 0) M := if_pos (Nat.le_of_ble_eq_true rfl)
theorem hgu223_0 : hgW X 223 0 L S K M = hgEx X (2, 12) (hgWC X) (hgWJ X 223) hgr223_0 L S K M := hgW_eq X 223 0 L S K M
theorem hgv223_0 : hgWJ X 223 0 L S K M = hgW X 223 0 (hgMask [true, true, true, true, false] L) S K M := id rfl
theorem hgu223_15 : hgW X 223 15 L S K M = hgEx X (2, 12) (hgWC X) (hgWJ X 223) hgr223_15 L S K M := hgW_eq X 223 15 L S K M
theorem hgv223_15 : hgWJ X 223 15 L S K M = hgW X 223 15 (hgMask [false, false, false, false, false] L) S K M := id rfl
theorem hgu223_19 : hgW X 223 19 L S K M = hgEx X (2, 12) (hgWC X) (hgWJ X 223) hgr223_19 L S K M := hgW_eq X 223 19 L S K M
theorem hgv223_19 : hgWJ X 223 19 L S K M = hgW X 223 19 (hgMask [false, false, false, false, false] L) S K M := id rfl
theorem hgu223_21 : hgW X 223 21 L S K M = hgEx X (2, 12) (hgWC X) (hgWJ X 223) hgr223_21 L S K M := hgW_eq X 223 21 L S K M
theorem hgv223_21 : hgWJ X 223 21 L S K M = hgW X 223 21 (hgMask [false, false, false, false, false] L) S K M := id rfl
/- L_addRule -/
theorem hgc224 (a0 a6 : Nat) (x1 x2 x3 x4 x5 : Int32) : hgWC X 224 [.ref a0, .int x1, .int x2, .int x3, .int x4, .int x5, .ref a6] M = hgW X 224 0 [some (.ref a0), some (.int x1), some (.int x2), some (.int x3), some (.int x4), some (.int x5), some (.ref a6), none] [] (0, 0) M := if_pos (Nat.le_of_ble_eq_true rfl)
theorem hgu224_0 : hgW X 224 0 L S K M = hgEx X (2, 12) (hgWC X) (hgWJ X 224) hgr224_0 L S K M := hgW_eq X 224 0 L S K M
theorem hgv224_0 : hgWJ X 224 0 L S K M = hgW X 224 0 (hgMask [true, true, true, true, true, true, true, false] L) S K M := id rfl
theorem hgu224_21 : hgW X 224 21 L S K M = hgEx X (2, 12) (hgWC X) (hgWJ X 224) hgr224_21 L S K M := hgW_eq X 224 21 L S K M
theorem hgv224_21 : hgWJ X 224 21 L S K M = hgW X 224 21 (hgMask [false, false, false, false, false, false, false, false] L) S K M := id rfl
theorem hgu224_25 : hgW X 224 25 L S K M = hgEx X (2, 12) (hgWC X) (hgWJ X 224) hgr224_25 L S K M := hgW_eq X 224 25 L S K M
theorem hgv224_25 : hgWJ X 224 25 L S K M = hgW X 224 25 (hgMask [false, false, false, false, false, false, false, false] L) S K M := id rfl
theorem hgu224_27 : hgW X 224 27 L S K M = hgEx X (2, 12) (hgWC X) (hgWJ X 224) hgr224_27 L S K M := hgW_eq X 224 27 L S K M
theorem hgv224_27 : hgWJ X 224 27 L S K M = hgW X 224 27 (hgMask [false, false, false, false, false, false, false, false] L) S K M := id rfl
/- L_removeRule -/
theorem hgc225 (a0 a2 : Nat) (x1 : Int32) : hgWC X 225 [.ref a0, .int x1, .ref a2] M = hgW X 225 0 [some (.ref a0), some (.int x1), some (.ref a2), none] [] (0, 0) M := if_pos (Nat.le_of_ble_eq_true rfl)
theorem hgu225_0 : hgW X 225 0 L S K M = hgEx X (1, 6) (hgWC X) (hgWJ X 225) hgr225_0 L S K M := hgW_eq X 225 0 L S K M
theorem hgv225_0 : hgWJ X 225 0 L S K M = hgW X 225 0 (hgMask [true, true, true, false] L) S K M := id rfl
theorem hgu225_13 : hgW X 225 13 L S K M = hgEx X (1, 6) (hgWC X) (hgWJ X 225) hgr225_13 L S K M := hgW_eq X 225 13 L S K M
theorem hgv225_13 : hgWJ X 225 13 L S K M = hgW X 225 13 (hgMask [false, false, false, false] L) S K M := id rfl
theorem hgu225_15 : hgW X 225 15 L S K M = hgEx X (1, 6) (hgWC X) (hgWJ X 225) hgr225_15 L S K M := hgW_eq X 225 15 L S K M
theorem hgv225_15 : hgWJ X 225 15 L S K M = hgW X 225 15 (hgMask [false, false, false, false] L) S K M := id rfl
/- L_moveRule -/
theorem hgc226 (a0 a3 : Nat) (x1 x2 : Int32) : hgWC X 226 [.ref a0, .int x1, .int x2, .ref a3] M = hgW X 226 0 [some (.ref a0), some (.int x1), some (.int x2), some (.ref a3), none] [] (0, 0) M := if_pos (Nat.le_of_ble_eq_true rfl)
theorem hgu226_0 : hgW X 226 0 L S K M = hgEx X (2, 12) (hgWC X) (hgWJ X 226) hgr226_0 L S K M := hgW_eq X 226 0 L S K M
theorem hgv226_0 : hgWJ X 226 0 L S K M = hgW X 226 0 (hgMask [true, true, true, true, false] L) S K M := id rfl
theorem hgu226_15 : hgW X 226 15 L S K M = hgEx X (2, 12) (hgWC X) (hgWJ X 226) hgr226_15 L S K M := hgW_eq X 226 15 L S K M
theorem hgv226_15 : hgWJ X 226 15 L S K M = hgW X 226 15 (hgMask [false, false, false, false, false] L) S K M := id rfl
theorem hgu226_17 : hgW X 226 17 L S K M = hgEx X (2, 12) (hgWC X) (hgWJ X 226) hgr226_17 L S K M := hgW_eq X 226 17 L S K M
theorem hgv226_17 : hgWJ X 226 17 L S K M = hgW X 226 17 (hgMask [false, false, false, false, false] L) S K M := id rfl
theorem hgu227_0 : hgW X 227 0 L S K M = hgEx X (601024, 7293034) (hgWC X) (hgWJ X 227) hgr227_0 L S K M := hgW_eq X 227 0 L S K M
theorem hgv227_0 : hgWJ X 227 0 L S K M = hgW X 227 0 (hgMask [true, false, false, false, false, false, false, false] L) S K M := id rfl
theorem hgu227_23 : hgW X 227 23 L S K M = hgEx X (601024, 7293034) (hgWC X) (hgWJ X 227) hgr227_23 L S K M := hgW_eq X 227 23 L S K M
theorem hgv227_23 : hgWJ X 227 23 L S K M = hgW X 227 23 (hgMask [true, true, true, true, true, false, false, false] L) S K M := id rfl
theorem hgu227_188 : hgW X 227 188 L S K M = hgEx X (601024, 7293034) (hgWC X) (hgWJ X 227) hgr227_188 L S K M := hgW_eq X 227 188 L S K M
theorem hgv227_188 : hgWJ X 227 188 L S K M = hgW X 227 188 (hgMask [true, true, true, true, true, false, false, false] L) S K M := id rfl
theorem hgu227_261 : hgW X 227 261 L S K M = hgEx X (601024, 7293034) (hgWC X) (hgWJ X 227) hgr227_261 L S K M := hgW_eq X 227 261 L S K M
theorem hgv227_261 : hgWJ X 227 261 L S K M = hgW X 227 261 (hgMask [true, true, true, true, true, false, false, false] L) S K M := id rfl
theorem hgu227_297 : hgW X 227 297 L S K M = hgEx X (601024, 7293034) (hgWC X) (hgWJ X 227) hgr227_297 L S K M := hgW_eq X 227 297 L S K M
theorem hgv227_297 : hgWJ X 227 297 L S K M = hgW X 227 297 (hgMask [true, true, true, true, true, true, true, false] L) S K M := id rfl
theorem hgu227_314 : hgW X 227 314 L S K M = hgEx X (601024, 7293034) (hgWC X) (hgWJ X 227) hgr227_314 L S K M := hgW_eq X 227 314 L S K M
theorem hgv227_314 : hgWJ X 227 314 L S K M = hgW X 227 314 (hgMask [true, true, true, true, true, false, false, false] L) S K M := id rfl
theorem hgu227_317 : hgW X 227 317 L S K M = hgEx X (601024, 7293034) (hgWC X) (hgWJ X 227) hgr227_317 L S K M := hgW_eq X 227 317 L S K M
theorem hgv227_317 : hgWJ X 227 317 L S K M = hgW X 227 317 (hgMask [true, true, true, true, true, false, false, false] L) S K M := id rfl
theorem hgu227_330 : hgW X 227 330 L S K M = hgEx X (601024, 7293034) (hgWC X) (hgWJ X 227) hgr227_330 L S K M := hgW_eq X 227 330 L S K M
theorem hgv227_330 : hgWJ X 227 330 L S K M = hgW X 227 330 (hgMask [true, true, true, true, true, false, false, false] L) S K M := id rfl
theorem hgu227_343 : hgW X 227 343 L S K M = hgEx X (601024, 7293034) (hgWC X) (hgWJ X 227) hgr227_343 L S K M := hgW_eq X 227 343 L S K M
theorem hgv227_343 : hgWJ X 227 343 L S K M = hgW X 227 343 (hgMask [true, true, true, true, true, false, false, false] L) S K M := id rfl
theorem hgu227_356 : hgW X 227 356 L S K M = hgEx X (601024, 7293034) (hgWC X) (hgWJ X 227) hgr227_356 L S K M := hgW_eq X 227 356 L S K M
theorem hgv227_356 : hgWJ X 227 356 L S K M = hgW X 227 356 (hgMask [true, true, true, true, true, false, false, false] L) S K M := id rfl
theorem hgu227_369 : hgW X 227 369 L S K M = hgEx X (601024, 7293034) (hgWC X) (hgWJ X 227) hgr227_369 L S K M := hgW_eq X 227 369 L S K M
theorem hgv227_369 : hgWJ X 227 369 L S K M = hgW X 227 369 (hgMask [true, true, true, true, true, false, false, false] L) S K M := id rfl
theorem hgu227_405 : hgW X 227 405 L S K M = hgEx X (601024, 7293034) (hgWC X) (hgWJ X 227) hgr227_405 L S K M := hgW_eq X 227 405 L S K M
theorem hgv227_405 : hgWJ X 227 405 L S K M = hgW X 227 405 (hgMask [true, true, true, true, true, true, true, false] L) S K M := id rfl
theorem hgu227_422 : hgW X 227 422 L S K M = hgEx X (601024, 7293034) (hgWC X) (hgWJ X 227) hgr227_422 L S K M := hgW_eq X 227 422 L S K M
theorem hgv227_422 : hgWJ X 227 422 L S K M = hgW X 227 422 (hgMask [true, true, true, true, true, false, false, false] L) S K M := id rfl
theorem hgu227_425 : hgW X 227 425 L S K M = hgEx X (601024, 7293034) (hgWC X) (hgWJ X 227) hgr227_425 L S K M := hgW_eq X 227 425 L S K M
theorem hgv227_425 : hgWJ X 227 425 L S K M = hgW X 227 425 (hgMask [true, true, true, true, true, false, false, false] L) S K M := id rfl
theorem hgu227_461 : hgW X 227 461 L S K M = hgEx X (601024, 7293034) (hgWC X) (hgWJ X 227) hgr227_461 L S K M := hgW_eq X 227 461 L S K M
theorem hgv227_461 : hgWJ X 227 461 L S K M = hgW X 227 461 (hgMask [true, true, true, true, true, true, true, false] L) S K M := id rfl
theorem hgu227_478 : hgW X 227 478 L S K M = hgEx X (601024, 7293034) (hgWC X) (hgWJ X 227) hgr227_478 L S K M := hgW_eq X 227 478 L S K M
theorem hgv227_478 : hgWJ X 227 478 L S K M = hgW X 227 478 (hgMask [true, true, true, true, true, false, false, false] L) S K M := id rfl
theorem hgu227_481 : hgW X 227 481 L S K M = hgEx X (601024, 7293034) (hgWC X) (hgWJ X 227) hgr227_481 L S K M := hgW_eq X 227 481 L S K M
theorem hgv227_481 : hgWJ X 227 481 L S K M = hgW X 227 481 (hgMask [true, true, true, true, true, false, false, false] L) S K M := id rfl
theorem hgu227_517 : hgW X 227 517 L S K M = hgEx X (601024, 7293034) (hgWC X) (hgWJ X 227) hgr227_517 L S K M := hgW_eq X 227 517 L S K M
theorem hgv227_517 : hgWJ X 227 517 L S K M = hgW X 227 517 (hgMask [true, true, true, true, true, true, true, false] L) S K M := id rfl
theorem hgu227_534 : hgW X 227 534 L S K M = hgEx X (601024, 7293034) (hgWC X) (hgWJ X 227) hgr227_534 L S K M := hgW_eq X 227 534 L S K M
theorem hgv227_534 : hgWJ X 227 534 L S K M = hgW X 227 534 (hgMask [true, true, true, true, true, false, false, false] L) S K M := id rfl
theorem hgu227_537 : hgW X 227 537 L S K M = hgEx X (601024, 7293034) (hgWC X) (hgWJ X 227) hgr227_537 L S K M := hgW_eq X 227 537 L S K M
theorem hgv227_537 : hgWJ X 227 537 L S K M = hgW X 227 537 (hgMask [true, true, true, true, true, false, false, false] L) S K M := id rfl
theorem hgu227_573 : hgW X 227 573 L S K M = hgEx X (601024, 7293034) (hgWC X) (hgWJ X 227) hgr227_573 L S K M := hgW_eq X 227 573 L S K M
theorem hgv227_573 : hgWJ X 227 573 L S K M = hgW X 227 573 (hgMask [true, true, true, true, true, true, true, false] L) S K M := id rfl
theorem hgu227_590 : hgW X 227 590 L S K M = hgEx X (601024, 7293034) (hgWC X) (hgWJ X 227) hgr227_590 L S K M := hgW_eq X 227 590 L S K M
theorem hgv227_590 : hgWJ X 227 590 L S K M = hgW X 227 590 (hgMask [true, true, true, true, true, false, false, false] L) S K M := id rfl
theorem hgu227_593 : hgW X 227 593 L S K M = hgEx X (601024, 7293034) (hgWC X) (hgWJ X 227) hgr227_593 L S K M := hgW_eq X 227 593 L S K M
theorem hgv227_593 : hgWJ X 227 593 L S K M = hgW X 227 593 (hgMask [true, true, true, true, true, false, false, false] L) S K M := id rfl
theorem hgu227_629 : hgW X 227 629 L S K M = hgEx X (601024, 7293034) (hgWC X) (hgWJ X 227) hgr227_629 L S K M := hgW_eq X 227 629 L S K M
theorem hgv227_629 : hgWJ X 227 629 L S K M = hgW X 227 629 (hgMask [true, true, true, true, true, true, true, false] L) S K M := id rfl
theorem hgu227_645 : hgW X 227 645 L S K M = hgEx X (601024, 7293034) (hgWC X) (hgWJ X 227) hgr227_645 L S K M := hgW_eq X 227 645 L S K M
theorem hgv227_645 : hgWJ X 227 645 L S K M = hgW X 227 645 (hgMask [true, true, true, true, true, false, false, false] L) S K M := id rfl
theorem hgu227_648 : hgW X 227 648 L S K M = hgEx X (601024, 7293034) (hgWC X) (hgWJ X 227) hgr227_648 L S K M := hgW_eq X 227 648 L S K M
theorem hgv227_648 : hgWJ X 227 648 L S K M = hgW X 227 648 (hgMask [true, true, true, true, true, false, false, false] L) S K M := id rfl
theorem hgu227_684 : hgW X 227 684 L S K M = hgEx X (601024, 7293034) (hgWC X) (hgWJ X 227) hgr227_684 L S K M := hgW_eq X 227 684 L S K M
theorem hgv227_684 : hgWJ X 227 684 L S K M = hgW X 227 684 (hgMask [true, true, true, true, true, true, true, false] L) S K M := id rfl
theorem hgu227_701 : hgW X 227 701 L S K M = hgEx X (601024, 7293034) (hgWC X) (hgWJ X 227) hgr227_701 L S K M := hgW_eq X 227 701 L S K M
theorem hgv227_701 : hgWJ X 227 701 L S K M = hgW X 227 701 (hgMask [true, true, true, true, true, false, false, false] L) S K M := id rfl
theorem hgu227_704 : hgW X 227 704 L S K M = hgEx X (601024, 7293034) (hgWC X) (hgWJ X 227) hgr227_704 L S K M := hgW_eq X 227 704 L S K M
theorem hgv227_704 : hgWJ X 227 704 L S K M = hgW X 227 704 (hgMask [true, true, true, true, true, false, false, false] L) S K M := id rfl
theorem hgu227_740 : hgW X 227 740 L S K M = hgEx X (601024, 7293034) (hgWC X) (hgWJ X 227) hgr227_740 L S K M := hgW_eq X 227 740 L S K M
theorem hgv227_740 : hgWJ X 227 740 L S K M = hgW X 227 740 (hgMask [true, true, true, true, true, true, true, false] L) S K M := id rfl
theorem hgu227_757 : hgW X 227 757 L S K M = hgEx X (601024, 7293034) (hgWC X) (hgWJ X 227) hgr227_757 L S K M := hgW_eq X 227 757 L S K M
theorem hgv227_757 : hgWJ X 227 757 L S K M = hgW X 227 757 (hgMask [true, true, true, true, true, false, false, false] L) S K M := id rfl
theorem hgu227_760 : hgW X 227 760 L S K M = hgEx X (601024, 7293034) (hgWC X) (hgWJ X 227) hgr227_760 L S K M := hgW_eq X 227 760 L S K M
theorem hgv227_760 : hgWJ X 227 760 L S K M = hgW X 227 760 (hgMask [true, true, true, true, true, false, false, false] L) S K M := id rfl
theorem hgu227_773 : hgW X 227 773 L S K M = hgEx X (601024, 7293034) (hgWC X) (hgWJ X 227) hgr227_773 L S K M := hgW_eq X 227 773 L S K M
theorem hgv227_773 : hgWJ X 227 773 L S K M = hgW X 227 773 (hgMask [true, true, true, true, true, false, false, false] L) S K M := id rfl
theorem hgu227_786 : hgW X 227 786 L S K M = hgEx X (601024, 7293034) (hgWC X) (hgWJ X 227) hgr227_786 L S K M := hgW_eq X 227 786 L S K M
theorem hgv227_786 : hgWJ X 227 786 L S K M = hgW X 227 786 (hgMask [true, true, true, true, true, false, false, false] L) S K M := id rfl
theorem hgu227_799 : hgW X 227 799 L S K M = hgEx X (601024, 7293034) (hgWC X) (hgWJ X 227) hgr227_799 L S K M := hgW_eq X 227 799 L S K M
theorem hgv227_799 : hgWJ X 227 799 L S K M = hgW X 227 799 (hgMask [true, true, true, true, true, false, false, false] L) S K M := id rfl
theorem hgu227_835 : hgW X 227 835 L S K M = hgEx X (601024, 7293034) (hgWC X) (hgWJ X 227) hgr227_835 L S K M := hgW_eq X 227 835 L S K M
theorem hgv227_835 : hgWJ X 227 835 L S K M = hgW X 227 835 (hgMask [true, true, true, true, true, true, true, false] L) S K M := id rfl
theorem hgu227_852 : hgW X 227 852 L S K M = hgEx X (601024, 7293034) (hgWC X) (hgWJ X 227) hgr227_852 L S K M := hgW_eq X 227 852 L S K M
theorem hgv227_852 : hgWJ X 227 852 L S K M = hgW X 227 852 (hgMask [true, true, true, true, true, false, false, false] L) S K M := id rfl
theorem hgu227_853 : hgW X 227 853 L S K M = hgEx X (601024, 7293034) (hgWC X) (hgWJ X 227) hgr227_853 L S K M := hgW_eq X 227 853 L S K M
theorem hgv227_853 : hgWJ X 227 853 L S K M = hgW X 227 853 (hgMask [true, true, true, true, true, false, false, false] L) S K M := id rfl
theorem hgu227_859 : hgW X 227 859 L S K M = hgEx X (601024, 7293034) (hgWC X) (hgWJ X 227) hgr227_859 L S K M := hgW_eq X 227 859 L S K M
theorem hgv227_859 : hgWJ X 227 859 L S K M = hgW X 227 859 (hgMask [true, true, true, true, true, false, false, false] L) S K M := id rfl
theorem hgu227_862 : hgW X 227 862 L S K M = hgEx X (601024, 7293034) (hgWC X) (hgWJ X 227) hgr227_862 L S K M := hgW_eq X 227 862 L S K M
theorem hgv227_862 : hgWJ X 227 862 L S K M = hgW X 227 862 (hgMask [true, true, true, true, true, false, false, false] L) S K M := id rfl
theorem hgu227_922 : hgW X 227 922 L S K M = hgEx X (601024, 7293034) (hgWC X) (hgWJ X 227) hgr227_922 L S K M := hgW_eq X 227 922 L S K M
theorem hgv227_922 : hgWJ X 227 922 L S K M = hgW X 227 922 (hgMask [true, true, true, true, true, true, true, false] L) S K M := id rfl
theorem hgu227_939 : hgW X 227 939 L S K M = hgEx X (601024, 7293034) (hgWC X) (hgWJ X 227) hgr227_939 L S K M := hgW_eq X 227 939 L S K M
theorem hgv227_939 : hgWJ X 227 939 L S K M = hgW X 227 939 (hgMask [true, true, true, true, true, false, false, false] L) S K M := id rfl
theorem hgu227_942 : hgW X 227 942 L S K M = hgEx X (601024, 7293034) (hgWC X) (hgWJ X 227) hgr227_942 L S K M := hgW_eq X 227 942 L S K M
theorem hgv227_942 : hgWJ X 227 942 L S K M = hgW X 227 942 (hgMask [true, true, true, true, true, false, false, false] L) S K M := id rfl
theorem hgu227_1002 : hgW X 227 1002 L S K M = hgEx X (601024, 7293034) (hgWC X) (hgWJ X 227) hgr227_1002 L S K M := hgW_eq X 227 1002 L S K M
theorem hgv227_1002 : hgWJ X 227 1002 L S K M = hgW X 227 1002 (hgMask [true, true, true, true, true, true, true, false] L) S K M := id rfl
theorem hgu227_1019 : hgW X 227 1019 L S K M = hgEx X (601024, 7293034) (hgWC X) (hgWJ X 227) hgr227_1019 L S K M := hgW_eq X 227 1019 L S K M
theorem hgv227_1019 : hgWJ X 227 1019 L S K M = hgW X 227 1019 (hgMask [true, true, true, true, true, false, false, false] L) S K M := id rfl
theorem hgu227_1022 : hgW X 227 1022 L S K M = hgEx X (601024, 7293034) (hgWC X) (hgWJ X 227) hgr227_1022 L S K M := hgW_eq X 227 1022 L S K M
theorem hgv227_1022 : hgWJ X 227 1022 L S K M = hgW X 227 1022 (hgMask [true, true, true, true, true, false, false, false] L) S K M := id rfl
theorem hgu227_1058 : hgW X 227 1058 L S K M = hgEx X (601024, 7293034) (hgWC X) (hgWJ X 227) hgr227_1058 L S K M := hgW_eq X 227 1058 L S K M
theorem hgv227_1058 : hgWJ X 227 1058 L S K M = hgW X 227 1058 (hgMask [true, true, true, true, true, true, true, false] L) S K M := id rfl
theorem hgu227_1075 : hgW X 227 1075 L S K M = hgEx X (601024, 7293034) (hgWC X) (hgWJ X 227) hgr227_1075 L S K M := hgW_eq X 227 1075 L S K M
theorem hgv227_1075 : hgWJ X 227 1075 L S K M = hgW X 227 1075 (hgMask [true, true, true, true, true, false, false, false] L) S K M := id rfl
theorem hgu227_1076 : hgW X 227 1076 L S K M = hgEx X (601024, 7293034) (hgWC X) (hgWJ X 227) hgr227_1076 L S K M := hgW_eq X 227 1076 L S K M
theorem hgv227_1076 : hgWJ X 227 1076 L S K M = hgW X 227 1076 (hgMask [true, true, true, true, true, false, false, false] L) S K M := id rfl
theorem hgu227_1082 : hgW X 227 1082 L S K M = hgEx X (601024, 7293034) (hgWC X) (hgWJ X 227) hgr227_1082 L S K M := hgW_eq X 227 1082 L S K M
theorem hgv227_1082 : hgWJ X 227 1082 L S K M = hgW X 227 1082 (hgMask [true, true, true, true, true, false, false, false] L) S K M := id rfl
theorem hgu227_1085 : hgW X 227 1085 L S K M = hgEx X (601024, 7293034) (hgWC X) (hgWJ X 227) hgr227_1085 L S K M := hgW_eq X 227 1085 L S K M
theorem hgv227_1085 : hgWJ X 227 1085 L S K M = hgW X 227 1085 (hgMask [true, true, true, true, true, false, false, false] L) S K M := id rfl
theorem hgu227_1133 : hgW X 227 1133 L S K M = hgEx X (601024, 7293034) (hgWC X) (hgWJ X 227) hgr227_1133 L S K M := hgW_eq X 227 1133 L S K M
theorem hgv227_1133 : hgWJ X 227 1133 L S K M = hgW X 227 1133 (hgMask [true, true, true, true, true, true, true, false] L) S K M := id rfl
theorem hgu227_1150 : hgW X 227 1150 L S K M = hgEx X (601024, 7293034) (hgWC X) (hgWJ X 227) hgr227_1150 L S K M := hgW_eq X 227 1150 L S K M
theorem hgv227_1150 : hgWJ X 227 1150 L S K M = hgW X 227 1150 (hgMask [true, true, true, true, true, false, false, false] L) S K M := id rfl
theorem hgu227_1153 : hgW X 227 1153 L S K M = hgEx X (601024, 7293034) (hgWC X) (hgWJ X 227) hgr227_1153 L S K M := hgW_eq X 227 1153 L S K M
theorem hgv227_1153 : hgWJ X 227 1153 L S K M = hgW X 227 1153 (hgMask [true, true, true, true, true, false, false, false] L) S K M := id rfl
theorem hgu227_1166 : hgW X 227 1166 L S K M = hgEx X (601024, 7293034) (hgWC X) (hgWJ X 227) hgr227_1166 L S K M := hgW_eq X 227 1166 L S K M
theorem hgv227_1166 : hgWJ X 227 1166 L S K M = hgW X 227 1166 (hgMask [true, true, true, true, true, false, false, false] L) S K M := id rfl
theorem hgu227_1202 : hgW X 227 1202 L S K M = hgEx X (601024, 7293034) (hgWC X) (hgWJ X 227) hgr227_1202 L S K M := hgW_eq X 227 1202 L S K M
theorem hgv227_1202 : hgWJ X 227 1202 L S K M = hgW X 227 1202 (hgMask [true, true, true, true, true, true, true, false] L) S K M := id rfl
theorem hgu227_1219 : hgW X 227 1219 L S K M = hgEx X (601024, 7293034) (hgWC X) (hgWJ X 227) hgr227_1219 L S K M := hgW_eq X 227 1219 L S K M
theorem hgv227_1219 : hgWJ X 227 1219 L S K M = hgW X 227 1219 (hgMask [true, true, true, true, true, false, false, false] L) S K M := id rfl
theorem hgu227_1222 : hgW X 227 1222 L S K M = hgEx X (601024, 7293034) (hgWC X) (hgWJ X 227) hgr227_1222 L S K M := hgW_eq X 227 1222 L S K M
theorem hgv227_1222 : hgWJ X 227 1222 L S K M = hgW X 227 1222 (hgMask [true, true, true, true, true, false, false, false] L) S K M := id rfl
theorem hgu227_1294 : hgW X 227 1294 L S K M = hgEx X (601024, 7293034) (hgWC X) (hgWJ X 227) hgr227_1294 L S K M := hgW_eq X 227 1294 L S K M
theorem hgv227_1294 : hgWJ X 227 1294 L S K M = hgW X 227 1294 (hgMask [true, true, true, true, true, true, true, false] L) S K M := id rfl
theorem hgu227_1311 : hgW X 227 1311 L S K M = hgEx X (601024, 7293034) (hgWC X) (hgWJ X 227) hgr227_1311 L S K M := hgW_eq X 227 1311 L S K M
theorem hgv227_1311 : hgWJ X 227 1311 L S K M = hgW X 227 1311 (hgMask [true, true, true, true, true, false, false, false] L) S K M := id rfl
theorem hgu227_1314 : hgW X 227 1314 L S K M = hgEx X (601024, 7293034) (hgWC X) (hgWJ X 227) hgr227_1314 L S K M := hgW_eq X 227 1314 L S K M
theorem hgv227_1314 : hgWJ X 227 1314 L S K M = hgW X 227 1314 (hgMask [true, true, true, true, true, false, false, false] L) S K M := id rfl
theorem hgu227_1350 : hgW X 227 1350 L S K M = hgEx X (601024, 7293034) (hgWC X) (hgWJ X 227) hgr227_1350 L S K M := hgW_eq X 227 1350 L S K M
theorem hgv227_1350 : hgWJ X 227 1350 L S K M = hgW X 227 1350 (hgMask [true, true, true, true, true, true, true, false] L) S K M := id rfl
theorem hgu227_1367 : hgW X 227 1367 L S K M = hgEx X (601024, 7293034) (hgWC X) (hgWJ X 227) hgr227_1367 L S K M := hgW_eq X 227 1367 L S K M
theorem hgv227_1367 : hgWJ X 227 1367 L S K M = hgW X 227 1367 (hgMask [true, true, true, true, true, false, false, false] L) S K M := id rfl
theorem hgu227_1370 : hgW X 227 1370 L S K M = hgEx X (601024, 7293034) (hgWC X) (hgWJ X 227) hgr227_1370 L S K M := hgW_eq X 227 1370 L S K M
theorem hgv227_1370 : hgWJ X 227 1370 L S K M = hgW X 227 1370 (hgMask [true, true, true, true, true, false, false, false] L) S K M := id rfl
theorem hgu227_1406 : hgW X 227 1406 L S K M = hgEx X (601024, 7293034) (hgWC X) (hgWJ X 227) hgr227_1406 L S K M := hgW_eq X 227 1406 L S K M
theorem hgv227_1406 : hgWJ X 227 1406 L S K M = hgW X 227 1406 (hgMask [true, true, true, true, true, true, true, false] L) S K M := id rfl
theorem hgu227_1423 : hgW X 227 1423 L S K M = hgEx X (601024, 7293034) (hgWC X) (hgWJ X 227) hgr227_1423 L S K M := hgW_eq X 227 1423 L S K M
theorem hgv227_1423 : hgWJ X 227 1423 L S K M = hgW X 227 1423 (hgMask [true, true, true, true, true, false, false, false] L) S K M := id rfl
theorem hgu227_1426 : hgW X 227 1426 L S K M = hgEx X (601024, 7293034) (hgWC X) (hgWJ X 227) hgr227_1426 L S K M := hgW_eq X 227 1426 L S K M
theorem hgv227_1426 : hgWJ X 227 1426 L S K M = hgW X 227 1426 (hgMask [true, true, true, true, true, false, false, false] L) S K M := id rfl
theorem hgu227_1462 : hgW X 227 1462 L S K M = hgEx X (601024, 7293034) (hgWC X) (hgWJ X 227) hgr227_1462 L S K M := hgW_eq X 227 1462 L S K M
theorem hgv227_1462 : hgWJ X 227 1462 L S K M = hgW X 227 1462 (hgMask [true, true, true, true, true, true, true, false] L) S K M := id rfl
theorem hgu227_1479 : hgW X 227 1479 L S K M = hgEx X (601024, 7293034) (hgWC X) (hgWJ X 227) hgr227_1479 L S K M := hgW_eq X 227 1479 L S K M
theorem hgv227_1479 : hgWJ X 227 1479 L S K M = hgW X 227 1479 (hgMask [true, true, true, true, true, false, false, false] L) S K M := id rfl
theorem hgu227_1482 : hgW X 227 1482 L S K M = hgEx X (601024, 7293034) (hgWC X) (hgWJ X 227) hgr227_1482 L S K M := hgW_eq X 227 1482 L S K M
theorem hgv227_1482 : hgWJ X 227 1482 L S K M = hgW X 227 1482 (hgMask [true, true, true, true, true, false, false, false] L) S K M := id rfl
theorem hgu227_1530 : hgW X 227 1530 L S K M = hgEx X (601024, 7293034) (hgWC X) (hgWJ X 227) hgr227_1530 L S K M := hgW_eq X 227 1530 L S K M
theorem hgv227_1530 : hgWJ X 227 1530 L S K M = hgW X 227 1530 (hgMask [true, true, true, true, true, true, true, false] L) S K M := id rfl
theorem hgu227_1547 : hgW X 227 1547 L S K M = hgEx X (601024, 7293034) (hgWC X) (hgWJ X 227) hgr227_1547 L S K M := hgW_eq X 227 1547 L S K M
theorem hgv227_1547 : hgWJ X 227 1547 L S K M = hgW X 227 1547 (hgMask [true, true, true, true, true, false, false, false] L) S K M := id rfl
theorem hgu227_1550 : hgW X 227 1550 L S K M = hgEx X (601024, 7293034) (hgWC X) (hgWJ X 227) hgr227_1550 L S K M := hgW_eq X 227 1550 L S K M
theorem hgv227_1550 : hgWJ X 227 1550 L S K M = hgW X 227 1550 (hgMask [true, true, true, true, true, false, false, false] L) S K M := id rfl
theorem hgu227_1564 : hgW X 227 1564 L S K M = hgEx X (601024, 7293034) (hgWC X) (hgWJ X 227) hgr227_1564 L S K M := hgW_eq X 227 1564 L S K M
theorem hgv227_1564 : hgWJ X 227 1564 L S K M = hgW X 227 1564 (hgMask [true, true, true, true, true, false, false, false] L) S K M := id rfl
theorem hgu227_1565 : hgW X 227 1565 L S K M = hgEx X (601024, 7293034) (hgWC X) (hgWJ X 227) hgr227_1565 L S K M := hgW_eq X 227 1565 L S K M
theorem hgv227_1565 : hgWJ X 227 1565 L S K M = hgW X 227 1565 (hgMask [true, true, true, true, true, false, false, false] L) S K M := id rfl
theorem hgu227_1609 : hgW X 227 1609 L S K M = hgEx X (601024, 7293034) (hgWC X) (hgWJ X 227) hgr227_1609 L S K M := hgW_eq X 227 1609 L S K M
theorem hgv227_1609 : hgWJ X 227 1609 L S K M = hgW X 227 1609 (hgMask [true, true, true, true, true, true, false, false] L) S K M := id rfl
theorem hgu227_1610 : hgW X 227 1610 L S K M = hgEx X (601024, 7293034) (hgWC X) (hgWJ X 227) hgr227_1610 L S K M := hgW_eq X 227 1610 L S K M
theorem hgv227_1610 : hgWJ X 227 1610 L S K M = hgW X 227 1610 (hgMask [true, true, true, true, true, true, false, false] L) S K M := id rfl
theorem hgu227_1650 : hgW X 227 1650 L S K M = hgEx X (601024, 7293034) (hgWC X) (hgWJ X 227) hgr227_1650 L S K M := hgW_eq X 227 1650 L S K M
theorem hgv227_1650 : hgWJ X 227 1650 L S K M = hgW X 227 1650 (hgMask [true, true, true, true, true, true, true, false] L) S K M := id rfl
theorem hgu227_1667 : hgW X 227 1667 L S K M = hgEx X (601024, 7293034) (hgWC X) (hgWJ X 227) hgr227_1667 L S K M := hgW_eq X 227 1667 L S K M
theorem hgv227_1667 : hgWJ X 227 1667 L S K M = hgW X 227 1667 (hgMask [true, true, true, true, true, false, false, false] L) S K M := id rfl
theorem hgu227_1670 : hgW X 227 1670 L S K M = hgEx X (601024, 7293034) (hgWC X) (hgWJ X 227) hgr227_1670 L S K M := hgW_eq X 227 1670 L S K M
theorem hgv227_1670 : hgWJ X 227 1670 L S K M = hgW X 227 1670 (hgMask [true, true, true, true, true, false, false, false] L) S K M := id rfl
theorem hgu227_1706 : hgW X 227 1706 L S K M = hgEx X (601024, 7293034) (hgWC X) (hgWJ X 227) hgr227_1706 L S K M := hgW_eq X 227 1706 L S K M
theorem hgv227_1706 : hgWJ X 227 1706 L S K M = hgW X 227 1706 (hgMask [true, true, true, true, true, true, true, false] L) S K M := id rfl
theorem hgu227_1723 : hgW X 227 1723 L S K M = hgEx X (601024, 7293034) (hgWC X) (hgWJ X 227) hgr227_1723 L S K M := hgW_eq X 227 1723 L S K M
theorem hgv227_1723 : hgWJ X 227 1723 L S K M = hgW X 227 1723 (hgMask [true, true, true, true, true, false, false, false] L) S K M := id rfl
theorem hgu227_1726 : hgW X 227 1726 L S K M = hgEx X (601024, 7293034) (hgWC X) (hgWJ X 227) hgr227_1726 L S K M := hgW_eq X 227 1726 L S K M
theorem hgv227_1726 : hgWJ X 227 1726 L S K M = hgW X 227 1726 (hgMask [true, true, true, true, true, false, false, false] L) S K M := id rfl
theorem hgu227_1774 : hgW X 227 1774 L S K M = hgEx X (601024, 7293034) (hgWC X) (hgWJ X 227) hgr227_1774 L S K M := hgW_eq X 227 1774 L S K M
theorem hgv227_1774 : hgWJ X 227 1774 L S K M = hgW X 227 1774 (hgMask [true, true, true, true, true, true, true, false] L) S K M := id rfl
theorem hgu227_1791 : hgW X 227 1791 L S K M = hgEx X (601024, 7293034) (hgWC X) (hgWJ X 227) hgr227_1791 L S K M := hgW_eq X 227 1791 L S K M
theorem hgv227_1791 : hgWJ X 227 1791 L S K M = hgW X 227 1791 (hgMask [true, true, true, true, true, false, false, false] L) S K M := id rfl
theorem hgu227_1794 : hgW X 227 1794 L S K M = hgEx X (601024, 7293034) (hgWC X) (hgWJ X 227) hgr227_1794 L S K M := hgW_eq X 227 1794 L S K M
theorem hgv227_1794 : hgWJ X 227 1794 L S K M = hgW X 227 1794 (hgMask [true, true, true, true, true, false, false, false] L) S K M := id rfl
theorem hgu227_1807 : hgW X 227 1807 L S K M = hgEx X (601024, 7293034) (hgWC X) (hgWJ X 227) hgr227_1807 L S K M := hgW_eq X 227 1807 L S K M
theorem hgv227_1807 : hgWJ X 227 1807 L S K M = hgW X 227 1807 (hgMask [true, true, true, true, true, false, false, false] L) S K M := id rfl
theorem hgu227_1821 : hgW X 227 1821 L S K M = hgEx X (601024, 7293034) (hgWC X) (hgWJ X 227) hgr227_1821 L S K M := hgW_eq X 227 1821 L S K M
theorem hgv227_1821 : hgWJ X 227 1821 L S K M = hgW X 227 1821 (hgMask [true, true, true, true, true, false, false, false] L) S K M := id rfl
theorem hgu227_1827 : hgW X 227 1827 L S K M = hgEx X (601024, 7293034) (hgWC X) (hgWJ X 227) hgr227_1827 L S K M := hgW_eq X 227 1827 L S K M
theorem hgv227_1827 : hgWJ X 227 1827 L S K M = hgW X 227 1827 (hgMask [false, false, false, false, false, false, false, false] L) S K M := id rfl
end HGLB

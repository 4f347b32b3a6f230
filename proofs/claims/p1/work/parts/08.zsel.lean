/-- the world behind the two constructors -/
abbrev wld9 (g : G9) (x m o xq1 xq2 xq4 xq5 xq12 xq22 xq23 xq24 xq25 xq20 xq13 xq14 xq26 xq3 xq27 xq16 xq17 xq18 xq19 xq6 xq8 xq10 xq7 xq9 xq11 xq28 xq15 xq29 xq30 xq31 xq32 xq33 xq34 xq35 xq36 xq37 xq38 xq39 xq40 xq41 xq21 mq1 mq2 mq3 mq4 mq5 mq6 mq16 mq7 mq8 mq9 mq10 mq11 mq12 mq13 mq14 mq15 : Nat) : va_W := [(x, .inr (12, [.ref xq1, .int 0, .ref xq2, .ref xq4, .ref xq5, .ref xq12, .ref xq22, .ref xq23, .int (-1), .ref xq24, .ref xq25, .int 250, .ref xq20, .int 0, .ref xq13, .ref xq14, .ref xq26])), (xq1, .inl (g.2.1 1, 32, .inl (fun _ => 0))), (xq2, .inr (11, [.ref xq3])), (xq3, .inr (10, [.int 1, .int 20, .ref xq27, .int 0])), (xq4, .inl (g.2.1 3, 4, .inr (.inr (.inr (.inr (va_up (va_up (va_up (va_up (fun _ => none) 0 (some xq16)) 1 (some xq17)) 2 (some xq18)) 3 (some xq19))))))), (xq5, .inr (6, [.ref xq6, .ref xq8, .ref xq10, .int 0, .int 0, .int 0, .int 0, .int 0])), (xq6, .inr (10, [.int 10, .int 33, .ref xq7, .int 0])), (xq7, .inl (g.2.1 0, 320, .inl (fun _ => 0))), (xq8, .inr (10, [.int 2, .int 33, .ref xq9, .int 0])), (xq9, .inl (g.2.1 0, 64, .inl (fun _ => 0))), (xq10, .inr (10, [.int 1, .int 7, .ref xq11, .int 0])), (xq11, .inl (g.2.1 0, 7, .inl (fun _ => 0))), (xq12, .inr (8, [.null, .int 0, .int 0, .int 0, .null, .int 0, .int 0])), (xq13, .inr (10, [.int 2, .int 21, .ref xq28, .int 0])), (xq14, .inr (5, [.ref xq15, .int 0])), (xq15, .inr (10, [.int 1, .int 100, .ref xq29, .int 0])), (xq16, .inr (6, [.ref xq30, .ref xq31, .ref xq32, .int 0, .int 0, .int 0, .int 0, .int 0])), (xq17, .inr (6, [.ref xq33, .ref xq34, .ref xq35, .int 0, .int 0, .int 0, .int 0, .int 0])), (xq18, .inr (6, [.ref xq36, .ref xq37, .ref xq38, .int 0, .int 0, .int 0, .int 0, .int 0])), (xq19, .inr (6, [.ref xq39, .ref xq40, .ref xq41, .int 0, .int 0, .int 0, .int 0, .int 0])), (xq20, .inr (10, [.int 2, .int 7, .ref xq21, .int 7])), (xq21, .inl (g.2.1 0, 14, .inl (upd (upd (upd (upd (upd (upd (upd (upd (upd (upd (upd (upd (upd (upd (fun _ => 0) 0 (-1)) 1 (-1)) 2 (-1)) 3 (-1)) 4 (-1)) 5 (-1)) 6 (-1)) 7 (-1)) 8 (-1)) 9 (-1)) 10 (-1)) 11 (-1)) 12 (-1)) 13 (-1)))), (m, .inr (22, [.int 0, .ref mq1, .int 0, .ref mq2, .int 0, .ref mq3, .int 250, .ref mq4, .int 0, .ref mq5, .ref mq6, .ref mq16, .int 0, .ref mq7, .ref mq8, .ref mq9, .int 0, .null, .int 0, .null, .int 0, .int 0, .int 0, .ref mq10, .int 0, .ref mq11, .ref mq12, .ref mq13, .int 0, .ref mq14, .ref mq15, .int 0])), (mq1, .inl (g.2.1 0, 32, .inl (fun _ => 0))), (mq2, .inl (g.2.1 0, 20, .inl (fun _ => 0))), (mq3, .inl (g.2.1 4, 4, .inr (.inr (.inr (.inr (fun _ => none)))))), (mq4, .inl (g.2.1 0, 100, .inl (fun _ => 0))), (mq5, .inr (2, [.int 0, .ref (g.2.2 0), .int 0])), (mq6, .inr (2, [.int 0, .ref (g.2.2 0), .int 0])), (mq7, .inr (2, [.int 0, .ref (g.2.2 0), .int 0])), (mq8, .inl (g.2.1 0, 28, .inl (fun _ => 0))), (mq9, .inl (g.2.1 0, 96, .inl (fun _ => 0))), (mq10, .inr (2, [.int 0, .ref (g.2.2 0), .int 0])), (mq11, .inl (g.2.1 2, 64, .inr (.inl (fun _ => 0)))), (mq12, .inl (g.2.1 2, 1024, .inr (.inl (fun _ => 0)))), (mq13, .inl (g.2.1 0, 1024, .inl (fun _ => 0))), (mq14, .inl (g.2.1 2, 256, .inr (.inl (fun _ => 0)))), (mq15, .inl (g.2.1 0, 256, .inl (fun _ => 0))), (mq16, .inl (g.2.1 0, 14, .inl (upd (upd (upd (upd (upd (upd (upd (upd (upd (upd (upd (upd (upd (upd (fun _ => 0) 0 (-1)) 1 (-1)) 2 (-1)) 3 (-1)) 4 (-1)) 5 (-1)) 6 (-1)) 7 (-1)) 8 (-1)) 9 (-1)) 10 (-1)) 11 (-1)) 12 (-1)) 13 (-1)))), (o, .inl (g.2.1 2, 1, .inr (.inl (fun _ => 0))))]
theorem i9_bd (x : Int32) : -2147483648 ≤ x.toInt ∧ x.toInt ≤ 2147483647 := ⟨Int32.le_toInt x, by have := Int32.toInt_lt x; omega⟩
set_option maxHeartbeats 4000000 in
set_option maxRecDepth 100000 in
theorem law_sel_0 {p : Program} {l : Launch} {e : Env} {s : State} {m9 : MethodId} {below : List Frame} {meth : Method} {c : Code} {g : G9} {b : Nat} {xs : Nat → Int32} (hlt : l.stackTraces = false) (C0 : lw_At p s m9 meth c b 4 xs) (hE : EE g (fun q : Nat => s.heap.size ≤ q) s) (x m o xq1 xq2 xq4 xq5 xq12 xq22 xq23 xq24 xq25 xq20 xq13 xq14 xq26 xq3 xq27 xq16 xq17 xq18 xq19 xq6 xq8 xq10 xq7 xq9 xq11 xq28 xq15 xq29 xq30 xq31 xq32 xq33 xq34 xq35 xq36 xq37 xq38 xq39 xq40 xq41 xq21 mq1 mq2 mq3 mq4 mq5 mq6 mq16 mq7 mq8 mq9 mq10 mq11 mq12 mq13 mq14 mq15 : Nat) : ∀ (H : Heap) (locs : List Loc) (ls : Array Slot), va_P g.1 vwCl (wld9 g x m o xq1 xq2 xq4 xq5 xq12 xq22 xq23 xq24 xq25 xq20 xq13 xq14 xq26 xq3 xq27 xq16 xq17 xq18 xq19 xq6 xq8 xq10 xq7 xq9 xq11 xq28 xq15 xq29 xq30 xq31 xq32 xq33 xq34 xq35 xq36 xq37 xq38 xq39 xq40 xq41 xq21 mq1 mq2 mq3 mq4 mq5 mq6 mq16 mq7 mq8 mq9 mq10 mq11 mq12 mq13 mq14 mq15) H → va_D (fun q : Nat => s.heap.size ≤ q) (wld9 g x m o xq1 xq2 xq4 xq5 xq12 xq22 xq23 xq24 xq25 xq20 xq13 xq14 xq26 xq3 xq27 xq16 xq17 xq18 xq19 xq6 xq8 xq10 xq7 xq9 xq11 xq28 xq15 xq29 xq30 xq31 xq32 xq33 xq34 xq35 xq36 xq37 xq38 xq39 xq40 xq41 xq21 mq1 mq2 mq3 mq4 mq5 mq6 mq16 mq7 mq8 mq9 mq10 mq11 mq12 mq13 mq14 mq15) → va_S (fun q : Nat => s.heap.size ≤ q) s.heap H locs → lv_has ls 7 [(0, .ref b), (1, .ref x), (2, .ref m), (3, .ref o), (4, .int 0)] → W p l e room_1 s m9 #[Value.ref b] below meth c H locs 106 7589 (lw_Z below #[Value.ref b] s) (F0 m9 144 ls []) := by
  intro H locs ls hP hD hS hl
  have q1 := i9_bd (xs 1)
  have q2 := i9_bd (xs 2)
  have q3 := i9_bd (xs 3)
  rcases DS9.or (i9_char (xs 1)) with h | h
  · exact law_0_D hlt C0 hE x m o xq1 xq2 xq4 xq5 xq12 xq22 xq23 xq24 xq25 xq20 xq13 xq14 xq26 mq1 mq2 mq3 mq4 mq5 mq6 mq16 mq7 mq8 mq9 mq10 mq11 mq12 mq13 mq14 mq15 (xs 1) rfl (by omega) _ rfl (i9_char (xs 1)) h H locs ls (hP.sub [0, 1, 22, 23, 39] rfl) (hD.sub [0, 1, 22, 23, 39] (by decide) rfl) hS hl
  · exact law_0_N hlt C0 hE x m o xq1 xq2 xq4 xq5 xq12 xq22 xq23 xq24 xq25 xq20 xq13 xq14 xq26 mq1 mq2 mq3 mq4 mq5 mq6 mq16 mq7 mq8 mq9 mq10 mq11 mq12 mq13 mq14 mq15 (xs 1) rfl (by omega) _ rfl (i9_char (xs 1)) h H locs ls (hP.sub [0, 22] rfl) (hD.sub [0, 22] (by decide) rfl) hS hl
set_option maxHeartbeats 4000000 in
set_option maxRecDepth 100000 in
theorem law_sel_1 {p : Program} {l : Launch} {e : Env} {s : State} {m9 : MethodId} {below : List Frame} {meth : Method} {c : Code} {g : G9} {b : Nat} {xs : Nat → Int32} (hlt : l.stackTraces = false) (C0 : lw_At p s m9 meth c b 4 xs) (hE : EE g (fun q : Nat => s.heap.size ≤ q) s) (x m o xq1 xq2 xq4 xq5 xq12 xq22 xq23 xq24 xq25 xq20 xq13 xq14 xq26 xq3 xq27 xq16 xq17 xq18 xq19 xq6 xq8 xq10 xq7 xq9 xq11 xq28 xq15 xq29 xq30 xq31 xq32 xq33 xq34 xq35 xq36 xq37 xq38 xq39 xq40 xq41 xq21 mq1 mq2 mq3 mq4 mq5 mq6 mq16 mq7 mq8 mq9 mq10 mq11 mq12 mq13 mq14 mq15 : Nat) : ∀ (H : Heap) (locs : List Loc) (ls : Array Slot), va_P g.1 vwCl (wld9 g x m o xq1 xq2 xq4 xq5 xq12 xq22 xq23 xq24 xq25 xq20 xq13 xq14 xq26 xq3 xq27 xq16 xq17 xq18 xq19 xq6 xq8 xq10 xq7 xq9 xq11 xq28 xq15 xq29 xq30 xq31 xq32 xq33 xq34 xq35 xq36 xq37 xq38 xq39 xq40 xq41 xq21 mq1 mq2 mq3 mq4 mq5 mq6 mq16 mq7 mq8 mq9 mq10 mq11 mq12 mq13 mq14 mq15) H → va_D (fun q : Nat => s.heap.size ≤ q) (wld9 g x m o xq1 xq2 xq4 xq5 xq12 xq22 xq23 xq24 xq25 xq20 xq13 xq14 xq26 xq3 xq27 xq16 xq17 xq18 xq19 xq6 xq8 xq10 xq7 xq9 xq11 xq28 xq15 xq29 xq30 xq31 xq32 xq33 xq34 xq35 xq36 xq37 xq38 xq39 xq40 xq41 xq21 mq1 mq2 mq3 mq4 mq5 mq6 mq16 mq7 mq8 mq9 mq10 mq11 mq12 mq13 mq14 mq15) → va_S (fun q : Nat => s.heap.size ≤ q) s.heap H locs → lv_has ls 7 [(0, .ref b), (1, .ref x), (2, .ref m), (3, .ref o), (4, .int 0)] → W p l e room_1 s m9 #[Value.ref b] below meth c H locs 106 7589 (lw_Z below #[Value.ref b] s) (F0 m9 202 ls []) := by
  intro H locs ls hP hD hS hl
  have q1 := i9_bd (xs 1)
  have q2 := i9_bd (xs 2)
  have q3 := i9_bd (xs 3)
  exact law_1_a hlt C0 hE x m o xq1 xq2 xq4 xq5 xq12 xq22 xq23 xq24 xq25 xq20 xq13 xq14 xq26 mq1 mq2 mq3 mq4 mq5 mq6 mq16 mq7 mq8 mq9 mq10 mq11 mq12 mq13 mq14 mq15  H locs ls (hP.sub [0, 22] rfl) (hD.sub [0, 22] (by decide) rfl) hS hl
set_option maxHeartbeats 4000000 in
set_option maxRecDepth 100000 in
theorem law_sel_2 {p : Program} {l : Launch} {e : Env} {s : State} {m9 : MethodId} {below : List Frame} {meth : Method} {c : Code} {g : G9} {b : Nat} {xs : Nat → Int32} (hlt : l.stackTraces = false) (C0 : lw_At p s m9 meth c b 4 xs) (hE : EE g (fun q : Nat => s.heap.size ≤ q) s) (x m o xq1 xq2 xq4 xq5 xq12 xq22 xq23 xq24 xq25 xq20 xq13 xq14 xq26 xq3 xq27 xq16 xq17 xq18 xq19 xq6 xq8 xq10 xq7 xq9 xq11 xq28 xq15 xq29 xq30 xq31 xq32 xq33 xq34 xq35 xq36 xq37 xq38 xq39 xq40 xq41 xq21 mq1 mq2 mq3 mq4 mq5 mq6 mq16 mq7 mq8 mq9 mq10 mq11 mq12 mq13 mq14 mq15 : Nat) : ∀ (H : Heap) (locs : List Loc) (ls : Array Slot), va_P g.1 vwCl (wld9 g x m o xq1 xq2 xq4 xq5 xq12 xq22 xq23 xq24 xq25 xq20 xq13 xq14 xq26 xq3 xq27 xq16 xq17 xq18 xq19 xq6 xq8 xq10 xq7 xq9 xq11 xq28 xq15 xq29 xq30 xq31 xq32 xq33 xq34 xq35 xq36 xq37 xq38 xq39 xq40 xq41 xq21 mq1 mq2 mq3 mq4 mq5 mq6 mq16 mq7 mq8 mq9 mq10 mq11 mq12 mq13 mq14 mq15) H → va_D (fun q : Nat => s.heap.size ≤ q) (wld9 g x m o xq1 xq2 xq4 xq5 xq12 xq22 xq23 xq24 xq25 xq20 xq13 xq14 xq26 xq3 xq27 xq16 xq17 xq18 xq19 xq6 xq8 xq10 xq7 xq9 xq11 xq28 xq15 xq29 xq30 xq31 xq32 xq33 xq34 xq35 xq36 xq37 xq38 xq39 xq40 xq41 xq21 mq1 mq2 mq3 mq4 mq5 mq6 mq16 mq7 mq8 mq9 mq10 mq11 mq12 mq13 mq14 mq15) → va_S (fun q : Nat => s.heap.size ≤ q) s.heap H locs → lv_has ls 7 [(0, .ref b), (1, .ref x), (2, .ref m), (3, .ref o), (4, .int 0)] → W p l e room_1 s m9 #[Value.ref b] below meth c H locs 106 7589 (lw_Z below #[Value.ref b] s) (F0 m9 215 ls []) := by
  intro H locs ls hP hD hS hl
  have q1 := i9_bd (xs 1)
  have q2 := i9_bd (xs 2)
  have q3 := i9_bd (xs 3)
  rcases (show ((-2147483648) ≤ (xs 1).toInt ∧ (xs 1).toInt ≤ (-1)) ∨ (4 ≤ (xs 1).toInt ∧ (xs 1).toInt ≤ 2147483647) ∨ (xs 1).toInt = 0 ∨ (xs 1).toInt = 1 ∨ (xs 1).toInt = 2 ∨ (xs 1).toInt = 3 by omega) with h1 | h1 | h1 | h1 | h1 | h1
  · have z1 := h1
    exact law_2_n hlt C0 hE x m o xq1 xq2 xq4 xq5 xq12 xq22 xq23 xq24 xq25 xq20 xq13 xq14 xq26 mq1 mq2 mq3 mq4 mq5 mq6 mq16 mq7 mq8 mq9 mq10 mq11 mq12 mq13 mq14 mq15 (xs 1) rfl (by omega) H locs ls (hP.sub [0, 22] rfl) (hD.sub [0, 22] (by decide) rfl) hS hl
  · have z1 := h1
    exact law_2_b hlt C0 hE x m o xq1 xq2 xq4 xq5 xq12 xq22 xq23 xq24 xq25 xq20 xq13 xq14 xq26 mq1 mq2 mq3 mq4 mq5 mq6 mq16 mq7 mq8 mq9 mq10 mq11 mq12 mq13 mq14 mq15 (xs 1) rfl (by omega) H locs ls (hP.sub [0, 22] rfl) (hD.sub [0, 22] (by decide) rfl) hS hl
  · have z1 := h1
    have e1 : xs 1 = 0 := Int32.toInt_inj.mp (by rw [show (0 : Int32).toInt = 0 from by decide]; exact h1)
    exact law_2_p0 hlt C0 hE x m o xq1 xq2 xq4 xq5 xq12 xq22 xq23 xq24 xq25 xq20 xq13 xq14 xq26 xq16 xq17 xq18 xq19 xq6 xq8 xq10 xq7 xq9 xq11 mq1 mq2 mq3 mq4 mq5 mq6 mq16 mq7 mq8 mq9 mq10 mq11 mq12 mq13 mq14 mq15 e1 H locs ls (hP.sub [0, 4, 5, 6, 8, 9, 10, 11, 12, 22, 25, 39] rfl) (hD.sub [0, 4, 5, 6, 8, 9, 10, 11, 12, 22, 25, 39] (by decide) rfl) hS hl
  · have z1 := h1
    have e1 : xs 1 = 1 := Int32.toInt_inj.mp (by rw [show (1 : Int32).toInt = 1 from by decide]; exact h1)
    exact law_2_p1 hlt C0 hE x m o xq1 xq2 xq4 xq5 xq12 xq22 xq23 xq24 xq25 xq20 xq13 xq14 xq26 xq16 xq17 xq18 xq19 xq6 xq8 xq10 xq7 xq9 xq11 mq1 mq2 mq3 mq4 mq5 mq6 mq16 mq7 mq8 mq9 mq10 mq11 mq12 mq13 mq14 mq15 e1 H locs ls (hP.sub [0, 4, 5, 6, 8, 9, 10, 11, 12, 22, 25, 39] rfl) (hD.sub [0, 4, 5, 6, 8, 9, 10, 11, 12, 22, 25, 39] (by decide) rfl) hS hl
  · have z1 := h1
    have e1 : xs 1 = 2 := Int32.toInt_inj.mp (by rw [show (2 : Int32).toInt = 2 from by decide]; exact h1)
    exact law_2_p2 hlt C0 hE x m o xq1 xq2 xq4 xq5 xq12 xq22 xq23 xq24 xq25 xq20 xq13 xq14 xq26 xq16 xq17 xq18 xq19 xq6 xq8 xq10 xq7 xq9 xq11 mq1 mq2 mq3 mq4 mq5 mq6 mq16 mq7 mq8 mq9 mq10 mq11 mq12 mq13 mq14 mq15 e1 H locs ls (hP.sub [0, 4, 5, 6, 8, 9, 10, 11, 12, 22, 25, 39] rfl) (hD.sub [0, 4, 5, 6, 8, 9, 10, 11, 12, 22, 25, 39] (by decide) rfl) hS hl
  · have z1 := h1
    have e1 : xs 1 = 3 := Int32.toInt_inj.mp (by rw [show (3 : Int32).toInt = 3 from by decide]; exact h1)
    exact law_2_p3 hlt C0 hE x m o xq1 xq2 xq4 xq5 xq12 xq22 xq23 xq24 xq25 xq20 xq13 xq14 xq26 xq16 xq17 xq18 xq19 xq6 xq8 xq10 xq7 xq9 xq11 mq1 mq2 mq3 mq4 mq5 mq6 mq16 mq7 mq8 mq9 mq10 mq11 mq12 mq13 mq14 mq15 e1 H locs ls (hP.sub [0, 4, 5, 6, 8, 9, 10, 11, 12, 22, 25, 39] rfl) (hD.sub [0, 4, 5, 6, 8, 9, 10, 11, 12, 22, 25, 39] (by decide) rfl) hS hl
set_option maxHeartbeats 4000000 in
set_option maxRecDepth 100000 in
theorem law_sel_3 {p : Program} {l : Launch} {e : Env} {s : State} {m9 : MethodId} {below : List Frame} {meth : Method} {c : Code} {g : G9} {b : Nat} {xs : Nat → Int32} (hlt : l.stackTraces = false) (C0 : lw_At p s m9 meth c b 4 xs) (hE : EE g (fun q : Nat => s.heap.size ≤ q) s) (x m o xq1 xq2 xq4 xq5 xq12 xq22 xq23 xq24 xq25 xq20 xq13 xq14 xq26 xq3 xq27 xq16 xq17 xq18 xq19 xq6 xq8 xq10 xq7 xq9 xq11 xq28 xq15 xq29 xq30 xq31 xq32 xq33 xq34 xq35 xq36 xq37 xq38 xq39 xq40 xq41 xq21 mq1 mq2 mq3 mq4 mq5 mq6 mq16 mq7 mq8 mq9 mq10 mq11 mq12 mq13 mq14 mq15 : Nat) : ∀ (H : Heap) (locs : List Loc) (ls : Array Slot), va_P g.1 vwCl (wld9 g x m o xq1 xq2 xq4 xq5 xq12 xq22 xq23 xq24 xq25 xq20 xq13 xq14 xq26 xq3 xq27 xq16 xq17 xq18 xq19 xq6 xq8 xq10 xq7 xq9 xq11 xq28 xq15 xq29 xq30 xq31 xq32 xq33 xq34 xq35 xq36 xq37 xq38 xq39 xq40 xq41 xq21 mq1 mq2 mq3 mq4 mq5 mq6 mq16 mq7 mq8 mq9 mq10 mq11 mq12 mq13 mq14 mq15) H → va_D (fun q : Nat => s.heap.size ≤ q) (wld9 g x m o xq1 xq2 xq4 xq5 xq12 xq22 xq23 xq24 xq25 xq20 xq13 xq14 xq26 xq3 xq27 xq16 xq17 xq18 xq19 xq6 xq8 xq10 xq7 xq9 xq11 xq28 xq15 xq29 xq30 xq31 xq32 xq33 xq34 xq35 xq36 xq37 xq38 xq39 xq40 xq41 xq21 mq1 mq2 mq3 mq4 mq5 mq6 mq16 mq7 mq8 mq9 mq10 mq11 mq12 mq13 mq14 mq15) → va_S (fun q : Nat => s.heap.size ≤ q) s.heap H locs → lv_has ls 7 [(0, .ref b), (1, .ref x), (2, .ref m), (3, .ref o), (4, .int 0)] → W p l e room_1 s m9 #[Value.ref b] below meth c H locs 106 7589 (lw_Z below #[Value.ref b] s) (F0 m9 271 ls []) := by
  intro H locs ls hP hD hS hl
  have q1 := i9_bd (xs 1)
  have q2 := i9_bd (xs 2)
  have q3 := i9_bd (xs 3)
  exact law_3_a hlt C0 hE x m o xq1 xq2 xq4 xq5 xq12 xq22 xq23 xq24 xq25 xq20 xq13 xq14 xq26 xq6 xq8 xq10 xq7 xq9 xq11 mq1 mq2 mq3 mq4 mq5 mq6 mq16 mq7 mq8 mq9 mq10 mq11 mq12 mq13 mq14 mq15  H locs ls (hP.sub [0, 5, 6, 8, 9, 10, 11, 12, 22] rfl) (hD.sub [0, 5, 6, 8, 9, 10, 11, 12, 22] (by decide) rfl) hS hl
set_option maxHeartbeats 4000000 in
set_option maxRecDepth 100000 in
theorem law_sel_4 {p : Program} {l : Launch} {e : Env} {s : State} {m9 : MethodId} {below : List Frame} {meth : Method} {c : Code} {g : G9} {b : Nat} {xs : Nat → Int32} (hlt : l.stackTraces = false) (C0 : lw_At p s m9 meth c b 4 xs) (hE : EE g (fun q : Nat => s.heap.size ≤ q) s) (x m o xq1 xq2 xq4 xq5 xq12 xq22 xq23 xq24 xq25 xq20 xq13 xq14 xq26 xq3 xq27 xq16 xq17 xq18 xq19 xq6 xq8 xq10 xq7 xq9 xq11 xq28 xq15 xq29 xq30 xq31 xq32 xq33 xq34 xq35 xq36 xq37 xq38 xq39 xq40 xq41 xq21 mq1 mq2 mq3 mq4 mq5 mq6 mq16 mq7 mq8 mq9 mq10 mq11 mq12 mq13 mq14 mq15 : Nat) : ∀ (H : Heap) (locs : List Loc) (ls : Array Slot), va_P g.1 vwCl (wld9 g x m o xq1 xq2 xq4 xq5 xq12 xq22 xq23 xq24 xq25 xq20 xq13 xq14 xq26 xq3 xq27 xq16 xq17 xq18 xq19 xq6 xq8 xq10 xq7 xq9 xq11 xq28 xq15 xq29 xq30 xq31 xq32 xq33 xq34 xq35 xq36 xq37 xq38 xq39 xq40 xq41 xq21 mq1 mq2 mq3 mq4 mq5 mq6 mq16 mq7 mq8 mq9 mq10 mq11 mq12 mq13 mq14 mq15) H → va_D (fun q : Nat => s.heap.size ≤ q) (wld9 g x m o xq1 xq2 xq4 xq5 xq12 xq22 xq23 xq24 xq25 xq20 xq13 xq14 xq26 xq3 xq27 xq16 xq17 xq18 xq19 xq6 xq8 xq10 xq7 xq9 xq11 xq28 xq15 xq29 xq30 xq31 xq32 xq33 xq34 xq35 xq36 xq37 xq38 xq39 xq40 xq41 xq21 mq1 mq2 mq3 mq4 mq5 mq6 mq16 mq7 mq8 mq9 mq10 mq11 mq12 mq13 mq14 mq15) → va_S (fun q : Nat => s.heap.size ≤ q) s.heap H locs → lv_has ls 7 [(0, .ref b), (1, .ref x), (2, .ref m), (3, .ref o), (4, .int 0)] → W p l e room_1 s m9 #[Value.ref b] below meth c H locs 106 7589 (lw_Z below #[Value.ref b] s) (F0 m9 284 ls []) := by
  intro H locs ls hP hD hS hl
  have q1 := i9_bd (xs 1)
  have q2 := i9_bd (xs 2)
  have q3 := i9_bd (xs 3)
  exact law_4_a hlt C0 hE x m o xq1 xq2 xq4 xq5 xq12 xq22 xq23 xq24 xq25 xq20 xq13 xq14 xq26 xq3 xq27 mq1 mq2 mq3 mq4 mq5 mq6 mq16 mq7 mq8 mq9 mq10 mq11 mq12 mq13 mq14 mq15  H locs ls (hP.sub [0, 2, 3, 22, 39] rfl) (hD.sub [0, 2, 3, 22, 39] (by decide) rfl) hS hl
set_option maxHeartbeats 4000000 in
set_option maxRecDepth 100000 in
theorem law_sel_5 {p : Program} {l : Launch} {e : Env} {s : State} {m9 : MethodId} {below : List Frame} {meth : Method} {c : Code} {g : G9} {b : Nat} {xs : Nat → Int32} (hlt : l.stackTraces = false) (C0 : lw_At p s m9 meth c b 4 xs) (hE : EE g (fun q : Nat => s.heap.size ≤ q) s) (x m o xq1 xq2 xq4 xq5 xq12 xq22 xq23 xq24 xq25 xq20 xq13 xq14 xq26 xq3 xq27 xq16 xq17 xq18 xq19 xq6 xq8 xq10 xq7 xq9 xq11 xq28 xq15 xq29 xq30 xq31 xq32 xq33 xq34 xq35 xq36 xq37 xq38 xq39 xq40 xq41 xq21 mq1 mq2 mq3 mq4 mq5 mq6 mq16 mq7 mq8 mq9 mq10 mq11 mq12 mq13 mq14 mq15 : Nat) : ∀ (H : Heap) (locs : List Loc) (ls : Array Slot), va_P g.1 vwCl (wld9 g x m o xq1 xq2 xq4 xq5 xq12 xq22 xq23 xq24 xq25 xq20 xq13 xq14 xq26 xq3 xq27 xq16 xq17 xq18 xq19 xq6 xq8 xq10 xq7 xq9 xq11 xq28 xq15 xq29 xq30 xq31 xq32 xq33 xq34 xq35 xq36 xq37 xq38 xq39 xq40 xq41 xq21 mq1 mq2 mq3 mq4 mq5 mq6 mq16 mq7 mq8 mq9 mq10 mq11 mq12 mq13 mq14 mq15) H → va_D (fun q : Nat => s.heap.size ≤ q) (wld9 g x m o xq1 xq2 xq4 xq5 xq12 xq22 xq23 xq24 xq25 xq20 xq13 xq14 xq26 xq3 xq27 xq16 xq17 xq18 xq19 xq6 xq8 xq10 xq7 xq9 xq11 xq28 xq15 xq29 xq30 xq31 xq32 xq33 xq34 xq35 xq36 xq37 xq38 xq39 xq40 xq41 xq21 mq1 mq2 mq3 mq4 mq5 mq6 mq16 mq7 mq8 mq9 mq10 mq11 mq12 mq13 mq14 mq15) → va_S (fun q : Nat => s.heap.size ≤ q) s.heap H locs → lv_has ls 7 [(0, .ref b), (1, .ref x), (2, .ref m), (3, .ref o), (4, .int 0)] → W p l e room_1 s m9 #[Value.ref b] below meth c H locs 106 7589 (lw_Z below #[Value.ref b] s) (F0 m9 328 ls []) := by
  intro H locs ls hP hD hS hl
  have q1 := i9_bd (xs 1)
  have q2 := i9_bd (xs 2)
  have q3 := i9_bd (xs 3)
  exact law_5_a hlt C0 hE x m o xq1 xq2 xq4 xq5 xq12 xq22 xq23 xq24 xq25 xq20 xq13 xq14 xq26 xq3 xq27 mq1 mq2 mq3 mq4 mq5 mq6 mq16 mq7 mq8 mq9 mq10 mq11 mq12 mq13 mq14 mq15  H locs ls (hP.sub [0, 2, 3, 22] rfl) (hD.sub [0, 2, 3, 22] (by decide) rfl) hS hl
set_option maxHeartbeats 4000000 in
set_option maxRecDepth 100000 in
theorem law_sel_6 {p : Program} {l : Launch} {e : Env} {s : State} {m9 : MethodId} {below : List Frame} {meth : Method} {c : Code} {g : G9} {b : Nat} {xs : Nat → Int32} (hlt : l.stackTraces = false) (C0 : lw_At p s m9 meth c b 4 xs) (hE : EE g (fun q : Nat => s.heap.size ≤ q) s) (x m o xq1 xq2 xq4 xq5 xq12 xq22 xq23 xq24 xq25 xq20 xq13 xq14 xq26 xq3 xq27 xq16 xq17 xq18 xq19 xq6 xq8 xq10 xq7 xq9 xq11 xq28 xq15 xq29 xq30 xq31 xq32 xq33 xq34 xq35 xq36 xq37 xq38 xq39 xq40 xq41 xq21 mq1 mq2 mq3 mq4 mq5 mq6 mq16 mq7 mq8 mq9 mq10 mq11 mq12 mq13 mq14 mq15 : Nat) : ∀ (H : Heap) (locs : List Loc) (ls : Array Slot), va_P g.1 vwCl (wld9 g x m o xq1 xq2 xq4 xq5 xq12 xq22 xq23 xq24 xq25 xq20 xq13 xq14 xq26 xq3 xq27 xq16 xq17 xq18 xq19 xq6 xq8 xq10 xq7 xq9 xq11 xq28 xq15 xq29 xq30 xq31 xq32 xq33 xq34 xq35 xq36 xq37 xq38 xq39 xq40 xq41 xq21 mq1 mq2 mq3 mq4 mq5 mq6 mq16 mq7 mq8 mq9 mq10 mq11 mq12 mq13 mq14 mq15) H → va_D (fun q : Nat => s.heap.size ≤ q) (wld9 g x m o xq1 xq2 xq4 xq5 xq12 xq22 xq23 xq24 xq25 xq20 xq13 xq14 xq26 xq3 xq27 xq16 xq17 xq18 xq19 xq6 xq8 xq10 xq7 xq9 xq11 xq28 xq15 xq29 xq30 xq31 xq32 xq33 xq34 xq35 xq36 xq37 xq38 xq39 xq40 xq41 xq21 mq1 mq2 mq3 mq4 mq5 mq6 mq16 mq7 mq8 mq9 mq10 mq11 mq12 mq13 mq14 mq15) → va_S (fun q : Nat => s.heap.size ≤ q) s.heap H locs → lv_has ls 7 [(0, .ref b), (1, .ref x), (2, .ref m), (3, .ref o), (4, .int 0)] → W p l e room_1 s m9 #[Value.ref b] below meth c H locs 106 7589 (lw_Z below #[Value.ref b] s) (F0 m9 341 ls []) := by
  intro H locs ls hP hD hS hl
  have q1 := i9_bd (xs 1)
  have q2 := i9_bd (xs 2)
  have q3 := i9_bd (xs 3)
  exact law_6_a hlt C0 hE x m o xq1 xq2 xq4 xq5 xq12 xq22 xq23 xq24 xq25 xq20 xq13 xq14 xq26 xq3 xq27 mq1 mq2 mq3 mq4 mq5 mq6 mq16 mq7 mq8 mq9 mq10 mq11 mq12 mq13 mq14 mq15  H locs ls (hP.sub [0, 2, 3, 22] rfl) (hD.sub [0, 2, 3, 22] (by decide) rfl) hS hl
set_option maxHeartbeats 4000000 in
set_option maxRecDepth 100000 in
theorem law_sel_7 {p : Program} {l : Launch} {e : Env} {s : State} {m9 : MethodId} {below : List Frame} {meth : Method} {c : Code} {g : G9} {b : Nat} {xs : Nat → Int32} (hlt : l.stackTraces = false) (C0 : lw_At p s m9 meth c b 4 xs) (hE : EE g (fun q : Nat => s.heap.size ≤ q) s) (x m o xq1 xq2 xq4 xq5 xq12 xq22 xq23 xq24 xq25 xq20 xq13 xq14 xq26 xq3 xq27 xq16 xq17 xq18 xq19 xq6 xq8 xq10 xq7 xq9 xq11 xq28 xq15 xq29 xq30 xq31 xq32 xq33 xq34 xq35 xq36 xq37 xq38 xq39 xq40 xq41 xq21 mq1 mq2 mq3 mq4 mq5 mq6 mq16 mq7 mq8 mq9 mq10 mq11 mq12 mq13 mq14 mq15 : Nat) : ∀ (H : Heap) (locs : List Loc) (ls : Array Slot), va_P g.1 vwCl (wld9 g x m o xq1 xq2 xq4 xq5 xq12 xq22 xq23 xq24 xq25 xq20 xq13 xq14 xq26 xq3 xq27 xq16 xq17 xq18 xq19 xq6 xq8 xq10 xq7 xq9 xq11 xq28 xq15 xq29 xq30 xq31 xq32 xq33 xq34 xq35 xq36 xq37 xq38 xq39 xq40 xq41 xq21 mq1 mq2 mq3 mq4 mq5 mq6 mq16 mq7 mq8 mq9 mq10 mq11 mq12 mq13 mq14 mq15) H → va_D (fun q : Nat => s.heap.size ≤ q) (wld9 g x m o xq1 xq2 xq4 xq5 xq12 xq22 xq23 xq24 xq25 xq20 xq13 xq14 xq26 xq3 xq27 xq16 xq17 xq18 xq19 xq6 xq8 xq10 xq7 xq9 xq11 xq28 xq15 xq29 xq30 xq31 xq32 xq33 xq34 xq35 xq36 xq37 xq38 xq39 xq40 xq41 xq21 mq1 mq2 mq3 mq4 mq5 mq6 mq16 mq7 mq8 mq9 mq10 mq11 mq12 mq13 mq14 mq15) → va_S (fun q : Nat => s.heap.size ≤ q) s.heap H locs → lv_has ls 7 [(0, .ref b), (1, .ref x), (2, .ref m), (3, .ref o), (4, .int 0)] → W p l e room_1 s m9 #[Value.ref b] below meth c H locs 106 7589 (lw_Z below #[Value.ref b] s) (F0 m9 354 ls []) := by
  intro H locs ls hP hD hS hl
  have q1 := i9_bd (xs 1)
  have q2 := i9_bd (xs 2)
  have q3 := i9_bd (xs 3)
  rcases (show ((-2147483648) ≤ (xs 1).toInt ∧ (xs 1).toInt ≤ (-1)) ∨ (4 ≤ (xs 1).toInt ∧ (xs 1).toInt ≤ 2147483647) ∨ (0 ≤ (xs 1).toInt ∧ (xs 1).toInt ≤ 3) by omega) with h1 | h1 | h1
  · have z1 := h1
    exact law_7_n hlt C0 hE x m o xq1 xq2 xq4 xq5 xq12 xq22 xq23 xq24 xq25 xq20 xq13 xq14 xq26 mq1 mq2 mq3 mq4 mq5 mq6 mq16 mq7 mq8 mq9 mq10 mq11 mq12 mq13 mq14 mq15 (xs 1) rfl (by omega) H locs ls (hP.sub [0, 22] rfl) (hD.sub [0, 22] (by decide) rfl) hS hl
  · have z1 := h1
    exact law_7_b hlt C0 hE x m o xq1 xq2 xq4 xq5 xq12 xq22 xq23 xq24 xq25 xq20 xq13 xq14 xq26 mq1 mq2 mq3 mq4 mq5 mq6 mq16 mq7 mq8 mq9 mq10 mq11 mq12 mq13 mq14 mq15 (xs 1) rfl (by omega) H locs ls (hP.sub [0, 22] rfl) (hD.sub [0, 22] (by decide) rfl) hS hl
  · have z1 := h1
    exact law_7_i hlt C0 hE x m o xq1 xq2 xq4 xq5 xq12 xq22 xq23 xq24 xq25 xq20 xq13 xq14 xq26 xq16 xq17 xq18 xq19 xq30 xq31 xq32 xq33 xq34 xq35 xq36 xq37 xq38 xq39 xq40 xq41 mq1 mq2 mq3 mq4 mq5 mq6 mq16 mq7 mq8 mq9 mq10 mq11 mq12 mq13 mq14 mq15 (xs 1) rfl (by omega) H locs ls (hP.sub [0, 4, 16, 17, 18, 19, 22, 25] rfl) (hD.sub [0, 4, 16, 17, 18, 19, 22, 25] (by decide) rfl) hS hl
set_option maxHeartbeats 4000000 in
set_option maxRecDepth 100000 in
theorem law_sel_8 {p : Program} {l : Launch} {e : Env} {s : State} {m9 : MethodId} {below : List Frame} {meth : Method} {c : Code} {g : G9} {b : Nat} {xs : Nat → Int32} (hlt : l.stackTraces = false) (C0 : lw_At p s m9 meth c b 4 xs) (hE : EE g (fun q : Nat => s.heap.size ≤ q) s) (x m o xq1 xq2 xq4 xq5 xq12 xq22 xq23 xq24 xq25 xq20 xq13 xq14 xq26 xq3 xq27 xq16 xq17 xq18 xq19 xq6 xq8 xq10 xq7 xq9 xq11 xq28 xq15 xq29 xq30 xq31 xq32 xq33 xq34 xq35 xq36 xq37 xq38 xq39 xq40 xq41 xq21 mq1 mq2 mq3 mq4 mq5 mq6 mq16 mq7 mq8 mq9 mq10 mq11 mq12 mq13 mq14 mq15 : Nat) : ∀ (H : Heap) (locs : List Loc) (ls : Array Slot), va_P g.1 vwCl (wld9 g x m o xq1 xq2 xq4 xq5 xq12 xq22 xq23 xq24 xq25 xq20 xq13 xq14 xq26 xq3 xq27 xq16 xq17 xq18 xq19 xq6 xq8 xq10 xq7 xq9 xq11 xq28 xq15 xq29 xq30 xq31 xq32 xq33 xq34 xq35 xq36 xq37 xq38 xq39 xq40 xq41 xq21 mq1 mq2 mq3 mq4 mq5 mq6 mq16 mq7 mq8 mq9 mq10 mq11 mq12 mq13 mq14 mq15) H → va_D (fun q : Nat => s.heap.size ≤ q) (wld9 g x m o xq1 xq2 xq4 xq5 xq12 xq22 xq23 xq24 xq25 xq20 xq13 xq14 xq26 xq3 xq27 xq16 xq17 xq18 xq19 xq6 xq8 xq10 xq7 xq9 xq11 xq28 xq15 xq29 xq30 xq31 xq32 xq33 xq34 xq35 xq36 xq37 xq38 xq39 xq40 xq41 xq21 mq1 mq2 mq3 mq4 mq5 mq6 mq16 mq7 mq8 mq9 mq10 mq11 mq12 mq13 mq14 mq15) → va_S (fun q : Nat => s.heap.size ≤ q) s.heap H locs → lv_has ls 7 [(0, .ref b), (1, .ref x), (2, .ref m), (3, .ref o), (4, .int 0)] → W p l e room_1 s m9 #[Value.ref b] below meth c H locs 106 7589 (lw_Z below #[Value.ref b] s) (F0 m9 417 ls []) := by
  intro H locs ls hP hD hS hl
  have q1 := i9_bd (xs 1)
  have q2 := i9_bd (xs 2)
  have q3 := i9_bd (xs 3)
  rcases (show ((-2147483648) ≤ (xs 1).toInt ∧ (xs 1).toInt ≤ (-1)) ∨ (4 ≤ (xs 1).toInt ∧ (xs 1).toInt ≤ 2147483647) ∨ (0 ≤ (xs 1).toInt ∧ (xs 1).toInt ≤ 3) by omega) with h1 | h1 | h1
  · have z1 := h1
    exact law_8_n hlt C0 hE x m o xq1 xq2 xq4 xq5 xq12 xq22 xq23 xq24 xq25 xq20 xq13 xq14 xq26 mq1 mq2 mq3 mq4 mq5 mq6 mq16 mq7 mq8 mq9 mq10 mq11 mq12 mq13 mq14 mq15 (xs 1) rfl (by omega) H locs ls (hP.sub [0, 22] rfl) (hD.sub [0, 22] (by decide) rfl) hS hl
  · have z1 := h1
    exact law_8_b hlt C0 hE x m o xq1 xq2 xq4 xq5 xq12 xq22 xq23 xq24 xq25 xq20 xq13 xq14 xq26 mq1 mq2 mq3 mq4 mq5 mq6 mq16 mq7 mq8 mq9 mq10 mq11 mq12 mq13 mq14 mq15 (xs 1) rfl (by omega) H locs ls (hP.sub [0, 22] rfl) (hD.sub [0, 22] (by decide) rfl) hS hl
  · have z1 := h1
    exact law_8_i hlt C0 hE x m o xq1 xq2 xq4 xq5 xq12 xq22 xq23 xq24 xq25 xq20 xq13 xq14 xq26 xq16 xq17 xq18 xq19 xq30 xq31 xq32 xq33 xq34 xq35 xq36 xq37 xq38 xq39 xq40 xq41 mq1 mq2 mq3 mq4 mq5 mq6 mq16 mq7 mq8 mq9 mq10 mq11 mq12 mq13 mq14 mq15 (xs 1) rfl (by omega) H locs ls (hP.sub [0, 4, 16, 17, 18, 19, 22, 25] rfl) (hD.sub [0, 4, 16, 17, 18, 19, 22, 25] (by decide) rfl) hS hl
set_option maxHeartbeats 4000000 in
set_option maxRecDepth 100000 in
theorem law_sel_9 {p : Program} {l : Launch} {e : Env} {s : State} {m9 : MethodId} {below : List Frame} {meth : Method} {c : Code} {g : G9} {b : Nat} {xs : Nat → Int32} (hlt : l.stackTraces = false) (C0 : lw_At p s m9 meth c b 4 xs) (hE : EE g (fun q : Nat => s.heap.size ≤ q) s) (x m o xq1 xq2 xq4 xq5 xq12 xq22 xq23 xq24 xq25 xq20 xq13 xq14 xq26 xq3 xq27 xq16 xq17 xq18 xq19 xq6 xq8 xq10 xq7 xq9 xq11 xq28 xq15 xq29 xq30 xq31 xq32 xq33 xq34 xq35 xq36 xq37 xq38 xq39 xq40 xq41 xq21 mq1 mq2 mq3 mq4 mq5 mq6 mq16 mq7 mq8 mq9 mq10 mq11 mq12 mq13 mq14 mq15 : Nat) : ∀ (H : Heap) (locs : List Loc) (ls : Array Slot), va_P g.1 vwCl (wld9 g x m o xq1 xq2 xq4 xq5 xq12 xq22 xq23 xq24 xq25 xq20 xq13 xq14 xq26 xq3 xq27 xq16 xq17 xq18 xq19 xq6 xq8 xq10 xq7 xq9 xq11 xq28 xq15 xq29 xq30 xq31 xq32 xq33 xq34 xq35 xq36 xq37 xq38 xq39 xq40 xq41 xq21 mq1 mq2 mq3 mq4 mq5 mq6 mq16 mq7 mq8 mq9 mq10 mq11 mq12 mq13 mq14 mq15) H → va_D (fun q : Nat => s.heap.size ≤ q) (wld9 g x m o xq1 xq2 xq4 xq5 xq12 xq22 xq23 xq24 xq25 xq20 xq13 xq14 xq26 xq3 xq27 xq16 xq17 xq18 xq19 xq6 xq8 xq10 xq7 xq9 xq11 xq28 xq15 xq29 xq30 xq31 xq32 xq33 xq34 xq35 xq36 xq37 xq38 xq39 xq40 xq41 xq21 mq1 mq2 mq3 mq4 mq5 mq6 mq16 mq7 mq8 mq9 mq10 mq11 mq12 mq13 mq14 mq15) → va_S (fun q : Nat => s.heap.size ≤ q) s.heap H locs → lv_has ls 7 [(0, .ref b), (1, .ref x), (2, .ref m), (3, .ref o), (4, .int 0)] → W p l e room_1 s m9 #[Value.ref b] below meth c H locs 106 7589 (lw_Z below #[Value.ref b] s) (F0 m9 480 ls []) := by
  intro H locs ls hP hD hS hl
  have q1 := i9_bd (xs 1)
  have q2 := i9_bd (xs 2)
  have q3 := i9_bd (xs 3)
  rcases (show ((-2147483648) ≤ (xs 1).toInt ∧ (xs 1).toInt ≤ 0) ∨ (1 ≤ (xs 1).toInt ∧ (xs 1).toInt ≤ 250) ∨ (251 ≤ (xs 1).toInt ∧ (xs 1).toInt ≤ 2147483647) by omega) with h1 | h1 | h1
  · have z1 := h1
    exact law_9_n hlt C0 hE x m o xq1 xq2 xq4 xq5 xq12 xq22 xq23 xq24 xq25 xq20 xq13 xq14 xq26 mq1 mq2 mq3 mq4 mq5 mq6 mq16 mq7 mq8 mq9 mq10 mq11 mq12 mq13 mq14 mq15 (xs 1) rfl (by omega) H locs ls (hP.sub [0, 22] rfl) (hD.sub [0, 22] (by decide) rfl) hS hl
  · have z1 := h1
    exact law_9_i hlt C0 hE x m o xq1 xq2 xq4 xq5 xq12 xq22 xq23 xq24 xq25 xq20 xq13 xq14 xq26 mq1 mq2 mq3 mq4 mq5 mq6 mq16 mq7 mq8 mq9 mq10 mq11 mq12 mq13 mq14 mq15 (xs 1) rfl (by omega) H locs ls (hP.sub [0, 22, 39] rfl) (hD.sub [0, 22, 39] (by decide) rfl) hS hl
  · have z1 := h1
    exact law_9_b hlt C0 hE x m o xq1 xq2 xq4 xq5 xq12 xq22 xq23 xq24 xq25 xq20 xq13 xq14 xq26 mq1 mq2 mq3 mq4 mq5 mq6 mq16 mq7 mq8 mq9 mq10 mq11 mq12 mq13 mq14 mq15 (xs 1) rfl (by omega) H locs ls (hP.sub [0, 22] rfl) (hD.sub [0, 22] (by decide) rfl) hS hl
set_option maxHeartbeats 4000000 in
set_option maxRecDepth 100000 in
theorem law_sel_10 {p : Program} {l : Launch} {e : Env} {s : State} {m9 : MethodId} {below : List Frame} {meth : Method} {c : Code} {g : G9} {b : Nat} {xs : Nat → Int32} (hlt : l.stackTraces = false) (C0 : lw_At p s m9 meth c b 4 xs) (hE : EE g (fun q : Nat => s.heap.size ≤ q) s) (x m o xq1 xq2 xq4 xq5 xq12 xq22 xq23 xq24 xq25 xq20 xq13 xq14 xq26 xq3 xq27 xq16 xq17 xq18 xq19 xq6 xq8 xq10 xq7 xq9 xq11 xq28 xq15 xq29 xq30 xq31 xq32 xq33 xq34 xq35 xq36 xq37 xq38 xq39 xq40 xq41 xq21 mq1 mq2 mq3 mq4 mq5 mq6 mq16 mq7 mq8 mq9 mq10 mq11 mq12 mq13 mq14 mq15 : Nat) : ∀ (H : Heap) (locs : List Loc) (ls : Array Slot), va_P g.1 vwCl (wld9 g x m o xq1 xq2 xq4 xq5 xq12 xq22 xq23 xq24 xq25 xq20 xq13 xq14 xq26 xq3 xq27 xq16 xq17 xq18 xq19 xq6 xq8 xq10 xq7 xq9 xq11 xq28 xq15 xq29 xq30 xq31 xq32 xq33 xq34 xq35 xq36 xq37 xq38 xq39 xq40 xq41 xq21 mq1 mq2 mq3 mq4 mq5 mq6 mq16 mq7 mq8 mq9 mq10 mq11 mq12 mq13 mq14 mq15) H → va_D (fun q : Nat => s.heap.size ≤ q) (wld9 g x m o xq1 xq2 xq4 xq5 xq12 xq22 xq23 xq24 xq25 xq20 xq13 xq14 xq26 xq3 xq27 xq16 xq17 xq18 xq19 xq6 xq8 xq10 xq7 xq9 xq11 xq28 xq15 xq29 xq30 xq31 xq32 xq33 xq34 xq35 xq36 xq37 xq38 xq39 xq40 xq41 xq21 mq1 mq2 mq3 mq4 mq5 mq6 mq16 mq7 mq8 mq9 mq10 mq11 mq12 mq13 mq14 mq15) → va_S (fun q : Nat => s.heap.size ≤ q) s.heap H locs → lv_has ls 7 [(0, .ref b), (1, .ref x), (2, .ref m), (3, .ref o), (4, .int 0)] → W p l e room_1 s m9 #[Value.ref b] below meth c H locs 106 7589 (lw_Z below #[Value.ref b] s) (F0 m9 536 ls []) := by
  intro H locs ls hP hD hS hl
  have q1 := i9_bd (xs 1)
  have q2 := i9_bd (xs 2)
  have q3 := i9_bd (xs 3)
  rcases (show ((-2147483648) ≤ (xs 1).toInt ∧ (xs 1).toInt ≤ (-1)) ∨ (4 ≤ (xs 1).toInt ∧ (xs 1).toInt ≤ 2147483647) ∨ (0 ≤ (xs 1).toInt ∧ (xs 1).toInt ≤ 3) by omega) with h1 | h1 | h1
  · have z1 := h1
    exact law_10_n hlt C0 hE x m o xq1 xq2 xq4 xq5 xq12 xq22 xq23 xq24 xq25 xq20 xq13 xq14 xq26 mq1 mq2 mq3 mq4 mq5 mq6 mq16 mq7 mq8 mq9 mq10 mq11 mq12 mq13 mq14 mq15 (xs 1) rfl (by omega) (xs 2) rfl (by omega) H locs ls (hP.sub [0, 22] rfl) (hD.sub [0, 22] (by decide) rfl) hS hl
  · have z1 := h1
    exact law_10_b hlt C0 hE x m o xq1 xq2 xq4 xq5 xq12 xq22 xq23 xq24 xq25 xq20 xq13 xq14 xq26 mq1 mq2 mq3 mq4 mq5 mq6 mq16 mq7 mq8 mq9 mq10 mq11 mq12 mq13 mq14 mq15 (xs 1) rfl (by omega) (xs 2) rfl (by omega) H locs ls (hP.sub [0, 22] rfl) (hD.sub [0, 22] (by decide) rfl) hS hl
  · have z1 := h1
    rcases (show ((-2147483648) ≤ (xs 2).toInt ∧ (xs 2).toInt ≤ (-1)) ∨ (1 ≤ (xs 2).toInt ∧ (xs 2).toInt ≤ 2147483647) ∨ (xs 2).toInt = 0 by omega) with h2 | h2 | h2
    · have z2 := h2
      exact law_10_in hlt C0 hE x m o xq1 xq2 xq4 xq5 xq12 xq22 xq23 xq24 xq25 xq20 xq13 xq14 xq26 mq1 mq2 mq3 mq4 mq5 mq6 mq16 mq7 mq8 mq9 mq10 mq11 mq12 mq13 mq14 mq15 (xs 1) rfl (by omega) (xs 2) rfl (by omega) H locs ls (hP.sub [0, 22] rfl) (hD.sub [0, 22] (by decide) rfl) hS hl
    · have z2 := h2
      exact law_10_ip hlt C0 hE x m o xq1 xq2 xq4 xq5 xq12 xq22 xq23 xq24 xq25 xq20 xq13 xq14 xq26 xq3 xq27 mq1 mq2 mq3 mq4 mq5 mq6 mq16 mq7 mq8 mq9 mq10 mq11 mq12 mq13 mq14 mq15 (xs 1) rfl (by omega) (xs 2) rfl (by omega) H locs ls (hP.sub [0, 2, 3, 22] rfl) (hD.sub [0, 2, 3, 22] (by decide) rfl) hS hl
    · have z2 := h2
      have e2 : xs 2 = 0 := Int32.toInt_inj.mp (by rw [show (0 : Int32).toInt = 0 from by decide]; exact h2)
      exact law_10_iz hlt C0 hE x m o xq1 xq2 xq4 xq5 xq12 xq22 xq23 xq24 xq25 xq20 xq13 xq14 xq26 xq3 xq27 xq16 xq17 xq18 xq19 xq30 xq31 xq32 xq33 xq34 xq35 xq36 xq37 xq38 xq39 xq40 xq41 mq1 mq2 mq3 mq4 mq5 mq6 mq16 mq7 mq8 mq9 mq10 mq11 mq12 mq13 mq14 mq15 (xs 1) rfl (by omega) e2 H locs ls (hP.sub [0, 2, 3, 4, 16, 17, 18, 19, 22, 25] rfl) (hD.sub [0, 2, 3, 4, 16, 17, 18, 19, 22, 25] (by decide) rfl) hS hl
set_option maxHeartbeats 4000000 in
set_option maxRecDepth 100000 in
theorem law_sel_11 {p : Program} {l : Launch} {e : Env} {s : State} {m9 : MethodId} {below : List Frame} {meth : Method} {c : Code} {g : G9} {b : Nat} {xs : Nat → Int32} (hlt : l.stackTraces = false) (C0 : lw_At p s m9 meth c b 4 xs) (hE : EE g (fun q : Nat => s.heap.size ≤ q) s) (x m o xq1 xq2 xq4 xq5 xq12 xq22 xq23 xq24 xq25 xq20 xq13 xq14 xq26 xq3 xq27 xq16 xq17 xq18 xq19 xq6 xq8 xq10 xq7 xq9 xq11 xq28 xq15 xq29 xq30 xq31 xq32 xq33 xq34 xq35 xq36 xq37 xq38 xq39 xq40 xq41 xq21 mq1 mq2 mq3 mq4 mq5 mq6 mq16 mq7 mq8 mq9 mq10 mq11 mq12 mq13 mq14 mq15 : Nat) : ∀ (H : Heap) (locs : List Loc) (ls : Array Slot), va_P g.1 vwCl (wld9 g x m o xq1 xq2 xq4 xq5 xq12 xq22 xq23 xq24 xq25 xq20 xq13 xq14 xq26 xq3 xq27 xq16 xq17 xq18 xq19 xq6 xq8 xq10 xq7 xq9 xq11 xq28 xq15 xq29 xq30 xq31 xq32 xq33 xq34 xq35 xq36 xq37 xq38 xq39 xq40 xq41 xq21 mq1 mq2 mq3 mq4 mq5 mq6 mq16 mq7 mq8 mq9 mq10 mq11 mq12 mq13 mq14 mq15) H → va_D (fun q : Nat => s.heap.size ≤ q) (wld9 g x m o xq1 xq2 xq4 xq5 xq12 xq22 xq23 xq24 xq25 xq20 xq13 xq14 xq26 xq3 xq27 xq16 xq17 xq18 xq19 xq6 xq8 xq10 xq7 xq9 xq11 xq28 xq15 xq29 xq30 xq31 xq32 xq33 xq34 xq35 xq36 xq37 xq38 xq39 xq40 xq41 xq21 mq1 mq2 mq3 mq4 mq5 mq6 mq16 mq7 mq8 mq9 mq10 mq11 mq12 mq13 mq14 mq15) → va_S (fun q : Nat => s.heap.size ≤ q) s.heap H locs → lv_has ls 7 [(0, .ref b), (1, .ref x), (2, .ref m), (3, .ref o), (4, .int 0)] → W p l e room_1 s m9 #[Value.ref b] below meth c H locs 106 7589 (lw_Z below #[Value.ref b] s) (F0 m9 604 ls []) := by
  intro H locs ls hP hD hS hl
  have q1 := i9_bd (xs 1)
  have q2 := i9_bd (xs 2)
  have q3 := i9_bd (xs 3)
  rcases (show ((-2147483648) ≤ (xs 1).toInt ∧ (xs 1).toInt ≤ (-1)) ∨ (4 ≤ (xs 1).toInt ∧ (xs 1).toInt ≤ 2147483647) ∨ (0 ≤ (xs 1).toInt ∧ (xs 1).toInt ≤ 3) by omega) with h1 | h1 | h1
  · have z1 := h1
    exact law_11_n hlt C0 hE x m o xq1 xq2 xq4 xq5 xq12 xq22 xq23 xq24 xq25 xq20 xq13 xq14 xq26 mq1 mq2 mq3 mq4 mq5 mq6 mq16 mq7 mq8 mq9 mq10 mq11 mq12 mq13 mq14 mq15 (xs 1) rfl (by omega) (xs 2) rfl (by omega) H locs ls (hP.sub [0, 22] rfl) (hD.sub [0, 22] (by decide) rfl) hS hl
  · have z1 := h1
    exact law_11_b hlt C0 hE x m o xq1 xq2 xq4 xq5 xq12 xq22 xq23 xq24 xq25 xq20 xq13 xq14 xq26 mq1 mq2 mq3 mq4 mq5 mq6 mq16 mq7 mq8 mq9 mq10 mq11 mq12 mq13 mq14 mq15 (xs 1) rfl (by omega) (xs 2) rfl (by omega) H locs ls (hP.sub [0, 22] rfl) (hD.sub [0, 22] (by decide) rfl) hS hl
  · have z1 := h1
    rcases (show ((-2147483648) ≤ (xs 2).toInt ∧ (xs 2).toInt ≤ (-1)) ∨ (1 ≤ (xs 2).toInt ∧ (xs 2).toInt ≤ 2147483647) ∨ (xs 2).toInt = 0 by omega) with h2 | h2 | h2
    · have z2 := h2
      exact law_11_in hlt C0 hE x m o xq1 xq2 xq4 xq5 xq12 xq22 xq23 xq24 xq25 xq20 xq13 xq14 xq26 mq1 mq2 mq3 mq4 mq5 mq6 mq16 mq7 mq8 mq9 mq10 mq11 mq12 mq13 mq14 mq15 (xs 1) rfl (by omega) (xs 2) rfl (by omega) H locs ls (hP.sub [0, 22] rfl) (hD.sub [0, 22] (by decide) rfl) hS hl
    · have z2 := h2
      exact law_11_ip hlt C0 hE x m o xq1 xq2 xq4 xq5 xq12 xq22 xq23 xq24 xq25 xq20 xq13 xq14 xq26 xq3 xq27 mq1 mq2 mq3 mq4 mq5 mq6 mq16 mq7 mq8 mq9 mq10 mq11 mq12 mq13 mq14 mq15 (xs 1) rfl (by omega) (xs 2) rfl (by omega) H locs ls (hP.sub [0, 2, 3, 22] rfl) (hD.sub [0, 2, 3, 22] (by decide) rfl) hS hl
    · have z2 := h2
      have e2 : xs 2 = 0 := Int32.toInt_inj.mp (by rw [show (0 : Int32).toInt = 0 from by decide]; exact h2)
      exact law_11_iz hlt C0 hE x m o xq1 xq2 xq4 xq5 xq12 xq22 xq23 xq24 xq25 xq20 xq13 xq14 xq26 xq3 xq27 xq16 xq17 xq18 xq19 xq30 xq31 xq32 xq33 xq34 xq35 xq36 xq37 xq38 xq39 xq40 xq41 mq1 mq2 mq3 mq4 mq5 mq6 mq16 mq7 mq8 mq9 mq10 mq11 mq12 mq13 mq14 mq15 (xs 1) rfl (by omega) e2 H locs ls (hP.sub [0, 2, 3, 4, 16, 17, 18, 19, 22, 25] rfl) (hD.sub [0, 2, 3, 4, 16, 17, 18, 19, 22, 25] (by decide) rfl) hS hl
set_option maxHeartbeats 4000000 in
set_option maxRecDepth 100000 in
theorem law_sel_12 {p : Program} {l : Launch} {e : Env} {s : State} {m9 : MethodId} {below : List Frame} {meth : Method} {c : Code} {g : G9} {b : Nat} {xs : Nat → Int32} (hlt : l.stackTraces = false) (C0 : lw_At p s m9 meth c b 4 xs) (hE : EE g (fun q : Nat => s.heap.size ≤ q) s) (x m o xq1 xq2 xq4 xq5 xq12 xq22 xq23 xq24 xq25 xq20 xq13 xq14 xq26 xq3 xq27 xq16 xq17 xq18 xq19 xq6 xq8 xq10 xq7 xq9 xq11 xq28 xq15 xq29 xq30 xq31 xq32 xq33 xq34 xq35 xq36 xq37 xq38 xq39 xq40 xq41 xq21 mq1 mq2 mq3 mq4 mq5 mq6 mq16 mq7 mq8 mq9 mq10 mq11 mq12 mq13 mq14 mq15 : Nat) : ∀ (H : Heap) (locs : List Loc) (ls : Array Slot), va_P g.1 vwCl (wld9 g x m o xq1 xq2 xq4 xq5 xq12 xq22 xq23 xq24 xq25 xq20 xq13 xq14 xq26 xq3 xq27 xq16 xq17 xq18 xq19 xq6 xq8 xq10 xq7 xq9 xq11 xq28 xq15 xq29 xq30 xq31 xq32 xq33 xq34 xq35 xq36 xq37 xq38 xq39 xq40 xq41 xq21 mq1 mq2 mq3 mq4 mq5 mq6 mq16 mq7 mq8 mq9 mq10 mq11 mq12 mq13 mq14 mq15) H → va_D (fun q : Nat => s.heap.size ≤ q) (wld9 g x m o xq1 xq2 xq4 xq5 xq12 xq22 xq23 xq24 xq25 xq20 xq13 xq14 xq26 xq3 xq27 xq16 xq17 xq18 xq19 xq6 xq8 xq10 xq7 xq9 xq11 xq28 xq15 xq29 xq30 xq31 xq32 xq33 xq34 xq35 xq36 xq37 xq38 xq39 xq40 xq41 xq21 mq1 mq2 mq3 mq4 mq5 mq6 mq16 mq7 mq8 mq9 mq10 mq11 mq12 mq13 mq14 mq15) → va_S (fun q : Nat => s.heap.size ≤ q) s.heap H locs → lv_has ls 7 [(0, .ref b), (1, .ref x), (2, .ref m), (3, .ref o), (4, .int 0)] → W p l e room_1 s m9 #[Value.ref b] below meth c H locs 106 7589 (lw_Z below #[Value.ref b] s) (F0 m9 672 ls []) := by
  intro H locs ls hP hD hS hl
  have q1 := i9_bd (xs 1)
  have q2 := i9_bd (xs 2)
  have q3 := i9_bd (xs 3)
  rcases (show ((-2147483648) ≤ (xs 1).toInt ∧ (xs 1).toInt ≤ (-1)) ∨ (4 ≤ (xs 1).toInt ∧ (xs 1).toInt ≤ 2147483647) ∨ (0 ≤ (xs 1).toInt ∧ (xs 1).toInt ≤ 3) by omega) with h1 | h1 | h1
  · have z1 := h1
    exact law_12_n hlt C0 hE x m o xq1 xq2 xq4 xq5 xq12 xq22 xq23 xq24 xq25 xq20 xq13 xq14 xq26 mq1 mq2 mq3 mq4 mq5 mq6 mq16 mq7 mq8 mq9 mq10 mq11 mq12 mq13 mq14 mq15 (xs 1) rfl (by omega) (xs 2) rfl (by omega) H locs ls (hP.sub [0, 22] rfl) (hD.sub [0, 22] (by decide) rfl) hS hl
  · have z1 := h1
    exact law_12_b hlt C0 hE x m o xq1 xq2 xq4 xq5 xq12 xq22 xq23 xq24 xq25 xq20 xq13 xq14 xq26 mq1 mq2 mq3 mq4 mq5 mq6 mq16 mq7 mq8 mq9 mq10 mq11 mq12 mq13 mq14 mq15 (xs 1) rfl (by omega) (xs 2) rfl (by omega) H locs ls (hP.sub [0, 22] rfl) (hD.sub [0, 22] (by decide) rfl) hS hl
  · have z1 := h1
    rcases (show ((-2147483648) ≤ (xs 2).toInt ∧ (xs 2).toInt ≤ (-1)) ∨ (1 ≤ (xs 2).toInt ∧ (xs 2).toInt ≤ 2147483647) ∨ (xs 2).toInt = 0 by omega) with h2 | h2 | h2
    · have z2 := h2
      exact law_12_in hlt C0 hE x m o xq1 xq2 xq4 xq5 xq12 xq22 xq23 xq24 xq25 xq20 xq13 xq14 xq26 mq1 mq2 mq3 mq4 mq5 mq6 mq16 mq7 mq8 mq9 mq10 mq11 mq12 mq13 mq14 mq15 (xs 1) rfl (by omega) (xs 2) rfl (by omega) H locs ls (hP.sub [0, 22] rfl) (hD.sub [0, 22] (by decide) rfl) hS hl
    · have z2 := h2
      exact law_12_ip hlt C0 hE x m o xq1 xq2 xq4 xq5 xq12 xq22 xq23 xq24 xq25 xq20 xq13 xq14 xq26 xq3 xq27 mq1 mq2 mq3 mq4 mq5 mq6 mq16 mq7 mq8 mq9 mq10 mq11 mq12 mq13 mq14 mq15 (xs 1) rfl (by omega) (xs 2) rfl (by omega) H locs ls (hP.sub [0, 2, 3, 22] rfl) (hD.sub [0, 2, 3, 22] (by decide) rfl) hS hl
    · have z2 := h2
      have e2 : xs 2 = 0 := Int32.toInt_inj.mp (by rw [show (0 : Int32).toInt = 0 from by decide]; exact h2)
      exact law_12_iz hlt C0 hE x m o xq1 xq2 xq4 xq5 xq12 xq22 xq23 xq24 xq25 xq20 xq13 xq14 xq26 xq3 xq27 xq16 xq17 xq18 xq19 xq30 xq31 xq32 xq33 xq34 xq35 xq36 xq37 xq38 xq39 xq40 xq41 mq1 mq2 mq3 mq4 mq5 mq6 mq16 mq7 mq8 mq9 mq10 mq11 mq12 mq13 mq14 mq15 (xs 1) rfl (by omega) e2 H locs ls (hP.sub [0, 2, 3, 4, 16, 17, 18, 19, 22, 25] rfl) (hD.sub [0, 2, 3, 4, 16, 17, 18, 19, 22, 25] (by decide) rfl) hS hl
set_option maxHeartbeats 4000000 in
set_option maxRecDepth 100000 in
theorem law_sel_13 {p : Program} {l : Launch} {e : Env} {s : State} {m9 : MethodId} {below : List Frame} {meth : Method} {c : Code} {g : G9} {b : Nat} {xs : Nat → Int32} (hlt : l.stackTraces = false) (C0 : lw_At p s m9 meth c b 4 xs) (hE : EE g (fun q : Nat => s.heap.size ≤ q) s) (x m o xq1 xq2 xq4 xq5 xq12 xq22 xq23 xq24 xq25 xq20 xq13 xq14 xq26 xq3 xq27 xq16 xq17 xq18 xq19 xq6 xq8 xq10 xq7 xq9 xq11 xq28 xq15 xq29 xq30 xq31 xq32 xq33 xq34 xq35 xq36 xq37 xq38 xq39 xq40 xq41 xq21 mq1 mq2 mq3 mq4 mq5 mq6 mq16 mq7 mq8 mq9 mq10 mq11 mq12 mq13 mq14 mq15 : Nat) : ∀ (H : Heap) (locs : List Loc) (ls : Array Slot), va_P g.1 vwCl (wld9 g x m o xq1 xq2 xq4 xq5 xq12 xq22 xq23 xq24 xq25 xq20 xq13 xq14 xq26 xq3 xq27 xq16 xq17 xq18 xq19 xq6 xq8 xq10 xq7 xq9 xq11 xq28 xq15 xq29 xq30 xq31 xq32 xq33 xq34 xq35 xq36 xq37 xq38 xq39 xq40 xq41 xq21 mq1 mq2 mq3 mq4 mq5 mq6 mq16 mq7 mq8 mq9 mq10 mq11 mq12 mq13 mq14 mq15) H → va_D (fun q : Nat => s.heap.size ≤ q) (wld9 g x m o xq1 xq2 xq4 xq5 xq12 xq22 xq23 xq24 xq25 xq20 xq13 xq14 xq26 xq3 xq27 xq16 xq17 xq18 xq19 xq6 xq8 xq10 xq7 xq9 xq11 xq28 xq15 xq29 xq30 xq31 xq32 xq33 xq34 xq35 xq36 xq37 xq38 xq39 xq40 xq41 xq21 mq1 mq2 mq3 mq4 mq5 mq6 mq16 mq7 mq8 mq9 mq10 mq11 mq12 mq13 mq14 mq15) → va_S (fun q : Nat => s.heap.size ≤ q) s.heap H locs → lv_has ls 7 [(0, .ref b), (1, .ref x), (2, .ref m), (3, .ref o), (4, .int 0)] → W p l e room_1 s m9 #[Value.ref b] below meth c H locs 106 7589 (lw_Z below #[Value.ref b] s) (F0 m9 740 ls []) := by
  intro H locs ls hP hD hS hl
  have q1 := i9_bd (xs 1)
  have q2 := i9_bd (xs 2)
  have q3 := i9_bd (xs 3)
  rcases (show ((-2147483648) ≤ (xs 1).toInt ∧ (xs 1).toInt ≤ (-1)) ∨ (7 ≤ (xs 1).toInt ∧ (xs 1).toInt ≤ 2147483647) ∨ (xs 1).toInt = 0 ∨ (xs 1).toInt = 1 ∨ (xs 1).toInt = 2 ∨ (xs 1).toInt = 3 ∨ (xs 1).toInt = 4 ∨ (xs 1).toInt = 5 ∨ (xs 1).toInt = 6 by omega) with h1 | h1 | h1 | h1 | h1 | h1 | h1 | h1 | h1
  · have z1 := h1
    rcases (show ((-2147483648) ≤ (xs 2).toInt ∧ (xs 2).toInt ≤ (-1)) ∨ (xs 2).toInt = 0 ∨ (1 ≤ (xs 2).toInt ∧ (xs 2).toInt ≤ 2147483647) by omega) with h2 | h2 | h2
    · have z2 := h2
      exact law_13_nn hlt C0 hE x m o xq1 xq2 xq4 xq5 xq12 xq22 xq23 xq24 xq25 xq20 xq13 xq14 xq26 mq1 mq2 mq3 mq4 mq5 mq6 mq16 mq7 mq8 mq9 mq10 mq11 mq12 mq13 mq14 mq15 (xs 1) rfl (by omega) (xs 2) rfl (by omega) H locs ls (hP.sub [0, 22] rfl) (hD.sub [0, 22] (by decide) rfl) hS hl
    · have z2 := h2
      have e2 : xs 2 = 0 := Int32.toInt_inj.mp (by rw [show (0 : Int32).toInt = 0 from by decide]; exact h2)
      exact law_13_nz hlt C0 hE x m o xq1 xq2 xq4 xq5 xq12 xq22 xq23 xq24 xq25 xq20 xq13 xq14 xq26 mq1 mq2 mq3 mq4 mq5 mq6 mq16 mq7 mq8 mq9 mq10 mq11 mq12 mq13 mq14 mq15 (xs 1) rfl (by omega) e2 H locs ls (hP.sub [0, 22] rfl) (hD.sub [0, 22] (by decide) rfl) hS hl
    · have z2 := h2
      exact law_13_np hlt C0 hE x m o xq1 xq2 xq4 xq5 xq12 xq22 xq23 xq24 xq25 xq20 xq13 xq14 xq26 mq1 mq2 mq3 mq4 mq5 mq6 mq16 mq7 mq8 mq9 mq10 mq11 mq12 mq13 mq14 mq15 (xs 1) rfl (by omega) (xs 2) rfl (by omega) H locs ls (hP.sub [0, 22] rfl) (hD.sub [0, 22] (by decide) rfl) hS hl
  · have z1 := h1
    rcases (show ((-2147483648) ≤ (xs 2).toInt ∧ (xs 2).toInt ≤ (-1)) ∨ (xs 2).toInt = 0 ∨ (1 ≤ (xs 2).toInt ∧ (xs 2).toInt ≤ 2147483647) by omega) with h2 | h2 | h2
    · have z2 := h2
      exact law_13_bn hlt C0 hE x m o xq1 xq2 xq4 xq5 xq12 xq22 xq23 xq24 xq25 xq20 xq13 xq14 xq26 mq1 mq2 mq3 mq4 mq5 mq6 mq16 mq7 mq8 mq9 mq10 mq11 mq12 mq13 mq14 mq15 (xs 1) rfl (by omega) (xs 2) rfl (by omega) H locs ls (hP.sub [0, 22] rfl) (hD.sub [0, 22] (by decide) rfl) hS hl
    · have z2 := h2
      have e2 : xs 2 = 0 := Int32.toInt_inj.mp (by rw [show (0 : Int32).toInt = 0 from by decide]; exact h2)
      exact law_13_bz hlt C0 hE x m o xq1 xq2 xq4 xq5 xq12 xq22 xq23 xq24 xq25 xq20 xq13 xq14 xq26 mq1 mq2 mq3 mq4 mq5 mq6 mq16 mq7 mq8 mq9 mq10 mq11 mq12 mq13 mq14 mq15 (xs 1) rfl (by omega) e2 H locs ls (hP.sub [0, 22] rfl) (hD.sub [0, 22] (by decide) rfl) hS hl
    · have z2 := h2
      exact law_13_bp hlt C0 hE x m o xq1 xq2 xq4 xq5 xq12 xq22 xq23 xq24 xq25 xq20 xq13 xq14 xq26 mq1 mq2 mq3 mq4 mq5 mq6 mq16 mq7 mq8 mq9 mq10 mq11 mq12 mq13 mq14 mq15 (xs 1) rfl (by omega) (xs 2) rfl (by omega) H locs ls (hP.sub [0, 22] rfl) (hD.sub [0, 22] (by decide) rfl) hS hl
  · have z1 := h1
    have e1 : xs 1 = 0 := Int32.toInt_inj.mp (by rw [show (0 : Int32).toInt = 0 from by decide]; exact h1)
    rcases (show ((-2147483648) ≤ (xs 2).toInt ∧ (xs 2).toInt ≤ (-1)) ∨ (xs 2).toInt = 0 ∨ (1 ≤ (xs 2).toInt ∧ (xs 2).toInt ≤ 2147483647) by omega) with h2 | h2 | h2
    · have z2 := h2
      exact law_13_g0n hlt C0 hE x m o xq1 xq2 xq4 xq5 xq12 xq22 xq23 xq24 xq25 xq20 xq13 xq14 xq26 xq21 mq1 mq2 mq3 mq4 mq5 mq6 mq16 mq7 mq8 mq9 mq10 mq11 mq12 mq13 mq14 mq15 e1 (xs 2) rfl (by omega) H locs ls (hP.sub [0, 20, 21, 22, 38, 39] rfl) (hD.sub [0, 20, 21, 22, 38, 39] (by decide) rfl) hS hl
    · have z2 := h2
      have e2 : xs 2 = 0 := Int32.toInt_inj.mp (by rw [show (0 : Int32).toInt = 0 from by decide]; exact h2)
      exact law_13_g0z hlt C0 hE x m o xq1 xq2 xq4 xq5 xq12 xq22 xq23 xq24 xq25 xq20 xq13 xq14 xq26 xq21 mq1 mq2 mq3 mq4 mq5 mq6 mq16 mq7 mq8 mq9 mq10 mq11 mq12 mq13 mq14 mq15 e1 e2 H locs ls (hP.sub [0, 20, 21, 22, 38, 39] rfl) (hD.sub [0, 20, 21, 22, 38, 39] (by decide) rfl) hS hl
    · have z2 := h2
      exact law_13_g0p hlt C0 hE x m o xq1 xq2 xq4 xq5 xq12 xq22 xq23 xq24 xq25 xq20 xq13 xq14 xq26 xq21 mq1 mq2 mq3 mq4 mq5 mq6 mq16 mq7 mq8 mq9 mq10 mq11 mq12 mq13 mq14 mq15 e1 (xs 2) rfl (by omega) H locs ls (hP.sub [0, 20, 21, 22, 38, 39] rfl) (hD.sub [0, 20, 21, 22, 38, 39] (by decide) rfl) hS hl
  · have z1 := h1
    have e1 : xs 1 = 1 := Int32.toInt_inj.mp (by rw [show (1 : Int32).toInt = 1 from by decide]; exact h1)
    rcases (show ((-2147483648) ≤ (xs 2).toInt ∧ (xs 2).toInt ≤ (-1)) ∨ (xs 2).toInt = 0 ∨ (1 ≤ (xs 2).toInt ∧ (xs 2).toInt ≤ 2147483647) by omega) with h2 | h2 | h2
    · have z2 := h2
      exact law_13_g1n hlt C0 hE x m o xq1 xq2 xq4 xq5 xq12 xq22 xq23 xq24 xq25 xq20 xq13 xq14 xq26 xq21 mq1 mq2 mq3 mq4 mq5 mq6 mq16 mq7 mq8 mq9 mq10 mq11 mq12 mq13 mq14 mq15 e1 (xs 2) rfl (by omega) H locs ls (hP.sub [0, 20, 21, 22, 38, 39] rfl) (hD.sub [0, 20, 21, 22, 38, 39] (by decide) rfl) hS hl
    · have z2 := h2
      have e2 : xs 2 = 0 := Int32.toInt_inj.mp (by rw [show (0 : Int32).toInt = 0 from by decide]; exact h2)
      exact law_13_g1z hlt C0 hE x m o xq1 xq2 xq4 xq5 xq12 xq22 xq23 xq24 xq25 xq20 xq13 xq14 xq26 xq21 mq1 mq2 mq3 mq4 mq5 mq6 mq16 mq7 mq8 mq9 mq10 mq11 mq12 mq13 mq14 mq15 e1 e2 H locs ls (hP.sub [0, 20, 21, 22, 38, 39] rfl) (hD.sub [0, 20, 21, 22, 38, 39] (by decide) rfl) hS hl
    · have z2 := h2
      exact law_13_g1p hlt C0 hE x m o xq1 xq2 xq4 xq5 xq12 xq22 xq23 xq24 xq25 xq20 xq13 xq14 xq26 xq21 mq1 mq2 mq3 mq4 mq5 mq6 mq16 mq7 mq8 mq9 mq10 mq11 mq12 mq13 mq14 mq15 e1 (xs 2) rfl (by omega) H locs ls (hP.sub [0, 20, 21, 22, 38, 39] rfl) (hD.sub [0, 20, 21, 22, 38, 39] (by decide) rfl) hS hl
  · have z1 := h1
    have e1 : xs 1 = 2 := Int32.toInt_inj.mp (by rw [show (2 : Int32).toInt = 2 from by decide]; exact h1)
    rcases (show ((-2147483648) ≤ (xs 2).toInt ∧ (xs 2).toInt ≤ (-1)) ∨ (xs 2).toInt = 0 ∨ (1 ≤ (xs 2).toInt ∧ (xs 2).toInt ≤ 2147483647) by omega) with h2 | h2 | h2
    · have z2 := h2
      exact law_13_g2n hlt C0 hE x m o xq1 xq2 xq4 xq5 xq12 xq22 xq23 xq24 xq25 xq20 xq13 xq14 xq26 xq21 mq1 mq2 mq3 mq4 mq5 mq6 mq16 mq7 mq8 mq9 mq10 mq11 mq12 mq13 mq14 mq15 e1 (xs 2) rfl (by omega) H locs ls (hP.sub [0, 20, 21, 22, 38, 39] rfl) (hD.sub [0, 20, 21, 22, 38, 39] (by decide) rfl) hS hl
    · have z2 := h2
      have e2 : xs 2 = 0 := Int32.toInt_inj.mp (by rw [show (0 : Int32).toInt = 0 from by decide]; exact h2)
      exact law_13_g2z hlt C0 hE x m o xq1 xq2 xq4 xq5 xq12 xq22 xq23 xq24 xq25 xq20 xq13 xq14 xq26 xq21 mq1 mq2 mq3 mq4 mq5 mq6 mq16 mq7 mq8 mq9 mq10 mq11 mq12 mq13 mq14 mq15 e1 e2 H locs ls (hP.sub [0, 20, 21, 22, 38, 39] rfl) (hD.sub [0, 20, 21, 22, 38, 39] (by decide) rfl) hS hl
    · have z2 := h2
      exact law_13_g2p hlt C0 hE x m o xq1 xq2 xq4 xq5 xq12 xq22 xq23 xq24 xq25 xq20 xq13 xq14 xq26 xq21 mq1 mq2 mq3 mq4 mq5 mq6 mq16 mq7 mq8 mq9 mq10 mq11 mq12 mq13 mq14 mq15 e1 (xs 2) rfl (by omega) H locs ls (hP.sub [0, 20, 21, 22, 38, 39] rfl) (hD.sub [0, 20, 21, 22, 38, 39] (by decide) rfl) hS hl
  · have z1 := h1
    have e1 : xs 1 = 3 := Int32.toInt_inj.mp (by rw [show (3 : Int32).toInt = 3 from by decide]; exact h1)
    rcases (show ((-2147483648) ≤ (xs 2).toInt ∧ (xs 2).toInt ≤ (-1)) ∨ (xs 2).toInt = 0 ∨ (1 ≤ (xs 2).toInt ∧ (xs 2).toInt ≤ 2147483647) by omega) with h2 | h2 | h2
    · have z2 := h2
      exact law_13_g3n hlt C0 hE x m o xq1 xq2 xq4 xq5 xq12 xq22 xq23 xq24 xq25 xq20 xq13 xq14 xq26 xq21 mq1 mq2 mq3 mq4 mq5 mq6 mq16 mq7 mq8 mq9 mq10 mq11 mq12 mq13 mq14 mq15 e1 (xs 2) rfl (by omega) H locs ls (hP.sub [0, 20, 21, 22, 38, 39] rfl) (hD.sub [0, 20, 21, 22, 38, 39] (by decide) rfl) hS hl
    · have z2 := h2
      have e2 : xs 2 = 0 := Int32.toInt_inj.mp (by rw [show (0 : Int32).toInt = 0 from by decide]; exact h2)
      exact law_13_g3z hlt C0 hE x m o xq1 xq2 xq4 xq5 xq12 xq22 xq23 xq24 xq25 xq20 xq13 xq14 xq26 xq21 mq1 mq2 mq3 mq4 mq5 mq6 mq16 mq7 mq8 mq9 mq10 mq11 mq12 mq13 mq14 mq15 e1 e2 H locs ls (hP.sub [0, 20, 21, 22, 38, 39] rfl) (hD.sub [0, 20, 21, 22, 38, 39] (by decide) rfl) hS hl
    · have z2 := h2
      exact law_13_g3p hlt C0 hE x m o xq1 xq2 xq4 xq5 xq12 xq22 xq23 xq24 xq25 xq20 xq13 xq14 xq26 xq21 mq1 mq2 mq3 mq4 mq5 mq6 mq16 mq7 mq8 mq9 mq10 mq11 mq12 mq13 mq14 mq15 e1 (xs 2) rfl (by omega) H locs ls (hP.sub [0, 20, 21, 22, 38, 39] rfl) (hD.sub [0, 20, 21, 22, 38, 39] (by decide) rfl) hS hl
  · have z1 := h1
    have e1 : xs 1 = 4 := Int32.toInt_inj.mp (by rw [show (4 : Int32).toInt = 4 from by decide]; exact h1)
    rcases (show ((-2147483648) ≤ (xs 2).toInt ∧ (xs 2).toInt ≤ (-1)) ∨ (xs 2).toInt = 0 ∨ (1 ≤ (xs 2).toInt ∧ (xs 2).toInt ≤ 2147483647) by omega) with h2 | h2 | h2
    · have z2 := h2
      exact law_13_g4n hlt C0 hE x m o xq1 xq2 xq4 xq5 xq12 xq22 xq23 xq24 xq25 xq20 xq13 xq14 xq26 xq21 mq1 mq2 mq3 mq4 mq5 mq6 mq16 mq7 mq8 mq9 mq10 mq11 mq12 mq13 mq14 mq15 e1 (xs 2) rfl (by omega) H locs ls (hP.sub [0, 20, 21, 22, 38, 39] rfl) (hD.sub [0, 20, 21, 22, 38, 39] (by decide) rfl) hS hl
    · have z2 := h2
      have e2 : xs 2 = 0 := Int32.toInt_inj.mp (by rw [show (0 : Int32).toInt = 0 from by decide]; exact h2)
      exact law_13_g4z hlt C0 hE x m o xq1 xq2 xq4 xq5 xq12 xq22 xq23 xq24 xq25 xq20 xq13 xq14 xq26 xq21 mq1 mq2 mq3 mq4 mq5 mq6 mq16 mq7 mq8 mq9 mq10 mq11 mq12 mq13 mq14 mq15 e1 e2 H locs ls (hP.sub [0, 20, 21, 22, 38, 39] rfl) (hD.sub [0, 20, 21, 22, 38, 39] (by decide) rfl) hS hl
    · have z2 := h2
      exact law_13_g4p hlt C0 hE x m o xq1 xq2 xq4 xq5 xq12 xq22 xq23 xq24 xq25 xq20 xq13 xq14 xq26 xq21 mq1 mq2 mq3 mq4 mq5 mq6 mq16 mq7 mq8 mq9 mq10 mq11 mq12 mq13 mq14 mq15 e1 (xs 2) rfl (by omega) H locs ls (hP.sub [0, 20, 21, 22, 38, 39] rfl) (hD.sub [0, 20, 21, 22, 38, 39] (by decide) rfl) hS hl
  · have z1 := h1
    have e1 : xs 1 = 5 := Int32.toInt_inj.mp (by rw [show (5 : Int32).toInt = 5 from by decide]; exact h1)
    rcases (show ((-2147483648) ≤ (xs 2).toInt ∧ (xs 2).toInt ≤ (-1)) ∨ (xs 2).toInt = 0 ∨ (1 ≤ (xs 2).toInt ∧ (xs 2).toInt ≤ 2147483647) by omega) with h2 | h2 | h2
    · have z2 := h2
      exact law_13_g5n hlt C0 hE x m o xq1 xq2 xq4 xq5 xq12 xq22 xq23 xq24 xq25 xq20 xq13 xq14 xq26 xq21 mq1 mq2 mq3 mq4 mq5 mq6 mq16 mq7 mq8 mq9 mq10 mq11 mq12 mq13 mq14 mq15 e1 (xs 2) rfl (by omega) H locs ls (hP.sub [0, 20, 21, 22, 38, 39] rfl) (hD.sub [0, 20, 21, 22, 38, 39] (by decide) rfl) hS hl
    · have z2 := h2
      have e2 : xs 2 = 0 := Int32.toInt_inj.mp (by rw [show (0 : Int32).toInt = 0 from by decide]; exact h2)
      exact law_13_g5z hlt C0 hE x m o xq1 xq2 xq4 xq5 xq12 xq22 xq23 xq24 xq25 xq20 xq13 xq14 xq26 xq21 mq1 mq2 mq3 mq4 mq5 mq6 mq16 mq7 mq8 mq9 mq10 mq11 mq12 mq13 mq14 mq15 e1 e2 H locs ls (hP.sub [0, 20, 21, 22, 38, 39] rfl) (hD.sub [0, 20, 21, 22, 38, 39] (by decide) rfl) hS hl
    · have z2 := h2
      exact law_13_g5p hlt C0 hE x m o xq1 xq2 xq4 xq5 xq12 xq22 xq23 xq24 xq25 xq20 xq13 xq14 xq26 xq21 mq1 mq2 mq3 mq4 mq5 mq6 mq16 mq7 mq8 mq9 mq10 mq11 mq12 mq13 mq14 mq15 e1 (xs 2) rfl (by omega) H locs ls (hP.sub [0, 20, 21, 22, 38, 39] rfl) (hD.sub [0, 20, 21, 22, 38, 39] (by decide) rfl) hS hl
  · have z1 := h1
    have e1 : xs 1 = 6 := Int32.toInt_inj.mp (by rw [show (6 : Int32).toInt = 6 from by decide]; exact h1)
    rcases (show ((-2147483648) ≤ (xs 2).toInt ∧ (xs 2).toInt ≤ (-1)) ∨ (xs 2).toInt = 0 ∨ (1 ≤ (xs 2).toInt ∧ (xs 2).toInt ≤ 2147483647) by omega) with h2 | h2 | h2
    · have z2 := h2
      exact law_13_g6n hlt C0 hE x m o xq1 xq2 xq4 xq5 xq12 xq22 xq23 xq24 xq25 xq20 xq13 xq14 xq26 xq21 mq1 mq2 mq3 mq4 mq5 mq6 mq16 mq7 mq8 mq9 mq10 mq11 mq12 mq13 mq14 mq15 e1 (xs 2) rfl (by omega) H locs ls (hP.sub [0, 20, 21, 22, 38, 39] rfl) (hD.sub [0, 20, 21, 22, 38, 39] (by decide) rfl) hS hl
    · have z2 := h2
      have e2 : xs 2 = 0 := Int32.toInt_inj.mp (by rw [show (0 : Int32).toInt = 0 from by decide]; exact h2)
      exact law_13_g6z hlt C0 hE x m o xq1 xq2 xq4 xq5 xq12 xq22 xq23 xq24 xq25 xq20 xq13 xq14 xq26 xq21 mq1 mq2 mq3 mq4 mq5 mq6 mq16 mq7 mq8 mq9 mq10 mq11 mq12 mq13 mq14 mq15 e1 e2 H locs ls (hP.sub [0, 20, 21, 22, 38, 39] rfl) (hD.sub [0, 20, 21, 22, 38, 39] (by decide) rfl) hS hl
    · have z2 := h2
      exact law_13_g6p hlt C0 hE x m o xq1 xq2 xq4 xq5 xq12 xq22 xq23 xq24 xq25 xq20 xq13 xq14 xq26 xq21 mq1 mq2 mq3 mq4 mq5 mq6 mq16 mq7 mq8 mq9 mq10 mq11 mq12 mq13 mq14 mq15 e1 (xs 2) rfl (by omega) H locs ls (hP.sub [0, 20, 21, 22, 38, 39] rfl) (hD.sub [0, 20, 21, 22, 38, 39] (by decide) rfl) hS hl
set_option maxHeartbeats 4000000 in
set_option maxRecDepth 100000 in
theorem law_sel_14 {p : Program} {l : Launch} {e : Env} {s : State} {m9 : MethodId} {below : List Frame} {meth : Method} {c : Code} {g : G9} {b : Nat} {xs : Nat → Int32} (hlt : l.stackTraces = false) (C0 : lw_At p s m9 meth c b 4 xs) (hE : EE g (fun q : Nat => s.heap.size ≤ q) s) (x m o xq1 xq2 xq4 xq5 xq12 xq22 xq23 xq24 xq25 xq20 xq13 xq14 xq26 xq3 xq27 xq16 xq17 xq18 xq19 xq6 xq8 xq10 xq7 xq9 xq11 xq28 xq15 xq29 xq30 xq31 xq32 xq33 xq34 xq35 xq36 xq37 xq38 xq39 xq40 xq41 xq21 mq1 mq2 mq3 mq4 mq5 mq6 mq16 mq7 mq8 mq9 mq10 mq11 mq12 mq13 mq14 mq15 : Nat) : ∀ (H : Heap) (locs : List Loc) (ls : Array Slot), va_P g.1 vwCl (wld9 g x m o xq1 xq2 xq4 xq5 xq12 xq22 xq23 xq24 xq25 xq20 xq13 xq14 xq26 xq3 xq27 xq16 xq17 xq18 xq19 xq6 xq8 xq10 xq7 xq9 xq11 xq28 xq15 xq29 xq30 xq31 xq32 xq33 xq34 xq35 xq36 xq37 xq38 xq39 xq40 xq41 xq21 mq1 mq2 mq3 mq4 mq5 mq6 mq16 mq7 mq8 mq9 mq10 mq11 mq12 mq13 mq14 mq15) H → va_D (fun q : Nat => s.heap.size ≤ q) (wld9 g x m o xq1 xq2 xq4 xq5 xq12 xq22 xq23 xq24 xq25 xq20 xq13 xq14 xq26 xq3 xq27 xq16 xq17 xq18 xq19 xq6 xq8 xq10 xq7 xq9 xq11 xq28 xq15 xq29 xq30 xq31 xq32 xq33 xq34 xq35 xq36 xq37 xq38 xq39 xq40 xq41 xq21 mq1 mq2 mq3 mq4 mq5 mq6 mq16 mq7 mq8 mq9 mq10 mq11 mq12 mq13 mq14 mq15) → va_S (fun q : Nat => s.heap.size ≤ q) s.heap H locs → lv_has ls 7 [(0, .ref b), (1, .ref x), (2, .ref m), (3, .ref o), (4, .int 0)] → W p l e room_1 s m9 #[Value.ref b] below meth c H locs 106 7589 (lw_Z below #[Value.ref b] s) (F0 m9 824 ls []) := by
  intro H locs ls hP hD hS hl
  have q1 := i9_bd (xs 1)
  have q2 := i9_bd (xs 2)
  have q3 := i9_bd (xs 3)
  exact law_14_a hlt C0 hE x m o xq1 xq2 xq4 xq5 xq12 xq22 xq23 xq24 xq25 xq20 xq13 xq14 xq26 mq1 mq2 mq3 mq4 mq5 mq6 mq16 mq7 mq8 mq9 mq10 mq11 mq12 mq13 mq14 mq15  H locs ls (hP.sub [0, 22] rfl) (hD.sub [0, 22] (by decide) rfl) hS hl
set_option maxHeartbeats 4000000 in
set_option maxRecDepth 100000 in
theorem law_sel_15 {p : Program} {l : Launch} {e : Env} {s : State} {m9 : MethodId} {below : List Frame} {meth : Method} {c : Code} {g : G9} {b : Nat} {xs : Nat → Int32} (hlt : l.stackTraces = false) (C0 : lw_At p s m9 meth c b 4 xs) (hE : EE g (fun q : Nat => s.heap.size ≤ q) s) (x m o xq1 xq2 xq4 xq5 xq12 xq22 xq23 xq24 xq25 xq20 xq13 xq14 xq26 xq3 xq27 xq16 xq17 xq18 xq19 xq6 xq8 xq10 xq7 xq9 xq11 xq28 xq15 xq29 xq30 xq31 xq32 xq33 xq34 xq35 xq36 xq37 xq38 xq39 xq40 xq41 xq21 mq1 mq2 mq3 mq4 mq5 mq6 mq16 mq7 mq8 mq9 mq10 mq11 mq12 mq13 mq14 mq15 : Nat) : ∀ (H : Heap) (locs : List Loc) (ls : Array Slot), va_P g.1 vwCl (wld9 g x m o xq1 xq2 xq4 xq5 xq12 xq22 xq23 xq24 xq25 xq20 xq13 xq14 xq26 xq3 xq27 xq16 xq17 xq18 xq19 xq6 xq8 xq10 xq7 xq9 xq11 xq28 xq15 xq29 xq30 xq31 xq32 xq33 xq34 xq35 xq36 xq37 xq38 xq39 xq40 xq41 xq21 mq1 mq2 mq3 mq4 mq5 mq6 mq16 mq7 mq8 mq9 mq10 mq11 mq12 mq13 mq14 mq15) H → va_D (fun q : Nat => s.heap.size ≤ q) (wld9 g x m o xq1 xq2 xq4 xq5 xq12 xq22 xq23 xq24 xq25 xq20 xq13 xq14 xq26 xq3 xq27 xq16 xq17 xq18 xq19 xq6 xq8 xq10 xq7 xq9 xq11 xq28 xq15 xq29 xq30 xq31 xq32 xq33 xq34 xq35 xq36 xq37 xq38 xq39 xq40 xq41 xq21 mq1 mq2 mq3 mq4 mq5 mq6 mq16 mq7 mq8 mq9 mq10 mq11 mq12 mq13 mq14 mq15) → va_S (fun q : Nat => s.heap.size ≤ q) s.heap H locs → lv_has ls 7 [(0, .ref b), (1, .ref x), (2, .ref m), (3, .ref o), (4, .int 0)] → W p l e room_1 s m9 #[Value.ref b] below meth c H locs 106 7589 (lw_Z below #[Value.ref b] s) (F0 m9 837 ls []) := by
  intro H locs ls hP hD hS hl
  have q1 := i9_bd (xs 1)
  have q2 := i9_bd (xs 2)
  have q3 := i9_bd (xs 3)
  rcases (show ((-2147483648) ≤ (xs 1).toInt ∧ (xs 1).toInt ≤ (-1)) ∨ (4 ≤ (xs 1).toInt ∧ (xs 1).toInt ≤ 2147483647) ∨ (0 ≤ (xs 1).toInt ∧ (xs 1).toInt ≤ 3) by omega) with h1 | h1 | h1
  · have z1 := h1
    exact law_15_n hlt C0 hE x m o xq1 xq2 xq4 xq5 xq12 xq22 xq23 xq24 xq25 xq20 xq13 xq14 xq26 mq1 mq2 mq3 mq4 mq5 mq6 mq16 mq7 mq8 mq9 mq10 mq11 mq12 mq13 mq14 mq15 (xs 1) rfl (by omega) (xs 2) rfl (by omega) H locs ls (hP.sub [0, 22] rfl) (hD.sub [0, 22] (by decide) rfl) hS hl
  · have z1 := h1
    exact law_15_b hlt C0 hE x m o xq1 xq2 xq4 xq5 xq12 xq22 xq23 xq24 xq25 xq20 xq13 xq14 xq26 mq1 mq2 mq3 mq4 mq5 mq6 mq16 mq7 mq8 mq9 mq10 mq11 mq12 mq13 mq14 mq15 (xs 1) rfl (by omega) (xs 2) rfl (by omega) H locs ls (hP.sub [0, 22] rfl) (hD.sub [0, 22] (by decide) rfl) hS hl
  · have z1 := h1
    rcases (show ((-2147483648) ≤ (xs 2).toInt ∧ (xs 2).toInt ≤ (-1)) ∨ (1 ≤ (xs 2).toInt ∧ (xs 2).toInt ≤ 2147483647) ∨ (xs 2).toInt = 0 by omega) with h2 | h2 | h2
    · have z2 := h2
      exact law_15_in hlt C0 hE x m o xq1 xq2 xq4 xq5 xq12 xq22 xq23 xq24 xq25 xq20 xq13 xq14 xq26 mq1 mq2 mq3 mq4 mq5 mq6 mq16 mq7 mq8 mq9 mq10 mq11 mq12 mq13 mq14 mq15 (xs 1) rfl (by omega) (xs 2) rfl (by omega) H locs ls (hP.sub [0, 22] rfl) (hD.sub [0, 22] (by decide) rfl) hS hl
    · have z2 := h2
      exact law_15_ip hlt C0 hE x m o xq1 xq2 xq4 xq5 xq12 xq22 xq23 xq24 xq25 xq20 xq13 xq14 xq26 xq3 xq27 mq1 mq2 mq3 mq4 mq5 mq6 mq16 mq7 mq8 mq9 mq10 mq11 mq12 mq13 mq14 mq15 (xs 1) rfl (by omega) (xs 2) rfl (by omega) H locs ls (hP.sub [0, 2, 3, 22] rfl) (hD.sub [0, 2, 3, 22] (by decide) rfl) hS hl
    · have z2 := h2
      have e2 : xs 2 = 0 := Int32.toInt_inj.mp (by rw [show (0 : Int32).toInt = 0 from by decide]; exact h2)
      exact law_15_iz hlt C0 hE x m o xq1 xq2 xq4 xq5 xq12 xq22 xq23 xq24 xq25 xq20 xq13 xq14 xq26 xq3 xq27 xq16 xq17 xq18 xq19 xq30 xq31 xq32 xq33 xq34 xq35 xq36 xq37 xq38 xq39 xq40 xq41 mq1 mq2 mq3 mq4 mq5 mq6 mq16 mq7 mq8 mq9 mq10 mq11 mq12 mq13 mq14 mq15 (xs 1) rfl (by omega) e2 H locs ls (hP.sub [0, 2, 3, 4, 16, 17, 18, 19, 22, 25] rfl) (hD.sub [0, 2, 3, 4, 16, 17, 18, 19, 22, 25] (by decide) rfl) hS hl
set_option maxHeartbeats 4000000 in
set_option maxRecDepth 100000 in
theorem law_sel_16 {p : Program} {l : Launch} {e : Env} {s : State} {m9 : MethodId} {below : List Frame} {meth : Method} {c : Code} {g : G9} {b : Nat} {xs : Nat → Int32} (hlt : l.stackTraces = false) (C0 : lw_At p s m9 meth c b 4 xs) (hE : EE g (fun q : Nat => s.heap.size ≤ q) s) (x m o xq1 xq2 xq4 xq5 xq12 xq22 xq23 xq24 xq25 xq20 xq13 xq14 xq26 xq3 xq27 xq16 xq17 xq18 xq19 xq6 xq8 xq10 xq7 xq9 xq11 xq28 xq15 xq29 xq30 xq31 xq32 xq33 xq34 xq35 xq36 xq37 xq38 xq39 xq40 xq41 xq21 mq1 mq2 mq3 mq4 mq5 mq6 mq16 mq7 mq8 mq9 mq10 mq11 mq12 mq13 mq14 mq15 : Nat) : ∀ (H : Heap) (locs : List Loc) (ls : Array Slot), va_P g.1 vwCl (wld9 g x m o xq1 xq2 xq4 xq5 xq12 xq22 xq23 xq24 xq25 xq20 xq13 xq14 xq26 xq3 xq27 xq16 xq17 xq18 xq19 xq6 xq8 xq10 xq7 xq9 xq11 xq28 xq15 xq29 xq30 xq31 xq32 xq33 xq34 xq35 xq36 xq37 xq38 xq39 xq40 xq41 xq21 mq1 mq2 mq3 mq4 mq5 mq6 mq16 mq7 mq8 mq9 mq10 mq11 mq12 mq13 mq14 mq15) H → va_D (fun q : Nat => s.heap.size ≤ q) (wld9 g x m o xq1 xq2 xq4 xq5 xq12 xq22 xq23 xq24 xq25 xq20 xq13 xq14 xq26 xq3 xq27 xq16 xq17 xq18 xq19 xq6 xq8 xq10 xq7 xq9 xq11 xq28 xq15 xq29 xq30 xq31 xq32 xq33 xq34 xq35 xq36 xq37 xq38 xq39 xq40 xq41 xq21 mq1 mq2 mq3 mq4 mq5 mq6 mq16 mq7 mq8 mq9 mq10 mq11 mq12 mq13 mq14 mq15) → va_S (fun q : Nat => s.heap.size ≤ q) s.heap H locs → lv_has ls 7 [(0, .ref b), (1, .ref x), (2, .ref m), (3, .ref o), (4, .int 0)] → W p l e room_1 s m9 #[Value.ref b] below meth c H locs 106 7589 (lw_Z below #[Value.ref b] s) (F0 m9 905 ls []) := by
  intro H locs ls hP hD hS hl
  have q1 := i9_bd (xs 1)
  have q2 := i9_bd (xs 2)
  have q3 := i9_bd (xs 3)
  rcases (show ((-2147483648) ≤ (xs 1).toInt ∧ (xs 1).toInt ≤ (-1)) ∨ (4 ≤ (xs 1).toInt ∧ (xs 1).toInt ≤ 2147483647) ∨ (0 ≤ (xs 1).toInt ∧ (xs 1).toInt ≤ 3) by omega) with h1 | h1 | h1
  · have z1 := h1
    exact law_16_n hlt C0 hE x m o xq1 xq2 xq4 xq5 xq12 xq22 xq23 xq24 xq25 xq20 xq13 xq14 xq26 mq1 mq2 mq3 mq4 mq5 mq6 mq16 mq7 mq8 mq9 mq10 mq11 mq12 mq13 mq14 mq15 (xs 1) rfl (by omega) (xs 2) rfl (by omega) H locs ls (hP.sub [0, 22] rfl) (hD.sub [0, 22] (by decide) rfl) hS hl
  · have z1 := h1
    exact law_16_b hlt C0 hE x m o xq1 xq2 xq4 xq5 xq12 xq22 xq23 xq24 xq25 xq20 xq13 xq14 xq26 mq1 mq2 mq3 mq4 mq5 mq6 mq16 mq7 mq8 mq9 mq10 mq11 mq12 mq13 mq14 mq15 (xs 1) rfl (by omega) (xs 2) rfl (by omega) H locs ls (hP.sub [0, 22] rfl) (hD.sub [0, 22] (by decide) rfl) hS hl
  · have z1 := h1
    rcases (show ((-2147483648) ≤ (xs 2).toInt ∧ (xs 2).toInt ≤ (-1)) ∨ (1 ≤ (xs 2).toInt ∧ (xs 2).toInt ≤ 2147483647) ∨ (xs 2).toInt = 0 by omega) with h2 | h2 | h2
    · have z2 := h2
      exact law_16_in hlt C0 hE x m o xq1 xq2 xq4 xq5 xq12 xq22 xq23 xq24 xq25 xq20 xq13 xq14 xq26 mq1 mq2 mq3 mq4 mq5 mq6 mq16 mq7 mq8 mq9 mq10 mq11 mq12 mq13 mq14 mq15 (xs 1) rfl (by omega) (xs 2) rfl (by omega) H locs ls (hP.sub [0, 22] rfl) (hD.sub [0, 22] (by decide) rfl) hS hl
    · have z2 := h2
      exact law_16_ip hlt C0 hE x m o xq1 xq2 xq4 xq5 xq12 xq22 xq23 xq24 xq25 xq20 xq13 xq14 xq26 xq3 xq27 mq1 mq2 mq3 mq4 mq5 mq6 mq16 mq7 mq8 mq9 mq10 mq11 mq12 mq13 mq14 mq15 (xs 1) rfl (by omega) (xs 2) rfl (by omega) H locs ls (hP.sub [0, 2, 3, 22] rfl) (hD.sub [0, 2, 3, 22] (by decide) rfl) hS hl
    · have z2 := h2
      have e2 : xs 2 = 0 := Int32.toInt_inj.mp (by rw [show (0 : Int32).toInt = 0 from by decide]; exact h2)
      exact law_16_iz hlt C0 hE x m o xq1 xq2 xq4 xq5 xq12 xq22 xq23 xq24 xq25 xq20 xq13 xq14 xq26 xq3 xq27 xq16 xq17 xq18 xq19 xq30 xq31 xq32 xq33 xq34 xq35 xq36 xq37 xq38 xq39 xq40 xq41 mq1 mq2 mq3 mq4 mq5 mq6 mq16 mq7 mq8 mq9 mq10 mq11 mq12 mq13 mq14 mq15 (xs 1) rfl (by omega) e2 H locs ls (hP.sub [0, 2, 3, 4, 16, 17, 18, 19, 22, 25] rfl) (hD.sub [0, 2, 3, 4, 16, 17, 18, 19, 22, 25] (by decide) rfl) hS hl
set_option maxHeartbeats 4000000 in
set_option maxRecDepth 100000 in
theorem law_sel_17 {p : Program} {l : Launch} {e : Env} {s : State} {m9 : MethodId} {below : List Frame} {meth : Method} {c : Code} {g : G9} {b : Nat} {xs : Nat → Int32} (hlt : l.stackTraces = false) (C0 : lw_At p s m9 meth c b 4 xs) (hE : EE g (fun q : Nat => s.heap.size ≤ q) s) (x m o xq1 xq2 xq4 xq5 xq12 xq22 xq23 xq24 xq25 xq20 xq13 xq14 xq26 xq3 xq27 xq16 xq17 xq18 xq19 xq6 xq8 xq10 xq7 xq9 xq11 xq28 xq15 xq29 xq30 xq31 xq32 xq33 xq34 xq35 xq36 xq37 xq38 xq39 xq40 xq41 xq21 mq1 mq2 mq3 mq4 mq5 mq6 mq16 mq7 mq8 mq9 mq10 mq11 mq12 mq13 mq14 mq15 : Nat) : ∀ (H : Heap) (locs : List Loc) (ls : Array Slot), va_P g.1 vwCl (wld9 g x m o xq1 xq2 xq4 xq5 xq12 xq22 xq23 xq24 xq25 xq20 xq13 xq14 xq26 xq3 xq27 xq16 xq17 xq18 xq19 xq6 xq8 xq10 xq7 xq9 xq11 xq28 xq15 xq29 xq30 xq31 xq32 xq33 xq34 xq35 xq36 xq37 xq38 xq39 xq40 xq41 xq21 mq1 mq2 mq3 mq4 mq5 mq6 mq16 mq7 mq8 mq9 mq10 mq11 mq12 mq13 mq14 mq15) H → va_D (fun q : Nat => s.heap.size ≤ q) (wld9 g x m o xq1 xq2 xq4 xq5 xq12 xq22 xq23 xq24 xq25 xq20 xq13 xq14 xq26 xq3 xq27 xq16 xq17 xq18 xq19 xq6 xq8 xq10 xq7 xq9 xq11 xq28 xq15 xq29 xq30 xq31 xq32 xq33 xq34 xq35 xq36 xq37 xq38 xq39 xq40 xq41 xq21 mq1 mq2 mq3 mq4 mq5 mq6 mq16 mq7 mq8 mq9 mq10 mq11 mq12 mq13 mq14 mq15) → va_S (fun q : Nat => s.heap.size ≤ q) s.heap H locs → lv_has ls 7 [(0, .ref b), (1, .ref x), (2, .ref m), (3, .ref o), (4, .int 0)] → W p l e room_1 s m9 #[Value.ref b] below meth c H locs 106 7589 (lw_Z below #[Value.ref b] s) (F0 m9 980 ls []) := by
  intro H locs ls hP hD hS hl
  have q1 := i9_bd (xs 1)
  have q2 := i9_bd (xs 2)
  have q3 := i9_bd (xs 3)
  rcases (show ((-2147483648) ≤ (xs 1).toInt ∧ (xs 1).toInt ≤ (-1)) ∨ (1 ≤ (xs 1).toInt ∧ (xs 1).toInt ≤ 2147483647) ∨ (xs 1).toInt = 0 by omega) with h1 | h1 | h1
  · have z1 := h1
    exact law_17_n hlt C0 hE x m o xq1 xq2 xq4 xq5 xq12 xq22 xq23 xq24 xq25 xq20 xq13 xq14 xq26 mq1 mq2 mq3 mq4 mq5 mq6 mq16 mq7 mq8 mq9 mq10 mq11 mq12 mq13 mq14 mq15 (xs 1) rfl (by omega) H locs ls (hP.sub [0, 22] rfl) (hD.sub [0, 22] (by decide) rfl) hS hl
  · have z1 := h1
    exact law_17_p hlt C0 hE x m o xq1 xq2 xq4 xq5 xq12 xq22 xq23 xq24 xq25 xq20 xq13 xq14 xq26 xq3 xq27 mq1 mq2 mq3 mq4 mq5 mq6 mq16 mq7 mq8 mq9 mq10 mq11 mq12 mq13 mq14 mq15 (xs 1) rfl (by omega) H locs ls (hP.sub [0, 2, 3, 22] rfl) (hD.sub [0, 2, 3, 22] (by decide) rfl) hS hl
  · have z1 := h1
    have e1 : xs 1 = 0 := Int32.toInt_inj.mp (by rw [show (0 : Int32).toInt = 0 from by decide]; exact h1)
    exact law_17_z hlt C0 hE x m o xq1 xq2 xq4 xq5 xq12 xq22 xq23 xq24 xq25 xq20 xq13 xq14 xq26 xq3 xq27 xq16 xq17 xq18 xq19 xq30 xq31 xq32 xq33 xq34 xq35 xq36 xq37 xq38 xq39 xq40 xq41 mq1 mq2 mq3 mq4 mq5 mq6 mq16 mq7 mq8 mq9 mq10 mq11 mq12 mq13 mq14 mq15 e1 H locs ls (hP.sub [0, 2, 3, 4, 16, 17, 18, 19, 22, 25, 39] rfl) (hD.sub [0, 2, 3, 4, 16, 17, 18, 19, 22, 25, 39] (by decide) rfl) hS hl
set_option maxHeartbeats 4000000 in
set_option maxRecDepth 100000 in
theorem law_sel_18 {p : Program} {l : Launch} {e : Env} {s : State} {m9 : MethodId} {below : List Frame} {meth : Method} {c : Code} {g : G9} {b : Nat} {xs : Nat → Int32} (hlt : l.stackTraces = false) (C0 : lw_At p s m9 meth c b 4 xs) (hE : EE g (fun q : Nat => s.heap.size ≤ q) s) (x m o xq1 xq2 xq4 xq5 xq12 xq22 xq23 xq24 xq25 xq20 xq13 xq14 xq26 xq3 xq27 xq16 xq17 xq18 xq19 xq6 xq8 xq10 xq7 xq9 xq11 xq28 xq15 xq29 xq30 xq31 xq32 xq33 xq34 xq35 xq36 xq37 xq38 xq39 xq40 xq41 xq21 mq1 mq2 mq3 mq4 mq5 mq6 mq16 mq7 mq8 mq9 mq10 mq11 mq12 mq13 mq14 mq15 : Nat) : ∀ (H : Heap) (locs : List Loc) (ls : Array Slot), va_P g.1 vwCl (wld9 g x m o xq1 xq2 xq4 xq5 xq12 xq22 xq23 xq24 xq25 xq20 xq13 xq14 xq26 xq3 xq27 xq16 xq17 xq18 xq19 xq6 xq8 xq10 xq7 xq9 xq11 xq28 xq15 xq29 xq30 xq31 xq32 xq33 xq34 xq35 xq36 xq37 xq38 xq39 xq40 xq41 xq21 mq1 mq2 mq3 mq4 mq5 mq6 mq16 mq7 mq8 mq9 mq10 mq11 mq12 mq13 mq14 mq15) H → va_D (fun q : Nat => s.heap.size ≤ q) (wld9 g x m o xq1 xq2 xq4 xq5 xq12 xq22 xq23 xq24 xq25 xq20 xq13 xq14 xq26 xq3 xq27 xq16 xq17 xq18 xq19 xq6 xq8 xq10 xq7 xq9 xq11 xq28 xq15 xq29 xq30 xq31 xq32 xq33 xq34 xq35 xq36 xq37 xq38 xq39 xq40 xq41 xq21 mq1 mq2 mq3 mq4 mq5 mq6 mq16 mq7 mq8 mq9 mq10 mq11 mq12 mq13 mq14 mq15) → va_S (fun q : Nat => s.heap.size ≤ q) s.heap H locs → lv_has ls 7 [(0, .ref b), (1, .ref x), (2, .ref m), (3, .ref o), (4, .int 0)] → W p l e room_1 s m9 #[Value.ref b] below meth c H locs 106 7589 (lw_Z below #[Value.ref b] s) (F0 m9 1036 ls []) := by
  intro H locs ls hP hD hS hl
  have q1 := i9_bd (xs 1)
  have q2 := i9_bd (xs 2)
  have q3 := i9_bd (xs 3)
  rcases (show ((-2147483648) ≤ (xs 1).toInt ∧ (xs 1).toInt ≤ (-1)) ∨ (4 ≤ (xs 1).toInt ∧ (xs 1).toInt ≤ 2147483647) ∨ (0 ≤ (xs 1).toInt ∧ (xs 1).toInt ≤ 3) by omega) with h1 | h1 | h1
  · have z1 := h1
    exact law_18_n hlt C0 hE x m o xq1 xq2 xq4 xq5 xq12 xq22 xq23 xq24 xq25 xq20 xq13 xq14 xq26 mq1 mq2 mq3 mq4 mq5 mq6 mq16 mq7 mq8 mq9 mq10 mq11 mq12 mq13 mq14 mq15 (xs 1) rfl (by omega) (xs 2) rfl (by omega) (xs 3) rfl (by omega) H locs ls (hP.sub [0, 22] rfl) (hD.sub [0, 22] (by decide) rfl) hS hl
  · have z1 := h1
    exact law_18_b hlt C0 hE x m o xq1 xq2 xq4 xq5 xq12 xq22 xq23 xq24 xq25 xq20 xq13 xq14 xq26 mq1 mq2 mq3 mq4 mq5 mq6 mq16 mq7 mq8 mq9 mq10 mq11 mq12 mq13 mq14 mq15 (xs 1) rfl (by omega) (xs 2) rfl (by omega) (xs 3) rfl (by omega) H locs ls (hP.sub [0, 22] rfl) (hD.sub [0, 22] (by decide) rfl) hS hl
  · have z1 := h1
    rcases (show ((-2147483648) ≤ (xs 2).toInt ∧ (xs 2).toInt ≤ (-1)) ∨ (1 ≤ (xs 2).toInt ∧ (xs 2).toInt ≤ 2147483647) ∨ (xs 2).toInt = 0 by omega) with h2 | h2 | h2
    · have z2 := h2
      exact law_18_in hlt C0 hE x m o xq1 xq2 xq4 xq5 xq12 xq22 xq23 xq24 xq25 xq20 xq13 xq14 xq26 mq1 mq2 mq3 mq4 mq5 mq6 mq16 mq7 mq8 mq9 mq10 mq11 mq12 mq13 mq14 mq15 (xs 1) rfl (by omega) (xs 2) rfl (by omega) (xs 3) rfl (by omega) H locs ls (hP.sub [0, 22] rfl) (hD.sub [0, 22] (by decide) rfl) hS hl
    · have z2 := h2
      exact law_18_ip hlt C0 hE x m o xq1 xq2 xq4 xq5 xq12 xq22 xq23 xq24 xq25 xq20 xq13 xq14 xq26 xq3 xq27 mq1 mq2 mq3 mq4 mq5 mq6 mq16 mq7 mq8 mq9 mq10 mq11 mq12 mq13 mq14 mq15 (xs 1) rfl (by omega) (xs 2) rfl (by omega) (xs 3) rfl (by omega) H locs ls (hP.sub [0, 2, 3, 22] rfl) (hD.sub [0, 2, 3, 22] (by decide) rfl) hS hl
    · have z2 := h2
      have e2 : xs 2 = 0 := Int32.toInt_inj.mp (by rw [show (0 : Int32).toInt = 0 from by decide]; exact h2)
      rcases (show ((-2147483648) ≤ (xs 3).toInt ∧ (xs 3).toInt ≤ (-1)) ∨ (1 ≤ (xs 3).toInt ∧ (xs 3).toInt ≤ 2147483647) ∨ (xs 3).toInt = 0 by omega) with h3 | h3 | h3
      · have z3 := h3
        exact law_18_izn hlt C0 hE x m o xq1 xq2 xq4 xq5 xq12 xq22 xq23 xq24 xq25 xq20 xq13 xq14 xq26 xq3 xq27 mq1 mq2 mq3 mq4 mq5 mq6 mq16 mq7 mq8 mq9 mq10 mq11 mq12 mq13 mq14 mq15 (xs 1) rfl (by omega) e2 (xs 3) rfl (by omega) H locs ls (hP.sub [0, 2, 3, 22] rfl) (hD.sub [0, 2, 3, 22] (by decide) rfl) hS hl
      · have z3 := h3
        exact law_18_izp hlt C0 hE x m o xq1 xq2 xq4 xq5 xq12 xq22 xq23 xq24 xq25 xq20 xq13 xq14 xq26 xq3 xq27 mq1 mq2 mq3 mq4 mq5 mq6 mq16 mq7 mq8 mq9 mq10 mq11 mq12 mq13 mq14 mq15 (xs 1) rfl (by omega) e2 (xs 3) rfl (by omega) H locs ls (hP.sub [0, 2, 3, 22] rfl) (hD.sub [0, 2, 3, 22] (by decide) rfl) hS hl
      · have z3 := h3
        have e3 : xs 3 = 0 := Int32.toInt_inj.mp (by rw [show (0 : Int32).toInt = 0 from by decide]; exact h3)
        exact law_18_izz hlt C0 hE x m o xq1 xq2 xq4 xq5 xq12 xq22 xq23 xq24 xq25 xq20 xq13 xq14 xq26 xq3 xq27 xq16 xq17 xq18 xq19 xq30 xq31 xq32 xq33 xq34 xq35 xq36 xq37 xq38 xq39 xq40 xq41 mq1 mq2 mq3 mq4 mq5 mq6 mq16 mq7 mq8 mq9 mq10 mq11 mq12 mq13 mq14 mq15 (xs 1) rfl (by omega) e2 e3 H locs ls (hP.sub [0, 2, 3, 4, 16, 17, 18, 19, 22, 25] rfl) (hD.sub [0, 2, 3, 4, 16, 17, 18, 19, 22, 25] (by decide) rfl) hS hl
set_option maxHeartbeats 4000000 in
set_option maxRecDepth 100000 in
theorem law_sel_19 {p : Program} {l : Launch} {e : Env} {s : State} {m9 : MethodId} {below : List Frame} {meth : Method} {c : Code} {g : G9} {b : Nat} {xs : Nat → Int32} (hlt : l.stackTraces = false) (C0 : lw_At p s m9 meth c b 4 xs) (hE : EE g (fun q : Nat => s.heap.size ≤ q) s) (x m o xq1 xq2 xq4 xq5 xq12 xq22 xq23 xq24 xq25 xq20 xq13 xq14 xq26 xq3 xq27 xq16 xq17 xq18 xq19 xq6 xq8 xq10 xq7 xq9 xq11 xq28 xq15 xq29 xq30 xq31 xq32 xq33 xq34 xq35 xq36 xq37 xq38 xq39 xq40 xq41 xq21 mq1 mq2 mq3 mq4 mq5 mq6 mq16 mq7 mq8 mq9 mq10 mq11 mq12 mq13 mq14 mq15 : Nat) : ∀ (H : Heap) (locs : List Loc) (ls : Array Slot), va_P g.1 vwCl (wld9 g x m o xq1 xq2 xq4 xq5 xq12 xq22 xq23 xq24 xq25 xq20 xq13 xq14 xq26 xq3 xq27 xq16 xq17 xq18 xq19 xq6 xq8 xq10 xq7 xq9 xq11 xq28 xq15 xq29 xq30 xq31 xq32 xq33 xq34 xq35 xq36 xq37 xq38 xq39 xq40 xq41 xq21 mq1 mq2 mq3 mq4 mq5 mq6 mq16 mq7 mq8 mq9 mq10 mq11 mq12 mq13 mq14 mq15) H → va_D (fun q : Nat => s.heap.size ≤ q) (wld9 g x m o xq1 xq2 xq4 xq5 xq12 xq22 xq23 xq24 xq25 xq20 xq13 xq14 xq26 xq3 xq27 xq16 xq17 xq18 xq19 xq6 xq8 xq10 xq7 xq9 xq11 xq28 xq15 xq29 xq30 xq31 xq32 xq33 xq34 xq35 xq36 xq37 xq38 xq39 xq40 xq41 xq21 mq1 mq2 mq3 mq4 mq5 mq6 mq16 mq7 mq8 mq9 mq10 mq11 mq12 mq13 mq14 mq15) → va_S (fun q : Nat => s.heap.size ≤ q) s.heap H locs → lv_has ls 7 [(0, .ref b), (1, .ref x), (2, .ref m), (3, .ref o), (4, .int 0)] → W p l e room_1 s m9 #[Value.ref b] below meth c H locs 106 7589 (lw_Z below #[Value.ref b] s) (F0 m9 1116 ls []) := by
  intro H locs ls hP hD hS hl
  have q1 := i9_bd (xs 1)
  have q2 := i9_bd (xs 2)
  have q3 := i9_bd (xs 3)
  rcases (show ((-2147483648) ≤ (xs 1).toInt ∧ (xs 1).toInt ≤ (-1)) ∨ (4 ≤ (xs 1).toInt ∧ (xs 1).toInt ≤ 2147483647) ∨ (0 ≤ (xs 1).toInt ∧ (xs 1).toInt ≤ 3) by omega) with h1 | h1 | h1
  · have z1 := h1
    exact law_19_n hlt C0 hE x m o xq1 xq2 xq4 xq5 xq12 xq22 xq23 xq24 xq25 xq20 xq13 xq14 xq26 mq1 mq2 mq3 mq4 mq5 mq6 mq16 mq7 mq8 mq9 mq10 mq11 mq12 mq13 mq14 mq15 (xs 1) rfl (by omega) H locs ls (hP.sub [0, 22] rfl) (hD.sub [0, 22] (by decide) rfl) hS hl
  · have z1 := h1
    exact law_19_b hlt C0 hE x m o xq1 xq2 xq4 xq5 xq12 xq22 xq23 xq24 xq25 xq20 xq13 xq14 xq26 mq1 mq2 mq3 mq4 mq5 mq6 mq16 mq7 mq8 mq9 mq10 mq11 mq12 mq13 mq14 mq15 (xs 1) rfl (by omega) H locs ls (hP.sub [0, 22] rfl) (hD.sub [0, 22] (by decide) rfl) hS hl
  · have z1 := h1
    exact law_19_i hlt C0 hE x m o xq1 xq2 xq4 xq5 xq12 xq22 xq23 xq24 xq25 xq20 xq13 xq14 xq26 xq16 xq17 xq18 xq19 xq30 xq31 xq32 xq33 xq34 xq35 xq36 xq37 xq38 xq39 xq40 xq41 mq1 mq2 mq3 mq4 mq5 mq6 mq16 mq7 mq8 mq9 mq10 mq11 mq12 mq13 mq14 mq15 (xs 1) rfl (by omega) H locs ls (hP.sub [0, 4, 16, 17, 18, 19, 22, 25] rfl) (hD.sub [0, 4, 16, 17, 18, 19, 22, 25] (by decide) rfl) hS hl
set_option maxHeartbeats 4000000 in
set_option maxRecDepth 100000 in
theorem law_sel_20 {p : Program} {l : Launch} {e : Env} {s : State} {m9 : MethodId} {below : List Frame} {meth : Method} {c : Code} {g : G9} {b : Nat} {xs : Nat → Int32} (hlt : l.stackTraces = false) (C0 : lw_At p s m9 meth c b 4 xs) (hE : EE g (fun q : Nat => s.heap.size ≤ q) s) (x m o xq1 xq2 xq4 xq5 xq12 xq22 xq23 xq24 xq25 xq20 xq13 xq14 xq26 xq3 xq27 xq16 xq17 xq18 xq19 xq6 xq8 xq10 xq7 xq9 xq11 xq28 xq15 xq29 xq30 xq31 xq32 xq33 xq34 xq35 xq36 xq37 xq38 xq39 xq40 xq41 xq21 mq1 mq2 mq3 mq4 mq5 mq6 mq16 mq7 mq8 mq9 mq10 mq11 mq12 mq13 mq14 mq15 : Nat) : ∀ (H : Heap) (locs : List Loc) (ls : Array Slot), va_P g.1 vwCl (wld9 g x m o xq1 xq2 xq4 xq5 xq12 xq22 xq23 xq24 xq25 xq20 xq13 xq14 xq26 xq3 xq27 xq16 xq17 xq18 xq19 xq6 xq8 xq10 xq7 xq9 xq11 xq28 xq15 xq29 xq30 xq31 xq32 xq33 xq34 xq35 xq36 xq37 xq38 xq39 xq40 xq41 xq21 mq1 mq2 mq3 mq4 mq5 mq6 mq16 mq7 mq8 mq9 mq10 mq11 mq12 mq13 mq14 mq15) H → va_D (fun q : Nat => s.heap.size ≤ q) (wld9 g x m o xq1 xq2 xq4 xq5 xq12 xq22 xq23 xq24 xq25 xq20 xq13 xq14 xq26 xq3 xq27 xq16 xq17 xq18 xq19 xq6 xq8 xq10 xq7 xq9 xq11 xq28 xq15 xq29 xq30 xq31 xq32 xq33 xq34 xq35 xq36 xq37 xq38 xq39 xq40 xq41 xq21 mq1 mq2 mq3 mq4 mq5 mq6 mq16 mq7 mq8 mq9 mq10 mq11 mq12 mq13 mq14 mq15) → va_S (fun q : Nat => s.heap.size ≤ q) s.heap H locs → lv_has ls 7 [(0, .ref b), (1, .ref x), (2, .ref m), (3, .ref o), (4, .int 0)] → W p l e room_1 s m9 #[Value.ref b] below meth c H locs 106 7589 (lw_Z below #[Value.ref b] s) (F0 m9 1172 ls []) := by
  intro H locs ls hP hD hS hl
  have q1 := i9_bd (xs 1)
  have q2 := i9_bd (xs 2)
  have q3 := i9_bd (xs 3)
  rcases (show ((-2147483648) ≤ (xs 1).toInt ∧ (xs 1).toInt ≤ (-1)) ∨ (0 ≤ (xs 1).toInt ∧ (xs 1).toInt ≤ 2147483647) by omega) with h1 | h1
  · have z1 := h1
    rcases (show ((-2147483648) ≤ (xs 2).toInt ∧ (xs 2).toInt ≤ (-1)) ∨ (xs 2).toInt = 0 ∨ (1 ≤ (xs 2).toInt ∧ (xs 2).toInt ≤ 2147483647) by omega) with h2 | h2 | h2
    · have z2 := h2
      exact law_20_nn hlt C0 hE x m o xq1 xq2 xq4 xq5 xq12 xq22 xq23 xq24 xq25 xq20 xq13 xq14 xq26 mq1 mq2 mq3 mq4 mq5 mq6 mq16 mq7 mq8 mq9 mq10 mq11 mq12 mq13 mq14 mq15 (xs 1) rfl (by omega) (xs 2) rfl (by omega) H locs ls (hP.sub [0, 22, 27] rfl) (hD.sub [0, 22, 27] (by decide) rfl) hS hl
    · have z2 := h2
      have e2 : xs 2 = 0 := Int32.toInt_inj.mp (by rw [show (0 : Int32).toInt = 0 from by decide]; exact h2)
      exact law_20_nz hlt C0 hE x m o xq1 xq2 xq4 xq5 xq12 xq22 xq23 xq24 xq25 xq20 xq13 xq14 xq26 mq1 mq2 mq3 mq4 mq5 mq6 mq16 mq7 mq8 mq9 mq10 mq11 mq12 mq13 mq14 mq15 (xs 1) rfl (by omega) e2 H locs ls (hP.sub [0, 22, 27] rfl) (hD.sub [0, 22, 27] (by decide) rfl) hS hl
    · have z2 := h2
      exact law_20_np hlt C0 hE x m o xq1 xq2 xq4 xq5 xq12 xq22 xq23 xq24 xq25 xq20 xq13 xq14 xq26 mq1 mq2 mq3 mq4 mq5 mq6 mq16 mq7 mq8 mq9 mq10 mq11 mq12 mq13 mq14 mq15 (xs 1) rfl (by omega) (xs 2) rfl (by omega) H locs ls (hP.sub [0, 22, 27] rfl) (hD.sub [0, 22, 27] (by decide) rfl) hS hl
  · have z1 := h1
    rcases (show ((-2147483648) ≤ (xs 2).toInt ∧ (xs 2).toInt ≤ (-1)) ∨ (xs 2).toInt = 0 ∨ (1 ≤ (xs 2).toInt ∧ (xs 2).toInt ≤ 2147483647) by omega) with h2 | h2 | h2
    · have z2 := h2
      exact law_20_in hlt C0 hE x m o xq1 xq2 xq4 xq5 xq12 xq22 xq23 xq24 xq25 xq20 xq13 xq14 xq26 xq28 mq1 mq2 mq3 mq4 mq5 mq6 mq16 mq7 mq8 mq9 mq10 mq11 mq12 mq13 mq14 mq15 (xs 1) rfl (by omega) (xs 2) rfl (by omega) H locs ls (hP.sub [0, 13, 22, 27] rfl) (hD.sub [0, 13, 22, 27] (by decide) rfl) hS hl
    · have z2 := h2
      have e2 : xs 2 = 0 := Int32.toInt_inj.mp (by rw [show (0 : Int32).toInt = 0 from by decide]; exact h2)
      exact law_20_iz hlt C0 hE x m o xq1 xq2 xq4 xq5 xq12 xq22 xq23 xq24 xq25 xq20 xq13 xq14 xq26 xq28 mq1 mq2 mq3 mq4 mq5 mq6 mq16 mq7 mq8 mq9 mq10 mq11 mq12 mq13 mq14 mq15 (xs 1) rfl (by omega) e2 H locs ls (hP.sub [0, 13, 22, 27] rfl) (hD.sub [0, 13, 22, 27] (by decide) rfl) hS hl
    · have z2 := h2
      exact law_20_ip hlt C0 hE x m o xq1 xq2 xq4 xq5 xq12 xq22 xq23 xq24 xq25 xq20 xq13 xq14 xq26 xq28 mq1 mq2 mq3 mq4 mq5 mq6 mq16 mq7 mq8 mq9 mq10 mq11 mq12 mq13 mq14 mq15 (xs 1) rfl (by omega) (xs 2) rfl (by omega) H locs ls (hP.sub [0, 13, 22, 27] rfl) (hD.sub [0, 13, 22, 27] (by decide) rfl) hS hl
set_option maxHeartbeats 4000000 in
set_option maxRecDepth 100000 in
theorem law_sel_21 {p : Program} {l : Launch} {e : Env} {s : State} {m9 : MethodId} {below : List Frame} {meth : Method} {c : Code} {g : G9} {b : Nat} {xs : Nat → Int32} (hlt : l.stackTraces = false) (C0 : lw_At p s m9 meth c b 4 xs) (hE : EE g (fun q : Nat => s.heap.size ≤ q) s) (x m o xq1 xq2 xq4 xq5 xq12 xq22 xq23 xq24 xq25 xq20 xq13 xq14 xq26 xq3 xq27 xq16 xq17 xq18 xq19 xq6 xq8 xq10 xq7 xq9 xq11 xq28 xq15 xq29 xq30 xq31 xq32 xq33 xq34 xq35 xq36 xq37 xq38 xq39 xq40 xq41 xq21 mq1 mq2 mq3 mq4 mq5 mq6 mq16 mq7 mq8 mq9 mq10 mq11 mq12 mq13 mq14 mq15 : Nat) : ∀ (H : Heap) (locs : List Loc) (ls : Array Slot), va_P g.1 vwCl (wld9 g x m o xq1 xq2 xq4 xq5 xq12 xq22 xq23 xq24 xq25 xq20 xq13 xq14 xq26 xq3 xq27 xq16 xq17 xq18 xq19 xq6 xq8 xq10 xq7 xq9 xq11 xq28 xq15 xq29 xq30 xq31 xq32 xq33 xq34 xq35 xq36 xq37 xq38 xq39 xq40 xq41 xq21 mq1 mq2 mq3 mq4 mq5 mq6 mq16 mq7 mq8 mq9 mq10 mq11 mq12 mq13 mq14 mq15) H → va_D (fun q : Nat => s.heap.size ≤ q) (wld9 g x m o xq1 xq2 xq4 xq5 xq12 xq22 xq23 xq24 xq25 xq20 xq13 xq14 xq26 xq3 xq27 xq16 xq17 xq18 xq19 xq6 xq8 xq10 xq7 xq9 xq11 xq28 xq15 xq29 xq30 xq31 xq32 xq33 xq34 xq35 xq36 xq37 xq38 xq39 xq40 xq41 xq21 mq1 mq2 mq3 mq4 mq5 mq6 mq16 mq7 mq8 mq9 mq10 mq11 mq12 mq13 mq14 mq15) → va_S (fun q : Nat => s.heap.size ≤ q) s.heap H locs → lv_has ls 7 [(0, .ref b), (1, .ref x), (2, .ref m), (3, .ref o), (4, .int 0)] → W p l e room_1 s m9 #[Value.ref b] below meth c H locs 106 7589 (lw_Z below #[Value.ref b] s) (F0 m9 1256 ls []) := by
  intro H locs ls hP hD hS hl
  have q1 := i9_bd (xs 1)
  have q2 := i9_bd (xs 2)
  have q3 := i9_bd (xs 3)
  rcases (show ((-2147483648) ≤ (xs 1).toInt ∧ (xs 1).toInt ≤ (-1)) ∨ (4 ≤ (xs 1).toInt ∧ (xs 1).toInt ≤ 2147483647) ∨ (0 ≤ (xs 1).toInt ∧ (xs 1).toInt ≤ 3) by omega) with h1 | h1 | h1
  · have z1 := h1
    exact law_21_n hlt C0 hE x m o xq1 xq2 xq4 xq5 xq12 xq22 xq23 xq24 xq25 xq20 xq13 xq14 xq26 mq1 mq2 mq3 mq4 mq5 mq6 mq16 mq7 mq8 mq9 mq10 mq11 mq12 mq13 mq14 mq15 (xs 1) rfl (by omega) H locs ls (hP.sub [0, 22] rfl) (hD.sub [0, 22] (by decide) rfl) hS hl
  · have z1 := h1
    exact law_21_b hlt C0 hE x m o xq1 xq2 xq4 xq5 xq12 xq22 xq23 xq24 xq25 xq20 xq13 xq14 xq26 mq1 mq2 mq3 mq4 mq5 mq6 mq16 mq7 mq8 mq9 mq10 mq11 mq12 mq13 mq14 mq15 (xs 1) rfl (by omega) H locs ls (hP.sub [0, 22] rfl) (hD.sub [0, 22] (by decide) rfl) hS hl
  · have z1 := h1
    exact law_21_i hlt C0 hE x m o xq1 xq2 xq4 xq5 xq12 xq22 xq23 xq24 xq25 xq20 xq13 xq14 xq26 xq16 xq17 xq18 xq19 xq30 xq31 xq32 xq33 xq34 xq35 xq36 xq37 xq38 xq39 xq40 xq41 mq1 mq2 mq3 mq4 mq5 mq6 mq16 mq7 mq8 mq9 mq10 mq11 mq12 mq13 mq14 mq15 (xs 1) rfl (by omega) H locs ls (hP.sub [0, 4, 16, 17, 18, 19, 22, 25] rfl) (hD.sub [0, 4, 16, 17, 18, 19, 22, 25] (by decide) rfl) hS hl
set_option maxHeartbeats 4000000 in
set_option maxRecDepth 100000 in
theorem law_sel_22 {p : Program} {l : Launch} {e : Env} {s : State} {m9 : MethodId} {below : List Frame} {meth : Method} {c : Code} {g : G9} {b : Nat} {xs : Nat → Int32} (hlt : l.stackTraces = false) (C0 : lw_At p s m9 meth c b 4 xs) (hE : EE g (fun q : Nat => s.heap.size ≤ q) s) (x m o xq1 xq2 xq4 xq5 xq12 xq22 xq23 xq24 xq25 xq20 xq13 xq14 xq26 xq3 xq27 xq16 xq17 xq18 xq19 xq6 xq8 xq10 xq7 xq9 xq11 xq28 xq15 xq29 xq30 xq31 xq32 xq33 xq34 xq35 xq36 xq37 xq38 xq39 xq40 xq41 xq21 mq1 mq2 mq3 mq4 mq5 mq6 mq16 mq7 mq8 mq9 mq10 mq11 mq12 mq13 mq14 mq15 : Nat) : ∀ (H : Heap) (locs : List Loc) (ls : Array Slot), va_P g.1 vwCl (wld9 g x m o xq1 xq2 xq4 xq5 xq12 xq22 xq23 xq24 xq25 xq20 xq13 xq14 xq26 xq3 xq27 xq16 xq17 xq18 xq19 xq6 xq8 xq10 xq7 xq9 xq11 xq28 xq15 xq29 xq30 xq31 xq32 xq33 xq34 xq35 xq36 xq37 xq38 xq39 xq40 xq41 xq21 mq1 mq2 mq3 mq4 mq5 mq6 mq16 mq7 mq8 mq9 mq10 mq11 mq12 mq13 mq14 mq15) H → va_D (fun q : Nat => s.heap.size ≤ q) (wld9 g x m o xq1 xq2 xq4 xq5 xq12 xq22 xq23 xq24 xq25 xq20 xq13 xq14 xq26 xq3 xq27 xq16 xq17 xq18 xq19 xq6 xq8 xq10 xq7 xq9 xq11 xq28 xq15 xq29 xq30 xq31 xq32 xq33 xq34 xq35 xq36 xq37 xq38 xq39 xq40 xq41 xq21 mq1 mq2 mq3 mq4 mq5 mq6 mq16 mq7 mq8 mq9 mq10 mq11 mq12 mq13 mq14 mq15) → va_S (fun q : Nat => s.heap.size ≤ q) s.heap H locs → lv_has ls 7 [(0, .ref b), (1, .ref x), (2, .ref m), (3, .ref o), (4, .int 0)] → W p l e room_1 s m9 #[Value.ref b] below meth c H locs 106 7589 (lw_Z below #[Value.ref b] s) (F0 m9 1312 ls []) := by
  intro H locs ls hP hD hS hl
  have q1 := i9_bd (xs 1)
  have q2 := i9_bd (xs 2)
  have q3 := i9_bd (xs 3)
  rcases (show ((-2147483648) ≤ (xs 1).toInt ∧ (xs 1).toInt ≤ (-1)) ∨ (0 ≤ (xs 1).toInt ∧ (xs 1).toInt ≤ 2147483647) by omega) with h1 | h1
  · have z1 := h1
    exact law_22_n hlt C0 hE x m o xq1 xq2 xq4 xq5 xq12 xq22 xq23 xq24 xq25 xq20 xq13 xq14 xq26 mq1 mq2 mq3 mq4 mq5 mq6 mq16 mq7 mq8 mq9 mq10 mq11 mq12 mq13 mq14 mq15 (xs 1) rfl (by omega) H locs ls (hP.sub [0, 22] rfl) (hD.sub [0, 22] (by decide) rfl) hS hl
  · have z1 := h1
    exact law_22_i hlt C0 hE x m o xq1 xq2 xq4 xq5 xq12 xq22 xq23 xq24 xq25 xq20 xq13 xq14 xq26 xq15 xq29 mq1 mq2 mq3 mq4 mq5 mq6 mq16 mq7 mq8 mq9 mq10 mq11 mq12 mq13 mq14 mq15 (xs 1) rfl (by omega) H locs ls (hP.sub [0, 14, 15, 22] rfl) (hD.sub [0, 14, 15, 22] (by decide) rfl) hS hl

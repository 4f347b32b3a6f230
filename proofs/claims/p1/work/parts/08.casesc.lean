set_option maxHeartbeats 4000000 in
set_option maxRecDepth 100000 in
theorem law_13_g2p {p : Program} {l : Launch} {e : Env} {s : State} {m9 : MethodId} {below : List Frame} {meth : Method} {c : Code} {g : G9} {b : Nat} {xs : Nat → Int32} (hlt : l.stackTraces = false) (C0 : lw_At p s m9 meth c b 4 xs) (hE : EE g (fun q : Nat => s.heap.size ≤ q) s) (x m o xq1 xq2 xq4 xq5 xq12 xq22 xq23 xq24 xq25 xq20 xq13 xq14 xq26 xq21 mq1 mq2 mq3 mq4 mq5 mq6 mq16 mq7 mq8 mq9 mq10 mq11 mq12 mq13 mq14 mq15 : Nat) (e1 : xs 1 = 2) (x2 : Int32) (e2 : xs 2 = x2) (k_x2 : 1 ≤ x2.toInt ∧ x2.toInt ≤ 2147483647) : ∀ (H : Heap) (locs : List Loc) (ls : Array Slot), va_P g.1 vwCl [(x, .inr (12, [.ref xq1, .int 0, .ref xq2, .ref xq4, .ref xq5, .ref xq12, .ref xq22, .ref xq23, .int (-1), .ref xq24, .ref xq25, .int 250, .ref xq20, .int 0, .ref xq13, .ref xq14, .ref xq26])), (xq20, .inr (10, [.int 2, .int 7, .ref xq21, .int 7])), (xq21, .inl (g.2.1 0, 14, .inl (upd (upd (upd (upd (upd (upd (upd (upd (upd (upd (upd (upd (upd (upd (fun _ => 0) 0 (-1)) 1 (-1)) 2 (-1)) 3 (-1)) 4 (-1)) 5 (-1)) 6 (-1)) 7 (-1)) 8 (-1)) 9 (-1)) 10 (-1)) 11 (-1)) 12 (-1)) 13 (-1)))), (m, .inr (22, [.int 0, .ref mq1, .int 0, .ref mq2, .int 0, .ref mq3, .int 250, .ref mq4, .int 0, .ref mq5, .ref mq6, .ref mq16, .int 0, .ref mq7, .ref mq8, .ref mq9, .int 0, .null, .int 0, .null, .int 0, .int 0, .int 0, .ref mq10, .int 0, .ref mq11, .ref mq12, .ref mq13, .int 0, .ref mq14, .ref mq15, .int 0])), (mq16, .inl (g.2.1 0, 14, .inl (upd (upd (upd (upd (upd (upd (upd (upd (upd (upd (upd (upd (upd (upd (fun _ => 0) 0 (-1)) 1 (-1)) 2 (-1)) 3 (-1)) 4 (-1)) 5 (-1)) 6 (-1)) 7 (-1)) 8 (-1)) 9 (-1)) 10 (-1)) 11 (-1)) 12 (-1)) 13 (-1)))), (o, .inl (g.2.1 2, 1, .inr (.inl (fun _ => 0))))] H → va_D (fun q : Nat => s.heap.size ≤ q) [(x, .inr (12, [.ref xq1, .int 0, .ref xq2, .ref xq4, .ref xq5, .ref xq12, .ref xq22, .ref xq23, .int (-1), .ref xq24, .ref xq25, .int 250, .ref xq20, .int 0, .ref xq13, .ref xq14, .ref xq26])), (xq20, .inr (10, [.int 2, .int 7, .ref xq21, .int 7])), (xq21, .inl (g.2.1 0, 14, .inl (upd (upd (upd (upd (upd (upd (upd (upd (upd (upd (upd (upd (upd (upd (fun _ => 0) 0 (-1)) 1 (-1)) 2 (-1)) 3 (-1)) 4 (-1)) 5 (-1)) 6 (-1)) 7 (-1)) 8 (-1)) 9 (-1)) 10 (-1)) 11 (-1)) 12 (-1)) 13 (-1)))), (m, .inr (22, [.int 0, .ref mq1, .int 0, .ref mq2, .int 0, .ref mq3, .int 250, .ref mq4, .int 0, .ref mq5, .ref mq6, .ref mq16, .int 0, .ref mq7, .ref mq8, .ref mq9, .int 0, .null, .int 0, .null, .int 0, .int 0, .int 0, .ref mq10, .int 0, .ref mq11, .ref mq12, .ref mq13, .int 0, .ref mq14, .ref mq15, .int 0])), (mq16, .inl (g.2.1 0, 14, .inl (upd (upd (upd (upd (upd (upd (upd (upd (upd (upd (upd (upd (upd (upd (fun _ => 0) 0 (-1)) 1 (-1)) 2 (-1)) 3 (-1)) 4 (-1)) 5 (-1)) 6 (-1)) 7 (-1)) 8 (-1)) 9 (-1)) 10 (-1)) 11 (-1)) 12 (-1)) 13 (-1)))), (o, .inl (g.2.1 2, 1, .inr (.inl (fun _ => 0))))] → va_S (fun q : Nat => s.heap.size ≤ q) s.heap H locs → lv_has ls 7 [(0, .ref b), (1, .ref x), (2, .ref m), (3, .ref o), (4, .int 0)] → W p l e room_1 s m9 #[Value.ref b] below meth c H locs 106 7589 (lw_Z below #[Value.ref b] s) (F0 m9 740 ls []) := by
  intro H locs ls hP hD hS hl
  obtain ⟨hx, hb, hr, hml, hown, hts0, hX, hbl, hlocks, hgv⟩ := id C0
  have hts : ∀ w ∈ w9_law, w.before #[Value.ref b] s = true := fun w h => hts0 w (w9_law_in w h)
  generalize hAe : (fun q : Nat => s.heap.size ≤ q) = A at hE hD hS
  have hA : ∀ q : Nat, s.heap.size ≤ q → A q := fun q h => by rw [← hAe]; exact h
  have hbA : ¬ A b := by rw [← hAe]; exact Nat.not_le.mpr hbl
  have hK := hE.1
  refine lv_aload_n hx hb dL_law_740 rfl (lv_at hl 1 rfl) ?_
  refine lv_aload_n hx hb dL_law_741 rfl (lv_at hl 0 rfl) ?_
  refine lv_iload hx hb dL_law_742 (lv_at hl 4 rfl) ?_
  refine lv_iconst (v := 1) hx hb dL_law_744 (by decide) ?_
  refine lv_iadd hx hb dL_law_745 ?_
  refine e_top (y := 1) (by decide) ?_
  refine va_sld hx hb hX hbl hbA hS (vp_in_nI (n := 1) (by decide) (by decide)) dL_law_746 ?_
  refine e_top (y := 2) e1 ?_
  refine lv_aload_n hx hb dL_law_747 rfl (lv_at hl 0 rfl) ?_
  refine lv_iload hx hb dL_law_748 (lv_at hl 4 rfl) ?_
  refine lv_iconst (v := 2) hx hb dL_law_750 (by decide) ?_
  refine lv_iadd hx hb dL_law_751 ?_
  refine e_top (y := 2) (by decide) ?_
  refine va_sld hx hb hX hbl hbA hS (vp_in_nI (n := 2) (by decide) (by decide)) dL_law_752 ?_
  refine e_top (y := x2) e2 ?_
  refine lv_if_eq (tgt := 760) hx hb dL_law_753 (by decide) (fun c9 => absurd c9 (by simp only [Int32.lt_iff_toInt_lt, Int32.le_iff_toInt_le, ← Int32.toInt_inj, show (0 : Int32).toInt = 0 from by decide]; omega)) (fun _ => ?_)
  refine lv_iconst (v := 1) hx hb dL_law_756 (by decide) ?_
  refine lv_goto (tgt := 761) hx hb dL_law_757 (by decide) ?_
  refine lv_aload_n hx hb dL_law_761 rfl (lv_at hl 3 rfl) ?_
  have hPc := hP.sub (ws' := [(x, .inr (12, [.ref xq1, .int 0, .ref xq2, .ref xq4, .ref xq5, .ref xq12, .ref xq22, .ref xq23, .int (-1), .ref xq24, .ref xq25, .int 250, .ref xq20, .int 0, .ref xq13, .ref xq14, .ref xq26])), (xq20, .inr (10, [.int 2, .int 7, .ref xq21, .int 7])), (xq21, .inl (g.2.1 0, 14, .inl (upd (upd (upd (upd (upd (upd (upd (upd (upd (upd (upd (upd (upd (upd (fun _ => 0) 0 (-1)) 1 (-1)) 2 (-1)) 3 (-1)) 4 (-1)) 5 (-1)) 6 (-1)) 7 (-1)) 8 (-1)) 9 (-1)) 10 (-1)) 11 (-1)) 12 (-1)) 13 (-1)))), (o, .inl (g.2.1 2, 1, .inr (.inl (fun _ => 0))))]) [0, 1, 2, 5] rfl
  have hDc := hD.sub (ws' := [(x, .inr (12, [.ref xq1, .int 0, .ref xq2, .ref xq4, .ref xq5, .ref xq12, .ref xq22, .ref xq23, .int (-1), .ref xq24, .ref xq25, .int 250, .ref xq20, .int 0, .ref xq13, .ref xq14, .ref xq26])), (xq20, .inr (10, [.int 2, .int 7, .ref xq21, .int 7])), (xq21, .inl (g.2.1 0, 14, .inl (upd (upd (upd (upd (upd (upd (upd (upd (upd (upd (upd (upd (upd (upd (fun _ => 0) 0 (-1)) 1 (-1)) 2 (-1)) 3 (-1)) 4 (-1)) 5 (-1)) 6 (-1)) 7 (-1)) 8 (-1)) 9 (-1)) 10 (-1)) 11 (-1)) 12 (-1)) 13 (-1)))), (o, .inl (g.2.1 2, 1, .inr (.inl (fun _ => 0))))]) [0, 1, 2, 5] (by decide) rfl
  have hFc := va_free (wc := [(x, .inr (12, [.ref xq1, .int 0, .ref xq2, .ref xq4, .ref xq5, .ref xq12, .ref xq22, .ref xq23, .int (-1), .ref xq24, .ref xq25, .int 250, .ref xq20, .int 0, .ref xq13, .ref xq14, .ref xq26])), (xq20, .inr (10, [.int 2, .int 7, .ref xq21, .int 7])), (xq21, .inl (g.2.1 0, 14, .inl (upd (upd (upd (upd (upd (upd (upd (upd (upd (upd (upd (upd (upd (upd (fun _ => 0) 0 (-1)) 1 (-1)) 2 (-1)) 3 (-1)) 4 (-1)) 5 (-1)) 6 (-1)) 7 (-1)) 8 (-1)) 9 (-1)) 10 (-1)) 11 (-1)) 12 (-1)) 13 (-1)))), (o, .inl (g.2.1 2, 1, .inr (.inl (fun _ => 0))))]) hD hS hA [0, 1, 2, 5] rfl
  refine va_calli (vx_runSW (As := [.ref x, .int 2, .int 1, .ref o]) (rest := []) ⟨hx, hb, hml, hown, hts⟩ (c9_L_group_6 l g x o xq1 xq2 xq4 xq5 xq12 xq22 xq23 xq24 xq25 xq20 xq13 xq14 xq26 xq21 _) (vx_cwSW (bytes := cL_group) (maxL := 5) (ret := (some .int)) (hh := [(0, 10, 13, 21)]) 4 hts g9_law_116 rfl rfl rfl (by decide +kernel) ⟨Nat.le_of_ble_eq_true rfl, Nat.le_of_ble_eq_true rfl⟩) (mPreS (g := g) (wc := [(x, .inr (12, [.ref xq1, .int 0, .ref xq2, .ref xq4, .ref xq5, .ref xq12, .ref xq22, .ref xq23, .int (-1), .ref xq24, .ref xq25, .int 250, .ref xq20, .int 0, .ref xq13, .ref xq14, .ref xq26])), (xq20, .inr (10, [.int 2, .int 7, .ref xq21, .int 7])), (xq21, .inl (g.2.1 0, 14, .inl (upd (upd (upd (upd (upd (upd (upd (upd (upd (upd (upd (upd (upd (upd (fun _ => 0) 0 (-1)) 1 (-1)) 2 (-1)) 3 (-1)) 4 (-1)) 5 (-1)) 6 (-1)) 7 (-1)) 8 (-1)) 9 (-1)) 10 (-1)) 11 (-1)) 12 (-1)) 13 (-1)))), (o, .inl (g.2.1 2, 1, .inr (.inl (fun _ => 0))))]) hE hS hPc hDc hFc) rfl rfl hl.1 rfl (lv_room (Nat.le_of_ble_eq_true rfl)) dL_law_762 ⟨Nat.le_of_ble_eq_true rfl, Nat.le_of_ble_eq_true rfl⟩) hS (fun q _ h => hFc q h) hFc (fun r_1 u t H1 locs ht hvm hw hB hz1 hk1 hS => ?_)
  replace hw : 0 = r_1 := Eq.symm hw
  subst hw
  obtain ⟨hP1, hD1⟩ := hB
  rw [ht] at hP1
  obtain ⟨hP, hD⟩ := va_join (wr := [(m, .inr (22, [.int 0, .ref mq1, .int 0, .ref mq2, .int 0, .ref mq3, .int 250, .ref mq4, .int 0, .ref mq5, .ref mq6, .ref mq16, .int 0, .ref mq7, .ref mq8, .ref mq9, .int 0, .null, .int 0, .null, .int 0, .int 0, .int 0, .ref mq10, .int 0, .ref mq11, .ref mq12, .ref mq13, .int 0, .ref mq14, .ref mq15, .int 0])), (mq16, .inl (g.2.1 0, 14, .inl (upd (upd (upd (upd (upd (upd (upd (upd (upd (upd (upd (upd (upd (upd (fun _ => 0) 0 (-1)) 1 (-1)) 2 (-1)) 3 (-1)) 4 (-1)) 5 (-1)) 6 (-1)) 7 (-1)) 8 (-1)) 9 (-1)) 10 (-1)) 11 (-1)) 12 (-1)) 13 (-1))))]) (w1 := [(x, .inr (12, [.ref xq1, .int 0, .ref xq2, .ref xq4, .ref xq5, .ref xq12, .ref xq22, .ref xq23, .int (-1), .ref xq24, .ref xq25, .int 250, .ref xq20, .int 0, .ref xq13, .ref xq14, .ref xq26])), (xq20, .inr (10, [.int 2, .int 7, .ref xq21, .int 7])), (xq21, .inl (g.2.1 0, 14, .inl (upd (upd (upd (upd (upd (upd (upd (upd (upd (upd (upd (upd (upd (upd (fun _ => 0) 0 (-1)) 1 (-1)) 2 (-1)) 3 (-1)) 4 (-1)) 5 (-1)) 6 (-1)) 7 (-1)) 8 (-1)) 9 (-1)) 10 (-1)) 11 (-1)) 12 (-1)) 13 (-1)))), (o, .inl (g.2.1 2, 1, .inr (.inl (vp_updL (fun _ => 0) 0 (-1)))))]) hP hD [0, 1, 2, 5] [3, 4] rfl rfl (by decide) (by decide) hk1 hFc hP1 hD1
  clear hP1 hD1 hPc hDc hFc hk1 hz1 hvm ht
  generalize H1 = H at hP hS ⊢
  have hP : va_P g.1 vwCl [(m, .inr (22, [.int 0, .ref mq1, .int 0, .ref mq2, .int 0, .ref mq3, .int 250, .ref mq4, .int 0, .ref mq5, .ref mq6, .ref mq16, .int 0, .ref mq7, .ref mq8, .ref mq9, .int 0, .null, .int 0, .null, .int 0, .int 0, .int 0, .ref mq10, .int 0, .ref mq11, .ref mq12, .ref mq13, .int 0, .ref mq14, .ref mq15, .int 0])), (mq16, .inl (g.2.1 0, 14, .inl (upd (upd (upd (upd (upd (upd (upd (upd (upd (upd (upd (upd (upd (upd (fun _ => 0) 0 (-1)) 1 (-1)) 2 (-1)) 3 (-1)) 4 (-1)) 5 (-1)) 6 (-1)) 7 (-1)) 8 (-1)) 9 (-1)) 10 (-1)) 11 (-1)) 12 (-1)) 13 (-1)))), (x, .inr (12, [.ref xq1, .int 0, .ref xq2, .ref xq4, .ref xq5, .ref xq12, .ref xq22, .ref xq23, .int (-1), .ref xq24, .ref xq25, .int 250, .ref xq20, .int 0, .ref xq13, .ref xq14, .ref xq26])), (xq20, .inr (10, [.int 2, .int 7, .ref xq21, .int 7])), (xq21, .inl (g.2.1 0, 14, .inl (upd (upd (upd (upd (upd (upd (upd (upd (upd (upd (upd (upd (upd (upd (fun _ => 0) 0 (-1)) 1 (-1)) 2 (-1)) 3 (-1)) 4 (-1)) 5 (-1)) 6 (-1)) 7 (-1)) 8 (-1)) 9 (-1)) 10 (-1)) 11 (-1)) 12 (-1)) 13 (-1)))), (o, .inl (g.2.1 2, 1, .inr (.inl (vp_updL (fun _ => 0) 0 (-1)))))] H := hP
  have hD : va_D A [(m, .inr (22, [.int 0, .ref mq1, .int 0, .ref mq2, .int 0, .ref mq3, .int 250, .ref mq4, .int 0, .ref mq5, .ref mq6, .ref mq16, .int 0, .ref mq7, .ref mq8, .ref mq9, .int 0, .null, .int 0, .null, .int 0, .int 0, .int 0, .ref mq10, .int 0, .ref mq11, .ref mq12, .ref mq13, .int 0, .ref mq14, .ref mq15, .int 0])), (mq16, .inl (g.2.1 0, 14, .inl (upd (upd (upd (upd (upd (upd (upd (upd (upd (upd (upd (upd (upd (upd (fun _ => 0) 0 (-1)) 1 (-1)) 2 (-1)) 3 (-1)) 4 (-1)) 5 (-1)) 6 (-1)) 7 (-1)) 8 (-1)) 9 (-1)) 10 (-1)) 11 (-1)) 12 (-1)) 13 (-1)))), (x, .inr (12, [.ref xq1, .int 0, .ref xq2, .ref xq4, .ref xq5, .ref xq12, .ref xq22, .ref xq23, .int (-1), .ref xq24, .ref xq25, .int 250, .ref xq20, .int 0, .ref xq13, .ref xq14, .ref xq26])), (xq20, .inr (10, [.int 2, .int 7, .ref xq21, .int 7])), (xq21, .inl (g.2.1 0, 14, .inl (upd (upd (upd (upd (upd (upd (upd (upd (upd (upd (upd (upd (upd (upd (fun _ => 0) 0 (-1)) 1 (-1)) 2 (-1)) 3 (-1)) 4 (-1)) 5 (-1)) 6 (-1)) 7 (-1)) 8 (-1)) 9 (-1)) 10 (-1)) 11 (-1)) 12 (-1)) 13 (-1)))), (o, .inl (g.2.1 2, 1, .inr (.inl (vp_updL (fun _ => 0) 0 (-1)))))] := hD
  refine lv_istore (lv' := [(5, .int 0), (0, .ref b), (1, .ref x), (2, .ref m), (3, .ref o), (4, .int 0)]) hx hb dL_law_765 hl (by decide) rfl (fun ls hl => ?_)
  refine lv_aload_n hx hb dL_law_767 rfl (lv_at hl 3 rfl) ?_
  refine lv_aload_n hx hb dL_law_768 rfl (lv_at hl 1 rfl) ?_
  refine lv_iload hx hb dL_law_769 (lv_at hl 5 rfl) ?_
  refine lv_iconst (v := 1) hx hb dL_law_771 (by decide) ?_
  refine lv_iadd hx hb dL_law_772 ?_
  refine e_top (y := 1) (by decide) ?_
  refine va_sld hx hb hX hbl hbA hS (vp_in_nI (n := 1) (by decide) (by decide)) dL_law_773 ?_
  refine e_top (y := 2) e1 ?_
  refine lv_aload_n hx hb dL_law_774 rfl (lv_at hl 1 rfl) ?_
  refine lv_iload hx hb dL_law_775 (lv_at hl 5 rfl) ?_
  refine lv_iconst (v := 2) hx hb dL_law_777 (by decide) ?_
  refine lv_iadd hx hb dL_law_778 ?_
  refine e_top (y := 2) (by decide) ?_
  refine va_sld hx hb hX hbl hbA hS (vp_in_nI (n := 2) (by decide) (by decide)) dL_law_779 ?_
  refine e_top (y := x2) e2 ?_
  refine lv_if_eq (tgt := 787) hx hb dL_law_780 (by decide) (fun c9 => absurd c9 (by simp only [Int32.lt_iff_toInt_lt, Int32.le_iff_toInt_le, ← Int32.toInt_inj, show (0 : Int32).toInt = 0 from by decide]; omega)) (fun _ => ?_)
  refine lv_iconst (v := 1) hx hb dL_law_783 (by decide) ?_
  refine lv_goto (tgt := 788) hx hb dL_law_784 (by decide) ?_
  have hPc := hP.sub (ws' := [(m, .inr (22, [.int 0, .ref mq1, .int 0, .ref mq2, .int 0, .ref mq3, .int 250, .ref mq4, .int 0, .ref mq5, .ref mq6, .ref mq16, .int 0, .ref mq7, .ref mq8, .ref mq9, .int 0, .null, .int 0, .null, .int 0, .int 0, .int 0, .ref mq10, .int 0, .ref mq11, .ref mq12, .ref mq13, .int 0, .ref mq14, .ref mq15, .int 0])), (mq16, .inl (g.2.1 0, 14, .inl (upd (upd (upd (upd (upd (upd (upd (upd (upd (upd (upd (upd (upd (upd (fun _ => 0) 0 (-1)) 1 (-1)) 2 (-1)) 3 (-1)) 4 (-1)) 5 (-1)) 6 (-1)) 7 (-1)) 8 (-1)) 9 (-1)) 10 (-1)) 11 (-1)) 12 (-1)) 13 (-1))))]) [0, 1] rfl
  have hDc := hD.sub (ws' := [(m, .inr (22, [.int 0, .ref mq1, .int 0, .ref mq2, .int 0, .ref mq3, .int 250, .ref mq4, .int 0, .ref mq5, .ref mq6, .ref mq16, .int 0, .ref mq7, .ref mq8, .ref mq9, .int 0, .null, .int 0, .null, .int 0, .int 0, .int 0, .ref mq10, .int 0, .ref mq11, .ref mq12, .ref mq13, .int 0, .ref mq14, .ref mq15, .int 0])), (mq16, .inl (g.2.1 0, 14, .inl (upd (upd (upd (upd (upd (upd (upd (upd (upd (upd (upd (upd (upd (upd (fun _ => 0) 0 (-1)) 1 (-1)) 2 (-1)) 3 (-1)) 4 (-1)) 5 (-1)) 6 (-1)) 7 (-1)) 8 (-1)) 9 (-1)) 10 (-1)) 11 (-1)) 12 (-1)) 13 (-1))))]) [0, 1] (by decide) rfl
  have hFc := va_free (wc := [(m, .inr (22, [.int 0, .ref mq1, .int 0, .ref mq2, .int 0, .ref mq3, .int 250, .ref mq4, .int 0, .ref mq5, .ref mq6, .ref mq16, .int 0, .ref mq7, .ref mq8, .ref mq9, .int 0, .null, .int 0, .null, .int 0, .int 0, .int 0, .ref mq10, .int 0, .ref mq11, .ref mq12, .ref mq13, .int 0, .ref mq14, .ref mq15, .int 0])), (mq16, .inl (g.2.1 0, 14, .inl (upd (upd (upd (upd (upd (upd (upd (upd (upd (upd (upd (upd (upd (upd (fun _ => 0) 0 (-1)) 1 (-1)) 2 (-1)) 3 (-1)) 4 (-1)) 5 (-1)) 6 (-1)) 7 (-1)) 8 (-1)) 9 (-1)) 10 (-1)) 11 (-1)) 12 (-1)) 13 (-1))))]) hD hS hA [0, 1] rfl
  refine va_calli (va_runV (As := [.int 2, .int 1]) (rest := []) ⟨hx, hb, hml, hown, hts⟩ (c9_X21_group_5 l g m mq1 mq2 mq3 mq4 mq5 mq6 mq16 mq7 mq8 mq9 mq10 mq11 mq12 mq13 mq14 mq15 _ (upd (upd (upd (upd (upd (upd (upd (upd (upd (upd (upd (upd (upd (upd (fun _ => 0) 0 (-1)) 1 (-1)) 2 (-1)) 3 (-1)) 4 (-1)) 5 (-1)) 6 (-1)) 7 (-1)) 8 (-1)) 9 (-1)) 10 (-1)) 11 (-1)) 12 (-1)) 13 (-1))) (cwV 2 hts g9_law_117 rfl rfl rfl (by decide +kernel) ⟨Nat.le_of_ble_eq_true rfl, Nat.le_of_ble_eq_true rfl⟩) (mPreV (g := g) (wc := [(m, .inr (22, [.int 0, .ref mq1, .int 0, .ref mq2, .int 0, .ref mq3, .int 250, .ref mq4, .int 0, .ref mq5, .ref mq6, .ref mq16, .int 0, .ref mq7, .ref mq8, .ref mq9, .int 0, .null, .int 0, .null, .int 0, .int 0, .int 0, .ref mq10, .int 0, .ref mq11, .ref mq12, .ref mq13, .int 0, .ref mq14, .ref mq15, .int 0])), (mq16, .inl (g.2.1 0, 14, .inl (upd (upd (upd (upd (upd (upd (upd (upd (upd (upd (upd (upd (upd (upd (fun _ => 0) 0 (-1)) 1 (-1)) 2 (-1)) 3 (-1)) 4 (-1)) 5 (-1)) 6 (-1)) 7 (-1)) 8 (-1)) 9 (-1)) 10 (-1)) 11 (-1)) 12 (-1)) 13 (-1))))]) (C := RX21) (ci := 22) (q0 := 0) hE hS hPc hDc hFc rfl rfl) rfl rfl hl.1 rfl (lv_room (Nat.le_of_ble_eq_true rfl)) dL_law_788 ⟨Nat.le_of_ble_eq_true rfl, Nat.le_of_ble_eq_true rfl⟩) hS (fun q _ h => hFc q h) hFc (fun r_2 u t H1 locs ht hvm hw hB hz1 hk1 hS => ?_)
  replace hw : ((upd (upd (upd (upd (upd (upd (upd (upd (upd (upd (upd (upd (upd (upd (fun _ => 0) 0 (-1)) 1 (-1)) 2 (-1)) 3 (-1)) 4 (-1)) 5 (-1)) 6 (-1)) 7 (-1)) 8 (-1)) 9 (-1)) 10 (-1)) 11 (-1)) 12 (-1)) 13 (-1)) 5) = r_2 := Eq.symm hw
  subst hw
  obtain ⟨hP1, hD1⟩ := hB
  rw [ht] at hP1
  obtain ⟨hP, hD⟩ := va_join (wr := [(x, .inr (12, [.ref xq1, .int 0, .ref xq2, .ref xq4, .ref xq5, .ref xq12, .ref xq22, .ref xq23, .int (-1), .ref xq24, .ref xq25, .int 250, .ref xq20, .int 0, .ref xq13, .ref xq14, .ref xq26])), (xq20, .inr (10, [.int 2, .int 7, .ref xq21, .int 7])), (xq21, .inl (g.2.1 0, 14, .inl (upd (upd (upd (upd (upd (upd (upd (upd (upd (upd (upd (upd (upd (upd (fun _ => 0) 0 (-1)) 1 (-1)) 2 (-1)) 3 (-1)) 4 (-1)) 5 (-1)) 6 (-1)) 7 (-1)) 8 (-1)) 9 (-1)) 10 (-1)) 11 (-1)) 12 (-1)) 13 (-1)))), (o, .inl (g.2.1 2, 1, .inr (.inl (vp_updL (fun _ => 0) 0 (-1)))))]) (w1 := [(m, .inr (22, [.int 0, .ref mq1, .int 0, .ref mq2, .int 0, .ref mq3, .int 250, .ref mq4, .int 0, .ref mq5, .ref mq6, .ref mq16, .int 0, .ref mq7, .ref mq8, .ref mq9, .int 0, .null, .int 0, .null, .int 0, .int 0, .int 0, .ref mq10, .int 0, .ref mq11, .ref mq12, .ref mq13, .int 0, .ref mq14, .ref mq15, .int 0])), (mq16, .inl (g.2.1 0, 14, .inl (upd (upd (upd (upd (upd (upd (upd (upd (upd (upd (upd (upd (upd (upd (fun _ => 0) 0 (-1)) 1 (-1)) 2 (-1)) 3 (-1)) 4 (-1)) 5 (-1)) 6 (-1)) 7 (-1)) 8 (-1)) 9 (-1)) 10 (-1)) 11 (-1)) 12 (-1)) 13 (-1))))]) hP hD [0, 1] [2, 3, 4, 5] rfl rfl (by decide) (by decide) hk1 hFc hP1 hD1
  clear hP1 hD1 hPc hDc hFc hk1 hz1 hvm ht
  generalize H1 = H at hP hS ⊢
  have hP : va_P g.1 vwCl [(x, .inr (12, [.ref xq1, .int 0, .ref xq2, .ref xq4, .ref xq5, .ref xq12, .ref xq22, .ref xq23, .int (-1), .ref xq24, .ref xq25, .int 250, .ref xq20, .int 0, .ref xq13, .ref xq14, .ref xq26])), (xq20, .inr (10, [.int 2, .int 7, .ref xq21, .int 7])), (xq21, .inl (g.2.1 0, 14, .inl (upd (upd (upd (upd (upd (upd (upd (upd (upd (upd (upd (upd (upd (upd (fun _ => 0) 0 (-1)) 1 (-1)) 2 (-1)) 3 (-1)) 4 (-1)) 5 (-1)) 6 (-1)) 7 (-1)) 8 (-1)) 9 (-1)) 10 (-1)) 11 (-1)) 12 (-1)) 13 (-1)))), (o, .inl (g.2.1 2, 1, .inr (.inl (vp_updL (fun _ => 0) 0 (-1))))), (m, .inr (22, [.int 0, .ref mq1, .int 0, .ref mq2, .int 0, .ref mq3, .int 250, .ref mq4, .int 0, .ref mq5, .ref mq6, .ref mq16, .int 0, .ref mq7, .ref mq8, .ref mq9, .int 0, .null, .int 0, .null, .int 0, .int 0, .int 0, .ref mq10, .int 0, .ref mq11, .ref mq12, .ref mq13, .int 0, .ref mq14, .ref mq15, .int 0])), (mq16, .inl (g.2.1 0, 14, .inl (upd (upd (upd (upd (upd (upd (upd (upd (upd (upd (upd (upd (upd (upd (fun _ => 0) 0 (-1)) 1 (-1)) 2 (-1)) 3 (-1)) 4 (-1)) 5 (-1)) 6 (-1)) 7 (-1)) 8 (-1)) 9 (-1)) 10 (-1)) 11 (-1)) 12 (-1)) 13 (-1))))] H := hP
  have hD : va_D A [(x, .inr (12, [.ref xq1, .int 0, .ref xq2, .ref xq4, .ref xq5, .ref xq12, .ref xq22, .ref xq23, .int (-1), .ref xq24, .ref xq25, .int 250, .ref xq20, .int 0, .ref xq13, .ref xq14, .ref xq26])), (xq20, .inr (10, [.int 2, .int 7, .ref xq21, .int 7])), (xq21, .inl (g.2.1 0, 14, .inl (upd (upd (upd (upd (upd (upd (upd (upd (upd (upd (upd (upd (upd (upd (fun _ => 0) 0 (-1)) 1 (-1)) 2 (-1)) 3 (-1)) 4 (-1)) 5 (-1)) 6 (-1)) 7 (-1)) 8 (-1)) 9 (-1)) 10 (-1)) 11 (-1)) 12 (-1)) 13 (-1)))), (o, .inl (g.2.1 2, 1, .inr (.inl (vp_updL (fun _ => 0) 0 (-1))))), (m, .inr (22, [.int 0, .ref mq1, .int 0, .ref mq2, .int 0, .ref mq3, .int 250, .ref mq4, .int 0, .ref mq5, .ref mq6, .ref mq16, .int 0, .ref mq7, .ref mq8, .ref mq9, .int 0, .null, .int 0, .null, .int 0, .int 0, .int 0, .ref mq10, .int 0, .ref mq11, .ref mq12, .ref mq13, .int 0, .ref mq14, .ref mq15, .int 0])), (mq16, .inl (g.2.1 0, 14, .inl (upd (upd (upd (upd (upd (upd (upd (upd (upd (upd (upd (upd (upd (upd (fun _ => 0) 0 (-1)) 1 (-1)) 2 (-1)) 3 (-1)) 4 (-1)) 5 (-1)) 6 (-1)) 7 (-1)) 8 (-1)) 9 (-1)) 10 (-1)) 11 (-1)) 12 (-1)) 13 (-1))))] := hD
  refine e_top (y := (-1)) (by rfl) ?_
  refine lv_istore (lv' := [(6, .int (-1)), (5, .int 0), (0, .ref b), (1, .ref x), (2, .ref m), (3, .ref o), (4, .int 0)]) hx hb dL_law_791 hl (by decide) rfl (fun ls hl => ?_)
  refine lv_aload_n hx hb dL_law_793 rfl (lv_at hl 4 rfl) ?_
  have hPc := hP.sub (ws' := [(m, .inr (22, [.int 0, .ref mq1, .int 0, .ref mq2, .int 0, .ref mq3, .int 250, .ref mq4, .int 0, .ref mq5, .ref mq6, .ref mq16, .int 0, .ref mq7, .ref mq8, .ref mq9, .int 0, .null, .int 0, .null, .int 0, .int 0, .int 0, .ref mq10, .int 0, .ref mq11, .ref mq12, .ref mq13, .int 0, .ref mq14, .ref mq15, .int 0]))]) [4] rfl
  have hDc := hD.sub (ws' := [(m, .inr (22, [.int 0, .ref mq1, .int 0, .ref mq2, .int 0, .ref mq3, .int 250, .ref mq4, .int 0, .ref mq5, .ref mq6, .ref mq16, .int 0, .ref mq7, .ref mq8, .ref mq9, .int 0, .null, .int 0, .null, .int 0, .int 0, .int 0, .ref mq10, .int 0, .ref mq11, .ref mq12, .ref mq13, .int 0, .ref mq14, .ref mq15, .int 0]))]) [4] (by decide) rfl
  have hFc := va_free (wc := [(m, .inr (22, [.int 0, .ref mq1, .int 0, .ref mq2, .int 0, .ref mq3, .int 250, .ref mq4, .int 0, .ref mq5, .ref mq6, .ref mq16, .int 0, .ref mq7, .ref mq8, .ref mq9, .int 0, .null, .int 0, .null, .int 0, .int 0, .int 0, .ref mq10, .int 0, .ref mq11, .ref mq12, .ref mq13, .int 0, .ref mq14, .ref mq15, .int 0]))]) hD hS hA [4] rfl
  refine va_calli (va_runV (As := []) (rest := []) ⟨hx, hb, hml, hown, hts⟩ (c9_X21_thrown_1 l g m mq1 mq2 mq3 mq4 mq5 mq6 mq16 mq7 mq8 mq9 mq10 mq11 mq12 mq13 mq14 mq15 _) (cwV 0 hts g9_law_6 rfl rfl rfl (by decide +kernel) ⟨Nat.le_of_ble_eq_true rfl, Nat.le_of_ble_eq_true rfl⟩) (mPreV (g := g) (wc := [(m, .inr (22, [.int 0, .ref mq1, .int 0, .ref mq2, .int 0, .ref mq3, .int 250, .ref mq4, .int 0, .ref mq5, .ref mq6, .ref mq16, .int 0, .ref mq7, .ref mq8, .ref mq9, .int 0, .null, .int 0, .null, .int 0, .int 0, .int 0, .ref mq10, .int 0, .ref mq11, .ref mq12, .ref mq13, .int 0, .ref mq14, .ref mq15, .int 0]))]) (C := RX21) (ci := 22) (q0 := 0) hE hS hPc hDc hFc rfl rfl) rfl rfl hl.1 rfl (lv_room (Nat.le_of_ble_eq_true rfl)) dL_law_794 ⟨Nat.le_of_ble_eq_true rfl, Nat.le_of_ble_eq_true rfl⟩) hS (fun q _ h => hFc q h) hFc (fun r_3 u t H1 locs ht hvm hw hB hz1 hk1 hS => ?_)
  replace hw : 0 = r_3 := Eq.symm hw
  subst hw
  obtain ⟨hP1, hD1⟩ := hB
  rw [ht] at hP1
  obtain ⟨hP, hD⟩ := va_join (wr := [(x, .inr (12, [.ref xq1, .int 0, .ref xq2, .ref xq4, .ref xq5, .ref xq12, .ref xq22, .ref xq23, .int (-1), .ref xq24, .ref xq25, .int 250, .ref xq20, .int 0, .ref xq13, .ref xq14, .ref xq26])), (xq20, .inr (10, [.int 2, .int 7, .ref xq21, .int 7])), (xq21, .inl (g.2.1 0, 14, .inl (upd (upd (upd (upd (upd (upd (upd (upd (upd (upd (upd (upd (upd (upd (fun _ => 0) 0 (-1)) 1 (-1)) 2 (-1)) 3 (-1)) 4 (-1)) 5 (-1)) 6 (-1)) 7 (-1)) 8 (-1)) 9 (-1)) 10 (-1)) 11 (-1)) 12 (-1)) 13 (-1)))), (o, .inl (g.2.1 2, 1, .inr (.inl (vp_updL (fun _ => 0) 0 (-1))))), (mq16, .inl (g.2.1 0, 14, .inl (upd (upd (upd (upd (upd (upd (upd (upd (upd (upd (upd (upd (upd (upd (fun _ => 0) 0 (-1)) 1 (-1)) 2 (-1)) 3 (-1)) 4 (-1)) 5 (-1)) 6 (-1)) 7 (-1)) 8 (-1)) 9 (-1)) 10 (-1)) 11 (-1)) 12 (-1)) 13 (-1))))]) (w1 := [(m, .inr (22, [.int 0, .ref mq1, .int 0, .ref mq2, .int 0, .ref mq3, .int 250, .ref mq4, .int 0, .ref mq5, .ref mq6, .ref mq16, .int 0, .ref mq7, .ref mq8, .ref mq9, .int 0, .null, .int 0, .null, .int 0, .int 0, .int 0, .ref mq10, .int 0, .ref mq11, .ref mq12, .ref mq13, .int 0, .ref mq14, .ref mq15, .int 0]))]) hP hD [4] [0, 1, 2, 3, 5] rfl rfl (by decide) (by decide) hk1 hFc hP1 hD1
  clear hP1 hD1 hPc hDc hFc hk1 hz1 hvm ht
  generalize H1 = H at hP hS ⊢
  have hP : va_P g.1 vwCl [(x, .inr (12, [.ref xq1, .int 0, .ref xq2, .ref xq4, .ref xq5, .ref xq12, .ref xq22, .ref xq23, .int (-1), .ref xq24, .ref xq25, .int 250, .ref xq20, .int 0, .ref xq13, .ref xq14, .ref xq26])), (xq20, .inr (10, [.int 2, .int 7, .ref xq21, .int 7])), (xq21, .inl (g.2.1 0, 14, .inl (upd (upd (upd (upd (upd (upd (upd (upd (upd (upd (upd (upd (upd (upd (fun _ => 0) 0 (-1)) 1 (-1)) 2 (-1)) 3 (-1)) 4 (-1)) 5 (-1)) 6 (-1)) 7 (-1)) 8 (-1)) 9 (-1)) 10 (-1)) 11 (-1)) 12 (-1)) 13 (-1)))), (o, .inl (g.2.1 2, 1, .inr (.inl (vp_updL (fun _ => 0) 0 (-1))))), (mq16, .inl (g.2.1 0, 14, .inl (upd (upd (upd (upd (upd (upd (upd (upd (upd (upd (upd (upd (upd (upd (fun _ => 0) 0 (-1)) 1 (-1)) 2 (-1)) 3 (-1)) 4 (-1)) 5 (-1)) 6 (-1)) 7 (-1)) 8 (-1)) 9 (-1)) 10 (-1)) 11 (-1)) 12 (-1)) 13 (-1)))), (m, .inr (22, [.int 0, .ref mq1, .int 0, .ref mq2, .int 0, .ref mq3, .int 250, .ref mq4, .int 0, .ref mq5, .ref mq6, .ref mq16, .int 0, .ref mq7, .ref mq8, .ref mq9, .int 0, .null, .int 0, .null, .int 0, .int 0, .int 0, .ref mq10, .int 0, .ref mq11, .ref mq12, .ref mq13, .int 0, .ref mq14, .ref mq15, .int 0]))] H := hP
  have hD : va_D A [(x, .inr (12, [.ref xq1, .int 0, .ref xq2, .ref xq4, .ref xq5, .ref xq12, .ref xq22, .ref xq23, .int (-1), .ref xq24, .ref xq25, .int 250, .ref xq20, .int 0, .ref xq13, .ref xq14, .ref xq26])), (xq20, .inr (10, [.int 2, .int 7, .ref xq21, .int 7])), (xq21, .inl (g.2.1 0, 14, .inl (upd (upd (upd (upd (upd (upd (upd (upd (upd (upd (upd (upd (upd (upd (fun _ => 0) 0 (-1)) 1 (-1)) 2 (-1)) 3 (-1)) 4 (-1)) 5 (-1)) 6 (-1)) 7 (-1)) 8 (-1)) 9 (-1)) 10 (-1)) 11 (-1)) 12 (-1)) 13 (-1)))), (o, .inl (g.2.1 2, 1, .inr (.inl (vp_updL (fun _ => 0) 0 (-1))))), (mq16, .inl (g.2.1 0, 14, .inl (upd (upd (upd (upd (upd (upd (upd (upd (upd (upd (upd (upd (upd (upd (fun _ => 0) 0 (-1)) 1 (-1)) 2 (-1)) 3 (-1)) 4 (-1)) 5 (-1)) 6 (-1)) 7 (-1)) 8 (-1)) 9 (-1)) 10 (-1)) 11 (-1)) 12 (-1)) 13 (-1)))), (m, .inr (22, [.int 0, .ref mq1, .int 0, .ref mq2, .int 0, .ref mq3, .int 250, .ref mq4, .int 0, .ref mq5, .ref mq6, .ref mq16, .int 0, .ref mq7, .ref mq8, .ref mq9, .int 0, .null, .int 0, .null, .int 0, .int 0, .int 0, .ref mq10, .int 0, .ref mq11, .ref mq12, .ref mq13, .int 0, .ref mq14, .ref mq15, .int 0]))] := hD
  refine lv_iload hx hb dL_law_797 (lv_at hl 1 rfl) ?_
  refine lv_icmp_eq (tgt := 804) hx hb dL_law_799 (by decide) (fun _ => ?_) (fun c9 => absurd (by decide) c9)
  refine lv_iload hx hb dL_law_804 (lv_at hl 1 rfl) ?_
  refine lv_if_ne (tgt := 821) hx hb dL_law_806 (by decide) (fun c9 => absurd (by decide) c9) (fun _ => ?_)
  refine lv_aload_n hx hb dL_law_809 rfl (lv_at hl 5 rfl) ?_
  refine lv_iconst (v := 0) hx hb dL_law_810 (by decide) ?_
  refine va_lald hx hb hK hP 3 2 rfl rfl (vp_in_nI (n := 0) (by decide) (by decide)) dL_law_811 ?_
  refine e_topv (y := .long (-1)) (by rfl) ?_
  refine lv_iload hx hb dL_law_812 (lv_at hl 0 rfl) ?_
  refine lv_i2l (v := (-1)) hx hb dL_law_814 (by decide) ?_
  refine W.lcmp hx hb dL_law_815 ?_
  refine e_top (y := 0) (by decide) ?_
  refine lv_if_eq (tgt := 821) hx hb dL_law_816 (by decide) (fun _ => ?_) (fun c9 => absurd (by decide) c9)
  refine lv_goto (tgt := 1368) hx hb dL_law_821 (by decide) ?_
  subst hAe
  exact law_end C0 hS (lv_sub hl [2, 6] rfl) (Nat.le_of_ble_eq_true rfl) (Nat.le_of_ble_eq_true rfl)
set_option maxHeartbeats 4000000 in
set_option maxRecDepth 100000 in
theorem law_13_g3p {p : Program} {l : Launch} {e : Env} {s : State} {m9 : MethodId} {below : List Frame} {meth : Method} {c : Code} {g : G9} {b : Nat} {xs : Nat → Int32} (hlt : l.stackTraces = false) (C0 : lw_At p s m9 meth c b 4 xs) (hE : EE g (fun q : Nat => s.heap.size ≤ q) s) (x m o xq1 xq2 xq4 xq5 xq12 xq22 xq23 xq24 xq25 xq20 xq13 xq14 xq26 xq21 mq1 mq2 mq3 mq4 mq5 mq6 mq16 mq7 mq8 mq9 mq10 mq11 mq12 mq13 mq14 mq15 : Nat) (e1 : xs 1 = 3) (x2 : Int32) (e2 : xs 2 = x2) (k_x2 : 1 ≤ x2.toInt ∧ x2.toInt ≤ 2147483647) : ∀ (H : Heap) (locs : List Loc) (ls : Array Slot), va_P g.1 vwCl [(x, .inr (12, [.ref xq1, .int 0, .ref xq2, .ref xq4, .ref xq5, .ref xq12, .ref xq22, .ref xq23, .int (-1), .ref xq24, .ref xq25, .int 250, .ref xq20, .int 0, .ref xq13, .ref xq14, .ref xq26])), (xq20, .inr (10, [.int 2, .int 7, .ref xq21, .int 7])), (xq21, .inl (g.2.1 0, 14, .inl (upd (upd (upd (upd (upd (upd (upd (upd (upd (upd (upd (upd (upd (upd (fun _ => 0) 0 (-1)) 1 (-1)) 2 (-1)) 3 (-1)) 4 (-1)) 5 (-1)) 6 (-1)) 7 (-1)) 8 (-1)) 9 (-1)) 10 (-1)) 11 (-1)) 12 (-1)) 13 (-1)))), (m, .inr (22, [.int 0, .ref mq1, .int 0, .ref mq2, .int 0, .ref mq3, .int 250, .ref mq4, .int 0, .ref mq5, .ref mq6, .ref mq16, .int 0, .ref mq7, .ref mq8, .ref mq9, .int 0, .null, .int 0, .null, .int 0, .int 0, .int 0, .ref mq10, .int 0, .ref mq11, .ref mq12, .ref mq13, .int 0, .ref mq14, .ref mq15, .int 0])), (mq16, .inl (g.2.1 0, 14, .inl (upd (upd (upd (upd (upd (upd (upd (upd (upd (upd (upd (upd (upd (upd (fun _ => 0) 0 (-1)) 1 (-1)) 2 (-1)) 3 (-1)) 4 (-1)) 5 (-1)) 6 (-1)) 7 (-1)) 8 (-1)) 9 (-1)) 10 (-1)) 11 (-1)) 12 (-1)) 13 (-1)))), (o, .inl (g.2.1 2, 1, .inr (.inl (fun _ => 0))))] H → va_D (fun q : Nat => s.heap.size ≤ q) [(x, .inr (12, [.ref xq1, .int 0, .ref xq2, .ref xq4, .ref xq5, .ref xq12, .ref xq22, .ref xq23, .int (-1), .ref xq24, .ref xq25, .int 250, .ref xq20, .int 0, .ref xq13, .ref xq14, .ref xq26])), (xq20, .inr (10, [.int 2, .int 7, .ref xq21, .int 7])), (xq21, .inl (g.2.1 0, 14, .inl (upd (upd (upd (upd (upd (upd (upd (upd (upd (upd (upd (upd (upd (upd (fun _ => 0) 0 (-1)) 1 (-1)) 2 (-1)) 3 (-1)) 4 (-1)) 5 (-1)) 6 (-1)) 7 (-1)) 8 (-1)) 9 (-1)) 10 (-1)) 11 (-1)) 12 (-1)) 13 (-1)))), (m, .inr (22, [.int 0, .ref mq1, .int 0, .ref mq2, .int 0, .ref mq3, .int 250, .ref mq4, .int 0, .ref mq5, .ref mq6, .ref mq16, .int 0, .ref mq7, .ref mq8, .ref mq9, .int 0, .null, .int 0, .null, .int 0, .int 0, .int 0, .ref mq10, .int 0, .ref mq11, .ref mq12, .ref mq13, .int 0, .ref mq14, .ref mq15, .int 0])), (mq16, .inl (g.2.1 0, 14, .inl (upd (upd (upd (upd (upd (upd (upd (upd (upd (upd (upd (upd (upd (upd (fun _ => 0) 0 (-1)) 1 (-1)) 2 (-1)) 3 (-1)) 4 (-1)) 5 (-1)) 6 (-1)) 7 (-1)) 8 (-1)) 9 (-1)) 10 (-1)) 11 (-1)) 12 (-1)) 13 (-1)))), (o, .inl (g.2.1 2, 1, .inr (.inl (fun _ => 0))))] → va_S (fun q : Nat => s.heap.size ≤ q) s.heap H locs → lv_has ls 7 [(0, .ref b), (1, .ref x), (2, .ref m), (3, .ref o), (4, .int 0)] → W p l e room_1 s m9 #[Value.ref b] below meth c H locs 106 7589 (lw_Z below #[Value.ref b] s) (F0 m9 740 ls []) := by
  intro H locs ls hP hD hS hl
  obtain ⟨hx, hb, hr, hml, hown, hts0, hX, hbl, hlocks, hgv⟩ := id C0
  have hts : ∀ w ∈ w9_law, w.before #[Value.ref b] s = true := fun w h => hts0 w (w9_law_in w h)
  generalize hAe : (fun q : Nat => s.heap.size ≤ q) = A at hE hD hS
  have hA : ∀ q : Nat, s.heap.size ≤ q → A q := fun q h => by rw [← hAe]; exact h
  have hbA : ¬ A b := by rw [← hAe]; exact Nat.not_le.mpr hbl
  have hK := hE.1
  refine lv_aload_n hx hb dL_law_740 rfl (lv_at hl 1 rfl) ?_
  refine lv_aload_n hx hb dL_law_741 rfl (lv_at hl 0 rfl) ?_
  refine lv_iload hx hb dL_law_742 (lv_at hl 4 rfl) ?_
  refine lv_iconst (v := 1) hx hb dL_law_744 (by decide) ?_
  refine lv_iadd hx hb dL_law_745 ?_
  refine e_top (y := 1) (by decide) ?_
  refine va_sld hx hb hX hbl hbA hS (vp_in_nI (n := 1) (by decide) (by decide)) dL_law_746 ?_
  refine e_top (y := 3) e1 ?_
  refine lv_aload_n hx hb dL_law_747 rfl (lv_at hl 0 rfl) ?_
  refine lv_iload hx hb dL_law_748 (lv_at hl 4 rfl) ?_
  refine lv_iconst (v := 2) hx hb dL_law_750 (by decide) ?_
  refine lv_iadd hx hb dL_law_751 ?_
  refine e_top (y := 2) (by decide) ?_
  refine va_sld hx hb hX hbl hbA hS (vp_in_nI (n := 2) (by decide) (by decide)) dL_law_752 ?_
  refine e_top (y := x2) e2 ?_
  refine lv_if_eq (tgt := 760) hx hb dL_law_753 (by decide) (fun c9 => absurd c9 (by simp only [Int32.lt_iff_toInt_lt, Int32.le_iff_toInt_le, ← Int32.toInt_inj, show (0 : Int32).toInt = 0 from by decide]; omega)) (fun _ => ?_)
  refine lv_iconst (v := 1) hx hb dL_law_756 (by decide) ?_
  refine lv_goto (tgt := 761) hx hb dL_law_757 (by decide) ?_
  refine lv_aload_n hx hb dL_law_761 rfl (lv_at hl 3 rfl) ?_
  have hPc := hP.sub (ws' := [(x, .inr (12, [.ref xq1, .int 0, .ref xq2, .ref xq4, .ref xq5, .ref xq12, .ref xq22, .ref xq23, .int (-1), .ref xq24, .ref xq25, .int 250, .ref xq20, .int 0, .ref xq13, .ref xq14, .ref xq26])), (xq20, .inr (10, [.int 2, .int 7, .ref xq21, .int 7])), (xq21, .inl (g.2.1 0, 14, .inl (upd (upd (upd (upd (upd (upd (upd (upd (upd (upd (upd (upd (upd (upd (fun _ => 0) 0 (-1)) 1 (-1)) 2 (-1)) 3 (-1)) 4 (-1)) 5 (-1)) 6 (-1)) 7 (-1)) 8 (-1)) 9 (-1)) 10 (-1)) 11 (-1)) 12 (-1)) 13 (-1)))), (o, .inl (g.2.1 2, 1, .inr (.inl (fun _ => 0))))]) [0, 1, 2, 5] rfl
  have hDc := hD.sub (ws' := [(x, .inr (12, [.ref xq1, .int 0, .ref xq2, .ref xq4, .ref xq5, .ref xq12, .ref xq22, .ref xq23, .int (-1), .ref xq24, .ref xq25, .int 250, .ref xq20, .int 0, .ref xq13, .ref xq14, .ref xq26])), (xq20, .inr (10, [.int 2, .int 7, .ref xq21, .int 7])), (xq21, .inl (g.2.1 0, 14, .inl (upd (upd (upd (upd (upd (upd (upd (upd (upd (upd (upd (upd (upd (upd (fun _ => 0) 0 (-1)) 1 (-1)) 2 (-1)) 3 (-1)) 4 (-1)) 5 (-1)) 6 (-1)) 7 (-1)) 8 (-1)) 9 (-1)) 10 (-1)) 11 (-1)) 12 (-1)) 13 (-1)))), (o, .inl (g.2.1 2, 1, .inr (.inl (fun _ => 0))))]) [0, 1, 2, 5] (by decide) rfl
  have hFc := va_free (wc := [(x, .inr (12, [.ref xq1, .int 0, .ref xq2, .ref xq4, .ref xq5, .ref xq12, .ref xq22, .ref xq23, .int (-1), .ref xq24, .ref xq25, .int 250, .ref xq20, .int 0, .ref xq13, .ref xq14, .ref xq26])), (xq20, .inr (10, [.int 2, .int 7, .ref xq21, .int 7])), (xq21, .inl (g.2.1 0, 14, .inl (upd (upd (upd (upd (upd (upd (upd (upd (upd (upd (upd (upd (upd (upd (fun _ => 0) 0 (-1)) 1 (-1)) 2 (-1)) 3 (-1)) 4 (-1)) 5 (-1)) 6 (-1)) 7 (-1)) 8 (-1)) 9 (-1)) 10 (-1)) 11 (-1)) 12 (-1)) 13 (-1)))), (o, .inl (g.2.1 2, 1, .inr (.inl (fun _ => 0))))]) hD hS hA [0, 1, 2, 5] rfl
  refine va_calli (vx_runSW (As := [.ref x, .int 3, .int 1, .ref o]) (rest := []) ⟨hx, hb, hml, hown, hts⟩ (c9_L_group_7 l g x o xq1 xq2 xq4 xq5 xq12 xq22 xq23 xq24 xq25 xq20 xq13 xq14 xq26 xq21 _) (vx_cwSW (bytes := cL_group) (maxL := 5) (ret := (some .int)) (hh := [(0, 10, 13, 21)]) 4 hts g9_law_118 rfl rfl rfl (by decide +kernel) ⟨Nat.le_of_ble_eq_true rfl, Nat.le_of_ble_eq_true rfl⟩) (mPreS (g := g) (wc := [(x, .inr (12, [.ref xq1, .int 0, .ref xq2, .ref xq4, .ref xq5, .ref xq12, .ref xq22, .ref xq23, .int (-1), .ref xq24, .ref xq25, .int 250, .ref xq20, .int 0, .ref xq13, .ref xq14, .ref xq26])), (xq20, .inr (10, [.int 2, .int 7, .ref xq21, .int 7])), (xq21, .inl (g.2.1 0, 14, .inl (upd (upd (upd (upd (upd (upd (upd (upd (upd (upd (upd (upd (upd (upd (fun _ => 0) 0 (-1)) 1 (-1)) 2 (-1)) 3 (-1)) 4 (-1)) 5 (-1)) 6 (-1)) 7 (-1)) 8 (-1)) 9 (-1)) 10 (-1)) 11 (-1)) 12 (-1)) 13 (-1)))), (o, .inl (g.2.1 2, 1, .inr (.inl (fun _ => 0))))]) hE hS hPc hDc hFc) rfl rfl hl.1 rfl (lv_room (Nat.le_of_ble_eq_true rfl)) dL_law_762 ⟨Nat.le_of_ble_eq_true rfl, Nat.le_of_ble_eq_true rfl⟩) hS (fun q _ h => hFc q h) hFc (fun r_1 u t H1 locs ht hvm hw hB hz1 hk1 hS => ?_)
  replace hw : 0 = r_1 := Eq.symm hw
  subst hw
  obtain ⟨hP1, hD1⟩ := hB
  rw [ht] at hP1
  obtain ⟨hP, hD⟩ := va_join (wr := [(m, .inr (22, [.int 0, .ref mq1, .int 0, .ref mq2, .int 0, .ref mq3, .int 250, .ref mq4, .int 0, .ref mq5, .ref mq6, .ref mq16, .int 0, .ref mq7, .ref mq8, .ref mq9, .int 0, .null, .int 0, .null, .int 0, .int 0, .int 0, .ref mq10, .int 0, .ref mq11, .ref mq12, .ref mq13, .int 0, .ref mq14, .ref mq15, .int 0])), (mq16, .inl (g.2.1 0, 14, .inl (upd (upd (upd (upd (upd (upd (upd (upd (upd (upd (upd (upd (upd (upd (fun _ => 0) 0 (-1)) 1 (-1)) 2 (-1)) 3 (-1)) 4 (-1)) 5 (-1)) 6 (-1)) 7 (-1)) 8 (-1)) 9 (-1)) 10 (-1)) 11 (-1)) 12 (-1)) 13 (-1))))]) (w1 := [(x, .inr (12, [.ref xq1, .int 0, .ref xq2, .ref xq4, .ref xq5, .ref xq12, .ref xq22, .ref xq23, .int (-1), .ref xq24, .ref xq25, .int 250, .ref xq20, .int 0, .ref xq13, .ref xq14, .ref xq26])), (xq20, .inr (10, [.int 2, .int 7, .ref xq21, .int 7])), (xq21, .inl (g.2.1 0, 14, .inl (upd (upd (upd (upd (upd (upd (upd (upd (upd (upd (upd (upd (upd (upd (fun _ => 0) 0 (-1)) 1 (-1)) 2 (-1)) 3 (-1)) 4 (-1)) 5 (-1)) 6 (-1)) 7 (-1)) 8 (-1)) 9 (-1)) 10 (-1)) 11 (-1)) 12 (-1)) 13 (-1)))), (o, .inl (g.2.1 2, 1, .inr (.inl (vp_updL (fun _ => 0) 0 (-1)))))]) hP hD [0, 1, 2, 5] [3, 4] rfl rfl (by decide) (by decide) hk1 hFc hP1 hD1
  clear hP1 hD1 hPc hDc hFc hk1 hz1 hvm ht
  generalize H1 = H at hP hS ⊢
  have hP : va_P g.1 vwCl [(m, .inr (22, [.int 0, .ref mq1, .int 0, .ref mq2, .int 0, .ref mq3, .int 250, .ref mq4, .int 0, .ref mq5, .ref mq6, .ref mq16, .int 0, .ref mq7, .ref mq8, .ref mq9, .int 0, .null, .int 0, .null, .int 0, .int 0, .int 0, .ref mq10, .int 0, .ref mq11, .ref mq12, .ref mq13, .int 0, .ref mq14, .ref mq15, .int 0])), (mq16, .inl (g.2.1 0, 14, .inl (upd (upd (upd (upd (upd (upd (upd (upd (upd (upd (upd (upd (upd (upd (fun _ => 0) 0 (-1)) 1 (-1)) 2 (-1)) 3 (-1)) 4 (-1)) 5 (-1)) 6 (-1)) 7 (-1)) 8 (-1)) 9 (-1)) 10 (-1)) 11 (-1)) 12 (-1)) 13 (-1)))), (x, .inr (12, [.ref xq1, .int 0, .ref xq2, .ref xq4, .ref xq5, .ref xq12, .ref xq22, .ref xq23, .int (-1), .ref xq24, .ref xq25, .int 250, .ref xq20, .int 0, .ref xq13, .ref xq14, .ref xq26])), (xq20, .inr (10, [.int 2, .int 7, .ref xq21, .int 7])), (xq21, .inl (g.2.1 0, 14, .inl (upd (upd (upd (upd (upd (upd (upd (upd (upd (upd (upd (upd (upd (upd (fun _ => 0) 0 (-1)) 1 (-1)) 2 (-1)) 3 (-1)) 4 (-1)) 5 (-1)) 6 (-1)) 7 (-1)) 8 (-1)) 9 (-1)) 10 (-1)) 11 (-1)) 12 (-1)) 13 (-1)))), (o, .inl (g.2.1 2, 1, .inr (.inl (vp_updL (fun _ => 0) 0 (-1)))))] H := hP
  have hD : va_D A [(m, .inr (22, [.int 0, .ref mq1, .int 0, .ref mq2, .int 0, .ref mq3, .int 250, .ref mq4, .int 0, .ref mq5, .ref mq6, .ref mq16, .int 0, .ref mq7, .ref mq8, .ref mq9, .int 0, .null, .int 0, .null, .int 0, .int 0, .int 0, .ref mq10, .int 0, .ref mq11, .ref mq12, .ref mq13, .int 0, .ref mq14, .ref mq15, .int 0])), (mq16, .inl (g.2.1 0, 14, .inl (upd (upd (upd (upd (upd (upd (upd (upd (upd (upd (upd (upd (upd (upd (fun _ => 0) 0 (-1)) 1 (-1)) 2 (-1)) 3 (-1)) 4 (-1)) 5 (-1)) 6 (-1)) 7 (-1)) 8 (-1)) 9 (-1)) 10 (-1)) 11 (-1)) 12 (-1)) 13 (-1)))), (x, .inr (12, [.ref xq1, .int 0, .ref xq2, .ref xq4, .ref xq5, .ref xq12, .ref xq22, .ref xq23, .int (-1), .ref xq24, .ref xq25, .int 250, .ref xq20, .int 0, .ref xq13, .ref xq14, .ref xq26])), (xq20, .inr (10, [.int 2, .int 7, .ref xq21, .int 7])), (xq21, .inl (g.2.1 0, 14, .inl (upd (upd (upd (upd (upd (upd (upd (upd (upd (upd (upd (upd (upd (upd (fun _ => 0) 0 (-1)) 1 (-1)) 2 (-1)) 3 (-1)) 4 (-1)) 5 (-1)) 6 (-1)) 7 (-1)) 8 (-1)) 9 (-1)) 10 (-1)) 11 (-1)) 12 (-1)) 13 (-1)))), (o, .inl (g.2.1 2, 1, .inr (.inl (vp_updL (fun _ => 0) 0 (-1)))))] := hD
  refine lv_istore (lv' := [(5, .int 0), (0, .ref b), (1, .ref x), (2, .ref m), (3, .ref o), (4, .int 0)]) hx hb dL_law_765 hl (by decide) rfl (fun ls hl => ?_)
  refine lv_aload_n hx hb dL_law_767 rfl (lv_at hl 3 rfl) ?_
  refine lv_aload_n hx hb dL_law_768 rfl (lv_at hl 1 rfl) ?_
  refine lv_iload hx hb dL_law_769 (lv_at hl 5 rfl) ?_
  refine lv_iconst (v := 1) hx hb dL_law_771 (by decide) ?_
  refine lv_iadd hx hb dL_law_772 ?_
  refine e_top (y := 1) (by decide) ?_
  refine va_sld hx hb hX hbl hbA hS (vp_in_nI (n := 1) (by decide) (by decide)) dL_law_773 ?_
  refine e_top (y := 3) e1 ?_
  refine lv_aload_n hx hb dL_law_774 rfl (lv_at hl 1 rfl) ?_
  refine lv_iload hx hb dL_law_775 (lv_at hl 5 rfl) ?_
  refine lv_iconst (v := 2) hx hb dL_law_777 (by decide) ?_
  refine lv_iadd hx hb dL_law_778 ?_
  refine e_top (y := 2) (by decide) ?_
  refine va_sld hx hb hX hbl hbA hS (vp_in_nI (n := 2) (by decide) (by decide)) dL_law_779 ?_
  refine e_top (y := x2) e2 ?_
  refine lv_if_eq (tgt := 787) hx hb dL_law_780 (by decide) (fun c9 => absurd c9 (by simp only [Int32.lt_iff_toInt_lt, Int32.le_iff_toInt_le, ← Int32.toInt_inj, show (0 : Int32).toInt = 0 from by decide]; omega)) (fun _ => ?_)
  refine lv_iconst (v := 1) hx hb dL_law_783 (by decide) ?_
  refine lv_goto (tgt := 788) hx hb dL_law_784 (by decide) ?_
  have hPc := hP.sub (ws' := [(m, .inr (22, [.int 0, .ref mq1, .int 0, .ref mq2, .int 0, .ref mq3, .int 250, .ref mq4, .int 0, .ref mq5, .ref mq6, .ref mq16, .int 0, .ref mq7, .ref mq8, .ref mq9, .int 0, .null, .int 0, .null, .int 0, .int 0, .int 0, .ref mq10, .int 0, .ref mq11, .ref mq12, .ref mq13, .int 0, .ref mq14, .ref mq15, .int 0])), (mq16, .inl (g.2.1 0, 14, .inl (upd (upd (upd (upd (upd (upd (upd (upd (upd (upd (upd (upd (upd (upd (fun _ => 0) 0 (-1)) 1 (-1)) 2 (-1)) 3 (-1)) 4 (-1)) 5 (-1)) 6 (-1)) 7 (-1)) 8 (-1)) 9 (-1)) 10 (-1)) 11 (-1)) 12 (-1)) 13 (-1))))]) [0, 1] rfl
  have hDc := hD.sub (ws' := [(m, .inr (22, [.int 0, .ref mq1, .int 0, .ref mq2, .int 0, .ref mq3, .int 250, .ref mq4, .int 0, .ref mq5, .ref mq6, .ref mq16, .int 0, .ref mq7, .ref mq8, .ref mq9, .int 0, .null, .int 0, .null, .int 0, .int 0, .int 0, .ref mq10, .int 0, .ref mq11, .ref mq12, .ref mq13, .int 0, .ref mq14, .ref mq15, .int 0])), (mq16, .inl (g.2.1 0, 14, .inl (upd (upd (upd (upd (upd (upd (upd (upd (upd (upd (upd (upd (upd (upd (fun _ => 0) 0 (-1)) 1 (-1)) 2 (-1)) 3 (-1)) 4 (-1)) 5 (-1)) 6 (-1)) 7 (-1)) 8 (-1)) 9 (-1)) 10 (-1)) 11 (-1)) 12 (-1)) 13 (-1))))]) [0, 1] (by decide) rfl
  have hFc := va_free (wc := [(m, .inr (22, [.int 0, .ref mq1, .int 0, .ref mq2, .int 0, .ref mq3, .int 250, .ref mq4, .int 0, .ref mq5, .ref mq6, .ref mq16, .int 0, .ref mq7, .ref mq8, .ref mq9, .int 0, .null, .int 0, .null, .int 0, .int 0, .int 0, .ref mq10, .int 0, .ref mq11, .ref mq12, .ref mq13, .int 0, .ref mq14, .ref mq15, .int 0])), (mq16, .inl (g.2.1 0, 14, .inl (upd (upd (upd (upd (upd (upd (upd (upd (upd (upd (upd (upd (upd (upd (fun _ => 0) 0 (-1)) 1 (-1)) 2 (-1)) 3 (-1)) 4 (-1)) 5 (-1)) 6 (-1)) 7 (-1)) 8 (-1)) 9 (-1)) 10 (-1)) 11 (-1)) 12 (-1)) 13 (-1))))]) hD hS hA [0, 1] rfl
  refine va_calli (va_runV (As := [.int 3, .int 1]) (rest := []) ⟨hx, hb, hml, hown, hts⟩ (c9_X21_group_6 l g m mq1 mq2 mq3 mq4 mq5 mq6 mq16 mq7 mq8 mq9 mq10 mq11 mq12 mq13 mq14 mq15 _ (upd (upd (upd (upd (upd (upd (upd (upd (upd (upd (upd (upd (upd (upd (fun _ => 0) 0 (-1)) 1 (-1)) 2 (-1)) 3 (-1)) 4 (-1)) 5 (-1)) 6 (-1)) 7 (-1)) 8 (-1)) 9 (-1)) 10 (-1)) 11 (-1)) 12 (-1)) 13 (-1))) (cwV 2 hts g9_law_119 rfl rfl rfl (by decide +kernel) ⟨Nat.le_of_ble_eq_true rfl, Nat.le_of_ble_eq_true rfl⟩) (mPreV (g := g) (wc := [(m, .inr (22, [.int 0, .ref mq1, .int 0, .ref mq2, .int 0, .ref mq3, .int 250, .ref mq4, .int 0, .ref mq5, .ref mq6, .ref mq16, .int 0, .ref mq7, .ref mq8, .ref mq9, .int 0, .null, .int 0, .null, .int 0, .int 0, .int 0, .ref mq10, .int 0, .ref mq11, .ref mq12, .ref mq13, .int 0, .ref mq14, .ref mq15, .int 0])), (mq16, .inl (g.2.1 0, 14, .inl (upd (upd (upd (upd (upd (upd (upd (upd (upd (upd (upd (upd (upd (upd (fun _ => 0) 0 (-1)) 1 (-1)) 2 (-1)) 3 (-1)) 4 (-1)) 5 (-1)) 6 (-1)) 7 (-1)) 8 (-1)) 9 (-1)) 10 (-1)) 11 (-1)) 12 (-1)) 13 (-1))))]) (C := RX21) (ci := 22) (q0 := 0) hE hS hPc hDc hFc rfl rfl) rfl rfl hl.1 rfl (lv_room (Nat.le_of_ble_eq_true rfl)) dL_law_788 ⟨Nat.le_of_ble_eq_true rfl, Nat.le_of_ble_eq_true rfl⟩) hS (fun q _ h => hFc q h) hFc (fun r_2 u t H1 locs ht hvm hw hB hz1 hk1 hS => ?_)
  replace hw : ((upd (upd (upd (upd (upd (upd (upd (upd (upd (upd (upd (upd (upd (upd (fun _ => 0) 0 (-1)) 1 (-1)) 2 (-1)) 3 (-1)) 4 (-1)) 5 (-1)) 6 (-1)) 7 (-1)) 8 (-1)) 9 (-1)) 10 (-1)) 11 (-1)) 12 (-1)) 13 (-1)) 7) = r_2 := Eq.symm hw
  subst hw
  obtain ⟨hP1, hD1⟩ := hB
  rw [ht] at hP1
  obtain ⟨hP, hD⟩ := va_join (wr := [(x, .inr (12, [.ref xq1, .int 0, .ref xq2, .ref xq4, .ref xq5, .ref xq12, .ref xq22, .ref xq23, .int (-1), .ref xq24, .ref xq25, .int 250, .ref xq20, .int 0, .ref xq13, .ref xq14, .ref xq26])), (xq20, .inr (10, [.int 2, .int 7, .ref xq21, .int 7])), (xq21, .inl (g.2.1 0, 14, .inl (upd (upd (upd (upd (upd (upd (upd (upd (upd (upd (upd (upd (upd (upd (fun _ => 0) 0 (-1)) 1 (-1)) 2 (-1)) 3 (-1)) 4 (-1)) 5 (-1)) 6 (-1)) 7 (-1)) 8 (-1)) 9 (-1)) 10 (-1)) 11 (-1)) 12 (-1)) 13 (-1)))), (o, .inl (g.2.1 2, 1, .inr (.inl (vp_updL (fun _ => 0) 0 (-1)))))]) (w1 := [(m, .inr (22, [.int 0, .ref mq1, .int 0, .ref mq2, .int 0, .ref mq3, .int 250, .ref mq4, .int 0, .ref mq5, .ref mq6, .ref mq16, .int 0, .ref mq7, .ref mq8, .ref mq9, .int 0, .null, .int 0, .null, .int 0, .int 0, .int 0, .ref mq10, .int 0, .ref mq11, .ref mq12, .ref mq13, .int 0, .ref mq14, .ref mq15, .int 0])), (mq16, .inl (g.2.1 0, 14, .inl (upd (upd (upd (upd (upd (upd (upd (upd (upd (upd (upd (upd (upd (upd (fun _ => 0) 0 (-1)) 1 (-1)) 2 (-1)) 3 (-1)) 4 (-1)) 5 (-1)) 6 (-1)) 7 (-1)) 8 (-1)) 9 (-1)) 10 (-1)) 11 (-1)) 12 (-1)) 13 (-1))))]) hP hD [0, 1] [2, 3, 4, 5] rfl rfl (by decide) (by decide) hk1 hFc hP1 hD1
  clear hP1 hD1 hPc hDc hFc hk1 hz1 hvm ht
  generalize H1 = H at hP hS ⊢
  have hP : va_P g.1 vwCl [(x, .inr (12, [.ref xq1, .int 0, .ref xq2, .ref xq4, .ref xq5, .ref xq12, .ref xq22, .ref xq23, .int (-1), .ref xq24, .ref xq25, .int 250, .ref xq20, .int 0, .ref xq13, .ref xq14, .ref xq26])), (xq20, .inr (10, [.int 2, .int 7, .ref xq21, .int 7])), (xq21, .inl (g.2.1 0, 14, .inl (upd (upd (upd (upd (upd (upd (upd (upd (upd (upd (upd (upd (upd (upd (fun _ => 0) 0 (-1)) 1 (-1)) 2 (-1)) 3 (-1)) 4 (-1)) 5 (-1)) 6 (-1)) 7 (-1)) 8 (-1)) 9 (-1)) 10 (-1)) 11 (-1)) 12 (-1)) 13 (-1)))), (o, .inl (g.2.1 2, 1, .inr (.inl (vp_updL (fun _ => 0) 0 (-1))))), (m, .inr (22, [.int 0, .ref mq1, .int 0, .ref mq2, .int 0, .ref mq3, .int 250, .ref mq4, .int 0, .ref mq5, .ref mq6, .ref mq16, .int 0, .ref mq7, .ref mq8, .ref mq9, .int 0, .null, .int 0, .null, .int 0, .int 0, .int 0, .ref mq10, .int 0, .ref mq11, .ref mq12, .ref mq13, .int 0, .ref mq14, .ref mq15, .int 0])), (mq16, .inl (g.2.1 0, 14, .inl (upd (upd (upd (upd (upd (upd (upd (upd (upd (upd (upd (upd (upd (upd (fun _ => 0) 0 (-1)) 1 (-1)) 2 (-1)) 3 (-1)) 4 (-1)) 5 (-1)) 6 (-1)) 7 (-1)) 8 (-1)) 9 (-1)) 10 (-1)) 11 (-1)) 12 (-1)) 13 (-1))))] H := hP
  have hD : va_D A [(x, .inr (12, [.ref xq1, .int 0, .ref xq2, .ref xq4, .ref xq5, .ref xq12, .ref xq22, .ref xq23, .int (-1), .ref xq24, .ref xq25, .int 250, .ref xq20, .int 0, .ref xq13, .ref xq14, .ref xq26])), (xq20, .inr (10, [.int 2, .int 7, .ref xq21, .int 7])), (xq21, .inl (g.2.1 0, 14, .inl (upd (upd (upd (upd (upd (upd (upd (upd (upd (upd (upd (upd (upd (upd (fun _ => 0) 0 (-1)) 1 (-1)) 2 (-1)) 3 (-1)) 4 (-1)) 5 (-1)) 6 (-1)) 7 (-1)) 8 (-1)) 9 (-1)) 10 (-1)) 11 (-1)) 12 (-1)) 13 (-1)))), (o, .inl (g.2.1 2, 1, .inr (.inl (vp_updL (fun _ => 0) 0 (-1))))), (m, .inr (22, [.int 0, .ref mq1, .int 0, .ref mq2, .int 0, .ref mq3, .int 250, .ref mq4, .int 0, .ref mq5, .ref mq6, .ref mq16, .int 0, .ref mq7, .ref mq8, .ref mq9, .int 0, .null, .int 0, .null, .int 0, .int 0, .int 0, .ref mq10, .int 0, .ref mq11, .ref mq12, .ref mq13, .int 0, .ref mq14, .ref mq15, .int 0])), (mq16, .inl (g.2.1 0, 14, .inl (upd (upd (upd (upd (upd (upd (upd (upd (upd (upd (upd (upd (upd (upd (fun _ => 0) 0 (-1)) 1 (-1)) 2 (-1)) 3 (-1)) 4 (-1)) 5 (-1)) 6 (-1)) 7 (-1)) 8 (-1)) 9 (-1)) 10 (-1)) 11 (-1)) 12 (-1)) 13 (-1))))] := hD
  refine e_top (y := (-1)) (by rfl) ?_
  refine lv_istore (lv' := [(6, .int (-1)), (5, .int 0), (0, .ref b), (1, .ref x), (2, .ref m), (3, .ref o), (4, .int 0)]) hx hb dL_law_791 hl (by decide) rfl (fun ls hl => ?_)
  refine lv_aload_n hx hb dL_law_793 rfl (lv_at hl 4 rfl) ?_
  have hPc := hP.sub (ws' := [(m, .inr (22, [.int 0, .ref mq1, .int 0, .ref mq2, .int 0, .ref mq3, .int 250, .ref mq4, .int 0, .ref mq5, .ref mq6, .ref mq16, .int 0, .ref mq7, .ref mq8, .ref mq9, .int 0, .null, .int 0, .null, .int 0, .int 0, .int 0, .ref mq10, .int 0, .ref mq11, .ref mq12, .ref mq13, .int 0, .ref mq14, .ref mq15, .int 0]))]) [4] rfl
  have hDc := hD.sub (ws' := [(m, .inr (22, [.int 0, .ref mq1, .int 0, .ref mq2, .int 0, .ref mq3, .int 250, .ref mq4, .int 0, .ref mq5, .ref mq6, .ref mq16, .int 0, .ref mq7, .ref mq8, .ref mq9, .int 0, .null, .int 0, .null, .int 0, .int 0, .int 0, .ref mq10, .int 0, .ref mq11, .ref mq12, .ref mq13, .int 0, .ref mq14, .ref mq15, .int 0]))]) [4] (by decide) rfl
  have hFc := va_free (wc := [(m, .inr (22, [.int 0, .ref mq1, .int 0, .ref mq2, .int 0, .ref mq3, .int 250, .ref mq4, .int 0, .ref mq5, .ref mq6, .ref mq16, .int 0, .ref mq7, .ref mq8, .ref mq9, .int 0, .null, .int 0, .null, .int 0, .int 0, .int 0, .ref mq10, .int 0, .ref mq11, .ref mq12, .ref mq13, .int 0, .ref mq14, .ref mq15, .int 0]))]) hD hS hA [4] rfl
  refine va_calli (va_runV (As := []) (rest := []) ⟨hx, hb, hml, hown, hts⟩ (c9_X21_thrown_1 l g m mq1 mq2 mq3 mq4 mq5 mq6 mq16 mq7 mq8 mq9 mq10 mq11 mq12 mq13 mq14 mq15 _) (cwV 0 hts g9_law_6 rfl rfl rfl (by decide +kernel) ⟨Nat.le_of_ble_eq_true rfl, Nat.le_of_ble_eq_true rfl⟩) (mPreV (g := g) (wc := [(m, .inr (22, [.int 0, .ref mq1, .int 0, .ref mq2, .int 0, .ref mq3, .int 250, .ref mq4, .int 0, .ref mq5, .ref mq6, .ref mq16, .int 0, .ref mq7, .ref mq8, .ref mq9, .int 0, .null, .int 0, .null, .int 0, .int 0, .int 0, .ref mq10, .int 0, .ref mq11, .ref mq12, .ref mq13, .int 0, .ref mq14, .ref mq15, .int 0]))]) (C := RX21) (ci := 22) (q0 := 0) hE hS hPc hDc hFc rfl rfl) rfl rfl hl.1 rfl (lv_room (Nat.le_of_ble_eq_true rfl)) dL_law_794 ⟨Nat.le_of_ble_eq_true rfl, Nat.le_of_ble_eq_true rfl⟩) hS (fun q _ h => hFc q h) hFc (fun r_3 u t H1 locs ht hvm hw hB hz1 hk1 hS => ?_)
  replace hw : 0 = r_3 := Eq.symm hw
  subst hw
  obtain ⟨hP1, hD1⟩ := hB
  rw [ht] at hP1
  obtain ⟨hP, hD⟩ := va_join (wr := [(x, .inr (12, [.ref xq1, .int 0, .ref xq2, .ref xq4, .ref xq5, .ref xq12, .ref xq22, .ref xq23, .int (-1), .ref xq24, .ref xq25, .int 250, .ref xq20, .int 0, .ref xq13, .ref xq14, .ref xq26])), (xq20, .inr (10, [.int 2, .int 7, .ref xq21, .int 7])), (xq21, .inl (g.2.1 0, 14, .inl (upd (upd (upd (upd (upd (upd (upd (upd (upd (upd (upd (upd (upd (upd (fun _ => 0) 0 (-1)) 1 (-1)) 2 (-1)) 3 (-1)) 4 (-1)) 5 (-1)) 6 (-1)) 7 (-1)) 8 (-1)) 9 (-1)) 10 (-1)) 11 (-1)) 12 (-1)) 13 (-1)))), (o, .inl (g.2.1 2, 1, .inr (.inl (vp_updL (fun _ => 0) 0 (-1))))), (mq16, .inl (g.2.1 0, 14, .inl (upd (upd (upd (upd (upd (upd (upd (upd (upd (upd (upd (upd (upd (upd (fun _ => 0) 0 (-1)) 1 (-1)) 2 (-1)) 3 (-1)) 4 (-1)) 5 (-1)) 6 (-1)) 7 (-1)) 8 (-1)) 9 (-1)) 10 (-1)) 11 (-1)) 12 (-1)) 13 (-1))))]) (w1 := [(m, .inr (22, [.int 0, .ref mq1, .int 0, .ref mq2, .int 0, .ref mq3, .int 250, .ref mq4, .int 0, .ref mq5, .ref mq6, .ref mq16, .int 0, .ref mq7, .ref mq8, .ref mq9, .int 0, .null, .int 0, .null, .int 0, .int 0, .int 0, .ref mq10, .int 0, .ref mq11, .ref mq12, .ref mq13, .int 0, .ref mq14, .ref mq15, .int 0]))]) hP hD [4] [0, 1, 2, 3, 5] rfl rfl (by decide) (by decide) hk1 hFc hP1 hD1
  clear hP1 hD1 hPc hDc hFc hk1 hz1 hvm ht
  generalize H1 = H at hP hS ⊢
  have hP : va_P g.1 vwCl [(x, .inr (12, [.ref xq1, .int 0, .ref xq2, .ref xq4, .ref xq5, .ref xq12, .ref xq22, .ref xq23, .int (-1), .ref xq24, .ref xq25, .int 250, .ref xq20, .int 0, .ref xq13, .ref xq14, .ref xq26])), (xq20, .inr (10, [.int 2, .int 7, .ref xq21, .int 7])), (xq21, .inl (g.2.1 0, 14, .inl (upd (upd (upd (upd (upd (upd (upd (upd (upd (upd (upd (upd (upd (upd (fun _ => 0) 0 (-1)) 1 (-1)) 2 (-1)) 3 (-1)) 4 (-1)) 5 (-1)) 6 (-1)) 7 (-1)) 8 (-1)) 9 (-1)) 10 (-1)) 11 (-1)) 12 (-1)) 13 (-1)))), (o, .inl (g.2.1 2, 1, .inr (.inl (vp_updL (fun _ => 0) 0 (-1))))), (mq16, .inl (g.2.1 0, 14, .inl (upd (upd (upd (upd (upd (upd (upd (upd (upd (upd (upd (upd (upd (upd (fun _ => 0) 0 (-1)) 1 (-1)) 2 (-1)) 3 (-1)) 4 (-1)) 5 (-1)) 6 (-1)) 7 (-1)) 8 (-1)) 9 (-1)) 10 (-1)) 11 (-1)) 12 (-1)) 13 (-1)))), (m, .inr (22, [.int 0, .ref mq1, .int 0, .ref mq2, .int 0, .ref mq3, .int 250, .ref mq4, .int 0, .ref mq5, .ref mq6, .ref mq16, .int 0, .ref mq7, .ref mq8, .ref mq9, .int 0, .null, .int 0, .null, .int 0, .int 0, .int 0, .ref mq10, .int 0, .ref mq11, .ref mq12, .ref mq13, .int 0, .ref mq14, .ref mq15, .int 0]))] H := hP
  have hD : va_D A [(x, .inr (12, [.ref xq1, .int 0, .ref xq2, .ref xq4, .ref xq5, .ref xq12, .ref xq22, .ref xq23, .int (-1), .ref xq24, .ref xq25, .int 250, .ref xq20, .int 0, .ref xq13, .ref xq14, .ref xq26])), (xq20, .inr (10, [.int 2, .int 7, .ref xq21, .int 7])), (xq21, .inl (g.2.1 0, 14, .inl (upd (upd (upd (upd (upd (upd (upd (upd (upd (upd (upd (upd (upd (upd (fun _ => 0) 0 (-1)) 1 (-1)) 2 (-1)) 3 (-1)) 4 (-1)) 5 (-1)) 6 (-1)) 7 (-1)) 8 (-1)) 9 (-1)) 10 (-1)) 11 (-1)) 12 (-1)) 13 (-1)))), (o, .inl (g.2.1 2, 1, .inr (.inl (vp_updL (fun _ => 0) 0 (-1))))), (mq16, .inl (g.2.1 0, 14, .inl (upd (upd (upd (upd (upd (upd (upd (upd (upd (upd (upd (upd (upd (upd (fun _ => 0) 0 (-1)) 1 (-1)) 2 (-1)) 3 (-1)) 4 (-1)) 5 (-1)) 6 (-1)) 7 (-1)) 8 (-1)) 9 (-1)) 10 (-1)) 11 (-1)) 12 (-1)) 13 (-1)))), (m, .inr (22, [.int 0, .ref mq1, .int 0, .ref mq2, .int 0, .ref mq3, .int 250, .ref mq4, .int 0, .ref mq5, .ref mq6, .ref mq16, .int 0, .ref mq7, .ref mq8, .ref mq9, .int 0, .null, .int 0, .null, .int 0, .int 0, .int 0, .ref mq10, .int 0, .ref mq11, .ref mq12, .ref mq13, .int 0, .ref mq14, .ref mq15, .int 0]))] := hD
  refine lv_iload hx hb dL_law_797 (lv_at hl 1 rfl) ?_
  refine lv_icmp_eq (tgt := 804) hx hb dL_law_799 (by decide) (fun _ => ?_) (fun c9 => absurd (by decide) c9)
  refine lv_iload hx hb dL_law_804 (lv_at hl 1 rfl) ?_
  refine lv_if_ne (tgt := 821) hx hb dL_law_806 (by decide) (fun c9 => absurd (by decide) c9) (fun _ => ?_)
  refine lv_aload_n hx hb dL_law_809 rfl (lv_at hl 5 rfl) ?_
  refine lv_iconst (v := 0) hx hb dL_law_810 (by decide) ?_
  refine va_lald hx hb hK hP 3 2 rfl rfl (vp_in_nI (n := 0) (by decide) (by decide)) dL_law_811 ?_
  refine e_topv (y := .long (-1)) (by rfl) ?_
  refine lv_iload hx hb dL_law_812 (lv_at hl 0 rfl) ?_
  refine lv_i2l (v := (-1)) hx hb dL_law_814 (by decide) ?_
  refine W.lcmp hx hb dL_law_815 ?_
  refine e_top (y := 0) (by decide) ?_
  refine lv_if_eq (tgt := 821) hx hb dL_law_816 (by decide) (fun _ => ?_) (fun c9 => absurd (by decide) c9)
  refine lv_goto (tgt := 1368) hx hb dL_law_821 (by decide) ?_
  subst hAe
  exact law_end C0 hS (lv_sub hl [2, 6] rfl) (Nat.le_of_ble_eq_true rfl) (Nat.le_of_ble_eq_true rfl)
set_option maxHeartbeats 4000000 in
set_option maxRecDepth 100000 in
theorem law_13_g4p {p : Program} {l : Launch} {e : Env} {s : State} {m9 : MethodId} {below : List Frame} {meth : Method} {c : Code} {g : G9} {b : Nat} {xs : Nat → Int32} (hlt : l.stackTraces = false) (C0 : lw_At p s m9 meth c b 4 xs) (hE : EE g (fun q : Nat => s.heap.size ≤ q) s) (x m o xq1 xq2 xq4 xq5 xq12 xq22 xq23 xq24 xq25 xq20 xq13 xq14 xq26 xq21 mq1 mq2 mq3 mq4 mq5 mq6 mq16 mq7 mq8 mq9 mq10 mq11 mq12 mq13 mq14 mq15 : Nat) (e1 : xs 1 = 4) (x2 : Int32) (e2 : xs 2 = x2) (k_x2 : 1 ≤ x2.toInt ∧ x2.toInt ≤ 2147483647) : ∀ (H : Heap) (locs : List Loc) (ls : Array Slot), va_P g.1 vwCl [(x, .inr (12, [.ref xq1, .int 0, .ref xq2, .ref xq4, .ref xq5, .ref xq12, .ref xq22, .ref xq23, .int (-1), .ref xq24, .ref xq25, .int 250, .ref xq20, .int 0, .ref xq13, .ref xq14, .ref xq26])), (xq20, .inr (10, [.int 2, .int 7, .ref xq21, .int 7])), (xq21, .inl (g.2.1 0, 14, .inl (upd (upd (upd (upd (upd (upd (upd (upd (upd (upd (upd (upd (upd (upd (fun _ => 0) 0 (-1)) 1 (-1)) 2 (-1)) 3 (-1)) 4 (-1)) 5 (-1)) 6 (-1)) 7 (-1)) 8 (-1)) 9 (-1)) 10 (-1)) 11 (-1)) 12 (-1)) 13 (-1)))), (m, .inr (22, [.int 0, .ref mq1, .int 0, .ref mq2, .int 0, .ref mq3, .int 250, .ref mq4, .int 0, .ref mq5, .ref mq6, .ref mq16, .int 0, .ref mq7, .ref mq8, .ref mq9, .int 0, .null, .int 0, .null, .int 0, .int 0, .int 0, .ref mq10, .int 0, .ref mq11, .ref mq12, .ref mq13, .int 0, .ref mq14, .ref mq15, .int 0])), (mq16, .inl (g.2.1 0, 14, .inl (upd (upd (upd (upd (upd (upd (upd (upd (upd (upd (upd (upd (upd (upd (fun _ => 0) 0 (-1)) 1 (-1)) 2 (-1)) 3 (-1)) 4 (-1)) 5 (-1)) 6 (-1)) 7 (-1)) 8 (-1)) 9 (-1)) 10 (-1)) 11 (-1)) 12 (-1)) 13 (-1)))), (o, .inl (g.2.1 2, 1, .inr (.inl (fun _ => 0))))] H → va_D (fun q : Nat => s.heap.size ≤ q) [(x, .inr (12, [.ref xq1, .int 0, .ref xq2, .ref xq4, .ref xq5, .ref xq12, .ref xq22, .ref xq23, .int (-1), .ref xq24, .ref xq25, .int 250, .ref xq20, .int 0, .ref xq13, .ref xq14, .ref xq26])), (xq20, .inr (10, [.int 2, .int 7, .ref xq21, .int 7])), (xq21, .inl (g.2.1 0, 14, .inl (upd (upd (upd (upd (upd (upd (upd (upd (upd (upd (upd (upd (upd (upd (fun _ => 0) 0 (-1)) 1 (-1)) 2 (-1)) 3 (-1)) 4 (-1)) 5 (-1)) 6 (-1)) 7 (-1)) 8 (-1)) 9 (-1)) 10 (-1)) 11 (-1)) 12 (-1)) 13 (-1)))), (m, .inr (22, [.int 0, .ref mq1, .int 0, .ref mq2, .int 0, .ref mq3, .int 250, .ref mq4, .int 0, .ref mq5, .ref mq6, .ref mq16, .int 0, .ref mq7, .ref mq8, .ref mq9, .int 0, .null, .int 0, .null, .int 0, .int 0, .int 0, .ref mq10, .int 0, .ref mq11, .ref mq12, .ref mq13, .int 0, .ref mq14, .ref mq15, .int 0])), (mq16, .inl (g.2.1 0, 14, .inl (upd (upd (upd (upd (upd (upd (upd (upd (upd (upd (upd (upd (upd (upd (fun _ => 0) 0 (-1)) 1 (-1)) 2 (-1)) 3 (-1)) 4 (-1)) 5 (-1)) 6 (-1)) 7 (-1)) 8 (-1)) 9 (-1)) 10 (-1)) 11 (-1)) 12 (-1)) 13 (-1)))), (o, .inl (g.2.1 2, 1, .inr (.inl (fun _ => 0))))] → va_S (fun q : Nat => s.heap.size ≤ q) s.heap H locs → lv_has ls 7 [(0, .ref b), (1, .ref x), (2, .ref m), (3, .ref o), (4, .int 0)] → W p l e room_1 s m9 #[Value.ref b] below meth c H locs 106 7589 (lw_Z below #[Value.ref b] s) (F0 m9 740 ls []) := by
  intro H locs ls hP hD hS hl
  obtain ⟨hx, hb, hr, hml, hown, hts0, hX, hbl, hlocks, hgv⟩ := id C0
  have hts : ∀ w ∈ w9_law, w.before #[Value.ref b] s = true := fun w h => hts0 w (w9_law_in w h)
  generalize hAe : (fun q : Nat => s.heap.size ≤ q) = A at hE hD hS
  have hA : ∀ q : Nat, s.heap.size ≤ q → A q := fun q h => by rw [← hAe]; exact h
  have hbA : ¬ A b := by rw [← hAe]; exact Nat.not_le.mpr hbl
  have hK := hE.1
  refine lv_aload_n hx hb dL_law_740 rfl (lv_at hl 1 rfl) ?_
  refine lv_aload_n hx hb dL_law_741 rfl (lv_at hl 0 rfl) ?_
  refine lv_iload hx hb dL_law_742 (lv_at hl 4 rfl) ?_
  refine lv_iconst (v := 1) hx hb dL_law_744 (by decide) ?_
  refine lv_iadd hx hb dL_law_745 ?_
  refine e_top (y := 1) (by decide) ?_
  refine va_sld hx hb hX hbl hbA hS (vp_in_nI (n := 1) (by decide) (by decide)) dL_law_746 ?_
  refine e_top (y := 4) e1 ?_
  refine lv_aload_n hx hb dL_law_747 rfl (lv_at hl 0 rfl) ?_
  refine lv_iload hx hb dL_law_748 (lv_at hl 4 rfl) ?_
  refine lv_iconst (v := 2) hx hb dL_law_750 (by decide) ?_
  refine lv_iadd hx hb dL_law_751 ?_
  refine e_top (y := 2) (by decide) ?_
  refine va_sld hx hb hX hbl hbA hS (vp_in_nI (n := 2) (by decide) (by decide)) dL_law_752 ?_
  refine e_top (y := x2) e2 ?_
  refine lv_if_eq (tgt := 760) hx hb dL_law_753 (by decide) (fun c9 => absurd c9 (by simp only [Int32.lt_iff_toInt_lt, Int32.le_iff_toInt_le, ← Int32.toInt_inj, show (0 : Int32).toInt = 0 from by decide]; omega)) (fun _ => ?_)
  refine lv_iconst (v := 1) hx hb dL_law_756 (by decide) ?_
  refine lv_goto (tgt := 761) hx hb dL_law_757 (by decide) ?_
  refine lv_aload_n hx hb dL_law_761 rfl (lv_at hl 3 rfl) ?_
  have hPc := hP.sub (ws' := [(x, .inr (12, [.ref xq1, .int 0, .ref xq2, .ref xq4, .ref xq5, .ref xq12, .ref xq22, .ref xq23, .int (-1), .ref xq24, .ref xq25, .int 250, .ref xq20, .int 0, .ref xq13, .ref xq14, .ref xq26])), (xq20, .inr (10, [.int 2, .int 7, .ref xq21, .int 7])), (xq21, .inl (g.2.1 0, 14, .inl (upd (upd (upd (upd (upd (upd (upd (upd (upd (upd (upd (upd (upd (upd (fun _ => 0) 0 (-1)) 1 (-1)) 2 (-1)) 3 (-1)) 4 (-1)) 5 (-1)) 6 (-1)) 7 (-1)) 8 (-1)) 9 (-1)) 10 (-1)) 11 (-1)) 12 (-1)) 13 (-1)))), (o, .inl (g.2.1 2, 1, .inr (.inl (fun _ => 0))))]) [0, 1, 2, 5] rfl
  have hDc := hD.sub (ws' := [(x, .inr (12, [.ref xq1, .int 0, .ref xq2, .ref xq4, .ref xq5, .ref xq12, .ref xq22, .ref xq23, .int (-1), .ref xq24, .ref xq25, .int 250, .ref xq20, .int 0, .ref xq13, .ref xq14, .ref xq26])), (xq20, .inr (10, [.int 2, .int 7, .ref xq21, .int 7])), (xq21, .inl (g.2.1 0, 14, .inl (upd (upd (upd (upd (upd (upd (upd (upd (upd (upd (upd (upd (upd (upd (fun _ => 0) 0 (-1)) 1 (-1)) 2 (-1)) 3 (-1)) 4 (-1)) 5 (-1)) 6 (-1)) 7 (-1)) 8 (-1)) 9 (-1)) 10 (-1)) 11 (-1)) 12 (-1)) 13 (-1)))), (o, .inl (g.2.1 2, 1, .inr (.inl (fun _ => 0))))]) [0, 1, 2, 5] (by decide) rfl
  have hFc := va_free (wc := [(x, .inr (12, [.ref xq1, .int 0, .ref xq2, .ref xq4, .ref xq5, .ref xq12, .ref xq22, .ref xq23, .int (-1), .ref xq24, .ref xq25, .int 250, .ref xq20, .int 0, .ref xq13, .ref xq14, .ref xq26])), (xq20, .inr (10, [.int 2, .int 7, .ref xq21, .int 7])), (xq21, .inl (g.2.1 0, 14, .inl (upd (upd (upd (upd (upd (upd (upd (upd (upd (upd (upd (upd (upd (upd (fun _ => 0) 0 (-1)) 1 (-1)) 2 (-1)) 3 (-1)) 4 (-1)) 5 (-1)) 6 (-1)) 7 (-1)) 8 (-1)) 9 (-1)) 10 (-1)) 11 (-1)) 12 (-1)) 13 (-1)))), (o, .inl (g.2.1 2, 1, .inr (.inl (fun _ => 0))))]) hD hS hA [0, 1, 2, 5] rfl
  refine va_calli (vx_runSW (As := [.ref x, .int 4, .int 1, .ref o]) (rest := []) ⟨hx, hb, hml, hown, hts⟩ (c9_L_group_8 l g x o xq1 xq2 xq4 xq5 xq12 xq22 xq23 xq24 xq25 xq20 xq13 xq14 xq26 xq21 _) (vx_cwSW (bytes := cL_group) (maxL := 5) (ret := (some .int)) (hh := [(0, 10, 13, 21)]) 4 hts g9_law_120 rfl rfl rfl (by decide +kernel) ⟨Nat.le_of_ble_eq_true rfl, Nat.le_of_ble_eq_true rfl⟩) (mPreS (g := g) (wc := [(x, .inr (12, [.ref xq1, .int 0, .ref xq2, .ref xq4, .ref xq5, .ref xq12, .ref xq22, .ref xq23, .int (-1), .ref xq24, .ref xq25, .int 250, .ref xq20, .int 0, .ref xq13, .ref xq14, .ref xq26])), (xq20, .inr (10, [.int 2, .int 7, .ref xq21, .int 7])), (xq21, .inl (g.2.1 0, 14, .inl (upd (upd (upd (upd (upd (upd (upd (upd (upd (upd (upd (upd (upd (upd (fun _ => 0) 0 (-1)) 1 (-1)) 2 (-1)) 3 (-1)) 4 (-1)) 5 (-1)) 6 (-1)) 7 (-1)) 8 (-1)) 9 (-1)) 10 (-1)) 11 (-1)) 12 (-1)) 13 (-1)))), (o, .inl (g.2.1 2, 1, .inr (.inl (fun _ => 0))))]) hE hS hPc hDc hFc) rfl rfl hl.1 rfl (lv_room (Nat.le_of_ble_eq_true rfl)) dL_law_762 ⟨Nat.le_of_ble_eq_true rfl, Nat.le_of_ble_eq_true rfl⟩) hS (fun q _ h => hFc q h) hFc (fun r_1 u t H1 locs ht hvm hw hB hz1 hk1 hS => ?_)
  replace hw : 0 = r_1 := Eq.symm hw
  subst hw
  obtain ⟨hP1, hD1⟩ := hB
  rw [ht] at hP1
  obtain ⟨hP, hD⟩ := va_join (wr := [(m, .inr (22, [.int 0, .ref mq1, .int 0, .ref mq2, .int 0, .ref mq3, .int 250, .ref mq4, .int 0, .ref mq5, .ref mq6, .ref mq16, .int 0, .ref mq7, .ref mq8, .ref mq9, .int 0, .null, .int 0, .null, .int 0, .int 0, .int 0, .ref mq10, .int 0, .ref mq11, .ref mq12, .ref mq13, .int 0, .ref mq14, .ref mq15, .int 0])), (mq16, .inl (g.2.1 0, 14, .inl (upd (upd (upd (upd (upd (upd (upd (upd (upd (upd (upd (upd (upd (upd (fun _ => 0) 0 (-1)) 1 (-1)) 2 (-1)) 3 (-1)) 4 (-1)) 5 (-1)) 6 (-1)) 7 (-1)) 8 (-1)) 9 (-1)) 10 (-1)) 11 (-1)) 12 (-1)) 13 (-1))))]) (w1 := [(x, .inr (12, [.ref xq1, .int 0, .ref xq2, .ref xq4, .ref xq5, .ref xq12, .ref xq22, .ref xq23, .int (-1), .ref xq24, .ref xq25, .int 250, .ref xq20, .int 0, .ref xq13, .ref xq14, .ref xq26])), (xq20, .inr (10, [.int 2, .int 7, .ref xq21, .int 7])), (xq21, .inl (g.2.1 0, 14, .inl (upd (upd (upd (upd (upd (upd (upd (upd (upd (upd (upd (upd (upd (upd (fun _ => 0) 0 (-1)) 1 (-1)) 2 (-1)) 3 (-1)) 4 (-1)) 5 (-1)) 6 (-1)) 7 (-1)) 8 (-1)) 9 (-1)) 10 (-1)) 11 (-1)) 12 (-1)) 13 (-1)))), (o, .inl (g.2.1 2, 1, .inr (.inl (vp_updL (fun _ => 0) 0 (-1)))))]) hP hD [0, 1, 2, 5] [3, 4] rfl rfl (by decide) (by decide) hk1 hFc hP1 hD1
  clear hP1 hD1 hPc hDc hFc hk1 hz1 hvm ht
  generalize H1 = H at hP hS ⊢
  have hP : va_P g.1 vwCl [(m, .inr (22, [.int 0, .ref mq1, .int 0, .ref mq2, .int 0, .ref mq3, .int 250, .ref mq4, .int 0, .ref mq5, .ref mq6, .ref mq16, .int 0, .ref mq7, .ref mq8, .ref mq9, .int 0, .null, .int 0, .null, .int 0, .int 0, .int 0, .ref mq10, .int 0, .ref mq11, .ref mq12, .ref mq13, .int 0, .ref mq14, .ref mq15, .int 0])), (mq16, .inl (g.2.1 0, 14, .inl (upd (upd (upd (upd (upd (upd (upd (upd (upd (upd (upd (upd (upd (upd (fun _ => 0) 0 (-1)) 1 (-1)) 2 (-1)) 3 (-1)) 4 (-1)) 5 (-1)) 6 (-1)) 7 (-1)) 8 (-1)) 9 (-1)) 10 (-1)) 11 (-1)) 12 (-1)) 13 (-1)))), (x, .inr (12, [.ref xq1, .int 0, .ref xq2, .ref xq4, .ref xq5, .ref xq12, .ref xq22, .ref xq23, .int (-1), .ref xq24, .ref xq25, .int 250, .ref xq20, .int 0, .ref xq13, .ref xq14, .ref xq26])), (xq20, .inr (10, [.int 2, .int 7, .ref xq21, .int 7])), (xq21, .inl (g.2.1 0, 14, .inl (upd (upd (upd (upd (upd (upd (upd (upd (upd (upd (upd (upd (upd (upd (fun _ => 0) 0 (-1)) 1 (-1)) 2 (-1)) 3 (-1)) 4 (-1)) 5 (-1)) 6 (-1)) 7 (-1)) 8 (-1)) 9 (-1)) 10 (-1)) 11 (-1)) 12 (-1)) 13 (-1)))), (o, .inl (g.2.1 2, 1, .inr (.inl (vp_updL (fun _ => 0) 0 (-1)))))] H := hP
  have hD : va_D A [(m, .inr (22, [.int 0, .ref mq1, .int 0, .ref mq2, .int 0, .ref mq3, .int 250, .ref mq4, .int 0, .ref mq5, .ref mq6, .ref mq16, .int 0, .ref mq7, .ref mq8, .ref mq9, .int 0, .null, .int 0, .null, .int 0, .int 0, .int 0, .ref mq10, .int 0, .ref mq11, .ref mq12, .ref mq13, .int 0, .ref mq14, .ref mq15, .int 0])), (mq16, .inl (g.2.1 0, 14, .inl (upd (upd (upd (upd (upd (upd (upd (upd (upd (upd (upd (upd (upd (upd (fun _ => 0) 0 (-1)) 1 (-1)) 2 (-1)) 3 (-1)) 4 (-1)) 5 (-1)) 6 (-1)) 7 (-1)) 8 (-1)) 9 (-1)) 10 (-1)) 11 (-1)) 12 (-1)) 13 (-1)))), (x, .inr (12, [.ref xq1, .int 0, .ref xq2, .ref xq4, .ref xq5, .ref xq12, .ref xq22, .ref xq23, .int (-1), .ref xq24, .ref xq25, .int 250, .ref xq20, .int 0, .ref xq13, .ref xq14, .ref xq26])), (xq20, .inr (10, [.int 2, .int 7, .ref xq21, .int 7])), (xq21, .inl (g.2.1 0, 14, .inl (upd (upd (upd (upd (upd (upd (upd (upd (upd (upd (upd (upd (upd (upd (fun _ => 0) 0 (-1)) 1 (-1)) 2 (-1)) 3 (-1)) 4 (-1)) 5 (-1)) 6 (-1)) 7 (-1)) 8 (-1)) 9 (-1)) 10 (-1)) 11 (-1)) 12 (-1)) 13 (-1)))), (o, .inl (g.2.1 2, 1, .inr (.inl (vp_updL (fun _ => 0) 0 (-1)))))] := hD
  refine lv_istore (lv' := [(5, .int 0), (0, .ref b), (1, .ref x), (2, .ref m), (3, .ref o), (4, .int 0)]) hx hb dL_law_765 hl (by decide) rfl (fun ls hl => ?_)
  refine lv_aload_n hx hb dL_law_767 rfl (lv_at hl 3 rfl) ?_
  refine lv_aload_n hx hb dL_law_768 rfl (lv_at hl 1 rfl) ?_
  refine lv_iload hx hb dL_law_769 (lv_at hl 5 rfl) ?_
  refine lv_iconst (v := 1) hx hb dL_law_771 (by decide) ?_
  refine lv_iadd hx hb dL_law_772 ?_
  refine e_top (y := 1) (by decide) ?_
  refine va_sld hx hb hX hbl hbA hS (vp_in_nI (n := 1) (by decide) (by decide)) dL_law_773 ?_
  refine e_top (y := 4) e1 ?_
  refine lv_aload_n hx hb dL_law_774 rfl (lv_at hl 1 rfl) ?_
  refine lv_iload hx hb dL_law_775 (lv_at hl 5 rfl) ?_
  refine lv_iconst (v := 2) hx hb dL_law_777 (by decide) ?_
  refine lv_iadd hx hb dL_law_778 ?_
  refine e_top (y := 2) (by decide) ?_
  refine va_sld hx hb hX hbl hbA hS (vp_in_nI (n := 2) (by decide) (by decide)) dL_law_779 ?_
  refine e_top (y := x2) e2 ?_
  refine lv_if_eq (tgt := 787) hx hb dL_law_780 (by decide) (fun c9 => absurd c9 (by simp only [Int32.lt_iff_toInt_lt, Int32.le_iff_toInt_le, ← Int32.toInt_inj, show (0 : Int32).toInt = 0 from by decide]; omega)) (fun _ => ?_)
  refine lv_iconst (v := 1) hx hb dL_law_783 (by decide) ?_
  refine lv_goto (tgt := 788) hx hb dL_law_784 (by decide) ?_
  have hPc := hP.sub (ws' := [(m, .inr (22, [.int 0, .ref mq1, .int 0, .ref mq2, .int 0, .ref mq3, .int 250, .ref mq4, .int 0, .ref mq5, .ref mq6, .ref mq16, .int 0, .ref mq7, .ref mq8, .ref mq9, .int 0, .null, .int 0, .null, .int 0, .int 0, .int 0, .ref mq10, .int 0, .ref mq11, .ref mq12, .ref mq13, .int 0, .ref mq14, .ref mq15, .int 0])), (mq16, .inl (g.2.1 0, 14, .inl (upd (upd (upd (upd (upd (upd (upd (upd (upd (upd (upd (upd (upd (upd (fun _ => 0) 0 (-1)) 1 (-1)) 2 (-1)) 3 (-1)) 4 (-1)) 5 (-1)) 6 (-1)) 7 (-1)) 8 (-1)) 9 (-1)) 10 (-1)) 11 (-1)) 12 (-1)) 13 (-1))))]) [0, 1] rfl
  have hDc := hD.sub (ws' := [(m, .inr (22, [.int 0, .ref mq1, .int 0, .ref mq2, .int 0, .ref mq3, .int 250, .ref mq4, .int 0, .ref mq5, .ref mq6, .ref mq16, .int 0, .ref mq7, .ref mq8, .ref mq9, .int 0, .null, .int 0, .null, .int 0, .int 0, .int 0, .ref mq10, .int 0, .ref mq11, .ref mq12, .ref mq13, .int 0, .ref mq14, .ref mq15, .int 0])), (mq16, .inl (g.2.1 0, 14, .inl (upd (upd (upd (upd (upd (upd (upd (upd (upd (upd (upd (upd (upd (upd (fun _ => 0) 0 (-1)) 1 (-1)) 2 (-1)) 3 (-1)) 4 (-1)) 5 (-1)) 6 (-1)) 7 (-1)) 8 (-1)) 9 (-1)) 10 (-1)) 11 (-1)) 12 (-1)) 13 (-1))))]) [0, 1] (by decide) rfl
  have hFc := va_free (wc := [(m, .inr (22, [.int 0, .ref mq1, .int 0, .ref mq2, .int 0, .ref mq3, .int 250, .ref mq4, .int 0, .ref mq5, .ref mq6, .ref mq16, .int 0, .ref mq7, .ref mq8, .ref mq9, .int 0, .null, .int 0, .null, .int 0, .int 0, .int 0, .ref mq10, .int 0, .ref mq11, .ref mq12, .ref mq13, .int 0, .ref mq14, .ref mq15, .int 0])), (mq16, .inl (g.2.1 0, 14, .inl (upd (upd (upd (upd (upd (upd (upd (upd (upd (upd (upd (upd (upd (upd (fun _ => 0) 0 (-1)) 1 (-1)) 2 (-1)) 3 (-1)) 4 (-1)) 5 (-1)) 6 (-1)) 7 (-1)) 8 (-1)) 9 (-1)) 10 (-1)) 11 (-1)) 12 (-1)) 13 (-1))))]) hD hS hA [0, 1] rfl
  refine va_calli (va_runV (As := [.int 4, .int 1]) (rest := []) ⟨hx, hb, hml, hown, hts⟩ (c9_X21_group_7 l g m mq1 mq2 mq3 mq4 mq5 mq6 mq16 mq7 mq8 mq9 mq10 mq11 mq12 mq13 mq14 mq15 _ (upd (upd (upd (upd (upd (upd (upd (upd (upd (upd (upd (upd (upd (upd (fun _ => 0) 0 (-1)) 1 (-1)) 2 (-1)) 3 (-1)) 4 (-1)) 5 (-1)) 6 (-1)) 7 (-1)) 8 (-1)) 9 (-1)) 10 (-1)) 11 (-1)) 12 (-1)) 13 (-1))) (cwV 2 hts g9_law_121 rfl rfl rfl (by decide +kernel) ⟨Nat.le_of_ble_eq_true rfl, Nat.le_of_ble_eq_true rfl⟩) (mPreV (g := g) (wc := [(m, .inr (22, [.int 0, .ref mq1, .int 0, .ref mq2, .int 0, .ref mq3, .int 250, .ref mq4, .int 0, .ref mq5, .ref mq6, .ref mq16, .int 0, .ref mq7, .ref mq8, .ref mq9, .int 0, .null, .int 0, .null, .int 0, .int 0, .int 0, .ref mq10, .int 0, .ref mq11, .ref mq12, .ref mq13, .int 0, .ref mq14, .ref mq15, .int 0])), (mq16, .inl (g.2.1 0, 14, .inl (upd (upd (upd (upd (upd (upd (upd (upd (upd (upd (upd (upd (upd (upd (fun _ => 0) 0 (-1)) 1 (-1)) 2 (-1)) 3 (-1)) 4 (-1)) 5 (-1)) 6 (-1)) 7 (-1)) 8 (-1)) 9 (-1)) 10 (-1)) 11 (-1)) 12 (-1)) 13 (-1))))]) (C := RX21) (ci := 22) (q0 := 0) hE hS hPc hDc hFc rfl rfl) rfl rfl hl.1 rfl (lv_room (Nat.le_of_ble_eq_true rfl)) dL_law_788 ⟨Nat.le_of_ble_eq_true rfl, Nat.le_of_ble_eq_true rfl⟩) hS (fun q _ h => hFc q h) hFc (fun r_2 u t H1 locs ht hvm hw hB hz1 hk1 hS => ?_)
  replace hw : ((upd (upd (upd (upd (upd (upd (upd (upd (upd (upd (upd (upd (upd (upd (fun _ => 0) 0 (-1)) 1 (-1)) 2 (-1)) 3 (-1)) 4 (-1)) 5 (-1)) 6 (-1)) 7 (-1)) 8 (-1)) 9 (-1)) 10 (-1)) 11 (-1)) 12 (-1)) 13 (-1)) 9) = r_2 := Eq.symm hw
  subst hw
  obtain ⟨hP1, hD1⟩ := hB
  rw [ht] at hP1
  obtain ⟨hP, hD⟩ := va_join (wr := [(x, .inr (12, [.ref xq1, .int 0, .ref xq2, .ref xq4, .ref xq5, .ref xq12, .ref xq22, .ref xq23, .int (-1), .ref xq24, .ref xq25, .int 250, .ref xq20, .int 0, .ref xq13, .ref xq14, .ref xq26])), (xq20, .inr (10, [.int 2, .int 7, .ref xq21, .int 7])), (xq21, .inl (g.2.1 0, 14, .inl (upd (upd (upd (upd (upd (upd (upd (upd (upd (upd (upd (upd (upd (upd (fun _ => 0) 0 (-1)) 1 (-1)) 2 (-1)) 3 (-1)) 4 (-1)) 5 (-1)) 6 (-1)) 7 (-1)) 8 (-1)) 9 (-1)) 10 (-1)) 11 (-1)) 12 (-1)) 13 (-1)))), (o, .inl (g.2.1 2, 1, .inr (.inl (vp_updL (fun _ => 0) 0 (-1)))))]) (w1 := [(m, .inr (22, [.int 0, .ref mq1, .int 0, .ref mq2, .int 0, .ref mq3, .int 250, .ref mq4, .int 0, .ref mq5, .ref mq6, .ref mq16, .int 0, .ref mq7, .ref mq8, .ref mq9, .int 0, .null, .int 0, .null, .int 0, .int 0, .int 0, .ref mq10, .int 0, .ref mq11, .ref mq12, .ref mq13, .int 0, .ref mq14, .ref mq15, .int 0])), (mq16, .inl (g.2.1 0, 14, .inl (upd (upd (upd (upd (upd (upd (upd (upd (upd (upd (upd (upd (upd (upd (fun _ => 0) 0 (-1)) 1 (-1)) 2 (-1)) 3 (-1)) 4 (-1)) 5 (-1)) 6 (-1)) 7 (-1)) 8 (-1)) 9 (-1)) 10 (-1)) 11 (-1)) 12 (-1)) 13 (-1))))]) hP hD [0, 1] [2, 3, 4, 5] rfl rfl (by decide) (by decide) hk1 hFc hP1 hD1
  clear hP1 hD1 hPc hDc hFc hk1 hz1 hvm ht
  generalize H1 = H at hP hS ⊢
  have hP : va_P g.1 vwCl [(x, .inr (12, [.ref xq1, .int 0, .ref xq2, .ref xq4, .ref xq5, .ref xq12, .ref xq22, .ref xq23, .int (-1), .ref xq24, .ref xq25, .int 250, .ref xq20, .int 0, .ref xq13, .ref xq14, .ref xq26])), (xq20, .inr (10, [.int 2, .int 7, .ref xq21, .int 7])), (xq21, .inl (g.2.1 0, 14, .inl (upd (upd (upd (upd (upd (upd (upd (upd (upd (upd (upd (upd (upd (upd (fun _ => 0) 0 (-1)) 1 (-1)) 2 (-1)) 3 (-1)) 4 (-1)) 5 (-1)) 6 (-1)) 7 (-1)) 8 (-1)) 9 (-1)) 10 (-1)) 11 (-1)) 12 (-1)) 13 (-1)))), (o, .inl (g.2.1 2, 1, .inr (.inl (vp_updL (fun _ => 0) 0 (-1))))), (m, .inr (22, [.int 0, .ref mq1, .int 0, .ref mq2, .int 0, .ref mq3, .int 250, .ref mq4, .int 0, .ref mq5, .ref mq6, .ref mq16, .int 0, .ref mq7, .ref mq8, .ref mq9, .int 0, .null, .int 0, .null, .int 0, .int 0, .int 0, .ref mq10, .int 0, .ref mq11, .ref mq12, .ref mq13, .int 0, .ref mq14, .ref mq15, .int 0])), (mq16, .inl (g.2.1 0, 14, .inl (upd (upd (upd (upd (upd (upd (upd (upd (upd (upd (upd (upd (upd (upd (fun _ => 0) 0 (-1)) 1 (-1)) 2 (-1)) 3 (-1)) 4 (-1)) 5 (-1)) 6 (-1)) 7 (-1)) 8 (-1)) 9 (-1)) 10 (-1)) 11 (-1)) 12 (-1)) 13 (-1))))] H := hP
  have hD : va_D A [(x, .inr (12, [.ref xq1, .int 0, .ref xq2, .ref xq4, .ref xq5, .ref xq12, .ref xq22, .ref xq23, .int (-1), .ref xq24, .ref xq25, .int 250, .ref xq20, .int 0, .ref xq13, .ref xq14, .ref xq26])), (xq20, .inr (10, [.int 2, .int 7, .ref xq21, .int 7])), (xq21, .inl (g.2.1 0, 14, .inl (upd (upd (upd (upd (upd (upd (upd (upd (upd (upd (upd (upd (upd (upd (fun _ => 0) 0 (-1)) 1 (-1)) 2 (-1)) 3 (-1)) 4 (-1)) 5 (-1)) 6 (-1)) 7 (-1)) 8 (-1)) 9 (-1)) 10 (-1)) 11 (-1)) 12 (-1)) 13 (-1)))), (o, .inl (g.2.1 2, 1, .inr (.inl (vp_updL (fun _ => 0) 0 (-1))))), (m, .inr (22, [.int 0, .ref mq1, .int 0, .ref mq2, .int 0, .ref mq3, .int 250, .ref mq4, .int 0, .ref mq5, .ref mq6, .ref mq16, .int 0, .ref mq7, .ref mq8, .ref mq9, .int 0, .null, .int 0, .null, .int 0, .int 0, .int 0, .ref mq10, .int 0, .ref mq11, .ref mq12, .ref mq13, .int 0, .ref mq14, .ref mq15, .int 0])), (mq16, .inl (g.2.1 0, 14, .inl (upd (upd (upd (upd (upd (upd (upd (upd (upd (upd (upd (upd (upd (upd (fun _ => 0) 0 (-1)) 1 (-1)) 2 (-1)) 3 (-1)) 4 (-1)) 5 (-1)) 6 (-1)) 7 (-1)) 8 (-1)) 9 (-1)) 10 (-1)) 11 (-1)) 12 (-1)) 13 (-1))))] := hD
  refine e_top (y := (-1)) (by rfl) ?_
  refine lv_istore (lv' := [(6, .int (-1)), (5, .int 0), (0, .ref b), (1, .ref x), (2, .ref m), (3, .ref o), (4, .int 0)]) hx hb dL_law_791 hl (by decide) rfl (fun ls hl => ?_)
  refine lv_aload_n hx hb dL_law_793 rfl (lv_at hl 4 rfl) ?_
  have hPc := hP.sub (ws' := [(m, .inr (22, [.int 0, .ref mq1, .int 0, .ref mq2, .int 0, .ref mq3, .int 250, .ref mq4, .int 0, .ref mq5, .ref mq6, .ref mq16, .int 0, .ref mq7, .ref mq8, .ref mq9, .int 0, .null, .int 0, .null, .int 0, .int 0, .int 0, .ref mq10, .int 0, .ref mq11, .ref mq12, .ref mq13, .int 0, .ref mq14, .ref mq15, .int 0]))]) [4] rfl
  have hDc := hD.sub (ws' := [(m, .inr (22, [.int 0, .ref mq1, .int 0, .ref mq2, .int 0, .ref mq3, .int 250, .ref mq4, .int 0, .ref mq5, .ref mq6, .ref mq16, .int 0, .ref mq7, .ref mq8, .ref mq9, .int 0, .null, .int 0, .null, .int 0, .int 0, .int 0, .ref mq10, .int 0, .ref mq11, .ref mq12, .ref mq13, .int 0, .ref mq14, .ref mq15, .int 0]))]) [4] (by decide) rfl
  have hFc := va_free (wc := [(m, .inr (22, [.int 0, .ref mq1, .int 0, .ref mq2, .int 0, .ref mq3, .int 250, .ref mq4, .int 0, .ref mq5, .ref mq6, .ref mq16, .int 0, .ref mq7, .ref mq8, .ref mq9, .int 0, .null, .int 0, .null, .int 0, .int 0, .int 0, .ref mq10, .int 0, .ref mq11, .ref mq12, .ref mq13, .int 0, .ref mq14, .ref mq15, .int 0]))]) hD hS hA [4] rfl
  refine va_calli (va_runV (As := []) (rest := []) ⟨hx, hb, hml, hown, hts⟩ (c9_X21_thrown_1 l g m mq1 mq2 mq3 mq4 mq5 mq6 mq16 mq7 mq8 mq9 mq10 mq11 mq12 mq13 mq14 mq15 _) (cwV 0 hts g9_law_6 rfl rfl rfl (by decide +kernel) ⟨Nat.le_of_ble_eq_true rfl, Nat.le_of_ble_eq_true rfl⟩) (mPreV (g := g) (wc := [(m, .inr (22, [.int 0, .ref mq1, .int 0, .ref mq2, .int 0, .ref mq3, .int 250, .ref mq4, .int 0, .ref mq5, .ref mq6, .ref mq16, .int 0, .ref mq7, .ref mq8, .ref mq9, .int 0, .null, .int 0, .null, .int 0, .int 0, .int 0, .ref mq10, .int 0, .ref mq11, .ref mq12, .ref mq13, .int 0, .ref mq14, .ref mq15, .int 0]))]) (C := RX21) (ci := 22) (q0 := 0) hE hS hPc hDc hFc rfl rfl) rfl rfl hl.1 rfl (lv_room (Nat.le_of_ble_eq_true rfl)) dL_law_794 ⟨Nat.le_of_ble_eq_true rfl, Nat.le_of_ble_eq_true rfl⟩) hS (fun q _ h => hFc q h) hFc (fun r_3 u t H1 locs ht hvm hw hB hz1 hk1 hS => ?_)
  replace hw : 0 = r_3 := Eq.symm hw
  subst hw
  obtain ⟨hP1, hD1⟩ := hB
  rw [ht] at hP1
  obtain ⟨hP, hD⟩ := va_join (wr := [(x, .inr (12, [.ref xq1, .int 0, .ref xq2, .ref xq4, .ref xq5, .ref xq12, .ref xq22, .ref xq23, .int (-1), .ref xq24, .ref xq25, .int 250, .ref xq20, .int 0, .ref xq13, .ref xq14, .ref xq26])), (xq20, .inr (10, [.int 2, .int 7, .ref xq21, .int 7])), (xq21, .inl (g.2.1 0, 14, .inl (upd (upd (upd (upd (upd (upd (upd (upd (upd (upd (upd (upd (upd (upd (fun _ => 0) 0 (-1)) 1 (-1)) 2 (-1)) 3 (-1)) 4 (-1)) 5 (-1)) 6 (-1)) 7 (-1)) 8 (-1)) 9 (-1)) 10 (-1)) 11 (-1)) 12 (-1)) 13 (-1)))), (o, .inl (g.2.1 2, 1, .inr (.inl (vp_updL (fun _ => 0) 0 (-1))))), (mq16, .inl (g.2.1 0, 14, .inl (upd (upd (upd (upd (upd (upd (upd (upd (upd (upd (upd (upd (upd (upd (fun _ => 0) 0 (-1)) 1 (-1)) 2 (-1)) 3 (-1)) 4 (-1)) 5 (-1)) 6 (-1)) 7 (-1)) 8 (-1)) 9 (-1)) 10 (-1)) 11 (-1)) 12 (-1)) 13 (-1))))]) (w1 := [(m, .inr (22, [.int 0, .ref mq1, .int 0, .ref mq2, .int 0, .ref mq3, .int 250, .ref mq4, .int 0, .ref mq5, .ref mq6, .ref mq16, .int 0, .ref mq7, .ref mq8, .ref mq9, .int 0, .null, .int 0, .null, .int 0, .int 0, .int 0, .ref mq10, .int 0, .ref mq11, .ref mq12, .ref mq13, .int 0, .ref mq14, .ref mq15, .int 0]))]) hP hD [4] [0, 1, 2, 3, 5] rfl rfl (by decide) (by decide) hk1 hFc hP1 hD1
  clear hP1 hD1 hPc hDc hFc hk1 hz1 hvm ht
  generalize H1 = H at hP hS ⊢
  have hP : va_P g.1 vwCl [(x, .inr (12, [.ref xq1, .int 0, .ref xq2, .ref xq4, .ref xq5, .ref xq12, .ref xq22, .ref xq23, .int (-1), .ref xq24, .ref xq25, .int 250, .ref xq20, .int 0, .ref xq13, .ref xq14, .ref xq26])), (xq20, .inr (10, [.int 2, .int 7, .ref xq21, .int 7])), (xq21, .inl (g.2.1 0, 14, .inl (upd (upd (upd (upd (upd (upd (upd (upd (upd (upd (upd (upd (upd (upd (fun _ => 0) 0 (-1)) 1 (-1)) 2 (-1)) 3 (-1)) 4 (-1)) 5 (-1)) 6 (-1)) 7 (-1)) 8 (-1)) 9 (-1)) 10 (-1)) 11 (-1)) 12 (-1)) 13 (-1)))), (o, .inl (g.2.1 2, 1, .inr (.inl (vp_updL (fun _ => 0) 0 (-1))))), (mq16, .inl (g.2.1 0, 14, .inl (upd (upd (upd (upd (upd (upd (upd (upd (upd (upd (upd (upd (upd (upd (fun _ => 0) 0 (-1)) 1 (-1)) 2 (-1)) 3 (-1)) 4 (-1)) 5 (-1)) 6 (-1)) 7 (-1)) 8 (-1)) 9 (-1)) 10 (-1)) 11 (-1)) 12 (-1)) 13 (-1)))), (m, .inr (22, [.int 0, .ref mq1, .int 0, .ref mq2, .int 0, .ref mq3, .int 250, .ref mq4, .int 0, .ref mq5, .ref mq6, .ref mq16, .int 0, .ref mq7, .ref mq8, .ref mq9, .int 0, .null, .int 0, .null, .int 0, .int 0, .int 0, .ref mq10, .int 0, .ref mq11, .ref mq12, .ref mq13, .int 0, .ref mq14, .ref mq15, .int 0]))] H := hP
  have hD : va_D A [(x, .inr (12, [.ref xq1, .int 0, .ref xq2, .ref xq4, .ref xq5, .ref xq12, .ref xq22, .ref xq23, .int (-1), .ref xq24, .ref xq25, .int 250, .ref xq20, .int 0, .ref xq13, .ref xq14, .ref xq26])), (xq20, .inr (10, [.int 2, .int 7, .ref xq21, .int 7])), (xq21, .inl (g.2.1 0, 14, .inl (upd (upd (upd (upd (upd (upd (upd (upd (upd (upd (upd (upd (upd (upd (fun _ => 0) 0 (-1)) 1 (-1)) 2 (-1)) 3 (-1)) 4 (-1)) 5 (-1)) 6 (-1)) 7 (-1)) 8 (-1)) 9 (-1)) 10 (-1)) 11 (-1)) 12 (-1)) 13 (-1)))), (o, .inl (g.2.1 2, 1, .inr (.inl (vp_updL (fun _ => 0) 0 (-1))))), (mq16, .inl (g.2.1 0, 14, .inl (upd (upd (upd (upd (upd (upd (upd (upd (upd (upd (upd (upd (upd (upd (fun _ => 0) 0 (-1)) 1 (-1)) 2 (-1)) 3 (-1)) 4 (-1)) 5 (-1)) 6 (-1)) 7 (-1)) 8 (-1)) 9 (-1)) 10 (-1)) 11 (-1)) 12 (-1)) 13 (-1)))), (m, .inr (22, [.int 0, .ref mq1, .int 0, .ref mq2, .int 0, .ref mq3, .int 250, .ref mq4, .int 0, .ref mq5, .ref mq6, .ref mq16, .int 0, .ref mq7, .ref mq8, .ref mq9, .int 0, .null, .int 0, .null, .int 0, .int 0, .int 0, .ref mq10, .int 0, .ref mq11, .ref mq12, .ref mq13, .int 0, .ref mq14, .ref mq15, .int 0]))] := hD
  refine lv_iload hx hb dL_law_797 (lv_at hl 1 rfl) ?_
  refine lv_icmp_eq (tgt := 804) hx hb dL_law_799 (by decide) (fun _ => ?_) (fun c9 => absurd (by decide) c9)
  refine lv_iload hx hb dL_law_804 (lv_at hl 1 rfl) ?_
  refine lv_if_ne (tgt := 821) hx hb dL_law_806 (by decide) (fun c9 => absurd (by decide) c9) (fun _ => ?_)
  refine lv_aload_n hx hb dL_law_809 rfl (lv_at hl 5 rfl) ?_
  refine lv_iconst (v := 0) hx hb dL_law_810 (by decide) ?_
  refine va_lald hx hb hK hP 3 2 rfl rfl (vp_in_nI (n := 0) (by decide) (by decide)) dL_law_811 ?_
  refine e_topv (y := .long (-1)) (by rfl) ?_
  refine lv_iload hx hb dL_law_812 (lv_at hl 0 rfl) ?_
  refine lv_i2l (v := (-1)) hx hb dL_law_814 (by decide) ?_
  refine W.lcmp hx hb dL_law_815 ?_
  refine e_top (y := 0) (by decide) ?_
  refine lv_if_eq (tgt := 821) hx hb dL_law_816 (by decide) (fun _ => ?_) (fun c9 => absurd (by decide) c9)
  refine lv_goto (tgt := 1368) hx hb dL_law_821 (by decide) ?_
  subst hAe
  exact law_end C0 hS (lv_sub hl [2, 6] rfl) (Nat.le_of_ble_eq_true rfl) (Nat.le_of_ble_eq_true rfl)
set_option maxHeartbeats 4000000 in
set_option maxRecDepth 100000 in
theorem law_13_g5p {p : Program} {l : Launch} {e : Env} {s : State} {m9 : MethodId} {below : List Frame} {meth : Method} {c : Code} {g : G9} {b : Nat} {xs : Nat → Int32} (hlt : l.stackTraces = false) (C0 : lw_At p s m9 meth c b 4 xs) (hE : EE g (fun q : Nat => s.heap.size ≤ q) s) (x m o xq1 xq2 xq4 xq5 xq12 xq22 xq23 xq24 xq25 xq20 xq13 xq14 xq26 xq21 mq1 mq2 mq3 mq4 mq5 mq6 mq16 mq7 mq8 mq9 mq10 mq11 mq12 mq13 mq14 mq15 : Nat) (e1 : xs 1 = 5) (x2 : Int32) (e2 : xs 2 = x2) (k_x2 : 1 ≤ x2.toInt ∧ x2.toInt ≤ 2147483647) : ∀ (H : Heap) (locs : List Loc) (ls : Array Slot), va_P g.1 vwCl [(x, .inr (12, [.ref xq1, .int 0, .ref xq2, .ref xq4, .ref xq5, .ref xq12, .ref xq22, .ref xq23, .int (-1), .ref xq24, .ref xq25, .int 250, .ref xq20, .int 0, .ref xq13, .ref xq14, .ref xq26])), (xq20, .inr (10, [.int 2, .int 7, .ref xq21, .int 7])), (xq21, .inl (g.2.1 0, 14, .inl (upd (upd (upd (upd (upd (upd (upd (upd (upd (upd (upd (upd (upd (upd (fun _ => 0) 0 (-1)) 1 (-1)) 2 (-1)) 3 (-1)) 4 (-1)) 5 (-1)) 6 (-1)) 7 (-1)) 8 (-1)) 9 (-1)) 10 (-1)) 11 (-1)) 12 (-1)) 13 (-1)))), (m, .inr (22, [.int 0, .ref mq1, .int 0, .ref mq2, .int 0, .ref mq3, .int 250, .ref mq4, .int 0, .ref mq5, .ref mq6, .ref mq16, .int 0, .ref mq7, .ref mq8, .ref mq9, .int 0, .null, .int 0, .null, .int 0, .int 0, .int 0, .ref mq10, .int 0, .ref mq11, .ref mq12, .ref mq13, .int 0, .ref mq14, .ref mq15, .int 0])), (mq16, .inl (g.2.1 0, 14, .inl (upd (upd (upd (upd (upd (upd (upd (upd (upd (upd (upd (upd (upd (upd (fun _ => 0) 0 (-1)) 1 (-1)) 2 (-1)) 3 (-1)) 4 (-1)) 5 (-1)) 6 (-1)) 7 (-1)) 8 (-1)) 9 (-1)) 10 (-1)) 11 (-1)) 12 (-1)) 13 (-1)))), (o, .inl (g.2.1 2, 1, .inr (.inl (fun _ => 0))))] H → va_D (fun q : Nat => s.heap.size ≤ q) [(x, .inr (12, [.ref xq1, .int 0, .ref xq2, .ref xq4, .ref xq5, .ref xq12, .ref xq22, .ref xq23, .int (-1), .ref xq24, .ref xq25, .int 250, .ref xq20, .int 0, .ref xq13, .ref xq14, .ref xq26])), (xq20, .inr (10, [.int 2, .int 7, .ref xq21, .int 7])), (xq21, .inl (g.2.1 0, 14, .inl (upd (upd (upd (upd (upd (upd (upd (upd (upd (upd (upd (upd (upd (upd (fun _ => 0) 0 (-1)) 1 (-1)) 2 (-1)) 3 (-1)) 4 (-1)) 5 (-1)) 6 (-1)) 7 (-1)) 8 (-1)) 9 (-1)) 10 (-1)) 11 (-1)) 12 (-1)) 13 (-1)))), (m, .inr (22, [.int 0, .ref mq1, .int 0, .ref mq2, .int 0, .ref mq3, .int 250, .ref mq4, .int 0, .ref mq5, .ref mq6, .ref mq16, .int 0, .ref mq7, .ref mq8, .ref mq9, .int 0, .null, .int 0, .null, .int 0, .int 0, .int 0, .ref mq10, .int 0, .ref mq11, .ref mq12, .ref mq13, .int 0, .ref mq14, .ref mq15, .int 0])), (mq16, .inl (g.2.1 0, 14, .inl (upd (upd (upd (upd (upd (upd (upd (upd (upd (upd (upd (upd (upd (upd (fun _ => 0) 0 (-1)) 1 (-1)) 2 (-1)) 3 (-1)) 4 (-1)) 5 (-1)) 6 (-1)) 7 (-1)) 8 (-1)) 9 (-1)) 10 (-1)) 11 (-1)) 12 (-1)) 13 (-1)))), (o, .inl (g.2.1 2, 1, .inr (.inl (fun _ => 0))))] → va_S (fun q : Nat => s.heap.size ≤ q) s.heap H locs → lv_has ls 7 [(0, .ref b), (1, .ref x), (2, .ref m), (3, .ref o), (4, .int 0)] → W p l e room_1 s m9 #[Value.ref b] below meth c H locs 106 7589 (lw_Z below #[Value.ref b] s) (F0 m9 740 ls []) := by
  intro H locs ls hP hD hS hl
  obtain ⟨hx, hb, hr, hml, hown, hts0, hX, hbl, hlocks, hgv⟩ := id C0
  have hts : ∀ w ∈ w9_law, w.before #[Value.ref b] s = true := fun w h => hts0 w (w9_law_in w h)
  generalize hAe : (fun q : Nat => s.heap.size ≤ q) = A at hE hD hS
  have hA : ∀ q : Nat, s.heap.size ≤ q → A q := fun q h => by rw [← hAe]; exact h
  have hbA : ¬ A b := by rw [← hAe]; exact Nat.not_le.mpr hbl
  have hK := hE.1
  refine lv_aload_n hx hb dL_law_740 rfl (lv_at hl 1 rfl) ?_
  refine lv_aload_n hx hb dL_law_741 rfl (lv_at hl 0 rfl) ?_
  refine lv_iload hx hb dL_law_742 (lv_at hl 4 rfl) ?_
  refine lv_iconst (v := 1) hx hb dL_law_744 (by decide) ?_
  refine lv_iadd hx hb dL_law_745 ?_
  refine e_top (y := 1) (by decide) ?_
  refine va_sld hx hb hX hbl hbA hS (vp_in_nI (n := 1) (by decide) (by decide)) dL_law_746 ?_
  refine e_top (y := 5) e1 ?_
  refine lv_aload_n hx hb dL_law_747 rfl (lv_at hl 0 rfl) ?_
  refine lv_iload hx hb dL_law_748 (lv_at hl 4 rfl) ?_
  refine lv_iconst (v := 2) hx hb dL_law_750 (by decide) ?_
  refine lv_iadd hx hb dL_law_751 ?_
  refine e_top (y := 2) (by decide) ?_
  refine va_sld hx hb hX hbl hbA hS (vp_in_nI (n := 2) (by decide) (by decide)) dL_law_752 ?_
  refine e_top (y := x2) e2 ?_
  refine lv_if_eq (tgt := 760) hx hb dL_law_753 (by decide) (fun c9 => absurd c9 (by simp only [Int32.lt_iff_toInt_lt, Int32.le_iff_toInt_le, ← Int32.toInt_inj, show (0 : Int32).toInt = 0 from by decide]; omega)) (fun _ => ?_)
  refine lv_iconst (v := 1) hx hb dL_law_756 (by decide) ?_
  refine lv_goto (tgt := 761) hx hb dL_law_757 (by decide) ?_
  refine lv_aload_n hx hb dL_law_761 rfl (lv_at hl 3 rfl) ?_
  have hPc := hP.sub (ws' := [(x, .inr (12, [.ref xq1, .int 0, .ref xq2, .ref xq4, .ref xq5, .ref xq12, .ref xq22, .ref xq23, .int (-1), .ref xq24, .ref xq25, .int 250, .ref xq20, .int 0, .ref xq13, .ref xq14, .ref xq26])), (xq20, .inr (10, [.int 2, .int 7, .ref xq21, .int 7])), (xq21, .inl (g.2.1 0, 14, .inl (upd (upd (upd (upd (upd (upd (upd (upd (upd (upd (upd (upd (upd (upd (fun _ => 0) 0 (-1)) 1 (-1)) 2 (-1)) 3 (-1)) 4 (-1)) 5 (-1)) 6 (-1)) 7 (-1)) 8 (-1)) 9 (-1)) 10 (-1)) 11 (-1)) 12 (-1)) 13 (-1)))), (o, .inl (g.2.1 2, 1, .inr (.inl (fun _ => 0))))]) [0, 1, 2, 5] rfl
  have hDc := hD.sub (ws' := [(x, .inr (12, [.ref xq1, .int 0, .ref xq2, .ref xq4, .ref xq5, .ref xq12, .ref xq22, .ref xq23, .int (-1), .ref xq24, .ref xq25, .int 250, .ref xq20, .int 0, .ref xq13, .ref xq14, .ref xq26])), (xq20, .inr (10, [.int 2, .int 7, .ref xq21, .int 7])), (xq21, .inl (g.2.1 0, 14, .inl (upd (upd (upd (upd (upd (upd (upd (upd (upd (upd (upd (upd (upd (upd (fun _ => 0) 0 (-1)) 1 (-1)) 2 (-1)) 3 (-1)) 4 (-1)) 5 (-1)) 6 (-1)) 7 (-1)) 8 (-1)) 9 (-1)) 10 (-1)) 11 (-1)) 12 (-1)) 13 (-1)))), (o, .inl (g.2.1 2, 1, .inr (.inl (fun _ => 0))))]) [0, 1, 2, 5] (by decide) rfl
  have hFc := va_free (wc := [(x, .inr (12, [.ref xq1, .int 0, .ref xq2, .ref xq4, .ref xq5, .ref xq12, .ref xq22, .ref xq23, .int (-1), .ref xq24, .ref xq25, .int 250, .ref xq20, .int 0, .ref xq13, .ref xq14, .ref xq26])), (xq20, .inr (10, [.int 2, .int 7, .ref xq21, .int 7])), (xq21, .inl (g.2.1 0, 14, .inl (upd (upd (upd (upd (upd (upd (upd (upd (upd (upd (upd (upd (upd (upd (fun _ => 0) 0 (-1)) 1 (-1)) 2 (-1)) 3 (-1)) 4 (-1)) 5 (-1)) 6 (-1)) 7 (-1)) 8 (-1)) 9 (-1)) 10 (-1)) 11 (-1)) 12 (-1)) 13 (-1)))), (o, .inl (g.2.1 2, 1, .inr (.inl (fun _ => 0))))]) hD hS hA [0, 1, 2, 5] rfl
  refine va_calli (vx_runSW (As := [.ref x, .int 5, .int 1, .ref o]) (rest := []) ⟨hx, hb, hml, hown, hts⟩ (c9_L_group_9 l g x o xq1 xq2 xq4 xq5 xq12 xq22 xq23 xq24 xq25 xq20 xq13 xq14 xq26 xq21 _) (vx_cwSW (bytes := cL_group) (maxL := 5) (ret := (some .int)) (hh := [(0, 10, 13, 21)]) 4 hts g9_law_122 rfl rfl rfl (by decide +kernel) ⟨Nat.le_of_ble_eq_true rfl, Nat.le_of_ble_eq_true rfl⟩) (mPreS (g := g) (wc := [(x, .inr (12, [.ref xq1, .int 0, .ref xq2, .ref xq4, .ref xq5, .ref xq12, .ref xq22, .ref xq23, .int (-1), .ref xq24, .ref xq25, .int 250, .ref xq20, .int 0, .ref xq13, .ref xq14, .ref xq26])), (xq20, .inr (10, [.int 2, .int 7, .ref xq21, .int 7])), (xq21, .inl (g.2.1 0, 14, .inl (upd (upd (upd (upd (upd (upd (upd (upd (upd (upd (upd (upd (upd (upd (fun _ => 0) 0 (-1)) 1 (-1)) 2 (-1)) 3 (-1)) 4 (-1)) 5 (-1)) 6 (-1)) 7 (-1)) 8 (-1)) 9 (-1)) 10 (-1)) 11 (-1)) 12 (-1)) 13 (-1)))), (o, .inl (g.2.1 2, 1, .inr (.inl (fun _ => 0))))]) hE hS hPc hDc hFc) rfl rfl hl.1 rfl (lv_room (Nat.le_of_ble_eq_true rfl)) dL_law_762 ⟨Nat.le_of_ble_eq_true rfl, Nat.le_of_ble_eq_true rfl⟩) hS (fun q _ h => hFc q h) hFc (fun r_1 u t H1 locs ht hvm hw hB hz1 hk1 hS => ?_)
  replace hw : 0 = r_1 := Eq.symm hw
  subst hw
  obtain ⟨hP1, hD1⟩ := hB
  rw [ht] at hP1
  obtain ⟨hP, hD⟩ := va_join (wr := [(m, .inr (22, [.int 0, .ref mq1, .int 0, .ref mq2, .int 0, .ref mq3, .int 250, .ref mq4, .int 0, .ref mq5, .ref mq6, .ref mq16, .int 0, .ref mq7, .ref mq8, .ref mq9, .int 0, .null, .int 0, .null, .int 0, .int 0, .int 0, .ref mq10, .int 0, .ref mq11, .ref mq12, .ref mq13, .int 0, .ref mq14, .ref mq15, .int 0])), (mq16, .inl (g.2.1 0, 14, .inl (upd (upd (upd (upd (upd (upd (upd (upd (upd (upd (upd (upd (upd (upd (fun _ => 0) 0 (-1)) 1 (-1)) 2 (-1)) 3 (-1)) 4 (-1)) 5 (-1)) 6 (-1)) 7 (-1)) 8 (-1)) 9 (-1)) 10 (-1)) 11 (-1)) 12 (-1)) 13 (-1))))]) (w1 := [(x, .inr (12, [.ref xq1, .int 0, .ref xq2, .ref xq4, .ref xq5, .ref xq12, .ref xq22, .ref xq23, .int (-1), .ref xq24, .ref xq25, .int 250, .ref xq20, .int 0, .ref xq13, .ref xq14, .ref xq26])), (xq20, .inr (10, [.int 2, .int 7, .ref xq21, .int 7])), (xq21, .inl (g.2.1 0, 14, .inl (upd (upd (upd (upd (upd (upd (upd (upd (upd (upd (upd (upd (upd (upd (fun _ => 0) 0 (-1)) 1 (-1)) 2 (-1)) 3 (-1)) 4 (-1)) 5 (-1)) 6 (-1)) 7 (-1)) 8 (-1)) 9 (-1)) 10 (-1)) 11 (-1)) 12 (-1)) 13 (-1)))), (o, .inl (g.2.1 2, 1, .inr (.inl (vp_updL (fun _ => 0) 0 (-1)))))]) hP hD [0, 1, 2, 5] [3, 4] rfl rfl (by decide) (by decide) hk1 hFc hP1 hD1
  clear hP1 hD1 hPc hDc hFc hk1 hz1 hvm ht
  generalize H1 = H at hP hS ⊢
  have hP : va_P g.1 vwCl [(m, .inr (22, [.int 0, .ref mq1, .int 0, .ref mq2, .int 0, .ref mq3, .int 250, .ref mq4, .int 0, .ref mq5, .ref mq6, .ref mq16, .int 0, .ref mq7, .ref mq8, .ref mq9, .int 0, .null, .int 0, .null, .int 0, .int 0, .int 0, .ref mq10, .int 0, .ref mq11, .ref mq12, .ref mq13, .int 0, .ref mq14, .ref mq15, .int 0])), (mq16, .inl (g.2.1 0, 14, .inl (upd (upd (upd (upd (upd (upd (upd (upd (upd (upd (upd (upd (upd (upd (fun _ => 0) 0 (-1)) 1 (-1)) 2 (-1)) 3 (-1)) 4 (-1)) 5 (-1)) 6 (-1)) 7 (-1)) 8 (-1)) 9 (-1)) 10 (-1)) 11 (-1)) 12 (-1)) 13 (-1)))), (x, .inr (12, [.ref xq1, .int 0, .ref xq2, .ref xq4, .ref xq5, .ref xq12, .ref xq22, .ref xq23, .int (-1), .ref xq24, .ref xq25, .int 250, .ref xq20, .int 0, .ref xq13, .ref xq14, .ref xq26])), (xq20, .inr (10, [.int 2, .int 7, .ref xq21, .int 7])), (xq21, .inl (g.2.1 0, 14, .inl (upd (upd (upd (upd (upd (upd (upd (upd (upd (upd (upd (upd (upd (upd (fun _ => 0) 0 (-1)) 1 (-1)) 2 (-1)) 3 (-1)) 4 (-1)) 5 (-1)) 6 (-1)) 7 (-1)) 8 (-1)) 9 (-1)) 10 (-1)) 11 (-1)) 12 (-1)) 13 (-1)))), (o, .inl (g.2.1 2, 1, .inr (.inl (vp_updL (fun _ => 0) 0 (-1)))))] H := hP
  have hD : va_D A [(m, .inr (22, [.int 0, .ref mq1, .int 0, .ref mq2, .int 0, .ref mq3, .int 250, .ref mq4, .int 0, .ref mq5, .ref mq6, .ref mq16, .int 0, .ref mq7, .ref mq8, .ref mq9, .int 0, .null, .int 0, .null, .int 0, .int 0, .int 0, .ref mq10, .int 0, .ref mq11, .ref mq12, .ref mq13, .int 0, .ref mq14, .ref mq15, .int 0])), (mq16, .inl (g.2.1 0, 14, .inl (upd (upd (upd (upd (upd (upd (upd (upd (upd (upd (upd (upd (upd (upd (fun _ => 0) 0 (-1)) 1 (-1)) 2 (-1)) 3 (-1)) 4 (-1)) 5 (-1)) 6 (-1)) 7 (-1)) 8 (-1)) 9 (-1)) 10 (-1)) 11 (-1)) 12 (-1)) 13 (-1)))), (x, .inr (12, [.ref xq1, .int 0, .ref xq2, .ref xq4, .ref xq5, .ref xq12, .ref xq22, .ref xq23, .int (-1), .ref xq24, .ref xq25, .int 250, .ref xq20, .int 0, .ref xq13, .ref xq14, .ref xq26])), (xq20, .inr (10, [.int 2, .int 7, .ref xq21, .int 7])), (xq21, .inl (g.2.1 0, 14, .inl (upd (upd (upd (upd (upd (upd (upd (upd (upd (upd (upd (upd (upd (upd (fun _ => 0) 0 (-1)) 1 (-1)) 2 (-1)) 3 (-1)) 4 (-1)) 5 (-1)) 6 (-1)) 7 (-1)) 8 (-1)) 9 (-1)) 10 (-1)) 11 (-1)) 12 (-1)) 13 (-1)))), (o, .inl (g.2.1 2, 1, .inr (.inl (vp_updL (fun _ => 0) 0 (-1)))))] := hD
  refine lv_istore (lv' := [(5, .int 0), (0, .ref b), (1, .ref x), (2, .ref m), (3, .ref o), (4, .int 0)]) hx hb dL_law_765 hl (by decide) rfl (fun ls hl => ?_)
  refine lv_aload_n hx hb dL_law_767 rfl (lv_at hl 3 rfl) ?_
  refine lv_aload_n hx hb dL_law_768 rfl (lv_at hl 1 rfl) ?_
  refine lv_iload hx hb dL_law_769 (lv_at hl 5 rfl) ?_
  refine lv_iconst (v := 1) hx hb dL_law_771 (by decide) ?_
  refine lv_iadd hx hb dL_law_772 ?_
  refine e_top (y := 1) (by decide) ?_
  refine va_sld hx hb hX hbl hbA hS (vp_in_nI (n := 1) (by decide) (by decide)) dL_law_773 ?_
  refine e_top (y := 5) e1 ?_
  refine lv_aload_n hx hb dL_law_774 rfl (lv_at hl 1 rfl) ?_
  refine lv_iload hx hb dL_law_775 (lv_at hl 5 rfl) ?_
  refine lv_iconst (v := 2) hx hb dL_law_777 (by decide) ?_
  refine lv_iadd hx hb dL_law_778 ?_
  refine e_top (y := 2) (by decide) ?_
  refine va_sld hx hb hX hbl hbA hS (vp_in_nI (n := 2) (by decide) (by decide)) dL_law_779 ?_
  refine e_top (y := x2) e2 ?_
  refine lv_if_eq (tgt := 787) hx hb dL_law_780 (by decide) (fun c9 => absurd c9 (by simp only [Int32.lt_iff_toInt_lt, Int32.le_iff_toInt_le, ← Int32.toInt_inj, show (0 : Int32).toInt = 0 from by decide]; omega)) (fun _ => ?_)
  refine lv_iconst (v := 1) hx hb dL_law_783 (by decide) ?_
  refine lv_goto (tgt := 788) hx hb dL_law_784 (by decide) ?_
  have hPc := hP.sub (ws' := [(m, .inr (22, [.int 0, .ref mq1, .int 0, .ref mq2, .int 0, .ref mq3, .int 250, .ref mq4, .int 0, .ref mq5, .ref mq6, .ref mq16, .int 0, .ref mq7, .ref mq8, .ref mq9, .int 0, .null, .int 0, .null, .int 0, .int 0, .int 0, .ref mq10, .int 0, .ref mq11, .ref mq12, .ref mq13, .int 0, .ref mq14, .ref mq15, .int 0])), (mq16, .inl (g.2.1 0, 14, .inl (upd (upd (upd (upd (upd (upd (upd (upd (upd (upd (upd (upd (upd (upd (fun _ => 0) 0 (-1)) 1 (-1)) 2 (-1)) 3 (-1)) 4 (-1)) 5 (-1)) 6 (-1)) 7 (-1)) 8 (-1)) 9 (-1)) 10 (-1)) 11 (-1)) 12 (-1)) 13 (-1))))]) [0, 1] rfl
  have hDc := hD.sub (ws' := [(m, .inr (22, [.int 0, .ref mq1, .int 0, .ref mq2, .int 0, .ref mq3, .int 250, .ref mq4, .int 0, .ref mq5, .ref mq6, .ref mq16, .int 0, .ref mq7, .ref mq8, .ref mq9, .int 0, .null, .int 0, .null, .int 0, .int 0, .int 0, .ref mq10, .int 0, .ref mq11, .ref mq12, .ref mq13, .int 0, .ref mq14, .ref mq15, .int 0])), (mq16, .inl (g.2.1 0, 14, .inl (upd (upd (upd (upd (upd (upd (upd (upd (upd (upd (upd (upd (upd (upd (fun _ => 0) 0 (-1)) 1 (-1)) 2 (-1)) 3 (-1)) 4 (-1)) 5 (-1)) 6 (-1)) 7 (-1)) 8 (-1)) 9 (-1)) 10 (-1)) 11 (-1)) 12 (-1)) 13 (-1))))]) [0, 1] (by decide) rfl
  have hFc := va_free (wc := [(m, .inr (22, [.int 0, .ref mq1, .int 0, .ref mq2, .int 0, .ref mq3, .int 250, .ref mq4, .int 0, .ref mq5, .ref mq6, .ref mq16, .int 0, .ref mq7, .ref mq8, .ref mq9, .int 0, .null, .int 0, .null, .int 0, .int 0, .int 0, .ref mq10, .int 0, .ref mq11, .ref mq12, .ref mq13, .int 0, .ref mq14, .ref mq15, .int 0])), (mq16, .inl (g.2.1 0, 14, .inl (upd (upd (upd (upd (upd (upd (upd (upd (upd (upd (upd (upd (upd (upd (fun _ => 0) 0 (-1)) 1 (-1)) 2 (-1)) 3 (-1)) 4 (-1)) 5 (-1)) 6 (-1)) 7 (-1)) 8 (-1)) 9 (-1)) 10 (-1)) 11 (-1)) 12 (-1)) 13 (-1))))]) hD hS hA [0, 1] rfl
  refine va_calli (va_runV (As := [.int 5, .int 1]) (rest := []) ⟨hx, hb, hml, hown, hts⟩ (c9_X21_group_8 l g m mq1 mq2 mq3 mq4 mq5 mq6 mq16 mq7 mq8 mq9 mq10 mq11 mq12 mq13 mq14 mq15 _ (upd (upd (upd (upd (upd (upd (upd (upd (upd (upd (upd (upd (upd (upd (fun _ => 0) 0 (-1)) 1 (-1)) 2 (-1)) 3 (-1)) 4 (-1)) 5 (-1)) 6 (-1)) 7 (-1)) 8 (-1)) 9 (-1)) 10 (-1)) 11 (-1)) 12 (-1)) 13 (-1))) (cwV 2 hts g9_law_123 rfl rfl rfl (by decide +kernel) ⟨Nat.le_of_ble_eq_true rfl, Nat.le_of_ble_eq_true rfl⟩) (mPreV (g := g) (wc := [(m, .inr (22, [.int 0, .ref mq1, .int 0, .ref mq2, .int 0, .ref mq3, .int 250, .ref mq4, .int 0, .ref mq5, .ref mq6, .ref mq16, .int 0, .ref mq7, .ref mq8, .ref mq9, .int 0, .null, .int 0, .null, .int 0, .int 0, .int 0, .ref mq10, .int 0, .ref mq11, .ref mq12, .ref mq13, .int 0, .ref mq14, .ref mq15, .int 0])), (mq16, .inl (g.2.1 0, 14, .inl (upd (upd (upd (upd (upd (upd (upd (upd (upd (upd (upd (upd (upd (upd (fun _ => 0) 0 (-1)) 1 (-1)) 2 (-1)) 3 (-1)) 4 (-1)) 5 (-1)) 6 (-1)) 7 (-1)) 8 (-1)) 9 (-1)) 10 (-1)) 11 (-1)) 12 (-1)) 13 (-1))))]) (C := RX21) (ci := 22) (q0 := 0) hE hS hPc hDc hFc rfl rfl) rfl rfl hl.1 rfl (lv_room (Nat.le_of_ble_eq_true rfl)) dL_law_788 ⟨Nat.le_of_ble_eq_true rfl, Nat.le_of_ble_eq_true rfl⟩) hS (fun q _ h => hFc q h) hFc (fun r_2 u t H1 locs ht hvm hw hB hz1 hk1 hS => ?_)
  replace hw : ((upd (upd (upd (upd (upd (upd (upd (upd (upd (upd (upd (upd (upd (upd (fun _ => 0) 0 (-1)) 1 (-1)) 2 (-1)) 3 (-1)) 4 (-1)) 5 (-1)) 6 (-1)) 7 (-1)) 8 (-1)) 9 (-1)) 10 (-1)) 11 (-1)) 12 (-1)) 13 (-1)) 11) = r_2 := Eq.symm hw
  subst hw
  obtain ⟨hP1, hD1⟩ := hB
  rw [ht] at hP1
  obtain ⟨hP, hD⟩ := va_join (wr := [(x, .inr (12, [.ref xq1, .int 0, .ref xq2, .ref xq4, .ref xq5, .ref xq12, .ref xq22, .ref xq23, .int (-1), .ref xq24, .ref xq25, .int 250, .ref xq20, .int 0, .ref xq13, .ref xq14, .ref xq26])), (xq20, .inr (10, [.int 2, .int 7, .ref xq21, .int 7])), (xq21, .inl (g.2.1 0, 14, .inl (upd (upd (upd (upd (upd (upd (upd (upd (upd (upd (upd (upd (upd (upd (fun _ => 0) 0 (-1)) 1 (-1)) 2 (-1)) 3 (-1)) 4 (-1)) 5 (-1)) 6 (-1)) 7 (-1)) 8 (-1)) 9 (-1)) 10 (-1)) 11 (-1)) 12 (-1)) 13 (-1)))), (o, .inl (g.2.1 2, 1, .inr (.inl (vp_updL (fun _ => 0) 0 (-1)))))]) (w1 := [(m, .inr (22, [.int 0, .ref mq1, .int 0, .ref mq2, .int 0, .ref mq3, .int 250, .ref mq4, .int 0, .ref mq5, .ref mq6, .ref mq16, .int 0, .ref mq7, .ref mq8, .ref mq9, .int 0, .null, .int 0, .null, .int 0, .int 0, .int 0, .ref mq10, .int 0, .ref mq11, .ref mq12, .ref mq13, .int 0, .ref mq14, .ref mq15, .int 0])), (mq16, .inl (g.2.1 0, 14, .inl (upd (upd (upd (upd (upd (upd (upd (upd (upd (upd (upd (upd (upd (upd (fun _ => 0) 0 (-1)) 1 (-1)) 2 (-1)) 3 (-1)) 4 (-1)) 5 (-1)) 6 (-1)) 7 (-1)) 8 (-1)) 9 (-1)) 10 (-1)) 11 (-1)) 12 (-1)) 13 (-1))))]) hP hD [0, 1] [2, 3, 4, 5] rfl rfl (by decide) (by decide) hk1 hFc hP1 hD1
  clear hP1 hD1 hPc hDc hFc hk1 hz1 hvm ht
  generalize H1 = H at hP hS ⊢
  have hP : va_P g.1 vwCl [(x, .inr (12, [.ref xq1, .int 0, .ref xq2, .ref xq4, .ref xq5, .ref xq12, .ref xq22, .ref xq23, .int (-1), .ref xq24, .ref xq25, .int 250, .ref xq20, .int 0, .ref xq13, .ref xq14, .ref xq26])), (xq20, .inr (10, [.int 2, .int 7, .ref xq21, .int 7])), (xq21, .inl (g.2.1 0, 14, .inl (upd (upd (upd (upd (upd (upd (upd (upd (upd (upd (upd (upd (upd (upd (fun _ => 0) 0 (-1)) 1 (-1)) 2 (-1)) 3 (-1)) 4 (-1)) 5 (-1)) 6 (-1)) 7 (-1)) 8 (-1)) 9 (-1)) 10 (-1)) 11 (-1)) 12 (-1)) 13 (-1)))), (o, .inl (g.2.1 2, 1, .inr (.inl (vp_updL (fun _ => 0) 0 (-1))))), (m, .inr (22, [.int 0, .ref mq1, .int 0, .ref mq2, .int 0, .ref mq3, .int 250, .ref mq4, .int 0, .ref mq5, .ref mq6, .ref mq16, .int 0, .ref mq7, .ref mq8, .ref mq9, .int 0, .null, .int 0, .null, .int 0, .int 0, .int 0, .ref mq10, .int 0, .ref mq11, .ref mq12, .ref mq13, .int 0, .ref mq14, .ref mq15, .int 0])), (mq16, .inl (g.2.1 0, 14, .inl (upd (upd (upd (upd (upd (upd (upd (upd (upd (upd (upd (upd (upd (upd (fun _ => 0) 0 (-1)) 1 (-1)) 2 (-1)) 3 (-1)) 4 (-1)) 5 (-1)) 6 (-1)) 7 (-1)) 8 (-1)) 9 (-1)) 10 (-1)) 11 (-1)) 12 (-1)) 13 (-1))))] H := hP
  have hD : va_D A [(x, .inr (12, [.ref xq1, .int 0, .ref xq2, .ref xq4, .ref xq5, .ref xq12, .ref xq22, .ref xq23, .int (-1), .ref xq24, .ref xq25, .int 250, .ref xq20, .int 0, .ref xq13, .ref xq14, .ref xq26])), (xq20, .inr (10, [.int 2, .int 7, .ref xq21, .int 7])), (xq21, .inl (g.2.1 0, 14, .inl (upd (upd (upd (upd (upd (upd (upd (upd (upd (upd (upd (upd (upd (upd (fun _ => 0) 0 (-1)) 1 (-1)) 2 (-1)) 3 (-1)) 4 (-1)) 5 (-1)) 6 (-1)) 7 (-1)) 8 (-1)) 9 (-1)) 10 (-1)) 11 (-1)) 12 (-1)) 13 (-1)))), (o, .inl (g.2.1 2, 1, .inr (.inl (vp_updL (fun _ => 0) 0 (-1))))), (m, .inr (22, [.int 0, .ref mq1, .int 0, .ref mq2, .int 0, .ref mq3, .int 250, .ref mq4, .int 0, .ref mq5, .ref mq6, .ref mq16, .int 0, .ref mq7, .ref mq8, .ref mq9, .int 0, .null, .int 0, .null, .int 0, .int 0, .int 0, .ref mq10, .int 0, .ref mq11, .ref mq12, .ref mq13, .int 0, .ref mq14, .ref mq15, .int 0])), (mq16, .inl (g.2.1 0, 14, .inl (upd (upd (upd (upd (upd (upd (upd (upd (upd (upd (upd (upd (upd (upd (fun _ => 0) 0 (-1)) 1 (-1)) 2 (-1)) 3 (-1)) 4 (-1)) 5 (-1)) 6 (-1)) 7 (-1)) 8 (-1)) 9 (-1)) 10 (-1)) 11 (-1)) 12 (-1)) 13 (-1))))] := hD
  refine e_top (y := (-1)) (by rfl) ?_
  refine lv_istore (lv' := [(6, .int (-1)), (5, .int 0), (0, .ref b), (1, .ref x), (2, .ref m), (3, .ref o), (4, .int 0)]) hx hb dL_law_791 hl (by decide) rfl (fun ls hl => ?_)
  refine lv_aload_n hx hb dL_law_793 rfl (lv_at hl 4 rfl) ?_
  have hPc := hP.sub (ws' := [(m, .inr (22, [.int 0, .ref mq1, .int 0, .ref mq2, .int 0, .ref mq3, .int 250, .ref mq4, .int 0, .ref mq5, .ref mq6, .ref mq16, .int 0, .ref mq7, .ref mq8, .ref mq9, .int 0, .null, .int 0, .null, .int 0, .int 0, .int 0, .ref mq10, .int 0, .ref mq11, .ref mq12, .ref mq13, .int 0, .ref mq14, .ref mq15, .int 0]))]) [4] rfl
  have hDc := hD.sub (ws' := [(m, .inr (22, [.int 0, .ref mq1, .int 0, .ref mq2, .int 0, .ref mq3, .int 250, .ref mq4, .int 0, .ref mq5, .ref mq6, .ref mq16, .int 0, .ref mq7, .ref mq8, .ref mq9, .int 0, .null, .int 0, .null, .int 0, .int 0, .int 0, .ref mq10, .int 0, .ref mq11, .ref mq12, .ref mq13, .int 0, .ref mq14, .ref mq15, .int 0]))]) [4] (by decide) rfl
  have hFc := va_free (wc := [(m, .inr (22, [.int 0, .ref mq1, .int 0, .ref mq2, .int 0, .ref mq3, .int 250, .ref mq4, .int 0, .ref mq5, .ref mq6, .ref mq16, .int 0, .ref mq7, .ref mq8, .ref mq9, .int 0, .null, .int 0, .null, .int 0, .int 0, .int 0, .ref mq10, .int 0, .ref mq11, .ref mq12, .ref mq13, .int 0, .ref mq14, .ref mq15, .int 0]))]) hD hS hA [4] rfl
  refine va_calli (va_runV (As := []) (rest := []) ⟨hx, hb, hml, hown, hts⟩ (c9_X21_thrown_1 l g m mq1 mq2 mq3 mq4 mq5 mq6 mq16 mq7 mq8 mq9 mq10 mq11 mq12 mq13 mq14 mq15 _) (cwV 0 hts g9_law_6 rfl rfl rfl (by decide +kernel) ⟨Nat.le_of_ble_eq_true rfl, Nat.le_of_ble_eq_true rfl⟩) (mPreV (g := g) (wc := [(m, .inr (22, [.int 0, .ref mq1, .int 0, .ref mq2, .int 0, .ref mq3, .int 250, .ref mq4, .int 0, .ref mq5, .ref mq6, .ref mq16, .int 0, .ref mq7, .ref mq8, .ref mq9, .int 0, .null, .int 0, .null, .int 0, .int 0, .int 0, .ref mq10, .int 0, .ref mq11, .ref mq12, .ref mq13, .int 0, .ref mq14, .ref mq15, .int 0]))]) (C := RX21) (ci := 22) (q0 := 0) hE hS hPc hDc hFc rfl rfl) rfl rfl hl.1 rfl (lv_room (Nat.le_of_ble_eq_true rfl)) dL_law_794 ⟨Nat.le_of_ble_eq_true rfl, Nat.le_of_ble_eq_true rfl⟩) hS (fun q _ h => hFc q h) hFc (fun r_3 u t H1 locs ht hvm hw hB hz1 hk1 hS => ?_)
  replace hw : 0 = r_3 := Eq.symm hw
  subst hw
  obtain ⟨hP1, hD1⟩ := hB
  rw [ht] at hP1
  obtain ⟨hP, hD⟩ := va_join (wr := [(x, .inr (12, [.ref xq1, .int 0, .ref xq2, .ref xq4, .ref xq5, .ref xq12, .ref xq22, .ref xq23, .int (-1), .ref xq24, .ref xq25, .int 250, .ref xq20, .int 0, .ref xq13, .ref xq14, .ref xq26])), (xq20, .inr (10, [.int 2, .int 7, .ref xq21, .int 7])), (xq21, .inl (g.2.1 0, 14, .inl (upd (upd (upd (upd (upd (upd (upd (upd (upd (upd (upd (upd (upd (upd (fun _ => 0) 0 (-1)) 1 (-1)) 2 (-1)) 3 (-1)) 4 (-1)) 5 (-1)) 6 (-1)) 7 (-1)) 8 (-1)) 9 (-1)) 10 (-1)) 11 (-1)) 12 (-1)) 13 (-1)))), (o, .inl (g.2.1 2, 1, .inr (.inl (vp_updL (fun _ => 0) 0 (-1))))), (mq16, .inl (g.2.1 0, 14, .inl (upd (upd (upd (upd (upd (upd (upd (upd (upd (upd (upd (upd (upd (upd (fun _ => 0) 0 (-1)) 1 (-1)) 2 (-1)) 3 (-1)) 4 (-1)) 5 (-1)) 6 (-1)) 7 (-1)) 8 (-1)) 9 (-1)) 10 (-1)) 11 (-1)) 12 (-1)) 13 (-1))))]) (w1 := [(m, .inr (22, [.int 0, .ref mq1, .int 0, .ref mq2, .int 0, .ref mq3, .int 250, .ref mq4, .int 0, .ref mq5, .ref mq6, .ref mq16, .int 0, .ref mq7, .ref mq8, .ref mq9, .int 0, .null, .int 0, .null, .int 0, .int 0, .int 0, .ref mq10, .int 0, .ref mq11, .ref mq12, .ref mq13, .int 0, .ref mq14, .ref mq15, .int 0]))]) hP hD [4] [0, 1, 2, 3, 5] rfl rfl (by decide) (by decide) hk1 hFc hP1 hD1
  clear hP1 hD1 hPc hDc hFc hk1 hz1 hvm ht
  generalize H1 = H at hP hS ⊢
  have hP : va_P g.1 vwCl [(x, .inr (12, [.ref xq1, .int 0, .ref xq2, .ref xq4, .ref xq5, .ref xq12, .ref xq22, .ref xq23, .int (-1), .ref xq24, .ref xq25, .int 250, .ref xq20, .int 0, .ref xq13, .ref xq14, .ref xq26])), (xq20, .inr (10, [.int 2, .int 7, .ref xq21, .int 7])), (xq21, .inl (g.2.1 0, 14, .inl (upd (upd (upd (upd (upd (upd (upd (upd (upd (upd (upd (upd (upd (upd (fun _ => 0) 0 (-1)) 1 (-1)) 2 (-1)) 3 (-1)) 4 (-1)) 5 (-1)) 6 (-1)) 7 (-1)) 8 (-1)) 9 (-1)) 10 (-1)) 11 (-1)) 12 (-1)) 13 (-1)))), (o, .inl (g.2.1 2, 1, .inr (.inl (vp_updL (fun _ => 0) 0 (-1))))), (mq16, .inl (g.2.1 0, 14, .inl (upd (upd (upd (upd (upd (upd (upd (upd (upd (upd (upd (upd (upd (upd (fun _ => 0) 0 (-1)) 1 (-1)) 2 (-1)) 3 (-1)) 4 (-1)) 5 (-1)) 6 (-1)) 7 (-1)) 8 (-1)) 9 (-1)) 10 (-1)) 11 (-1)) 12 (-1)) 13 (-1)))), (m, .inr (22, [.int 0, .ref mq1, .int 0, .ref mq2, .int 0, .ref mq3, .int 250, .ref mq4, .int 0, .ref mq5, .ref mq6, .ref mq16, .int 0, .ref mq7, .ref mq8, .ref mq9, .int 0, .null, .int 0, .null, .int 0, .int 0, .int 0, .ref mq10, .int 0, .ref mq11, .ref mq12, .ref mq13, .int 0, .ref mq14, .ref mq15, .int 0]))] H := hP
  have hD : va_D A [(x, .inr (12, [.ref xq1, .int 0, .ref xq2, .ref xq4, .ref xq5, .ref xq12, .ref xq22, .ref xq23, .int (-1), .ref xq24, .ref xq25, .int 250, .ref xq20, .int 0, .ref xq13, .ref xq14, .ref xq26])), (xq20, .inr (10, [.int 2, .int 7, .ref xq21, .int 7])), (xq21, .inl (g.2.1 0, 14, .inl (upd (upd (upd (upd (upd (upd (upd (upd (upd (upd (upd (upd (upd (upd (fun _ => 0) 0 (-1)) 1 (-1)) 2 (-1)) 3 (-1)) 4 (-1)) 5 (-1)) 6 (-1)) 7 (-1)) 8 (-1)) 9 (-1)) 10 (-1)) 11 (-1)) 12 (-1)) 13 (-1)))), (o, .inl (g.2.1 2, 1, .inr (.inl (vp_updL (fun _ => 0) 0 (-1))))), (mq16, .inl (g.2.1 0, 14, .inl (upd (upd (upd (upd (upd (upd (upd (upd (upd (upd (upd (upd (upd (upd (fun _ => 0) 0 (-1)) 1 (-1)) 2 (-1)) 3 (-1)) 4 (-1)) 5 (-1)) 6 (-1)) 7 (-1)) 8 (-1)) 9 (-1)) 10 (-1)) 11 (-1)) 12 (-1)) 13 (-1)))), (m, .inr (22, [.int 0, .ref mq1, .int 0, .ref mq2, .int 0, .ref mq3, .int 250, .ref mq4, .int 0, .ref mq5, .ref mq6, .ref mq16, .int 0, .ref mq7, .ref mq8, .ref mq9, .int 0, .null, .int 0, .null, .int 0, .int 0, .int 0, .ref mq10, .int 0, .ref mq11, .ref mq12, .ref mq13, .int 0, .ref mq14, .ref mq15, .int 0]))] := hD
  refine lv_iload hx hb dL_law_797 (lv_at hl 1 rfl) ?_
  refine lv_icmp_eq (tgt := 804) hx hb dL_law_799 (by decide) (fun _ => ?_) (fun c9 => absurd (by decide) c9)
  refine lv_iload hx hb dL_law_804 (lv_at hl 1 rfl) ?_
  refine lv_if_ne (tgt := 821) hx hb dL_law_806 (by decide) (fun c9 => absurd (by decide) c9) (fun _ => ?_)
  refine lv_aload_n hx hb dL_law_809 rfl (lv_at hl 5 rfl) ?_
  refine lv_iconst (v := 0) hx hb dL_law_810 (by decide) ?_
  refine va_lald hx hb hK hP 3 2 rfl rfl (vp_in_nI (n := 0) (by decide) (by decide)) dL_law_811 ?_
  refine e_topv (y := .long (-1)) (by rfl) ?_
  refine lv_iload hx hb dL_law_812 (lv_at hl 0 rfl) ?_
  refine lv_i2l (v := (-1)) hx hb dL_law_814 (by decide) ?_
  refine W.lcmp hx hb dL_law_815 ?_
  refine e_top (y := 0) (by decide) ?_
  refine lv_if_eq (tgt := 821) hx hb dL_law_816 (by decide) (fun _ => ?_) (fun c9 => absurd (by decide) c9)
  refine lv_goto (tgt := 1368) hx hb dL_law_821 (by decide) ?_
  subst hAe
  exact law_end C0 hS (lv_sub hl [2, 6] rfl) (Nat.le_of_ble_eq_true rfl) (Nat.le_of_ble_eq_true rfl)
set_option maxHeartbeats 4000000 in
set_option maxRecDepth 100000 in
theorem law_13_g6p {p : Program} {l : Launch} {e : Env} {s : State} {m9 : MethodId} {below : List Frame} {meth : Method} {c : Code} {g : G9} {b : Nat} {xs : Nat → Int32} (hlt : l.stackTraces = false) (C0 : lw_At p s m9 meth c b 4 xs) (hE : EE g (fun q : Nat => s.heap.size ≤ q) s) (x m o xq1 xq2 xq4 xq5 xq12 xq22 xq23 xq24 xq25 xq20 xq13 xq14 xq26 xq21 mq1 mq2 mq3 mq4 mq5 mq6 mq16 mq7 mq8 mq9 mq10 mq11 mq12 mq13 mq14 mq15 : Nat) (e1 : xs 1 = 6) (x2 : Int32) (e2 : xs 2 = x2) (k_x2 : 1 ≤ x2.toInt ∧ x2.toInt ≤ 2147483647) : ∀ (H : Heap) (locs : List Loc) (ls : Array Slot), va_P g.1 vwCl [(x, .inr (12, [.ref xq1, .int 0, .ref xq2, .ref xq4, .ref xq5, .ref xq12, .ref xq22, .ref xq23, .int (-1), .ref xq24, .ref xq25, .int 250, .ref xq20, .int 0, .ref xq13, .ref xq14, .ref xq26])), (xq20, .inr (10, [.int 2, .int 7, .ref xq21, .int 7])), (xq21, .inl (g.2.1 0, 14, .inl (upd (upd (upd (upd (upd (upd (upd (upd (upd (upd (upd (upd (upd (upd (fun _ => 0) 0 (-1)) 1 (-1)) 2 (-1)) 3 (-1)) 4 (-1)) 5 (-1)) 6 (-1)) 7 (-1)) 8 (-1)) 9 (-1)) 10 (-1)) 11 (-1)) 12 (-1)) 13 (-1)))), (m, .inr (22, [.int 0, .ref mq1, .int 0, .ref mq2, .int 0, .ref mq3, .int 250, .ref mq4, .int 0, .ref mq5, .ref mq6, .ref mq16, .int 0, .ref mq7, .ref mq8, .ref mq9, .int 0, .null, .int 0, .null, .int 0, .int 0, .int 0, .ref mq10, .int 0, .ref mq11, .ref mq12, .ref mq13, .int 0, .ref mq14, .ref mq15, .int 0])), (mq16, .inl (g.2.1 0, 14, .inl (upd (upd (upd (upd (upd (upd (upd (upd (upd (upd (upd (upd (upd (upd (fun _ => 0) 0 (-1)) 1 (-1)) 2 (-1)) 3 (-1)) 4 (-1)) 5 (-1)) 6 (-1)) 7 (-1)) 8 (-1)) 9 (-1)) 10 (-1)) 11 (-1)) 12 (-1)) 13 (-1)))), (o, .inl (g.2.1 2, 1, .inr (.inl (fun _ => 0))))] H → va_D (fun q : Nat => s.heap.size ≤ q) [(x, .inr (12, [.ref xq1, .int 0, .ref xq2, .ref xq4, .ref xq5, .ref xq12, .ref xq22, .ref xq23, .int (-1), .ref xq24, .ref xq25, .int 250, .ref xq20, .int 0, .ref xq13, .ref xq14, .ref xq26])), (xq20, .inr (10, [.int 2, .int 7, .ref xq21, .int 7])), (xq21, .inl (g.2.1 0, 14, .inl (upd (upd (upd (upd (upd (upd (upd (upd (upd (upd (upd (upd (upd (upd (fun _ => 0) 0 (-1)) 1 (-1)) 2 (-1)) 3 (-1)) 4 (-1)) 5 (-1)) 6 (-1)) 7 (-1)) 8 (-1)) 9 (-1)) 10 (-1)) 11 (-1)) 12 (-1)) 13 (-1)))), (m, .inr (22, [.int 0, .ref mq1, .int 0, .ref mq2, .int 0, .ref mq3, .int 250, .ref mq4, .int 0, .ref mq5, .ref mq6, .ref mq16, .int 0, .ref mq7, .ref mq8, .ref mq9, .int 0, .null, .int 0, .null, .int 0, .int 0, .int 0, .ref mq10, .int 0, .ref mq11, .ref mq12, .ref mq13, .int 0, .ref mq14, .ref mq15, .int 0])), (mq16, .inl (g.2.1 0, 14, .inl (upd (upd (upd (upd (upd (upd (upd (upd (upd (upd (upd (upd (upd (upd (fun _ => 0) 0 (-1)) 1 (-1)) 2 (-1)) 3 (-1)) 4 (-1)) 5 (-1)) 6 (-1)) 7 (-1)) 8 (-1)) 9 (-1)) 10 (-1)) 11 (-1)) 12 (-1)) 13 (-1)))), (o, .inl (g.2.1 2, 1, .inr (.inl (fun _ => 0))))] → va_S (fun q : Nat => s.heap.size ≤ q) s.heap H locs → lv_has ls 7 [(0, .ref b), (1, .ref x), (2, .ref m), (3, .ref o), (4, .int 0)] → W p l e room_1 s m9 #[Value.ref b] below meth c H locs 106 7589 (lw_Z below #[Value.ref b] s) (F0 m9 740 ls []) := by
  intro H locs ls hP hD hS hl
  obtain ⟨hx, hb, hr, hml, hown, hts0, hX, hbl, hlocks, hgv⟩ := id C0
  have hts : ∀ w ∈ w9_law, w.before #[Value.ref b] s = true := fun w h => hts0 w (w9_law_in w h)
  generalize hAe : (fun q : Nat => s.heap.size ≤ q) = A at hE hD hS
  have hA : ∀ q : Nat, s.heap.size ≤ q → A q := fun q h => by rw [← hAe]; exact h
  have hbA : ¬ A b := by rw [← hAe]; exact Nat.not_le.mpr hbl
  have hK := hE.1
  refine lv_aload_n hx hb dL_law_740 rfl (lv_at hl 1 rfl) ?_
  refine lv_aload_n hx hb dL_law_741 rfl (lv_at hl 0 rfl) ?_
  refine lv_iload hx hb dL_law_742 (lv_at hl 4 rfl) ?_
  refine lv_iconst (v := 1) hx hb dL_law_744 (by decide) ?_
  refine lv_iadd hx hb dL_law_745 ?_
  refine e_top (y := 1) (by decide) ?_
  refine va_sld hx hb hX hbl hbA hS (vp_in_nI (n := 1) (by decide) (by decide)) dL_law_746 ?_
  refine e_top (y := 6) e1 ?_
  refine lv_aload_n hx hb dL_law_747 rfl (lv_at hl 0 rfl) ?_
  refine lv_iload hx hb dL_law_748 (lv_at hl 4 rfl) ?_
  refine lv_iconst (v := 2) hx hb dL_law_750 (by decide) ?_
  refine lv_iadd hx hb dL_law_751 ?_
  refine e_top (y := 2) (by decide) ?_
  refine va_sld hx hb hX hbl hbA hS (vp_in_nI (n := 2) (by decide) (by decide)) dL_law_752 ?_
  refine e_top (y := x2) e2 ?_
  refine lv_if_eq (tgt := 760) hx hb dL_law_753 (by decide) (fun c9 => absurd c9 (by simp only [Int32.lt_iff_toInt_lt, Int32.le_iff_toInt_le, ← Int32.toInt_inj, show (0 : Int32).toInt = 0 from by decide]; omega)) (fun _ => ?_)
  refine lv_iconst (v := 1) hx hb dL_law_756 (by decide) ?_
  refine lv_goto (tgt := 761) hx hb dL_law_757 (by decide) ?_
  refine lv_aload_n hx hb dL_law_761 rfl (lv_at hl 3 rfl) ?_
  have hPc := hP.sub (ws' := [(x, .inr (12, [.ref xq1, .int 0, .ref xq2, .ref xq4, .ref xq5, .ref xq12, .ref xq22, .ref xq23, .int (-1), .ref xq24, .ref xq25, .int 250, .ref xq20, .int 0, .ref xq13, .ref xq14, .ref xq26])), (xq20, .inr (10, [.int 2, .int 7, .ref xq21, .int 7])), (xq21, .inl (g.2.1 0, 14, .inl (upd (upd (upd (upd (upd (upd (upd (upd (upd (upd (upd (upd (upd (upd (fun _ => 0) 0 (-1)) 1 (-1)) 2 (-1)) 3 (-1)) 4 (-1)) 5 (-1)) 6 (-1)) 7 (-1)) 8 (-1)) 9 (-1)) 10 (-1)) 11 (-1)) 12 (-1)) 13 (-1)))), (o, .inl (g.2.1 2, 1, .inr (.inl (fun _ => 0))))]) [0, 1, 2, 5] rfl
  have hDc := hD.sub (ws' := [(x, .inr (12, [.ref xq1, .int 0, .ref xq2, .ref xq4, .ref xq5, .ref xq12, .ref xq22, .ref xq23, .int (-1), .ref xq24, .ref xq25, .int 250, .ref xq20, .int 0, .ref xq13, .ref xq14, .ref xq26])), (xq20, .inr (10, [.int 2, .int 7, .ref xq21, .int 7])), (xq21, .inl (g.2.1 0, 14, .inl (upd (upd (upd (upd (upd (upd (upd (upd (upd (upd (upd (upd (upd (upd (fun _ => 0) 0 (-1)) 1 (-1)) 2 (-1)) 3 (-1)) 4 (-1)) 5 (-1)) 6 (-1)) 7 (-1)) 8 (-1)) 9 (-1)) 10 (-1)) 11 (-1)) 12 (-1)) 13 (-1)))), (o, .inl (g.2.1 2, 1, .inr (.inl (fun _ => 0))))]) [0, 1, 2, 5] (by decide) rfl
  have hFc := va_free (wc := [(x, .inr (12, [.ref xq1, .int 0, .ref xq2, .ref xq4, .ref xq5, .ref xq12, .ref xq22, .ref xq23, .int (-1), .ref xq24, .ref xq25, .int 250, .ref xq20, .int 0, .ref xq13, .ref xq14, .ref xq26])), (xq20, .inr (10, [.int 2, .int 7, .ref xq21, .int 7])), (xq21, .inl (g.2.1 0, 14, .inl (upd (upd (upd (upd (upd (upd (upd (upd (upd (upd (upd (upd (upd (upd (fun _ => 0) 0 (-1)) 1 (-1)) 2 (-1)) 3 (-1)) 4 (-1)) 5 (-1)) 6 (-1)) 7 (-1)) 8 (-1)) 9 (-1)) 10 (-1)) 11 (-1)) 12 (-1)) 13 (-1)))), (o, .inl (g.2.1 2, 1, .inr (.inl (fun _ => 0))))]) hD hS hA [0, 1, 2, 5] rfl
  refine va_calli (vx_runSW (As := [.ref x, .int 6, .int 1, .ref o]) (rest := []) ⟨hx, hb, hml, hown, hts⟩ (c9_L_group_10 l g x o xq1 xq2 xq4 xq5 xq12 xq22 xq23 xq24 xq25 xq20 xq13 xq14 xq26 xq21 _) (vx_cwSW (bytes := cL_group) (maxL := 5) (ret := (some .int)) (hh := [(0, 10, 13, 21)]) 4 hts g9_law_124 rfl rfl rfl (by decide +kernel) ⟨Nat.le_of_ble_eq_true rfl, Nat.le_of_ble_eq_true rfl⟩) (mPreS (g := g) (wc := [(x, .inr (12, [.ref xq1, .int 0, .ref xq2, .ref xq4, .ref xq5, .ref xq12, .ref xq22, .ref xq23, .int (-1), .ref xq24, .ref xq25, .int 250, .ref xq20, .int 0, .ref xq13, .ref xq14, .ref xq26])), (xq20, .inr (10, [.int 2, .int 7, .ref xq21, .int 7])), (xq21, .inl (g.2.1 0, 14, .inl (upd (upd (upd (upd (upd (upd (upd (upd (upd (upd (upd (upd (upd (upd (fun _ => 0) 0 (-1)) 1 (-1)) 2 (-1)) 3 (-1)) 4 (-1)) 5 (-1)) 6 (-1)) 7 (-1)) 8 (-1)) 9 (-1)) 10 (-1)) 11 (-1)) 12 (-1)) 13 (-1)))), (o, .inl (g.2.1 2, 1, .inr (.inl (fun _ => 0))))]) hE hS hPc hDc hFc) rfl rfl hl.1 rfl (lv_room (Nat.le_of_ble_eq_true rfl)) dL_law_762 ⟨Nat.le_of_ble_eq_true rfl, Nat.le_of_ble_eq_true rfl⟩) hS (fun q _ h => hFc q h) hFc (fun r_1 u t H1 locs ht hvm hw hB hz1 hk1 hS => ?_)
  replace hw : 0 = r_1 := Eq.symm hw
  subst hw
  obtain ⟨hP1, hD1⟩ := hB
  rw [ht] at hP1
  obtain ⟨hP, hD⟩ := va_join (wr := [(m, .inr (22, [.int 0, .ref mq1, .int 0, .ref mq2, .int 0, .ref mq3, .int 250, .ref mq4, .int 0, .ref mq5, .ref mq6, .ref mq16, .int 0, .ref mq7, .ref mq8, .ref mq9, .int 0, .null, .int 0, .null, .int 0, .int 0, .int 0, .ref mq10, .int 0, .ref mq11, .ref mq12, .ref mq13, .int 0, .ref mq14, .ref mq15, .int 0])), (mq16, .inl (g.2.1 0, 14, .inl (upd (upd (upd (upd (upd (upd (upd (upd (upd (upd (upd (upd (upd (upd (fun _ => 0) 0 (-1)) 1 (-1)) 2 (-1)) 3 (-1)) 4 (-1)) 5 (-1)) 6 (-1)) 7 (-1)) 8 (-1)) 9 (-1)) 10 (-1)) 11 (-1)) 12 (-1)) 13 (-1))))]) (w1 := [(x, .inr (12, [.ref xq1, .int 0, .ref xq2, .ref xq4, .ref xq5, .ref xq12, .ref xq22, .ref xq23, .int (-1), .ref xq24, .ref xq25, .int 250, .ref xq20, .int 0, .ref xq13, .ref xq14, .ref xq26])), (xq20, .inr (10, [.int 2, .int 7, .ref xq21, .int 7])), (xq21, .inl (g.2.1 0, 14, .inl (upd (upd (upd (upd (upd (upd (upd (upd (upd (upd (upd (upd (upd (upd (fun _ => 0) 0 (-1)) 1 (-1)) 2 (-1)) 3 (-1)) 4 (-1)) 5 (-1)) 6 (-1)) 7 (-1)) 8 (-1)) 9 (-1)) 10 (-1)) 11 (-1)) 12 (-1)) 13 (-1)))), (o, .inl (g.2.1 2, 1, .inr (.inl (vp_updL (fun _ => 0) 0 (-1)))))]) hP hD [0, 1, 2, 5] [3, 4] rfl rfl (by decide) (by decide) hk1 hFc hP1 hD1
  clear hP1 hD1 hPc hDc hFc hk1 hz1 hvm ht
  generalize H1 = H at hP hS ⊢
  have hP : va_P g.1 vwCl [(m, .inr (22, [.int 0, .ref mq1, .int 0, .ref mq2, .int 0, .ref mq3, .int 250, .ref mq4, .int 0, .ref mq5, .ref mq6, .ref mq16, .int 0, .ref mq7, .ref mq8, .ref mq9, .int 0, .null, .int 0, .null, .int 0, .int 0, .int 0, .ref mq10, .int 0, .ref mq11, .ref mq12, .ref mq13, .int 0, .ref mq14, .ref mq15, .int 0])), (mq16, .inl (g.2.1 0, 14, .inl (upd (upd (upd (upd (upd (upd (upd (upd (upd (upd (upd (upd (upd (upd (fun _ => 0) 0 (-1)) 1 (-1)) 2 (-1)) 3 (-1)) 4 (-1)) 5 (-1)) 6 (-1)) 7 (-1)) 8 (-1)) 9 (-1)) 10 (-1)) 11 (-1)) 12 (-1)) 13 (-1)))), (x, .inr (12, [.ref xq1, .int 0, .ref xq2, .ref xq4, .ref xq5, .ref xq12, .ref xq22, .ref xq23, .int (-1), .ref xq24, .ref xq25, .int 250, .ref xq20, .int 0, .ref xq13, .ref xq14, .ref xq26])), (xq20, .inr (10, [.int 2, .int 7, .ref xq21, .int 7])), (xq21, .inl (g.2.1 0, 14, .inl (upd (upd (upd (upd (upd (upd (upd (upd (upd (upd (upd (upd (upd (upd (fun _ => 0) 0 (-1)) 1 (-1)) 2 (-1)) 3 (-1)) 4 (-1)) 5 (-1)) 6 (-1)) 7 (-1)) 8 (-1)) 9 (-1)) 10 (-1)) 11 (-1)) 12 (-1)) 13 (-1)))), (o, .inl (g.2.1 2, 1, .inr (.inl (vp_updL (fun _ => 0) 0 (-1)))))] H := hP
  have hD : va_D A [(m, .inr (22, [.int 0, .ref mq1, .int 0, .ref mq2, .int 0, .ref mq3, .int 250, .ref mq4, .int 0, .ref mq5, .ref mq6, .ref mq16, .int 0, .ref mq7, .ref mq8, .ref mq9, .int 0, .null, .int 0, .null, .int 0, .int 0, .int 0, .ref mq10, .int 0, .ref mq11, .ref mq12, .ref mq13, .int 0, .ref mq14, .ref mq15, .int 0])), (mq16, .inl (g.2.1 0, 14, .inl (upd (upd (upd (upd (upd (upd (upd (upd (upd (upd (upd (upd (upd (upd (fun _ => 0) 0 (-1)) 1 (-1)) 2 (-1)) 3 (-1)) 4 (-1)) 5 (-1)) 6 (-1)) 7 (-1)) 8 (-1)) 9 (-1)) 10 (-1)) 11 (-1)) 12 (-1)) 13 (-1)))), (x, .inr (12, [.ref xq1, .int 0, .ref xq2, .ref xq4, .ref xq5, .ref xq12, .ref xq22, .ref xq23, .int (-1), .ref xq24, .ref xq25, .int 250, .ref xq20, .int 0, .ref xq13, .ref xq14, .ref xq26])), (xq20, .inr (10, [.int 2, .int 7, .ref xq21, .int 7])), (xq21, .inl (g.2.1 0, 14, .inl (upd (upd (upd (upd (upd (upd (upd (upd (upd (upd (upd (upd (upd (upd (fun _ => 0) 0 (-1)) 1 (-1)) 2 (-1)) 3 (-1)) 4 (-1)) 5 (-1)) 6 (-1)) 7 (-1)) 8 (-1)) 9 (-1)) 10 (-1)) 11 (-1)) 12 (-1)) 13 (-1)))), (o, .inl (g.2.1 2, 1, .inr (.inl (vp_updL (fun _ => 0) 0 (-1)))))] := hD
  refine lv_istore (lv' := [(5, .int 0), (0, .ref b), (1, .ref x), (2, .ref m), (3, .ref o), (4, .int 0)]) hx hb dL_law_765 hl (by decide) rfl (fun ls hl => ?_)
  refine lv_aload_n hx hb dL_law_767 rfl (lv_at hl 3 rfl) ?_
  refine lv_aload_n hx hb dL_law_768 rfl (lv_at hl 1 rfl) ?_
  refine lv_iload hx hb dL_law_769 (lv_at hl 5 rfl) ?_
  refine lv_iconst (v := 1) hx hb dL_law_771 (by decide) ?_
  refine lv_iadd hx hb dL_law_772 ?_
  refine e_top (y := 1) (by decide) ?_
  refine va_sld hx hb hX hbl hbA hS (vp_in_nI (n := 1) (by decide) (by decide)) dL_law_773 ?_
  refine e_top (y := 6) e1 ?_
  refine lv_aload_n hx hb dL_law_774 rfl (lv_at hl 1 rfl) ?_
  refine lv_iload hx hb dL_law_775 (lv_at hl 5 rfl) ?_
  refine lv_iconst (v := 2) hx hb dL_law_777 (by decide) ?_
  refine lv_iadd hx hb dL_law_778 ?_
  refine e_top (y := 2) (by decide) ?_
  refine va_sld hx hb hX hbl hbA hS (vp_in_nI (n := 2) (by decide) (by decide)) dL_law_779 ?_
  refine e_top (y := x2) e2 ?_
  refine lv_if_eq (tgt := 787) hx hb dL_law_780 (by decide) (fun c9 => absurd c9 (by simp only [Int32.lt_iff_toInt_lt, Int32.le_iff_toInt_le, ← Int32.toInt_inj, show (0 : Int32).toInt = 0 from by decide]; omega)) (fun _ => ?_)
  refine lv_iconst (v := 1) hx hb dL_law_783 (by decide) ?_
  refine lv_goto (tgt := 788) hx hb dL_law_784 (by decide) ?_
  have hPc := hP.sub (ws' := [(m, .inr (22, [.int 0, .ref mq1, .int 0, .ref mq2, .int 0, .ref mq3, .int 250, .ref mq4, .int 0, .ref mq5, .ref mq6, .ref mq16, .int 0, .ref mq7, .ref mq8, .ref mq9, .int 0, .null, .int 0, .null, .int 0, .int 0, .int 0, .ref mq10, .int 0, .ref mq11, .ref mq12, .ref mq13, .int 0, .ref mq14, .ref mq15, .int 0])), (mq16, .inl (g.2.1 0, 14, .inl (upd (upd (upd (upd (upd (upd (upd (upd (upd (upd (upd (upd (upd (upd (fun _ => 0) 0 (-1)) 1 (-1)) 2 (-1)) 3 (-1)) 4 (-1)) 5 (-1)) 6 (-1)) 7 (-1)) 8 (-1)) 9 (-1)) 10 (-1)) 11 (-1)) 12 (-1)) 13 (-1))))]) [0, 1] rfl
  have hDc := hD.sub (ws' := [(m, .inr (22, [.int 0, .ref mq1, .int 0, .ref mq2, .int 0, .ref mq3, .int 250, .ref mq4, .int 0, .ref mq5, .ref mq6, .ref mq16, .int 0, .ref mq7, .ref mq8, .ref mq9, .int 0, .null, .int 0, .null, .int 0, .int 0, .int 0, .ref mq10, .int 0, .ref mq11, .ref mq12, .ref mq13, .int 0, .ref mq14, .ref mq15, .int 0])), (mq16, .inl (g.2.1 0, 14, .inl (upd (upd (upd (upd (upd (upd (upd (upd (upd (upd (upd (upd (upd (upd (fun _ => 0) 0 (-1)) 1 (-1)) 2 (-1)) 3 (-1)) 4 (-1)) 5 (-1)) 6 (-1)) 7 (-1)) 8 (-1)) 9 (-1)) 10 (-1)) 11 (-1)) 12 (-1)) 13 (-1))))]) [0, 1] (by decide) rfl
  have hFc := va_free (wc := [(m, .inr (22, [.int 0, .ref mq1, .int 0, .ref mq2, .int 0, .ref mq3, .int 250, .ref mq4, .int 0, .ref mq5, .ref mq6, .ref mq16, .int 0, .ref mq7, .ref mq8, .ref mq9, .int 0, .null, .int 0, .null, .int 0, .int 0, .int 0, .ref mq10, .int 0, .ref mq11, .ref mq12, .ref mq13, .int 0, .ref mq14, .ref mq15, .int 0])), (mq16, .inl (g.2.1 0, 14, .inl (upd (upd (upd (upd (upd (upd (upd (upd (upd (upd (upd (upd (upd (upd (fun _ => 0) 0 (-1)) 1 (-1)) 2 (-1)) 3 (-1)) 4 (-1)) 5 (-1)) 6 (-1)) 7 (-1)) 8 (-1)) 9 (-1)) 10 (-1)) 11 (-1)) 12 (-1)) 13 (-1))))]) hD hS hA [0, 1] rfl
  refine va_calli (va_runV (As := [.int 6, .int 1]) (rest := []) ⟨hx, hb, hml, hown, hts⟩ (c9_X21_group_9 l g m mq1 mq2 mq3 mq4 mq5 mq6 mq16 mq7 mq8 mq9 mq10 mq11 mq12 mq13 mq14 mq15 _ (upd (upd (upd (upd (upd (upd (upd (upd (upd (upd (upd (upd (upd (upd (fun _ => 0) 0 (-1)) 1 (-1)) 2 (-1)) 3 (-1)) 4 (-1)) 5 (-1)) 6 (-1)) 7 (-1)) 8 (-1)) 9 (-1)) 10 (-1)) 11 (-1)) 12 (-1)) 13 (-1))) (cwV 2 hts g9_law_125 rfl rfl rfl (by decide +kernel) ⟨Nat.le_of_ble_eq_true rfl, Nat.le_of_ble_eq_true rfl⟩) (mPreV (g := g) (wc := [(m, .inr (22, [.int 0, .ref mq1, .int 0, .ref mq2, .int 0, .ref mq3, .int 250, .ref mq4, .int 0, .ref mq5, .ref mq6, .ref mq16, .int 0, .ref mq7, .ref mq8, .ref mq9, .int 0, .null, .int 0, .null, .int 0, .int 0, .int 0, .ref mq10, .int 0, .ref mq11, .ref mq12, .ref mq13, .int 0, .ref mq14, .ref mq15, .int 0])), (mq16, .inl (g.2.1 0, 14, .inl (upd (upd (upd (upd (upd (upd (upd (upd (upd (upd (upd (upd (upd (upd (fun _ => 0) 0 (-1)) 1 (-1)) 2 (-1)) 3 (-1)) 4 (-1)) 5 (-1)) 6 (-1)) 7 (-1)) 8 (-1)) 9 (-1)) 10 (-1)) 11 (-1)) 12 (-1)) 13 (-1))))]) (C := RX21) (ci := 22) (q0 := 0) hE hS hPc hDc hFc rfl rfl) rfl rfl hl.1 rfl (lv_room (Nat.le_of_ble_eq_true rfl)) dL_law_788 ⟨Nat.le_of_ble_eq_true rfl, Nat.le_of_ble_eq_true rfl⟩) hS (fun q _ h => hFc q h) hFc (fun r_2 u t H1 locs ht hvm hw hB hz1 hk1 hS => ?_)
  replace hw : ((upd (upd (upd (upd (upd (upd (upd (upd (upd (upd (upd (upd (upd (upd (fun _ => 0) 0 (-1)) 1 (-1)) 2 (-1)) 3 (-1)) 4 (-1)) 5 (-1)) 6 (-1)) 7 (-1)) 8 (-1)) 9 (-1)) 10 (-1)) 11 (-1)) 12 (-1)) 13 (-1)) 13) = r_2 := Eq.symm hw
  subst hw
  obtain ⟨hP1, hD1⟩ := hB
  rw [ht] at hP1
  obtain ⟨hP, hD⟩ := va_join (wr := [(x, .inr (12, [.ref xq1, .int 0, .ref xq2, .ref xq4, .ref xq5, .ref xq12, .ref xq22, .ref xq23, .int (-1), .ref xq24, .ref xq25, .int 250, .ref xq20, .int 0, .ref xq13, .ref xq14, .ref xq26])), (xq20, .inr (10, [.int 2, .int 7, .ref xq21, .int 7])), (xq21, .inl (g.2.1 0, 14, .inl (upd (upd (upd (upd (upd (upd (upd (upd (upd (upd (upd (upd (upd (upd (fun _ => 0) 0 (-1)) 1 (-1)) 2 (-1)) 3 (-1)) 4 (-1)) 5 (-1)) 6 (-1)) 7 (-1)) 8 (-1)) 9 (-1)) 10 (-1)) 11 (-1)) 12 (-1)) 13 (-1)))), (o, .inl (g.2.1 2, 1, .inr (.inl (vp_updL (fun _ => 0) 0 (-1)))))]) (w1 := [(m, .inr (22, [.int 0, .ref mq1, .int 0, .ref mq2, .int 0, .ref mq3, .int 250, .ref mq4, .int 0, .ref mq5, .ref mq6, .ref mq16, .int 0, .ref mq7, .ref mq8, .ref mq9, .int 0, .null, .int 0, .null, .int 0, .int 0, .int 0, .ref mq10, .int 0, .ref mq11, .ref mq12, .ref mq13, .int 0, .ref mq14, .ref mq15, .int 0])), (mq16, .inl (g.2.1 0, 14, .inl (upd (upd (upd (upd (upd (upd (upd (upd (upd (upd (upd (upd (upd (upd (fun _ => 0) 0 (-1)) 1 (-1)) 2 (-1)) 3 (-1)) 4 (-1)) 5 (-1)) 6 (-1)) 7 (-1)) 8 (-1)) 9 (-1)) 10 (-1)) 11 (-1)) 12 (-1)) 13 (-1))))]) hP hD [0, 1] [2, 3, 4, 5] rfl rfl (by decide) (by decide) hk1 hFc hP1 hD1
  clear hP1 hD1 hPc hDc hFc hk1 hz1 hvm ht
  generalize H1 = H at hP hS ⊢
  have hP : va_P g.1 vwCl [(x, .inr (12, [.ref xq1, .int 0, .ref xq2, .ref xq4, .ref xq5, .ref xq12, .ref xq22, .ref xq23, .int (-1), .ref xq24, .ref xq25, .int 250, .ref xq20, .int 0, .ref xq13, .ref xq14, .ref xq26])), (xq20, .inr (10, [.int 2, .int 7, .ref xq21, .int 7])), (xq21, .inl (g.2.1 0, 14, .inl (upd (upd (upd (upd (upd (upd (upd (upd (upd (upd (upd (upd (upd (upd (fun _ => 0) 0 (-1)) 1 (-1)) 2 (-1)) 3 (-1)) 4 (-1)) 5 (-1)) 6 (-1)) 7 (-1)) 8 (-1)) 9 (-1)) 10 (-1)) 11 (-1)) 12 (-1)) 13 (-1)))), (o, .inl (g.2.1 2, 1, .inr (.inl (vp_updL (fun _ => 0) 0 (-1))))), (m, .inr (22, [.int 0, .ref mq1, .int 0, .ref mq2, .int 0, .ref mq3, .int 250, .ref mq4, .int 0, .ref mq5, .ref mq6, .ref mq16, .int 0, .ref mq7, .ref mq8, .ref mq9, .int 0, .null, .int 0, .null, .int 0, .int 0, .int 0, .ref mq10, .int 0, .ref mq11, .ref mq12, .ref mq13, .int 0, .ref mq14, .ref mq15, .int 0])), (mq16, .inl (g.2.1 0, 14, .inl (upd (upd (upd (upd (upd (upd (upd (upd (upd (upd (upd (upd (upd (upd (fun _ => 0) 0 (-1)) 1 (-1)) 2 (-1)) 3 (-1)) 4 (-1)) 5 (-1)) 6 (-1)) 7 (-1)) 8 (-1)) 9 (-1)) 10 (-1)) 11 (-1)) 12 (-1)) 13 (-1))))] H := hP
  have hD : va_D A [(x, .inr (12, [.ref xq1, .int 0, .ref xq2, .ref xq4, .ref xq5, .ref xq12, .ref xq22, .ref xq23, .int (-1), .ref xq24, .ref xq25, .int 250, .ref xq20, .int 0, .ref xq13, .ref xq14, .ref xq26])), (xq20, .inr (10, [.int 2, .int 7, .ref xq21, .int 7])), (xq21, .inl (g.2.1 0, 14, .inl (upd (upd (upd (upd (upd (upd (upd (upd (upd (upd (upd (upd (upd (upd (fun _ => 0) 0 (-1)) 1 (-1)) 2 (-1)) 3 (-1)) 4 (-1)) 5 (-1)) 6 (-1)) 7 (-1)) 8 (-1)) 9 (-1)) 10 (-1)) 11 (-1)) 12 (-1)) 13 (-1)))), (o, .inl (g.2.1 2, 1, .inr (.inl (vp_updL (fun _ => 0) 0 (-1))))), (m, .inr (22, [.int 0, .ref mq1, .int 0, .ref mq2, .int 0, .ref mq3, .int 250, .ref mq4, .int 0, .ref mq5, .ref mq6, .ref mq16, .int 0, .ref mq7, .ref mq8, .ref mq9, .int 0, .null, .int 0, .null, .int 0, .int 0, .int 0, .ref mq10, .int 0, .ref mq11, .ref mq12, .ref mq13, .int 0, .ref mq14, .ref mq15, .int 0])), (mq16, .inl (g.2.1 0, 14, .inl (upd (upd (upd (upd (upd (upd (upd (upd (upd (upd (upd (upd (upd (upd (fun _ => 0) 0 (-1)) 1 (-1)) 2 (-1)) 3 (-1)) 4 (-1)) 5 (-1)) 6 (-1)) 7 (-1)) 8 (-1)) 9 (-1)) 10 (-1)) 11 (-1)) 12 (-1)) 13 (-1))))] := hD
  refine e_top (y := (-1)) (by rfl) ?_
  refine lv_istore (lv' := [(6, .int (-1)), (5, .int 0), (0, .ref b), (1, .ref x), (2, .ref m), (3, .ref o), (4, .int 0)]) hx hb dL_law_791 hl (by decide) rfl (fun ls hl => ?_)
  refine lv_aload_n hx hb dL_law_793 rfl (lv_at hl 4 rfl) ?_
  have hPc := hP.sub (ws' := [(m, .inr (22, [.int 0, .ref mq1, .int 0, .ref mq2, .int 0, .ref mq3, .int 250, .ref mq4, .int 0, .ref mq5, .ref mq6, .ref mq16, .int 0, .ref mq7, .ref mq8, .ref mq9, .int 0, .null, .int 0, .null, .int 0, .int 0, .int 0, .ref mq10, .int 0, .ref mq11, .ref mq12, .ref mq13, .int 0, .ref mq14, .ref mq15, .int 0]))]) [4] rfl
  have hDc := hD.sub (ws' := [(m, .inr (22, [.int 0, .ref mq1, .int 0, .ref mq2, .int 0, .ref mq3, .int 250, .ref mq4, .int 0, .ref mq5, .ref mq6, .ref mq16, .int 0, .ref mq7, .ref mq8, .ref mq9, .int 0, .null, .int 0, .null, .int 0, .int 0, .int 0, .ref mq10, .int 0, .ref mq11, .ref mq12, .ref mq13, .int 0, .ref mq14, .ref mq15, .int 0]))]) [4] (by decide) rfl
  have hFc := va_free (wc := [(m, .inr (22, [.int 0, .ref mq1, .int 0, .ref mq2, .int 0, .ref mq3, .int 250, .ref mq4, .int 0, .ref mq5, .ref mq6, .ref mq16, .int 0, .ref mq7, .ref mq8, .ref mq9, .int 0, .null, .int 0, .null, .int 0, .int 0, .int 0, .ref mq10, .int 0, .ref mq11, .ref mq12, .ref mq13, .int 0, .ref mq14, .ref mq15, .int 0]))]) hD hS hA [4] rfl
  refine va_calli (va_runV (As := []) (rest := []) ⟨hx, hb, hml, hown, hts⟩ (c9_X21_thrown_1 l g m mq1 mq2 mq3 mq4 mq5 mq6 mq16 mq7 mq8 mq9 mq10 mq11 mq12 mq13 mq14 mq15 _) (cwV 0 hts g9_law_6 rfl rfl rfl (by decide +kernel) ⟨Nat.le_of_ble_eq_true rfl, Nat.le_of_ble_eq_true rfl⟩) (mPreV (g := g) (wc := [(m, .inr (22, [.int 0, .ref mq1, .int 0, .ref mq2, .int 0, .ref mq3, .int 250, .ref mq4, .int 0, .ref mq5, .ref mq6, .ref mq16, .int 0, .ref mq7, .ref mq8, .ref mq9, .int 0, .null, .int 0, .null, .int 0, .int 0, .int 0, .ref mq10, .int 0, .ref mq11, .ref mq12, .ref mq13, .int 0, .ref mq14, .ref mq15, .int 0]))]) (C := RX21) (ci := 22) (q0 := 0) hE hS hPc hDc hFc rfl rfl) rfl rfl hl.1 rfl (lv_room (Nat.le_of_ble_eq_true rfl)) dL_law_794 ⟨Nat.le_of_ble_eq_true rfl, Nat.le_of_ble_eq_true rfl⟩) hS (fun q _ h => hFc q h) hFc (fun r_3 u t H1 locs ht hvm hw hB hz1 hk1 hS => ?_)
  replace hw : 0 = r_3 := Eq.symm hw
  subst hw
  obtain ⟨hP1, hD1⟩ := hB
  rw [ht] at hP1
  obtain ⟨hP, hD⟩ := va_join (wr := [(x, .inr (12, [.ref xq1, .int 0, .ref xq2, .ref xq4, .ref xq5, .ref xq12, .ref xq22, .ref xq23, .int (-1), .ref xq24, .ref xq25, .int 250, .ref xq20, .int 0, .ref xq13, .ref xq14, .ref xq26])), (xq20, .inr (10, [.int 2, .int 7, .ref xq21, .int 7])), (xq21, .inl (g.2.1 0, 14, .inl (upd (upd (upd (upd (upd (upd (upd (upd (upd (upd (upd (upd (upd (upd (fun _ => 0) 0 (-1)) 1 (-1)) 2 (-1)) 3 (-1)) 4 (-1)) 5 (-1)) 6 (-1)) 7 (-1)) 8 (-1)) 9 (-1)) 10 (-1)) 11 (-1)) 12 (-1)) 13 (-1)))), (o, .inl (g.2.1 2, 1, .inr (.inl (vp_updL (fun _ => 0) 0 (-1))))), (mq16, .inl (g.2.1 0, 14, .inl (upd (upd (upd (upd (upd (upd (upd (upd (upd (upd (upd (upd (upd (upd (fun _ => 0) 0 (-1)) 1 (-1)) 2 (-1)) 3 (-1)) 4 (-1)) 5 (-1)) 6 (-1)) 7 (-1)) 8 (-1)) 9 (-1)) 10 (-1)) 11 (-1)) 12 (-1)) 13 (-1))))]) (w1 := [(m, .inr (22, [.int 0, .ref mq1, .int 0, .ref mq2, .int 0, .ref mq3, .int 250, .ref mq4, .int 0, .ref mq5, .ref mq6, .ref mq16, .int 0, .ref mq7, .ref mq8, .ref mq9, .int 0, .null, .int 0, .null, .int 0, .int 0, .int 0, .ref mq10, .int 0, .ref mq11, .ref mq12, .ref mq13, .int 0, .ref mq14, .ref mq15, .int 0]))]) hP hD [4] [0, 1, 2, 3, 5] rfl rfl (by decide) (by decide) hk1 hFc hP1 hD1
  clear hP1 hD1 hPc hDc hFc hk1 hz1 hvm ht
  generalize H1 = H at hP hS ⊢
  have hP : va_P g.1 vwCl [(x, .inr (12, [.ref xq1, .int 0, .ref xq2, .ref xq4, .ref xq5, .ref xq12, .ref xq22, .ref xq23, .int (-1), .ref xq24, .ref xq25, .int 250, .ref xq20, .int 0, .ref xq13, .ref xq14, .ref xq26])), (xq20, .inr (10, [.int 2, .int 7, .ref xq21, .int 7])), (xq21, .inl (g.2.1 0, 14, .inl (upd (upd (upd (upd (upd (upd (upd (upd (upd (upd (upd (upd (upd (upd (fun _ => 0) 0 (-1)) 1 (-1)) 2 (-1)) 3 (-1)) 4 (-1)) 5 (-1)) 6 (-1)) 7 (-1)) 8 (-1)) 9 (-1)) 10 (-1)) 11 (-1)) 12 (-1)) 13 (-1)))), (o, .inl (g.2.1 2, 1, .inr (.inl (vp_updL (fun _ => 0) 0 (-1))))), (mq16, .inl (g.2.1 0, 14, .inl (upd (upd (upd (upd (upd (upd (upd (upd (upd (upd (upd (upd (upd (upd (fun _ => 0) 0 (-1)) 1 (-1)) 2 (-1)) 3 (-1)) 4 (-1)) 5 (-1)) 6 (-1)) 7 (-1)) 8 (-1)) 9 (-1)) 10 (-1)) 11 (-1)) 12 (-1)) 13 (-1)))), (m, .inr (22, [.int 0, .ref mq1, .int 0, .ref mq2, .int 0, .ref mq3, .int 250, .ref mq4, .int 0, .ref mq5, .ref mq6, .ref mq16, .int 0, .ref mq7, .ref mq8, .ref mq9, .int 0, .null, .int 0, .null, .int 0, .int 0, .int 0, .ref mq10, .int 0, .ref mq11, .ref mq12, .ref mq13, .int 0, .ref mq14, .ref mq15, .int 0]))] H := hP
  have hD : va_D A [(x, .inr (12, [.ref xq1, .int 0, .ref xq2, .ref xq4, .ref xq5, .ref xq12, .ref xq22, .ref xq23, .int (-1), .ref xq24, .ref xq25, .int 250, .ref xq20, .int 0, .ref xq13, .ref xq14, .ref xq26])), (xq20, .inr (10, [.int 2, .int 7, .ref xq21, .int 7])), (xq21, .inl (g.2.1 0, 14, .inl (upd (upd (upd (upd (upd (upd (upd (upd (upd (upd (upd (upd (upd (upd (fun _ => 0) 0 (-1)) 1 (-1)) 2 (-1)) 3 (-1)) 4 (-1)) 5 (-1)) 6 (-1)) 7 (-1)) 8 (-1)) 9 (-1)) 10 (-1)) 11 (-1)) 12 (-1)) 13 (-1)))), (o, .inl (g.2.1 2, 1, .inr (.inl (vp_updL (fun _ => 0) 0 (-1))))), (mq16, .inl (g.2.1 0, 14, .inl (upd (upd (upd (upd (upd (upd (upd (upd (upd (upd (upd (upd (upd (upd (fun _ => 0) 0 (-1)) 1 (-1)) 2 (-1)) 3 (-1)) 4 (-1)) 5 (-1)) 6 (-1)) 7 (-1)) 8 (-1)) 9 (-1)) 10 (-1)) 11 (-1)) 12 (-1)) 13 (-1)))), (m, .inr (22, [.int 0, .ref mq1, .int 0, .ref mq2, .int 0, .ref mq3, .int 250, .ref mq4, .int 0, .ref mq5, .ref mq6, .ref mq16, .int 0, .ref mq7, .ref mq8, .ref mq9, .int 0, .null, .int 0, .null, .int 0, .int 0, .int 0, .ref mq10, .int 0, .ref mq11, .ref mq12, .ref mq13, .int 0, .ref mq14, .ref mq15, .int 0]))] := hD
  refine lv_iload hx hb dL_law_797 (lv_at hl 1 rfl) ?_
  refine lv_icmp_eq (tgt := 804) hx hb dL_law_799 (by decide) (fun _ => ?_) (fun c9 => absurd (by decide) c9)
  refine lv_iload hx hb dL_law_804 (lv_at hl 1 rfl) ?_
  refine lv_if_ne (tgt := 821) hx hb dL_law_806 (by decide) (fun c9 => absurd (by decide) c9) (fun _ => ?_)
  refine lv_aload_n hx hb dL_law_809 rfl (lv_at hl 5 rfl) ?_
  refine lv_iconst (v := 0) hx hb dL_law_810 (by decide) ?_
  refine va_lald hx hb hK hP 3 2 rfl rfl (vp_in_nI (n := 0) (by decide) (by decide)) dL_law_811 ?_
  refine e_topv (y := .long (-1)) (by rfl) ?_
  refine lv_iload hx hb dL_law_812 (lv_at hl 0 rfl) ?_
  refine lv_i2l (v := (-1)) hx hb dL_law_814 (by decide) ?_
  refine W.lcmp hx hb dL_law_815 ?_
  refine e_top (y := 0) (by decide) ?_
  refine lv_if_eq (tgt := 821) hx hb dL_law_816 (by decide) (fun _ => ?_) (fun c9 => absurd (by decide) c9)
  refine lv_goto (tgt := 1368) hx hb dL_law_821 (by decide) ?_
  subst hAe
  exact law_end C0 hS (lv_sub hl [2, 6] rfl) (Nat.le_of_ble_eq_true rfl) (Nat.le_of_ble_eq_true rfl)
set_option maxHeartbeats 4000000 in
set_option maxRecDepth 100000 in
theorem law_20_np {p : Program} {l : Launch} {e : Env} {s : State} {m9 : MethodId} {below : List Frame} {meth : Method} {c : Code} {g : G9} {b : Nat} {xs : Nat → Int32} (hlt : l.stackTraces = false) (C0 : lw_At p s m9 meth c b 4 xs) (hE : EE g (fun q : Nat => s.heap.size ≤ q) s) (x m o xq1 xq2 xq4 xq5 xq12 xq22 xq23 xq24 xq25 xq20 xq13 xq14 xq26 mq1 mq2 mq3 mq4 mq5 mq6 mq16 mq7 mq8 mq9 mq10 mq11 mq12 mq13 mq14 mq15 : Nat) (x1 : Int32) (e1 : xs 1 = x1) (k_x1 : (-2147483648) ≤ x1.toInt ∧ x1.toInt ≤ (-1)) (x2 : Int32) (e2 : xs 2 = x2) (k_x2 : 1 ≤ x2.toInt ∧ x2.toInt ≤ 2147483647) : ∀ (H : Heap) (locs : List Loc) (ls : Array Slot), va_P g.1 vwCl [(x, .inr (12, [.ref xq1, .int 0, .ref xq2, .ref xq4, .ref xq5, .ref xq12, .ref xq22, .ref xq23, .int (-1), .ref xq24, .ref xq25, .int 250, .ref xq20, .int 0, .ref xq13, .ref xq14, .ref xq26])), (m, .inr (22, [.int 0, .ref mq1, .int 0, .ref mq2, .int 0, .ref mq3, .int 250, .ref mq4, .int 0, .ref mq5, .ref mq6, .ref mq16, .int 0, .ref mq7, .ref mq8, .ref mq9, .int 0, .null, .int 0, .null, .int 0, .int 0, .int 0, .ref mq10, .int 0, .ref mq11, .ref mq12, .ref mq13, .int 0, .ref mq14, .ref mq15, .int 0])), (mq5, .inr (2, [.int 0, .ref (g.2.2 0), .int 0]))] H → va_D (fun q : Nat => s.heap.size ≤ q) [(x, .inr (12, [.ref xq1, .int 0, .ref xq2, .ref xq4, .ref xq5, .ref xq12, .ref xq22, .ref xq23, .int (-1), .ref xq24, .ref xq25, .int 250, .ref xq20, .int 0, .ref xq13, .ref xq14, .ref xq26])), (m, .inr (22, [.int 0, .ref mq1, .int 0, .ref mq2, .int 0, .ref mq3, .int 250, .ref mq4, .int 0, .ref mq5, .ref mq6, .ref mq16, .int 0, .ref mq7, .ref mq8, .ref mq9, .int 0, .null, .int 0, .null, .int 0, .int 0, .int 0, .ref mq10, .int 0, .ref mq11, .ref mq12, .ref mq13, .int 0, .ref mq14, .ref mq15, .int 0])), (mq5, .inr (2, [.int 0, .ref (g.2.2 0), .int 0]))] → va_S (fun q : Nat => s.heap.size ≤ q) s.heap H locs → lv_has ls 7 [(0, .ref b), (1, .ref x), (2, .ref m), (3, .ref o), (4, .int 0)] → W p l e room_1 s m9 #[Value.ref b] below meth c H locs 106 7589 (lw_Z below #[Value.ref b] s) (F0 m9 1172 ls []) := by
  intro H locs ls hP hD hS hl
  obtain ⟨hx, hb, hr, hml, hown, hts0, hX, hbl, hlocks, hgv⟩ := id C0
  have hts : ∀ w ∈ w9_law, w.before #[Value.ref b] s = true := fun w h => hts0 w (w9_law_in w h)
  generalize hAe : (fun q : Nat => s.heap.size ≤ q) = A at hE hD hS
  have hA : ∀ q : Nat, s.heap.size ≤ q → A q := fun q h => by rw [← hAe]; exact h
  have hbA : ¬ A b := by rw [← hAe]; exact Nat.not_le.mpr hbl
  have hK := hE.1
  refine lv_aload_n hx hb dL_law_1172 rfl (lv_at hl 1 rfl) ?_
  refine lv_aload_n hx hb dL_law_1173 rfl (lv_at hl 0 rfl) ?_
  refine lv_iload hx hb dL_law_1174 (lv_at hl 4 rfl) ?_
  refine lv_iconst (v := 1) hx hb dL_law_1176 (by decide) ?_
  refine lv_iadd hx hb dL_law_1177 ?_
  refine e_top (y := 1) (by decide) ?_
  refine va_sld hx hb hX hbl hbA hS (vp_in_nI (n := 1) (by decide) (by decide)) dL_law_1178 ?_
  refine e_top (y := x1) e1 ?_
  refine lv_aload_n hx hb dL_law_1179 rfl (lv_at hl 0 rfl) ?_
  refine lv_iload hx hb dL_law_1180 (lv_at hl 4 rfl) ?_
  refine lv_iconst (v := 2) hx hb dL_law_1182 (by decide) ?_
  refine lv_iadd hx hb dL_law_1183 ?_
  refine e_top (y := 2) (by decide) ?_
  refine va_sld hx hb hX hbl hbA hS (vp_in_nI (n := 2) (by decide) (by decide)) dL_law_1184 ?_
  refine e_top (y := x2) e2 ?_
  refine lv_if_eq (tgt := 1192) hx hb dL_law_1185 (by decide) (fun c9 => absurd c9 (by simp only [Int32.lt_iff_toInt_lt, Int32.le_iff_toInt_le, ← Int32.toInt_inj, show (0 : Int32).toInt = 0 from by decide]; omega)) (fun _ => ?_)
  refine lv_iconst (v := 1) hx hb dL_law_1188 (by decide) ?_
  refine lv_goto (tgt := 1193) hx hb dL_law_1189 (by decide) ?_
  refine lv_aload_n hx hb dL_law_1193 rfl (lv_at hl 3 rfl) ?_
  have hPc := hP.sub (ws' := [(x, .inr (12, [.ref xq1, .int 0, .ref xq2, .ref xq4, .ref xq5, .ref xq12, .ref xq22, .ref xq23, .int (-1), .ref xq24, .ref xq25, .int 250, .ref xq20, .int 0, .ref xq13, .ref xq14, .ref xq26]))]) [0] rfl
  have hDc := hD.sub (ws' := [(x, .inr (12, [.ref xq1, .int 0, .ref xq2, .ref xq4, .ref xq5, .ref xq12, .ref xq22, .ref xq23, .int (-1), .ref xq24, .ref xq25, .int 250, .ref xq20, .int 0, .ref xq13, .ref xq14, .ref xq26]))]) [0] (by decide) rfl
  have hFc := va_free (wc := [(x, .inr (12, [.ref xq1, .int 0, .ref xq2, .ref xq4, .ref xq5, .ref xq12, .ref xq22, .ref xq23, .int (-1), .ref xq24, .ref xq25, .int 250, .ref xq20, .int 0, .ref xq13, .ref xq14, .ref xq26]))]) hD hS hA [0] rfl
  refine va_calli (vx_runSW (As := [.ref x, .int x1, .int 1, .ref o]) (rest := []) ⟨hx, hb, hml, hown, hts⟩ (c9_L_found_1 l hlt g x o xq1 xq2 xq4 xq5 xq12 xq22 xq23 xq24 xq25 xq20 xq13 xq14 xq26 _ x1 (by omega)) (vx_cwSW (bytes := cL_found) (maxL := 5) (ret := (some .int)) (hh := [(0, 10, 13, 21)]) 4 hts g9_law_126 rfl rfl rfl (by decide +kernel) ⟨Nat.le_of_ble_eq_true rfl, Nat.le_of_ble_eq_true rfl⟩) (mPreS (g := g) (wc := [(x, .inr (12, [.ref xq1, .int 0, .ref xq2, .ref xq4, .ref xq5, .ref xq12, .ref xq22, .ref xq23, .int (-1), .ref xq24, .ref xq25, .int 250, .ref xq20, .int 0, .ref xq13, .ref xq14, .ref xq26]))]) hE hS hPc hDc hFc) rfl rfl hl.1 rfl (lv_room (Nat.le_of_ble_eq_true rfl)) dL_law_1194 ⟨Nat.le_of_ble_eq_true rfl, Nat.le_of_ble_eq_true rfl⟩) hS (fun q _ h => hFc q h) hFc (fun r_1 u t H1 locs ht hvm hw hB hz1 hk1 hS => ?_)
  replace hw : 1 = r_1 := Eq.symm hw
  subst hw
  obtain ⟨hP1, hD1⟩ := hB
  rw [ht] at hP1
  obtain ⟨hP, hD⟩ := va_join (wr := [(m, .inr (22, [.int 0, .ref mq1, .int 0, .ref mq2, .int 0, .ref mq3, .int 250, .ref mq4, .int 0, .ref mq5, .ref mq6, .ref mq16, .int 0, .ref mq7, .ref mq8, .ref mq9, .int 0, .null, .int 0, .null, .int 0, .int 0, .int 0, .ref mq10, .int 0, .ref mq11, .ref mq12, .ref mq13, .int 0, .ref mq14, .ref mq15, .int 0])), (mq5, .inr (2, [.int 0, .ref (g.2.2 0), .int 0]))]) (w1 := []) hP hD [0] [1, 2] rfl rfl (by decide) (by decide) hk1 hFc hP1 hD1
  clear hP1 hD1 hPc hDc hFc hk1 hz1 hvm ht
  generalize H1 = H at hP hS ⊢
  have hP : va_P g.1 vwCl [(m, .inr (22, [.int 0, .ref mq1, .int 0, .ref mq2, .int 0, .ref mq3, .int 250, .ref mq4, .int 0, .ref mq5, .ref mq6, .ref mq16, .int 0, .ref mq7, .ref mq8, .ref mq9, .int 0, .null, .int 0, .null, .int 0, .int 0, .int 0, .ref mq10, .int 0, .ref mq11, .ref mq12, .ref mq13, .int 0, .ref mq14, .ref mq15, .int 0])), (mq5, .inr (2, [.int 0, .ref (g.2.2 0), .int 0]))] H := hP
  have hD : va_D A [(m, .inr (22, [.int 0, .ref mq1, .int 0, .ref mq2, .int 0, .ref mq3, .int 250, .ref mq4, .int 0, .ref mq5, .ref mq6, .ref mq16, .int 0, .ref mq7, .ref mq8, .ref mq9, .int 0, .null, .int 0, .null, .int 0, .int 0, .int 0, .ref mq10, .int 0, .ref mq11, .ref mq12, .ref mq13, .int 0, .ref mq14, .ref mq15, .int 0])), (mq5, .inr (2, [.int 0, .ref (g.2.2 0), .int 0]))] := hD
  refine lv_istore (lv' := [(5, .int 1), (0, .ref b), (1, .ref x), (2, .ref m), (3, .ref o), (4, .int 0)]) hx hb dL_law_1197 hl (by decide) rfl (fun ls hl => ?_)
  refine lv_aload_n hx hb dL_law_1199 rfl (lv_at hl 3 rfl) ?_
  refine lv_aload_n hx hb dL_law_1200 rfl (lv_at hl 1 rfl) ?_
  refine lv_iload hx hb dL_law_1201 (lv_at hl 5 rfl) ?_
  refine lv_iconst (v := 1) hx hb dL_law_1203 (by decide) ?_
  refine lv_iadd hx hb dL_law_1204 ?_
  refine e_top (y := 1) (by decide) ?_
  refine va_sld hx hb hX hbl hbA hS (vp_in_nI (n := 1) (by decide) (by decide)) dL_law_1205 ?_
  refine e_top (y := x1) e1 ?_
  refine lv_aload_n hx hb dL_law_1206 rfl (lv_at hl 1 rfl) ?_
  refine lv_iload hx hb dL_law_1207 (lv_at hl 5 rfl) ?_
  refine lv_iconst (v := 2) hx hb dL_law_1209 (by decide) ?_
  refine lv_iadd hx hb dL_law_1210 ?_
  refine e_top (y := 2) (by decide) ?_
  refine va_sld hx hb hX hbl hbA hS (vp_in_nI (n := 2) (by decide) (by decide)) dL_law_1211 ?_
  refine e_top (y := x2) e2 ?_
  refine lv_if_eq (tgt := 1219) hx hb dL_law_1212 (by decide) (fun c9 => absurd c9 (by simp only [Int32.lt_iff_toInt_lt, Int32.le_iff_toInt_le, ← Int32.toInt_inj, show (0 : Int32).toInt = 0 from by decide]; omega)) (fun _ => ?_)
  refine lv_iconst (v := 1) hx hb dL_law_1215 (by decide) ?_
  refine lv_goto (tgt := 1220) hx hb dL_law_1216 (by decide) ?_
  have hPc := hP.sub (ws' := [(m, .inr (22, [.int 0, .ref mq1, .int 0, .ref mq2, .int 0, .ref mq3, .int 250, .ref mq4, .int 0, .ref mq5, .ref mq6, .ref mq16, .int 0, .ref mq7, .ref mq8, .ref mq9, .int 0, .null, .int 0, .null, .int 0, .int 0, .int 0, .ref mq10, .int 0, .ref mq11, .ref mq12, .ref mq13, .int 0, .ref mq14, .ref mq15, .int 0])), (mq5, .inr (2, [.int 0, .ref (g.2.2 0), .int 0]))]) [0, 1] rfl
  have hDc := hD.sub (ws' := [(m, .inr (22, [.int 0, .ref mq1, .int 0, .ref mq2, .int 0, .ref mq3, .int 250, .ref mq4, .int 0, .ref mq5, .ref mq6, .ref mq16, .int 0, .ref mq7, .ref mq8, .ref mq9, .int 0, .null, .int 0, .null, .int 0, .int 0, .int 0, .ref mq10, .int 0, .ref mq11, .ref mq12, .ref mq13, .int 0, .ref mq14, .ref mq15, .int 0])), (mq5, .inr (2, [.int 0, .ref (g.2.2 0), .int 0]))]) [0, 1] (by decide) rfl
  have hFc := va_free (wc := [(m, .inr (22, [.int 0, .ref mq1, .int 0, .ref mq2, .int 0, .ref mq3, .int 250, .ref mq4, .int 0, .ref mq5, .ref mq6, .ref mq16, .int 0, .ref mq7, .ref mq8, .ref mq9, .int 0, .null, .int 0, .null, .int 0, .int 0, .int 0, .ref mq10, .int 0, .ref mq11, .ref mq12, .ref mq13, .int 0, .ref mq14, .ref mq15, .int 0])), (mq5, .inr (2, [.int 0, .ref (g.2.2 0), .int 0]))]) hD hS hA [0, 1] rfl
  refine va_calli (va_runV (As := [.int x1, .int 1]) (rest := []) ⟨hx, hb, hml, hown, hts⟩ (c9_X21_found_1 l g m mq1 mq2 mq3 mq4 mq5 mq6 mq16 mq7 mq8 mq9 mq10 mq11 mq12 mq13 mq14 mq15 _ x1 (by omega)) (cwV 2 hts g9_law_127 rfl rfl rfl (by decide +kernel) ⟨Nat.le_of_ble_eq_true rfl, Nat.le_of_ble_eq_true rfl⟩) (mPreV (g := g) (wc := [(m, .inr (22, [.int 0, .ref mq1, .int 0, .ref mq2, .int 0, .ref mq3, .int 250, .ref mq4, .int 0, .ref mq5, .ref mq6, .ref mq16, .int 0, .ref mq7, .ref mq8, .ref mq9, .int 0, .null, .int 0, .null, .int 0, .int 0, .int 0, .ref mq10, .int 0, .ref mq11, .ref mq12, .ref mq13, .int 0, .ref mq14, .ref mq15, .int 0])), (mq5, .inr (2, [.int 0, .ref (g.2.2 0), .int 0]))]) (C := RX21) (ci := 22) (q0 := 0) hE hS hPc hDc hFc rfl rfl) rfl rfl hl.1 rfl (lv_room (Nat.le_of_ble_eq_true rfl)) dL_law_1220 ⟨Nat.le_of_ble_eq_true rfl, Nat.le_of_ble_eq_true rfl⟩) hS (fun q _ h => hFc q h) hFc (fun r_2 u t H1 locs ht hvm hw hB hz1 hk1 hS => ?_)
  replace hw : 0 = r_2 := Eq.symm hw
  subst hw
  obtain ⟨hP1, hD1⟩ := hB
  rw [ht] at hP1
  obtain ⟨hP, hD⟩ := va_join (wr := []) (w1 := [(m, .inr (22, [.int 1, .ref mq1, .int 0, .ref mq2, .int 0, .ref mq3, .int 250, .ref mq4, .int 0, .ref mq5, .ref mq6, .ref mq16, .int 0, .ref mq7, .ref mq8, .ref mq9, .int 0, .null, .int 0, .null, .int 0, .int 0, .int 0, .ref mq10, .int 0, .ref mq11, .ref mq12, .ref mq13, .int 0, .ref mq14, .ref mq15, .int 0])), (mq5, .inr (2, [.int 0, .ref (g.2.2 0), .int 0]))]) hP hD [0, 1] [] rfl rfl (by decide) (by decide) hk1 hFc hP1 hD1
  clear hP1 hD1 hPc hDc hFc hk1 hz1 hvm ht
  generalize H1 = H at hP hS ⊢
  have hP : va_P g.1 vwCl [(m, .inr (22, [.int 1, .ref mq1, .int 0, .ref mq2, .int 0, .ref mq3, .int 250, .ref mq4, .int 0, .ref mq5, .ref mq6, .ref mq16, .int 0, .ref mq7, .ref mq8, .ref mq9, .int 0, .null, .int 0, .null, .int 0, .int 0, .int 0, .ref mq10, .int 0, .ref mq11, .ref mq12, .ref mq13, .int 0, .ref mq14, .ref mq15, .int 0])), (mq5, .inr (2, [.int 0, .ref (g.2.2 0), .int 0]))] H := hP
  have hD : va_D A [(m, .inr (22, [.int 1, .ref mq1, .int 0, .ref mq2, .int 0, .ref mq3, .int 250, .ref mq4, .int 0, .ref mq5, .ref mq6, .ref mq16, .int 0, .ref mq7, .ref mq8, .ref mq9, .int 0, .null, .int 0, .null, .int 0, .int 0, .int 0, .ref mq10, .int 0, .ref mq11, .ref mq12, .ref mq13, .int 0, .ref mq14, .ref mq15, .int 0])), (mq5, .inr (2, [.int 0, .ref (g.2.2 0), .int 0]))] := hD
  refine lv_istore (lv' := [(6, .int 0), (5, .int 1), (0, .ref b), (1, .ref x), (2, .ref m), (3, .ref o), (4, .int 0)]) hx hb dL_law_1223 hl (by decide) rfl (fun ls hl => ?_)
  refine lv_aload_n hx hb dL_law_1225 rfl (lv_at hl 4 rfl) ?_
  have hPc := hP.sub (ws' := [(m, .inr (22, [.int 1, .ref mq1, .int 0, .ref mq2, .int 0, .ref mq3, .int 250, .ref mq4, .int 0, .ref mq5, .ref mq6, .ref mq16, .int 0, .ref mq7, .ref mq8, .ref mq9, .int 0, .null, .int 0, .null, .int 0, .int 0, .int 0, .ref mq10, .int 0, .ref mq11, .ref mq12, .ref mq13, .int 0, .ref mq14, .ref mq15, .int 0]))]) [0] rfl
  have hDc := hD.sub (ws' := [(m, .inr (22, [.int 1, .ref mq1, .int 0, .ref mq2, .int 0, .ref mq3, .int 250, .ref mq4, .int 0, .ref mq5, .ref mq6, .ref mq16, .int 0, .ref mq7, .ref mq8, .ref mq9, .int 0, .null, .int 0, .null, .int 0, .int 0, .int 0, .ref mq10, .int 0, .ref mq11, .ref mq12, .ref mq13, .int 0, .ref mq14, .ref mq15, .int 0]))]) [0] (by decide) rfl
  have hFc := va_free (wc := [(m, .inr (22, [.int 1, .ref mq1, .int 0, .ref mq2, .int 0, .ref mq3, .int 250, .ref mq4, .int 0, .ref mq5, .ref mq6, .ref mq16, .int 0, .ref mq7, .ref mq8, .ref mq9, .int 0, .null, .int 0, .null, .int 0, .int 0, .int 0, .ref mq10, .int 0, .ref mq11, .ref mq12, .ref mq13, .int 0, .ref mq14, .ref mq15, .int 0]))]) hD hS hA [0] rfl
  refine va_calli (va_runV (As := []) (rest := []) ⟨hx, hb, hml, hown, hts⟩ (c9_X21_thrown_2 l g m mq1 mq2 mq3 mq4 mq5 mq6 mq16 mq7 mq8 mq9 mq10 mq11 mq12 mq13 mq14 mq15 _) (cwV 0 hts g9_law_15 rfl rfl rfl (by decide +kernel) ⟨Nat.le_of_ble_eq_true rfl, Nat.le_of_ble_eq_true rfl⟩) (mPreV (g := g) (wc := [(m, .inr (22, [.int 1, .ref mq1, .int 0, .ref mq2, .int 0, .ref mq3, .int 250, .ref mq4, .int 0, .ref mq5, .ref mq6, .ref mq16, .int 0, .ref mq7, .ref mq8, .ref mq9, .int 0, .null, .int 0, .null, .int 0, .int 0, .int 0, .ref mq10, .int 0, .ref mq11, .ref mq12, .ref mq13, .int 0, .ref mq14, .ref mq15, .int 0]))]) (C := RX21) (ci := 22) (q0 := 0) hE hS hPc hDc hFc rfl rfl) rfl rfl hl.1 rfl (lv_room (Nat.le_of_ble_eq_true rfl)) dL_law_1226 ⟨Nat.le_of_ble_eq_true rfl, Nat.le_of_ble_eq_true rfl⟩) hS (fun q _ h => hFc q h) hFc (fun r_3 u t H1 locs ht hvm hw hB hz1 hk1 hS => ?_)
  replace hw : 1 = r_3 := Eq.symm hw
  subst hw
  obtain ⟨hP1, hD1⟩ := hB
  rw [ht] at hP1
  obtain ⟨hP, hD⟩ := va_join (wr := [(mq5, .inr (2, [.int 0, .ref (g.2.2 0), .int 0]))]) (w1 := [(m, .inr (22, [.int 1, .ref mq1, .int 0, .ref mq2, .int 0, .ref mq3, .int 250, .ref mq4, .int 0, .ref mq5, .ref mq6, .ref mq16, .int 0, .ref mq7, .ref mq8, .ref mq9, .int 0, .null, .int 0, .null, .int 0, .int 0, .int 0, .ref mq10, .int 0, .ref mq11, .ref mq12, .ref mq13, .int 0, .ref mq14, .ref mq15, .int 0]))]) hP hD [0] [1] rfl rfl (by decide) (by decide) hk1 hFc hP1 hD1
  clear hP1 hD1 hPc hDc hFc hk1 hz1 hvm ht
  generalize H1 = H at hP hS ⊢
  have hP : va_P g.1 vwCl [(mq5, .inr (2, [.int 0, .ref (g.2.2 0), .int 0])), (m, .inr (22, [.int 1, .ref mq1, .int 0, .ref mq2, .int 0, .ref mq3, .int 250, .ref mq4, .int 0, .ref mq5, .ref mq6, .ref mq16, .int 0, .ref mq7, .ref mq8, .ref mq9, .int 0, .null, .int 0, .null, .int 0, .int 0, .int 0, .ref mq10, .int 0, .ref mq11, .ref mq12, .ref mq13, .int 0, .ref mq14, .ref mq15, .int 0]))] H := hP
  have hD : va_D A [(mq5, .inr (2, [.int 0, .ref (g.2.2 0), .int 0])), (m, .inr (22, [.int 1, .ref mq1, .int 0, .ref mq2, .int 0, .ref mq3, .int 250, .ref mq4, .int 0, .ref mq5, .ref mq6, .ref mq16, .int 0, .ref mq7, .ref mq8, .ref mq9, .int 0, .null, .int 0, .null, .int 0, .int 0, .int 0, .ref mq10, .int 0, .ref mq11, .ref mq12, .ref mq13, .int 0, .ref mq14, .ref mq15, .int 0]))] := hD
  refine lv_iload hx hb dL_law_1229 (lv_at hl 1 rfl) ?_
  refine lv_icmp_eq (tgt := 1236) hx hb dL_law_1231 (by decide) (fun _ => ?_) (fun c9 => absurd (by decide) c9)
  refine lv_iload hx hb dL_law_1236 (lv_at hl 1 rfl) ?_
  refine lv_if_ne (tgt := 1253) hx hb dL_law_1238 (by decide) (fun _ => ?_) (fun c9 => absurd c9 (by decide))
  refine lv_goto (tgt := 1368) hx hb dL_law_1253 (by decide) ?_
  subst hAe
  exact law_end C0 hS (lv_sub hl [2, 6] rfl) (Nat.le_of_ble_eq_true rfl) (Nat.le_of_ble_eq_true rfl)
set_option maxHeartbeats 4000000 in
set_option maxRecDepth 100000 in
theorem law_20_ip {p : Program} {l : Launch} {e : Env} {s : State} {m9 : MethodId} {below : List Frame} {meth : Method} {c : Code} {g : G9} {b : Nat} {xs : Nat → Int32} (hlt : l.stackTraces = false) (C0 : lw_At p s m9 meth c b 4 xs) (hE : EE g (fun q : Nat => s.heap.size ≤ q) s) (x m o xq1 xq2 xq4 xq5 xq12 xq22 xq23 xq24 xq25 xq20 xq13 xq14 xq26 xq28 mq1 mq2 mq3 mq4 mq5 mq6 mq16 mq7 mq8 mq9 mq10 mq11 mq12 mq13 mq14 mq15 : Nat) (x1 : Int32) (e1 : xs 1 = x1) (k_x1 : 0 ≤ x1.toInt ∧ x1.toInt ≤ 2147483647) (x2 : Int32) (e2 : xs 2 = x2) (k_x2 : 1 ≤ x2.toInt ∧ x2.toInt ≤ 2147483647) : ∀ (H : Heap) (locs : List Loc) (ls : Array Slot), va_P g.1 vwCl [(x, .inr (12, [.ref xq1, .int 0, .ref xq2, .ref xq4, .ref xq5, .ref xq12, .ref xq22, .ref xq23, .int (-1), .ref xq24, .ref xq25, .int 250, .ref xq20, .int 0, .ref xq13, .ref xq14, .ref xq26])), (xq13, .inr (10, [.int 2, .int 21, .ref xq28, .int 0])), (m, .inr (22, [.int 0, .ref mq1, .int 0, .ref mq2, .int 0, .ref mq3, .int 250, .ref mq4, .int 0, .ref mq5, .ref mq6, .ref mq16, .int 0, .ref mq7, .ref mq8, .ref mq9, .int 0, .null, .int 0, .null, .int 0, .int 0, .int 0, .ref mq10, .int 0, .ref mq11, .ref mq12, .ref mq13, .int 0, .ref mq14, .ref mq15, .int 0])), (mq5, .inr (2, [.int 0, .ref (g.2.2 0), .int 0]))] H → va_D (fun q : Nat => s.heap.size ≤ q) [(x, .inr (12, [.ref xq1, .int 0, .ref xq2, .ref xq4, .ref xq5, .ref xq12, .ref xq22, .ref xq23, .int (-1), .ref xq24, .ref xq25, .int 250, .ref xq20, .int 0, .ref xq13, .ref xq14, .ref xq26])), (xq13, .inr (10, [.int 2, .int 21, .ref xq28, .int 0])), (m, .inr (22, [.int 0, .ref mq1, .int 0, .ref mq2, .int 0, .ref mq3, .int 250, .ref mq4, .int 0, .ref mq5, .ref mq6, .ref mq16, .int 0, .ref mq7, .ref mq8, .ref mq9, .int 0, .null, .int 0, .null, .int 0, .int 0, .int 0, .ref mq10, .int 0, .ref mq11, .ref mq12, .ref mq13, .int 0, .ref mq14, .ref mq15, .int 0])), (mq5, .inr (2, [.int 0, .ref (g.2.2 0), .int 0]))] → va_S (fun q : Nat => s.heap.size ≤ q) s.heap H locs → lv_has ls 7 [(0, .ref b), (1, .ref x), (2, .ref m), (3, .ref o), (4, .int 0)] → W p l e room_1 s m9 #[Value.ref b] below meth c H locs 106 7589 (lw_Z below #[Value.ref b] s) (F0 m9 1172 ls []) := by
  intro H locs ls hP hD hS hl
  obtain ⟨hx, hb, hr, hml, hown, hts0, hX, hbl, hlocks, hgv⟩ := id C0
  have hts : ∀ w ∈ w9_law, w.before #[Value.ref b] s = true := fun w h => hts0 w (w9_law_in w h)
  generalize hAe : (fun q : Nat => s.heap.size ≤ q) = A at hE hD hS
  have hA : ∀ q : Nat, s.heap.size ≤ q → A q := fun q h => by rw [← hAe]; exact h
  have hbA : ¬ A b := by rw [← hAe]; exact Nat.not_le.mpr hbl
  have hK := hE.1
  refine lv_aload_n hx hb dL_law_1172 rfl (lv_at hl 1 rfl) ?_
  refine lv_aload_n hx hb dL_law_1173 rfl (lv_at hl 0 rfl) ?_
  refine lv_iload hx hb dL_law_1174 (lv_at hl 4 rfl) ?_
  refine lv_iconst (v := 1) hx hb dL_law_1176 (by decide) ?_
  refine lv_iadd hx hb dL_law_1177 ?_
  refine e_top (y := 1) (by decide) ?_
  refine va_sld hx hb hX hbl hbA hS (vp_in_nI (n := 1) (by decide) (by decide)) dL_law_1178 ?_
  refine e_top (y := x1) e1 ?_
  refine lv_aload_n hx hb dL_law_1179 rfl (lv_at hl 0 rfl) ?_
  refine lv_iload hx hb dL_law_1180 (lv_at hl 4 rfl) ?_
  refine lv_iconst (v := 2) hx hb dL_law_1182 (by decide) ?_
  refine lv_iadd hx hb dL_law_1183 ?_
  refine e_top (y := 2) (by decide) ?_
  refine va_sld hx hb hX hbl hbA hS (vp_in_nI (n := 2) (by decide) (by decide)) dL_law_1184 ?_
  refine e_top (y := x2) e2 ?_
  refine lv_if_eq (tgt := 1192) hx hb dL_law_1185 (by decide) (fun c9 => absurd c9 (by simp only [Int32.lt_iff_toInt_lt, Int32.le_iff_toInt_le, ← Int32.toInt_inj, show (0 : Int32).toInt = 0 from by decide]; omega)) (fun _ => ?_)
  refine lv_iconst (v := 1) hx hb dL_law_1188 (by decide) ?_
  refine lv_goto (tgt := 1193) hx hb dL_law_1189 (by decide) ?_
  refine lv_aload_n hx hb dL_law_1193 rfl (lv_at hl 3 rfl) ?_
  have hPc := hP.sub (ws' := [(x, .inr (12, [.ref xq1, .int 0, .ref xq2, .ref xq4, .ref xq5, .ref xq12, .ref xq22, .ref xq23, .int (-1), .ref xq24, .ref xq25, .int 250, .ref xq20, .int 0, .ref xq13, .ref xq14, .ref xq26])), (xq13, .inr (10, [.int 2, .int 21, .ref xq28, .int 0]))]) [0, 1] rfl
  have hDc := hD.sub (ws' := [(x, .inr (12, [.ref xq1, .int 0, .ref xq2, .ref xq4, .ref xq5, .ref xq12, .ref xq22, .ref xq23, .int (-1), .ref xq24, .ref xq25, .int 250, .ref xq20, .int 0, .ref xq13, .ref xq14, .ref xq26])), (xq13, .inr (10, [.int 2, .int 21, .ref xq28, .int 0]))]) [0, 1] (by decide) rfl
  have hFc := va_free (wc := [(x, .inr (12, [.ref xq1, .int 0, .ref xq2, .ref xq4, .ref xq5, .ref xq12, .ref xq22, .ref xq23, .int (-1), .ref xq24, .ref xq25, .int 250, .ref xq20, .int 0, .ref xq13, .ref xq14, .ref xq26])), (xq13, .inr (10, [.int 2, .int 21, .ref xq28, .int 0]))]) hD hS hA [0, 1] rfl
  refine va_calli (vx_runSW (As := [.ref x, .int x1, .int 1, .ref o]) (rest := []) ⟨hx, hb, hml, hown, hts⟩ (c9_L_found_2 l hlt g x o xq1 xq2 xq4 xq5 xq12 xq22 xq23 xq24 xq25 xq20 xq13 xq14 xq26 xq28 _ x1 (by omega)) (vx_cwSW (bytes := cL_found) (maxL := 5) (ret := (some .int)) (hh := [(0, 10, 13, 21)]) 4 hts g9_law_128 rfl rfl rfl (by decide +kernel) ⟨Nat.le_of_ble_eq_true rfl, Nat.le_of_ble_eq_true rfl⟩) (mPreS (g := g) (wc := [(x, .inr (12, [.ref xq1, .int 0, .ref xq2, .ref xq4, .ref xq5, .ref xq12, .ref xq22, .ref xq23, .int (-1), .ref xq24, .ref xq25, .int 250, .ref xq20, .int 0, .ref xq13, .ref xq14, .ref xq26])), (xq13, .inr (10, [.int 2, .int 21, .ref xq28, .int 0]))]) hE hS hPc hDc hFc) rfl rfl hl.1 rfl (lv_room (Nat.le_of_ble_eq_true rfl)) dL_law_1194 ⟨Nat.le_of_ble_eq_true rfl, Nat.le_of_ble_eq_true rfl⟩) hS (fun q _ h => hFc q h) hFc (fun r_1 u t H1 locs ht hvm hw hB hz1 hk1 hS => ?_)
  replace hw : 1 = r_1 := Eq.symm hw
  subst hw
  obtain ⟨hP1, hD1⟩ := hB
  rw [ht] at hP1
  obtain ⟨hP, hD⟩ := va_join (wr := [(m, .inr (22, [.int 0, .ref mq1, .int 0, .ref mq2, .int 0, .ref mq3, .int 250, .ref mq4, .int 0, .ref mq5, .ref mq6, .ref mq16, .int 0, .ref mq7, .ref mq8, .ref mq9, .int 0, .null, .int 0, .null, .int 0, .int 0, .int 0, .ref mq10, .int 0, .ref mq11, .ref mq12, .ref mq13, .int 0, .ref mq14, .ref mq15, .int 0])), (mq5, .inr (2, [.int 0, .ref (g.2.2 0), .int 0]))]) (w1 := []) hP hD [0, 1] [2, 3] rfl rfl (by decide) (by decide) hk1 hFc hP1 hD1
  clear hP1 hD1 hPc hDc hFc hk1 hz1 hvm ht
  generalize H1 = H at hP hS ⊢
  have hP : va_P g.1 vwCl [(m, .inr (22, [.int 0, .ref mq1, .int 0, .ref mq2, .int 0, .ref mq3, .int 250, .ref mq4, .int 0, .ref mq5, .ref mq6, .ref mq16, .int 0, .ref mq7, .ref mq8, .ref mq9, .int 0, .null, .int 0, .null, .int 0, .int 0, .int 0, .ref mq10, .int 0, .ref mq11, .ref mq12, .ref mq13, .int 0, .ref mq14, .ref mq15, .int 0])), (mq5, .inr (2, [.int 0, .ref (g.2.2 0), .int 0]))] H := hP
  have hD : va_D A [(m, .inr (22, [.int 0, .ref mq1, .int 0, .ref mq2, .int 0, .ref mq3, .int 250, .ref mq4, .int 0, .ref mq5, .ref mq6, .ref mq16, .int 0, .ref mq7, .ref mq8, .ref mq9, .int 0, .null, .int 0, .null, .int 0, .int 0, .int 0, .ref mq10, .int 0, .ref mq11, .ref mq12, .ref mq13, .int 0, .ref mq14, .ref mq15, .int 0])), (mq5, .inr (2, [.int 0, .ref (g.2.2 0), .int 0]))] := hD
  refine lv_istore (lv' := [(5, .int 1), (0, .ref b), (1, .ref x), (2, .ref m), (3, .ref o), (4, .int 0)]) hx hb dL_law_1197 hl (by decide) rfl (fun ls hl => ?_)
  refine lv_aload_n hx hb dL_law_1199 rfl (lv_at hl 3 rfl) ?_
  refine lv_aload_n hx hb dL_law_1200 rfl (lv_at hl 1 rfl) ?_
  refine lv_iload hx hb dL_law_1201 (lv_at hl 5 rfl) ?_
  refine lv_iconst (v := 1) hx hb dL_law_1203 (by decide) ?_
  refine lv_iadd hx hb dL_law_1204 ?_
  refine e_top (y := 1) (by decide) ?_
  refine va_sld hx hb hX hbl hbA hS (vp_in_nI (n := 1) (by decide) (by decide)) dL_law_1205 ?_
  refine e_top (y := x1) e1 ?_
  refine lv_aload_n hx hb dL_law_1206 rfl (lv_at hl 1 rfl) ?_
  refine lv_iload hx hb dL_law_1207 (lv_at hl 5 rfl) ?_
  refine lv_iconst (v := 2) hx hb dL_law_1209 (by decide) ?_
  refine lv_iadd hx hb dL_law_1210 ?_
  refine e_top (y := 2) (by decide) ?_
  refine va_sld hx hb hX hbl hbA hS (vp_in_nI (n := 2) (by decide) (by decide)) dL_law_1211 ?_
  refine e_top (y := x2) e2 ?_
  refine lv_if_eq (tgt := 1219) hx hb dL_law_1212 (by decide) (fun c9 => absurd c9 (by simp only [Int32.lt_iff_toInt_lt, Int32.le_iff_toInt_le, ← Int32.toInt_inj, show (0 : Int32).toInt = 0 from by decide]; omega)) (fun _ => ?_)
  refine lv_iconst (v := 1) hx hb dL_law_1215 (by decide) ?_
  refine lv_goto (tgt := 1220) hx hb dL_law_1216 (by decide) ?_
  have hPc := hP.sub (ws' := [(m, .inr (22, [.int 0, .ref mq1, .int 0, .ref mq2, .int 0, .ref mq3, .int 250, .ref mq4, .int 0, .ref mq5, .ref mq6, .ref mq16, .int 0, .ref mq7, .ref mq8, .ref mq9, .int 0, .null, .int 0, .null, .int 0, .int 0, .int 0, .ref mq10, .int 0, .ref mq11, .ref mq12, .ref mq13, .int 0, .ref mq14, .ref mq15, .int 0])), (mq5, .inr (2, [.int 0, .ref (g.2.2 0), .int 0]))]) [0, 1] rfl
  have hDc := hD.sub (ws' := [(m, .inr (22, [.int 0, .ref mq1, .int 0, .ref mq2, .int 0, .ref mq3, .int 250, .ref mq4, .int 0, .ref mq5, .ref mq6, .ref mq16, .int 0, .ref mq7, .ref mq8, .ref mq9, .int 0, .null, .int 0, .null, .int 0, .int 0, .int 0, .ref mq10, .int 0, .ref mq11, .ref mq12, .ref mq13, .int 0, .ref mq14, .ref mq15, .int 0])), (mq5, .inr (2, [.int 0, .ref (g.2.2 0), .int 0]))]) [0, 1] (by decide) rfl
  have hFc := va_free (wc := [(m, .inr (22, [.int 0, .ref mq1, .int 0, .ref mq2, .int 0, .ref mq3, .int 250, .ref mq4, .int 0, .ref mq5, .ref mq6, .ref mq16, .int 0, .ref mq7, .ref mq8, .ref mq9, .int 0, .null, .int 0, .null, .int 0, .int 0, .int 0, .ref mq10, .int 0, .ref mq11, .ref mq12, .ref mq13, .int 0, .ref mq14, .ref mq15, .int 0])), (mq5, .inr (2, [.int 0, .ref (g.2.2 0), .int 0]))]) hD hS hA [0, 1] rfl
  refine va_calli (va_runV (As := [.int x1, .int 1]) (rest := []) ⟨hx, hb, hml, hown, hts⟩ (c9_X21_found_2 l g m mq1 mq2 mq3 mq4 mq5 mq6 mq16 mq7 mq8 mq9 mq10 mq11 mq12 mq13 mq14 mq15 _ x1 (by omega)) (cwV 2 hts g9_law_129 rfl rfl rfl (by decide +kernel) ⟨Nat.le_of_ble_eq_true rfl, Nat.le_of_ble_eq_true rfl⟩) (mPreV (g := g) (wc := [(m, .inr (22, [.int 0, .ref mq1, .int 0, .ref mq2, .int 0, .ref mq3, .int 250, .ref mq4, .int 0, .ref mq5, .ref mq6, .ref mq16, .int 0, .ref mq7, .ref mq8, .ref mq9, .int 0, .null, .int 0, .null, .int 0, .int 0, .int 0, .ref mq10, .int 0, .ref mq11, .ref mq12, .ref mq13, .int 0, .ref mq14, .ref mq15, .int 0])), (mq5, .inr (2, [.int 0, .ref (g.2.2 0), .int 0]))]) (C := RX21) (ci := 22) (q0 := 0) hE hS hPc hDc hFc rfl rfl) rfl rfl hl.1 rfl (lv_room (Nat.le_of_ble_eq_true rfl)) dL_law_1220 ⟨Nat.le_of_ble_eq_true rfl, Nat.le_of_ble_eq_true rfl⟩) hS (fun q _ h => hFc q h) hFc (fun r_2 u t H1 locs ht hvm hw hB hz1 hk1 hS => ?_)
  replace hw : 0 = r_2 := Eq.symm hw
  subst hw
  obtain ⟨hP1, hD1⟩ := hB
  rw [ht] at hP1
  obtain ⟨hP, hD⟩ := va_join (wr := []) (w1 := [(m, .inr (22, [.int 1, .ref mq1, .int 0, .ref mq2, .int 0, .ref mq3, .int 250, .ref mq4, .int 0, .ref mq5, .ref mq6, .ref mq16, .int 0, .ref mq7, .ref mq8, .ref mq9, .int 0, .null, .int 0, .null, .int 0, .int 0, .int 0, .ref mq10, .int 0, .ref mq11, .ref mq12, .ref mq13, .int 0, .ref mq14, .ref mq15, .int 0])), (mq5, .inr (2, [.int 0, .ref (g.2.2 0), .int 0]))]) hP hD [0, 1] [] rfl rfl (by decide) (by decide) hk1 hFc hP1 hD1
  clear hP1 hD1 hPc hDc hFc hk1 hz1 hvm ht
  generalize H1 = H at hP hS ⊢
  have hP : va_P g.1 vwCl [(m, .inr (22, [.int 1, .ref mq1, .int 0, .ref mq2, .int 0, .ref mq3, .int 250, .ref mq4, .int 0, .ref mq5, .ref mq6, .ref mq16, .int 0, .ref mq7, .ref mq8, .ref mq9, .int 0, .null, .int 0, .null, .int 0, .int 0, .int 0, .ref mq10, .int 0, .ref mq11, .ref mq12, .ref mq13, .int 0, .ref mq14, .ref mq15, .int 0])), (mq5, .inr (2, [.int 0, .ref (g.2.2 0), .int 0]))] H := hP
  have hD : va_D A [(m, .inr (22, [.int 1, .ref mq1, .int 0, .ref mq2, .int 0, .ref mq3, .int 250, .ref mq4, .int 0, .ref mq5, .ref mq6, .ref mq16, .int 0, .ref mq7, .ref mq8, .ref mq9, .int 0, .null, .int 0, .null, .int 0, .int 0, .int 0, .ref mq10, .int 0, .ref mq11, .ref mq12, .ref mq13, .int 0, .ref mq14, .ref mq15, .int 0])), (mq5, .inr (2, [.int 0, .ref (g.2.2 0), .int 0]))] := hD
  refine lv_istore (lv' := [(6, .int 0), (5, .int 1), (0, .ref b), (1, .ref x), (2, .ref m), (3, .ref o), (4, .int 0)]) hx hb dL_law_1223 hl (by decide) rfl (fun ls hl => ?_)
  refine lv_aload_n hx hb dL_law_1225 rfl (lv_at hl 4 rfl) ?_
  have hPc := hP.sub (ws' := [(m, .inr (22, [.int 1, .ref mq1, .int 0, .ref mq2, .int 0, .ref mq3, .int 250, .ref mq4, .int 0, .ref mq5, .ref mq6, .ref mq16, .int 0, .ref mq7, .ref mq8, .ref mq9, .int 0, .null, .int 0, .null, .int 0, .int 0, .int 0, .ref mq10, .int 0, .ref mq11, .ref mq12, .ref mq13, .int 0, .ref mq14, .ref mq15, .int 0]))]) [0] rfl
  have hDc := hD.sub (ws' := [(m, .inr (22, [.int 1, .ref mq1, .int 0, .ref mq2, .int 0, .ref mq3, .int 250, .ref mq4, .int 0, .ref mq5, .ref mq6, .ref mq16, .int 0, .ref mq7, .ref mq8, .ref mq9, .int 0, .null, .int 0, .null, .int 0, .int 0, .int 0, .ref mq10, .int 0, .ref mq11, .ref mq12, .ref mq13, .int 0, .ref mq14, .ref mq15, .int 0]))]) [0] (by decide) rfl
  have hFc := va_free (wc := [(m, .inr (22, [.int 1, .ref mq1, .int 0, .ref mq2, .int 0, .ref mq3, .int 250, .ref mq4, .int 0, .ref mq5, .ref mq6, .ref mq16, .int 0, .ref mq7, .ref mq8, .ref mq9, .int 0, .null, .int 0, .null, .int 0, .int 0, .int 0, .ref mq10, .int 0, .ref mq11, .ref mq12, .ref mq13, .int 0, .ref mq14, .ref mq15, .int 0]))]) hD hS hA [0] rfl
  refine va_calli (va_runV (As := []) (rest := []) ⟨hx, hb, hml, hown, hts⟩ (c9_X21_thrown_2 l g m mq1 mq2 mq3 mq4 mq5 mq6 mq16 mq7 mq8 mq9 mq10 mq11 mq12 mq13 mq14 mq15 _) (cwV 0 hts g9_law_15 rfl rfl rfl (by decide +kernel) ⟨Nat.le_of_ble_eq_true rfl, Nat.le_of_ble_eq_true rfl⟩) (mPreV (g := g) (wc := [(m, .inr (22, [.int 1, .ref mq1, .int 0, .ref mq2, .int 0, .ref mq3, .int 250, .ref mq4, .int 0, .ref mq5, .ref mq6, .ref mq16, .int 0, .ref mq7, .ref mq8, .ref mq9, .int 0, .null, .int 0, .null, .int 0, .int 0, .int 0, .ref mq10, .int 0, .ref mq11, .ref mq12, .ref mq13, .int 0, .ref mq14, .ref mq15, .int 0]))]) (C := RX21) (ci := 22) (q0 := 0) hE hS hPc hDc hFc rfl rfl) rfl rfl hl.1 rfl (lv_room (Nat.le_of_ble_eq_true rfl)) dL_law_1226 ⟨Nat.le_of_ble_eq_true rfl, Nat.le_of_ble_eq_true rfl⟩) hS (fun q _ h => hFc q h) hFc (fun r_3 u t H1 locs ht hvm hw hB hz1 hk1 hS => ?_)
  replace hw : 1 = r_3 := Eq.symm hw
  subst hw
  obtain ⟨hP1, hD1⟩ := hB
  rw [ht] at hP1
  obtain ⟨hP, hD⟩ := va_join (wr := [(mq5, .inr (2, [.int 0, .ref (g.2.2 0), .int 0]))]) (w1 := [(m, .inr (22, [.int 1, .ref mq1, .int 0, .ref mq2, .int 0, .ref mq3, .int 250, .ref mq4, .int 0, .ref mq5, .ref mq6, .ref mq16, .int 0, .ref mq7, .ref mq8, .ref mq9, .int 0, .null, .int 0, .null, .int 0, .int 0, .int 0, .ref mq10, .int 0, .ref mq11, .ref mq12, .ref mq13, .int 0, .ref mq14, .ref mq15, .int 0]))]) hP hD [0] [1] rfl rfl (by decide) (by decide) hk1 hFc hP1 hD1
  clear hP1 hD1 hPc hDc hFc hk1 hz1 hvm ht
  generalize H1 = H at hP hS ⊢
  have hP : va_P g.1 vwCl [(mq5, .inr (2, [.int 0, .ref (g.2.2 0), .int 0])), (m, .inr (22, [.int 1, .ref mq1, .int 0, .ref mq2, .int 0, .ref mq3, .int 250, .ref mq4, .int 0, .ref mq5, .ref mq6, .ref mq16, .int 0, .ref mq7, .ref mq8, .ref mq9, .int 0, .null, .int 0, .null, .int 0, .int 0, .int 0, .ref mq10, .int 0, .ref mq11, .ref mq12, .ref mq13, .int 0, .ref mq14, .ref mq15, .int 0]))] H := hP
  have hD : va_D A [(mq5, .inr (2, [.int 0, .ref (g.2.2 0), .int 0])), (m, .inr (22, [.int 1, .ref mq1, .int 0, .ref mq2, .int 0, .ref mq3, .int 250, .ref mq4, .int 0, .ref mq5, .ref mq6, .ref mq16, .int 0, .ref mq7, .ref mq8, .ref mq9, .int 0, .null, .int 0, .null, .int 0, .int 0, .int 0, .ref mq10, .int 0, .ref mq11, .ref mq12, .ref mq13, .int 0, .ref mq14, .ref mq15, .int 0]))] := hD
  refine lv_iload hx hb dL_law_1229 (lv_at hl 1 rfl) ?_
  refine lv_icmp_eq (tgt := 1236) hx hb dL_law_1231 (by decide) (fun _ => ?_) (fun c9 => absurd (by decide) c9)
  refine lv_iload hx hb dL_law_1236 (lv_at hl 1 rfl) ?_
  refine lv_if_ne (tgt := 1253) hx hb dL_law_1238 (by decide) (fun _ => ?_) (fun c9 => absurd c9 (by decide))
  refine lv_goto (tgt := 1368) hx hb dL_law_1253 (by decide) ?_
  subst hAe
  exact law_end C0 hS (lv_sub hl [2, 6] rfl) (Nat.le_of_ble_eq_true rfl) (Nat.le_of_ble_eq_true rfl)
set_option maxHeartbeats 4000000 in
set_option maxRecDepth 100000 in
theorem law_17_n {p : Program} {l : Launch} {e : Env} {s : State} {m9 : MethodId} {below : List Frame} {meth : Method} {c : Code} {g : G9} {b : Nat} {xs : Nat → Int32} (hlt : l.stackTraces = false) (C0 : lw_At p s m9 meth c b 4 xs) (hE : EE g (fun q : Nat => s.heap.size ≤ q) s) (x m o xq1 xq2 xq4 xq5 xq12 xq22 xq23 xq24 xq25 xq20 xq13 xq14 xq26 mq1 mq2 mq3 mq4 mq5 mq6 mq16 mq7 mq8 mq9 mq10 mq11 mq12 mq13 mq14 mq15 : Nat) (x1 : Int32) (e1 : xs 1 = x1) (k_x1 : (-2147483648) ≤ x1.toInt ∧ x1.toInt ≤ (-1)) : ∀ (H : Heap) (locs : List Loc) (ls : Array Slot), va_P g.1 vwCl [(x, .inr (12, [.ref xq1, .int 0, .ref xq2, .ref xq4, .ref xq5, .ref xq12, .ref xq22, .ref xq23, .int (-1), .ref xq24, .ref xq25, .int 250, .ref xq20, .int 0, .ref xq13, .ref xq14, .ref xq26])), (m, .inr (22, [.int 0, .ref mq1, .int 0, .ref mq2, .int 0, .ref mq3, .int 250, .ref mq4, .int 0, .ref mq5, .ref mq6, .ref mq16, .int 0, .ref mq7, .ref mq8, .ref mq9, .int 0, .null, .int 0, .null, .int 0, .int 0, .int 0, .ref mq10, .int 0, .ref mq11, .ref mq12, .ref mq13, .int 0, .ref mq14, .ref mq15, .int 0]))] H → va_D (fun q : Nat => s.heap.size ≤ q) [(x, .inr (12, [.ref xq1, .int 0, .ref xq2, .ref xq4, .ref xq5, .ref xq12, .ref xq22, .ref xq23, .int (-1), .ref xq24, .ref xq25, .int 250, .ref xq20, .int 0, .ref xq13, .ref xq14, .ref xq26])), (m, .inr (22, [.int 0, .ref mq1, .int 0, .ref mq2, .int 0, .ref mq3, .int 250, .ref mq4, .int 0, .ref mq5, .ref mq6, .ref mq16, .int 0, .ref mq7, .ref mq8, .ref mq9, .int 0, .null, .int 0, .null, .int 0, .int 0, .int 0, .ref mq10, .int 0, .ref mq11, .ref mq12, .ref mq13, .int 0, .ref mq14, .ref mq15, .int 0]))] → va_S (fun q : Nat => s.heap.size ≤ q) s.heap H locs → lv_has ls 7 [(0, .ref b), (1, .ref x), (2, .ref m), (3, .ref o), (4, .int 0)] → W p l e room_1 s m9 #[Value.ref b] below meth c H locs 106 7589 (lw_Z below #[Value.ref b] s) (F0 m9 980 ls []) := by
  intro H locs ls hP hD hS hl
  obtain ⟨hx, hb, hr, hml, hown, hts0, hX, hbl, hlocks, hgv⟩ := id C0
  have hts : ∀ w ∈ w9_law, w.before #[Value.ref b] s = true := fun w h => hts0 w (w9_law_in w h)
  generalize hAe : (fun q : Nat => s.heap.size ≤ q) = A at hE hD hS
  have hA : ∀ q : Nat, s.heap.size ≤ q → A q := fun q h => by rw [← hAe]; exact h
  have hbA : ¬ A b := by rw [← hAe]; exact Nat.not_le.mpr hbl
  have hK := hE.1
  refine lv_aload_n hx hb dL_law_980 rfl (lv_at hl 1 rfl) ?_
  refine lv_aload_n hx hb dL_law_981 rfl (lv_at hl 0 rfl) ?_
  refine lv_iload hx hb dL_law_982 (lv_at hl 4 rfl) ?_
  refine lv_iconst (v := 1) hx hb dL_law_984 (by decide) ?_
  refine lv_iadd hx hb dL_law_985 ?_
  refine e_top (y := 1) (by decide) ?_
  refine va_sld hx hb hX hbl hbA hS (vp_in_nI (n := 1) (by decide) (by decide)) dL_law_986 ?_
  refine e_top (y := x1) e1 ?_
  refine lv_aload_n hx hb dL_law_987 rfl (lv_at hl 3 rfl) ?_
  have hPc := hP.sub (ws' := [(x, .inr (12, [.ref xq1, .int 0, .ref xq2, .ref xq4, .ref xq5, .ref xq12, .ref xq22, .ref xq23, .int (-1), .ref xq24, .ref xq25, .int 250, .ref xq20, .int 0, .ref xq13, .ref xq14, .ref xq26]))]) [0] rfl
  have hDc := hD.sub (ws' := [(x, .inr (12, [.ref xq1, .int 0, .ref xq2, .ref xq4, .ref xq5, .ref xq12, .ref xq22, .ref xq23, .int (-1), .ref xq24, .ref xq25, .int 250, .ref xq20, .int 0, .ref xq13, .ref xq14, .ref xq26]))]) [0] (by decide) rfl
  have hFc := va_free (wc := [(x, .inr (12, [.ref xq1, .int 0, .ref xq2, .ref xq4, .ref xq5, .ref xq12, .ref xq22, .ref xq23, .int (-1), .ref xq24, .ref xq25, .int 250, .ref xq20, .int 0, .ref xq13, .ref xq14, .ref xq26]))]) hD hS hA [0] rfl
  refine va_calli (vx_runSW (As := [.ref x, .int x1, .ref o]) (rest := []) ⟨hx, hb, hml, hown, hts⟩ (c9_L_which_1 l hlt g x o xq1 xq2 xq4 xq5 xq12 xq22 xq23 xq24 xq25 xq20 xq13 xq14 xq26 _ x1 (by omega)) (vx_cwSW (bytes := cL_which) (maxL := 4) (ret := (some .int)) (hh := [(0, 9, 12, 21)]) 3 hts g9_law_152 rfl rfl rfl (by decide +kernel) ⟨Nat.le_of_ble_eq_true rfl, Nat.le_of_ble_eq_true rfl⟩) (mPreS (g := g) (wc := [(x, .inr (12, [.ref xq1, .int 0, .ref xq2, .ref xq4, .ref xq5, .ref xq12, .ref xq22, .ref xq23, .int (-1), .ref xq24, .ref xq25, .int 250, .ref xq20, .int 0, .ref xq13, .ref xq14, .ref xq26]))]) hE hS hPc hDc hFc) rfl rfl hl.1 rfl (lv_room (Nat.le_of_ble_eq_true rfl)) dL_law_988 ⟨Nat.le_of_ble_eq_true rfl, Nat.le_of_ble_eq_true rfl⟩) hS (fun q _ h => hFc q h) hFc (fun r_1 u t H1 locs ht hvm hw hB hz1 hk1 hS => ?_)
  replace hw : 1 = r_1 := Eq.symm hw
  subst hw
  obtain ⟨hP1, hD1⟩ := hB
  rw [ht] at hP1
  obtain ⟨hP, hD⟩ := va_join (wr := [(m, .inr (22, [.int 0, .ref mq1, .int 0, .ref mq2, .int 0, .ref mq3, .int 250, .ref mq4, .int 0, .ref mq5, .ref mq6, .ref mq16, .int 0, .ref mq7, .ref mq8, .ref mq9, .int 0, .null, .int 0, .null, .int 0, .int 0, .int 0, .ref mq10, .int 0, .ref mq11, .ref mq12, .ref mq13, .int 0, .ref mq14, .ref mq15, .int 0]))]) (w1 := []) hP hD [0] [1] rfl rfl (by decide) (by decide) hk1 hFc hP1 hD1
  clear hP1 hD1 hPc hDc hFc hk1 hz1 hvm ht
  generalize H1 = H at hP hS ⊢
  have hP : va_P g.1 vwCl [(m, .inr (22, [.int 0, .ref mq1, .int 0, .ref mq2, .int 0, .ref mq3, .int 250, .ref mq4, .int 0, .ref mq5, .ref mq6, .ref mq16, .int 0, .ref mq7, .ref mq8, .ref mq9, .int 0, .null, .int 0, .null, .int 0, .int 0, .int 0, .ref mq10, .int 0, .ref mq11, .ref mq12, .ref mq13, .int 0, .ref mq14, .ref mq15, .int 0]))] H := hP
  have hD : va_D A [(m, .inr (22, [.int 0, .ref mq1, .int 0, .ref mq2, .int 0, .ref mq3, .int 250, .ref mq4, .int 0, .ref mq5, .ref mq6, .ref mq16, .int 0, .ref mq7, .ref mq8, .ref mq9, .int 0, .null, .int 0, .null, .int 0, .int 0, .int 0, .ref mq10, .int 0, .ref mq11, .ref mq12, .ref mq13, .int 0, .ref mq14, .ref mq15, .int 0]))] := hD
  refine lv_istore (lv' := [(5, .int 1), (0, .ref b), (1, .ref x), (2, .ref m), (3, .ref o), (4, .int 0)]) hx hb dL_law_991 hl (by decide) rfl (fun ls hl => ?_)
  refine lv_aload_n hx hb dL_law_993 rfl (lv_at hl 3 rfl) ?_
  refine lv_aload_n hx hb dL_law_994 rfl (lv_at hl 1 rfl) ?_
  refine lv_iload hx hb dL_law_995 (lv_at hl 5 rfl) ?_
  refine lv_iconst (v := 1) hx hb dL_law_997 (by decide) ?_
  refine lv_iadd hx hb dL_law_998 ?_
  refine e_top (y := 1) (by decide) ?_
  refine va_sld hx hb hX hbl hbA hS (vp_in_nI (n := 1) (by decide) (by decide)) dL_law_999 ?_
  refine e_top (y := x1) e1 ?_
  have hPc := hP.sub (ws' := [(m, .inr (22, [.int 0, .ref mq1, .int 0, .ref mq2, .int 0, .ref mq3, .int 250, .ref mq4, .int 0, .ref mq5, .ref mq6, .ref mq16, .int 0, .ref mq7, .ref mq8, .ref mq9, .int 0, .null, .int 0, .null, .int 0, .int 0, .int 0, .ref mq10, .int 0, .ref mq11, .ref mq12, .ref mq13, .int 0, .ref mq14, .ref mq15, .int 0]))]) [0] rfl
  have hDc := hD.sub (ws' := [(m, .inr (22, [.int 0, .ref mq1, .int 0, .ref mq2, .int 0, .ref mq3, .int 250, .ref mq4, .int 0, .ref mq5, .ref mq6, .ref mq16, .int 0, .ref mq7, .ref mq8, .ref mq9, .int 0, .null, .int 0, .null, .int 0, .int 0, .int 0, .ref mq10, .int 0, .ref mq11, .ref mq12, .ref mq13, .int 0, .ref mq14, .ref mq15, .int 0]))]) [0] (by decide) rfl
  have hFc := va_free (wc := [(m, .inr (22, [.int 0, .ref mq1, .int 0, .ref mq2, .int 0, .ref mq3, .int 250, .ref mq4, .int 0, .ref mq5, .ref mq6, .ref mq16, .int 0, .ref mq7, .ref mq8, .ref mq9, .int 0, .null, .int 0, .null, .int 0, .int 0, .int 0, .ref mq10, .int 0, .ref mq11, .ref mq12, .ref mq13, .int 0, .ref mq14, .ref mq15, .int 0]))]) hD hS hA [0] rfl
  refine va_calli (vx_runVW (As := [.int x1]) (rest := []) ⟨hx, hb, hml, hown, hts⟩ (c9_X21_which_1 l g m mq1 mq2 mq3 mq4 mq5 mq6 mq16 mq7 mq8 mq9 mq10 mq11 mq12 mq13 mq14 mq15 _ x1 (by omega)) (vx_cwVW (bytes := cX21_which) (maxL := 5) (ret := (some .int)) (hh := [(40, 74, 77, 208)]) 1 hts g9_law_153 rfl rfl rfl (by decide +kernel) ⟨Nat.le_of_ble_eq_true rfl, Nat.le_of_ble_eq_true rfl⟩) (mPreV (g := g) (wc := [(m, .inr (22, [.int 0, .ref mq1, .int 0, .ref mq2, .int 0, .ref mq3, .int 250, .ref mq4, .int 0, .ref mq5, .ref mq6, .ref mq16, .int 0, .ref mq7, .ref mq8, .ref mq9, .int 0, .null, .int 0, .null, .int 0, .int 0, .int 0, .ref mq10, .int 0, .ref mq11, .ref mq12, .ref mq13, .int 0, .ref mq14, .ref mq15, .int 0]))]) (C := RX21) (ci := 22) (q0 := 0) hE hS hPc hDc hFc rfl rfl) rfl rfl hl.1 rfl (lv_room (Nat.le_of_ble_eq_true rfl)) dL_law_1000 ⟨Nat.le_of_ble_eq_true rfl, Nat.le_of_ble_eq_true rfl⟩) hS (fun q _ h => hFc q h) hFc (fun r_2 u t H1 locs ht hvm hw hB hz1 hk1 hS => ?_)
  replace hw : 0 = r_2 := Eq.symm hw
  subst hw
  obtain ⟨hP1, hD1⟩ := hB
  rw [ht] at hP1
  obtain ⟨hP, hD⟩ := va_join (wr := []) (w1 := [(m, .inr (22, [.int 1, .ref mq1, .int 0, .ref mq2, .int 0, .ref mq3, .int 250, .ref mq4, .int 0, .ref mq5, .ref mq6, .ref mq16, .int 0, .ref mq7, .ref mq8, .ref mq9, .int 0, .null, .int 0, .null, .int 0, .int 0, .int 0, .ref mq10, .int 0, .ref mq11, .ref mq12, .ref mq13, .int 0, .ref mq14, .ref mq15, .int 0]))]) hP hD [0] [] rfl rfl (by decide) (by decide) hk1 hFc hP1 hD1
  clear hP1 hD1 hPc hDc hFc hk1 hz1 hvm ht
  generalize H1 = H at hP hS ⊢
  have hP : va_P g.1 vwCl [(m, .inr (22, [.int 1, .ref mq1, .int 0, .ref mq2, .int 0, .ref mq3, .int 250, .ref mq4, .int 0, .ref mq5, .ref mq6, .ref mq16, .int 0, .ref mq7, .ref mq8, .ref mq9, .int 0, .null, .int 0, .null, .int 0, .int 0, .int 0, .ref mq10, .int 0, .ref mq11, .ref mq12, .ref mq13, .int 0, .ref mq14, .ref mq15, .int 0]))] H := hP
  have hD : va_D A [(m, .inr (22, [.int 1, .ref mq1, .int 0, .ref mq2, .int 0, .ref mq3, .int 250, .ref mq4, .int 0, .ref mq5, .ref mq6, .ref mq16, .int 0, .ref mq7, .ref mq8, .ref mq9, .int 0, .null, .int 0, .null, .int 0, .int 0, .int 0, .ref mq10, .int 0, .ref mq11, .ref mq12, .ref mq13, .int 0, .ref mq14, .ref mq15, .int 0]))] := hD
  refine lv_istore (lv' := [(6, .int 0), (5, .int 1), (0, .ref b), (1, .ref x), (2, .ref m), (3, .ref o), (4, .int 0)]) hx hb dL_law_1003 hl (by decide) rfl (fun ls hl => ?_)
  refine lv_aload_n hx hb dL_law_1005 rfl (lv_at hl 4 rfl) ?_
  have hPc := hP.sub (ws' := [(m, .inr (22, [.int 1, .ref mq1, .int 0, .ref mq2, .int 0, .ref mq3, .int 250, .ref mq4, .int 0, .ref mq5, .ref mq6, .ref mq16, .int 0, .ref mq7, .ref mq8, .ref mq9, .int 0, .null, .int 0, .null, .int 0, .int 0, .int 0, .ref mq10, .int 0, .ref mq11, .ref mq12, .ref mq13, .int 0, .ref mq14, .ref mq15, .int 0]))]) [0] rfl
  have hDc := hD.sub (ws' := [(m, .inr (22, [.int 1, .ref mq1, .int 0, .ref mq2, .int 0, .ref mq3, .int 250, .ref mq4, .int 0, .ref mq5, .ref mq6, .ref mq16, .int 0, .ref mq7, .ref mq8, .ref mq9, .int 0, .null, .int 0, .null, .int 0, .int 0, .int 0, .ref mq10, .int 0, .ref mq11, .ref mq12, .ref mq13, .int 0, .ref mq14, .ref mq15, .int 0]))]) [0] (by decide) rfl
  have hFc := va_free (wc := [(m, .inr (22, [.int 1, .ref mq1, .int 0, .ref mq2, .int 0, .ref mq3, .int 250, .ref mq4, .int 0, .ref mq5, .ref mq6, .ref mq16, .int 0, .ref mq7, .ref mq8, .ref mq9, .int 0, .null, .int 0, .null, .int 0, .int 0, .int 0, .ref mq10, .int 0, .ref mq11, .ref mq12, .ref mq13, .int 0, .ref mq14, .ref mq15, .int 0]))]) hD hS hA [0] rfl
  refine va_calli (va_runV (As := []) (rest := []) ⟨hx, hb, hml, hown, hts⟩ (c9_X21_thrown_2 l g m mq1 mq2 mq3 mq4 mq5 mq6 mq16 mq7 mq8 mq9 mq10 mq11 mq12 mq13 mq14 mq15 _) (cwV 0 hts g9_law_15 rfl rfl rfl (by decide +kernel) ⟨Nat.le_of_ble_eq_true rfl, Nat.le_of_ble_eq_true rfl⟩) (mPreV (g := g) (wc := [(m, .inr (22, [.int 1, .ref mq1, .int 0, .ref mq2, .int 0, .ref mq3, .int 250, .ref mq4, .int 0, .ref mq5, .ref mq6, .ref mq16, .int 0, .ref mq7, .ref mq8, .ref mq9, .int 0, .null, .int 0, .null, .int 0, .int 0, .int 0, .ref mq10, .int 0, .ref mq11, .ref mq12, .ref mq13, .int 0, .ref mq14, .ref mq15, .int 0]))]) (C := RX21) (ci := 22) (q0 := 0) hE hS hPc hDc hFc rfl rfl) rfl rfl hl.1 rfl (lv_room (Nat.le_of_ble_eq_true rfl)) dL_law_1006 ⟨Nat.le_of_ble_eq_true rfl, Nat.le_of_ble_eq_true rfl⟩) hS (fun q _ h => hFc q h) hFc (fun r_3 u t H1 locs ht hvm hw hB hz1 hk1 hS => ?_)
  replace hw : 1 = r_3 := Eq.symm hw
  subst hw
  obtain ⟨hP1, hD1⟩ := hB
  rw [ht] at hP1
  obtain ⟨hP, hD⟩ := va_join (wr := []) (w1 := [(m, .inr (22, [.int 1, .ref mq1, .int 0, .ref mq2, .int 0, .ref mq3, .int 250, .ref mq4, .int 0, .ref mq5, .ref mq6, .ref mq16, .int 0, .ref mq7, .ref mq8, .ref mq9, .int 0, .null, .int 0, .null, .int 0, .int 0, .int 0, .ref mq10, .int 0, .ref mq11, .ref mq12, .ref mq13, .int 0, .ref mq14, .ref mq15, .int 0]))]) hP hD [0] [] rfl rfl (by decide) (by decide) hk1 hFc hP1 hD1
  clear hP1 hD1 hPc hDc hFc hk1 hz1 hvm ht
  generalize H1 = H at hP hS ⊢
  have hP : va_P g.1 vwCl [(m, .inr (22, [.int 1, .ref mq1, .int 0, .ref mq2, .int 0, .ref mq3, .int 250, .ref mq4, .int 0, .ref mq5, .ref mq6, .ref mq16, .int 0, .ref mq7, .ref mq8, .ref mq9, .int 0, .null, .int 0, .null, .int 0, .int 0, .int 0, .ref mq10, .int 0, .ref mq11, .ref mq12, .ref mq13, .int 0, .ref mq14, .ref mq15, .int 0]))] H := hP
  have hD : va_D A [(m, .inr (22, [.int 1, .ref mq1, .int 0, .ref mq2, .int 0, .ref mq3, .int 250, .ref mq4, .int 0, .ref mq5, .ref mq6, .ref mq16, .int 0, .ref mq7, .ref mq8, .ref mq9, .int 0, .null, .int 0, .null, .int 0, .int 0, .int 0, .ref mq10, .int 0, .ref mq11, .ref mq12, .ref mq13, .int 0, .ref mq14, .ref mq15, .int 0]))] := hD
  refine lv_iload hx hb dL_law_1009 (lv_at hl 1 rfl) ?_
  refine lv_icmp_eq (tgt := 1016) hx hb dL_law_1011 (by decide) (fun _ => ?_) (fun c9 => absurd (by decide) c9)
  refine lv_iload hx hb dL_law_1016 (lv_at hl 1 rfl) ?_
  refine lv_if_ne (tgt := 1033) hx hb dL_law_1018 (by decide) (fun _ => ?_) (fun c9 => absurd c9 (by decide))
  refine lv_goto (tgt := 1368) hx hb dL_law_1033 (by decide) ?_
  subst hAe
  exact law_end C0 hS (lv_sub hl [2, 6] rfl) (Nat.le_of_ble_eq_true rfl) (Nat.le_of_ble_eq_true rfl)
set_option maxHeartbeats 4000000 in
set_option maxRecDepth 100000 in
theorem law_17_p {p : Program} {l : Launch} {e : Env} {s : State} {m9 : MethodId} {below : List Frame} {meth : Method} {c : Code} {g : G9} {b : Nat} {xs : Nat → Int32} (hlt : l.stackTraces = false) (C0 : lw_At p s m9 meth c b 4 xs) (hE : EE g (fun q : Nat => s.heap.size ≤ q) s) (x m o xq1 xq2 xq4 xq5 xq12 xq22 xq23 xq24 xq25 xq20 xq13 xq14 xq26 xq3 xq27 mq1 mq2 mq3 mq4 mq5 mq6 mq16 mq7 mq8 mq9 mq10 mq11 mq12 mq13 mq14 mq15 : Nat) (x1 : Int32) (e1 : xs 1 = x1) (k_x1 : 1 ≤ x1.toInt ∧ x1.toInt ≤ 2147483647) : ∀ (H : Heap) (locs : List Loc) (ls : Array Slot), va_P g.1 vwCl [(x, .inr (12, [.ref xq1, .int 0, .ref xq2, .ref xq4, .ref xq5, .ref xq12, .ref xq22, .ref xq23, .int (-1), .ref xq24, .ref xq25, .int 250, .ref xq20, .int 0, .ref xq13, .ref xq14, .ref xq26])), (xq2, .inr (11, [.ref xq3])), (xq3, .inr (10, [.int 1, .int 20, .ref xq27, .int 0])), (m, .inr (22, [.int 0, .ref mq1, .int 0, .ref mq2, .int 0, .ref mq3, .int 250, .ref mq4, .int 0, .ref mq5, .ref mq6, .ref mq16, .int 0, .ref mq7, .ref mq8, .ref mq9, .int 0, .null, .int 0, .null, .int 0, .int 0, .int 0, .ref mq10, .int 0, .ref mq11, .ref mq12, .ref mq13, .int 0, .ref mq14, .ref mq15, .int 0]))] H → va_D (fun q : Nat => s.heap.size ≤ q) [(x, .inr (12, [.ref xq1, .int 0, .ref xq2, .ref xq4, .ref xq5, .ref xq12, .ref xq22, .ref xq23, .int (-1), .ref xq24, .ref xq25, .int 250, .ref xq20, .int 0, .ref xq13, .ref xq14, .ref xq26])), (xq2, .inr (11, [.ref xq3])), (xq3, .inr (10, [.int 1, .int 20, .ref xq27, .int 0])), (m, .inr (22, [.int 0, .ref mq1, .int 0, .ref mq2, .int 0, .ref mq3, .int 250, .ref mq4, .int 0, .ref mq5, .ref mq6, .ref mq16, .int 0, .ref mq7, .ref mq8, .ref mq9, .int 0, .null, .int 0, .null, .int 0, .int 0, .int 0, .ref mq10, .int 0, .ref mq11, .ref mq12, .ref mq13, .int 0, .ref mq14, .ref mq15, .int 0]))] → va_S (fun q : Nat => s.heap.size ≤ q) s.heap H locs → lv_has ls 7 [(0, .ref b), (1, .ref x), (2, .ref m), (3, .ref o), (4, .int 0)] → W p l e room_1 s m9 #[Value.ref b] below meth c H locs 106 7589 (lw_Z below #[Value.ref b] s) (F0 m9 980 ls []) := by
  intro H locs ls hP hD hS hl
  obtain ⟨hx, hb, hr, hml, hown, hts0, hX, hbl, hlocks, hgv⟩ := id C0
  have hts : ∀ w ∈ w9_law, w.before #[Value.ref b] s = true := fun w h => hts0 w (w9_law_in w h)
  generalize hAe : (fun q : Nat => s.heap.size ≤ q) = A at hE hD hS
  have hA : ∀ q : Nat, s.heap.size ≤ q → A q := fun q h => by rw [← hAe]; exact h
  have hbA : ¬ A b := by rw [← hAe]; exact Nat.not_le.mpr hbl
  have hK := hE.1
  refine lv_aload_n hx hb dL_law_980 rfl (lv_at hl 1 rfl) ?_
  refine lv_aload_n hx hb dL_law_981 rfl (lv_at hl 0 rfl) ?_
  refine lv_iload hx hb dL_law_982 (lv_at hl 4 rfl) ?_
  refine lv_iconst (v := 1) hx hb dL_law_984 (by decide) ?_
  refine lv_iadd hx hb dL_law_985 ?_
  refine e_top (y := 1) (by decide) ?_
  refine va_sld hx hb hX hbl hbA hS (vp_in_nI (n := 1) (by decide) (by decide)) dL_law_986 ?_
  refine e_top (y := x1) e1 ?_
  refine lv_aload_n hx hb dL_law_987 rfl (lv_at hl 3 rfl) ?_
  have hPc := hP.sub (ws' := [(x, .inr (12, [.ref xq1, .int 0, .ref xq2, .ref xq4, .ref xq5, .ref xq12, .ref xq22, .ref xq23, .int (-1), .ref xq24, .ref xq25, .int 250, .ref xq20, .int 0, .ref xq13, .ref xq14, .ref xq26])), (xq2, .inr (11, [.ref xq3])), (xq3, .inr (10, [.int 1, .int 20, .ref xq27, .int 0]))]) [0, 1, 2] rfl
  have hDc := hD.sub (ws' := [(x, .inr (12, [.ref xq1, .int 0, .ref xq2, .ref xq4, .ref xq5, .ref xq12, .ref xq22, .ref xq23, .int (-1), .ref xq24, .ref xq25, .int 250, .ref xq20, .int 0, .ref xq13, .ref xq14, .ref xq26])), (xq2, .inr (11, [.ref xq3])), (xq3, .inr (10, [.int 1, .int 20, .ref xq27, .int 0]))]) [0, 1, 2] (by decide) rfl
  have hFc := va_free (wc := [(x, .inr (12, [.ref xq1, .int 0, .ref xq2, .ref xq4, .ref xq5, .ref xq12, .ref xq22, .ref xq23, .int (-1), .ref xq24, .ref xq25, .int 250, .ref xq20, .int 0, .ref xq13, .ref xq14, .ref xq26])), (xq2, .inr (11, [.ref xq3])), (xq3, .inr (10, [.int 1, .int 20, .ref xq27, .int 0]))]) hD hS hA [0, 1, 2] rfl
  refine va_calli (vx_runSW (As := [.ref x, .int x1, .ref o]) (rest := []) ⟨hx, hb, hml, hown, hts⟩ (c9_L_which_2 l hlt g x o xq1 xq2 xq4 xq5 xq12 xq22 xq23 xq24 xq25 xq20 xq13 xq14 xq26 xq3 xq27 _ x1 (by omega)) (vx_cwSW (bytes := cL_which) (maxL := 4) (ret := (some .int)) (hh := [(0, 9, 12, 21)]) 3 hts g9_law_154 rfl rfl rfl (by decide +kernel) ⟨Nat.le_of_ble_eq_true rfl, Nat.le_of_ble_eq_true rfl⟩) (mPreS (g := g) (wc := [(x, .inr (12, [.ref xq1, .int 0, .ref xq2, .ref xq4, .ref xq5, .ref xq12, .ref xq22, .ref xq23, .int (-1), .ref xq24, .ref xq25, .int 250, .ref xq20, .int 0, .ref xq13, .ref xq14, .ref xq26])), (xq2, .inr (11, [.ref xq3])), (xq3, .inr (10, [.int 1, .int 20, .ref xq27, .int 0]))]) hE hS hPc hDc hFc) rfl rfl hl.1 rfl (lv_room (Nat.le_of_ble_eq_true rfl)) dL_law_988 ⟨Nat.le_of_ble_eq_true rfl, Nat.le_of_ble_eq_true rfl⟩) hS (fun q _ h => hFc q h) hFc (fun r_1 u t H1 locs ht hvm hw hB hz1 hk1 hS => ?_)
  replace hw : 1 = r_1 := Eq.symm hw
  subst hw
  obtain ⟨hP1, hD1⟩ := hB
  rw [ht] at hP1
  obtain ⟨hP, hD⟩ := va_join (wr := [(m, .inr (22, [.int 0, .ref mq1, .int 0, .ref mq2, .int 0, .ref mq3, .int 250, .ref mq4, .int 0, .ref mq5, .ref mq6, .ref mq16, .int 0, .ref mq7, .ref mq8, .ref mq9, .int 0, .null, .int 0, .null, .int 0, .int 0, .int 0, .ref mq10, .int 0, .ref mq11, .ref mq12, .ref mq13, .int 0, .ref mq14, .ref mq15, .int 0]))]) (w1 := []) hP hD [0, 1, 2] [3] rfl rfl (by decide) (by decide) hk1 hFc hP1 hD1
  clear hP1 hD1 hPc hDc hFc hk1 hz1 hvm ht
  generalize H1 = H at hP hS ⊢
  have hP : va_P g.1 vwCl [(m, .inr (22, [.int 0, .ref mq1, .int 0, .ref mq2, .int 0, .ref mq3, .int 250, .ref mq4, .int 0, .ref mq5, .ref mq6, .ref mq16, .int 0, .ref mq7, .ref mq8, .ref mq9, .int 0, .null, .int 0, .null, .int 0, .int 0, .int 0, .ref mq10, .int 0, .ref mq11, .ref mq12, .ref mq13, .int 0, .ref mq14, .ref mq15, .int 0]))] H := hP
  have hD : va_D A [(m, .inr (22, [.int 0, .ref mq1, .int 0, .ref mq2, .int 0, .ref mq3, .int 250, .ref mq4, .int 0, .ref mq5, .ref mq6, .ref mq16, .int 0, .ref mq7, .ref mq8, .ref mq9, .int 0, .null, .int 0, .null, .int 0, .int 0, .int 0, .ref mq10, .int 0, .ref mq11, .ref mq12, .ref mq13, .int 0, .ref mq14, .ref mq15, .int 0]))] := hD
  refine lv_istore (lv' := [(5, .int 1), (0, .ref b), (1, .ref x), (2, .ref m), (3, .ref o), (4, .int 0)]) hx hb dL_law_991 hl (by decide) rfl (fun ls hl => ?_)
  refine lv_aload_n hx hb dL_law_993 rfl (lv_at hl 3 rfl) ?_
  refine lv_aload_n hx hb dL_law_994 rfl (lv_at hl 1 rfl) ?_
  refine lv_iload hx hb dL_law_995 (lv_at hl 5 rfl) ?_
  refine lv_iconst (v := 1) hx hb dL_law_997 (by decide) ?_
  refine lv_iadd hx hb dL_law_998 ?_
  refine e_top (y := 1) (by decide) ?_
  refine va_sld hx hb hX hbl hbA hS (vp_in_nI (n := 1) (by decide) (by decide)) dL_law_999 ?_
  refine e_top (y := x1) e1 ?_
  have hPc := hP.sub (ws' := [(m, .inr (22, [.int 0, .ref mq1, .int 0, .ref mq2, .int 0, .ref mq3, .int 250, .ref mq4, .int 0, .ref mq5, .ref mq6, .ref mq16, .int 0, .ref mq7, .ref mq8, .ref mq9, .int 0, .null, .int 0, .null, .int 0, .int 0, .int 0, .ref mq10, .int 0, .ref mq11, .ref mq12, .ref mq13, .int 0, .ref mq14, .ref mq15, .int 0]))]) [0] rfl
  have hDc := hD.sub (ws' := [(m, .inr (22, [.int 0, .ref mq1, .int 0, .ref mq2, .int 0, .ref mq3, .int 250, .ref mq4, .int 0, .ref mq5, .ref mq6, .ref mq16, .int 0, .ref mq7, .ref mq8, .ref mq9, .int 0, .null, .int 0, .null, .int 0, .int 0, .int 0, .ref mq10, .int 0, .ref mq11, .ref mq12, .ref mq13, .int 0, .ref mq14, .ref mq15, .int 0]))]) [0] (by decide) rfl
  have hFc := va_free (wc := [(m, .inr (22, [.int 0, .ref mq1, .int 0, .ref mq2, .int 0, .ref mq3, .int 250, .ref mq4, .int 0, .ref mq5, .ref mq6, .ref mq16, .int 0, .ref mq7, .ref mq8, .ref mq9, .int 0, .null, .int 0, .null, .int 0, .int 0, .int 0, .ref mq10, .int 0, .ref mq11, .ref mq12, .ref mq13, .int 0, .ref mq14, .ref mq15, .int 0]))]) hD hS hA [0] rfl
  refine va_calli (vx_runVW (As := [.int x1]) (rest := []) ⟨hx, hb, hml, hown, hts⟩ (c9_X21_which_2 l g m mq1 mq2 mq3 mq4 mq5 mq6 mq16 mq7 mq8 mq9 mq10 mq11 mq12 mq13 mq14 mq15 _ x1 (by omega)) (vx_cwVW (bytes := cX21_which) (maxL := 5) (ret := (some .int)) (hh := [(40, 74, 77, 208)]) 1 hts g9_law_155 rfl rfl rfl (by decide +kernel) ⟨Nat.le_of_ble_eq_true rfl, Nat.le_of_ble_eq_true rfl⟩) (mPreV (g := g) (wc := [(m, .inr (22, [.int 0, .ref mq1, .int 0, .ref mq2, .int 0, .ref mq3, .int 250, .ref mq4, .int 0, .ref mq5, .ref mq6, .ref mq16, .int 0, .ref mq7, .ref mq8, .ref mq9, .int 0, .null, .int 0, .null, .int 0, .int 0, .int 0, .ref mq10, .int 0, .ref mq11, .ref mq12, .ref mq13, .int 0, .ref mq14, .ref mq15, .int 0]))]) (C := RX21) (ci := 22) (q0 := 0) hE hS hPc hDc hFc rfl rfl) rfl rfl hl.1 rfl (lv_room (Nat.le_of_ble_eq_true rfl)) dL_law_1000 ⟨Nat.le_of_ble_eq_true rfl, Nat.le_of_ble_eq_true rfl⟩) hS (fun q _ h => hFc q h) hFc (fun r_2 u t H1 locs ht hvm hw hB hz1 hk1 hS => ?_)
  replace hw : 0 = r_2 := Eq.symm hw
  subst hw
  obtain ⟨hP1, hD1⟩ := hB
  rw [ht] at hP1
  obtain ⟨hP, hD⟩ := va_join (wr := []) (w1 := [(m, .inr (22, [.int 1, .ref mq1, .int 0, .ref mq2, .int 0, .ref mq3, .int 250, .ref mq4, .int 0, .ref mq5, .ref mq6, .ref mq16, .int 0, .ref mq7, .ref mq8, .ref mq9, .int 0, .null, .int 0, .null, .int 0, .int 0, .int 0, .ref mq10, .int 0, .ref mq11, .ref mq12, .ref mq13, .int 0, .ref mq14, .ref mq15, .int 0]))]) hP hD [0] [] rfl rfl (by decide) (by decide) hk1 hFc hP1 hD1
  clear hP1 hD1 hPc hDc hFc hk1 hz1 hvm ht
  generalize H1 = H at hP hS ⊢
  have hP : va_P g.1 vwCl [(m, .inr (22, [.int 1, .ref mq1, .int 0, .ref mq2, .int 0, .ref mq3, .int 250, .ref mq4, .int 0, .ref mq5, .ref mq6, .ref mq16, .int 0, .ref mq7, .ref mq8, .ref mq9, .int 0, .null, .int 0, .null, .int 0, .int 0, .int 0, .ref mq10, .int 0, .ref mq11, .ref mq12, .ref mq13, .int 0, .ref mq14, .ref mq15, .int 0]))] H := hP
  have hD : va_D A [(m, .inr (22, [.int 1, .ref mq1, .int 0, .ref mq2, .int 0, .ref mq3, .int 250, .ref mq4, .int 0, .ref mq5, .ref mq6, .ref mq16, .int 0, .ref mq7, .ref mq8, .ref mq9, .int 0, .null, .int 0, .null, .int 0, .int 0, .int 0, .ref mq10, .int 0, .ref mq11, .ref mq12, .ref mq13, .int 0, .ref mq14, .ref mq15, .int 0]))] := hD
  refine lv_istore (lv' := [(6, .int 0), (5, .int 1), (0, .ref b), (1, .ref x), (2, .ref m), (3, .ref o), (4, .int 0)]) hx hb dL_law_1003 hl (by decide) rfl (fun ls hl => ?_)
  refine lv_aload_n hx hb dL_law_1005 rfl (lv_at hl 4 rfl) ?_
  have hPc := hP.sub (ws' := [(m, .inr (22, [.int 1, .ref mq1, .int 0, .ref mq2, .int 0, .ref mq3, .int 250, .ref mq4, .int 0, .ref mq5, .ref mq6, .ref mq16, .int 0, .ref mq7, .ref mq8, .ref mq9, .int 0, .null, .int 0, .null, .int 0, .int 0, .int 0, .ref mq10, .int 0, .ref mq11, .ref mq12, .ref mq13, .int 0, .ref mq14, .ref mq15, .int 0]))]) [0] rfl
  have hDc := hD.sub (ws' := [(m, .inr (22, [.int 1, .ref mq1, .int 0, .ref mq2, .int 0, .ref mq3, .int 250, .ref mq4, .int 0, .ref mq5, .ref mq6, .ref mq16, .int 0, .ref mq7, .ref mq8, .ref mq9, .int 0, .null, .int 0, .null, .int 0, .int 0, .int 0, .ref mq10, .int 0, .ref mq11, .ref mq12, .ref mq13, .int 0, .ref mq14, .ref mq15, .int 0]))]) [0] (by decide) rfl
  have hFc := va_free (wc := [(m, .inr (22, [.int 1, .ref mq1, .int 0, .ref mq2, .int 0, .ref mq3, .int 250, .ref mq4, .int 0, .ref mq5, .ref mq6, .ref mq16, .int 0, .ref mq7, .ref mq8, .ref mq9, .int 0, .null, .int 0, .null, .int 0, .int 0, .int 0, .ref mq10, .int 0, .ref mq11, .ref mq12, .ref mq13, .int 0, .ref mq14, .ref mq15, .int 0]))]) hD hS hA [0] rfl
  refine va_calli (va_runV (As := []) (rest := []) ⟨hx, hb, hml, hown, hts⟩ (c9_X21_thrown_2 l g m mq1 mq2 mq3 mq4 mq5 mq6 mq16 mq7 mq8 mq9 mq10 mq11 mq12 mq13 mq14 mq15 _) (cwV 0 hts g9_law_15 rfl rfl rfl (by decide +kernel) ⟨Nat.le_of_ble_eq_true rfl, Nat.le_of_ble_eq_true rfl⟩) (mPreV (g := g) (wc := [(m, .inr (22, [.int 1, .ref mq1, .int 0, .ref mq2, .int 0, .ref mq3, .int 250, .ref mq4, .int 0, .ref mq5, .ref mq6, .ref mq16, .int 0, .ref mq7, .ref mq8, .ref mq9, .int 0, .null, .int 0, .null, .int 0, .int 0, .int 0, .ref mq10, .int 0, .ref mq11, .ref mq12, .ref mq13, .int 0, .ref mq14, .ref mq15, .int 0]))]) (C := RX21) (ci := 22) (q0 := 0) hE hS hPc hDc hFc rfl rfl) rfl rfl hl.1 rfl (lv_room (Nat.le_of_ble_eq_true rfl)) dL_law_1006 ⟨Nat.le_of_ble_eq_true rfl, Nat.le_of_ble_eq_true rfl⟩) hS (fun q _ h => hFc q h) hFc (fun r_3 u t H1 locs ht hvm hw hB hz1 hk1 hS => ?_)
  replace hw : 1 = r_3 := Eq.symm hw
  subst hw
  obtain ⟨hP1, hD1⟩ := hB
  rw [ht] at hP1
  obtain ⟨hP, hD⟩ := va_join (wr := []) (w1 := [(m, .inr (22, [.int 1, .ref mq1, .int 0, .ref mq2, .int 0, .ref mq3, .int 250, .ref mq4, .int 0, .ref mq5, .ref mq6, .ref mq16, .int 0, .ref mq7, .ref mq8, .ref mq9, .int 0, .null, .int 0, .null, .int 0, .int 0, .int 0, .ref mq10, .int 0, .ref mq11, .ref mq12, .ref mq13, .int 0, .ref mq14, .ref mq15, .int 0]))]) hP hD [0] [] rfl rfl (by decide) (by decide) hk1 hFc hP1 hD1
  clear hP1 hD1 hPc hDc hFc hk1 hz1 hvm ht
  generalize H1 = H at hP hS ⊢
  have hP : va_P g.1 vwCl [(m, .inr (22, [.int 1, .ref mq1, .int 0, .ref mq2, .int 0, .ref mq3, .int 250, .ref mq4, .int 0, .ref mq5, .ref mq6, .ref mq16, .int 0, .ref mq7, .ref mq8, .ref mq9, .int 0, .null, .int 0, .null, .int 0, .int 0, .int 0, .ref mq10, .int 0, .ref mq11, .ref mq12, .ref mq13, .int 0, .ref mq14, .ref mq15, .int 0]))] H := hP
  have hD : va_D A [(m, .inr (22, [.int 1, .ref mq1, .int 0, .ref mq2, .int 0, .ref mq3, .int 250, .ref mq4, .int 0, .ref mq5, .ref mq6, .ref mq16, .int 0, .ref mq7, .ref mq8, .ref mq9, .int 0, .null, .int 0, .null, .int 0, .int 0, .int 0, .ref mq10, .int 0, .ref mq11, .ref mq12, .ref mq13, .int 0, .ref mq14, .ref mq15, .int 0]))] := hD
  refine lv_iload hx hb dL_law_1009 (lv_at hl 1 rfl) ?_
  refine lv_icmp_eq (tgt := 1016) hx hb dL_law_1011 (by decide) (fun _ => ?_) (fun c9 => absurd (by decide) c9)
  refine lv_iload hx hb dL_law_1016 (lv_at hl 1 rfl) ?_
  refine lv_if_ne (tgt := 1033) hx hb dL_law_1018 (by decide) (fun _ => ?_) (fun c9 => absurd c9 (by decide))
  refine lv_goto (tgt := 1368) hx hb dL_law_1033 (by decide) ?_
  subst hAe
  exact law_end C0 hS (lv_sub hl [2, 6] rfl) (Nat.le_of_ble_eq_true rfl) (Nat.le_of_ble_eq_true rfl)
set_option maxHeartbeats 4000000 in
set_option maxRecDepth 100000 in
theorem law_17_z {p : Program} {l : Launch} {e : Env} {s : State} {m9 : MethodId} {below : List Frame} {meth : Method} {c : Code} {g : G9} {b : Nat} {xs : Nat → Int32} (hlt : l.stackTraces = false) (C0 : lw_At p s m9 meth c b 4 xs) (hE : EE g (fun q : Nat => s.heap.size ≤ q) s) (x m o xq1 xq2 xq4 xq5 xq12 xq22 xq23 xq24 xq25 xq20 xq13 xq14 xq26 xq3 xq27 xq16 xq17 xq18 xq19 xq30 xq31 xq32 xq33 xq34 xq35 xq36 xq37 xq38 xq39 xq40 xq41 mq1 mq2 mq3 mq4 mq5 mq6 mq16 mq7 mq8 mq9 mq10 mq11 mq12 mq13 mq14 mq15 : Nat) (e1 : xs 1 = 0) : ∀ (H : Heap) (locs : List Loc) (ls : Array Slot), va_P g.1 vwCl [(x, .inr (12, [.ref xq1, .int 0, .ref xq2, .ref xq4, .ref xq5, .ref xq12, .ref xq22, .ref xq23, .int (-1), .ref xq24, .ref xq25, .int 250, .ref xq20, .int 0, .ref xq13, .ref xq14, .ref xq26])), (xq2, .inr (11, [.ref xq3])), (xq3, .inr (10, [.int 1, .int 20, .ref xq27, .int 0])), (xq4, .inl (g.2.1 3, 4, .inr (.inr (.inr (.inr (va_up (va_up (va_up (va_up (fun _ => none) 0 (some xq16)) 1 (some xq17)) 2 (some xq18)) 3 (some xq19))))))), (xq16, .inr (6, [.ref xq30, .ref xq31, .ref xq32, .int 0, .int 0, .int 0, .int 0, .int 0])), (xq17, .inr (6, [.ref xq33, .ref xq34, .ref xq35, .int 0, .int 0, .int 0, .int 0, .int 0])), (xq18, .inr (6, [.ref xq36, .ref xq37, .ref xq38, .int 0, .int 0, .int 0, .int 0, .int 0])), (xq19, .inr (6, [.ref xq39, .ref xq40, .ref xq41, .int 0, .int 0, .int 0, .int 0, .int 0])), (m, .inr (22, [.int 0, .ref mq1, .int 0, .ref mq2, .int 0, .ref mq3, .int 250, .ref mq4, .int 0, .ref mq5, .ref mq6, .ref mq16, .int 0, .ref mq7, .ref mq8, .ref mq9, .int 0, .null, .int 0, .null, .int 0, .int 0, .int 0, .ref mq10, .int 0, .ref mq11, .ref mq12, .ref mq13, .int 0, .ref mq14, .ref mq15, .int 0])), (mq3, .inl (g.2.1 4, 4, .inr (.inr (.inr (.inr (fun _ => none)))))), (o, .inl (g.2.1 2, 1, .inr (.inl (fun _ => 0))))] H → va_D (fun q : Nat => s.heap.size ≤ q) [(x, .inr (12, [.ref xq1, .int 0, .ref xq2, .ref xq4, .ref xq5, .ref xq12, .ref xq22, .ref xq23, .int (-1), .ref xq24, .ref xq25, .int 250, .ref xq20, .int 0, .ref xq13, .ref xq14, .ref xq26])), (xq2, .inr (11, [.ref xq3])), (xq3, .inr (10, [.int 1, .int 20, .ref xq27, .int 0])), (xq4, .inl (g.2.1 3, 4, .inr (.inr (.inr (.inr (va_up (va_up (va_up (va_up (fun _ => none) 0 (some xq16)) 1 (some xq17)) 2 (some xq18)) 3 (some xq19))))))), (xq16, .inr (6, [.ref xq30, .ref xq31, .ref xq32, .int 0, .int 0, .int 0, .int 0, .int 0])), (xq17, .inr (6, [.ref xq33, .ref xq34, .ref xq35, .int 0, .int 0, .int 0, .int 0, .int 0])), (xq18, .inr (6, [.ref xq36, .ref xq37, .ref xq38, .int 0, .int 0, .int 0, .int 0, .int 0])), (xq19, .inr (6, [.ref xq39, .ref xq40, .ref xq41, .int 0, .int 0, .int 0, .int 0, .int 0])), (m, .inr (22, [.int 0, .ref mq1, .int 0, .ref mq2, .int 0, .ref mq3, .int 250, .ref mq4, .int 0, .ref mq5, .ref mq6, .ref mq16, .int 0, .ref mq7, .ref mq8, .ref mq9, .int 0, .null, .int 0, .null, .int 0, .int 0, .int 0, .ref mq10, .int 0, .ref mq11, .ref mq12, .ref mq13, .int 0, .ref mq14, .ref mq15, .int 0])), (mq3, .inl (g.2.1 4, 4, .inr (.inr (.inr (.inr (fun _ => none)))))), (o, .inl (g.2.1 2, 1, .inr (.inl (fun _ => 0))))] → va_S (fun q : Nat => s.heap.size ≤ q) s.heap H locs → lv_has ls 7 [(0, .ref b), (1, .ref x), (2, .ref m), (3, .ref o), (4, .int 0)] → W p l e room_1 s m9 #[Value.ref b] below meth c H locs 106 7589 (lw_Z below #[Value.ref b] s) (F0 m9 980 ls []) := by
  intro H locs ls hP hD hS hl
  obtain ⟨hx, hb, hr, hml, hown, hts0, hX, hbl, hlocks, hgv⟩ := id C0
  have hts : ∀ w ∈ w9_law, w.before #[Value.ref b] s = true := fun w h => hts0 w (w9_law_in w h)
  generalize hAe : (fun q : Nat => s.heap.size ≤ q) = A at hE hD hS
  have hA : ∀ q : Nat, s.heap.size ≤ q → A q := fun q h => by rw [← hAe]; exact h
  have hbA : ¬ A b := by rw [← hAe]; exact Nat.not_le.mpr hbl
  have hK := hE.1
  refine lv_aload_n hx hb dL_law_980 rfl (lv_at hl 1 rfl) ?_
  refine lv_aload_n hx hb dL_law_981 rfl (lv_at hl 0 rfl) ?_
  refine lv_iload hx hb dL_law_982 (lv_at hl 4 rfl) ?_
  refine lv_iconst (v := 1) hx hb dL_law_984 (by decide) ?_
  refine lv_iadd hx hb dL_law_985 ?_
  refine e_top (y := 1) (by decide) ?_
  refine va_sld hx hb hX hbl hbA hS (vp_in_nI (n := 1) (by decide) (by decide)) dL_law_986 ?_
  refine e_top (y := 0) e1 ?_
  refine lv_aload_n hx hb dL_law_987 rfl (lv_at hl 3 rfl) ?_
  have hPc := hP.sub (ws' := [(x, .inr (12, [.ref xq1, .int 0, .ref xq2, .ref xq4, .ref xq5, .ref xq12, .ref xq22, .ref xq23, .int (-1), .ref xq24, .ref xq25, .int 250, .ref xq20, .int 0, .ref xq13, .ref xq14, .ref xq26])), (xq2, .inr (11, [.ref xq3])), (xq3, .inr (10, [.int 1, .int 20, .ref xq27, .int 0])), (xq4, .inl (g.2.1 3, 4, .inr (.inr (.inr (.inr (va_up (va_up (va_up (va_up (fun _ => none) 0 (some xq16)) 1 (some xq17)) 2 (some xq18)) 3 (some xq19))))))), (xq16, .inr (6, [.ref xq30, .ref xq31, .ref xq32, .int 0, .int 0, .int 0, .int 0, .int 0])), (xq17, .inr (6, [.ref xq33, .ref xq34, .ref xq35, .int 0, .int 0, .int 0, .int 0, .int 0])), (xq18, .inr (6, [.ref xq36, .ref xq37, .ref xq38, .int 0, .int 0, .int 0, .int 0, .int 0])), (xq19, .inr (6, [.ref xq39, .ref xq40, .ref xq41, .int 0, .int 0, .int 0, .int 0, .int 0])), (o, .inl (g.2.1 2, 1, .inr (.inl (fun _ => 0))))]) [0, 1, 2, 3, 4, 5, 6, 7, 10] rfl
  have hDc := hD.sub (ws' := [(x, .inr (12, [.ref xq1, .int 0, .ref xq2, .ref xq4, .ref xq5, .ref xq12, .ref xq22, .ref xq23, .int (-1), .ref xq24, .ref xq25, .int 250, .ref xq20, .int 0, .ref xq13, .ref xq14, .ref xq26])), (xq2, .inr (11, [.ref xq3])), (xq3, .inr (10, [.int 1, .int 20, .ref xq27, .int 0])), (xq4, .inl (g.2.1 3, 4, .inr (.inr (.inr (.inr (va_up (va_up (va_up (va_up (fun _ => none) 0 (some xq16)) 1 (some xq17)) 2 (some xq18)) 3 (some xq19))))))), (xq16, .inr (6, [.ref xq30, .ref xq31, .ref xq32, .int 0, .int 0, .int 0, .int 0, .int 0])), (xq17, .inr (6, [.ref xq33, .ref xq34, .ref xq35, .int 0, .int 0, .int 0, .int 0, .int 0])), (xq18, .inr (6, [.ref xq36, .ref xq37, .ref xq38, .int 0, .int 0, .int 0, .int 0, .int 0])), (xq19, .inr (6, [.ref xq39, .ref xq40, .ref xq41, .int 0, .int 0, .int 0, .int 0, .int 0])), (o, .inl (g.2.1 2, 1, .inr (.inl (fun _ => 0))))]) [0, 1, 2, 3, 4, 5, 6, 7, 10] (by decide) rfl
  have hFc := va_free (wc := [(x, .inr (12, [.ref xq1, .int 0, .ref xq2, .ref xq4, .ref xq5, .ref xq12, .ref xq22, .ref xq23, .int (-1), .ref xq24, .ref xq25, .int 250, .ref xq20, .int 0, .ref xq13, .ref xq14, .ref xq26])), (xq2, .inr (11, [.ref xq3])), (xq3, .inr (10, [.int 1, .int 20, .ref xq27, .int 0])), (xq4, .inl (g.2.1 3, 4, .inr (.inr (.inr (.inr (va_up (va_up (va_up (va_up (fun _ => none) 0 (some xq16)) 1 (some xq17)) 2 (some xq18)) 3 (some xq19))))))), (xq16, .inr (6, [.ref xq30, .ref xq31, .ref xq32, .int 0, .int 0, .int 0, .int 0, .int 0])), (xq17, .inr (6, [.ref xq33, .ref xq34, .ref xq35, .int 0, .int 0, .int 0, .int 0, .int 0])), (xq18, .inr (6, [.ref xq36, .ref xq37, .ref xq38, .int 0, .int 0, .int 0, .int 0, .int 0])), (xq19, .inr (6, [.ref xq39, .ref xq40, .ref xq41, .int 0, .int 0, .int 0, .int 0, .int 0])), (o, .inl (g.2.1 2, 1, .inr (.inl (fun _ => 0))))]) hD hS hA [0, 1, 2, 3, 4, 5, 6, 7, 10] rfl
  refine va_calli (vx_runSW (As := [.ref x, .int 0, .ref o]) (rest := []) ⟨hx, hb, hml, hown, hts⟩ (c9_L_which_3 l g x o xq1 xq2 xq4 xq5 xq12 xq22 xq23 xq24 xq25 xq20 xq13 xq14 xq26 xq3 xq27 xq16 xq17 xq18 xq19 xq30 xq31 xq32 xq33 xq34 xq35 xq36 xq37 xq38 xq39 xq40 xq41 _ (fun _ => 0)) (vx_cwSW (bytes := cL_which) (maxL := 4) (ret := (some .int)) (hh := [(0, 9, 12, 21)]) 3 hts g9_law_156 rfl rfl rfl (by decide +kernel) ⟨Nat.le_of_ble_eq_true rfl, Nat.le_of_ble_eq_true rfl⟩) (mPreS (g := g) (wc := [(x, .inr (12, [.ref xq1, .int 0, .ref xq2, .ref xq4, .ref xq5, .ref xq12, .ref xq22, .ref xq23, .int (-1), .ref xq24, .ref xq25, .int 250, .ref xq20, .int 0, .ref xq13, .ref xq14, .ref xq26])), (xq2, .inr (11, [.ref xq3])), (xq3, .inr (10, [.int 1, .int 20, .ref xq27, .int 0])), (xq4, .inl (g.2.1 3, 4, .inr (.inr (.inr (.inr (va_up (va_up (va_up (va_up (fun _ => none) 0 (some xq16)) 1 (some xq17)) 2 (some xq18)) 3 (some xq19))))))), (xq16, .inr (6, [.ref xq30, .ref xq31, .ref xq32, .int 0, .int 0, .int 0, .int 0, .int 0])), (xq17, .inr (6, [.ref xq33, .ref xq34, .ref xq35, .int 0, .int 0, .int 0, .int 0, .int 0])), (xq18, .inr (6, [.ref xq36, .ref xq37, .ref xq38, .int 0, .int 0, .int 0, .int 0, .int 0])), (xq19, .inr (6, [.ref xq39, .ref xq40, .ref xq41, .int 0, .int 0, .int 0, .int 0, .int 0])), (o, .inl (g.2.1 2, 1, .inr (.inl (fun _ => 0))))]) hE hS hPc hDc hFc) rfl rfl hl.1 rfl (lv_room (Nat.le_of_ble_eq_true rfl)) dL_law_988 ⟨Nat.le_of_ble_eq_true rfl, Nat.le_of_ble_eq_true rfl⟩) hS (fun q _ h => hFc q h) hFc (fun r_1 u t H1 locs ht hvm hw hB hz1 hk1 hS => ?_)
  replace hw : 0 = r_1 := Eq.symm hw
  subst hw
  obtain ⟨hP1, hD1⟩ := hB
  rw [ht] at hP1
  obtain ⟨hP, hD⟩ := va_join (wr := [(m, .inr (22, [.int 0, .ref mq1, .int 0, .ref mq2, .int 0, .ref mq3, .int 250, .ref mq4, .int 0, .ref mq5, .ref mq6, .ref mq16, .int 0, .ref mq7, .ref mq8, .ref mq9, .int 0, .null, .int 0, .null, .int 0, .int 0, .int 0, .ref mq10, .int 0, .ref mq11, .ref mq12, .ref mq13, .int 0, .ref mq14, .ref mq15, .int 0])), (mq3, .inl (g.2.1 4, 4, .inr (.inr (.inr (.inr (fun _ => none))))))]) (w1 := [(x, .inr (12, [.ref xq1, .int 0, .ref xq2, .ref xq4, .ref xq5, .ref xq12, .ref xq22, .ref xq23, .int (-1), .ref xq24, .ref xq25, .int 250, .ref xq20, .int 0, .ref xq13, .ref xq14, .ref xq26])), (xq2, .inr (11, [.ref xq3])), (xq3, .inr (10, [.int 1, .int 20, .ref xq27, .int 0])), (xq4, .inl (g.2.1 3, 4, .inr (.inr (.inr (.inr (va_up (va_up (va_up (va_up (fun _ => none) 0 (some xq16)) 1 (some xq17)) 2 (some xq18)) 3 (some xq19))))))), (xq16, .inr (6, [.ref xq30, .ref xq31, .ref xq32, .int 0, .int 0, .int 0, .int 0, .int 0])), (xq17, .inr (6, [.ref xq33, .ref xq34, .ref xq35, .int 0, .int 0, .int 0, .int 0, .int 0])), (xq18, .inr (6, [.ref xq36, .ref xq37, .ref xq38, .int 0, .int 0, .int 0, .int 0, .int 0])), (xq19, .inr (6, [.ref xq39, .ref xq40, .ref xq41, .int 0, .int 0, .int 0, .int 0, .int 0])), (o, .inl (g.2.1 2, 1, .inr (.inl (vp_updL (fun _ => 0) 0 0))))]) hP hD [0, 1, 2, 3, 4, 5, 6, 7, 10] [8, 9] rfl rfl (by decide) (by decide) hk1 hFc hP1 hD1
  clear hP1 hD1 hPc hDc hFc hk1 hz1 hvm ht
  generalize H1 = H at hP hS ⊢
  have hP : va_P g.1 vwCl [(m, .inr (22, [.int 0, .ref mq1, .int 0, .ref mq2, .int 0, .ref mq3, .int 250, .ref mq4, .int 0, .ref mq5, .ref mq6, .ref mq16, .int 0, .ref mq7, .ref mq8, .ref mq9, .int 0, .null, .int 0, .null, .int 0, .int 0, .int 0, .ref mq10, .int 0, .ref mq11, .ref mq12, .ref mq13, .int 0, .ref mq14, .ref mq15, .int 0])), (mq3, .inl (g.2.1 4, 4, .inr (.inr (.inr (.inr (fun _ => none)))))), (x, .inr (12, [.ref xq1, .int 0, .ref xq2, .ref xq4, .ref xq5, .ref xq12, .ref xq22, .ref xq23, .int (-1), .ref xq24, .ref xq25, .int 250, .ref xq20, .int 0, .ref xq13, .ref xq14, .ref xq26])), (xq2, .inr (11, [.ref xq3])), (xq3, .inr (10, [.int 1, .int 20, .ref xq27, .int 0])), (xq4, .inl (g.2.1 3, 4, .inr (.inr (.inr (.inr (va_up (va_up (va_up (va_up (fun _ => none) 0 (some xq16)) 1 (some xq17)) 2 (some xq18)) 3 (some xq19))))))), (xq16, .inr (6, [.ref xq30, .ref xq31, .ref xq32, .int 0, .int 0, .int 0, .int 0, .int 0])), (xq17, .inr (6, [.ref xq33, .ref xq34, .ref xq35, .int 0, .int 0, .int 0, .int 0, .int 0])), (xq18, .inr (6, [.ref xq36, .ref xq37, .ref xq38, .int 0, .int 0, .int 0, .int 0, .int 0])), (xq19, .inr (6, [.ref xq39, .ref xq40, .ref xq41, .int 0, .int 0, .int 0, .int 0, .int 0])), (o, .inl (g.2.1 2, 1, .inr (.inl (vp_updL (fun _ => 0) 0 0))))] H := hP
  have hD : va_D A [(m, .inr (22, [.int 0, .ref mq1, .int 0, .ref mq2, .int 0, .ref mq3, .int 250, .ref mq4, .int 0, .ref mq5, .ref mq6, .ref mq16, .int 0, .ref mq7, .ref mq8, .ref mq9, .int 0, .null, .int 0, .null, .int 0, .int 0, .int 0, .ref mq10, .int 0, .ref mq11, .ref mq12, .ref mq13, .int 0, .ref mq14, .ref mq15, .int 0])), (mq3, .inl (g.2.1 4, 4, .inr (.inr (.inr (.inr (fun _ => none)))))), (x, .inr (12, [.ref xq1, .int 0, .ref xq2, .ref xq4, .ref xq5, .ref xq12, .ref xq22, .ref xq23, .int (-1), .ref xq24, .ref xq25, .int 250, .ref xq20, .int 0, .ref xq13, .ref xq14, .ref xq26])), (xq2, .inr (11, [.ref xq3])), (xq3, .inr (10, [.int 1, .int 20, .ref xq27, .int 0])), (xq4, .inl (g.2.1 3, 4, .inr (.inr (.inr (.inr (va_up (va_up (va_up (va_up (fun _ => none) 0 (some xq16)) 1 (some xq17)) 2 (some xq18)) 3 (some xq19))))))), (xq16, .inr (6, [.ref xq30, .ref xq31, .ref xq32, .int 0, .int 0, .int 0, .int 0, .int 0])), (xq17, .inr (6, [.ref xq33, .ref xq34, .ref xq35, .int 0, .int 0, .int 0, .int 0, .int 0])), (xq18, .inr (6, [.ref xq36, .ref xq37, .ref xq38, .int 0, .int 0, .int 0, .int 0, .int 0])), (xq19, .inr (6, [.ref xq39, .ref xq40, .ref xq41, .int 0, .int 0, .int 0, .int 0, .int 0])), (o, .inl (g.2.1 2, 1, .inr (.inl (vp_updL (fun _ => 0) 0 0))))] := hD
  refine lv_istore (lv' := [(5, .int 0), (0, .ref b), (1, .ref x), (2, .ref m), (3, .ref o), (4, .int 0)]) hx hb dL_law_991 hl (by decide) rfl (fun ls hl => ?_)
  refine lv_aload_n hx hb dL_law_993 rfl (lv_at hl 3 rfl) ?_
  refine lv_aload_n hx hb dL_law_994 rfl (lv_at hl 1 rfl) ?_
  refine lv_iload hx hb dL_law_995 (lv_at hl 5 rfl) ?_
  refine lv_iconst (v := 1) hx hb dL_law_997 (by decide) ?_
  refine lv_iadd hx hb dL_law_998 ?_
  refine e_top (y := 1) (by decide) ?_
  refine va_sld hx hb hX hbl hbA hS (vp_in_nI (n := 1) (by decide) (by decide)) dL_law_999 ?_
  refine e_top (y := 0) e1 ?_
  have hPc := hP.sub (ws' := [(m, .inr (22, [.int 0, .ref mq1, .int 0, .ref mq2, .int 0, .ref mq3, .int 250, .ref mq4, .int 0, .ref mq5, .ref mq6, .ref mq16, .int 0, .ref mq7, .ref mq8, .ref mq9, .int 0, .null, .int 0, .null, .int 0, .int 0, .int 0, .ref mq10, .int 0, .ref mq11, .ref mq12, .ref mq13, .int 0, .ref mq14, .ref mq15, .int 0])), (mq3, .inl (g.2.1 4, 4, .inr (.inr (.inr (.inr (fun _ => none))))))]) [0, 1] rfl
  have hDc := hD.sub (ws' := [(m, .inr (22, [.int 0, .ref mq1, .int 0, .ref mq2, .int 0, .ref mq3, .int 250, .ref mq4, .int 0, .ref mq5, .ref mq6, .ref mq16, .int 0, .ref mq7, .ref mq8, .ref mq9, .int 0, .null, .int 0, .null, .int 0, .int 0, .int 0, .ref mq10, .int 0, .ref mq11, .ref mq12, .ref mq13, .int 0, .ref mq14, .ref mq15, .int 0])), (mq3, .inl (g.2.1 4, 4, .inr (.inr (.inr (.inr (fun _ => none))))))]) [0, 1] (by decide) rfl
  have hFc := va_free (wc := [(m, .inr (22, [.int 0, .ref mq1, .int 0, .ref mq2, .int 0, .ref mq3, .int 250, .ref mq4, .int 0, .ref mq5, .ref mq6, .ref mq16, .int 0, .ref mq7, .ref mq8, .ref mq9, .int 0, .null, .int 0, .null, .int 0, .int 0, .int 0, .ref mq10, .int 0, .ref mq11, .ref mq12, .ref mq13, .int 0, .ref mq14, .ref mq15, .int 0])), (mq3, .inl (g.2.1 4, 4, .inr (.inr (.inr (.inr (fun _ => none))))))]) hD hS hA [0, 1] rfl
  refine va_calli (vx_runVW (As := [.int 0]) (rest := []) ⟨hx, hb, hml, hown, hts⟩ (c9_X21_which_3 l g m mq1 mq2 mq3 mq4 mq5 mq6 mq16 mq7 mq8 mq9 mq10 mq11 mq12 mq13 mq14 mq15 _) (vx_cwVW (bytes := cX21_which) (maxL := 5) (ret := (some .int)) (hh := [(40, 74, 77, 208)]) 1 hts g9_law_157 rfl rfl rfl (by decide +kernel) ⟨Nat.le_of_ble_eq_true rfl, Nat.le_of_ble_eq_true rfl⟩) (mPreV (g := g) (wc := [(m, .inr (22, [.int 0, .ref mq1, .int 0, .ref mq2, .int 0, .ref mq3, .int 250, .ref mq4, .int 0, .ref mq5, .ref mq6, .ref mq16, .int 0, .ref mq7, .ref mq8, .ref mq9, .int 0, .null, .int 0, .null, .int 0, .int 0, .int 0, .ref mq10, .int 0, .ref mq11, .ref mq12, .ref mq13, .int 0, .ref mq14, .ref mq15, .int 0])), (mq3, .inl (g.2.1 4, 4, .inr (.inr (.inr (.inr (fun _ => none))))))]) (C := RX21) (ci := 22) (q0 := 0) hE hS hPc hDc hFc rfl rfl) rfl rfl hl.1 rfl (lv_room (Nat.le_of_ble_eq_true rfl)) dL_law_1000 ⟨Nat.le_of_ble_eq_true rfl, Nat.le_of_ble_eq_true rfl⟩) hS (fun q _ h => hFc q h) hFc (fun r_2 u t H1 locs ht hvm hw hB hz1 hk1 hS => ?_)
  replace hw : 0 = r_2 := Eq.symm hw
  subst hw
  obtain ⟨hP1, hD1⟩ := hB
  rw [ht] at hP1
  obtain ⟨hP, hD⟩ := va_join (wr := [(x, .inr (12, [.ref xq1, .int 0, .ref xq2, .ref xq4, .ref xq5, .ref xq12, .ref xq22, .ref xq23, .int (-1), .ref xq24, .ref xq25, .int 250, .ref xq20, .int 0, .ref xq13, .ref xq14, .ref xq26])), (xq2, .inr (11, [.ref xq3])), (xq3, .inr (10, [.int 1, .int 20, .ref xq27, .int 0])), (xq4, .inl (g.2.1 3, 4, .inr (.inr (.inr (.inr (va_up (va_up (va_up (va_up (fun _ => none) 0 (some xq16)) 1 (some xq17)) 2 (some xq18)) 3 (some xq19))))))), (xq16, .inr (6, [.ref xq30, .ref xq31, .ref xq32, .int 0, .int 0, .int 0, .int 0, .int 0])), (xq17, .inr (6, [.ref xq33, .ref xq34, .ref xq35, .int 0, .int 0, .int 0, .int 0, .int 0])), (xq18, .inr (6, [.ref xq36, .ref xq37, .ref xq38, .int 0, .int 0, .int 0, .int 0, .int 0])), (xq19, .inr (6, [.ref xq39, .ref xq40, .ref xq41, .int 0, .int 0, .int 0, .int 0, .int 0])), (o, .inl (g.2.1 2, 1, .inr (.inl (vp_updL (fun _ => 0) 0 0))))]) (w1 := [(m, .inr (22, [.int 0, .ref mq1, .int 0, .ref mq2, .int 0, .ref mq3, .int 250, .ref mq4, .int 0, .ref mq5, .ref mq6, .ref mq16, .int 0, .ref mq7, .ref mq8, .ref mq9, .int 0, .null, .int 0, .null, .int 0, .int 0, .int 0, .ref mq10, .int 0, .ref mq11, .ref mq12, .ref mq13, .int 0, .ref mq14, .ref mq15, .int 0])), (mq3, .inl (g.2.1 4, 4, .inr (.inr (.inr (.inr (fun _ => none))))))]) hP hD [0, 1] [2, 3, 4, 5, 6, 7, 8, 9, 10] rfl rfl (by decide) (by decide) hk1 hFc hP1 hD1
  clear hP1 hD1 hPc hDc hFc hk1 hz1 hvm ht
  generalize H1 = H at hP hS ⊢
  have hP : va_P g.1 vwCl [(x, .inr (12, [.ref xq1, .int 0, .ref xq2, .ref xq4, .ref xq5, .ref xq12, .ref xq22, .ref xq23, .int (-1), .ref xq24, .ref xq25, .int 250, .ref xq20, .int 0, .ref xq13, .ref xq14, .ref xq26])), (xq2, .inr (11, [.ref xq3])), (xq3, .inr (10, [.int 1, .int 20, .ref xq27, .int 0])), (xq4, .inl (g.2.1 3, 4, .inr (.inr (.inr (.inr (va_up (va_up (va_up (va_up (fun _ => none) 0 (some xq16)) 1 (some xq17)) 2 (some xq18)) 3 (some xq19))))))), (xq16, .inr (6, [.ref xq30, .ref xq31, .ref xq32, .int 0, .int 0, .int 0, .int 0, .int 0])), (xq17, .inr (6, [.ref xq33, .ref xq34, .ref xq35, .int 0, .int 0, .int 0, .int 0, .int 0])), (xq18, .inr (6, [.ref xq36, .ref xq37, .ref xq38, .int 0, .int 0, .int 0, .int 0, .int 0])), (xq19, .inr (6, [.ref xq39, .ref xq40, .ref xq41, .int 0, .int 0, .int 0, .int 0, .int 0])), (o, .inl (g.2.1 2, 1, .inr (.inl (vp_updL (fun _ => 0) 0 0)))), (m, .inr (22, [.int 0, .ref mq1, .int 0, .ref mq2, .int 0, .ref mq3, .int 250, .ref mq4, .int 0, .ref mq5, .ref mq6, .ref mq16, .int 0, .ref mq7, .ref mq8, .ref mq9, .int 0, .null, .int 0, .null, .int 0, .int 0, .int 0, .ref mq10, .int 0, .ref mq11, .ref mq12, .ref mq13, .int 0, .ref mq14, .ref mq15, .int 0])), (mq3, .inl (g.2.1 4, 4, .inr (.inr (.inr (.inr (fun _ => none))))))] H := hP
  have hD : va_D A [(x, .inr (12, [.ref xq1, .int 0, .ref xq2, .ref xq4, .ref xq5, .ref xq12, .ref xq22, .ref xq23, .int (-1), .ref xq24, .ref xq25, .int 250, .ref xq20, .int 0, .ref xq13, .ref xq14, .ref xq26])), (xq2, .inr (11, [.ref xq3])), (xq3, .inr (10, [.int 1, .int 20, .ref xq27, .int 0])), (xq4, .inl (g.2.1 3, 4, .inr (.inr (.inr (.inr (va_up (va_up (va_up (va_up (fun _ => none) 0 (some xq16)) 1 (some xq17)) 2 (some xq18)) 3 (some xq19))))))), (xq16, .inr (6, [.ref xq30, .ref xq31, .ref xq32, .int 0, .int 0, .int 0, .int 0, .int 0])), (xq17, .inr (6, [.ref xq33, .ref xq34, .ref xq35, .int 0, .int 0, .int 0, .int 0, .int 0])), (xq18, .inr (6, [.ref xq36, .ref xq37, .ref xq38, .int 0, .int 0, .int 0, .int 0, .int 0])), (xq19, .inr (6, [.ref xq39, .ref xq40, .ref xq41, .int 0, .int 0, .int 0, .int 0, .int 0])), (o, .inl (g.2.1 2, 1, .inr (.inl (vp_updL (fun _ => 0) 0 0)))), (m, .inr (22, [.int 0, .ref mq1, .int 0, .ref mq2, .int 0, .ref mq3, .int 250, .ref mq4, .int 0, .ref mq5, .ref mq6, .ref mq16, .int 0, .ref mq7, .ref mq8, .ref mq9, .int 0, .null, .int 0, .null, .int 0, .int 0, .int 0, .ref mq10, .int 0, .ref mq11, .ref mq12, .ref mq13, .int 0, .ref mq14, .ref mq15, .int 0])), (mq3, .inl (g.2.1 4, 4, .inr (.inr (.inr (.inr (fun _ => none))))))] := hD
  refine lv_istore (lv' := [(6, .int 0), (5, .int 0), (0, .ref b), (1, .ref x), (2, .ref m), (3, .ref o), (4, .int 0)]) hx hb dL_law_1003 hl (by decide) rfl (fun ls hl => ?_)
  refine lv_aload_n hx hb dL_law_1005 rfl (lv_at hl 4 rfl) ?_
  have hPc := hP.sub (ws' := [(m, .inr (22, [.int 0, .ref mq1, .int 0, .ref mq2, .int 0, .ref mq3, .int 250, .ref mq4, .int 0, .ref mq5, .ref mq6, .ref mq16, .int 0, .ref mq7, .ref mq8, .ref mq9, .int 0, .null, .int 0, .null, .int 0, .int 0, .int 0, .ref mq10, .int 0, .ref mq11, .ref mq12, .ref mq13, .int 0, .ref mq14, .ref mq15, .int 0]))]) [9] rfl
  have hDc := hD.sub (ws' := [(m, .inr (22, [.int 0, .ref mq1, .int 0, .ref mq2, .int 0, .ref mq3, .int 250, .ref mq4, .int 0, .ref mq5, .ref mq6, .ref mq16, .int 0, .ref mq7, .ref mq8, .ref mq9, .int 0, .null, .int 0, .null, .int 0, .int 0, .int 0, .ref mq10, .int 0, .ref mq11, .ref mq12, .ref mq13, .int 0, .ref mq14, .ref mq15, .int 0]))]) [9] (by decide) rfl
  have hFc := va_free (wc := [(m, .inr (22, [.int 0, .ref mq1, .int 0, .ref mq2, .int 0, .ref mq3, .int 250, .ref mq4, .int 0, .ref mq5, .ref mq6, .ref mq16, .int 0, .ref mq7, .ref mq8, .ref mq9, .int 0, .null, .int 0, .null, .int 0, .int 0, .int 0, .ref mq10, .int 0, .ref mq11, .ref mq12, .ref mq13, .int 0, .ref mq14, .ref mq15, .int 0]))]) hD hS hA [9] rfl
  refine va_calli (va_runV (As := []) (rest := []) ⟨hx, hb, hml, hown, hts⟩ (c9_X21_thrown_1 l g m mq1 mq2 mq3 mq4 mq5 mq6 mq16 mq7 mq8 mq9 mq10 mq11 mq12 mq13 mq14 mq15 _) (cwV 0 hts g9_law_6 rfl rfl rfl (by decide +kernel) ⟨Nat.le_of_ble_eq_true rfl, Nat.le_of_ble_eq_true rfl⟩) (mPreV (g := g) (wc := [(m, .inr (22, [.int 0, .ref mq1, .int 0, .ref mq2, .int 0, .ref mq3, .int 250, .ref mq4, .int 0, .ref mq5, .ref mq6, .ref mq16, .int 0, .ref mq7, .ref mq8, .ref mq9, .int 0, .null, .int 0, .null, .int 0, .int 0, .int 0, .ref mq10, .int 0, .ref mq11, .ref mq12, .ref mq13, .int 0, .ref mq14, .ref mq15, .int 0]))]) (C := RX21) (ci := 22) (q0 := 0) hE hS hPc hDc hFc rfl rfl) rfl rfl hl.1 rfl (lv_room (Nat.le_of_ble_eq_true rfl)) dL_law_1006 ⟨Nat.le_of_ble_eq_true rfl, Nat.le_of_ble_eq_true rfl⟩) hS (fun q _ h => hFc q h) hFc (fun r_3 u t H1 locs ht hvm hw hB hz1 hk1 hS => ?_)
  replace hw : 0 = r_3 := Eq.symm hw
  subst hw
  obtain ⟨hP1, hD1⟩ := hB
  rw [ht] at hP1
  obtain ⟨hP, hD⟩ := va_join (wr := [(x, .inr (12, [.ref xq1, .int 0, .ref xq2, .ref xq4, .ref xq5, .ref xq12, .ref xq22, .ref xq23, .int (-1), .ref xq24, .ref xq25, .int 250, .ref xq20, .int 0, .ref xq13, .ref xq14, .ref xq26])), (xq2, .inr (11, [.ref xq3])), (xq3, .inr (10, [.int 1, .int 20, .ref xq27, .int 0])), (xq4, .inl (g.2.1 3, 4, .inr (.inr (.inr (.inr (va_up (va_up (va_up (va_up (fun _ => none) 0 (some xq16)) 1 (some xq17)) 2 (some xq18)) 3 (some xq19))))))), (xq16, .inr (6, [.ref xq30, .ref xq31, .ref xq32, .int 0, .int 0, .int 0, .int 0, .int 0])), (xq17, .inr (6, [.ref xq33, .ref xq34, .ref xq35, .int 0, .int 0, .int 0, .int 0, .int 0])), (xq18, .inr (6, [.ref xq36, .ref xq37, .ref xq38, .int 0, .int 0, .int 0, .int 0, .int 0])), (xq19, .inr (6, [.ref xq39, .ref xq40, .ref xq41, .int 0, .int 0, .int 0, .int 0, .int 0])), (o, .inl (g.2.1 2, 1, .inr (.inl (vp_updL (fun _ => 0) 0 0)))), (mq3, .inl (g.2.1 4, 4, .inr (.inr (.inr (.inr (fun _ => none))))))]) (w1 := [(m, .inr (22, [.int 0, .ref mq1, .int 0, .ref mq2, .int 0, .ref mq3, .int 250, .ref mq4, .int 0, .ref mq5, .ref mq6, .ref mq16, .int 0, .ref mq7, .ref mq8, .ref mq9, .int 0, .null, .int 0, .null, .int 0, .int 0, .int 0, .ref mq10, .int 0, .ref mq11, .ref mq12, .ref mq13, .int 0, .ref mq14, .ref mq15, .int 0]))]) hP hD [9] [0, 1, 2, 3, 4, 5, 6, 7, 8, 10] rfl rfl (by decide) (by decide) hk1 hFc hP1 hD1
  clear hP1 hD1 hPc hDc hFc hk1 hz1 hvm ht
  generalize H1 = H at hP hS ⊢
  have hP : va_P g.1 vwCl [(x, .inr (12, [.ref xq1, .int 0, .ref xq2, .ref xq4, .ref xq5, .ref xq12, .ref xq22, .ref xq23, .int (-1), .ref xq24, .ref xq25, .int 250, .ref xq20, .int 0, .ref xq13, .ref xq14, .ref xq26])), (xq2, .inr (11, [.ref xq3])), (xq3, .inr (10, [.int 1, .int 20, .ref xq27, .int 0])), (xq4, .inl (g.2.1 3, 4, .inr (.inr (.inr (.inr (va_up (va_up (va_up (va_up (fun _ => none) 0 (some xq16)) 1 (some xq17)) 2 (some xq18)) 3 (some xq19))))))), (xq16, .inr (6, [.ref xq30, .ref xq31, .ref xq32, .int 0, .int 0, .int 0, .int 0, .int 0])), (xq17, .inr (6, [.ref xq33, .ref xq34, .ref xq35, .int 0, .int 0, .int 0, .int 0, .int 0])), (xq18, .inr (6, [.ref xq36, .ref xq37, .ref xq38, .int 0, .int 0, .int 0, .int 0, .int 0])), (xq19, .inr (6, [.ref xq39, .ref xq40, .ref xq41, .int 0, .int 0, .int 0, .int 0, .int 0])), (o, .inl (g.2.1 2, 1, .inr (.inl (vp_updL (fun _ => 0) 0 0)))), (mq3, .inl (g.2.1 4, 4, .inr (.inr (.inr (.inr (fun _ => none)))))), (m, .inr (22, [.int 0, .ref mq1, .int 0, .ref mq2, .int 0, .ref mq3, .int 250, .ref mq4, .int 0, .ref mq5, .ref mq6, .ref mq16, .int 0, .ref mq7, .ref mq8, .ref mq9, .int 0, .null, .int 0, .null, .int 0, .int 0, .int 0, .ref mq10, .int 0, .ref mq11, .ref mq12, .ref mq13, .int 0, .ref mq14, .ref mq15, .int 0]))] H := hP
  have hD : va_D A [(x, .inr (12, [.ref xq1, .int 0, .ref xq2, .ref xq4, .ref xq5, .ref xq12, .ref xq22, .ref xq23, .int (-1), .ref xq24, .ref xq25, .int 250, .ref xq20, .int 0, .ref xq13, .ref xq14, .ref xq26])), (xq2, .inr (11, [.ref xq3])), (xq3, .inr (10, [.int 1, .int 20, .ref xq27, .int 0])), (xq4, .inl (g.2.1 3, 4, .inr (.inr (.inr (.inr (va_up (va_up (va_up (va_up (fun _ => none) 0 (some xq16)) 1 (some xq17)) 2 (some xq18)) 3 (some xq19))))))), (xq16, .inr (6, [.ref xq30, .ref xq31, .ref xq32, .int 0, .int 0, .int 0, .int 0, .int 0])), (xq17, .inr (6, [.ref xq33, .ref xq34, .ref xq35, .int 0, .int 0, .int 0, .int 0, .int 0])), (xq18, .inr (6, [.ref xq36, .ref xq37, .ref xq38, .int 0, .int 0, .int 0, .int 0, .int 0])), (xq19, .inr (6, [.ref xq39, .ref xq40, .ref xq41, .int 0, .int 0, .int 0, .int 0, .int 0])), (o, .inl (g.2.1 2, 1, .inr (.inl (vp_updL (fun _ => 0) 0 0)))), (mq3, .inl (g.2.1 4, 4, .inr (.inr (.inr (.inr (fun _ => none)))))), (m, .inr (22, [.int 0, .ref mq1, .int 0, .ref mq2, .int 0, .ref mq3, .int 250, .ref mq4, .int 0, .ref mq5, .ref mq6, .ref mq16, .int 0, .ref mq7, .ref mq8, .ref mq9, .int 0, .null, .int 0, .null, .int 0, .int 0, .int 0, .ref mq10, .int 0, .ref mq11, .ref mq12, .ref mq13, .int 0, .ref mq14, .ref mq15, .int 0]))] := hD
  refine lv_iload hx hb dL_law_1009 (lv_at hl 1 rfl) ?_
  refine lv_icmp_eq (tgt := 1016) hx hb dL_law_1011 (by decide) (fun _ => ?_) (fun c9 => absurd (by decide) c9)
  refine lv_iload hx hb dL_law_1016 (lv_at hl 1 rfl) ?_
  refine lv_if_ne (tgt := 1033) hx hb dL_law_1018 (by decide) (fun c9 => absurd (by decide) c9) (fun _ => ?_)
  refine lv_aload_n hx hb dL_law_1021 rfl (lv_at hl 5 rfl) ?_
  refine lv_iconst (v := 0) hx hb dL_law_1022 (by decide) ?_
  refine va_lald hx hb hK hP 8 2 rfl rfl (vp_in_nI (n := 0) (by decide) (by decide)) dL_law_1023 ?_
  refine e_topv (y := .long 0) (by rfl) ?_
  refine lv_iload hx hb dL_law_1024 (lv_at hl 0 rfl) ?_
  refine lv_i2l (v := 0) hx hb dL_law_1026 (by decide) ?_
  refine W.lcmp hx hb dL_law_1027 ?_
  refine e_top (y := 0) (by decide) ?_
  refine lv_if_eq (tgt := 1033) hx hb dL_law_1028 (by decide) (fun _ => ?_) (fun c9 => absurd (by decide) c9)
  refine lv_goto (tgt := 1368) hx hb dL_law_1033 (by decide) ?_
  subst hAe
  exact law_end C0 hS (lv_sub hl [2, 6] rfl) (Nat.le_of_ble_eq_true rfl) (Nat.le_of_ble_eq_true rfl)
set_option maxHeartbeats 4000000 in
set_option maxRecDepth 100000 in
theorem law_18_n {p : Program} {l : Launch} {e : Env} {s : State} {m9 : MethodId} {below : List Frame} {meth : Method} {c : Code} {g : G9} {b : Nat} {xs : Nat → Int32} (hlt : l.stackTraces = false) (C0 : lw_At p s m9 meth c b 4 xs) (hE : EE g (fun q : Nat => s.heap.size ≤ q) s) (x m o xq1 xq2 xq4 xq5 xq12 xq22 xq23 xq24 xq25 xq20 xq13 xq14 xq26 mq1 mq2 mq3 mq4 mq5 mq6 mq16 mq7 mq8 mq9 mq10 mq11 mq12 mq13 mq14 mq15 : Nat) (x1 : Int32) (e1 : xs 1 = x1) (k_x1 : (-2147483648) ≤ x1.toInt ∧ x1.toInt ≤ (-1)) (x2 : Int32) (e2 : xs 2 = x2) (k_x2 : (-2147483648) ≤ x2.toInt ∧ x2.toInt ≤ 2147483647) (x3 : Int32) (e3 : xs 3 = x3) (k_x3 : (-2147483648) ≤ x3.toInt ∧ x3.toInt ≤ 2147483647) : ∀ (H : Heap) (locs : List Loc) (ls : Array Slot), va_P g.1 vwCl [(x, .inr (12, [.ref xq1, .int 0, .ref xq2, .ref xq4, .ref xq5, .ref xq12, .ref xq22, .ref xq23, .int (-1), .ref xq24, .ref xq25, .int 250, .ref xq20, .int 0, .ref xq13, .ref xq14, .ref xq26])), (m, .inr (22, [.int 0, .ref mq1, .int 0, .ref mq2, .int 0, .ref mq3, .int 250, .ref mq4, .int 0, .ref mq5, .ref mq6, .ref mq16, .int 0, .ref mq7, .ref mq8, .ref mq9, .int 0, .null, .int 0, .null, .int 0, .int 0, .int 0, .ref mq10, .int 0, .ref mq11, .ref mq12, .ref mq13, .int 0, .ref mq14, .ref mq15, .int 0]))] H → va_D (fun q : Nat => s.heap.size ≤ q) [(x, .inr (12, [.ref xq1, .int 0, .ref xq2, .ref xq4, .ref xq5, .ref xq12, .ref xq22, .ref xq23, .int (-1), .ref xq24, .ref xq25, .int 250, .ref xq20, .int 0, .ref xq13, .ref xq14, .ref xq26])), (m, .inr (22, [.int 0, .ref mq1, .int 0, .ref mq2, .int 0, .ref mq3, .int 250, .ref mq4, .int 0, .ref mq5, .ref mq6, .ref mq16, .int 0, .ref mq7, .ref mq8, .ref mq9, .int 0, .null, .int 0, .null, .int 0, .int 0, .int 0, .ref mq10, .int 0, .ref mq11, .ref mq12, .ref mq13, .int 0, .ref mq14, .ref mq15, .int 0]))] → va_S (fun q : Nat => s.heap.size ≤ q) s.heap H locs → lv_has ls 7 [(0, .ref b), (1, .ref x), (2, .ref m), (3, .ref o), (4, .int 0)] → W p l e room_1 s m9 #[Value.ref b] below meth c H locs 106 7589 (lw_Z below #[Value.ref b] s) (F0 m9 1036 ls []) := by
  intro H locs ls hP hD hS hl
  obtain ⟨hx, hb, hr, hml, hown, hts0, hX, hbl, hlocks, hgv⟩ := id C0
  have hts : ∀ w ∈ w9_law, w.before #[Value.ref b] s = true := fun w h => hts0 w (w9_law_in w h)
  generalize hAe : (fun q : Nat => s.heap.size ≤ q) = A at hE hD hS
  have hA : ∀ q : Nat, s.heap.size ≤ q → A q := fun q h => by rw [← hAe]; exact h
  have hbA : ¬ A b := by rw [← hAe]; exact Nat.not_le.mpr hbl
  have hK := hE.1
  refine lv_aload_n hx hb dL_law_1036 rfl (lv_at hl 1 rfl) ?_
  refine lv_aload_n hx hb dL_law_1037 rfl (lv_at hl 0 rfl) ?_
  refine lv_iload hx hb dL_law_1038 (lv_at hl 4 rfl) ?_
  refine lv_iconst (v := 1) hx hb dL_law_1040 (by decide) ?_
  refine lv_iadd hx hb dL_law_1041 ?_
  refine e_top (y := 1) (by decide) ?_
  refine va_sld hx hb hX hbl hbA hS (vp_in_nI (n := 1) (by decide) (by decide)) dL_law_1042 ?_
  refine e_top (y := x1) e1 ?_
  refine lv_aload_n hx hb dL_law_1043 rfl (lv_at hl 0 rfl) ?_
  refine lv_iload hx hb dL_law_1044 (lv_at hl 4 rfl) ?_
  refine lv_iconst (v := 2) hx hb dL_law_1046 (by decide) ?_
  refine lv_iadd hx hb dL_law_1047 ?_
  refine e_top (y := 2) (by decide) ?_
  refine va_sld hx hb hX hbl hbA hS (vp_in_nI (n := 2) (by decide) (by decide)) dL_law_1048 ?_
  refine e_top (y := x2) e2 ?_
  refine lv_aload_n hx hb dL_law_1049 rfl (lv_at hl 0 rfl) ?_
  refine lv_iload hx hb dL_law_1050 (lv_at hl 4 rfl) ?_
  refine lv_iconst (v := 3) hx hb dL_law_1052 (by decide) ?_
  refine lv_iadd hx hb dL_law_1053 ?_
  refine e_top (y := 3) (by decide) ?_
  refine va_sld hx hb hX hbl hbA hS (vp_in_nI (n := 3) (by decide) (by decide)) dL_law_1054 ?_
  refine e_top (y := x3) e3 ?_
  refine lv_aload_n hx hb dL_law_1055 rfl (lv_at hl 3 rfl) ?_
  have hPc := hP.sub (ws' := [(x, .inr (12, [.ref xq1, .int 0, .ref xq2, .ref xq4, .ref xq5, .ref xq12, .ref xq22, .ref xq23, .int (-1), .ref xq24, .ref xq25, .int 250, .ref xq20, .int 0, .ref xq13, .ref xq14, .ref xq26]))]) [0] rfl
  have hDc := hD.sub (ws' := [(x, .inr (12, [.ref xq1, .int 0, .ref xq2, .ref xq4, .ref xq5, .ref xq12, .ref xq22, .ref xq23, .int (-1), .ref xq24, .ref xq25, .int 250, .ref xq20, .int 0, .ref xq13, .ref xq14, .ref xq26]))]) [0] (by decide) rfl
  have hFc := va_free (wc := [(x, .inr (12, [.ref xq1, .int 0, .ref xq2, .ref xq4, .ref xq5, .ref xq12, .ref xq22, .ref xq23, .int (-1), .ref xq24, .ref xq25, .int 250, .ref xq20, .int 0, .ref xq13, .ref xq14, .ref xq26]))]) hD hS hA [0] rfl
  refine va_calli (vx_runSW (As := [.ref x, .int x1, .int x2, .int x3, .ref o]) (rest := []) ⟨hx, hb, hml, hown, hts⟩ (c9_L_ways_1 l hlt g x o xq1 xq2 xq4 xq5 xq12 xq22 xq23 xq24 xq25 xq20 xq13 xq14 xq26 _ x1 x2 x3 (by omega) (by omega) (by omega)) (vx_cwSW (bytes := cL_ways) (maxL := 6) (ret := (some .int)) (hh := [(0, 12, 15, 21), (0, 12, 19, 15)]) 5 hts g9_law_158 rfl rfl rfl (by decide +kernel) ⟨Nat.le_of_ble_eq_true rfl, Nat.le_of_ble_eq_true rfl⟩) (mPreS (g := g) (wc := [(x, .inr (12, [.ref xq1, .int 0, .ref xq2, .ref xq4, .ref xq5, .ref xq12, .ref xq22, .ref xq23, .int (-1), .ref xq24, .ref xq25, .int 250, .ref xq20, .int 0, .ref xq13, .ref xq14, .ref xq26]))]) hE hS hPc hDc hFc) rfl rfl hl.1 rfl (lv_room (Nat.le_of_ble_eq_true rfl)) dL_law_1056 ⟨Nat.le_of_ble_eq_true rfl, Nat.le_of_ble_eq_true rfl⟩) hS (fun q _ h => hFc q h) hFc (fun r_1 u t H1 locs ht hvm hw hB hz1 hk1 hS => ?_)
  replace hw : 1 = r_1 := Eq.symm hw
  subst hw
  obtain ⟨hP1, hD1⟩ := hB
  rw [ht] at hP1
  obtain ⟨hP, hD⟩ := va_join (wr := [(m, .inr (22, [.int 0, .ref mq1, .int 0, .ref mq2, .int 0, .ref mq3, .int 250, .ref mq4, .int 0, .ref mq5, .ref mq6, .ref mq16, .int 0, .ref mq7, .ref mq8, .ref mq9, .int 0, .null, .int 0, .null, .int 0, .int 0, .int 0, .ref mq10, .int 0, .ref mq11, .ref mq12, .ref mq13, .int 0, .ref mq14, .ref mq15, .int 0]))]) (w1 := []) hP hD [0] [1] rfl rfl (by decide) (by decide) hk1 hFc hP1 hD1
  clear hP1 hD1 hPc hDc hFc hk1 hz1 hvm ht
  generalize H1 = H at hP hS ⊢
  have hP : va_P g.1 vwCl [(m, .inr (22, [.int 0, .ref mq1, .int 0, .ref mq2, .int 0, .ref mq3, .int 250, .ref mq4, .int 0, .ref mq5, .ref mq6, .ref mq16, .int 0, .ref mq7, .ref mq8, .ref mq9, .int 0, .null, .int 0, .null, .int 0, .int 0, .int 0, .ref mq10, .int 0, .ref mq11, .ref mq12, .ref mq13, .int 0, .ref mq14, .ref mq15, .int 0]))] H := hP
  have hD : va_D A [(m, .inr (22, [.int 0, .ref mq1, .int 0, .ref mq2, .int 0, .ref mq3, .int 250, .ref mq4, .int 0, .ref mq5, .ref mq6, .ref mq16, .int 0, .ref mq7, .ref mq8, .ref mq9, .int 0, .null, .int 0, .null, .int 0, .int 0, .int 0, .ref mq10, .int 0, .ref mq11, .ref mq12, .ref mq13, .int 0, .ref mq14, .ref mq15, .int 0]))] := hD
  refine lv_istore (lv' := [(5, .int 1), (0, .ref b), (1, .ref x), (2, .ref m), (3, .ref o), (4, .int 0)]) hx hb dL_law_1059 hl (by decide) rfl (fun ls hl => ?_)
  refine lv_aload_n hx hb dL_law_1061 rfl (lv_at hl 3 rfl) ?_
  refine lv_aload_n hx hb dL_law_1062 rfl (lv_at hl 1 rfl) ?_
  refine lv_iload hx hb dL_law_1063 (lv_at hl 5 rfl) ?_
  refine lv_iconst (v := 1) hx hb dL_law_1065 (by decide) ?_
  refine lv_iadd hx hb dL_law_1066 ?_
  refine e_top (y := 1) (by decide) ?_
  refine va_sld hx hb hX hbl hbA hS (vp_in_nI (n := 1) (by decide) (by decide)) dL_law_1067 ?_
  refine e_top (y := x1) e1 ?_
  refine lv_aload_n hx hb dL_law_1068 rfl (lv_at hl 1 rfl) ?_
  refine lv_iload hx hb dL_law_1069 (lv_at hl 5 rfl) ?_
  refine lv_iconst (v := 2) hx hb dL_law_1071 (by decide) ?_
  refine lv_iadd hx hb dL_law_1072 ?_
  refine e_top (y := 2) (by decide) ?_
  refine va_sld hx hb hX hbl hbA hS (vp_in_nI (n := 2) (by decide) (by decide)) dL_law_1073 ?_
  refine e_top (y := x2) e2 ?_
  refine lv_aload_n hx hb dL_law_1074 rfl (lv_at hl 1 rfl) ?_
  refine lv_iload hx hb dL_law_1075 (lv_at hl 5 rfl) ?_
  refine lv_iconst (v := 3) hx hb dL_law_1077 (by decide) ?_
  refine lv_iadd hx hb dL_law_1078 ?_
  refine e_top (y := 3) (by decide) ?_
  refine va_sld hx hb hX hbl hbA hS (vp_in_nI (n := 3) (by decide) (by decide)) dL_law_1079 ?_
  refine e_top (y := x3) e3 ?_
  have hPc := hP.sub (ws' := [(m, .inr (22, [.int 0, .ref mq1, .int 0, .ref mq2, .int 0, .ref mq3, .int 250, .ref mq4, .int 0, .ref mq5, .ref mq6, .ref mq16, .int 0, .ref mq7, .ref mq8, .ref mq9, .int 0, .null, .int 0, .null, .int 0, .int 0, .int 0, .ref mq10, .int 0, .ref mq11, .ref mq12, .ref mq13, .int 0, .ref mq14, .ref mq15, .int 0]))]) [0] rfl
  have hDc := hD.sub (ws' := [(m, .inr (22, [.int 0, .ref mq1, .int 0, .ref mq2, .int 0, .ref mq3, .int 250, .ref mq4, .int 0, .ref mq5, .ref mq6, .ref mq16, .int 0, .ref mq7, .ref mq8, .ref mq9, .int 0, .null, .int 0, .null, .int 0, .int 0, .int 0, .ref mq10, .int 0, .ref mq11, .ref mq12, .ref mq13, .int 0, .ref mq14, .ref mq15, .int 0]))]) [0] (by decide) rfl
  have hFc := va_free (wc := [(m, .inr (22, [.int 0, .ref mq1, .int 0, .ref mq2, .int 0, .ref mq3, .int 250, .ref mq4, .int 0, .ref mq5, .ref mq6, .ref mq16, .int 0, .ref mq7, .ref mq8, .ref mq9, .int 0, .null, .int 0, .null, .int 0, .int 0, .int 0, .ref mq10, .int 0, .ref mq11, .ref mq12, .ref mq13, .int 0, .ref mq14, .ref mq15, .int 0]))]) hD hS hA [0] rfl
  refine va_calli (va_runV (As := [.int x1, .int x2, .int x3]) (rest := []) ⟨hx, hb, hml, hown, hts⟩ (c9_X21_ways_1 l g m mq1 mq2 mq3 mq4 mq5 mq6 mq16 mq7 mq8 mq9 mq10 mq11 mq12 mq13 mq14 mq15 _ x1 x2 x3 (by omega) (by omega) (by omega)) (cwV 3 hts g9_law_159 rfl rfl rfl (by decide +kernel) ⟨Nat.le_of_ble_eq_true rfl, Nat.le_of_ble_eq_true rfl⟩) (mPreV (g := g) (wc := [(m, .inr (22, [.int 0, .ref mq1, .int 0, .ref mq2, .int 0, .ref mq3, .int 250, .ref mq4, .int 0, .ref mq5, .ref mq6, .ref mq16, .int 0, .ref mq7, .ref mq8, .ref mq9, .int 0, .null, .int 0, .null, .int 0, .int 0, .int 0, .ref mq10, .int 0, .ref mq11, .ref mq12, .ref mq13, .int 0, .ref mq14, .ref mq15, .int 0]))]) (C := RX21) (ci := 22) (q0 := 0) hE hS hPc hDc hFc rfl rfl) rfl rfl hl.1 rfl (lv_room (Nat.le_of_ble_eq_true rfl)) dL_law_1080 ⟨Nat.le_of_ble_eq_true rfl, Nat.le_of_ble_eq_true rfl⟩) hS (fun q _ h => hFc q h) hFc (fun r_2 u t H1 locs ht hvm hw hB hz1 hk1 hS => ?_)
  replace hw : 0 = r_2 := Eq.symm hw
  subst hw
  obtain ⟨hP1, hD1⟩ := hB
  rw [ht] at hP1
  obtain ⟨hP, hD⟩ := va_join (wr := []) (w1 := [(m, .inr (22, [.int 1, .ref mq1, .int 0, .ref mq2, .int 0, .ref mq3, .int 250, .ref mq4, .int 0, .ref mq5, .ref mq6, .ref mq16, .int 0, .ref mq7, .ref mq8, .ref mq9, .int 0, .null, .int 0, .null, .int 0, .int 0, .int 0, .ref mq10, .int 0, .ref mq11, .ref mq12, .ref mq13, .int 0, .ref mq14, .ref mq15, .int 0]))]) hP hD [0] [] rfl rfl (by decide) (by decide) hk1 hFc hP1 hD1
  clear hP1 hD1 hPc hDc hFc hk1 hz1 hvm ht
  generalize H1 = H at hP hS ⊢
  have hP : va_P g.1 vwCl [(m, .inr (22, [.int 1, .ref mq1, .int 0, .ref mq2, .int 0, .ref mq3, .int 250, .ref mq4, .int 0, .ref mq5, .ref mq6, .ref mq16, .int 0, .ref mq7, .ref mq8, .ref mq9, .int 0, .null, .int 0, .null, .int 0, .int 0, .int 0, .ref mq10, .int 0, .ref mq11, .ref mq12, .ref mq13, .int 0, .ref mq14, .ref mq15, .int 0]))] H := hP
  have hD : va_D A [(m, .inr (22, [.int 1, .ref mq1, .int 0, .ref mq2, .int 0, .ref mq3, .int 250, .ref mq4, .int 0, .ref mq5, .ref mq6, .ref mq16, .int 0, .ref mq7, .ref mq8, .ref mq9, .int 0, .null, .int 0, .null, .int 0, .int 0, .int 0, .ref mq10, .int 0, .ref mq11, .ref mq12, .ref mq13, .int 0, .ref mq14, .ref mq15, .int 0]))] := hD
  refine lv_istore (lv' := [(6, .int 0), (5, .int 1), (0, .ref b), (1, .ref x), (2, .ref m), (3, .ref o), (4, .int 0)]) hx hb dL_law_1083 hl (by decide) rfl (fun ls hl => ?_)
  refine lv_aload_n hx hb dL_law_1085 rfl (lv_at hl 4 rfl) ?_
  have hPc := hP.sub (ws' := [(m, .inr (22, [.int 1, .ref mq1, .int 0, .ref mq2, .int 0, .ref mq3, .int 250, .ref mq4, .int 0, .ref mq5, .ref mq6, .ref mq16, .int 0, .ref mq7, .ref mq8, .ref mq9, .int 0, .null, .int 0, .null, .int 0, .int 0, .int 0, .ref mq10, .int 0, .ref mq11, .ref mq12, .ref mq13, .int 0, .ref mq14, .ref mq15, .int 0]))]) [0] rfl
  have hDc := hD.sub (ws' := [(m, .inr (22, [.int 1, .ref mq1, .int 0, .ref mq2, .int 0, .ref mq3, .int 250, .ref mq4, .int 0, .ref mq5, .ref mq6, .ref mq16, .int 0, .ref mq7, .ref mq8, .ref mq9, .int 0, .null, .int 0, .null, .int 0, .int 0, .int 0, .ref mq10, .int 0, .ref mq11, .ref mq12, .ref mq13, .int 0, .ref mq14, .ref mq15, .int 0]))]) [0] (by decide) rfl
  have hFc := va_free (wc := [(m, .inr (22, [.int 1, .ref mq1, .int 0, .ref mq2, .int 0, .ref mq3, .int 250, .ref mq4, .int 0, .ref mq5, .ref mq6, .ref mq16, .int 0, .ref mq7, .ref mq8, .ref mq9, .int 0, .null, .int 0, .null, .int 0, .int 0, .int 0, .ref mq10, .int 0, .ref mq11, .ref mq12, .ref mq13, .int 0, .ref mq14, .ref mq15, .int 0]))]) hD hS hA [0] rfl
  refine va_calli (va_runV (As := []) (rest := []) ⟨hx, hb, hml, hown, hts⟩ (c9_X21_thrown_2 l g m mq1 mq2 mq3 mq4 mq5 mq6 mq16 mq7 mq8 mq9 mq10 mq11 mq12 mq13 mq14 mq15 _) (cwV 0 hts g9_law_15 rfl rfl rfl (by decide +kernel) ⟨Nat.le_of_ble_eq_true rfl, Nat.le_of_ble_eq_true rfl⟩) (mPreV (g := g) (wc := [(m, .inr (22, [.int 1, .ref mq1, .int 0, .ref mq2, .int 0, .ref mq3, .int 250, .ref mq4, .int 0, .ref mq5, .ref mq6, .ref mq16, .int 0, .ref mq7, .ref mq8, .ref mq9, .int 0, .null, .int 0, .null, .int 0, .int 0, .int 0, .ref mq10, .int 0, .ref mq11, .ref mq12, .ref mq13, .int 0, .ref mq14, .ref mq15, .int 0]))]) (C := RX21) (ci := 22) (q0 := 0) hE hS hPc hDc hFc rfl rfl) rfl rfl hl.1 rfl (lv_room (Nat.le_of_ble_eq_true rfl)) dL_law_1086 ⟨Nat.le_of_ble_eq_true rfl, Nat.le_of_ble_eq_true rfl⟩) hS (fun q _ h => hFc q h) hFc (fun r_3 u t H1 locs ht hvm hw hB hz1 hk1 hS => ?_)
  replace hw : 1 = r_3 := Eq.symm hw
  subst hw
  obtain ⟨hP1, hD1⟩ := hB
  rw [ht] at hP1
  obtain ⟨hP, hD⟩ := va_join (wr := []) (w1 := [(m, .inr (22, [.int 1, .ref mq1, .int 0, .ref mq2, .int 0, .ref mq3, .int 250, .ref mq4, .int 0, .ref mq5, .ref mq6, .ref mq16, .int 0, .ref mq7, .ref mq8, .ref mq9, .int 0, .null, .int 0, .null, .int 0, .int 0, .int 0, .ref mq10, .int 0, .ref mq11, .ref mq12, .ref mq13, .int 0, .ref mq14, .ref mq15, .int 0]))]) hP hD [0] [] rfl rfl (by decide) (by decide) hk1 hFc hP1 hD1
  clear hP1 hD1 hPc hDc hFc hk1 hz1 hvm ht
  generalize H1 = H at hP hS ⊢
  have hP : va_P g.1 vwCl [(m, .inr (22, [.int 1, .ref mq1, .int 0, .ref mq2, .int 0, .ref mq3, .int 250, .ref mq4, .int 0, .ref mq5, .ref mq6, .ref mq16, .int 0, .ref mq7, .ref mq8, .ref mq9, .int 0, .null, .int 0, .null, .int 0, .int 0, .int 0, .ref mq10, .int 0, .ref mq11, .ref mq12, .ref mq13, .int 0, .ref mq14, .ref mq15, .int 0]))] H := hP
  have hD : va_D A [(m, .inr (22, [.int 1, .ref mq1, .int 0, .ref mq2, .int 0, .ref mq3, .int 250, .ref mq4, .int 0, .ref mq5, .ref mq6, .ref mq16, .int 0, .ref mq7, .ref mq8, .ref mq9, .int 0, .null, .int 0, .null, .int 0, .int 0, .int 0, .ref mq10, .int 0, .ref mq11, .ref mq12, .ref mq13, .int 0, .ref mq14, .ref mq15, .int 0]))] := hD
  refine lv_iload hx hb dL_law_1089 (lv_at hl 1 rfl) ?_
  refine lv_icmp_eq (tgt := 1096) hx hb dL_law_1091 (by decide) (fun _ => ?_) (fun c9 => absurd (by decide) c9)
  refine lv_iload hx hb dL_law_1096 (lv_at hl 1 rfl) ?_
  refine lv_if_ne (tgt := 1113) hx hb dL_law_1098 (by decide) (fun _ => ?_) (fun c9 => absurd c9 (by decide))
  refine lv_goto (tgt := 1368) hx hb dL_law_1113 (by decide) ?_
  subst hAe
  exact law_end C0 hS (lv_sub hl [2, 6] rfl) (Nat.le_of_ble_eq_true rfl) (Nat.le_of_ble_eq_true rfl)
set_option maxHeartbeats 4000000 in
set_option maxRecDepth 100000 in
theorem law_18_b {p : Program} {l : Launch} {e : Env} {s : State} {m9 : MethodId} {below : List Frame} {meth : Method} {c : Code} {g : G9} {b : Nat} {xs : Nat → Int32} (hlt : l.stackTraces = false) (C0 : lw_At p s m9 meth c b 4 xs) (hE : EE g (fun q : Nat => s.heap.size ≤ q) s) (x m o xq1 xq2 xq4 xq5 xq12 xq22 xq23 xq24 xq25 xq20 xq13 xq14 xq26 mq1 mq2 mq3 mq4 mq5 mq6 mq16 mq7 mq8 mq9 mq10 mq11 mq12 mq13 mq14 mq15 : Nat) (x1 : Int32) (e1 : xs 1 = x1) (k_x1 : 4 ≤ x1.toInt ∧ x1.toInt ≤ 2147483647) (x2 : Int32) (e2 : xs 2 = x2) (k_x2 : (-2147483648) ≤ x2.toInt ∧ x2.toInt ≤ 2147483647) (x3 : Int32) (e3 : xs 3 = x3) (k_x3 : (-2147483648) ≤ x3.toInt ∧ x3.toInt ≤ 2147483647) : ∀ (H : Heap) (locs : List Loc) (ls : Array Slot), va_P g.1 vwCl [(x, .inr (12, [.ref xq1, .int 0, .ref xq2, .ref xq4, .ref xq5, .ref xq12, .ref xq22, .ref xq23, .int (-1), .ref xq24, .ref xq25, .int 250, .ref xq20, .int 0, .ref xq13, .ref xq14, .ref xq26])), (m, .inr (22, [.int 0, .ref mq1, .int 0, .ref mq2, .int 0, .ref mq3, .int 250, .ref mq4, .int 0, .ref mq5, .ref mq6, .ref mq16, .int 0, .ref mq7, .ref mq8, .ref mq9, .int 0, .null, .int 0, .null, .int 0, .int 0, .int 0, .ref mq10, .int 0, .ref mq11, .ref mq12, .ref mq13, .int 0, .ref mq14, .ref mq15, .int 0]))] H → va_D (fun q : Nat => s.heap.size ≤ q) [(x, .inr (12, [.ref xq1, .int 0, .ref xq2, .ref xq4, .ref xq5, .ref xq12, .ref xq22, .ref xq23, .int (-1), .ref xq24, .ref xq25, .int 250, .ref xq20, .int 0, .ref xq13, .ref xq14, .ref xq26])), (m, .inr (22, [.int 0, .ref mq1, .int 0, .ref mq2, .int 0, .ref mq3, .int 250, .ref mq4, .int 0, .ref mq5, .ref mq6, .ref mq16, .int 0, .ref mq7, .ref mq8, .ref mq9, .int 0, .null, .int 0, .null, .int 0, .int 0, .int 0, .ref mq10, .int 0, .ref mq11, .ref mq12, .ref mq13, .int 0, .ref mq14, .ref mq15, .int 0]))] → va_S (fun q : Nat => s.heap.size ≤ q) s.heap H locs → lv_has ls 7 [(0, .ref b), (1, .ref x), (2, .ref m), (3, .ref o), (4, .int 0)] → W p l e room_1 s m9 #[Value.ref b] below meth c H locs 106 7589 (lw_Z below #[Value.ref b] s) (F0 m9 1036 ls []) := by
  intro H locs ls hP hD hS hl
  obtain ⟨hx, hb, hr, hml, hown, hts0, hX, hbl, hlocks, hgv⟩ := id C0
  have hts : ∀ w ∈ w9_law, w.before #[Value.ref b] s = true := fun w h => hts0 w (w9_law_in w h)
  generalize hAe : (fun q : Nat => s.heap.size ≤ q) = A at hE hD hS
  have hA : ∀ q : Nat, s.heap.size ≤ q → A q := fun q h => by rw [← hAe]; exact h
  have hbA : ¬ A b := by rw [← hAe]; exact Nat.not_le.mpr hbl
  have hK := hE.1
  refine lv_aload_n hx hb dL_law_1036 rfl (lv_at hl 1 rfl) ?_
  refine lv_aload_n hx hb dL_law_1037 rfl (lv_at hl 0 rfl) ?_
  refine lv_iload hx hb dL_law_1038 (lv_at hl 4 rfl) ?_
  refine lv_iconst (v := 1) hx hb dL_law_1040 (by decide) ?_
  refine lv_iadd hx hb dL_law_1041 ?_
  refine e_top (y := 1) (by decide) ?_
  refine va_sld hx hb hX hbl hbA hS (vp_in_nI (n := 1) (by decide) (by decide)) dL_law_1042 ?_
  refine e_top (y := x1) e1 ?_
  refine lv_aload_n hx hb dL_law_1043 rfl (lv_at hl 0 rfl) ?_
  refine lv_iload hx hb dL_law_1044 (lv_at hl 4 rfl) ?_
  refine lv_iconst (v := 2) hx hb dL_law_1046 (by decide) ?_
  refine lv_iadd hx hb dL_law_1047 ?_
  refine e_top (y := 2) (by decide) ?_
  refine va_sld hx hb hX hbl hbA hS (vp_in_nI (n := 2) (by decide) (by decide)) dL_law_1048 ?_
  refine e_top (y := x2) e2 ?_
  refine lv_aload_n hx hb dL_law_1049 rfl (lv_at hl 0 rfl) ?_
  refine lv_iload hx hb dL_law_1050 (lv_at hl 4 rfl) ?_
  refine lv_iconst (v := 3) hx hb dL_law_1052 (by decide) ?_
  refine lv_iadd hx hb dL_law_1053 ?_
  refine e_top (y := 3) (by decide) ?_
  refine va_sld hx hb hX hbl hbA hS (vp_in_nI (n := 3) (by decide) (by decide)) dL_law_1054 ?_
  refine e_top (y := x3) e3 ?_
  refine lv_aload_n hx hb dL_law_1055 rfl (lv_at hl 3 rfl) ?_
  have hPc := hP.sub (ws' := [(x, .inr (12, [.ref xq1, .int 0, .ref xq2, .ref xq4, .ref xq5, .ref xq12, .ref xq22, .ref xq23, .int (-1), .ref xq24, .ref xq25, .int 250, .ref xq20, .int 0, .ref xq13, .ref xq14, .ref xq26]))]) [0] rfl
  have hDc := hD.sub (ws' := [(x, .inr (12, [.ref xq1, .int 0, .ref xq2, .ref xq4, .ref xq5, .ref xq12, .ref xq22, .ref xq23, .int (-1), .ref xq24, .ref xq25, .int 250, .ref xq20, .int 0, .ref xq13, .ref xq14, .ref xq26]))]) [0] (by decide) rfl
  have hFc := va_free (wc := [(x, .inr (12, [.ref xq1, .int 0, .ref xq2, .ref xq4, .ref xq5, .ref xq12, .ref xq22, .ref xq23, .int (-1), .ref xq24, .ref xq25, .int 250, .ref xq20, .int 0, .ref xq13, .ref xq14, .ref xq26]))]) hD hS hA [0] rfl
  refine va_calli (vx_runSW (As := [.ref x, .int x1, .int x2, .int x3, .ref o]) (rest := []) ⟨hx, hb, hml, hown, hts⟩ (c9_L_ways_2 l hlt g x o xq1 xq2 xq4 xq5 xq12 xq22 xq23 xq24 xq25 xq20 xq13 xq14 xq26 _ x1 x2 x3 (by omega) (by omega) (by omega)) (vx_cwSW (bytes := cL_ways) (maxL := 6) (ret := (some .int)) (hh := [(0, 12, 15, 21), (0, 12, 19, 15)]) 5 hts g9_law_160 rfl rfl rfl (by decide +kernel) ⟨Nat.le_of_ble_eq_true rfl, Nat.le_of_ble_eq_true rfl⟩) (mPreS (g := g) (wc := [(x, .inr (12, [.ref xq1, .int 0, .ref xq2, .ref xq4, .ref xq5, .ref xq12, .ref xq22, .ref xq23, .int (-1), .ref xq24, .ref xq25, .int 250, .ref xq20, .int 0, .ref xq13, .ref xq14, .ref xq26]))]) hE hS hPc hDc hFc) rfl rfl hl.1 rfl (lv_room (Nat.le_of_ble_eq_true rfl)) dL_law_1056 ⟨Nat.le_of_ble_eq_true rfl, Nat.le_of_ble_eq_true rfl⟩) hS (fun q _ h => hFc q h) hFc (fun r_1 u t H1 locs ht hvm hw hB hz1 hk1 hS => ?_)
  replace hw : 1 = r_1 := Eq.symm hw
  subst hw
  obtain ⟨hP1, hD1⟩ := hB
  rw [ht] at hP1
  obtain ⟨hP, hD⟩ := va_join (wr := [(m, .inr (22, [.int 0, .ref mq1, .int 0, .ref mq2, .int 0, .ref mq3, .int 250, .ref mq4, .int 0, .ref mq5, .ref mq6, .ref mq16, .int 0, .ref mq7, .ref mq8, .ref mq9, .int 0, .null, .int 0, .null, .int 0, .int 0, .int 0, .ref mq10, .int 0, .ref mq11, .ref mq12, .ref mq13, .int 0, .ref mq14, .ref mq15, .int 0]))]) (w1 := []) hP hD [0] [1] rfl rfl (by decide) (by decide) hk1 hFc hP1 hD1
  clear hP1 hD1 hPc hDc hFc hk1 hz1 hvm ht
  generalize H1 = H at hP hS ⊢
  have hP : va_P g.1 vwCl [(m, .inr (22, [.int 0, .ref mq1, .int 0, .ref mq2, .int 0, .ref mq3, .int 250, .ref mq4, .int 0, .ref mq5, .ref mq6, .ref mq16, .int 0, .ref mq7, .ref mq8, .ref mq9, .int 0, .null, .int 0, .null, .int 0, .int 0, .int 0, .ref mq10, .int 0, .ref mq11, .ref mq12, .ref mq13, .int 0, .ref mq14, .ref mq15, .int 0]))] H := hP
  have hD : va_D A [(m, .inr (22, [.int 0, .ref mq1, .int 0, .ref mq2, .int 0, .ref mq3, .int 250, .ref mq4, .int 0, .ref mq5, .ref mq6, .ref mq16, .int 0, .ref mq7, .ref mq8, .ref mq9, .int 0, .null, .int 0, .null, .int 0, .int 0, .int 0, .ref mq10, .int 0, .ref mq11, .ref mq12, .ref mq13, .int 0, .ref mq14, .ref mq15, .int 0]))] := hD
  refine lv_istore (lv' := [(5, .int 1), (0, .ref b), (1, .ref x), (2, .ref m), (3, .ref o), (4, .int 0)]) hx hb dL_law_1059 hl (by decide) rfl (fun ls hl => ?_)
  refine lv_aload_n hx hb dL_law_1061 rfl (lv_at hl 3 rfl) ?_
  refine lv_aload_n hx hb dL_law_1062 rfl (lv_at hl 1 rfl) ?_
  refine lv_iload hx hb dL_law_1063 (lv_at hl 5 rfl) ?_
  refine lv_iconst (v := 1) hx hb dL_law_1065 (by decide) ?_
  refine lv_iadd hx hb dL_law_1066 ?_
  refine e_top (y := 1) (by decide) ?_
  refine va_sld hx hb hX hbl hbA hS (vp_in_nI (n := 1) (by decide) (by decide)) dL_law_1067 ?_
  refine e_top (y := x1) e1 ?_
  refine lv_aload_n hx hb dL_law_1068 rfl (lv_at hl 1 rfl) ?_
  refine lv_iload hx hb dL_law_1069 (lv_at hl 5 rfl) ?_
  refine lv_iconst (v := 2) hx hb dL_law_1071 (by decide) ?_
  refine lv_iadd hx hb dL_law_1072 ?_
  refine e_top (y := 2) (by decide) ?_
  refine va_sld hx hb hX hbl hbA hS (vp_in_nI (n := 2) (by decide) (by decide)) dL_law_1073 ?_
  refine e_top (y := x2) e2 ?_
  refine lv_aload_n hx hb dL_law_1074 rfl (lv_at hl 1 rfl) ?_
  refine lv_iload hx hb dL_law_1075 (lv_at hl 5 rfl) ?_
  refine lv_iconst (v := 3) hx hb dL_law_1077 (by decide) ?_
  refine lv_iadd hx hb dL_law_1078 ?_
  refine e_top (y := 3) (by decide) ?_
  refine va_sld hx hb hX hbl hbA hS (vp_in_nI (n := 3) (by decide) (by decide)) dL_law_1079 ?_
  refine e_top (y := x3) e3 ?_
  have hPc := hP.sub (ws' := [(m, .inr (22, [.int 0, .ref mq1, .int 0, .ref mq2, .int 0, .ref mq3, .int 250, .ref mq4, .int 0, .ref mq5, .ref mq6, .ref mq16, .int 0, .ref mq7, .ref mq8, .ref mq9, .int 0, .null, .int 0, .null, .int 0, .int 0, .int 0, .ref mq10, .int 0, .ref mq11, .ref mq12, .ref mq13, .int 0, .ref mq14, .ref mq15, .int 0]))]) [0] rfl
  have hDc := hD.sub (ws' := [(m, .inr (22, [.int 0, .ref mq1, .int 0, .ref mq2, .int 0, .ref mq3, .int 250, .ref mq4, .int 0, .ref mq5, .ref mq6, .ref mq16, .int 0, .ref mq7, .ref mq8, .ref mq9, .int 0, .null, .int 0, .null, .int 0, .int 0, .int 0, .ref mq10, .int 0, .ref mq11, .ref mq12, .ref mq13, .int 0, .ref mq14, .ref mq15, .int 0]))]) [0] (by decide) rfl
  have hFc := va_free (wc := [(m, .inr (22, [.int 0, .ref mq1, .int 0, .ref mq2, .int 0, .ref mq3, .int 250, .ref mq4, .int 0, .ref mq5, .ref mq6, .ref mq16, .int 0, .ref mq7, .ref mq8, .ref mq9, .int 0, .null, .int 0, .null, .int 0, .int 0, .int 0, .ref mq10, .int 0, .ref mq11, .ref mq12, .ref mq13, .int 0, .ref mq14, .ref mq15, .int 0]))]) hD hS hA [0] rfl
  refine va_calli (va_runV (As := [.int x1, .int x2, .int x3]) (rest := []) ⟨hx, hb, hml, hown, hts⟩ (c9_X21_ways_2 l g m mq1 mq2 mq3 mq4 mq5 mq6 mq16 mq7 mq8 mq9 mq10 mq11 mq12 mq13 mq14 mq15 _ x1 x2 x3 (by omega) (by omega) (by omega)) (cwV 3 hts g9_law_161 rfl rfl rfl (by decide +kernel) ⟨Nat.le_of_ble_eq_true rfl, Nat.le_of_ble_eq_true rfl⟩) (mPreV (g := g) (wc := [(m, .inr (22, [.int 0, .ref mq1, .int 0, .ref mq2, .int 0, .ref mq3, .int 250, .ref mq4, .int 0, .ref mq5, .ref mq6, .ref mq16, .int 0, .ref mq7, .ref mq8, .ref mq9, .int 0, .null, .int 0, .null, .int 0, .int 0, .int 0, .ref mq10, .int 0, .ref mq11, .ref mq12, .ref mq13, .int 0, .ref mq14, .ref mq15, .int 0]))]) (C := RX21) (ci := 22) (q0 := 0) hE hS hPc hDc hFc rfl rfl) rfl rfl hl.1 rfl (lv_room (Nat.le_of_ble_eq_true rfl)) dL_law_1080 ⟨Nat.le_of_ble_eq_true rfl, Nat.le_of_ble_eq_true rfl⟩) hS (fun q _ h => hFc q h) hFc (fun r_2 u t H1 locs ht hvm hw hB hz1 hk1 hS => ?_)
  replace hw : 0 = r_2 := Eq.symm hw
  subst hw
  obtain ⟨hP1, hD1⟩ := hB
  rw [ht] at hP1
  obtain ⟨hP, hD⟩ := va_join (wr := []) (w1 := [(m, .inr (22, [.int 1, .ref mq1, .int 0, .ref mq2, .int 0, .ref mq3, .int 250, .ref mq4, .int 0, .ref mq5, .ref mq6, .ref mq16, .int 0, .ref mq7, .ref mq8, .ref mq9, .int 0, .null, .int 0, .null, .int 0, .int 0, .int 0, .ref mq10, .int 0, .ref mq11, .ref mq12, .ref mq13, .int 0, .ref mq14, .ref mq15, .int 0]))]) hP hD [0] [] rfl rfl (by decide) (by decide) hk1 hFc hP1 hD1
  clear hP1 hD1 hPc hDc hFc hk1 hz1 hvm ht
  generalize H1 = H at hP hS ⊢
  have hP : va_P g.1 vwCl [(m, .inr (22, [.int 1, .ref mq1, .int 0, .ref mq2, .int 0, .ref mq3, .int 250, .ref mq4, .int 0, .ref mq5, .ref mq6, .ref mq16, .int 0, .ref mq7, .ref mq8, .ref mq9, .int 0, .null, .int 0, .null, .int 0, .int 0, .int 0, .ref mq10, .int 0, .ref mq11, .ref mq12, .ref mq13, .int 0, .ref mq14, .ref mq15, .int 0]))] H := hP
  have hD : va_D A [(m, .inr (22, [.int 1, .ref mq1, .int 0, .ref mq2, .int 0, .ref mq3, .int 250, .ref mq4, .int 0, .ref mq5, .ref mq6, .ref mq16, .int 0, .ref mq7, .ref mq8, .ref mq9, .int 0, .null, .int 0, .null, .int 0, .int 0, .int 0, .ref mq10, .int 0, .ref mq11, .ref mq12, .ref mq13, .int 0, .ref mq14, .ref mq15, .int 0]))] := hD
  refine lv_istore (lv' := [(6, .int 0), (5, .int 1), (0, .ref b), (1, .ref x), (2, .ref m), (3, .ref o), (4, .int 0)]) hx hb dL_law_1083 hl (by decide) rfl (fun ls hl => ?_)
  refine lv_aload_n hx hb dL_law_1085 rfl (lv_at hl 4 rfl) ?_
  have hPc := hP.sub (ws' := [(m, .inr (22, [.int 1, .ref mq1, .int 0, .ref mq2, .int 0, .ref mq3, .int 250, .ref mq4, .int 0, .ref mq5, .ref mq6, .ref mq16, .int 0, .ref mq7, .ref mq8, .ref mq9, .int 0, .null, .int 0, .null, .int 0, .int 0, .int 0, .ref mq10, .int 0, .ref mq11, .ref mq12, .ref mq13, .int 0, .ref mq14, .ref mq15, .int 0]))]) [0] rfl
  have hDc := hD.sub (ws' := [(m, .inr (22, [.int 1, .ref mq1, .int 0, .ref mq2, .int 0, .ref mq3, .int 250, .ref mq4, .int 0, .ref mq5, .ref mq6, .ref mq16, .int 0, .ref mq7, .ref mq8, .ref mq9, .int 0, .null, .int 0, .null, .int 0, .int 0, .int 0, .ref mq10, .int 0, .ref mq11, .ref mq12, .ref mq13, .int 0, .ref mq14, .ref mq15, .int 0]))]) [0] (by decide) rfl
  have hFc := va_free (wc := [(m, .inr (22, [.int 1, .ref mq1, .int 0, .ref mq2, .int 0, .ref mq3, .int 250, .ref mq4, .int 0, .ref mq5, .ref mq6, .ref mq16, .int 0, .ref mq7, .ref mq8, .ref mq9, .int 0, .null, .int 0, .null, .int 0, .int 0, .int 0, .ref mq10, .int 0, .ref mq11, .ref mq12, .ref mq13, .int 0, .ref mq14, .ref mq15, .int 0]))]) hD hS hA [0] rfl
  refine va_calli (va_runV (As := []) (rest := []) ⟨hx, hb, hml, hown, hts⟩ (c9_X21_thrown_2 l g m mq1 mq2 mq3 mq4 mq5 mq6 mq16 mq7 mq8 mq9 mq10 mq11 mq12 mq13 mq14 mq15 _) (cwV 0 hts g9_law_15 rfl rfl rfl (by decide +kernel) ⟨Nat.le_of_ble_eq_true rfl, Nat.le_of_ble_eq_true rfl⟩) (mPreV (g := g) (wc := [(m, .inr (22, [.int 1, .ref mq1, .int 0, .ref mq2, .int 0, .ref mq3, .int 250, .ref mq4, .int 0, .ref mq5, .ref mq6, .ref mq16, .int 0, .ref mq7, .ref mq8, .ref mq9, .int 0, .null, .int 0, .null, .int 0, .int 0, .int 0, .ref mq10, .int 0, .ref mq11, .ref mq12, .ref mq13, .int 0, .ref mq14, .ref mq15, .int 0]))]) (C := RX21) (ci := 22) (q0 := 0) hE hS hPc hDc hFc rfl rfl) rfl rfl hl.1 rfl (lv_room (Nat.le_of_ble_eq_true rfl)) dL_law_1086 ⟨Nat.le_of_ble_eq_true rfl, Nat.le_of_ble_eq_true rfl⟩) hS (fun q _ h => hFc q h) hFc (fun r_3 u t H1 locs ht hvm hw hB hz1 hk1 hS => ?_)
  replace hw : 1 = r_3 := Eq.symm hw
  subst hw
  obtain ⟨hP1, hD1⟩ := hB
  rw [ht] at hP1
  obtain ⟨hP, hD⟩ := va_join (wr := []) (w1 := [(m, .inr (22, [.int 1, .ref mq1, .int 0, .ref mq2, .int 0, .ref mq3, .int 250, .ref mq4, .int 0, .ref mq5, .ref mq6, .ref mq16, .int 0, .ref mq7, .ref mq8, .ref mq9, .int 0, .null, .int 0, .null, .int 0, .int 0, .int 0, .ref mq10, .int 0, .ref mq11, .ref mq12, .ref mq13, .int 0, .ref mq14, .ref mq15, .int 0]))]) hP hD [0] [] rfl rfl (by decide) (by decide) hk1 hFc hP1 hD1
  clear hP1 hD1 hPc hDc hFc hk1 hz1 hvm ht
  generalize H1 = H at hP hS ⊢
  have hP : va_P g.1 vwCl [(m, .inr (22, [.int 1, .ref mq1, .int 0, .ref mq2, .int 0, .ref mq3, .int 250, .ref mq4, .int 0, .ref mq5, .ref mq6, .ref mq16, .int 0, .ref mq7, .ref mq8, .ref mq9, .int 0, .null, .int 0, .null, .int 0, .int 0, .int 0, .ref mq10, .int 0, .ref mq11, .ref mq12, .ref mq13, .int 0, .ref mq14, .ref mq15, .int 0]))] H := hP
  have hD : va_D A [(m, .inr (22, [.int 1, .ref mq1, .int 0, .ref mq2, .int 0, .ref mq3, .int 250, .ref mq4, .int 0, .ref mq5, .ref mq6, .ref mq16, .int 0, .ref mq7, .ref mq8, .ref mq9, .int 0, .null, .int 0, .null, .int 0, .int 0, .int 0, .ref mq10, .int 0, .ref mq11, .ref mq12, .ref mq13, .int 0, .ref mq14, .ref mq15, .int 0]))] := hD
  refine lv_iload hx hb dL_law_1089 (lv_at hl 1 rfl) ?_
  refine lv_icmp_eq (tgt := 1096) hx hb dL_law_1091 (by decide) (fun _ => ?_) (fun c9 => absurd (by decide) c9)
  refine lv_iload hx hb dL_law_1096 (lv_at hl 1 rfl) ?_
  refine lv_if_ne (tgt := 1113) hx hb dL_law_1098 (by decide) (fun _ => ?_) (fun c9 => absurd c9 (by decide))
  refine lv_goto (tgt := 1368) hx hb dL_law_1113 (by decide) ?_
  subst hAe
  exact law_end C0 hS (lv_sub hl [2, 6] rfl) (Nat.le_of_ble_eq_true rfl) (Nat.le_of_ble_eq_true rfl)
set_option maxHeartbeats 4000000 in
set_option maxRecDepth 100000 in
theorem law_18_in {p : Program} {l : Launch} {e : Env} {s : State} {m9 : MethodId} {below : List Frame} {meth : Method} {c : Code} {g : G9} {b : Nat} {xs : Nat → Int32} (hlt : l.stackTraces = false) (C0 : lw_At p s m9 meth c b 4 xs) (hE : EE g (fun q : Nat => s.heap.size ≤ q) s) (x m o xq1 xq2 xq4 xq5 xq12 xq22 xq23 xq24 xq25 xq20 xq13 xq14 xq26 mq1 mq2 mq3 mq4 mq5 mq6 mq16 mq7 mq8 mq9 mq10 mq11 mq12 mq13 mq14 mq15 : Nat) (x1 : Int32) (e1 : xs 1 = x1) (k_x1 : 0 ≤ x1.toInt ∧ x1.toInt ≤ 3) (x2 : Int32) (e2 : xs 2 = x2) (k_x2 : (-2147483648) ≤ x2.toInt ∧ x2.toInt ≤ (-1)) (x3 : Int32) (e3 : xs 3 = x3) (k_x3 : (-2147483648) ≤ x3.toInt ∧ x3.toInt ≤ 2147483647) : ∀ (H : Heap) (locs : List Loc) (ls : Array Slot), va_P g.1 vwCl [(x, .inr (12, [.ref xq1, .int 0, .ref xq2, .ref xq4, .ref xq5, .ref xq12, .ref xq22, .ref xq23, .int (-1), .ref xq24, .ref xq25, .int 250, .ref xq20, .int 0, .ref xq13, .ref xq14, .ref xq26])), (m, .inr (22, [.int 0, .ref mq1, .int 0, .ref mq2, .int 0, .ref mq3, .int 250, .ref mq4, .int 0, .ref mq5, .ref mq6, .ref mq16, .int 0, .ref mq7, .ref mq8, .ref mq9, .int 0, .null, .int 0, .null, .int 0, .int 0, .int 0, .ref mq10, .int 0, .ref mq11, .ref mq12, .ref mq13, .int 0, .ref mq14, .ref mq15, .int 0]))] H → va_D (fun q : Nat => s.heap.size ≤ q) [(x, .inr (12, [.ref xq1, .int 0, .ref xq2, .ref xq4, .ref xq5, .ref xq12, .ref xq22, .ref xq23, .int (-1), .ref xq24, .ref xq25, .int 250, .ref xq20, .int 0, .ref xq13, .ref xq14, .ref xq26])), (m, .inr (22, [.int 0, .ref mq1, .int 0, .ref mq2, .int 0, .ref mq3, .int 250, .ref mq4, .int 0, .ref mq5, .ref mq6, .ref mq16, .int 0, .ref mq7, .ref mq8, .ref mq9, .int 0, .null, .int 0, .null, .int 0, .int 0, .int 0, .ref mq10, .int 0, .ref mq11, .ref mq12, .ref mq13, .int 0, .ref mq14, .ref mq15, .int 0]))] → va_S (fun q : Nat => s.heap.size ≤ q) s.heap H locs → lv_has ls 7 [(0, .ref b), (1, .ref x), (2, .ref m), (3, .ref o), (4, .int 0)] → W p l e room_1 s m9 #[Value.ref b] below meth c H locs 106 7589 (lw_Z below #[Value.ref b] s) (F0 m9 1036 ls []) := by
  intro H locs ls hP hD hS hl
  obtain ⟨hx, hb, hr, hml, hown, hts0, hX, hbl, hlocks, hgv⟩ := id C0
  have hts : ∀ w ∈ w9_law, w.before #[Value.ref b] s = true := fun w h => hts0 w (w9_law_in w h)
  generalize hAe : (fun q : Nat => s.heap.size ≤ q) = A at hE hD hS
  have hA : ∀ q : Nat, s.heap.size ≤ q → A q := fun q h => by rw [← hAe]; exact h
  have hbA : ¬ A b := by rw [← hAe]; exact Nat.not_le.mpr hbl
  have hK := hE.1
  refine lv_aload_n hx hb dL_law_1036 rfl (lv_at hl 1 rfl) ?_
  refine lv_aload_n hx hb dL_law_1037 rfl (lv_at hl 0 rfl) ?_
  refine lv_iload hx hb dL_law_1038 (lv_at hl 4 rfl) ?_
  refine lv_iconst (v := 1) hx hb dL_law_1040 (by decide) ?_
  refine lv_iadd hx hb dL_law_1041 ?_
  refine e_top (y := 1) (by decide) ?_
  refine va_sld hx hb hX hbl hbA hS (vp_in_nI (n := 1) (by decide) (by decide)) dL_law_1042 ?_
  refine e_top (y := x1) e1 ?_
  refine lv_aload_n hx hb dL_law_1043 rfl (lv_at hl 0 rfl) ?_
  refine lv_iload hx hb dL_law_1044 (lv_at hl 4 rfl) ?_
  refine lv_iconst (v := 2) hx hb dL_law_1046 (by decide) ?_
  refine lv_iadd hx hb dL_law_1047 ?_
  refine e_top (y := 2) (by decide) ?_
  refine va_sld hx hb hX hbl hbA hS (vp_in_nI (n := 2) (by decide) (by decide)) dL_law_1048 ?_
  refine e_top (y := x2) e2 ?_
  refine lv_aload_n hx hb dL_law_1049 rfl (lv_at hl 0 rfl) ?_
  refine lv_iload hx hb dL_law_1050 (lv_at hl 4 rfl) ?_
  refine lv_iconst (v := 3) hx hb dL_law_1052 (by decide) ?_
  refine lv_iadd hx hb dL_law_1053 ?_
  refine e_top (y := 3) (by decide) ?_
  refine va_sld hx hb hX hbl hbA hS (vp_in_nI (n := 3) (by decide) (by decide)) dL_law_1054 ?_
  refine e_top (y := x3) e3 ?_
  refine lv_aload_n hx hb dL_law_1055 rfl (lv_at hl 3 rfl) ?_
  have hPc := hP.sub (ws' := [(x, .inr (12, [.ref xq1, .int 0, .ref xq2, .ref xq4, .ref xq5, .ref xq12, .ref xq22, .ref xq23, .int (-1), .ref xq24, .ref xq25, .int 250, .ref xq20, .int 0, .ref xq13, .ref xq14, .ref xq26]))]) [0] rfl
  have hDc := hD.sub (ws' := [(x, .inr (12, [.ref xq1, .int 0, .ref xq2, .ref xq4, .ref xq5, .ref xq12, .ref xq22, .ref xq23, .int (-1), .ref xq24, .ref xq25, .int 250, .ref xq20, .int 0, .ref xq13, .ref xq14, .ref xq26]))]) [0] (by decide) rfl
  have hFc := va_free (wc := [(x, .inr (12, [.ref xq1, .int 0, .ref xq2, .ref xq4, .ref xq5, .ref xq12, .ref xq22, .ref xq23, .int (-1), .ref xq24, .ref xq25, .int 250, .ref xq20, .int 0, .ref xq13, .ref xq14, .ref xq26]))]) hD hS hA [0] rfl
  refine va_calli (vx_runSW (As := [.ref x, .int x1, .int x2, .int x3, .ref o]) (rest := []) ⟨hx, hb, hml, hown, hts⟩ (c9_L_ways_3 l hlt g x o xq1 xq2 xq4 xq5 xq12 xq22 xq23 xq24 xq25 xq20 xq13 xq14 xq26 _ x1 x2 x3 (by omega) (by omega) (by omega)) (vx_cwSW (bytes := cL_ways) (maxL := 6) (ret := (some .int)) (hh := [(0, 12, 15, 21), (0, 12, 19, 15)]) 5 hts g9_law_162 rfl rfl rfl (by decide +kernel) ⟨Nat.le_of_ble_eq_true rfl, Nat.le_of_ble_eq_true rfl⟩) (mPreS (g := g) (wc := [(x, .inr (12, [.ref xq1, .int 0, .ref xq2, .ref xq4, .ref xq5, .ref xq12, .ref xq22, .ref xq23, .int (-1), .ref xq24, .ref xq25, .int 250, .ref xq20, .int 0, .ref xq13, .ref xq14, .ref xq26]))]) hE hS hPc hDc hFc) rfl rfl hl.1 rfl (lv_room (Nat.le_of_ble_eq_true rfl)) dL_law_1056 ⟨Nat.le_of_ble_eq_true rfl, Nat.le_of_ble_eq_true rfl⟩) hS (fun q _ h => hFc q h) hFc (fun r_1 u t H1 locs ht hvm hw hB hz1 hk1 hS => ?_)
  replace hw : 1 = r_1 := Eq.symm hw
  subst hw
  obtain ⟨hP1, hD1⟩ := hB
  rw [ht] at hP1
  obtain ⟨hP, hD⟩ := va_join (wr := [(m, .inr (22, [.int 0, .ref mq1, .int 0, .ref mq2, .int 0, .ref mq3, .int 250, .ref mq4, .int 0, .ref mq5, .ref mq6, .ref mq16, .int 0, .ref mq7, .ref mq8, .ref mq9, .int 0, .null, .int 0, .null, .int 0, .int 0, .int 0, .ref mq10, .int 0, .ref mq11, .ref mq12, .ref mq13, .int 0, .ref mq14, .ref mq15, .int 0]))]) (w1 := []) hP hD [0] [1] rfl rfl (by decide) (by decide) hk1 hFc hP1 hD1
  clear hP1 hD1 hPc hDc hFc hk1 hz1 hvm ht
  generalize H1 = H at hP hS ⊢
  have hP : va_P g.1 vwCl [(m, .inr (22, [.int 0, .ref mq1, .int 0, .ref mq2, .int 0, .ref mq3, .int 250, .ref mq4, .int 0, .ref mq5, .ref mq6, .ref mq16, .int 0, .ref mq7, .ref mq8, .ref mq9, .int 0, .null, .int 0, .null, .int 0, .int 0, .int 0, .ref mq10, .int 0, .ref mq11, .ref mq12, .ref mq13, .int 0, .ref mq14, .ref mq15, .int 0]))] H := hP
  have hD : va_D A [(m, .inr (22, [.int 0, .ref mq1, .int 0, .ref mq2, .int 0, .ref mq3, .int 250, .ref mq4, .int 0, .ref mq5, .ref mq6, .ref mq16, .int 0, .ref mq7, .ref mq8, .ref mq9, .int 0, .null, .int 0, .null, .int 0, .int 0, .int 0, .ref mq10, .int 0, .ref mq11, .ref mq12, .ref mq13, .int 0, .ref mq14, .ref mq15, .int 0]))] := hD
  refine lv_istore (lv' := [(5, .int 1), (0, .ref b), (1, .ref x), (2, .ref m), (3, .ref o), (4, .int 0)]) hx hb dL_law_1059 hl (by decide) rfl (fun ls hl => ?_)
  refine lv_aload_n hx hb dL_law_1061 rfl (lv_at hl 3 rfl) ?_
  refine lv_aload_n hx hb dL_law_1062 rfl (lv_at hl 1 rfl) ?_
  refine lv_iload hx hb dL_law_1063 (lv_at hl 5 rfl) ?_
  refine lv_iconst (v := 1) hx hb dL_law_1065 (by decide) ?_
  refine lv_iadd hx hb dL_law_1066 ?_
  refine e_top (y := 1) (by decide) ?_
  refine va_sld hx hb hX hbl hbA hS (vp_in_nI (n := 1) (by decide) (by decide)) dL_law_1067 ?_
  refine e_top (y := x1) e1 ?_
  refine lv_aload_n hx hb dL_law_1068 rfl (lv_at hl 1 rfl) ?_
  refine lv_iload hx hb dL_law_1069 (lv_at hl 5 rfl) ?_
  refine lv_iconst (v := 2) hx hb dL_law_1071 (by decide) ?_
  refine lv_iadd hx hb dL_law_1072 ?_
  refine e_top (y := 2) (by decide) ?_
  refine va_sld hx hb hX hbl hbA hS (vp_in_nI (n := 2) (by decide) (by decide)) dL_law_1073 ?_
  refine e_top (y := x2) e2 ?_
  refine lv_aload_n hx hb dL_law_1074 rfl (lv_at hl 1 rfl) ?_
  refine lv_iload hx hb dL_law_1075 (lv_at hl 5 rfl) ?_
  refine lv_iconst (v := 3) hx hb dL_law_1077 (by decide) ?_
  refine lv_iadd hx hb dL_law_1078 ?_
  refine e_top (y := 3) (by decide) ?_
  refine va_sld hx hb hX hbl hbA hS (vp_in_nI (n := 3) (by decide) (by decide)) dL_law_1079 ?_
  refine e_top (y := x3) e3 ?_
  have hPc := hP.sub (ws' := [(m, .inr (22, [.int 0, .ref mq1, .int 0, .ref mq2, .int 0, .ref mq3, .int 250, .ref mq4, .int 0, .ref mq5, .ref mq6, .ref mq16, .int 0, .ref mq7, .ref mq8, .ref mq9, .int 0, .null, .int 0, .null, .int 0, .int 0, .int 0, .ref mq10, .int 0, .ref mq11, .ref mq12, .ref mq13, .int 0, .ref mq14, .ref mq15, .int 0]))]) [0] rfl
  have hDc := hD.sub (ws' := [(m, .inr (22, [.int 0, .ref mq1, .int 0, .ref mq2, .int 0, .ref mq3, .int 250, .ref mq4, .int 0, .ref mq5, .ref mq6, .ref mq16, .int 0, .ref mq7, .ref mq8, .ref mq9, .int 0, .null, .int 0, .null, .int 0, .int 0, .int 0, .ref mq10, .int 0, .ref mq11, .ref mq12, .ref mq13, .int 0, .ref mq14, .ref mq15, .int 0]))]) [0] (by decide) rfl
  have hFc := va_free (wc := [(m, .inr (22, [.int 0, .ref mq1, .int 0, .ref mq2, .int 0, .ref mq3, .int 250, .ref mq4, .int 0, .ref mq5, .ref mq6, .ref mq16, .int 0, .ref mq7, .ref mq8, .ref mq9, .int 0, .null, .int 0, .null, .int 0, .int 0, .int 0, .ref mq10, .int 0, .ref mq11, .ref mq12, .ref mq13, .int 0, .ref mq14, .ref mq15, .int 0]))]) hD hS hA [0] rfl
  refine va_calli (va_runV (As := [.int x1, .int x2, .int x3]) (rest := []) ⟨hx, hb, hml, hown, hts⟩ (c9_X21_ways_3 l g m mq1 mq2 mq3 mq4 mq5 mq6 mq16 mq7 mq8 mq9 mq10 mq11 mq12 mq13 mq14 mq15 _ x1 x2 x3 (by omega) (by omega) (by omega)) (cwV 3 hts g9_law_163 rfl rfl rfl (by decide +kernel) ⟨Nat.le_of_ble_eq_true rfl, Nat.le_of_ble_eq_true rfl⟩) (mPreV (g := g) (wc := [(m, .inr (22, [.int 0, .ref mq1, .int 0, .ref mq2, .int 0, .ref mq3, .int 250, .ref mq4, .int 0, .ref mq5, .ref mq6, .ref mq16, .int 0, .ref mq7, .ref mq8, .ref mq9, .int 0, .null, .int 0, .null, .int 0, .int 0, .int 0, .ref mq10, .int 0, .ref mq11, .ref mq12, .ref mq13, .int 0, .ref mq14, .ref mq15, .int 0]))]) (C := RX21) (ci := 22) (q0 := 0) hE hS hPc hDc hFc rfl rfl) rfl rfl hl.1 rfl (lv_room (Nat.le_of_ble_eq_true rfl)) dL_law_1080 ⟨Nat.le_of_ble_eq_true rfl, Nat.le_of_ble_eq_true rfl⟩) hS (fun q _ h => hFc q h) hFc (fun r_2 u t H1 locs ht hvm hw hB hz1 hk1 hS => ?_)
  replace hw : 0 = r_2 := Eq.symm hw
  subst hw
  obtain ⟨hP1, hD1⟩ := hB
  rw [ht] at hP1
  obtain ⟨hP, hD⟩ := va_join (wr := []) (w1 := [(m, .inr (22, [.int 1, .ref mq1, .int 0, .ref mq2, .int 0, .ref mq3, .int 250, .ref mq4, .int 0, .ref mq5, .ref mq6, .ref mq16, .int 0, .ref mq7, .ref mq8, .ref mq9, .int 0, .null, .int 0, .null, .int 0, .int 0, .int 0, .ref mq10, .int 0, .ref mq11, .ref mq12, .ref mq13, .int 0, .ref mq14, .ref mq15, .int 0]))]) hP hD [0] [] rfl rfl (by decide) (by decide) hk1 hFc hP1 hD1
  clear hP1 hD1 hPc hDc hFc hk1 hz1 hvm ht
  generalize H1 = H at hP hS ⊢
  have hP : va_P g.1 vwCl [(m, .inr (22, [.int 1, .ref mq1, .int 0, .ref mq2, .int 0, .ref mq3, .int 250, .ref mq4, .int 0, .ref mq5, .ref mq6, .ref mq16, .int 0, .ref mq7, .ref mq8, .ref mq9, .int 0, .null, .int 0, .null, .int 0, .int 0, .int 0, .ref mq10, .int 0, .ref mq11, .ref mq12, .ref mq13, .int 0, .ref mq14, .ref mq15, .int 0]))] H := hP
  have hD : va_D A [(m, .inr (22, [.int 1, .ref mq1, .int 0, .ref mq2, .int 0, .ref mq3, .int 250, .ref mq4, .int 0, .ref mq5, .ref mq6, .ref mq16, .int 0, .ref mq7, .ref mq8, .ref mq9, .int 0, .null, .int 0, .null, .int 0, .int 0, .int 0, .ref mq10, .int 0, .ref mq11, .ref mq12, .ref mq13, .int 0, .ref mq14, .ref mq15, .int 0]))] := hD
  refine lv_istore (lv' := [(6, .int 0), (5, .int 1), (0, .ref b), (1, .ref x), (2, .ref m), (3, .ref o), (4, .int 0)]) hx hb dL_law_1083 hl (by decide) rfl (fun ls hl => ?_)
  refine lv_aload_n hx hb dL_law_1085 rfl (lv_at hl 4 rfl) ?_
  have hPc := hP.sub (ws' := [(m, .inr (22, [.int 1, .ref mq1, .int 0, .ref mq2, .int 0, .ref mq3, .int 250, .ref mq4, .int 0, .ref mq5, .ref mq6, .ref mq16, .int 0, .ref mq7, .ref mq8, .ref mq9, .int 0, .null, .int 0, .null, .int 0, .int 0, .int 0, .ref mq10, .int 0, .ref mq11, .ref mq12, .ref mq13, .int 0, .ref mq14, .ref mq15, .int 0]))]) [0] rfl
  have hDc := hD.sub (ws' := [(m, .inr (22, [.int 1, .ref mq1, .int 0, .ref mq2, .int 0, .ref mq3, .int 250, .ref mq4, .int 0, .ref mq5, .ref mq6, .ref mq16, .int 0, .ref mq7, .ref mq8, .ref mq9, .int 0, .null, .int 0, .null, .int 0, .int 0, .int 0, .ref mq10, .int 0, .ref mq11, .ref mq12, .ref mq13, .int 0, .ref mq14, .ref mq15, .int 0]))]) [0] (by decide) rfl
  have hFc := va_free (wc := [(m, .inr (22, [.int 1, .ref mq1, .int 0, .ref mq2, .int 0, .ref mq3, .int 250, .ref mq4, .int 0, .ref mq5, .ref mq6, .ref mq16, .int 0, .ref mq7, .ref mq8, .ref mq9, .int 0, .null, .int 0, .null, .int 0, .int 0, .int 0, .ref mq10, .int 0, .ref mq11, .ref mq12, .ref mq13, .int 0, .ref mq14, .ref mq15, .int 0]))]) hD hS hA [0] rfl
  refine va_calli (va_runV (As := []) (rest := []) ⟨hx, hb, hml, hown, hts⟩ (c9_X21_thrown_2 l g m mq1 mq2 mq3 mq4 mq5 mq6 mq16 mq7 mq8 mq9 mq10 mq11 mq12 mq13 mq14 mq15 _) (cwV 0 hts g9_law_15 rfl rfl rfl (by decide +kernel) ⟨Nat.le_of_ble_eq_true rfl, Nat.le_of_ble_eq_true rfl⟩) (mPreV (g := g) (wc := [(m, .inr (22, [.int 1, .ref mq1, .int 0, .ref mq2, .int 0, .ref mq3, .int 250, .ref mq4, .int 0, .ref mq5, .ref mq6, .ref mq16, .int 0, .ref mq7, .ref mq8, .ref mq9, .int 0, .null, .int 0, .null, .int 0, .int 0, .int 0, .ref mq10, .int 0, .ref mq11, .ref mq12, .ref mq13, .int 0, .ref mq14, .ref mq15, .int 0]))]) (C := RX21) (ci := 22) (q0 := 0) hE hS hPc hDc hFc rfl rfl) rfl rfl hl.1 rfl (lv_room (Nat.le_of_ble_eq_true rfl)) dL_law_1086 ⟨Nat.le_of_ble_eq_true rfl, Nat.le_of_ble_eq_true rfl⟩) hS (fun q _ h => hFc q h) hFc (fun r_3 u t H1 locs ht hvm hw hB hz1 hk1 hS => ?_)
  replace hw : 1 = r_3 := Eq.symm hw
  subst hw
  obtain ⟨hP1, hD1⟩ := hB
  rw [ht] at hP1
  obtain ⟨hP, hD⟩ := va_join (wr := []) (w1 := [(m, .inr (22, [.int 1, .ref mq1, .int 0, .ref mq2, .int 0, .ref mq3, .int 250, .ref mq4, .int 0, .ref mq5, .ref mq6, .ref mq16, .int 0, .ref mq7, .ref mq8, .ref mq9, .int 0, .null, .int 0, .null, .int 0, .int 0, .int 0, .ref mq10, .int 0, .ref mq11, .ref mq12, .ref mq13, .int 0, .ref mq14, .ref mq15, .int 0]))]) hP hD [0] [] rfl rfl (by decide) (by decide) hk1 hFc hP1 hD1
  clear hP1 hD1 hPc hDc hFc hk1 hz1 hvm ht
  generalize H1 = H at hP hS ⊢
  have hP : va_P g.1 vwCl [(m, .inr (22, [.int 1, .ref mq1, .int 0, .ref mq2, .int 0, .ref mq3, .int 250, .ref mq4, .int 0, .ref mq5, .ref mq6, .ref mq16, .int 0, .ref mq7, .ref mq8, .ref mq9, .int 0, .null, .int 0, .null, .int 0, .int 0, .int 0, .ref mq10, .int 0, .ref mq11, .ref mq12, .ref mq13, .int 0, .ref mq14, .ref mq15, .int 0]))] H := hP
  have hD : va_D A [(m, .inr (22, [.int 1, .ref mq1, .int 0, .ref mq2, .int 0, .ref mq3, .int 250, .ref mq4, .int 0, .ref mq5, .ref mq6, .ref mq16, .int 0, .ref mq7, .ref mq8, .ref mq9, .int 0, .null, .int 0, .null, .int 0, .int 0, .int 0, .ref mq10, .int 0, .ref mq11, .ref mq12, .ref mq13, .int 0, .ref mq14, .ref mq15, .int 0]))] := hD
  refine lv_iload hx hb dL_law_1089 (lv_at hl 1 rfl) ?_
  refine lv_icmp_eq (tgt := 1096) hx hb dL_law_1091 (by decide) (fun _ => ?_) (fun c9 => absurd (by decide) c9)
  refine lv_iload hx hb dL_law_1096 (lv_at hl 1 rfl) ?_
  refine lv_if_ne (tgt := 1113) hx hb dL_law_1098 (by decide) (fun _ => ?_) (fun c9 => absurd c9 (by decide))
  refine lv_goto (tgt := 1368) hx hb dL_law_1113 (by decide) ?_
  subst hAe
  exact law_end C0 hS (lv_sub hl [2, 6] rfl) (Nat.le_of_ble_eq_true rfl) (Nat.le_of_ble_eq_true rfl)
set_option maxHeartbeats 4000000 in
set_option maxRecDepth 100000 in
theorem law_18_ip {p : Program} {l : Launch} {e : Env} {s : State} {m9 : MethodId} {below : List Frame} {meth : Method} {c : Code} {g : G9} {b : Nat} {xs : Nat → Int32} (hlt : l.stackTraces = false) (C0 : lw_At p s m9 meth c b 4 xs) (hE : EE g (fun q : Nat => s.heap.size ≤ q) s) (x m o xq1 xq2 xq4 xq5 xq12 xq22 xq23 xq24 xq25 xq20 xq13 xq14 xq26 xq3 xq27 mq1 mq2 mq3 mq4 mq5 mq6 mq16 mq7 mq8 mq9 mq10 mq11 mq12 mq13 mq14 mq15 : Nat) (x1 : Int32) (e1 : xs 1 = x1) (k_x1 : 0 ≤ x1.toInt ∧ x1.toInt ≤ 3) (x2 : Int32) (e2 : xs 2 = x2) (k_x2 : 1 ≤ x2.toInt ∧ x2.toInt ≤ 2147483647) (x3 : Int32) (e3 : xs 3 = x3) (k_x3 : (-2147483648) ≤ x3.toInt ∧ x3.toInt ≤ 2147483647) : ∀ (H : Heap) (locs : List Loc) (ls : Array Slot), va_P g.1 vwCl [(x, .inr (12, [.ref xq1, .int 0, .ref xq2, .ref xq4, .ref xq5, .ref xq12, .ref xq22, .ref xq23, .int (-1), .ref xq24, .ref xq25, .int 250, .ref xq20, .int 0, .ref xq13, .ref xq14, .ref xq26])), (xq2, .inr (11, [.ref xq3])), (xq3, .inr (10, [.int 1, .int 20, .ref xq27, .int 0])), (m, .inr (22, [.int 0, .ref mq1, .int 0, .ref mq2, .int 0, .ref mq3, .int 250, .ref mq4, .int 0, .ref mq5, .ref mq6, .ref mq16, .int 0, .ref mq7, .ref mq8, .ref mq9, .int 0, .null, .int 0, .null, .int 0, .int 0, .int 0, .ref mq10, .int 0, .ref mq11, .ref mq12, .ref mq13, .int 0, .ref mq14, .ref mq15, .int 0]))] H → va_D (fun q : Nat => s.heap.size ≤ q) [(x, .inr (12, [.ref xq1, .int 0, .ref xq2, .ref xq4, .ref xq5, .ref xq12, .ref xq22, .ref xq23, .int (-1), .ref xq24, .ref xq25, .int 250, .ref xq20, .int 0, .ref xq13, .ref xq14, .ref xq26])), (xq2, .inr (11, [.ref xq3])), (xq3, .inr (10, [.int 1, .int 20, .ref xq27, .int 0])), (m, .inr (22, [.int 0, .ref mq1, .int 0, .ref mq2, .int 0, .ref mq3, .int 250, .ref mq4, .int 0, .ref mq5, .ref mq6, .ref mq16, .int 0, .ref mq7, .ref mq8, .ref mq9, .int 0, .null, .int 0, .null, .int 0, .int 0, .int 0, .ref mq10, .int 0, .ref mq11, .ref mq12, .ref mq13, .int 0, .ref mq14, .ref mq15, .int 0]))] → va_S (fun q : Nat => s.heap.size ≤ q) s.heap H locs → lv_has ls 7 [(0, .ref b), (1, .ref x), (2, .ref m), (3, .ref o), (4, .int 0)] → W p l e room_1 s m9 #[Value.ref b] below meth c H locs 106 7589 (lw_Z below #[Value.ref b] s) (F0 m9 1036 ls []) := by
  intro H locs ls hP hD hS hl
  obtain ⟨hx, hb, hr, hml, hown, hts0, hX, hbl, hlocks, hgv⟩ := id C0
  have hts : ∀ w ∈ w9_law, w.before #[Value.ref b] s = true := fun w h => hts0 w (w9_law_in w h)
  generalize hAe : (fun q : Nat => s.heap.size ≤ q) = A at hE hD hS
  have hA : ∀ q : Nat, s.heap.size ≤ q → A q := fun q h => by rw [← hAe]; exact h
  have hbA : ¬ A b := by rw [← hAe]; exact Nat.not_le.mpr hbl
  have hK := hE.1
  refine lv_aload_n hx hb dL_law_1036 rfl (lv_at hl 1 rfl) ?_
  refine lv_aload_n hx hb dL_law_1037 rfl (lv_at hl 0 rfl) ?_
  refine lv_iload hx hb dL_law_1038 (lv_at hl 4 rfl) ?_
  refine lv_iconst (v := 1) hx hb dL_law_1040 (by decide) ?_
  refine lv_iadd hx hb dL_law_1041 ?_
  refine e_top (y := 1) (by decide) ?_
  refine va_sld hx hb hX hbl hbA hS (vp_in_nI (n := 1) (by decide) (by decide)) dL_law_1042 ?_
  refine e_top (y := x1) e1 ?_
  refine lv_aload_n hx hb dL_law_1043 rfl (lv_at hl 0 rfl) ?_
  refine lv_iload hx hb dL_law_1044 (lv_at hl 4 rfl) ?_
  refine lv_iconst (v := 2) hx hb dL_law_1046 (by decide) ?_
  refine lv_iadd hx hb dL_law_1047 ?_
  refine e_top (y := 2) (by decide) ?_
  refine va_sld hx hb hX hbl hbA hS (vp_in_nI (n := 2) (by decide) (by decide)) dL_law_1048 ?_
  refine e_top (y := x2) e2 ?_
  refine lv_aload_n hx hb dL_law_1049 rfl (lv_at hl 0 rfl) ?_
  refine lv_iload hx hb dL_law_1050 (lv_at hl 4 rfl) ?_
  refine lv_iconst (v := 3) hx hb dL_law_1052 (by decide) ?_
  refine lv_iadd hx hb dL_law_1053 ?_
  refine e_top (y := 3) (by decide) ?_
  refine va_sld hx hb hX hbl hbA hS (vp_in_nI (n := 3) (by decide) (by decide)) dL_law_1054 ?_
  refine e_top (y := x3) e3 ?_
  refine lv_aload_n hx hb dL_law_1055 rfl (lv_at hl 3 rfl) ?_
  have hPc := hP.sub (ws' := [(x, .inr (12, [.ref xq1, .int 0, .ref xq2, .ref xq4, .ref xq5, .ref xq12, .ref xq22, .ref xq23, .int (-1), .ref xq24, .ref xq25, .int 250, .ref xq20, .int 0, .ref xq13, .ref xq14, .ref xq26])), (xq2, .inr (11, [.ref xq3])), (xq3, .inr (10, [.int 1, .int 20, .ref xq27, .int 0]))]) [0, 1, 2] rfl
  have hDc := hD.sub (ws' := [(x, .inr (12, [.ref xq1, .int 0, .ref xq2, .ref xq4, .ref xq5, .ref xq12, .ref xq22, .ref xq23, .int (-1), .ref xq24, .ref xq25, .int 250, .ref xq20, .int 0, .ref xq13, .ref xq14, .ref xq26])), (xq2, .inr (11, [.ref xq3])), (xq3, .inr (10, [.int 1, .int 20, .ref xq27, .int 0]))]) [0, 1, 2] (by decide) rfl
  have hFc := va_free (wc := [(x, .inr (12, [.ref xq1, .int 0, .ref xq2, .ref xq4, .ref xq5, .ref xq12, .ref xq22, .ref xq23, .int (-1), .ref xq24, .ref xq25, .int 250, .ref xq20, .int 0, .ref xq13, .ref xq14, .ref xq26])), (xq2, .inr (11, [.ref xq3])), (xq3, .inr (10, [.int 1, .int 20, .ref xq27, .int 0]))]) hD hS hA [0, 1, 2] rfl
  refine va_calli (vx_runSW (As := [.ref x, .int x1, .int x2, .int x3, .ref o]) (rest := []) ⟨hx, hb, hml, hown, hts⟩ (c9_L_ways_4 l hlt g x o xq1 xq2 xq4 xq5 xq12 xq22 xq23 xq24 xq25 xq20 xq13 xq14 xq26 xq3 xq27 _ x1 x2 x3 (by omega) (by omega) (by omega)) (vx_cwSW (bytes := cL_ways) (maxL := 6) (ret := (some .int)) (hh := [(0, 12, 15, 21), (0, 12, 19, 15)]) 5 hts g9_law_164 rfl rfl rfl (by decide +kernel) ⟨Nat.le_of_ble_eq_true rfl, Nat.le_of_ble_eq_true rfl⟩) (mPreS (g := g) (wc := [(x, .inr (12, [.ref xq1, .int 0, .ref xq2, .ref xq4, .ref xq5, .ref xq12, .ref xq22, .ref xq23, .int (-1), .ref xq24, .ref xq25, .int 250, .ref xq20, .int 0, .ref xq13, .ref xq14, .ref xq26])), (xq2, .inr (11, [.ref xq3])), (xq3, .inr (10, [.int 1, .int 20, .ref xq27, .int 0]))]) hE hS hPc hDc hFc) rfl rfl hl.1 rfl (lv_room (Nat.le_of_ble_eq_true rfl)) dL_law_1056 ⟨Nat.le_of_ble_eq_true rfl, Nat.le_of_ble_eq_true rfl⟩) hS (fun q _ h => hFc q h) hFc (fun r_1 u t H1 locs ht hvm hw hB hz1 hk1 hS => ?_)
  replace hw : 1 = r_1 := Eq.symm hw
  subst hw
  obtain ⟨hP1, hD1⟩ := hB
  rw [ht] at hP1
  obtain ⟨hP, hD⟩ := va_join (wr := [(m, .inr (22, [.int 0, .ref mq1, .int 0, .ref mq2, .int 0, .ref mq3, .int 250, .ref mq4, .int 0, .ref mq5, .ref mq6, .ref mq16, .int 0, .ref mq7, .ref mq8, .ref mq9, .int 0, .null, .int 0, .null, .int 0, .int 0, .int 0, .ref mq10, .int 0, .ref mq11, .ref mq12, .ref mq13, .int 0, .ref mq14, .ref mq15, .int 0]))]) (w1 := []) hP hD [0, 1, 2] [3] rfl rfl (by decide) (by decide) hk1 hFc hP1 hD1
  clear hP1 hD1 hPc hDc hFc hk1 hz1 hvm ht
  generalize H1 = H at hP hS ⊢
  have hP : va_P g.1 vwCl [(m, .inr (22, [.int 0, .ref mq1, .int 0, .ref mq2, .int 0, .ref mq3, .int 250, .ref mq4, .int 0, .ref mq5, .ref mq6, .ref mq16, .int 0, .ref mq7, .ref mq8, .ref mq9, .int 0, .null, .int 0, .null, .int 0, .int 0, .int 0, .ref mq10, .int 0, .ref mq11, .ref mq12, .ref mq13, .int 0, .ref mq14, .ref mq15, .int 0]))] H := hP
  have hD : va_D A [(m, .inr (22, [.int 0, .ref mq1, .int 0, .ref mq2, .int 0, .ref mq3, .int 250, .ref mq4, .int 0, .ref mq5, .ref mq6, .ref mq16, .int 0, .ref mq7, .ref mq8, .ref mq9, .int 0, .null, .int 0, .null, .int 0, .int 0, .int 0, .ref mq10, .int 0, .ref mq11, .ref mq12, .ref mq13, .int 0, .ref mq14, .ref mq15, .int 0]))] := hD
  refine lv_istore (lv' := [(5, .int 1), (0, .ref b), (1, .ref x), (2, .ref m), (3, .ref o), (4, .int 0)]) hx hb dL_law_1059 hl (by decide) rfl (fun ls hl => ?_)
  refine lv_aload_n hx hb dL_law_1061 rfl (lv_at hl 3 rfl) ?_
  refine lv_aload_n hx hb dL_law_1062 rfl (lv_at hl 1 rfl) ?_
  refine lv_iload hx hb dL_law_1063 (lv_at hl 5 rfl) ?_
  refine lv_iconst (v := 1) hx hb dL_law_1065 (by decide) ?_
  refine lv_iadd hx hb dL_law_1066 ?_
  refine e_top (y := 1) (by decide) ?_
  refine va_sld hx hb hX hbl hbA hS (vp_in_nI (n := 1) (by decide) (by decide)) dL_law_1067 ?_
  refine e_top (y := x1) e1 ?_
  refine lv_aload_n hx hb dL_law_1068 rfl (lv_at hl 1 rfl) ?_
  refine lv_iload hx hb dL_law_1069 (lv_at hl 5 rfl) ?_
  refine lv_iconst (v := 2) hx hb dL_law_1071 (by decide) ?_
  refine lv_iadd hx hb dL_law_1072 ?_
  refine e_top (y := 2) (by decide) ?_
  refine va_sld hx hb hX hbl hbA hS (vp_in_nI (n := 2) (by decide) (by decide)) dL_law_1073 ?_
  refine e_top (y := x2) e2 ?_
  refine lv_aload_n hx hb dL_law_1074 rfl (lv_at hl 1 rfl) ?_
  refine lv_iload hx hb dL_law_1075 (lv_at hl 5 rfl) ?_
  refine lv_iconst (v := 3) hx hb dL_law_1077 (by decide) ?_
  refine lv_iadd hx hb dL_law_1078 ?_
  refine e_top (y := 3) (by decide) ?_
  refine va_sld hx hb hX hbl hbA hS (vp_in_nI (n := 3) (by decide) (by decide)) dL_law_1079 ?_
  refine e_top (y := x3) e3 ?_
  have hPc := hP.sub (ws' := [(m, .inr (22, [.int 0, .ref mq1, .int 0, .ref mq2, .int 0, .ref mq3, .int 250, .ref mq4, .int 0, .ref mq5, .ref mq6, .ref mq16, .int 0, .ref mq7, .ref mq8, .ref mq9, .int 0, .null, .int 0, .null, .int 0, .int 0, .int 0, .ref mq10, .int 0, .ref mq11, .ref mq12, .ref mq13, .int 0, .ref mq14, .ref mq15, .int 0]))]) [0] rfl
  have hDc := hD.sub (ws' := [(m, .inr (22, [.int 0, .ref mq1, .int 0, .ref mq2, .int 0, .ref mq3, .int 250, .ref mq4, .int 0, .ref mq5, .ref mq6, .ref mq16, .int 0, .ref mq7, .ref mq8, .ref mq9, .int 0, .null, .int 0, .null, .int 0, .int 0, .int 0, .ref mq10, .int 0, .ref mq11, .ref mq12, .ref mq13, .int 0, .ref mq14, .ref mq15, .int 0]))]) [0] (by decide) rfl
  have hFc := va_free (wc := [(m, .inr (22, [.int 0, .ref mq1, .int 0, .ref mq2, .int 0, .ref mq3, .int 250, .ref mq4, .int 0, .ref mq5, .ref mq6, .ref mq16, .int 0, .ref mq7, .ref mq8, .ref mq9, .int 0, .null, .int 0, .null, .int 0, .int 0, .int 0, .ref mq10, .int 0, .ref mq11, .ref mq12, .ref mq13, .int 0, .ref mq14, .ref mq15, .int 0]))]) hD hS hA [0] rfl
  refine va_calli (va_runV (As := [.int x1, .int x2, .int x3]) (rest := []) ⟨hx, hb, hml, hown, hts⟩ (c9_X21_ways_4 l g m mq1 mq2 mq3 mq4 mq5 mq6 mq16 mq7 mq8 mq9 mq10 mq11 mq12 mq13 mq14 mq15 _ x1 x2 x3 (by omega) (by omega) (by omega)) (cwV 3 hts g9_law_165 rfl rfl rfl (by decide +kernel) ⟨Nat.le_of_ble_eq_true rfl, Nat.le_of_ble_eq_true rfl⟩) (mPreV (g := g) (wc := [(m, .inr (22, [.int 0, .ref mq1, .int 0, .ref mq2, .int 0, .ref mq3, .int 250, .ref mq4, .int 0, .ref mq5, .ref mq6, .ref mq16, .int 0, .ref mq7, .ref mq8, .ref mq9, .int 0, .null, .int 0, .null, .int 0, .int 0, .int 0, .ref mq10, .int 0, .ref mq11, .ref mq12, .ref mq13, .int 0, .ref mq14, .ref mq15, .int 0]))]) (C := RX21) (ci := 22) (q0 := 0) hE hS hPc hDc hFc rfl rfl) rfl rfl hl.1 rfl (lv_room (Nat.le_of_ble_eq_true rfl)) dL_law_1080 ⟨Nat.le_of_ble_eq_true rfl, Nat.le_of_ble_eq_true rfl⟩) hS (fun q _ h => hFc q h) hFc (fun r_2 u t H1 locs ht hvm hw hB hz1 hk1 hS => ?_)
  replace hw : 0 = r_2 := Eq.symm hw
  subst hw
  obtain ⟨hP1, hD1⟩ := hB
  rw [ht] at hP1
  obtain ⟨hP, hD⟩ := va_join (wr := []) (w1 := [(m, .inr (22, [.int 1, .ref mq1, .int 0, .ref mq2, .int 0, .ref mq3, .int 250, .ref mq4, .int 0, .ref mq5, .ref mq6, .ref mq16, .int 0, .ref mq7, .ref mq8, .ref mq9, .int 0, .null, .int 0, .null, .int 0, .int 0, .int 0, .ref mq10, .int 0, .ref mq11, .ref mq12, .ref mq13, .int 0, .ref mq14, .ref mq15, .int 0]))]) hP hD [0] [] rfl rfl (by decide) (by decide) hk1 hFc hP1 hD1
  clear hP1 hD1 hPc hDc hFc hk1 hz1 hvm ht
  generalize H1 = H at hP hS ⊢
  have hP : va_P g.1 vwCl [(m, .inr (22, [.int 1, .ref mq1, .int 0, .ref mq2, .int 0, .ref mq3, .int 250, .ref mq4, .int 0, .ref mq5, .ref mq6, .ref mq16, .int 0, .ref mq7, .ref mq8, .ref mq9, .int 0, .null, .int 0, .null, .int 0, .int 0, .int 0, .ref mq10, .int 0, .ref mq11, .ref mq12, .ref mq13, .int 0, .ref mq14, .ref mq15, .int 0]))] H := hP
  have hD : va_D A [(m, .inr (22, [.int 1, .ref mq1, .int 0, .ref mq2, .int 0, .ref mq3, .int 250, .ref mq4, .int 0, .ref mq5, .ref mq6, .ref mq16, .int 0, .ref mq7, .ref mq8, .ref mq9, .int 0, .null, .int 0, .null, .int 0, .int 0, .int 0, .ref mq10, .int 0, .ref mq11, .ref mq12, .ref mq13, .int 0, .ref mq14, .ref mq15, .int 0]))] := hD
  refine lv_istore (lv' := [(6, .int 0), (5, .int 1), (0, .ref b), (1, .ref x), (2, .ref m), (3, .ref o), (4, .int 0)]) hx hb dL_law_1083 hl (by decide) rfl (fun ls hl => ?_)
  refine lv_aload_n hx hb dL_law_1085 rfl (lv_at hl 4 rfl) ?_
  have hPc := hP.sub (ws' := [(m, .inr (22, [.int 1, .ref mq1, .int 0, .ref mq2, .int 0, .ref mq3, .int 250, .ref mq4, .int 0, .ref mq5, .ref mq6, .ref mq16, .int 0, .ref mq7, .ref mq8, .ref mq9, .int 0, .null, .int 0, .null, .int 0, .int 0, .int 0, .ref mq10, .int 0, .ref mq11, .ref mq12, .ref mq13, .int 0, .ref mq14, .ref mq15, .int 0]))]) [0] rfl
  have hDc := hD.sub (ws' := [(m, .inr (22, [.int 1, .ref mq1, .int 0, .ref mq2, .int 0, .ref mq3, .int 250, .ref mq4, .int 0, .ref mq5, .ref mq6, .ref mq16, .int 0, .ref mq7, .ref mq8, .ref mq9, .int 0, .null, .int 0, .null, .int 0, .int 0, .int 0, .ref mq10, .int 0, .ref mq11, .ref mq12, .ref mq13, .int 0, .ref mq14, .ref mq15, .int 0]))]) [0] (by decide) rfl
  have hFc := va_free (wc := [(m, .inr (22, [.int 1, .ref mq1, .int 0, .ref mq2, .int 0, .ref mq3, .int 250, .ref mq4, .int 0, .ref mq5, .ref mq6, .ref mq16, .int 0, .ref mq7, .ref mq8, .ref mq9, .int 0, .null, .int 0, .null, .int 0, .int 0, .int 0, .ref mq10, .int 0, .ref mq11, .ref mq12, .ref mq13, .int 0, .ref mq14, .ref mq15, .int 0]))]) hD hS hA [0] rfl
  refine va_calli (va_runV (As := []) (rest := []) ⟨hx, hb, hml, hown, hts⟩ (c9_X21_thrown_2 l g m mq1 mq2 mq3 mq4 mq5 mq6 mq16 mq7 mq8 mq9 mq10 mq11 mq12 mq13 mq14 mq15 _) (cwV 0 hts g9_law_15 rfl rfl rfl (by decide +kernel) ⟨Nat.le_of_ble_eq_true rfl, Nat.le_of_ble_eq_true rfl⟩) (mPreV (g := g) (wc := [(m, .inr (22, [.int 1, .ref mq1, .int 0, .ref mq2, .int 0, .ref mq3, .int 250, .ref mq4, .int 0, .ref mq5, .ref mq6, .ref mq16, .int 0, .ref mq7, .ref mq8, .ref mq9, .int 0, .null, .int 0, .null, .int 0, .int 0, .int 0, .ref mq10, .int 0, .ref mq11, .ref mq12, .ref mq13, .int 0, .ref mq14, .ref mq15, .int 0]))]) (C := RX21) (ci := 22) (q0 := 0) hE hS hPc hDc hFc rfl rfl) rfl rfl hl.1 rfl (lv_room (Nat.le_of_ble_eq_true rfl)) dL_law_1086 ⟨Nat.le_of_ble_eq_true rfl, Nat.le_of_ble_eq_true rfl⟩) hS (fun q _ h => hFc q h) hFc (fun r_3 u t H1 locs ht hvm hw hB hz1 hk1 hS => ?_)
  replace hw : 1 = r_3 := Eq.symm hw
  subst hw
  obtain ⟨hP1, hD1⟩ := hB
  rw [ht] at hP1
  obtain ⟨hP, hD⟩ := va_join (wr := []) (w1 := [(m, .inr (22, [.int 1, .ref mq1, .int 0, .ref mq2, .int 0, .ref mq3, .int 250, .ref mq4, .int 0, .ref mq5, .ref mq6, .ref mq16, .int 0, .ref mq7, .ref mq8, .ref mq9, .int 0, .null, .int 0, .null, .int 0, .int 0, .int 0, .ref mq10, .int 0, .ref mq11, .ref mq12, .ref mq13, .int 0, .ref mq14, .ref mq15, .int 0]))]) hP hD [0] [] rfl rfl (by decide) (by decide) hk1 hFc hP1 hD1
  clear hP1 hD1 hPc hDc hFc hk1 hz1 hvm ht
  generalize H1 = H at hP hS ⊢
  have hP : va_P g.1 vwCl [(m, .inr (22, [.int 1, .ref mq1, .int 0, .ref mq2, .int 0, .ref mq3, .int 250, .ref mq4, .int 0, .ref mq5, .ref mq6, .ref mq16, .int 0, .ref mq7, .ref mq8, .ref mq9, .int 0, .null, .int 0, .null, .int 0, .int 0, .int 0, .ref mq10, .int 0, .ref mq11, .ref mq12, .ref mq13, .int 0, .ref mq14, .ref mq15, .int 0]))] H := hP
  have hD : va_D A [(m, .inr (22, [.int 1, .ref mq1, .int 0, .ref mq2, .int 0, .ref mq3, .int 250, .ref mq4, .int 0, .ref mq5, .ref mq6, .ref mq16, .int 0, .ref mq7, .ref mq8, .ref mq9, .int 0, .null, .int 0, .null, .int 0, .int 0, .int 0, .ref mq10, .int 0, .ref mq11, .ref mq12, .ref mq13, .int 0, .ref mq14, .ref mq15, .int 0]))] := hD
  refine lv_iload hx hb dL_law_1089 (lv_at hl 1 rfl) ?_
  refine lv_icmp_eq (tgt := 1096) hx hb dL_law_1091 (by decide) (fun _ => ?_) (fun c9 => absurd (by decide) c9)
  refine lv_iload hx hb dL_law_1096 (lv_at hl 1 rfl) ?_
  refine lv_if_ne (tgt := 1113) hx hb dL_law_1098 (by decide) (fun _ => ?_) (fun c9 => absurd c9 (by decide))
  refine lv_goto (tgt := 1368) hx hb dL_law_1113 (by decide) ?_
  subst hAe
  exact law_end C0 hS (lv_sub hl [2, 6] rfl) (Nat.le_of_ble_eq_true rfl) (Nat.le_of_ble_eq_true rfl)
set_option maxHeartbeats 4000000 in
set_option maxRecDepth 100000 in
theorem law_18_izn {p : Program} {l : Launch} {e : Env} {s : State} {m9 : MethodId} {below : List Frame} {meth : Method} {c : Code} {g : G9} {b : Nat} {xs : Nat → Int32} (hlt : l.stackTraces = false) (C0 : lw_At p s m9 meth c b 4 xs) (hE : EE g (fun q : Nat => s.heap.size ≤ q) s) (x m o xq1 xq2 xq4 xq5 xq12 xq22 xq23 xq24 xq25 xq20 xq13 xq14 xq26 xq3 xq27 mq1 mq2 mq3 mq4 mq5 mq6 mq16 mq7 mq8 mq9 mq10 mq11 mq12 mq13 mq14 mq15 : Nat) (x1 : Int32) (e1 : xs 1 = x1) (k_x1 : 0 ≤ x1.toInt ∧ x1.toInt ≤ 3) (e2 : xs 2 = 0) (x3 : Int32) (e3 : xs 3 = x3) (k_x3 : (-2147483648) ≤ x3.toInt ∧ x3.toInt ≤ (-1)) : ∀ (H : Heap) (locs : List Loc) (ls : Array Slot), va_P g.1 vwCl [(x, .inr (12, [.ref xq1, .int 0, .ref xq2, .ref xq4, .ref xq5, .ref xq12, .ref xq22, .ref xq23, .int (-1), .ref xq24, .ref xq25, .int 250, .ref xq20, .int 0, .ref xq13, .ref xq14, .ref xq26])), (xq2, .inr (11, [.ref xq3])), (xq3, .inr (10, [.int 1, .int 20, .ref xq27, .int 0])), (m, .inr (22, [.int 0, .ref mq1, .int 0, .ref mq2, .int 0, .ref mq3, .int 250, .ref mq4, .int 0, .ref mq5, .ref mq6, .ref mq16, .int 0, .ref mq7, .ref mq8, .ref mq9, .int 0, .null, .int 0, .null, .int 0, .int 0, .int 0, .ref mq10, .int 0, .ref mq11, .ref mq12, .ref mq13, .int 0, .ref mq14, .ref mq15, .int 0]))] H → va_D (fun q : Nat => s.heap.size ≤ q) [(x, .inr (12, [.ref xq1, .int 0, .ref xq2, .ref xq4, .ref xq5, .ref xq12, .ref xq22, .ref xq23, .int (-1), .ref xq24, .ref xq25, .int 250, .ref xq20, .int 0, .ref xq13, .ref xq14, .ref xq26])), (xq2, .inr (11, [.ref xq3])), (xq3, .inr (10, [.int 1, .int 20, .ref xq27, .int 0])), (m, .inr (22, [.int 0, .ref mq1, .int 0, .ref mq2, .int 0, .ref mq3, .int 250, .ref mq4, .int 0, .ref mq5, .ref mq6, .ref mq16, .int 0, .ref mq7, .ref mq8, .ref mq9, .int 0, .null, .int 0, .null, .int 0, .int 0, .int 0, .ref mq10, .int 0, .ref mq11, .ref mq12, .ref mq13, .int 0, .ref mq14, .ref mq15, .int 0]))] → va_S (fun q : Nat => s.heap.size ≤ q) s.heap H locs → lv_has ls 7 [(0, .ref b), (1, .ref x), (2, .ref m), (3, .ref o), (4, .int 0)] → W p l e room_1 s m9 #[Value.ref b] below meth c H locs 106 7589 (lw_Z below #[Value.ref b] s) (F0 m9 1036 ls []) := by
  intro H locs ls hP hD hS hl
  obtain ⟨hx, hb, hr, hml, hown, hts0, hX, hbl, hlocks, hgv⟩ := id C0
  have hts : ∀ w ∈ w9_law, w.before #[Value.ref b] s = true := fun w h => hts0 w (w9_law_in w h)
  generalize hAe : (fun q : Nat => s.heap.size ≤ q) = A at hE hD hS
  have hA : ∀ q : Nat, s.heap.size ≤ q → A q := fun q h => by rw [← hAe]; exact h
  have hbA : ¬ A b := by rw [← hAe]; exact Nat.not_le.mpr hbl
  have hK := hE.1
  refine lv_aload_n hx hb dL_law_1036 rfl (lv_at hl 1 rfl) ?_
  refine lv_aload_n hx hb dL_law_1037 rfl (lv_at hl 0 rfl) ?_
  refine lv_iload hx hb dL_law_1038 (lv_at hl 4 rfl) ?_
  refine lv_iconst (v := 1) hx hb dL_law_1040 (by decide) ?_
  refine lv_iadd hx hb dL_law_1041 ?_
  refine e_top (y := 1) (by decide) ?_
  refine va_sld hx hb hX hbl hbA hS (vp_in_nI (n := 1) (by decide) (by decide)) dL_law_1042 ?_
  refine e_top (y := x1) e1 ?_
  refine lv_aload_n hx hb dL_law_1043 rfl (lv_at hl 0 rfl) ?_
  refine lv_iload hx hb dL_law_1044 (lv_at hl 4 rfl) ?_
  refine lv_iconst (v := 2) hx hb dL_law_1046 (by decide) ?_
  refine lv_iadd hx hb dL_law_1047 ?_
  refine e_top (y := 2) (by decide) ?_
  refine va_sld hx hb hX hbl hbA hS (vp_in_nI (n := 2) (by decide) (by decide)) dL_law_1048 ?_
  refine e_top (y := 0) e2 ?_
  refine lv_aload_n hx hb dL_law_1049 rfl (lv_at hl 0 rfl) ?_
  refine lv_iload hx hb dL_law_1050 (lv_at hl 4 rfl) ?_
  refine lv_iconst (v := 3) hx hb dL_law_1052 (by decide) ?_
  refine lv_iadd hx hb dL_law_1053 ?_
  refine e_top (y := 3) (by decide) ?_
  refine va_sld hx hb hX hbl hbA hS (vp_in_nI (n := 3) (by decide) (by decide)) dL_law_1054 ?_
  refine e_top (y := x3) e3 ?_
  refine lv_aload_n hx hb dL_law_1055 rfl (lv_at hl 3 rfl) ?_
  have hPc := hP.sub (ws' := [(x, .inr (12, [.ref xq1, .int 0, .ref xq2, .ref xq4, .ref xq5, .ref xq12, .ref xq22, .ref xq23, .int (-1), .ref xq24, .ref xq25, .int 250, .ref xq20, .int 0, .ref xq13, .ref xq14, .ref xq26])), (xq2, .inr (11, [.ref xq3])), (xq3, .inr (10, [.int 1, .int 20, .ref xq27, .int 0]))]) [0, 1, 2] rfl
  have hDc := hD.sub (ws' := [(x, .inr (12, [.ref xq1, .int 0, .ref xq2, .ref xq4, .ref xq5, .ref xq12, .ref xq22, .ref xq23, .int (-1), .ref xq24, .ref xq25, .int 250, .ref xq20, .int 0, .ref xq13, .ref xq14, .ref xq26])), (xq2, .inr (11, [.ref xq3])), (xq3, .inr (10, [.int 1, .int 20, .ref xq27, .int 0]))]) [0, 1, 2] (by decide) rfl
  have hFc := va_free (wc := [(x, .inr (12, [.ref xq1, .int 0, .ref xq2, .ref xq4, .ref xq5, .ref xq12, .ref xq22, .ref xq23, .int (-1), .ref xq24, .ref xq25, .int 250, .ref xq20, .int 0, .ref xq13, .ref xq14, .ref xq26])), (xq2, .inr (11, [.ref xq3])), (xq3, .inr (10, [.int 1, .int 20, .ref xq27, .int 0]))]) hD hS hA [0, 1, 2] rfl
  refine va_calli (vx_runSW (As := [.ref x, .int x1, .int 0, .int x3, .ref o]) (rest := []) ⟨hx, hb, hml, hown, hts⟩ (c9_L_ways_5 l hlt g x o xq1 xq2 xq4 xq5 xq12 xq22 xq23 xq24 xq25 xq20 xq13 xq14 xq26 xq3 xq27 _ x1 x3 (by omega) (by omega)) (vx_cwSW (bytes := cL_ways) (maxL := 6) (ret := (some .int)) (hh := [(0, 12, 15, 21), (0, 12, 19, 15)]) 5 hts g9_law_166 rfl rfl rfl (by decide +kernel) ⟨Nat.le_of_ble_eq_true rfl, Nat.le_of_ble_eq_true rfl⟩) (mPreS (g := g) (wc := [(x, .inr (12, [.ref xq1, .int 0, .ref xq2, .ref xq4, .ref xq5, .ref xq12, .ref xq22, .ref xq23, .int (-1), .ref xq24, .ref xq25, .int 250, .ref xq20, .int 0, .ref xq13, .ref xq14, .ref xq26])), (xq2, .inr (11, [.ref xq3])), (xq3, .inr (10, [.int 1, .int 20, .ref xq27, .int 0]))]) hE hS hPc hDc hFc) rfl rfl hl.1 rfl (lv_room (Nat.le_of_ble_eq_true rfl)) dL_law_1056 ⟨Nat.le_of_ble_eq_true rfl, Nat.le_of_ble_eq_true rfl⟩) hS (fun q _ h => hFc q h) hFc (fun r_1 u t H1 locs ht hvm hw hB hz1 hk1 hS => ?_)
  replace hw : 1 = r_1 := Eq.symm hw
  subst hw
  obtain ⟨hP1, hD1⟩ := hB
  rw [ht] at hP1
  obtain ⟨hP, hD⟩ := va_join (wr := [(m, .inr (22, [.int 0, .ref mq1, .int 0, .ref mq2, .int 0, .ref mq3, .int 250, .ref mq4, .int 0, .ref mq5, .ref mq6, .ref mq16, .int 0, .ref mq7, .ref mq8, .ref mq9, .int 0, .null, .int 0, .null, .int 0, .int 0, .int 0, .ref mq10, .int 0, .ref mq11, .ref mq12, .ref mq13, .int 0, .ref mq14, .ref mq15, .int 0]))]) (w1 := []) hP hD [0, 1, 2] [3] rfl rfl (by decide) (by decide) hk1 hFc hP1 hD1
  clear hP1 hD1 hPc hDc hFc hk1 hz1 hvm ht
  generalize H1 = H at hP hS ⊢
  have hP : va_P g.1 vwCl [(m, .inr (22, [.int 0, .ref mq1, .int 0, .ref mq2, .int 0, .ref mq3, .int 250, .ref mq4, .int 0, .ref mq5, .ref mq6, .ref mq16, .int 0, .ref mq7, .ref mq8, .ref mq9, .int 0, .null, .int 0, .null, .int 0, .int 0, .int 0, .ref mq10, .int 0, .ref mq11, .ref mq12, .ref mq13, .int 0, .ref mq14, .ref mq15, .int 0]))] H := hP
  have hD : va_D A [(m, .inr (22, [.int 0, .ref mq1, .int 0, .ref mq2, .int 0, .ref mq3, .int 250, .ref mq4, .int 0, .ref mq5, .ref mq6, .ref mq16, .int 0, .ref mq7, .ref mq8, .ref mq9, .int 0, .null, .int 0, .null, .int 0, .int 0, .int 0, .ref mq10, .int 0, .ref mq11, .ref mq12, .ref mq13, .int 0, .ref mq14, .ref mq15, .int 0]))] := hD
  refine lv_istore (lv' := [(5, .int 1), (0, .ref b), (1, .ref x), (2, .ref m), (3, .ref o), (4, .int 0)]) hx hb dL_law_1059 hl (by decide) rfl (fun ls hl => ?_)
  refine lv_aload_n hx hb dL_law_1061 rfl (lv_at hl 3 rfl) ?_
  refine lv_aload_n hx hb dL_law_1062 rfl (lv_at hl 1 rfl) ?_
  refine lv_iload hx hb dL_law_1063 (lv_at hl 5 rfl) ?_
  refine lv_iconst (v := 1) hx hb dL_law_1065 (by decide) ?_
  refine lv_iadd hx hb dL_law_1066 ?_
  refine e_top (y := 1) (by decide) ?_
  refine va_sld hx hb hX hbl hbA hS (vp_in_nI (n := 1) (by decide) (by decide)) dL_law_1067 ?_
  refine e_top (y := x1) e1 ?_
  refine lv_aload_n hx hb dL_law_1068 rfl (lv_at hl 1 rfl) ?_
  refine lv_iload hx hb dL_law_1069 (lv_at hl 5 rfl) ?_
  refine lv_iconst (v := 2) hx hb dL_law_1071 (by decide) ?_
  refine lv_iadd hx hb dL_law_1072 ?_
  refine e_top (y := 2) (by decide) ?_
  refine va_sld hx hb hX hbl hbA hS (vp_in_nI (n := 2) (by decide) (by decide)) dL_law_1073 ?_
  refine e_top (y := 0) e2 ?_
  refine lv_aload_n hx hb dL_law_1074 rfl (lv_at hl 1 rfl) ?_
  refine lv_iload hx hb dL_law_1075 (lv_at hl 5 rfl) ?_
  refine lv_iconst (v := 3) hx hb dL_law_1077 (by decide) ?_
  refine lv_iadd hx hb dL_law_1078 ?_
  refine e_top (y := 3) (by decide) ?_
  refine va_sld hx hb hX hbl hbA hS (vp_in_nI (n := 3) (by decide) (by decide)) dL_law_1079 ?_
  refine e_top (y := x3) e3 ?_
  have hPc := hP.sub (ws' := [(m, .inr (22, [.int 0, .ref mq1, .int 0, .ref mq2, .int 0, .ref mq3, .int 250, .ref mq4, .int 0, .ref mq5, .ref mq6, .ref mq16, .int 0, .ref mq7, .ref mq8, .ref mq9, .int 0, .null, .int 0, .null, .int 0, .int 0, .int 0, .ref mq10, .int 0, .ref mq11, .ref mq12, .ref mq13, .int 0, .ref mq14, .ref mq15, .int 0]))]) [0] rfl
  have hDc := hD.sub (ws' := [(m, .inr (22, [.int 0, .ref mq1, .int 0, .ref mq2, .int 0, .ref mq3, .int 250, .ref mq4, .int 0, .ref mq5, .ref mq6, .ref mq16, .int 0, .ref mq7, .ref mq8, .ref mq9, .int 0, .null, .int 0, .null, .int 0, .int 0, .int 0, .ref mq10, .int 0, .ref mq11, .ref mq12, .ref mq13, .int 0, .ref mq14, .ref mq15, .int 0]))]) [0] (by decide) rfl
  have hFc := va_free (wc := [(m, .inr (22, [.int 0, .ref mq1, .int 0, .ref mq2, .int 0, .ref mq3, .int 250, .ref mq4, .int 0, .ref mq5, .ref mq6, .ref mq16, .int 0, .ref mq7, .ref mq8, .ref mq9, .int 0, .null, .int 0, .null, .int 0, .int 0, .int 0, .ref mq10, .int 0, .ref mq11, .ref mq12, .ref mq13, .int 0, .ref mq14, .ref mq15, .int 0]))]) hD hS hA [0] rfl
  refine va_calli (va_runV (As := [.int x1, .int 0, .int x3]) (rest := []) ⟨hx, hb, hml, hown, hts⟩ (c9_X21_ways_5 l g m mq1 mq2 mq3 mq4 mq5 mq6 mq16 mq7 mq8 mq9 mq10 mq11 mq12 mq13 mq14 mq15 _ x1 x3 (by omega) (by omega)) (cwV 3 hts g9_law_167 rfl rfl rfl (by decide +kernel) ⟨Nat.le_of_ble_eq_true rfl, Nat.le_of_ble_eq_true rfl⟩) (mPreV (g := g) (wc := [(m, .inr (22, [.int 0, .ref mq1, .int 0, .ref mq2, .int 0, .ref mq3, .int 250, .ref mq4, .int 0, .ref mq5, .ref mq6, .ref mq16, .int 0, .ref mq7, .ref mq8, .ref mq9, .int 0, .null, .int 0, .null, .int 0, .int 0, .int 0, .ref mq10, .int 0, .ref mq11, .ref mq12, .ref mq13, .int 0, .ref mq14, .ref mq15, .int 0]))]) (C := RX21) (ci := 22) (q0 := 0) hE hS hPc hDc hFc rfl rfl) rfl rfl hl.1 rfl (lv_room (Nat.le_of_ble_eq_true rfl)) dL_law_1080 ⟨Nat.le_of_ble_eq_true rfl, Nat.le_of_ble_eq_true rfl⟩) hS (fun q _ h => hFc q h) hFc (fun r_2 u t H1 locs ht hvm hw hB hz1 hk1 hS => ?_)
  replace hw : 0 = r_2 := Eq.symm hw
  subst hw
  obtain ⟨hP1, hD1⟩ := hB
  rw [ht] at hP1
  obtain ⟨hP, hD⟩ := va_join (wr := []) (w1 := [(m, .inr (22, [.int 1, .ref mq1, .int 0, .ref mq2, .int 0, .ref mq3, .int 250, .ref mq4, .int 0, .ref mq5, .ref mq6, .ref mq16, .int 0, .ref mq7, .ref mq8, .ref mq9, .int 0, .null, .int 0, .null, .int 0, .int 0, .int 0, .ref mq10, .int 0, .ref mq11, .ref mq12, .ref mq13, .int 0, .ref mq14, .ref mq15, .int 0]))]) hP hD [0] [] rfl rfl (by decide) (by decide) hk1 hFc hP1 hD1
  clear hP1 hD1 hPc hDc hFc hk1 hz1 hvm ht
  generalize H1 = H at hP hS ⊢
  have hP : va_P g.1 vwCl [(m, .inr (22, [.int 1, .ref mq1, .int 0, .ref mq2, .int 0, .ref mq3, .int 250, .ref mq4, .int 0, .ref mq5, .ref mq6, .ref mq16, .int 0, .ref mq7, .ref mq8, .ref mq9, .int 0, .null, .int 0, .null, .int 0, .int 0, .int 0, .ref mq10, .int 0, .ref mq11, .ref mq12, .ref mq13, .int 0, .ref mq14, .ref mq15, .int 0]))] H := hP
  have hD : va_D A [(m, .inr (22, [.int 1, .ref mq1, .int 0, .ref mq2, .int 0, .ref mq3, .int 250, .ref mq4, .int 0, .ref mq5, .ref mq6, .ref mq16, .int 0, .ref mq7, .ref mq8, .ref mq9, .int 0, .null, .int 0, .null, .int 0, .int 0, .int 0, .ref mq10, .int 0, .ref mq11, .ref mq12, .ref mq13, .int 0, .ref mq14, .ref mq15, .int 0]))] := hD
  refine lv_istore (lv' := [(6, .int 0), (5, .int 1), (0, .ref b), (1, .ref x), (2, .ref m), (3, .ref o), (4, .int 0)]) hx hb dL_law_1083 hl (by decide) rfl (fun ls hl => ?_)
  refine lv_aload_n hx hb dL_law_1085 rfl (lv_at hl 4 rfl) ?_
  have hPc := hP.sub (ws' := [(m, .inr (22, [.int 1, .ref mq1, .int 0, .ref mq2, .int 0, .ref mq3, .int 250, .ref mq4, .int 0, .ref mq5, .ref mq6, .ref mq16, .int 0, .ref mq7, .ref mq8, .ref mq9, .int 0, .null, .int 0, .null, .int 0, .int 0, .int 0, .ref mq10, .int 0, .ref mq11, .ref mq12, .ref mq13, .int 0, .ref mq14, .ref mq15, .int 0]))]) [0] rfl
  have hDc := hD.sub (ws' := [(m, .inr (22, [.int 1, .ref mq1, .int 0, .ref mq2, .int 0, .ref mq3, .int 250, .ref mq4, .int 0, .ref mq5, .ref mq6, .ref mq16, .int 0, .ref mq7, .ref mq8, .ref mq9, .int 0, .null, .int 0, .null, .int 0, .int 0, .int 0, .ref mq10, .int 0, .ref mq11, .ref mq12, .ref mq13, .int 0, .ref mq14, .ref mq15, .int 0]))]) [0] (by decide) rfl
  have hFc := va_free (wc := [(m, .inr (22, [.int 1, .ref mq1, .int 0, .ref mq2, .int 0, .ref mq3, .int 250, .ref mq4, .int 0, .ref mq5, .ref mq6, .ref mq16, .int 0, .ref mq7, .ref mq8, .ref mq9, .int 0, .null, .int 0, .null, .int 0, .int 0, .int 0, .ref mq10, .int 0, .ref mq11, .ref mq12, .ref mq13, .int 0, .ref mq14, .ref mq15, .int 0]))]) hD hS hA [0] rfl
  refine va_calli (va_runV (As := []) (rest := []) ⟨hx, hb, hml, hown, hts⟩ (c9_X21_thrown_2 l g m mq1 mq2 mq3 mq4 mq5 mq6 mq16 mq7 mq8 mq9 mq10 mq11 mq12 mq13 mq14 mq15 _) (cwV 0 hts g9_law_15 rfl rfl rfl (by decide +kernel) ⟨Nat.le_of_ble_eq_true rfl, Nat.le_of_ble_eq_true rfl⟩) (mPreV (g := g) (wc := [(m, .inr (22, [.int 1, .ref mq1, .int 0, .ref mq2, .int 0, .ref mq3, .int 250, .ref mq4, .int 0, .ref mq5, .ref mq6, .ref mq16, .int 0, .ref mq7, .ref mq8, .ref mq9, .int 0, .null, .int 0, .null, .int 0, .int 0, .int 0, .ref mq10, .int 0, .ref mq11, .ref mq12, .ref mq13, .int 0, .ref mq14, .ref mq15, .int 0]))]) (C := RX21) (ci := 22) (q0 := 0) hE hS hPc hDc hFc rfl rfl) rfl rfl hl.1 rfl (lv_room (Nat.le_of_ble_eq_true rfl)) dL_law_1086 ⟨Nat.le_of_ble_eq_true rfl, Nat.le_of_ble_eq_true rfl⟩) hS (fun q _ h => hFc q h) hFc (fun r_3 u t H1 locs ht hvm hw hB hz1 hk1 hS => ?_)
  replace hw : 1 = r_3 := Eq.symm hw
  subst hw
  obtain ⟨hP1, hD1⟩ := hB
  rw [ht] at hP1
  obtain ⟨hP, hD⟩ := va_join (wr := []) (w1 := [(m, .inr (22, [.int 1, .ref mq1, .int 0, .ref mq2, .int 0, .ref mq3, .int 250, .ref mq4, .int 0, .ref mq5, .ref mq6, .ref mq16, .int 0, .ref mq7, .ref mq8, .ref mq9, .int 0, .null, .int 0, .null, .int 0, .int 0, .int 0, .ref mq10, .int 0, .ref mq11, .ref mq12, .ref mq13, .int 0, .ref mq14, .ref mq15, .int 0]))]) hP hD [0] [] rfl rfl (by decide) (by decide) hk1 hFc hP1 hD1
  clear hP1 hD1 hPc hDc hFc hk1 hz1 hvm ht
  generalize H1 = H at hP hS ⊢
  have hP : va_P g.1 vwCl [(m, .inr (22, [.int 1, .ref mq1, .int 0, .ref mq2, .int 0, .ref mq3, .int 250, .ref mq4, .int 0, .ref mq5, .ref mq6, .ref mq16, .int 0, .ref mq7, .ref mq8, .ref mq9, .int 0, .null, .int 0, .null, .int 0, .int 0, .int 0, .ref mq10, .int 0, .ref mq11, .ref mq12, .ref mq13, .int 0, .ref mq14, .ref mq15, .int 0]))] H := hP
  have hD : va_D A [(m, .inr (22, [.int 1, .ref mq1, .int 0, .ref mq2, .int 0, .ref mq3, .int 250, .ref mq4, .int 0, .ref mq5, .ref mq6, .ref mq16, .int 0, .ref mq7, .ref mq8, .ref mq9, .int 0, .null, .int 0, .null, .int 0, .int 0, .int 0, .ref mq10, .int 0, .ref mq11, .ref mq12, .ref mq13, .int 0, .ref mq14, .ref mq15, .int 0]))] := hD
  refine lv_iload hx hb dL_law_1089 (lv_at hl 1 rfl) ?_
  refine lv_icmp_eq (tgt := 1096) hx hb dL_law_1091 (by decide) (fun _ => ?_) (fun c9 => absurd (by decide) c9)
  refine lv_iload hx hb dL_law_1096 (lv_at hl 1 rfl) ?_
  refine lv_if_ne (tgt := 1113) hx hb dL_law_1098 (by decide) (fun _ => ?_) (fun c9 => absurd c9 (by decide))
  refine lv_goto (tgt := 1368) hx hb dL_law_1113 (by decide) ?_
  subst hAe
  exact law_end C0 hS (lv_sub hl [2, 6] rfl) (Nat.le_of_ble_eq_true rfl) (Nat.le_of_ble_eq_true rfl)
set_option maxHeartbeats 4000000 in
set_option maxRecDepth 100000 in
theorem law_18_izp {p : Program} {l : Launch} {e : Env} {s : State} {m9 : MethodId} {below : List Frame} {meth : Method} {c : Code} {g : G9} {b : Nat} {xs : Nat → Int32} (hlt : l.stackTraces = false) (C0 : lw_At p s m9 meth c b 4 xs) (hE : EE g (fun q : Nat => s.heap.size ≤ q) s) (x m o xq1 xq2 xq4 xq5 xq12 xq22 xq23 xq24 xq25 xq20 xq13 xq14 xq26 xq3 xq27 mq1 mq2 mq3 mq4 mq5 mq6 mq16 mq7 mq8 mq9 mq10 mq11 mq12 mq13 mq14 mq15 : Nat) (x1 : Int32) (e1 : xs 1 = x1) (k_x1 : 0 ≤ x1.toInt ∧ x1.toInt ≤ 3) (e2 : xs 2 = 0) (x3 : Int32) (e3 : xs 3 = x3) (k_x3 : 1 ≤ x3.toInt ∧ x3.toInt ≤ 2147483647) : ∀ (H : Heap) (locs : List Loc) (ls : Array Slot), va_P g.1 vwCl [(x, .inr (12, [.ref xq1, .int 0, .ref xq2, .ref xq4, .ref xq5, .ref xq12, .ref xq22, .ref xq23, .int (-1), .ref xq24, .ref xq25, .int 250, .ref xq20, .int 0, .ref xq13, .ref xq14, .ref xq26])), (xq2, .inr (11, [.ref xq3])), (xq3, .inr (10, [.int 1, .int 20, .ref xq27, .int 0])), (m, .inr (22, [.int 0, .ref mq1, .int 0, .ref mq2, .int 0, .ref mq3, .int 250, .ref mq4, .int 0, .ref mq5, .ref mq6, .ref mq16, .int 0, .ref mq7, .ref mq8, .ref mq9, .int 0, .null, .int 0, .null, .int 0, .int 0, .int 0, .ref mq10, .int 0, .ref mq11, .ref mq12, .ref mq13, .int 0, .ref mq14, .ref mq15, .int 0]))] H → va_D (fun q : Nat => s.heap.size ≤ q) [(x, .inr (12, [.ref xq1, .int 0, .ref xq2, .ref xq4, .ref xq5, .ref xq12, .ref xq22, .ref xq23, .int (-1), .ref xq24, .ref xq25, .int 250, .ref xq20, .int 0, .ref xq13, .ref xq14, .ref xq26])), (xq2, .inr (11, [.ref xq3])), (xq3, .inr (10, [.int 1, .int 20, .ref xq27, .int 0])), (m, .inr (22, [.int 0, .ref mq1, .int 0, .ref mq2, .int 0, .ref mq3, .int 250, .ref mq4, .int 0, .ref mq5, .ref mq6, .ref mq16, .int 0, .ref mq7, .ref mq8, .ref mq9, .int 0, .null, .int 0, .null, .int 0, .int 0, .int 0, .ref mq10, .int 0, .ref mq11, .ref mq12, .ref mq13, .int 0, .ref mq14, .ref mq15, .int 0]))] → va_S (fun q : Nat => s.heap.size ≤ q) s.heap H locs → lv_has ls 7 [(0, .ref b), (1, .ref x), (2, .ref m), (3, .ref o), (4, .int 0)] → W p l e room_1 s m9 #[Value.ref b] below meth c H locs 106 7589 (lw_Z below #[Value.ref b] s) (F0 m9 1036 ls []) := by
  intro H locs ls hP hD hS hl
  obtain ⟨hx, hb, hr, hml, hown, hts0, hX, hbl, hlocks, hgv⟩ := id C0
  have hts : ∀ w ∈ w9_law, w.before #[Value.ref b] s = true := fun w h => hts0 w (w9_law_in w h)
  generalize hAe : (fun q : Nat => s.heap.size ≤ q) = A at hE hD hS
  have hA : ∀ q : Nat, s.heap.size ≤ q → A q := fun q h => by rw [← hAe]; exact h
  have hbA : ¬ A b := by rw [← hAe]; exact Nat.not_le.mpr hbl
  have hK := hE.1
  refine lv_aload_n hx hb dL_law_1036 rfl (lv_at hl 1 rfl) ?_
  refine lv_aload_n hx hb dL_law_1037 rfl (lv_at hl 0 rfl) ?_
  refine lv_iload hx hb dL_law_1038 (lv_at hl 4 rfl) ?_
  refine lv_iconst (v := 1) hx hb dL_law_1040 (by decide) ?_
  refine lv_iadd hx hb dL_law_1041 ?_
  refine e_top (y := 1) (by decide) ?_
  refine va_sld hx hb hX hbl hbA hS (vp_in_nI (n := 1) (by decide) (by decide)) dL_law_1042 ?_
  refine e_top (y := x1) e1 ?_
  refine lv_aload_n hx hb dL_law_1043 rfl (lv_at hl 0 rfl) ?_
  refine lv_iload hx hb dL_law_1044 (lv_at hl 4 rfl) ?_
  refine lv_iconst (v := 2) hx hb dL_law_1046 (by decide) ?_
  refine lv_iadd hx hb dL_law_1047 ?_
  refine e_top (y := 2) (by decide) ?_
  refine va_sld hx hb hX hbl hbA hS (vp_in_nI (n := 2) (by decide) (by decide)) dL_law_1048 ?_
  refine e_top (y := 0) e2 ?_
  refine lv_aload_n hx hb dL_law_1049 rfl (lv_at hl 0 rfl) ?_
  refine lv_iload hx hb dL_law_1050 (lv_at hl 4 rfl) ?_
  refine lv_iconst (v := 3) hx hb dL_law_1052 (by decide) ?_
  refine lv_iadd hx hb dL_law_1053 ?_
  refine e_top (y := 3) (by decide) ?_
  refine va_sld hx hb hX hbl hbA hS (vp_in_nI (n := 3) (by decide) (by decide)) dL_law_1054 ?_
  refine e_top (y := x3) e3 ?_
  refine lv_aload_n hx hb dL_law_1055 rfl (lv_at hl 3 rfl) ?_
  have hPc := hP.sub (ws' := [(x, .inr (12, [.ref xq1, .int 0, .ref xq2, .ref xq4, .ref xq5, .ref xq12, .ref xq22, .ref xq23, .int (-1), .ref xq24, .ref xq25, .int 250, .ref xq20, .int 0, .ref xq13, .ref xq14, .ref xq26])), (xq2, .inr (11, [.ref xq3])), (xq3, .inr (10, [.int 1, .int 20, .ref xq27, .int 0]))]) [0, 1, 2] rfl
  have hDc := hD.sub (ws' := [(x, .inr (12, [.ref xq1, .int 0, .ref xq2, .ref xq4, .ref xq5, .ref xq12, .ref xq22, .ref xq23, .int (-1), .ref xq24, .ref xq25, .int 250, .ref xq20, .int 0, .ref xq13, .ref xq14, .ref xq26])), (xq2, .inr (11, [.ref xq3])), (xq3, .inr (10, [.int 1, .int 20, .ref xq27, .int 0]))]) [0, 1, 2] (by decide) rfl
  have hFc := va_free (wc := [(x, .inr (12, [.ref xq1, .int 0, .ref xq2, .ref xq4, .ref xq5, .ref xq12, .ref xq22, .ref xq23, .int (-1), .ref xq24, .ref xq25, .int 250, .ref xq20, .int 0, .ref xq13, .ref xq14, .ref xq26])), (xq2, .inr (11, [.ref xq3])), (xq3, .inr (10, [.int 1, .int 20, .ref xq27, .int 0]))]) hD hS hA [0, 1, 2] rfl
  refine va_calli (vx_runSW (As := [.ref x, .int x1, .int 0, .int x3, .ref o]) (rest := []) ⟨hx, hb, hml, hown, hts⟩ (c9_L_ways_6 l hlt g x o xq1 xq2 xq4 xq5 xq12 xq22 xq23 xq24 xq25 xq20 xq13 xq14 xq26 xq3 xq27 _ x1 x3 (by omega) (by omega)) (vx_cwSW (bytes := cL_ways) (maxL := 6) (ret := (some .int)) (hh := [(0, 12, 15, 21), (0, 12, 19, 15)]) 5 hts g9_law_168 rfl rfl rfl (by decide +kernel) ⟨Nat.le_of_ble_eq_true rfl, Nat.le_of_ble_eq_true rfl⟩) (mPreS (g := g) (wc := [(x, .inr (12, [.ref xq1, .int 0, .ref xq2, .ref xq4, .ref xq5, .ref xq12, .ref xq22, .ref xq23, .int (-1), .ref xq24, .ref xq25, .int 250, .ref xq20, .int 0, .ref xq13, .ref xq14, .ref xq26])), (xq2, .inr (11, [.ref xq3])), (xq3, .inr (10, [.int 1, .int 20, .ref xq27, .int 0]))]) hE hS hPc hDc hFc) rfl rfl hl.1 rfl (lv_room (Nat.le_of_ble_eq_true rfl)) dL_law_1056 ⟨Nat.le_of_ble_eq_true rfl, Nat.le_of_ble_eq_true rfl⟩) hS (fun q _ h => hFc q h) hFc (fun r_1 u t H1 locs ht hvm hw hB hz1 hk1 hS => ?_)
  replace hw : 1 = r_1 := Eq.symm hw
  subst hw
  obtain ⟨hP1, hD1⟩ := hB
  rw [ht] at hP1
  obtain ⟨hP, hD⟩ := va_join (wr := [(m, .inr (22, [.int 0, .ref mq1, .int 0, .ref mq2, .int 0, .ref mq3, .int 250, .ref mq4, .int 0, .ref mq5, .ref mq6, .ref mq16, .int 0, .ref mq7, .ref mq8, .ref mq9, .int 0, .null, .int 0, .null, .int 0, .int 0, .int 0, .ref mq10, .int 0, .ref mq11, .ref mq12, .ref mq13, .int 0, .ref mq14, .ref mq15, .int 0]))]) (w1 := []) hP hD [0, 1, 2] [3] rfl rfl (by decide) (by decide) hk1 hFc hP1 hD1
  clear hP1 hD1 hPc hDc hFc hk1 hz1 hvm ht
  generalize H1 = H at hP hS ⊢
  have hP : va_P g.1 vwCl [(m, .inr (22, [.int 0, .ref mq1, .int 0, .ref mq2, .int 0, .ref mq3, .int 250, .ref mq4, .int 0, .ref mq5, .ref mq6, .ref mq16, .int 0, .ref mq7, .ref mq8, .ref mq9, .int 0, .null, .int 0, .null, .int 0, .int 0, .int 0, .ref mq10, .int 0, .ref mq11, .ref mq12, .ref mq13, .int 0, .ref mq14, .ref mq15, .int 0]))] H := hP
  have hD : va_D A [(m, .inr (22, [.int 0, .ref mq1, .int 0, .ref mq2, .int 0, .ref mq3, .int 250, .ref mq4, .int 0, .ref mq5, .ref mq6, .ref mq16, .int 0, .ref mq7, .ref mq8, .ref mq9, .int 0, .null, .int 0, .null, .int 0, .int 0, .int 0, .ref mq10, .int 0, .ref mq11, .ref mq12, .ref mq13, .int 0, .ref mq14, .ref mq15, .int 0]))] := hD
  refine lv_istore (lv' := [(5, .int 1), (0, .ref b), (1, .ref x), (2, .ref m), (3, .ref o), (4, .int 0)]) hx hb dL_law_1059 hl (by decide) rfl (fun ls hl => ?_)
  refine lv_aload_n hx hb dL_law_1061 rfl (lv_at hl 3 rfl) ?_
  refine lv_aload_n hx hb dL_law_1062 rfl (lv_at hl 1 rfl) ?_
  refine lv_iload hx hb dL_law_1063 (lv_at hl 5 rfl) ?_
  refine lv_iconst (v := 1) hx hb dL_law_1065 (by decide) ?_
  refine lv_iadd hx hb dL_law_1066 ?_
  refine e_top (y := 1) (by decide) ?_
  refine va_sld hx hb hX hbl hbA hS (vp_in_nI (n := 1) (by decide) (by decide)) dL_law_1067 ?_
  refine e_top (y := x1) e1 ?_
  refine lv_aload_n hx hb dL_law_1068 rfl (lv_at hl 1 rfl) ?_
  refine lv_iload hx hb dL_law_1069 (lv_at hl 5 rfl) ?_
  refine lv_iconst (v := 2) hx hb dL_law_1071 (by decide) ?_
  refine lv_iadd hx hb dL_law_1072 ?_
  refine e_top (y := 2) (by decide) ?_
  refine va_sld hx hb hX hbl hbA hS (vp_in_nI (n := 2) (by decide) (by decide)) dL_law_1073 ?_
  refine e_top (y := 0) e2 ?_
  refine lv_aload_n hx hb dL_law_1074 rfl (lv_at hl 1 rfl) ?_
  refine lv_iload hx hb dL_law_1075 (lv_at hl 5 rfl) ?_
  refine lv_iconst (v := 3) hx hb dL_law_1077 (by decide) ?_
  refine lv_iadd hx hb dL_law_1078 ?_
  refine e_top (y := 3) (by decide) ?_
  refine va_sld hx hb hX hbl hbA hS (vp_in_nI (n := 3) (by decide) (by decide)) dL_law_1079 ?_
  refine e_top (y := x3) e3 ?_
  have hPc := hP.sub (ws' := [(m, .inr (22, [.int 0, .ref mq1, .int 0, .ref mq2, .int 0, .ref mq3, .int 250, .ref mq4, .int 0, .ref mq5, .ref mq6, .ref mq16, .int 0, .ref mq7, .ref mq8, .ref mq9, .int 0, .null, .int 0, .null, .int 0, .int 0, .int 0, .ref mq10, .int 0, .ref mq11, .ref mq12, .ref mq13, .int 0, .ref mq14, .ref mq15, .int 0]))]) [0] rfl
  have hDc := hD.sub (ws' := [(m, .inr (22, [.int 0, .ref mq1, .int 0, .ref mq2, .int 0, .ref mq3, .int 250, .ref mq4, .int 0, .ref mq5, .ref mq6, .ref mq16, .int 0, .ref mq7, .ref mq8, .ref mq9, .int 0, .null, .int 0, .null, .int 0, .int 0, .int 0, .ref mq10, .int 0, .ref mq11, .ref mq12, .ref mq13, .int 0, .ref mq14, .ref mq15, .int 0]))]) [0] (by decide) rfl
  have hFc := va_free (wc := [(m, .inr (22, [.int 0, .ref mq1, .int 0, .ref mq2, .int 0, .ref mq3, .int 250, .ref mq4, .int 0, .ref mq5, .ref mq6, .ref mq16, .int 0, .ref mq7, .ref mq8, .ref mq9, .int 0, .null, .int 0, .null, .int 0, .int 0, .int 0, .ref mq10, .int 0, .ref mq11, .ref mq12, .ref mq13, .int 0, .ref mq14, .ref mq15, .int 0]))]) hD hS hA [0] rfl
  refine va_calli (va_runV (As := [.int x1, .int 0, .int x3]) (rest := []) ⟨hx, hb, hml, hown, hts⟩ (c9_X21_ways_6 l g m mq1 mq2 mq3 mq4 mq5 mq6 mq16 mq7 mq8 mq9 mq10 mq11 mq12 mq13 mq14 mq15 _ x1 x3 (by omega) (by omega)) (cwV 3 hts g9_law_169 rfl rfl rfl (by decide +kernel) ⟨Nat.le_of_ble_eq_true rfl, Nat.le_of_ble_eq_true rfl⟩) (mPreV (g := g) (wc := [(m, .inr (22, [.int 0, .ref mq1, .int 0, .ref mq2, .int 0, .ref mq3, .int 250, .ref mq4, .int 0, .ref mq5, .ref mq6, .ref mq16, .int 0, .ref mq7, .ref mq8, .ref mq9, .int 0, .null, .int 0, .null, .int 0, .int 0, .int 0, .ref mq10, .int 0, .ref mq11, .ref mq12, .ref mq13, .int 0, .ref mq14, .ref mq15, .int 0]))]) (C := RX21) (ci := 22) (q0 := 0) hE hS hPc hDc hFc rfl rfl) rfl rfl hl.1 rfl (lv_room (Nat.le_of_ble_eq_true rfl)) dL_law_1080 ⟨Nat.le_of_ble_eq_true rfl, Nat.le_of_ble_eq_true rfl⟩) hS (fun q _ h => hFc q h) hFc (fun r_2 u t H1 locs ht hvm hw hB hz1 hk1 hS => ?_)
  replace hw : 0 = r_2 := Eq.symm hw
  subst hw
  obtain ⟨hP1, hD1⟩ := hB
  rw [ht] at hP1
  obtain ⟨hP, hD⟩ := va_join (wr := []) (w1 := [(m, .inr (22, [.int 1, .ref mq1, .int 0, .ref mq2, .int 0, .ref mq3, .int 250, .ref mq4, .int 0, .ref mq5, .ref mq6, .ref mq16, .int 0, .ref mq7, .ref mq8, .ref mq9, .int 0, .null, .int 0, .null, .int 0, .int 0, .int 0, .ref mq10, .int 0, .ref mq11, .ref mq12, .ref mq13, .int 0, .ref mq14, .ref mq15, .int 0]))]) hP hD [0] [] rfl rfl (by decide) (by decide) hk1 hFc hP1 hD1
  clear hP1 hD1 hPc hDc hFc hk1 hz1 hvm ht
  generalize H1 = H at hP hS ⊢
  have hP : va_P g.1 vwCl [(m, .inr (22, [.int 1, .ref mq1, .int 0, .ref mq2, .int 0, .ref mq3, .int 250, .ref mq4, .int 0, .ref mq5, .ref mq6, .ref mq16, .int 0, .ref mq7, .ref mq8, .ref mq9, .int 0, .null, .int 0, .null, .int 0, .int 0, .int 0, .ref mq10, .int 0, .ref mq11, .ref mq12, .ref mq13, .int 0, .ref mq14, .ref mq15, .int 0]))] H := hP
  have hD : va_D A [(m, .inr (22, [.int 1, .ref mq1, .int 0, .ref mq2, .int 0, .ref mq3, .int 250, .ref mq4, .int 0, .ref mq5, .ref mq6, .ref mq16, .int 0, .ref mq7, .ref mq8, .ref mq9, .int 0, .null, .int 0, .null, .int 0, .int 0, .int 0, .ref mq10, .int 0, .ref mq11, .ref mq12, .ref mq13, .int 0, .ref mq14, .ref mq15, .int 0]))] := hD
  refine lv_istore (lv' := [(6, .int 0), (5, .int 1), (0, .ref b), (1, .ref x), (2, .ref m), (3, .ref o), (4, .int 0)]) hx hb dL_law_1083 hl (by decide) rfl (fun ls hl => ?_)
  refine lv_aload_n hx hb dL_law_1085 rfl (lv_at hl 4 rfl) ?_
  have hPc := hP.sub (ws' := [(m, .inr (22, [.int 1, .ref mq1, .int 0, .ref mq2, .int 0, .ref mq3, .int 250, .ref mq4, .int 0, .ref mq5, .ref mq6, .ref mq16, .int 0, .ref mq7, .ref mq8, .ref mq9, .int 0, .null, .int 0, .null, .int 0, .int 0, .int 0, .ref mq10, .int 0, .ref mq11, .ref mq12, .ref mq13, .int 0, .ref mq14, .ref mq15, .int 0]))]) [0] rfl
  have hDc := hD.sub (ws' := [(m, .inr (22, [.int 1, .ref mq1, .int 0, .ref mq2, .int 0, .ref mq3, .int 250, .ref mq4, .int 0, .ref mq5, .ref mq6, .ref mq16, .int 0, .ref mq7, .ref mq8, .ref mq9, .int 0, .null, .int 0, .null, .int 0, .int 0, .int 0, .ref mq10, .int 0, .ref mq11, .ref mq12, .ref mq13, .int 0, .ref mq14, .ref mq15, .int 0]))]) [0] (by decide) rfl
  have hFc := va_free (wc := [(m, .inr (22, [.int 1, .ref mq1, .int 0, .ref mq2, .int 0, .ref mq3, .int 250, .ref mq4, .int 0, .ref mq5, .ref mq6, .ref mq16, .int 0, .ref mq7, .ref mq8, .ref mq9, .int 0, .null, .int 0, .null, .int 0, .int 0, .int 0, .ref mq10, .int 0, .ref mq11, .ref mq12, .ref mq13, .int 0, .ref mq14, .ref mq15, .int 0]))]) hD hS hA [0] rfl
  refine va_calli (va_runV (As := []) (rest := []) ⟨hx, hb, hml, hown, hts⟩ (c9_X21_thrown_2 l g m mq1 mq2 mq3 mq4 mq5 mq6 mq16 mq7 mq8 mq9 mq10 mq11 mq12 mq13 mq14 mq15 _) (cwV 0 hts g9_law_15 rfl rfl rfl (by decide +kernel) ⟨Nat.le_of_ble_eq_true rfl, Nat.le_of_ble_eq_true rfl⟩) (mPreV (g := g) (wc := [(m, .inr (22, [.int 1, .ref mq1, .int 0, .ref mq2, .int 0, .ref mq3, .int 250, .ref mq4, .int 0, .ref mq5, .ref mq6, .ref mq16, .int 0, .ref mq7, .ref mq8, .ref mq9, .int 0, .null, .int 0, .null, .int 0, .int 0, .int 0, .ref mq10, .int 0, .ref mq11, .ref mq12, .ref mq13, .int 0, .ref mq14, .ref mq15, .int 0]))]) (C := RX21) (ci := 22) (q0 := 0) hE hS hPc hDc hFc rfl rfl) rfl rfl hl.1 rfl (lv_room (Nat.le_of_ble_eq_true rfl)) dL_law_1086 ⟨Nat.le_of_ble_eq_true rfl, Nat.le_of_ble_eq_true rfl⟩) hS (fun q _ h => hFc q h) hFc (fun r_3 u t H1 locs ht hvm hw hB hz1 hk1 hS => ?_)
  replace hw : 1 = r_3 := Eq.symm hw
  subst hw
  obtain ⟨hP1, hD1⟩ := hB
  rw [ht] at hP1
  obtain ⟨hP, hD⟩ := va_join (wr := []) (w1 := [(m, .inr (22, [.int 1, .ref mq1, .int 0, .ref mq2, .int 0, .ref mq3, .int 250, .ref mq4, .int 0, .ref mq5, .ref mq6, .ref mq16, .int 0, .ref mq7, .ref mq8, .ref mq9, .int 0, .null, .int 0, .null, .int 0, .int 0, .int 0, .ref mq10, .int 0, .ref mq11, .ref mq12, .ref mq13, .int 0, .ref mq14, .ref mq15, .int 0]))]) hP hD [0] [] rfl rfl (by decide) (by decide) hk1 hFc hP1 hD1
  clear hP1 hD1 hPc hDc hFc hk1 hz1 hvm ht
  generalize H1 = H at hP hS ⊢
  have hP : va_P g.1 vwCl [(m, .inr (22, [.int 1, .ref mq1, .int 0, .ref mq2, .int 0, .ref mq3, .int 250, .ref mq4, .int 0, .ref mq5, .ref mq6, .ref mq16, .int 0, .ref mq7, .ref mq8, .ref mq9, .int 0, .null, .int 0, .null, .int 0, .int 0, .int 0, .ref mq10, .int 0, .ref mq11, .ref mq12, .ref mq13, .int 0, .ref mq14, .ref mq15, .int 0]))] H := hP
  have hD : va_D A [(m, .inr (22, [.int 1, .ref mq1, .int 0, .ref mq2, .int 0, .ref mq3, .int 250, .ref mq4, .int 0, .ref mq5, .ref mq6, .ref mq16, .int 0, .ref mq7, .ref mq8, .ref mq9, .int 0, .null, .int 0, .null, .int 0, .int 0, .int 0, .ref mq10, .int 0, .ref mq11, .ref mq12, .ref mq13, .int 0, .ref mq14, .ref mq15, .int 0]))] := hD
  refine lv_iload hx hb dL_law_1089 (lv_at hl 1 rfl) ?_
  refine lv_icmp_eq (tgt := 1096) hx hb dL_law_1091 (by decide) (fun _ => ?_) (fun c9 => absurd (by decide) c9)
  refine lv_iload hx hb dL_law_1096 (lv_at hl 1 rfl) ?_
  refine lv_if_ne (tgt := 1113) hx hb dL_law_1098 (by decide) (fun _ => ?_) (fun c9 => absurd c9 (by decide))
  refine lv_goto (tgt := 1368) hx hb dL_law_1113 (by decide) ?_
  subst hAe
  exact law_end C0 hS (lv_sub hl [2, 6] rfl) (Nat.le_of_ble_eq_true rfl) (Nat.le_of_ble_eq_true rfl)
set_option maxHeartbeats 4000000 in
set_option maxRecDepth 100000 in
theorem law_18_izz {p : Program} {l : Launch} {e : Env} {s : State} {m9 : MethodId} {below : List Frame} {meth : Method} {c : Code} {g : G9} {b : Nat} {xs : Nat → Int32} (hlt : l.stackTraces = false) (C0 : lw_At p s m9 meth c b 4 xs) (hE : EE g (fun q : Nat => s.heap.size ≤ q) s) (x m o xq1 xq2 xq4 xq5 xq12 xq22 xq23 xq24 xq25 xq20 xq13 xq14 xq26 xq3 xq27 xq16 xq17 xq18 xq19 xq30 xq31 xq32 xq33 xq34 xq35 xq36 xq37 xq38 xq39 xq40 xq41 mq1 mq2 mq3 mq4 mq5 mq6 mq16 mq7 mq8 mq9 mq10 mq11 mq12 mq13 mq14 mq15 : Nat) (x1 : Int32) (e1 : xs 1 = x1) (k_x1 : 0 ≤ x1.toInt ∧ x1.toInt ≤ 3) (e2 : xs 2 = 0) (e3 : xs 3 = 0) : ∀ (H : Heap) (locs : List Loc) (ls : Array Slot), va_P g.1 vwCl [(x, .inr (12, [.ref xq1, .int 0, .ref xq2, .ref xq4, .ref xq5, .ref xq12, .ref xq22, .ref xq23, .int (-1), .ref xq24, .ref xq25, .int 250, .ref xq20, .int 0, .ref xq13, .ref xq14, .ref xq26])), (xq2, .inr (11, [.ref xq3])), (xq3, .inr (10, [.int 1, .int 20, .ref xq27, .int 0])), (xq4, .inl (g.2.1 3, 4, .inr (.inr (.inr (.inr (va_up (va_up (va_up (va_up (fun _ => none) 0 (some xq16)) 1 (some xq17)) 2 (some xq18)) 3 (some xq19))))))), (xq16, .inr (6, [.ref xq30, .ref xq31, .ref xq32, .int 0, .int 0, .int 0, .int 0, .int 0])), (xq17, .inr (6, [.ref xq33, .ref xq34, .ref xq35, .int 0, .int 0, .int 0, .int 0, .int 0])), (xq18, .inr (6, [.ref xq36, .ref xq37, .ref xq38, .int 0, .int 0, .int 0, .int 0, .int 0])), (xq19, .inr (6, [.ref xq39, .ref xq40, .ref xq41, .int 0, .int 0, .int 0, .int 0, .int 0])), (m, .inr (22, [.int 0, .ref mq1, .int 0, .ref mq2, .int 0, .ref mq3, .int 250, .ref mq4, .int 0, .ref mq5, .ref mq6, .ref mq16, .int 0, .ref mq7, .ref mq8, .ref mq9, .int 0, .null, .int 0, .null, .int 0, .int 0, .int 0, .ref mq10, .int 0, .ref mq11, .ref mq12, .ref mq13, .int 0, .ref mq14, .ref mq15, .int 0])), (mq3, .inl (g.2.1 4, 4, .inr (.inr (.inr (.inr (fun _ => none))))))] H → va_D (fun q : Nat => s.heap.size ≤ q) [(x, .inr (12, [.ref xq1, .int 0, .ref xq2, .ref xq4, .ref xq5, .ref xq12, .ref xq22, .ref xq23, .int (-1), .ref xq24, .ref xq25, .int 250, .ref xq20, .int 0, .ref xq13, .ref xq14, .ref xq26])), (xq2, .inr (11, [.ref xq3])), (xq3, .inr (10, [.int 1, .int 20, .ref xq27, .int 0])), (xq4, .inl (g.2.1 3, 4, .inr (.inr (.inr (.inr (va_up (va_up (va_up (va_up (fun _ => none) 0 (some xq16)) 1 (some xq17)) 2 (some xq18)) 3 (some xq19))))))), (xq16, .inr (6, [.ref xq30, .ref xq31, .ref xq32, .int 0, .int 0, .int 0, .int 0, .int 0])), (xq17, .inr (6, [.ref xq33, .ref xq34, .ref xq35, .int 0, .int 0, .int 0, .int 0, .int 0])), (xq18, .inr (6, [.ref xq36, .ref xq37, .ref xq38, .int 0, .int 0, .int 0, .int 0, .int 0])), (xq19, .inr (6, [.ref xq39, .ref xq40, .ref xq41, .int 0, .int 0, .int 0, .int 0, .int 0])), (m, .inr (22, [.int 0, .ref mq1, .int 0, .ref mq2, .int 0, .ref mq3, .int 250, .ref mq4, .int 0, .ref mq5, .ref mq6, .ref mq16, .int 0, .ref mq7, .ref mq8, .ref mq9, .int 0, .null, .int 0, .null, .int 0, .int 0, .int 0, .ref mq10, .int 0, .ref mq11, .ref mq12, .ref mq13, .int 0, .ref mq14, .ref mq15, .int 0])), (mq3, .inl (g.2.1 4, 4, .inr (.inr (.inr (.inr (fun _ => none))))))] → va_S (fun q : Nat => s.heap.size ≤ q) s.heap H locs → lv_has ls 7 [(0, .ref b), (1, .ref x), (2, .ref m), (3, .ref o), (4, .int 0)] → W p l e room_1 s m9 #[Value.ref b] below meth c H locs 106 7589 (lw_Z below #[Value.ref b] s) (F0 m9 1036 ls []) := by
  intro H locs ls hP hD hS hl
  obtain ⟨hx, hb, hr, hml, hown, hts0, hX, hbl, hlocks, hgv⟩ := id C0
  have hts : ∀ w ∈ w9_law, w.before #[Value.ref b] s = true := fun w h => hts0 w (w9_law_in w h)
  generalize hAe : (fun q : Nat => s.heap.size ≤ q) = A at hE hD hS
  have hA : ∀ q : Nat, s.heap.size ≤ q → A q := fun q h => by rw [← hAe]; exact h
  have hbA : ¬ A b := by rw [← hAe]; exact Nat.not_le.mpr hbl
  have hK := hE.1
  refine lv_aload_n hx hb dL_law_1036 rfl (lv_at hl 1 rfl) ?_
  refine lv_aload_n hx hb dL_law_1037 rfl (lv_at hl 0 rfl) ?_
  refine lv_iload hx hb dL_law_1038 (lv_at hl 4 rfl) ?_
  refine lv_iconst (v := 1) hx hb dL_law_1040 (by decide) ?_
  refine lv_iadd hx hb dL_law_1041 ?_
  refine e_top (y := 1) (by decide) ?_
  refine va_sld hx hb hX hbl hbA hS (vp_in_nI (n := 1) (by decide) (by decide)) dL_law_1042 ?_
  refine e_top (y := x1) e1 ?_
  refine lv_aload_n hx hb dL_law_1043 rfl (lv_at hl 0 rfl) ?_
  refine lv_iload hx hb dL_law_1044 (lv_at hl 4 rfl) ?_
  refine lv_iconst (v := 2) hx hb dL_law_1046 (by decide) ?_
  refine lv_iadd hx hb dL_law_1047 ?_
  refine e_top (y := 2) (by decide) ?_
  refine va_sld hx hb hX hbl hbA hS (vp_in_nI (n := 2) (by decide) (by decide)) dL_law_1048 ?_
  refine e_top (y := 0) e2 ?_
  refine lv_aload_n hx hb dL_law_1049 rfl (lv_at hl 0 rfl) ?_
  refine lv_iload hx hb dL_law_1050 (lv_at hl 4 rfl) ?_
  refine lv_iconst (v := 3) hx hb dL_law_1052 (by decide) ?_
  refine lv_iadd hx hb dL_law_1053 ?_
  refine e_top (y := 3) (by decide) ?_
  refine va_sld hx hb hX hbl hbA hS (vp_in_nI (n := 3) (by decide) (by decide)) dL_law_1054 ?_
  refine e_top (y := 0) e3 ?_
  refine lv_aload_n hx hb dL_law_1055 rfl (lv_at hl 3 rfl) ?_
  have hPc := hP.sub (ws' := [(x, .inr (12, [.ref xq1, .int 0, .ref xq2, .ref xq4, .ref xq5, .ref xq12, .ref xq22, .ref xq23, .int (-1), .ref xq24, .ref xq25, .int 250, .ref xq20, .int 0, .ref xq13, .ref xq14, .ref xq26])), (xq2, .inr (11, [.ref xq3])), (xq3, .inr (10, [.int 1, .int 20, .ref xq27, .int 0])), (xq4, .inl (g.2.1 3, 4, .inr (.inr (.inr (.inr (va_up (va_up (va_up (va_up (fun _ => none) 0 (some xq16)) 1 (some xq17)) 2 (some xq18)) 3 (some xq19))))))), (xq16, .inr (6, [.ref xq30, .ref xq31, .ref xq32, .int 0, .int 0, .int 0, .int 0, .int 0])), (xq17, .inr (6, [.ref xq33, .ref xq34, .ref xq35, .int 0, .int 0, .int 0, .int 0, .int 0])), (xq18, .inr (6, [.ref xq36, .ref xq37, .ref xq38, .int 0, .int 0, .int 0, .int 0, .int 0])), (xq19, .inr (6, [.ref xq39, .ref xq40, .ref xq41, .int 0, .int 0, .int 0, .int 0, .int 0]))]) [0, 1, 2, 3, 4, 5, 6, 7] rfl
  have hDc := hD.sub (ws' := [(x, .inr (12, [.ref xq1, .int 0, .ref xq2, .ref xq4, .ref xq5, .ref xq12, .ref xq22, .ref xq23, .int (-1), .ref xq24, .ref xq25, .int 250, .ref xq20, .int 0, .ref xq13, .ref xq14, .ref xq26])), (xq2, .inr (11, [.ref xq3])), (xq3, .inr (10, [.int 1, .int 20, .ref xq27, .int 0])), (xq4, .inl (g.2.1 3, 4, .inr (.inr (.inr (.inr (va_up (va_up (va_up (va_up (fun _ => none) 0 (some xq16)) 1 (some xq17)) 2 (some xq18)) 3 (some xq19))))))), (xq16, .inr (6, [.ref xq30, .ref xq31, .ref xq32, .int 0, .int 0, .int 0, .int 0, .int 0])), (xq17, .inr (6, [.ref xq33, .ref xq34, .ref xq35, .int 0, .int 0, .int 0, .int 0, .int 0])), (xq18, .inr (6, [.ref xq36, .ref xq37, .ref xq38, .int 0, .int 0, .int 0, .int 0, .int 0])), (xq19, .inr (6, [.ref xq39, .ref xq40, .ref xq41, .int 0, .int 0, .int 0, .int 0, .int 0]))]) [0, 1, 2, 3, 4, 5, 6, 7] (by decide) rfl
  have hFc := va_free (wc := [(x, .inr (12, [.ref xq1, .int 0, .ref xq2, .ref xq4, .ref xq5, .ref xq12, .ref xq22, .ref xq23, .int (-1), .ref xq24, .ref xq25, .int 250, .ref xq20, .int 0, .ref xq13, .ref xq14, .ref xq26])), (xq2, .inr (11, [.ref xq3])), (xq3, .inr (10, [.int 1, .int 20, .ref xq27, .int 0])), (xq4, .inl (g.2.1 3, 4, .inr (.inr (.inr (.inr (va_up (va_up (va_up (va_up (fun _ => none) 0 (some xq16)) 1 (some xq17)) 2 (some xq18)) 3 (some xq19))))))), (xq16, .inr (6, [.ref xq30, .ref xq31, .ref xq32, .int 0, .int 0, .int 0, .int 0, .int 0])), (xq17, .inr (6, [.ref xq33, .ref xq34, .ref xq35, .int 0, .int 0, .int 0, .int 0, .int 0])), (xq18, .inr (6, [.ref xq36, .ref xq37, .ref xq38, .int 0, .int 0, .int 0, .int 0, .int 0])), (xq19, .inr (6, [.ref xq39, .ref xq40, .ref xq41, .int 0, .int 0, .int 0, .int 0, .int 0]))]) hD hS hA [0, 1, 2, 3, 4, 5, 6, 7] rfl
  refine va_calli (vx_runSW (As := [.ref x, .int x1, .int 0, .int 0, .ref o]) (rest := []) ⟨hx, hb, hml, hown, hts⟩ (c9_L_ways_7 l hlt g x o xq1 xq2 xq4 xq5 xq12 xq22 xq23 xq24 xq25 xq20 xq13 xq14 xq26 xq3 xq27 xq16 xq17 xq18 xq19 xq30 xq31 xq32 xq33 xq34 xq35 xq36 xq37 xq38 xq39 xq40 xq41 _ x1 (by omega)) (vx_cwSW (bytes := cL_ways) (maxL := 6) (ret := (some .int)) (hh := [(0, 12, 15, 21), (0, 12, 19, 15)]) 5 hts g9_law_170 rfl rfl rfl (by decide +kernel) ⟨Nat.le_of_ble_eq_true rfl, Nat.le_of_ble_eq_true rfl⟩) (mPreS (g := g) (wc := [(x, .inr (12, [.ref xq1, .int 0, .ref xq2, .ref xq4, .ref xq5, .ref xq12, .ref xq22, .ref xq23, .int (-1), .ref xq24, .ref xq25, .int 250, .ref xq20, .int 0, .ref xq13, .ref xq14, .ref xq26])), (xq2, .inr (11, [.ref xq3])), (xq3, .inr (10, [.int 1, .int 20, .ref xq27, .int 0])), (xq4, .inl (g.2.1 3, 4, .inr (.inr (.inr (.inr (va_up (va_up (va_up (va_up (fun _ => none) 0 (some xq16)) 1 (some xq17)) 2 (some xq18)) 3 (some xq19))))))), (xq16, .inr (6, [.ref xq30, .ref xq31, .ref xq32, .int 0, .int 0, .int 0, .int 0, .int 0])), (xq17, .inr (6, [.ref xq33, .ref xq34, .ref xq35, .int 0, .int 0, .int 0, .int 0, .int 0])), (xq18, .inr (6, [.ref xq36, .ref xq37, .ref xq38, .int 0, .int 0, .int 0, .int 0, .int 0])), (xq19, .inr (6, [.ref xq39, .ref xq40, .ref xq41, .int 0, .int 0, .int 0, .int 0, .int 0]))]) hE hS hPc hDc hFc) rfl rfl hl.1 rfl (lv_room (Nat.le_of_ble_eq_true rfl)) dL_law_1056 ⟨Nat.le_of_ble_eq_true rfl, Nat.le_of_ble_eq_true rfl⟩) hS (fun q _ h => hFc q h) hFc (fun r_1 u t H1 locs ht hvm hw hB hz1 hk1 hS => ?_)
  replace hw : 2 = r_1 := Eq.symm hw
  subst hw
  obtain ⟨hP1, hD1⟩ := hB
  rw [ht] at hP1
  obtain ⟨hP, hD⟩ := va_join (wr := [(m, .inr (22, [.int 0, .ref mq1, .int 0, .ref mq2, .int 0, .ref mq3, .int 250, .ref mq4, .int 0, .ref mq5, .ref mq6, .ref mq16, .int 0, .ref mq7, .ref mq8, .ref mq9, .int 0, .null, .int 0, .null, .int 0, .int 0, .int 0, .ref mq10, .int 0, .ref mq11, .ref mq12, .ref mq13, .int 0, .ref mq14, .ref mq15, .int 0])), (mq3, .inl (g.2.1 4, 4, .inr (.inr (.inr (.inr (fun _ => none))))))]) (w1 := []) hP hD [0, 1, 2, 3, 4, 5, 6, 7] [8, 9] rfl rfl (by decide) (by decide) hk1 hFc hP1 hD1
  clear hP1 hD1 hPc hDc hFc hk1 hz1 hvm ht
  generalize H1 = H at hP hS ⊢
  have hP : va_P g.1 vwCl [(m, .inr (22, [.int 0, .ref mq1, .int 0, .ref mq2, .int 0, .ref mq3, .int 250, .ref mq4, .int 0, .ref mq5, .ref mq6, .ref mq16, .int 0, .ref mq7, .ref mq8, .ref mq9, .int 0, .null, .int 0, .null, .int 0, .int 0, .int 0, .ref mq10, .int 0, .ref mq11, .ref mq12, .ref mq13, .int 0, .ref mq14, .ref mq15, .int 0])), (mq3, .inl (g.2.1 4, 4, .inr (.inr (.inr (.inr (fun _ => none))))))] H := hP
  have hD : va_D A [(m, .inr (22, [.int 0, .ref mq1, .int 0, .ref mq2, .int 0, .ref mq3, .int 250, .ref mq4, .int 0, .ref mq5, .ref mq6, .ref mq16, .int 0, .ref mq7, .ref mq8, .ref mq9, .int 0, .null, .int 0, .null, .int 0, .int 0, .int 0, .ref mq10, .int 0, .ref mq11, .ref mq12, .ref mq13, .int 0, .ref mq14, .ref mq15, .int 0])), (mq3, .inl (g.2.1 4, 4, .inr (.inr (.inr (.inr (fun _ => none))))))] := hD
  refine lv_istore (lv' := [(5, .int 2), (0, .ref b), (1, .ref x), (2, .ref m), (3, .ref o), (4, .int 0)]) hx hb dL_law_1059 hl (by decide) rfl (fun ls hl => ?_)
  refine lv_aload_n hx hb dL_law_1061 rfl (lv_at hl 3 rfl) ?_
  refine lv_aload_n hx hb dL_law_1062 rfl (lv_at hl 1 rfl) ?_
  refine lv_iload hx hb dL_law_1063 (lv_at hl 5 rfl) ?_
  refine lv_iconst (v := 1) hx hb dL_law_1065 (by decide) ?_
  refine lv_iadd hx hb dL_law_1066 ?_
  refine e_top (y := 1) (by decide) ?_
  refine va_sld hx hb hX hbl hbA hS (vp_in_nI (n := 1) (by decide) (by decide)) dL_law_1067 ?_
  refine e_top (y := x1) e1 ?_
  refine lv_aload_n hx hb dL_law_1068 rfl (lv_at hl 1 rfl) ?_
  refine lv_iload hx hb dL_law_1069 (lv_at hl 5 rfl) ?_
  refine lv_iconst (v := 2) hx hb dL_law_1071 (by decide) ?_
  refine lv_iadd hx hb dL_law_1072 ?_
  refine e_top (y := 2) (by decide) ?_
  refine va_sld hx hb hX hbl hbA hS (vp_in_nI (n := 2) (by decide) (by decide)) dL_law_1073 ?_
  refine e_top (y := 0) e2 ?_
  refine lv_aload_n hx hb dL_law_1074 rfl (lv_at hl 1 rfl) ?_
  refine lv_iload hx hb dL_law_1075 (lv_at hl 5 rfl) ?_
  refine lv_iconst (v := 3) hx hb dL_law_1077 (by decide) ?_
  refine lv_iadd hx hb dL_law_1078 ?_
  refine e_top (y := 3) (by decide) ?_
  refine va_sld hx hb hX hbl hbA hS (vp_in_nI (n := 3) (by decide) (by decide)) dL_law_1079 ?_
  refine e_top (y := 0) e3 ?_
  have hPc := hP.sub (ws' := [(m, .inr (22, [.int 0, .ref mq1, .int 0, .ref mq2, .int 0, .ref mq3, .int 250, .ref mq4, .int 0, .ref mq5, .ref mq6, .ref mq16, .int 0, .ref mq7, .ref mq8, .ref mq9, .int 0, .null, .int 0, .null, .int 0, .int 0, .int 0, .ref mq10, .int 0, .ref mq11, .ref mq12, .ref mq13, .int 0, .ref mq14, .ref mq15, .int 0])), (mq3, .inl (g.2.1 4, 4, .inr (.inr (.inr (.inr (fun _ => none))))))]) [0, 1] rfl
  have hDc := hD.sub (ws' := [(m, .inr (22, [.int 0, .ref mq1, .int 0, .ref mq2, .int 0, .ref mq3, .int 250, .ref mq4, .int 0, .ref mq5, .ref mq6, .ref mq16, .int 0, .ref mq7, .ref mq8, .ref mq9, .int 0, .null, .int 0, .null, .int 0, .int 0, .int 0, .ref mq10, .int 0, .ref mq11, .ref mq12, .ref mq13, .int 0, .ref mq14, .ref mq15, .int 0])), (mq3, .inl (g.2.1 4, 4, .inr (.inr (.inr (.inr (fun _ => none))))))]) [0, 1] (by decide) rfl
  have hFc := va_free (wc := [(m, .inr (22, [.int 0, .ref mq1, .int 0, .ref mq2, .int 0, .ref mq3, .int 250, .ref mq4, .int 0, .ref mq5, .ref mq6, .ref mq16, .int 0, .ref mq7, .ref mq8, .ref mq9, .int 0, .null, .int 0, .null, .int 0, .int 0, .int 0, .ref mq10, .int 0, .ref mq11, .ref mq12, .ref mq13, .int 0, .ref mq14, .ref mq15, .int 0])), (mq3, .inl (g.2.1 4, 4, .inr (.inr (.inr (.inr (fun _ => none))))))]) hD hS hA [0, 1] rfl
  refine va_calli (va_runV (As := [.int x1, .int 0, .int 0]) (rest := []) ⟨hx, hb, hml, hown, hts⟩ (c9_X21_ways_7 l g m mq1 mq2 mq3 mq4 mq5 mq6 mq16 mq7 mq8 mq9 mq10 mq11 mq12 mq13 mq14 mq15 _ x1 (by omega)) (cwV 3 hts g9_law_171 rfl rfl rfl (by decide +kernel) ⟨Nat.le_of_ble_eq_true rfl, Nat.le_of_ble_eq_true rfl⟩) (mPreV (g := g) (wc := [(m, .inr (22, [.int 0, .ref mq1, .int 0, .ref mq2, .int 0, .ref mq3, .int 250, .ref mq4, .int 0, .ref mq5, .ref mq6, .ref mq16, .int 0, .ref mq7, .ref mq8, .ref mq9, .int 0, .null, .int 0, .null, .int 0, .int 0, .int 0, .ref mq10, .int 0, .ref mq11, .ref mq12, .ref mq13, .int 0, .ref mq14, .ref mq15, .int 0])), (mq3, .inl (g.2.1 4, 4, .inr (.inr (.inr (.inr (fun _ => none))))))]) (C := RX21) (ci := 22) (q0 := 0) hE hS hPc hDc hFc rfl rfl) rfl rfl hl.1 rfl (lv_room (Nat.le_of_ble_eq_true rfl)) dL_law_1080 ⟨Nat.le_of_ble_eq_true rfl, Nat.le_of_ble_eq_true rfl⟩) hS (fun q _ h => hFc q h) hFc (fun r_2 u t H1 locs ht hvm hw hB hz1 hk1 hS => ?_)
  replace hw : 0 = r_2 := Eq.symm hw
  subst hw
  obtain ⟨hP1, hD1⟩ := hB
  rw [ht] at hP1
  obtain ⟨hP, hD⟩ := va_join (wr := []) (w1 := [(m, .inr (22, [.int 2, .ref mq1, .int 0, .ref mq2, .int 0, .ref mq3, .int 250, .ref mq4, .int 0, .ref mq5, .ref mq6, .ref mq16, .int 0, .ref mq7, .ref mq8, .ref mq9, .int 0, .null, .int 0, .null, .int 0, .int 0, .int 0, .ref mq10, .int 0, .ref mq11, .ref mq12, .ref mq13, .int 0, .ref mq14, .ref mq15, .int 0])), (mq3, .inl (g.2.1 4, 4, .inr (.inr (.inr (.inr (fun _ => none))))))]) hP hD [0, 1] [] rfl rfl (by decide) (by decide) hk1 hFc hP1 hD1
  clear hP1 hD1 hPc hDc hFc hk1 hz1 hvm ht
  generalize H1 = H at hP hS ⊢
  have hP : va_P g.1 vwCl [(m, .inr (22, [.int 2, .ref mq1, .int 0, .ref mq2, .int 0, .ref mq3, .int 250, .ref mq4, .int 0, .ref mq5, .ref mq6, .ref mq16, .int 0, .ref mq7, .ref mq8, .ref mq9, .int 0, .null, .int 0, .null, .int 0, .int 0, .int 0, .ref mq10, .int 0, .ref mq11, .ref mq12, .ref mq13, .int 0, .ref mq14, .ref mq15, .int 0])), (mq3, .inl (g.2.1 4, 4, .inr (.inr (.inr (.inr (fun _ => none))))))] H := hP
  have hD : va_D A [(m, .inr (22, [.int 2, .ref mq1, .int 0, .ref mq2, .int 0, .ref mq3, .int 250, .ref mq4, .int 0, .ref mq5, .ref mq6, .ref mq16, .int 0, .ref mq7, .ref mq8, .ref mq9, .int 0, .null, .int 0, .null, .int 0, .int 0, .int 0, .ref mq10, .int 0, .ref mq11, .ref mq12, .ref mq13, .int 0, .ref mq14, .ref mq15, .int 0])), (mq3, .inl (g.2.1 4, 4, .inr (.inr (.inr (.inr (fun _ => none))))))] := hD
  refine lv_istore (lv' := [(6, .int 0), (5, .int 2), (0, .ref b), (1, .ref x), (2, .ref m), (3, .ref o), (4, .int 0)]) hx hb dL_law_1083 hl (by decide) rfl (fun ls hl => ?_)
  refine lv_aload_n hx hb dL_law_1085 rfl (lv_at hl 4 rfl) ?_
  have hPc := hP.sub (ws' := [(m, .inr (22, [.int 2, .ref mq1, .int 0, .ref mq2, .int 0, .ref mq3, .int 250, .ref mq4, .int 0, .ref mq5, .ref mq6, .ref mq16, .int 0, .ref mq7, .ref mq8, .ref mq9, .int 0, .null, .int 0, .null, .int 0, .int 0, .int 0, .ref mq10, .int 0, .ref mq11, .ref mq12, .ref mq13, .int 0, .ref mq14, .ref mq15, .int 0]))]) [0] rfl
  have hDc := hD.sub (ws' := [(m, .inr (22, [.int 2, .ref mq1, .int 0, .ref mq2, .int 0, .ref mq3, .int 250, .ref mq4, .int 0, .ref mq5, .ref mq6, .ref mq16, .int 0, .ref mq7, .ref mq8, .ref mq9, .int 0, .null, .int 0, .null, .int 0, .int 0, .int 0, .ref mq10, .int 0, .ref mq11, .ref mq12, .ref mq13, .int 0, .ref mq14, .ref mq15, .int 0]))]) [0] (by decide) rfl
  have hFc := va_free (wc := [(m, .inr (22, [.int 2, .ref mq1, .int 0, .ref mq2, .int 0, .ref mq3, .int 250, .ref mq4, .int 0, .ref mq5, .ref mq6, .ref mq16, .int 0, .ref mq7, .ref mq8, .ref mq9, .int 0, .null, .int 0, .null, .int 0, .int 0, .int 0, .ref mq10, .int 0, .ref mq11, .ref mq12, .ref mq13, .int 0, .ref mq14, .ref mq15, .int 0]))]) hD hS hA [0] rfl
  refine va_calli (va_runV (As := []) (rest := []) ⟨hx, hb, hml, hown, hts⟩ (c9_X21_thrown_3 l g m mq1 mq2 mq3 mq4 mq5 mq6 mq16 mq7 mq8 mq9 mq10 mq11 mq12 mq13 mq14 mq15 _) (cwV 0 hts g9_law_32 rfl rfl rfl (by decide +kernel) ⟨Nat.le_of_ble_eq_true rfl, Nat.le_of_ble_eq_true rfl⟩) (mPreV (g := g) (wc := [(m, .inr (22, [.int 2, .ref mq1, .int 0, .ref mq2, .int 0, .ref mq3, .int 250, .ref mq4, .int 0, .ref mq5, .ref mq6, .ref mq16, .int 0, .ref mq7, .ref mq8, .ref mq9, .int 0, .null, .int 0, .null, .int 0, .int 0, .int 0, .ref mq10, .int 0, .ref mq11, .ref mq12, .ref mq13, .int 0, .ref mq14, .ref mq15, .int 0]))]) (C := RX21) (ci := 22) (q0 := 0) hE hS hPc hDc hFc rfl rfl) rfl rfl hl.1 rfl (lv_room (Nat.le_of_ble_eq_true rfl)) dL_law_1086 ⟨Nat.le_of_ble_eq_true rfl, Nat.le_of_ble_eq_true rfl⟩) hS (fun q _ h => hFc q h) hFc (fun r_3 u t H1 locs ht hvm hw hB hz1 hk1 hS => ?_)
  replace hw : 2 = r_3 := Eq.symm hw
  subst hw
  obtain ⟨hP1, hD1⟩ := hB
  rw [ht] at hP1
  obtain ⟨hP, hD⟩ := va_join (wr := [(mq3, .inl (g.2.1 4, 4, .inr (.inr (.inr (.inr (fun _ => none))))))]) (w1 := [(m, .inr (22, [.int 2, .ref mq1, .int 0, .ref mq2, .int 0, .ref mq3, .int 250, .ref mq4, .int 0, .ref mq5, .ref mq6, .ref mq16, .int 0, .ref mq7, .ref mq8, .ref mq9, .int 0, .null, .int 0, .null, .int 0, .int 0, .int 0, .ref mq10, .int 0, .ref mq11, .ref mq12, .ref mq13, .int 0, .ref mq14, .ref mq15, .int 0]))]) hP hD [0] [1] rfl rfl (by decide) (by decide) hk1 hFc hP1 hD1
  clear hP1 hD1 hPc hDc hFc hk1 hz1 hvm ht
  generalize H1 = H at hP hS ⊢
  have hP : va_P g.1 vwCl [(mq3, .inl (g.2.1 4, 4, .inr (.inr (.inr (.inr (fun _ => none)))))), (m, .inr (22, [.int 2, .ref mq1, .int 0, .ref mq2, .int 0, .ref mq3, .int 250, .ref mq4, .int 0, .ref mq5, .ref mq6, .ref mq16, .int 0, .ref mq7, .ref mq8, .ref mq9, .int 0, .null, .int 0, .null, .int 0, .int 0, .int 0, .ref mq10, .int 0, .ref mq11, .ref mq12, .ref mq13, .int 0, .ref mq14, .ref mq15, .int 0]))] H := hP
  have hD : va_D A [(mq3, .inl (g.2.1 4, 4, .inr (.inr (.inr (.inr (fun _ => none)))))), (m, .inr (22, [.int 2, .ref mq1, .int 0, .ref mq2, .int 0, .ref mq3, .int 250, .ref mq4, .int 0, .ref mq5, .ref mq6, .ref mq16, .int 0, .ref mq7, .ref mq8, .ref mq9, .int 0, .null, .int 0, .null, .int 0, .int 0, .int 0, .ref mq10, .int 0, .ref mq11, .ref mq12, .ref mq13, .int 0, .ref mq14, .ref mq15, .int 0]))] := hD
  refine lv_iload hx hb dL_law_1089 (lv_at hl 1 rfl) ?_
  refine lv_icmp_eq (tgt := 1096) hx hb dL_law_1091 (by decide) (fun _ => ?_) (fun c9 => absurd (by decide) c9)
  refine lv_iload hx hb dL_law_1096 (lv_at hl 1 rfl) ?_
  refine lv_if_ne (tgt := 1113) hx hb dL_law_1098 (by decide) (fun _ => ?_) (fun c9 => absurd c9 (by decide))
  refine lv_goto (tgt := 1368) hx hb dL_law_1113 (by decide) ?_
  subst hAe
  exact law_end C0 hS (lv_sub hl [2, 6] rfl) (Nat.le_of_ble_eq_true rfl) (Nat.le_of_ble_eq_true rfl)
set_option maxHeartbeats 4000000 in
set_option maxRecDepth 100000 in
theorem law_22_n {p : Program} {l : Launch} {e : Env} {s : State} {m9 : MethodId} {below : List Frame} {meth : Method} {c : Code} {g : G9} {b : Nat} {xs : Nat → Int32} (hlt : l.stackTraces = false) (C0 : lw_At p s m9 meth c b 4 xs) (hE : EE g (fun q : Nat => s.heap.size ≤ q) s) (x m o xq1 xq2 xq4 xq5 xq12 xq22 xq23 xq24 xq25 xq20 xq13 xq14 xq26 mq1 mq2 mq3 mq4 mq5 mq6 mq16 mq7 mq8 mq9 mq10 mq11 mq12 mq13 mq14 mq15 : Nat) (x1 : Int32) (e1 : xs 1 = x1) (k_x1 : (-2147483648) ≤ x1.toInt ∧ x1.toInt ≤ (-1)) : ∀ (H : Heap) (locs : List Loc) (ls : Array Slot), va_P g.1 vwCl [(x, .inr (12, [.ref xq1, .int 0, .ref xq2, .ref xq4, .ref xq5, .ref xq12, .ref xq22, .ref xq23, .int (-1), .ref xq24, .ref xq25, .int 250, .ref xq20, .int 0, .ref xq13, .ref xq14, .ref xq26])), (m, .inr (22, [.int 0, .ref mq1, .int 0, .ref mq2, .int 0, .ref mq3, .int 250, .ref mq4, .int 0, .ref mq5, .ref mq6, .ref mq16, .int 0, .ref mq7, .ref mq8, .ref mq9, .int 0, .null, .int 0, .null, .int 0, .int 0, .int 0, .ref mq10, .int 0, .ref mq11, .ref mq12, .ref mq13, .int 0, .ref mq14, .ref mq15, .int 0]))] H → va_D (fun q : Nat => s.heap.size ≤ q) [(x, .inr (12, [.ref xq1, .int 0, .ref xq2, .ref xq4, .ref xq5, .ref xq12, .ref xq22, .ref xq23, .int (-1), .ref xq24, .ref xq25, .int 250, .ref xq20, .int 0, .ref xq13, .ref xq14, .ref xq26])), (m, .inr (22, [.int 0, .ref mq1, .int 0, .ref mq2, .int 0, .ref mq3, .int 250, .ref mq4, .int 0, .ref mq5, .ref mq6, .ref mq16, .int 0, .ref mq7, .ref mq8, .ref mq9, .int 0, .null, .int 0, .null, .int 0, .int 0, .int 0, .ref mq10, .int 0, .ref mq11, .ref mq12, .ref mq13, .int 0, .ref mq14, .ref mq15, .int 0]))] → va_S (fun q : Nat => s.heap.size ≤ q) s.heap H locs → lv_has ls 7 [(0, .ref b), (1, .ref x), (2, .ref m), (3, .ref o), (4, .int 0)] → W p l e room_1 s m9 #[Value.ref b] below meth c H locs 106 7589 (lw_Z below #[Value.ref b] s) (F0 m9 1312 ls []) := by
  intro H locs ls hP hD hS hl
  obtain ⟨hx, hb, hr, hml, hown, hts0, hX, hbl, hlocks, hgv⟩ := id C0
  have hts : ∀ w ∈ w9_law, w.before #[Value.ref b] s = true := fun w h => hts0 w (w9_law_in w h)
  generalize hAe : (fun q : Nat => s.heap.size ≤ q) = A at hE hD hS
  have hA : ∀ q : Nat, s.heap.size ≤ q → A q := fun q h => by rw [← hAe]; exact h
  have hbA : ¬ A b := by rw [← hAe]; exact Nat.not_le.mpr hbl
  have hK := hE.1
  refine lv_aload_n hx hb dL_law_1312 rfl (lv_at hl 1 rfl) ?_
  refine lv_aload_n hx hb dL_law_1313 rfl (lv_at hl 0 rfl) ?_
  refine lv_iload hx hb dL_law_1314 (lv_at hl 4 rfl) ?_
  refine lv_iconst (v := 1) hx hb dL_law_1316 (by decide) ?_
  refine lv_iadd hx hb dL_law_1317 ?_
  refine e_top (y := 1) (by decide) ?_
  refine va_sld hx hb hX hbl hbA hS (vp_in_nI (n := 1) (by decide) (by decide)) dL_law_1318 ?_
  refine e_top (y := x1) e1 ?_
  refine lv_aload_n hx hb dL_law_1319 rfl (lv_at hl 3 rfl) ?_
  have hPc := hP.sub (ws' := [(x, .inr (12, [.ref xq1, .int 0, .ref xq2, .ref xq4, .ref xq5, .ref xq12, .ref xq22, .ref xq23, .int (-1), .ref xq24, .ref xq25, .int 250, .ref xq20, .int 0, .ref xq13, .ref xq14, .ref xq26]))]) [0] rfl
  have hDc := hD.sub (ws' := [(x, .inr (12, [.ref xq1, .int 0, .ref xq2, .ref xq4, .ref xq5, .ref xq12, .ref xq22, .ref xq23, .int (-1), .ref xq24, .ref xq25, .int 250, .ref xq20, .int 0, .ref xq13, .ref xq14, .ref xq26]))]) [0] (by decide) rfl
  have hFc := va_free (wc := [(x, .inr (12, [.ref xq1, .int 0, .ref xq2, .ref xq4, .ref xq5, .ref xq12, .ref xq22, .ref xq23, .int (-1), .ref xq24, .ref xq25, .int 250, .ref xq20, .int 0, .ref xq13, .ref xq14, .ref xq26]))]) hD hS hA [0] rfl
  refine va_calli (vx_runSW (As := [.ref x, .int x1, .ref o]) (rest := []) ⟨hx, hb, hml, hown, hts⟩ (c9_L_outSign_1 l hlt g x o xq1 xq2 xq4 xq5 xq12 xq22 xq23 xq24 xq25 xq20 xq13 xq14 xq26 _ x1 (by omega)) (vx_cwSW (bytes := cL_outSign) (maxL := 4) (ret := (some .int)) (hh := [(0, 9, 12, 21)]) 3 hts g9_law_172 rfl rfl rfl (by decide +kernel) ⟨Nat.le_of_ble_eq_true rfl, Nat.le_of_ble_eq_true rfl⟩) (mPreS (g := g) (wc := [(x, .inr (12, [.ref xq1, .int 0, .ref xq2, .ref xq4, .ref xq5, .ref xq12, .ref xq22, .ref xq23, .int (-1), .ref xq24, .ref xq25, .int 250, .ref xq20, .int 0, .ref xq13, .ref xq14, .ref xq26]))]) hE hS hPc hDc hFc) rfl rfl hl.1 rfl (lv_room (Nat.le_of_ble_eq_true rfl)) dL_law_1320 ⟨Nat.le_of_ble_eq_true rfl, Nat.le_of_ble_eq_true rfl⟩) hS (fun q _ h => hFc q h) hFc (fun r_1 u t H1 locs ht hvm hw hB hz1 hk1 hS => ?_)
  replace hw : 1 = r_1 := Eq.symm hw
  subst hw
  obtain ⟨hP1, hD1⟩ := hB
  rw [ht] at hP1
  obtain ⟨hP, hD⟩ := va_join (wr := [(m, .inr (22, [.int 0, .ref mq1, .int 0, .ref mq2, .int 0, .ref mq3, .int 250, .ref mq4, .int 0, .ref mq5, .ref mq6, .ref mq16, .int 0, .ref mq7, .ref mq8, .ref mq9, .int 0, .null, .int 0, .null, .int 0, .int 0, .int 0, .ref mq10, .int 0, .ref mq11, .ref mq12, .ref mq13, .int 0, .ref mq14, .ref mq15, .int 0]))]) (w1 := []) hP hD [0] [1] rfl rfl (by decide) (by decide) hk1 hFc hP1 hD1
  clear hP1 hD1 hPc hDc hFc hk1 hz1 hvm ht
  generalize H1 = H at hP hS ⊢
  have hP : va_P g.1 vwCl [(m, .inr (22, [.int 0, .ref mq1, .int 0, .ref mq2, .int 0, .ref mq3, .int 250, .ref mq4, .int 0, .ref mq5, .ref mq6, .ref mq16, .int 0, .ref mq7, .ref mq8, .ref mq9, .int 0, .null, .int 0, .null, .int 0, .int 0, .int 0, .ref mq10, .int 0, .ref mq11, .ref mq12, .ref mq13, .int 0, .ref mq14, .ref mq15, .int 0]))] H := hP
  have hD : va_D A [(m, .inr (22, [.int 0, .ref mq1, .int 0, .ref mq2, .int 0, .ref mq3, .int 250, .ref mq4, .int 0, .ref mq5, .ref mq6, .ref mq16, .int 0, .ref mq7, .ref mq8, .ref mq9, .int 0, .null, .int 0, .null, .int 0, .int 0, .int 0, .ref mq10, .int 0, .ref mq11, .ref mq12, .ref mq13, .int 0, .ref mq14, .ref mq15, .int 0]))] := hD
  refine lv_istore (lv' := [(5, .int 1), (0, .ref b), (1, .ref x), (2, .ref m), (3, .ref o), (4, .int 0)]) hx hb dL_law_1323 hl (by decide) rfl (fun ls hl => ?_)
  refine lv_aload_n hx hb dL_law_1325 rfl (lv_at hl 3 rfl) ?_
  refine lv_aload_n hx hb dL_law_1326 rfl (lv_at hl 1 rfl) ?_
  refine lv_iload hx hb dL_law_1327 (lv_at hl 5 rfl) ?_
  refine lv_iconst (v := 1) hx hb dL_law_1329 (by decide) ?_
  refine lv_iadd hx hb dL_law_1330 ?_
  refine e_top (y := 1) (by decide) ?_
  refine va_sld hx hb hX hbl hbA hS (vp_in_nI (n := 1) (by decide) (by decide)) dL_law_1331 ?_
  refine e_top (y := x1) e1 ?_
  have hPc := hP.sub (ws' := [(m, .inr (22, [.int 0, .ref mq1, .int 0, .ref mq2, .int 0, .ref mq3, .int 250, .ref mq4, .int 0, .ref mq5, .ref mq6, .ref mq16, .int 0, .ref mq7, .ref mq8, .ref mq9, .int 0, .null, .int 0, .null, .int 0, .int 0, .int 0, .ref mq10, .int 0, .ref mq11, .ref mq12, .ref mq13, .int 0, .ref mq14, .ref mq15, .int 0]))]) [0] rfl
  have hDc := hD.sub (ws' := [(m, .inr (22, [.int 0, .ref mq1, .int 0, .ref mq2, .int 0, .ref mq3, .int 250, .ref mq4, .int 0, .ref mq5, .ref mq6, .ref mq16, .int 0, .ref mq7, .ref mq8, .ref mq9, .int 0, .null, .int 0, .null, .int 0, .int 0, .int 0, .ref mq10, .int 0, .ref mq11, .ref mq12, .ref mq13, .int 0, .ref mq14, .ref mq15, .int 0]))]) [0] (by decide) rfl
  have hFc := va_free (wc := [(m, .inr (22, [.int 0, .ref mq1, .int 0, .ref mq2, .int 0, .ref mq3, .int 250, .ref mq4, .int 0, .ref mq5, .ref mq6, .ref mq16, .int 0, .ref mq7, .ref mq8, .ref mq9, .int 0, .null, .int 0, .null, .int 0, .int 0, .int 0, .ref mq10, .int 0, .ref mq11, .ref mq12, .ref mq13, .int 0, .ref mq14, .ref mq15, .int 0]))]) hD hS hA [0] rfl
  refine va_calli (va_runV (As := [.int x1]) (rest := []) ⟨hx, hb, hml, hown, hts⟩ (c9_X21_outSign_1 l g m mq1 mq2 mq3 mq4 mq5 mq6 mq16 mq7 mq8 mq9 mq10 mq11 mq12 mq13 mq14 mq15 _ x1 (by omega)) (cwV 1 hts g9_law_173 rfl rfl rfl (by decide +kernel) ⟨Nat.le_of_ble_eq_true rfl, Nat.le_of_ble_eq_true rfl⟩) (mPreV (g := g) (wc := [(m, .inr (22, [.int 0, .ref mq1, .int 0, .ref mq2, .int 0, .ref mq3, .int 250, .ref mq4, .int 0, .ref mq5, .ref mq6, .ref mq16, .int 0, .ref mq7, .ref mq8, .ref mq9, .int 0, .null, .int 0, .null, .int 0, .int 0, .int 0, .ref mq10, .int 0, .ref mq11, .ref mq12, .ref mq13, .int 0, .ref mq14, .ref mq15, .int 0]))]) (C := RX21) (ci := 22) (q0 := 0) hE hS hPc hDc hFc rfl rfl) rfl rfl hl.1 rfl (lv_room (Nat.le_of_ble_eq_true rfl)) dL_law_1332 ⟨Nat.le_of_ble_eq_true rfl, Nat.le_of_ble_eq_true rfl⟩) hS (fun q _ h => hFc q h) hFc (fun r_2 u t H1 locs ht hvm hw hB hz1 hk1 hS => ?_)
  replace hw : 32 = r_2 := Eq.symm hw
  subst hw
  obtain ⟨hP1, hD1⟩ := hB
  rw [ht] at hP1
  obtain ⟨hP, hD⟩ := va_join (wr := []) (w1 := [(m, .inr (22, [.int 1, .ref mq1, .int 0, .ref mq2, .int 0, .ref mq3, .int 250, .ref mq4, .int 0, .ref mq5, .ref mq6, .ref mq16, .int 0, .ref mq7, .ref mq8, .ref mq9, .int 0, .null, .int 0, .null, .int 0, .int 0, .int 0, .ref mq10, .int 0, .ref mq11, .ref mq12, .ref mq13, .int 0, .ref mq14, .ref mq15, .int 0]))]) hP hD [0] [] rfl rfl (by decide) (by decide) hk1 hFc hP1 hD1
  clear hP1 hD1 hPc hDc hFc hk1 hz1 hvm ht
  generalize H1 = H at hP hS ⊢
  have hP : va_P g.1 vwCl [(m, .inr (22, [.int 1, .ref mq1, .int 0, .ref mq2, .int 0, .ref mq3, .int 250, .ref mq4, .int 0, .ref mq5, .ref mq6, .ref mq16, .int 0, .ref mq7, .ref mq8, .ref mq9, .int 0, .null, .int 0, .null, .int 0, .int 0, .int 0, .ref mq10, .int 0, .ref mq11, .ref mq12, .ref mq13, .int 0, .ref mq14, .ref mq15, .int 0]))] H := hP
  have hD : va_D A [(m, .inr (22, [.int 1, .ref mq1, .int 0, .ref mq2, .int 0, .ref mq3, .int 250, .ref mq4, .int 0, .ref mq5, .ref mq6, .ref mq16, .int 0, .ref mq7, .ref mq8, .ref mq9, .int 0, .null, .int 0, .null, .int 0, .int 0, .int 0, .ref mq10, .int 0, .ref mq11, .ref mq12, .ref mq13, .int 0, .ref mq14, .ref mq15, .int 0]))] := hD
  refine lv_istore (lv' := [(6, .int 32), (5, .int 1), (0, .ref b), (1, .ref x), (2, .ref m), (3, .ref o), (4, .int 0)]) hx hb dL_law_1335 hl (by decide) rfl (fun ls hl => ?_)
  refine lv_aload_n hx hb dL_law_1337 rfl (lv_at hl 4 rfl) ?_
  have hPc := hP.sub (ws' := [(m, .inr (22, [.int 1, .ref mq1, .int 0, .ref mq2, .int 0, .ref mq3, .int 250, .ref mq4, .int 0, .ref mq5, .ref mq6, .ref mq16, .int 0, .ref mq7, .ref mq8, .ref mq9, .int 0, .null, .int 0, .null, .int 0, .int 0, .int 0, .ref mq10, .int 0, .ref mq11, .ref mq12, .ref mq13, .int 0, .ref mq14, .ref mq15, .int 0]))]) [0] rfl
  have hDc := hD.sub (ws' := [(m, .inr (22, [.int 1, .ref mq1, .int 0, .ref mq2, .int 0, .ref mq3, .int 250, .ref mq4, .int 0, .ref mq5, .ref mq6, .ref mq16, .int 0, .ref mq7, .ref mq8, .ref mq9, .int 0, .null, .int 0, .null, .int 0, .int 0, .int 0, .ref mq10, .int 0, .ref mq11, .ref mq12, .ref mq13, .int 0, .ref mq14, .ref mq15, .int 0]))]) [0] (by decide) rfl
  have hFc := va_free (wc := [(m, .inr (22, [.int 1, .ref mq1, .int 0, .ref mq2, .int 0, .ref mq3, .int 250, .ref mq4, .int 0, .ref mq5, .ref mq6, .ref mq16, .int 0, .ref mq7, .ref mq8, .ref mq9, .int 0, .null, .int 0, .null, .int 0, .int 0, .int 0, .ref mq10, .int 0, .ref mq11, .ref mq12, .ref mq13, .int 0, .ref mq14, .ref mq15, .int 0]))]) hD hS hA [0] rfl
  refine va_calli (va_runV (As := []) (rest := []) ⟨hx, hb, hml, hown, hts⟩ (c9_X21_thrown_2 l g m mq1 mq2 mq3 mq4 mq5 mq6 mq16 mq7 mq8 mq9 mq10 mq11 mq12 mq13 mq14 mq15 _) (cwV 0 hts g9_law_15 rfl rfl rfl (by decide +kernel) ⟨Nat.le_of_ble_eq_true rfl, Nat.le_of_ble_eq_true rfl⟩) (mPreV (g := g) (wc := [(m, .inr (22, [.int 1, .ref mq1, .int 0, .ref mq2, .int 0, .ref mq3, .int 250, .ref mq4, .int 0, .ref mq5, .ref mq6, .ref mq16, .int 0, .ref mq7, .ref mq8, .ref mq9, .int 0, .null, .int 0, .null, .int 0, .int 0, .int 0, .ref mq10, .int 0, .ref mq11, .ref mq12, .ref mq13, .int 0, .ref mq14, .ref mq15, .int 0]))]) (C := RX21) (ci := 22) (q0 := 0) hE hS hPc hDc hFc rfl rfl) rfl rfl hl.1 rfl (lv_room (Nat.le_of_ble_eq_true rfl)) dL_law_1338 ⟨Nat.le_of_ble_eq_true rfl, Nat.le_of_ble_eq_true rfl⟩) hS (fun q _ h => hFc q h) hFc (fun r_3 u t H1 locs ht hvm hw hB hz1 hk1 hS => ?_)
  replace hw : 1 = r_3 := Eq.symm hw
  subst hw
  obtain ⟨hP1, hD1⟩ := hB
  rw [ht] at hP1
  obtain ⟨hP, hD⟩ := va_join (wr := []) (w1 := [(m, .inr (22, [.int 1, .ref mq1, .int 0, .ref mq2, .int 0, .ref mq3, .int 250, .ref mq4, .int 0, .ref mq5, .ref mq6, .ref mq16, .int 0, .ref mq7, .ref mq8, .ref mq9, .int 0, .null, .int 0, .null, .int 0, .int 0, .int 0, .ref mq10, .int 0, .ref mq11, .ref mq12, .ref mq13, .int 0, .ref mq14, .ref mq15, .int 0]))]) hP hD [0] [] rfl rfl (by decide) (by decide) hk1 hFc hP1 hD1
  clear hP1 hD1 hPc hDc hFc hk1 hz1 hvm ht
  generalize H1 = H at hP hS ⊢
  have hP : va_P g.1 vwCl [(m, .inr (22, [.int 1, .ref mq1, .int 0, .ref mq2, .int 0, .ref mq3, .int 250, .ref mq4, .int 0, .ref mq5, .ref mq6, .ref mq16, .int 0, .ref mq7, .ref mq8, .ref mq9, .int 0, .null, .int 0, .null, .int 0, .int 0, .int 0, .ref mq10, .int 0, .ref mq11, .ref mq12, .ref mq13, .int 0, .ref mq14, .ref mq15, .int 0]))] H := hP
  have hD : va_D A [(m, .inr (22, [.int 1, .ref mq1, .int 0, .ref mq2, .int 0, .ref mq3, .int 250, .ref mq4, .int 0, .ref mq5, .ref mq6, .ref mq16, .int 0, .ref mq7, .ref mq8, .ref mq9, .int 0, .null, .int 0, .null, .int 0, .int 0, .int 0, .ref mq10, .int 0, .ref mq11, .ref mq12, .ref mq13, .int 0, .ref mq14, .ref mq15, .int 0]))] := hD
  refine lv_iload hx hb dL_law_1341 (lv_at hl 1 rfl) ?_
  refine lv_icmp_eq (tgt := 1348) hx hb dL_law_1343 (by decide) (fun _ => ?_) (fun c9 => absurd (by decide) c9)
  refine lv_iload hx hb dL_law_1348 (lv_at hl 1 rfl) ?_
  refine lv_if_ne (tgt := 1365) hx hb dL_law_1350 (by decide) (fun _ => ?_) (fun c9 => absurd c9 (by decide))
  refine lv_goto (tgt := 1368) hx hb dL_law_1365 (by decide) ?_
  subst hAe
  exact law_end C0 hS (lv_sub hl [2, 6] rfl) (Nat.le_of_ble_eq_true rfl) (Nat.le_of_ble_eq_true rfl)
set_option maxHeartbeats 4000000 in
set_option maxRecDepth 100000 in
theorem law_22_i {p : Program} {l : Launch} {e : Env} {s : State} {m9 : MethodId} {below : List Frame} {meth : Method} {c : Code} {g : G9} {b : Nat} {xs : Nat → Int32} (hlt : l.stackTraces = false) (C0 : lw_At p s m9 meth c b 4 xs) (hE : EE g (fun q : Nat => s.heap.size ≤ q) s) (x m o xq1 xq2 xq4 xq5 xq12 xq22 xq23 xq24 xq25 xq20 xq13 xq14 xq26 xq15 xq29 mq1 mq2 mq3 mq4 mq5 mq6 mq16 mq7 mq8 mq9 mq10 mq11 mq12 mq13 mq14 mq15 : Nat) (x1 : Int32) (e1 : xs 1 = x1) (k_x1 : 0 ≤ x1.toInt ∧ x1.toInt ≤ 2147483647) : ∀ (H : Heap) (locs : List Loc) (ls : Array Slot), va_P g.1 vwCl [(x, .inr (12, [.ref xq1, .int 0, .ref xq2, .ref xq4, .ref xq5, .ref xq12, .ref xq22, .ref xq23, .int (-1), .ref xq24, .ref xq25, .int 250, .ref xq20, .int 0, .ref xq13, .ref xq14, .ref xq26])), (xq14, .inr (5, [.ref xq15, .int 0])), (xq15, .inr (10, [.int 1, .int 100, .ref xq29, .int 0])), (m, .inr (22, [.int 0, .ref mq1, .int 0, .ref mq2, .int 0, .ref mq3, .int 250, .ref mq4, .int 0, .ref mq5, .ref mq6, .ref mq16, .int 0, .ref mq7, .ref mq8, .ref mq9, .int 0, .null, .int 0, .null, .int 0, .int 0, .int 0, .ref mq10, .int 0, .ref mq11, .ref mq12, .ref mq13, .int 0, .ref mq14, .ref mq15, .int 0]))] H → va_D (fun q : Nat => s.heap.size ≤ q) [(x, .inr (12, [.ref xq1, .int 0, .ref xq2, .ref xq4, .ref xq5, .ref xq12, .ref xq22, .ref xq23, .int (-1), .ref xq24, .ref xq25, .int 250, .ref xq20, .int 0, .ref xq13, .ref xq14, .ref xq26])), (xq14, .inr (5, [.ref xq15, .int 0])), (xq15, .inr (10, [.int 1, .int 100, .ref xq29, .int 0])), (m, .inr (22, [.int 0, .ref mq1, .int 0, .ref mq2, .int 0, .ref mq3, .int 250, .ref mq4, .int 0, .ref mq5, .ref mq6, .ref mq16, .int 0, .ref mq7, .ref mq8, .ref mq9, .int 0, .null, .int 0, .null, .int 0, .int 0, .int 0, .ref mq10, .int 0, .ref mq11, .ref mq12, .ref mq13, .int 0, .ref mq14, .ref mq15, .int 0]))] → va_S (fun q : Nat => s.heap.size ≤ q) s.heap H locs → lv_has ls 7 [(0, .ref b), (1, .ref x), (2, .ref m), (3, .ref o), (4, .int 0)] → W p l e room_1 s m9 #[Value.ref b] below meth c H locs 106 7589 (lw_Z below #[Value.ref b] s) (F0 m9 1312 ls []) := by
  intro H locs ls hP hD hS hl
  obtain ⟨hx, hb, hr, hml, hown, hts0, hX, hbl, hlocks, hgv⟩ := id C0
  have hts : ∀ w ∈ w9_law, w.before #[Value.ref b] s = true := fun w h => hts0 w (w9_law_in w h)
  generalize hAe : (fun q : Nat => s.heap.size ≤ q) = A at hE hD hS
  have hA : ∀ q : Nat, s.heap.size ≤ q → A q := fun q h => by rw [← hAe]; exact h
  have hbA : ¬ A b := by rw [← hAe]; exact Nat.not_le.mpr hbl
  have hK := hE.1
  refine lv_aload_n hx hb dL_law_1312 rfl (lv_at hl 1 rfl) ?_
  refine lv_aload_n hx hb dL_law_1313 rfl (lv_at hl 0 rfl) ?_
  refine lv_iload hx hb dL_law_1314 (lv_at hl 4 rfl) ?_
  refine lv_iconst (v := 1) hx hb dL_law_1316 (by decide) ?_
  refine lv_iadd hx hb dL_law_1317 ?_
  refine e_top (y := 1) (by decide) ?_
  refine va_sld hx hb hX hbl hbA hS (vp_in_nI (n := 1) (by decide) (by decide)) dL_law_1318 ?_
  refine e_top (y := x1) e1 ?_
  refine lv_aload_n hx hb dL_law_1319 rfl (lv_at hl 3 rfl) ?_
  have hPc := hP.sub (ws' := [(x, .inr (12, [.ref xq1, .int 0, .ref xq2, .ref xq4, .ref xq5, .ref xq12, .ref xq22, .ref xq23, .int (-1), .ref xq24, .ref xq25, .int 250, .ref xq20, .int 0, .ref xq13, .ref xq14, .ref xq26])), (xq14, .inr (5, [.ref xq15, .int 0])), (xq15, .inr (10, [.int 1, .int 100, .ref xq29, .int 0]))]) [0, 1, 2] rfl
  have hDc := hD.sub (ws' := [(x, .inr (12, [.ref xq1, .int 0, .ref xq2, .ref xq4, .ref xq5, .ref xq12, .ref xq22, .ref xq23, .int (-1), .ref xq24, .ref xq25, .int 250, .ref xq20, .int 0, .ref xq13, .ref xq14, .ref xq26])), (xq14, .inr (5, [.ref xq15, .int 0])), (xq15, .inr (10, [.int 1, .int 100, .ref xq29, .int 0]))]) [0, 1, 2] (by decide) rfl
  have hFc := va_free (wc := [(x, .inr (12, [.ref xq1, .int 0, .ref xq2, .ref xq4, .ref xq5, .ref xq12, .ref xq22, .ref xq23, .int (-1), .ref xq24, .ref xq25, .int 250, .ref xq20, .int 0, .ref xq13, .ref xq14, .ref xq26])), (xq14, .inr (5, [.ref xq15, .int 0])), (xq15, .inr (10, [.int 1, .int 100, .ref xq29, .int 0]))]) hD hS hA [0, 1, 2] rfl
  refine va_calli (vx_runSW (As := [.ref x, .int x1, .ref o]) (rest := []) ⟨hx, hb, hml, hown, hts⟩ (c9_L_outSign_2 l hlt g x o xq1 xq2 xq4 xq5 xq12 xq22 xq23 xq24 xq25 xq20 xq13 xq14 xq26 xq15 xq29 _ x1 (by omega)) (vx_cwSW (bytes := cL_outSign) (maxL := 4) (ret := (some .int)) (hh := [(0, 9, 12, 21)]) 3 hts g9_law_174 rfl rfl rfl (by decide +kernel) ⟨Nat.le_of_ble_eq_true rfl, Nat.le_of_ble_eq_true rfl⟩) (mPreS (g := g) (wc := [(x, .inr (12, [.ref xq1, .int 0, .ref xq2, .ref xq4, .ref xq5, .ref xq12, .ref xq22, .ref xq23, .int (-1), .ref xq24, .ref xq25, .int 250, .ref xq20, .int 0, .ref xq13, .ref xq14, .ref xq26])), (xq14, .inr (5, [.ref xq15, .int 0])), (xq15, .inr (10, [.int 1, .int 100, .ref xq29, .int 0]))]) hE hS hPc hDc hFc) rfl rfl hl.1 rfl (lv_room (Nat.le_of_ble_eq_true rfl)) dL_law_1320 ⟨Nat.le_of_ble_eq_true rfl, Nat.le_of_ble_eq_true rfl⟩) hS (fun q _ h => hFc q h) hFc (fun r_1 u t H1 locs ht hvm hw hB hz1 hk1 hS => ?_)
  replace hw : 1 = r_1 := Eq.symm hw
  subst hw
  obtain ⟨hP1, hD1⟩ := hB
  rw [ht] at hP1
  obtain ⟨hP, hD⟩ := va_join (wr := [(m, .inr (22, [.int 0, .ref mq1, .int 0, .ref mq2, .int 0, .ref mq3, .int 250, .ref mq4, .int 0, .ref mq5, .ref mq6, .ref mq16, .int 0, .ref mq7, .ref mq8, .ref mq9, .int 0, .null, .int 0, .null, .int 0, .int 0, .int 0, .ref mq10, .int 0, .ref mq11, .ref mq12, .ref mq13, .int 0, .ref mq14, .ref mq15, .int 0]))]) (w1 := []) hP hD [0, 1, 2] [3] rfl rfl (by decide) (by decide) hk1 hFc hP1 hD1
  clear hP1 hD1 hPc hDc hFc hk1 hz1 hvm ht
  generalize H1 = H at hP hS ⊢
  have hP : va_P g.1 vwCl [(m, .inr (22, [.int 0, .ref mq1, .int 0, .ref mq2, .int 0, .ref mq3, .int 250, .ref mq4, .int 0, .ref mq5, .ref mq6, .ref mq16, .int 0, .ref mq7, .ref mq8, .ref mq9, .int 0, .null, .int 0, .null, .int 0, .int 0, .int 0, .ref mq10, .int 0, .ref mq11, .ref mq12, .ref mq13, .int 0, .ref mq14, .ref mq15, .int 0]))] H := hP
  have hD : va_D A [(m, .inr (22, [.int 0, .ref mq1, .int 0, .ref mq2, .int 0, .ref mq3, .int 250, .ref mq4, .int 0, .ref mq5, .ref mq6, .ref mq16, .int 0, .ref mq7, .ref mq8, .ref mq9, .int 0, .null, .int 0, .null, .int 0, .int 0, .int 0, .ref mq10, .int 0, .ref mq11, .ref mq12, .ref mq13, .int 0, .ref mq14, .ref mq15, .int 0]))] := hD
  refine lv_istore (lv' := [(5, .int 1), (0, .ref b), (1, .ref x), (2, .ref m), (3, .ref o), (4, .int 0)]) hx hb dL_law_1323 hl (by decide) rfl (fun ls hl => ?_)
  refine lv_aload_n hx hb dL_law_1325 rfl (lv_at hl 3 rfl) ?_
  refine lv_aload_n hx hb dL_law_1326 rfl (lv_at hl 1 rfl) ?_
  refine lv_iload hx hb dL_law_1327 (lv_at hl 5 rfl) ?_
  refine lv_iconst (v := 1) hx hb dL_law_1329 (by decide) ?_
  refine lv_iadd hx hb dL_law_1330 ?_
  refine e_top (y := 1) (by decide) ?_
  refine va_sld hx hb hX hbl hbA hS (vp_in_nI (n := 1) (by decide) (by decide)) dL_law_1331 ?_
  refine e_top (y := x1) e1 ?_
  have hPc := hP.sub (ws' := [(m, .inr (22, [.int 0, .ref mq1, .int 0, .ref mq2, .int 0, .ref mq3, .int 250, .ref mq4, .int 0, .ref mq5, .ref mq6, .ref mq16, .int 0, .ref mq7, .ref mq8, .ref mq9, .int 0, .null, .int 0, .null, .int 0, .int 0, .int 0, .ref mq10, .int 0, .ref mq11, .ref mq12, .ref mq13, .int 0, .ref mq14, .ref mq15, .int 0]))]) [0] rfl
  have hDc := hD.sub (ws' := [(m, .inr (22, [.int 0, .ref mq1, .int 0, .ref mq2, .int 0, .ref mq3, .int 250, .ref mq4, .int 0, .ref mq5, .ref mq6, .ref mq16, .int 0, .ref mq7, .ref mq8, .ref mq9, .int 0, .null, .int 0, .null, .int 0, .int 0, .int 0, .ref mq10, .int 0, .ref mq11, .ref mq12, .ref mq13, .int 0, .ref mq14, .ref mq15, .int 0]))]) [0] (by decide) rfl
  have hFc := va_free (wc := [(m, .inr (22, [.int 0, .ref mq1, .int 0, .ref mq2, .int 0, .ref mq3, .int 250, .ref mq4, .int 0, .ref mq5, .ref mq6, .ref mq16, .int 0, .ref mq7, .ref mq8, .ref mq9, .int 0, .null, .int 0, .null, .int 0, .int 0, .int 0, .ref mq10, .int 0, .ref mq11, .ref mq12, .ref mq13, .int 0, .ref mq14, .ref mq15, .int 0]))]) hD hS hA [0] rfl
  refine va_calli (va_runV (As := [.int x1]) (rest := []) ⟨hx, hb, hml, hown, hts⟩ (c9_X21_outSign_2 l g m mq1 mq2 mq3 mq4 mq5 mq6 mq16 mq7 mq8 mq9 mq10 mq11 mq12 mq13 mq14 mq15 _ x1 (by omega)) (cwV 1 hts g9_law_175 rfl rfl rfl (by decide +kernel) ⟨Nat.le_of_ble_eq_true rfl, Nat.le_of_ble_eq_true rfl⟩) (mPreV (g := g) (wc := [(m, .inr (22, [.int 0, .ref mq1, .int 0, .ref mq2, .int 0, .ref mq3, .int 250, .ref mq4, .int 0, .ref mq5, .ref mq6, .ref mq16, .int 0, .ref mq7, .ref mq8, .ref mq9, .int 0, .null, .int 0, .null, .int 0, .int 0, .int 0, .ref mq10, .int 0, .ref mq11, .ref mq12, .ref mq13, .int 0, .ref mq14, .ref mq15, .int 0]))]) (C := RX21) (ci := 22) (q0 := 0) hE hS hPc hDc hFc rfl rfl) rfl rfl hl.1 rfl (lv_room (Nat.le_of_ble_eq_true rfl)) dL_law_1332 ⟨Nat.le_of_ble_eq_true rfl, Nat.le_of_ble_eq_true rfl⟩) hS (fun q _ h => hFc q h) hFc (fun r_2 u t H1 locs ht hvm hw hB hz1 hk1 hS => ?_)
  replace hw : 32 = r_2 := Eq.symm hw
  subst hw
  obtain ⟨hP1, hD1⟩ := hB
  rw [ht] at hP1
  obtain ⟨hP, hD⟩ := va_join (wr := []) (w1 := [(m, .inr (22, [.int 1, .ref mq1, .int 0, .ref mq2, .int 0, .ref mq3, .int 250, .ref mq4, .int 0, .ref mq5, .ref mq6, .ref mq16, .int 0, .ref mq7, .ref mq8, .ref mq9, .int 0, .null, .int 0, .null, .int 0, .int 0, .int 0, .ref mq10, .int 0, .ref mq11, .ref mq12, .ref mq13, .int 0, .ref mq14, .ref mq15, .int 0]))]) hP hD [0] [] rfl rfl (by decide) (by decide) hk1 hFc hP1 hD1
  clear hP1 hD1 hPc hDc hFc hk1 hz1 hvm ht
  generalize H1 = H at hP hS ⊢
  have hP : va_P g.1 vwCl [(m, .inr (22, [.int 1, .ref mq1, .int 0, .ref mq2, .int 0, .ref mq3, .int 250, .ref mq4, .int 0, .ref mq5, .ref mq6, .ref mq16, .int 0, .ref mq7, .ref mq8, .ref mq9, .int 0, .null, .int 0, .null, .int 0, .int 0, .int 0, .ref mq10, .int 0, .ref mq11, .ref mq12, .ref mq13, .int 0, .ref mq14, .ref mq15, .int 0]))] H := hP
  have hD : va_D A [(m, .inr (22, [.int 1, .ref mq1, .int 0, .ref mq2, .int 0, .ref mq3, .int 250, .ref mq4, .int 0, .ref mq5, .ref mq6, .ref mq16, .int 0, .ref mq7, .ref mq8, .ref mq9, .int 0, .null, .int 0, .null, .int 0, .int 0, .int 0, .ref mq10, .int 0, .ref mq11, .ref mq12, .ref mq13, .int 0, .ref mq14, .ref mq15, .int 0]))] := hD
  refine lv_istore (lv' := [(6, .int 32), (5, .int 1), (0, .ref b), (1, .ref x), (2, .ref m), (3, .ref o), (4, .int 0)]) hx hb dL_law_1335 hl (by decide) rfl (fun ls hl => ?_)
  refine lv_aload_n hx hb dL_law_1337 rfl (lv_at hl 4 rfl) ?_
  have hPc := hP.sub (ws' := [(m, .inr (22, [.int 1, .ref mq1, .int 0, .ref mq2, .int 0, .ref mq3, .int 250, .ref mq4, .int 0, .ref mq5, .ref mq6, .ref mq16, .int 0, .ref mq7, .ref mq8, .ref mq9, .int 0, .null, .int 0, .null, .int 0, .int 0, .int 0, .ref mq10, .int 0, .ref mq11, .ref mq12, .ref mq13, .int 0, .ref mq14, .ref mq15, .int 0]))]) [0] rfl
  have hDc := hD.sub (ws' := [(m, .inr (22, [.int 1, .ref mq1, .int 0, .ref mq2, .int 0, .ref mq3, .int 250, .ref mq4, .int 0, .ref mq5, .ref mq6, .ref mq16, .int 0, .ref mq7, .ref mq8, .ref mq9, .int 0, .null, .int 0, .null, .int 0, .int 0, .int 0, .ref mq10, .int 0, .ref mq11, .ref mq12, .ref mq13, .int 0, .ref mq14, .ref mq15, .int 0]))]) [0] (by decide) rfl
  have hFc := va_free (wc := [(m, .inr (22, [.int 1, .ref mq1, .int 0, .ref mq2, .int 0, .ref mq3, .int 250, .ref mq4, .int 0, .ref mq5, .ref mq6, .ref mq16, .int 0, .ref mq7, .ref mq8, .ref mq9, .int 0, .null, .int 0, .null, .int 0, .int 0, .int 0, .ref mq10, .int 0, .ref mq11, .ref mq12, .ref mq13, .int 0, .ref mq14, .ref mq15, .int 0]))]) hD hS hA [0] rfl
  refine va_calli (va_runV (As := []) (rest := []) ⟨hx, hb, hml, hown, hts⟩ (c9_X21_thrown_2 l g m mq1 mq2 mq3 mq4 mq5 mq6 mq16 mq7 mq8 mq9 mq10 mq11 mq12 mq13 mq14 mq15 _) (cwV 0 hts g9_law_15 rfl rfl rfl (by decide +kernel) ⟨Nat.le_of_ble_eq_true rfl, Nat.le_of_ble_eq_true rfl⟩) (mPreV (g := g) (wc := [(m, .inr (22, [.int 1, .ref mq1, .int 0, .ref mq2, .int 0, .ref mq3, .int 250, .ref mq4, .int 0, .ref mq5, .ref mq6, .ref mq16, .int 0, .ref mq7, .ref mq8, .ref mq9, .int 0, .null, .int 0, .null, .int 0, .int 0, .int 0, .ref mq10, .int 0, .ref mq11, .ref mq12, .ref mq13, .int 0, .ref mq14, .ref mq15, .int 0]))]) (C := RX21) (ci := 22) (q0 := 0) hE hS hPc hDc hFc rfl rfl) rfl rfl hl.1 rfl (lv_room (Nat.le_of_ble_eq_true rfl)) dL_law_1338 ⟨Nat.le_of_ble_eq_true rfl, Nat.le_of_ble_eq_true rfl⟩) hS (fun q _ h => hFc q h) hFc (fun r_3 u t H1 locs ht hvm hw hB hz1 hk1 hS => ?_)
  replace hw : 1 = r_3 := Eq.symm hw
  subst hw
  obtain ⟨hP1, hD1⟩ := hB
  rw [ht] at hP1
  obtain ⟨hP, hD⟩ := va_join (wr := []) (w1 := [(m, .inr (22, [.int 1, .ref mq1, .int 0, .ref mq2, .int 0, .ref mq3, .int 250, .ref mq4, .int 0, .ref mq5, .ref mq6, .ref mq16, .int 0, .ref mq7, .ref mq8, .ref mq9, .int 0, .null, .int 0, .null, .int 0, .int 0, .int 0, .ref mq10, .int 0, .ref mq11, .ref mq12, .ref mq13, .int 0, .ref mq14, .ref mq15, .int 0]))]) hP hD [0] [] rfl rfl (by decide) (by decide) hk1 hFc hP1 hD1
  clear hP1 hD1 hPc hDc hFc hk1 hz1 hvm ht
  generalize H1 = H at hP hS ⊢
  have hP : va_P g.1 vwCl [(m, .inr (22, [.int 1, .ref mq1, .int 0, .ref mq2, .int 0, .ref mq3, .int 250, .ref mq4, .int 0, .ref mq5, .ref mq6, .ref mq16, .int 0, .ref mq7, .ref mq8, .ref mq9, .int 0, .null, .int 0, .null, .int 0, .int 0, .int 0, .ref mq10, .int 0, .ref mq11, .ref mq12, .ref mq13, .int 0, .ref mq14, .ref mq15, .int 0]))] H := hP
  have hD : va_D A [(m, .inr (22, [.int 1, .ref mq1, .int 0, .ref mq2, .int 0, .ref mq3, .int 250, .ref mq4, .int 0, .ref mq5, .ref mq6, .ref mq16, .int 0, .ref mq7, .ref mq8, .ref mq9, .int 0, .null, .int 0, .null, .int 0, .int 0, .int 0, .ref mq10, .int 0, .ref mq11, .ref mq12, .ref mq13, .int 0, .ref mq14, .ref mq15, .int 0]))] := hD
  refine lv_iload hx hb dL_law_1341 (lv_at hl 1 rfl) ?_
  refine lv_icmp_eq (tgt := 1348) hx hb dL_law_1343 (by decide) (fun _ => ?_) (fun c9 => absurd (by decide) c9)
  refine lv_iload hx hb dL_law_1348 (lv_at hl 1 rfl) ?_
  refine lv_if_ne (tgt := 1365) hx hb dL_law_1350 (by decide) (fun _ => ?_) (fun c9 => absurd c9 (by decide))
  refine lv_goto (tgt := 1368) hx hb dL_law_1365 (by decide) ?_
  subst hAe
  exact law_end C0 hS (lv_sub hl [2, 6] rfl) (Nat.le_of_ble_eq_true rfl) (Nat.le_of_ble_eq_true rfl)
set_option maxHeartbeats 4000000 in
set_option maxRecDepth 100000 in
theorem law_0_D {p : Program} {l : Launch} {e : Env} {s : State} {m9 : MethodId} {below : List Frame} {meth : Method} {c : Code} {g : G9} {b : Nat} {xs : Nat → Int32} (hlt : l.stackTraces = false) (C0 : lw_At p s m9 meth c b 4 xs) (hE : EE g (fun q : Nat => s.heap.size ≤ q) s) (x m o xq1 xq2 xq4 xq5 xq12 xq22 xq23 xq24 xq25 xq20 xq13 xq14 xq26 mq1 mq2 mq3 mq4 mq5 mq6 mq16 mq7 mq8 mq9 mq10 mq11 mq12 mq13 mq14 mq15 : Nat) (x1 : Int32) (e1 : xs 1 = x1) (k_x1 : (-2147483648) ≤ x1.toInt ∧ x1.toInt ≤ 2147483647) (c0 : Int32) (e_c0 : (x1.toUInt32 % 65536).toInt32 = c0) (k_c0 : 0 ≤ c0.toInt ∧ c0.toInt ≤ 65535) (h_c0 : DS9 c0) : ∀ (H : Heap) (locs : List Loc) (ls : Array Slot), va_P g.1 vwCl [(x, .inr (12, [.ref xq1, .int 0, .ref xq2, .ref xq4, .ref xq5, .ref xq12, .ref xq22, .ref xq23, .int (-1), .ref xq24, .ref xq25, .int 250, .ref xq20, .int 0, .ref xq13, .ref xq14, .ref xq26])), (xq1, .inl (g.2.1 1, 32, .inl (fun _ => 0))), (m, .inr (22, [.int 0, .ref mq1, .int 0, .ref mq2, .int 0, .ref mq3, .int 250, .ref mq4, .int 0, .ref mq5, .ref mq6, .ref mq16, .int 0, .ref mq7, .ref mq8, .ref mq9, .int 0, .null, .int 0, .null, .int 0, .int 0, .int 0, .ref mq10, .int 0, .ref mq11, .ref mq12, .ref mq13, .int 0, .ref mq14, .ref mq15, .int 0])), (mq1, .inl (g.2.1 0, 32, .inl (fun _ => 0))), (o, .inl (g.2.1 2, 1, .inr (.inl (fun _ => 0))))] H → va_D (fun q : Nat => s.heap.size ≤ q) [(x, .inr (12, [.ref xq1, .int 0, .ref xq2, .ref xq4, .ref xq5, .ref xq12, .ref xq22, .ref xq23, .int (-1), .ref xq24, .ref xq25, .int 250, .ref xq20, .int 0, .ref xq13, .ref xq14, .ref xq26])), (xq1, .inl (g.2.1 1, 32, .inl (fun _ => 0))), (m, .inr (22, [.int 0, .ref mq1, .int 0, .ref mq2, .int 0, .ref mq3, .int 250, .ref mq4, .int 0, .ref mq5, .ref mq6, .ref mq16, .int 0, .ref mq7, .ref mq8, .ref mq9, .int 0, .null, .int 0, .null, .int 0, .int 0, .int 0, .ref mq10, .int 0, .ref mq11, .ref mq12, .ref mq13, .int 0, .ref mq14, .ref mq15, .int 0])), (mq1, .inl (g.2.1 0, 32, .inl (fun _ => 0))), (o, .inl (g.2.1 2, 1, .inr (.inl (fun _ => 0))))] → va_S (fun q : Nat => s.heap.size ≤ q) s.heap H locs → lv_has ls 7 [(0, .ref b), (1, .ref x), (2, .ref m), (3, .ref o), (4, .int 0)] → W p l e room_1 s m9 #[Value.ref b] below meth c H locs 106 7589 (lw_Z below #[Value.ref b] s) (F0 m9 144 ls []) := by
  intro H locs ls hP hD hS hl
  obtain ⟨hx, hb, hr, hml, hown, hts0, hX, hbl, hlocks, hgv⟩ := id C0
  have hts : ∀ w ∈ w9_law, w.before #[Value.ref b] s = true := fun w h => hts0 w (w9_law_in w h)
  generalize hAe : (fun q : Nat => s.heap.size ≤ q) = A at hE hD hS
  have hA : ∀ q : Nat, s.heap.size ≤ q → A q := fun q h => by rw [← hAe]; exact h
  have hbA : ¬ A b := by rw [← hAe]; exact Nat.not_le.mpr hbl
  have hK := hE.1
  refine lv_aload_n hx hb dL_law_144 rfl (lv_at hl 1 rfl) ?_
  refine lv_aload_n hx hb dL_law_145 rfl (lv_at hl 0 rfl) ?_
  refine lv_iload hx hb dL_law_146 (lv_at hl 4 rfl) ?_
  refine lv_iconst (v := 1) hx hb dL_law_148 (by decide) ?_
  refine lv_iadd hx hb dL_law_149 ?_
  refine e_top (y := 1) (by decide) ?_
  refine va_sld hx hb hX hbl hbA hS (vp_in_nI (n := 1) (by decide) (by decide)) dL_law_150 ?_
  refine e_top (y := x1) e1 ?_
  refine lv_i2c (v := c0) hx hb dL_law_151 e_c0 ?_
  refine lv_aload_n hx hb dL_law_152 rfl (lv_at hl 3 rfl) ?_
  have hPc := hP.sub (ws' := [(x, .inr (12, [.ref xq1, .int 0, .ref xq2, .ref xq4, .ref xq5, .ref xq12, .ref xq22, .ref xq23, .int (-1), .ref xq24, .ref xq25, .int 250, .ref xq20, .int 0, .ref xq13, .ref xq14, .ref xq26])), (xq1, .inl (g.2.1 1, 32, .inl (fun _ => 0))), (o, .inl (g.2.1 2, 1, .inr (.inl (fun _ => 0))))]) [0, 1, 4] rfl
  have hDc := hD.sub (ws' := [(x, .inr (12, [.ref xq1, .int 0, .ref xq2, .ref xq4, .ref xq5, .ref xq12, .ref xq22, .ref xq23, .int (-1), .ref xq24, .ref xq25, .int 250, .ref xq20, .int 0, .ref xq13, .ref xq14, .ref xq26])), (xq1, .inl (g.2.1 1, 32, .inl (fun _ => 0))), (o, .inl (g.2.1 2, 1, .inr (.inl (fun _ => 0))))]) [0, 1, 4] (by decide) rfl
  have hFc := va_free (wc := [(x, .inr (12, [.ref xq1, .int 0, .ref xq2, .ref xq4, .ref xq5, .ref xq12, .ref xq22, .ref xq23, .int (-1), .ref xq24, .ref xq25, .int 250, .ref xq20, .int 0, .ref xq13, .ref xq14, .ref xq26])), (xq1, .inl (g.2.1 1, 32, .inl (fun _ => 0))), (o, .inl (g.2.1 2, 1, .inr (.inl (fun _ => 0))))]) hD hS hA [0, 1, 4] rfl
  refine va_calli (vx_runSW (As := [.ref x, .int c0, .ref o]) (rest := []) ⟨hx, hb, hml, hown, hts⟩ (c9_L_sign_1 l g x o xq1 xq2 xq4 xq5 xq12 xq22 xq23 xq24 xq25 xq20 xq13 xq14 xq26 _ c0 (fun _ => 0) (fun _ => 0) (by omega) h_c0) (vx_cwSW (bytes := cL_sign) (maxL := 4) (ret := (some .int)) (hh := [(0, 9, 12, 13), (0, 9, 15, 15)]) 3 hts g9_law_176 rfl rfl rfl (by decide +kernel) ⟨Nat.le_of_ble_eq_true rfl, Nat.le_of_ble_eq_true rfl⟩) (mPreS (g := g) (wc := [(x, .inr (12, [.ref xq1, .int 0, .ref xq2, .ref xq4, .ref xq5, .ref xq12, .ref xq22, .ref xq23, .int (-1), .ref xq24, .ref xq25, .int 250, .ref xq20, .int 0, .ref xq13, .ref xq14, .ref xq26])), (xq1, .inl (g.2.1 1, 32, .inl (fun _ => 0))), (o, .inl (g.2.1 2, 1, .inr (.inl (fun _ => 0))))]) hE hS hPc hDc hFc) rfl rfl hl.1 rfl (lv_room (Nat.le_of_ble_eq_true rfl)) dL_law_153 ⟨Nat.le_of_ble_eq_true rfl, Nat.le_of_ble_eq_true rfl⟩) hS (fun q _ h => hFc q h) hFc (fun r_1 u t H1 locs ht hvm hw hB hz1 hk1 hS => ?_)
  replace hw : 0 = r_1 := Eq.symm hw
  subst hw
  obtain ⟨hP1, hD1⟩ := hB
  rw [ht] at hP1
  obtain ⟨hP, hD⟩ := va_join (wr := [(m, .inr (22, [.int 0, .ref mq1, .int 0, .ref mq2, .int 0, .ref mq3, .int 250, .ref mq4, .int 0, .ref mq5, .ref mq6, .ref mq16, .int 0, .ref mq7, .ref mq8, .ref mq9, .int 0, .null, .int 0, .null, .int 0, .int 0, .int 0, .ref mq10, .int 0, .ref mq11, .ref mq12, .ref mq13, .int 0, .ref mq14, .ref mq15, .int 0])), (mq1, .inl (g.2.1 0, 32, .inl (fun _ => 0)))]) (w1 := [(x, .inr (12, [.ref xq1, .int 1, .ref xq2, .ref xq4, .ref xq5, .ref xq12, .ref xq22, .ref xq23, .int (-1), .ref xq24, .ref xq25, .int 250, .ref xq20, .int 0, .ref xq13, .ref xq14, .ref xq26])), (xq1, .inl (g.2.1 1, 32, .inl (upd (fun _ => 0) 0 (vp_nar .char c0)))), (o, .inl (g.2.1 2, 1, .inr (.inl (vp_updL (fun _ => 0) 0 1))))]) hP hD [0, 1, 4] [2, 3] rfl rfl (by decide) (by decide) hk1 hFc hP1 hD1
  clear hP1 hD1 hPc hDc hFc hk1 hz1 hvm ht
  generalize H1 = H at hP hS ⊢
  have hP : va_P g.1 vwCl [(m, .inr (22, [.int 0, .ref mq1, .int 0, .ref mq2, .int 0, .ref mq3, .int 250, .ref mq4, .int 0, .ref mq5, .ref mq6, .ref mq16, .int 0, .ref mq7, .ref mq8, .ref mq9, .int 0, .null, .int 0, .null, .int 0, .int 0, .int 0, .ref mq10, .int 0, .ref mq11, .ref mq12, .ref mq13, .int 0, .ref mq14, .ref mq15, .int 0])), (mq1, .inl (g.2.1 0, 32, .inl (fun _ => 0))), (x, .inr (12, [.ref xq1, .int 1, .ref xq2, .ref xq4, .ref xq5, .ref xq12, .ref xq22, .ref xq23, .int (-1), .ref xq24, .ref xq25, .int 250, .ref xq20, .int 0, .ref xq13, .ref xq14, .ref xq26])), (xq1, .inl (g.2.1 1, 32, .inl (upd (fun _ => 0) 0 (vp_nar .char c0)))), (o, .inl (g.2.1 2, 1, .inr (.inl (vp_updL (fun _ => 0) 0 1))))] H := hP
  have hD : va_D A [(m, .inr (22, [.int 0, .ref mq1, .int 0, .ref mq2, .int 0, .ref mq3, .int 250, .ref mq4, .int 0, .ref mq5, .ref mq6, .ref mq16, .int 0, .ref mq7, .ref mq8, .ref mq9, .int 0, .null, .int 0, .null, .int 0, .int 0, .int 0, .ref mq10, .int 0, .ref mq11, .ref mq12, .ref mq13, .int 0, .ref mq14, .ref mq15, .int 0])), (mq1, .inl (g.2.1 0, 32, .inl (fun _ => 0))), (x, .inr (12, [.ref xq1, .int 1, .ref xq2, .ref xq4, .ref xq5, .ref xq12, .ref xq22, .ref xq23, .int (-1), .ref xq24, .ref xq25, .int 250, .ref xq20, .int 0, .ref xq13, .ref xq14, .ref xq26])), (xq1, .inl (g.2.1 1, 32, .inl (upd (fun _ => 0) 0 (vp_nar .char c0)))), (o, .inl (g.2.1 2, 1, .inr (.inl (vp_updL (fun _ => 0) 0 1))))] := hD
  refine lv_istore (lv' := [(5, .int 0), (0, .ref b), (1, .ref x), (2, .ref m), (3, .ref o), (4, .int 0)]) hx hb dL_law_156 hl (by decide) rfl (fun ls hl => ?_)
  refine lv_aload_n hx hb dL_law_158 rfl (lv_at hl 3 rfl) ?_
  refine lv_aload_n hx hb dL_law_159 rfl (lv_at hl 1 rfl) ?_
  refine lv_iload hx hb dL_law_160 (lv_at hl 5 rfl) ?_
  refine lv_iconst (v := 1) hx hb dL_law_162 (by decide) ?_
  refine lv_iadd hx hb dL_law_163 ?_
  refine e_top (y := 1) (by decide) ?_
  refine va_sld hx hb hX hbl hbA hS (vp_in_nI (n := 1) (by decide) (by decide)) dL_law_164 ?_
  refine e_top (y := x1) e1 ?_
  refine lv_i2c (v := c0) hx hb dL_law_165 e_c0 ?_
  have hPc := hP.sub (ws' := [(m, .inr (22, [.int 0, .ref mq1, .int 0, .ref mq2, .int 0, .ref mq3, .int 250, .ref mq4, .int 0, .ref mq5, .ref mq6, .ref mq16, .int 0, .ref mq7, .ref mq8, .ref mq9, .int 0, .null, .int 0, .null, .int 0, .int 0, .int 0, .ref mq10, .int 0, .ref mq11, .ref mq12, .ref mq13, .int 0, .ref mq14, .ref mq15, .int 0])), (mq1, .inl (g.2.1 0, 32, .inl (fun _ => 0)))]) [0, 1] rfl
  have hDc := hD.sub (ws' := [(m, .inr (22, [.int 0, .ref mq1, .int 0, .ref mq2, .int 0, .ref mq3, .int 250, .ref mq4, .int 0, .ref mq5, .ref mq6, .ref mq16, .int 0, .ref mq7, .ref mq8, .ref mq9, .int 0, .null, .int 0, .null, .int 0, .int 0, .int 0, .ref mq10, .int 0, .ref mq11, .ref mq12, .ref mq13, .int 0, .ref mq14, .ref mq15, .int 0])), (mq1, .inl (g.2.1 0, 32, .inl (fun _ => 0)))]) [0, 1] (by decide) rfl
  have hFc := va_free (wc := [(m, .inr (22, [.int 0, .ref mq1, .int 0, .ref mq2, .int 0, .ref mq3, .int 250, .ref mq4, .int 0, .ref mq5, .ref mq6, .ref mq16, .int 0, .ref mq7, .ref mq8, .ref mq9, .int 0, .null, .int 0, .null, .int 0, .int 0, .int 0, .ref mq10, .int 0, .ref mq11, .ref mq12, .ref mq13, .int 0, .ref mq14, .ref mq15, .int 0])), (mq1, .inl (g.2.1 0, 32, .inl (fun _ => 0)))]) hD hS hA [0, 1] rfl
  refine va_calli (va_runV (As := [.int c0]) (rest := []) ⟨hx, hb, hml, hown, hts⟩ (c9_X21_sign_1 l g m mq1 mq2 mq3 mq4 mq5 mq6 mq16 mq7 mq8 mq9 mq10 mq11 mq12 mq13 mq14 mq15 _ c0 (fun _ => 0) (by omega) h_c0) (cwV 1 hts g9_law_177 rfl rfl rfl (by decide +kernel) ⟨Nat.le_of_ble_eq_true rfl, Nat.le_of_ble_eq_true rfl⟩) (mPreV (g := g) (wc := [(m, .inr (22, [.int 0, .ref mq1, .int 0, .ref mq2, .int 0, .ref mq3, .int 250, .ref mq4, .int 0, .ref mq5, .ref mq6, .ref mq16, .int 0, .ref mq7, .ref mq8, .ref mq9, .int 0, .null, .int 0, .null, .int 0, .int 0, .int 0, .ref mq10, .int 0, .ref mq11, .ref mq12, .ref mq13, .int 0, .ref mq14, .ref mq15, .int 0])), (mq1, .inl (g.2.1 0, 32, .inl (fun _ => 0)))]) (C := RX21) (ci := 22) (q0 := 0) hE hS hPc hDc hFc rfl rfl) rfl rfl hl.1 rfl (lv_room (Nat.le_of_ble_eq_true rfl)) dL_law_166 ⟨Nat.le_of_ble_eq_true rfl, Nat.le_of_ble_eq_true rfl⟩) hS (fun q _ h => hFc q h) hFc (fun r_2 u t H1 locs ht hvm hw hB hz1 hk1 hS => ?_)
  replace hw : 1 = r_2 := Eq.symm hw
  subst hw
  obtain ⟨hP1, hD1⟩ := hB
  rw [ht] at hP1
  obtain ⟨hP, hD⟩ := va_join (wr := [(x, .inr (12, [.ref xq1, .int 1, .ref xq2, .ref xq4, .ref xq5, .ref xq12, .ref xq22, .ref xq23, .int (-1), .ref xq24, .ref xq25, .int 250, .ref xq20, .int 0, .ref xq13, .ref xq14, .ref xq26])), (xq1, .inl (g.2.1 1, 32, .inl (upd (fun _ => 0) 0 (vp_nar .char c0)))), (o, .inl (g.2.1 2, 1, .inr (.inl (vp_updL (fun _ => 0) 0 1))))]) (w1 := [(m, .inr (22, [.int 0, .ref mq1, .int 1, .ref mq2, .int 0, .ref mq3, .int 250, .ref mq4, .int 0, .ref mq5, .ref mq6, .ref mq16, .int 0, .ref mq7, .ref mq8, .ref mq9, .int 0, .null, .int 0, .null, .int 0, .int 0, .int 0, .ref mq10, .int 0, .ref mq11, .ref mq12, .ref mq13, .int 0, .ref mq14, .ref mq15, .int 0])), (mq1, .inl (g.2.1 0, 32, .inl (upd (fun _ => 0) 0 c0)))]) hP hD [0, 1] [2, 3, 4] rfl rfl (by decide) (by decide) hk1 hFc hP1 hD1
  clear hP1 hD1 hPc hDc hFc hk1 hz1 hvm ht
  generalize H1 = H at hP hS ⊢
  have hP : va_P g.1 vwCl [(x, .inr (12, [.ref xq1, .int 1, .ref xq2, .ref xq4, .ref xq5, .ref xq12, .ref xq22, .ref xq23, .int (-1), .ref xq24, .ref xq25, .int 250, .ref xq20, .int 0, .ref xq13, .ref xq14, .ref xq26])), (xq1, .inl (g.2.1 1, 32, .inl (upd (fun _ => 0) 0 (vp_nar .char c0)))), (o, .inl (g.2.1 2, 1, .inr (.inl (vp_updL (fun _ => 0) 0 1)))), (m, .inr (22, [.int 0, .ref mq1, .int 1, .ref mq2, .int 0, .ref mq3, .int 250, .ref mq4, .int 0, .ref mq5, .ref mq6, .ref mq16, .int 0, .ref mq7, .ref mq8, .ref mq9, .int 0, .null, .int 0, .null, .int 0, .int 0, .int 0, .ref mq10, .int 0, .ref mq11, .ref mq12, .ref mq13, .int 0, .ref mq14, .ref mq15, .int 0])), (mq1, .inl (g.2.1 0, 32, .inl (upd (fun _ => 0) 0 c0)))] H := hP
  have hD : va_D A [(x, .inr (12, [.ref xq1, .int 1, .ref xq2, .ref xq4, .ref xq5, .ref xq12, .ref xq22, .ref xq23, .int (-1), .ref xq24, .ref xq25, .int 250, .ref xq20, .int 0, .ref xq13, .ref xq14, .ref xq26])), (xq1, .inl (g.2.1 1, 32, .inl (upd (fun _ => 0) 0 (vp_nar .char c0)))), (o, .inl (g.2.1 2, 1, .inr (.inl (vp_updL (fun _ => 0) 0 1)))), (m, .inr (22, [.int 0, .ref mq1, .int 1, .ref mq2, .int 0, .ref mq3, .int 250, .ref mq4, .int 0, .ref mq5, .ref mq6, .ref mq16, .int 0, .ref mq7, .ref mq8, .ref mq9, .int 0, .null, .int 0, .null, .int 0, .int 0, .int 0, .ref mq10, .int 0, .ref mq11, .ref mq12, .ref mq13, .int 0, .ref mq14, .ref mq15, .int 0])), (mq1, .inl (g.2.1 0, 32, .inl (upd (fun _ => 0) 0 c0)))] := hD
  refine lv_istore (lv' := [(6, .int 1), (5, .int 0), (0, .ref b), (1, .ref x), (2, .ref m), (3, .ref o), (4, .int 0)]) hx hb dL_law_169 hl (by decide) rfl (fun ls hl => ?_)
  refine lv_aload_n hx hb dL_law_171 rfl (lv_at hl 4 rfl) ?_
  have hPc := hP.sub (ws' := [(m, .inr (22, [.int 0, .ref mq1, .int 1, .ref mq2, .int 0, .ref mq3, .int 250, .ref mq4, .int 0, .ref mq5, .ref mq6, .ref mq16, .int 0, .ref mq7, .ref mq8, .ref mq9, .int 0, .null, .int 0, .null, .int 0, .int 0, .int 0, .ref mq10, .int 0, .ref mq11, .ref mq12, .ref mq13, .int 0, .ref mq14, .ref mq15, .int 0]))]) [3] rfl
  have hDc := hD.sub (ws' := [(m, .inr (22, [.int 0, .ref mq1, .int 1, .ref mq2, .int 0, .ref mq3, .int 250, .ref mq4, .int 0, .ref mq5, .ref mq6, .ref mq16, .int 0, .ref mq7, .ref mq8, .ref mq9, .int 0, .null, .int 0, .null, .int 0, .int 0, .int 0, .ref mq10, .int 0, .ref mq11, .ref mq12, .ref mq13, .int 0, .ref mq14, .ref mq15, .int 0]))]) [3] (by decide) rfl
  have hFc := va_free (wc := [(m, .inr (22, [.int 0, .ref mq1, .int 1, .ref mq2, .int 0, .ref mq3, .int 250, .ref mq4, .int 0, .ref mq5, .ref mq6, .ref mq16, .int 0, .ref mq7, .ref mq8, .ref mq9, .int 0, .null, .int 0, .null, .int 0, .int 0, .int 0, .ref mq10, .int 0, .ref mq11, .ref mq12, .ref mq13, .int 0, .ref mq14, .ref mq15, .int 0]))]) hD hS hA [3] rfl
  refine va_calli (va_runV (As := []) (rest := []) ⟨hx, hb, hml, hown, hts⟩ (c9_X21_thrown_5 l g m mq1 mq2 mq3 mq4 mq5 mq6 mq16 mq7 mq8 mq9 mq10 mq11 mq12 mq13 mq14 mq15 _) (cwV 0 hts g9_law_178 rfl rfl rfl (by decide +kernel) ⟨Nat.le_of_ble_eq_true rfl, Nat.le_of_ble_eq_true rfl⟩) (mPreV (g := g) (wc := [(m, .inr (22, [.int 0, .ref mq1, .int 1, .ref mq2, .int 0, .ref mq3, .int 250, .ref mq4, .int 0, .ref mq5, .ref mq6, .ref mq16, .int 0, .ref mq7, .ref mq8, .ref mq9, .int 0, .null, .int 0, .null, .int 0, .int 0, .int 0, .ref mq10, .int 0, .ref mq11, .ref mq12, .ref mq13, .int 0, .ref mq14, .ref mq15, .int 0]))]) (C := RX21) (ci := 22) (q0 := 0) hE hS hPc hDc hFc rfl rfl) rfl rfl hl.1 rfl (lv_room (Nat.le_of_ble_eq_true rfl)) dL_law_172 ⟨Nat.le_of_ble_eq_true rfl, Nat.le_of_ble_eq_true rfl⟩) hS (fun q _ h => hFc q h) hFc (fun r_3 u t H1 locs ht hvm hw hB hz1 hk1 hS => ?_)
  replace hw : 0 = r_3 := Eq.symm hw
  subst hw
  obtain ⟨hP1, hD1⟩ := hB
  rw [ht] at hP1
  obtain ⟨hP, hD⟩ := va_join (wr := [(x, .inr (12, [.ref xq1, .int 1, .ref xq2, .ref xq4, .ref xq5, .ref xq12, .ref xq22, .ref xq23, .int (-1), .ref xq24, .ref xq25, .int 250, .ref xq20, .int 0, .ref xq13, .ref xq14, .ref xq26])), (xq1, .inl (g.2.1 1, 32, .inl (upd (fun _ => 0) 0 (vp_nar .char c0)))), (o, .inl (g.2.1 2, 1, .inr (.inl (vp_updL (fun _ => 0) 0 1)))), (mq1, .inl (g.2.1 0, 32, .inl (upd (fun _ => 0) 0 c0)))]) (w1 := [(m, .inr (22, [.int 0, .ref mq1, .int 1, .ref mq2, .int 0, .ref mq3, .int 250, .ref mq4, .int 0, .ref mq5, .ref mq6, .ref mq16, .int 0, .ref mq7, .ref mq8, .ref mq9, .int 0, .null, .int 0, .null, .int 0, .int 0, .int 0, .ref mq10, .int 0, .ref mq11, .ref mq12, .ref mq13, .int 0, .ref mq14, .ref mq15, .int 0]))]) hP hD [3] [0, 1, 2, 4] rfl rfl (by decide) (by decide) hk1 hFc hP1 hD1
  clear hP1 hD1 hPc hDc hFc hk1 hz1 hvm ht
  generalize H1 = H at hP hS ⊢
  have hP : va_P g.1 vwCl [(x, .inr (12, [.ref xq1, .int 1, .ref xq2, .ref xq4, .ref xq5, .ref xq12, .ref xq22, .ref xq23, .int (-1), .ref xq24, .ref xq25, .int 250, .ref xq20, .int 0, .ref xq13, .ref xq14, .ref xq26])), (xq1, .inl (g.2.1 1, 32, .inl (upd (fun _ => 0) 0 (vp_nar .char c0)))), (o, .inl (g.2.1 2, 1, .inr (.inl (vp_updL (fun _ => 0) 0 1)))), (mq1, .inl (g.2.1 0, 32, .inl (upd (fun _ => 0) 0 c0))), (m, .inr (22, [.int 0, .ref mq1, .int 1, .ref mq2, .int 0, .ref mq3, .int 250, .ref mq4, .int 0, .ref mq5, .ref mq6, .ref mq16, .int 0, .ref mq7, .ref mq8, .ref mq9, .int 0, .null, .int 0, .null, .int 0, .int 0, .int 0, .ref mq10, .int 0, .ref mq11, .ref mq12, .ref mq13, .int 0, .ref mq14, .ref mq15, .int 0]))] H := hP
  have hD : va_D A [(x, .inr (12, [.ref xq1, .int 1, .ref xq2, .ref xq4, .ref xq5, .ref xq12, .ref xq22, .ref xq23, .int (-1), .ref xq24, .ref xq25, .int 250, .ref xq20, .int 0, .ref xq13, .ref xq14, .ref xq26])), (xq1, .inl (g.2.1 1, 32, .inl (upd (fun _ => 0) 0 (vp_nar .char c0)))), (o, .inl (g.2.1 2, 1, .inr (.inl (vp_updL (fun _ => 0) 0 1)))), (mq1, .inl (g.2.1 0, 32, .inl (upd (fun _ => 0) 0 c0))), (m, .inr (22, [.int 0, .ref mq1, .int 1, .ref mq2, .int 0, .ref mq3, .int 250, .ref mq4, .int 0, .ref mq5, .ref mq6, .ref mq16, .int 0, .ref mq7, .ref mq8, .ref mq9, .int 0, .null, .int 0, .null, .int 0, .int 0, .int 0, .ref mq10, .int 0, .ref mq11, .ref mq12, .ref mq13, .int 0, .ref mq14, .ref mq15, .int 0]))] := hD
  refine lv_iload hx hb dL_law_175 (lv_at hl 1 rfl) ?_
  refine lv_icmp_eq (tgt := 182) hx hb dL_law_177 (by decide) (fun _ => ?_) (fun c9 => absurd (by decide) c9)
  refine lv_iload hx hb dL_law_182 (lv_at hl 1 rfl) ?_
  refine lv_if_ne (tgt := 199) hx hb dL_law_184 (by decide) (fun c9 => absurd (by decide) c9) (fun _ => ?_)
  refine lv_aload_n hx hb dL_law_187 rfl (lv_at hl 5 rfl) ?_
  refine lv_iconst (v := 0) hx hb dL_law_188 (by decide) ?_
  refine va_lald hx hb hK hP 2 2 rfl rfl (vp_in_nI (n := 0) (by decide) (by decide)) dL_law_189 ?_
  refine e_topv (y := .long 1) (by rfl) ?_
  refine lv_iload hx hb dL_law_190 (lv_at hl 0 rfl) ?_
  refine lv_i2l (v := 1) hx hb dL_law_192 (by decide) ?_
  refine W.lcmp hx hb dL_law_193 ?_
  refine e_top (y := 0) (by decide) ?_
  refine lv_if_eq (tgt := 199) hx hb dL_law_194 (by decide) (fun _ => ?_) (fun c9 => absurd (by decide) c9)
  refine lv_goto (tgt := 1368) hx hb dL_law_199 (by decide) ?_
  subst hAe
  exact law_end C0 hS (lv_sub hl [2, 6] rfl) (Nat.le_of_ble_eq_true rfl) (Nat.le_of_ble_eq_true rfl)
set_option maxHeartbeats 4000000 in
set_option maxRecDepth 100000 in
theorem law_0_N {p : Program} {l : Launch} {e : Env} {s : State} {m9 : MethodId} {below : List Frame} {meth : Method} {c : Code} {g : G9} {b : Nat} {xs : Nat → Int32} (hlt : l.stackTraces = false) (C0 : lw_At p s m9 meth c b 4 xs) (hE : EE g (fun q : Nat => s.heap.size ≤ q) s) (x m o xq1 xq2 xq4 xq5 xq12 xq22 xq23 xq24 xq25 xq20 xq13 xq14 xq26 mq1 mq2 mq3 mq4 mq5 mq6 mq16 mq7 mq8 mq9 mq10 mq11 mq12 mq13 mq14 mq15 : Nat) (x1 : Int32) (e1 : xs 1 = x1) (k_x1 : (-2147483648) ≤ x1.toInt ∧ x1.toInt ≤ 2147483647) (c0 : Int32) (e_c0 : (x1.toUInt32 % 65536).toInt32 = c0) (k_c0 : 0 ≤ c0.toInt ∧ c0.toInt ≤ 65535) (h_c0 : NS9 c0) : ∀ (H : Heap) (locs : List Loc) (ls : Array Slot), va_P g.1 vwCl [(x, .inr (12, [.ref xq1, .int 0, .ref xq2, .ref xq4, .ref xq5, .ref xq12, .ref xq22, .ref xq23, .int (-1), .ref xq24, .ref xq25, .int 250, .ref xq20, .int 0, .ref xq13, .ref xq14, .ref xq26])), (m, .inr (22, [.int 0, .ref mq1, .int 0, .ref mq2, .int 0, .ref mq3, .int 250, .ref mq4, .int 0, .ref mq5, .ref mq6, .ref mq16, .int 0, .ref mq7, .ref mq8, .ref mq9, .int 0, .null, .int 0, .null, .int 0, .int 0, .int 0, .ref mq10, .int 0, .ref mq11, .ref mq12, .ref mq13, .int 0, .ref mq14, .ref mq15, .int 0]))] H → va_D (fun q : Nat => s.heap.size ≤ q) [(x, .inr (12, [.ref xq1, .int 0, .ref xq2, .ref xq4, .ref xq5, .ref xq12, .ref xq22, .ref xq23, .int (-1), .ref xq24, .ref xq25, .int 250, .ref xq20, .int 0, .ref xq13, .ref xq14, .ref xq26])), (m, .inr (22, [.int 0, .ref mq1, .int 0, .ref mq2, .int 0, .ref mq3, .int 250, .ref mq4, .int 0, .ref mq5, .ref mq6, .ref mq16, .int 0, .ref mq7, .ref mq8, .ref mq9, .int 0, .null, .int 0, .null, .int 0, .int 0, .int 0, .ref mq10, .int 0, .ref mq11, .ref mq12, .ref mq13, .int 0, .ref mq14, .ref mq15, .int 0]))] → va_S (fun q : Nat => s.heap.size ≤ q) s.heap H locs → lv_has ls 7 [(0, .ref b), (1, .ref x), (2, .ref m), (3, .ref o), (4, .int 0)] → W p l e room_1 s m9 #[Value.ref b] below meth c H locs 106 7589 (lw_Z below #[Value.ref b] s) (F0 m9 144 ls []) := by
  intro H locs ls hP hD hS hl
  obtain ⟨hx, hb, hr, hml, hown, hts0, hX, hbl, hlocks, hgv⟩ := id C0
  have hts : ∀ w ∈ w9_law, w.before #[Value.ref b] s = true := fun w h => hts0 w (w9_law_in w h)
  generalize hAe : (fun q : Nat => s.heap.size ≤ q) = A at hE hD hS
  have hA : ∀ q : Nat, s.heap.size ≤ q → A q := fun q h => by rw [← hAe]; exact h
  have hbA : ¬ A b := by rw [← hAe]; exact Nat.not_le.mpr hbl
  have hK := hE.1
  refine lv_aload_n hx hb dL_law_144 rfl (lv_at hl 1 rfl) ?_
  refine lv_aload_n hx hb dL_law_145 rfl (lv_at hl 0 rfl) ?_
  refine lv_iload hx hb dL_law_146 (lv_at hl 4 rfl) ?_
  refine lv_iconst (v := 1) hx hb dL_law_148 (by decide) ?_
  refine lv_iadd hx hb dL_law_149 ?_
  refine e_top (y := 1) (by decide) ?_
  refine va_sld hx hb hX hbl hbA hS (vp_in_nI (n := 1) (by decide) (by decide)) dL_law_150 ?_
  refine e_top (y := x1) e1 ?_
  refine lv_i2c (v := c0) hx hb dL_law_151 e_c0 ?_
  refine lv_aload_n hx hb dL_law_152 rfl (lv_at hl 3 rfl) ?_
  have hPc := hP.sub (ws' := [(x, .inr (12, [.ref xq1, .int 0, .ref xq2, .ref xq4, .ref xq5, .ref xq12, .ref xq22, .ref xq23, .int (-1), .ref xq24, .ref xq25, .int 250, .ref xq20, .int 0, .ref xq13, .ref xq14, .ref xq26]))]) [0] rfl
  have hDc := hD.sub (ws' := [(x, .inr (12, [.ref xq1, .int 0, .ref xq2, .ref xq4, .ref xq5, .ref xq12, .ref xq22, .ref xq23, .int (-1), .ref xq24, .ref xq25, .int 250, .ref xq20, .int 0, .ref xq13, .ref xq14, .ref xq26]))]) [0] (by decide) rfl
  have hFc := va_free (wc := [(x, .inr (12, [.ref xq1, .int 0, .ref xq2, .ref xq4, .ref xq5, .ref xq12, .ref xq22, .ref xq23, .int (-1), .ref xq24, .ref xq25, .int 250, .ref xq20, .int 0, .ref xq13, .ref xq14, .ref xq26]))]) hD hS hA [0] rfl
  refine va_calli (vx_runSW (As := [.ref x, .int c0, .ref o]) (rest := []) ⟨hx, hb, hml, hown, hts⟩ (c9_L_sign_2 l hlt g x o xq1 xq2 xq4 xq5 xq12 xq22 xq23 xq24 xq25 xq20 xq13 xq14 xq26 _ c0 (by omega) h_c0) (vx_cwSW (bytes := cL_sign) (maxL := 4) (ret := (some .int)) (hh := [(0, 9, 12, 13), (0, 9, 15, 15)]) 3 hts g9_law_179 rfl rfl rfl (by decide +kernel) ⟨Nat.le_of_ble_eq_true rfl, Nat.le_of_ble_eq_true rfl⟩) (mPreS (g := g) (wc := [(x, .inr (12, [.ref xq1, .int 0, .ref xq2, .ref xq4, .ref xq5, .ref xq12, .ref xq22, .ref xq23, .int (-1), .ref xq24, .ref xq25, .int 250, .ref xq20, .int 0, .ref xq13, .ref xq14, .ref xq26]))]) hE hS hPc hDc hFc) rfl rfl hl.1 rfl (lv_room (Nat.le_of_ble_eq_true rfl)) dL_law_153 ⟨Nat.le_of_ble_eq_true rfl, Nat.le_of_ble_eq_true rfl⟩) hS (fun q _ h => hFc q h) hFc (fun r_1 u t H1 locs ht hvm hw hB hz1 hk1 hS => ?_)
  replace hw : 1 = r_1 := Eq.symm hw
  subst hw
  obtain ⟨hP1, hD1⟩ := hB
  rw [ht] at hP1
  obtain ⟨hP, hD⟩ := va_join (wr := [(m, .inr (22, [.int 0, .ref mq1, .int 0, .ref mq2, .int 0, .ref mq3, .int 250, .ref mq4, .int 0, .ref mq5, .ref mq6, .ref mq16, .int 0, .ref mq7, .ref mq8, .ref mq9, .int 0, .null, .int 0, .null, .int 0, .int 0, .int 0, .ref mq10, .int 0, .ref mq11, .ref mq12, .ref mq13, .int 0, .ref mq14, .ref mq15, .int 0]))]) (w1 := []) hP hD [0] [1] rfl rfl (by decide) (by decide) hk1 hFc hP1 hD1
  clear hP1 hD1 hPc hDc hFc hk1 hz1 hvm ht
  generalize H1 = H at hP hS ⊢
  have hP : va_P g.1 vwCl [(m, .inr (22, [.int 0, .ref mq1, .int 0, .ref mq2, .int 0, .ref mq3, .int 250, .ref mq4, .int 0, .ref mq5, .ref mq6, .ref mq16, .int 0, .ref mq7, .ref mq8, .ref mq9, .int 0, .null, .int 0, .null, .int 0, .int 0, .int 0, .ref mq10, .int 0, .ref mq11, .ref mq12, .ref mq13, .int 0, .ref mq14, .ref mq15, .int 0]))] H := hP
  have hD : va_D A [(m, .inr (22, [.int 0, .ref mq1, .int 0, .ref mq2, .int 0, .ref mq3, .int 250, .ref mq4, .int 0, .ref mq5, .ref mq6, .ref mq16, .int 0, .ref mq7, .ref mq8, .ref mq9, .int 0, .null, .int 0, .null, .int 0, .int 0, .int 0, .ref mq10, .int 0, .ref mq11, .ref mq12, .ref mq13, .int 0, .ref mq14, .ref mq15, .int 0]))] := hD
  refine lv_istore (lv' := [(5, .int 1), (0, .ref b), (1, .ref x), (2, .ref m), (3, .ref o), (4, .int 0)]) hx hb dL_law_156 hl (by decide) rfl (fun ls hl => ?_)
  refine lv_aload_n hx hb dL_law_158 rfl (lv_at hl 3 rfl) ?_
  refine lv_aload_n hx hb dL_law_159 rfl (lv_at hl 1 rfl) ?_
  refine lv_iload hx hb dL_law_160 (lv_at hl 5 rfl) ?_
  refine lv_iconst (v := 1) hx hb dL_law_162 (by decide) ?_
  refine lv_iadd hx hb dL_law_163 ?_
  refine e_top (y := 1) (by decide) ?_
  refine va_sld hx hb hX hbl hbA hS (vp_in_nI (n := 1) (by decide) (by decide)) dL_law_164 ?_
  refine e_top (y := x1) e1 ?_
  refine lv_i2c (v := c0) hx hb dL_law_165 e_c0 ?_
  have hPc := hP.sub (ws' := [(m, .inr (22, [.int 0, .ref mq1, .int 0, .ref mq2, .int 0, .ref mq3, .int 250, .ref mq4, .int 0, .ref mq5, .ref mq6, .ref mq16, .int 0, .ref mq7, .ref mq8, .ref mq9, .int 0, .null, .int 0, .null, .int 0, .int 0, .int 0, .ref mq10, .int 0, .ref mq11, .ref mq12, .ref mq13, .int 0, .ref mq14, .ref mq15, .int 0]))]) [0] rfl
  have hDc := hD.sub (ws' := [(m, .inr (22, [.int 0, .ref mq1, .int 0, .ref mq2, .int 0, .ref mq3, .int 250, .ref mq4, .int 0, .ref mq5, .ref mq6, .ref mq16, .int 0, .ref mq7, .ref mq8, .ref mq9, .int 0, .null, .int 0, .null, .int 0, .int 0, .int 0, .ref mq10, .int 0, .ref mq11, .ref mq12, .ref mq13, .int 0, .ref mq14, .ref mq15, .int 0]))]) [0] (by decide) rfl
  have hFc := va_free (wc := [(m, .inr (22, [.int 0, .ref mq1, .int 0, .ref mq2, .int 0, .ref mq3, .int 250, .ref mq4, .int 0, .ref mq5, .ref mq6, .ref mq16, .int 0, .ref mq7, .ref mq8, .ref mq9, .int 0, .null, .int 0, .null, .int 0, .int 0, .int 0, .ref mq10, .int 0, .ref mq11, .ref mq12, .ref mq13, .int 0, .ref mq14, .ref mq15, .int 0]))]) hD hS hA [0] rfl
  refine va_calli (va_runV (As := [.int c0]) (rest := []) ⟨hx, hb, hml, hown, hts⟩ (c9_X21_sign_2 l g m mq1 mq2 mq3 mq4 mq5 mq6 mq16 mq7 mq8 mq9 mq10 mq11 mq12 mq13 mq14 mq15 _ c0 (by omega) h_c0) (cwV 1 hts g9_law_180 rfl rfl rfl (by decide +kernel) ⟨Nat.le_of_ble_eq_true rfl, Nat.le_of_ble_eq_true rfl⟩) (mPreV (g := g) (wc := [(m, .inr (22, [.int 0, .ref mq1, .int 0, .ref mq2, .int 0, .ref mq3, .int 250, .ref mq4, .int 0, .ref mq5, .ref mq6, .ref mq16, .int 0, .ref mq7, .ref mq8, .ref mq9, .int 0, .null, .int 0, .null, .int 0, .int 0, .int 0, .ref mq10, .int 0, .ref mq11, .ref mq12, .ref mq13, .int 0, .ref mq14, .ref mq15, .int 0]))]) (C := RX21) (ci := 22) (q0 := 0) hE hS hPc hDc hFc rfl rfl) rfl rfl hl.1 rfl (lv_room (Nat.le_of_ble_eq_true rfl)) dL_law_166 ⟨Nat.le_of_ble_eq_true rfl, Nat.le_of_ble_eq_true rfl⟩) hS (fun q _ h => hFc q h) hFc (fun r_2 u t H1 locs ht hvm hw hB hz1 hk1 hS => ?_)
  replace hw : 0 = r_2 := Eq.symm hw
  subst hw
  obtain ⟨hP1, hD1⟩ := hB
  rw [ht] at hP1
  obtain ⟨hP, hD⟩ := va_join (wr := []) (w1 := [(m, .inr (22, [.int 1, .ref mq1, .int 0, .ref mq2, .int 0, .ref mq3, .int 250, .ref mq4, .int 0, .ref mq5, .ref mq6, .ref mq16, .int 0, .ref mq7, .ref mq8, .ref mq9, .int 0, .null, .int 0, .null, .int 0, .int 0, .int 0, .ref mq10, .int 0, .ref mq11, .ref mq12, .ref mq13, .int 0, .ref mq14, .ref mq15, .int 0]))]) hP hD [0] [] rfl rfl (by decide) (by decide) hk1 hFc hP1 hD1
  clear hP1 hD1 hPc hDc hFc hk1 hz1 hvm ht
  generalize H1 = H at hP hS ⊢
  have hP : va_P g.1 vwCl [(m, .inr (22, [.int 1, .ref mq1, .int 0, .ref mq2, .int 0, .ref mq3, .int 250, .ref mq4, .int 0, .ref mq5, .ref mq6, .ref mq16, .int 0, .ref mq7, .ref mq8, .ref mq9, .int 0, .null, .int 0, .null, .int 0, .int 0, .int 0, .ref mq10, .int 0, .ref mq11, .ref mq12, .ref mq13, .int 0, .ref mq14, .ref mq15, .int 0]))] H := hP
  have hD : va_D A [(m, .inr (22, [.int 1, .ref mq1, .int 0, .ref mq2, .int 0, .ref mq3, .int 250, .ref mq4, .int 0, .ref mq5, .ref mq6, .ref mq16, .int 0, .ref mq7, .ref mq8, .ref mq9, .int 0, .null, .int 0, .null, .int 0, .int 0, .int 0, .ref mq10, .int 0, .ref mq11, .ref mq12, .ref mq13, .int 0, .ref mq14, .ref mq15, .int 0]))] := hD
  refine lv_istore (lv' := [(6, .int 0), (5, .int 1), (0, .ref b), (1, .ref x), (2, .ref m), (3, .ref o), (4, .int 0)]) hx hb dL_law_169 hl (by decide) rfl (fun ls hl => ?_)
  refine lv_aload_n hx hb dL_law_171 rfl (lv_at hl 4 rfl) ?_
  have hPc := hP.sub (ws' := [(m, .inr (22, [.int 1, .ref mq1, .int 0, .ref mq2, .int 0, .ref mq3, .int 250, .ref mq4, .int 0, .ref mq5, .ref mq6, .ref mq16, .int 0, .ref mq7, .ref mq8, .ref mq9, .int 0, .null, .int 0, .null, .int 0, .int 0, .int 0, .ref mq10, .int 0, .ref mq11, .ref mq12, .ref mq13, .int 0, .ref mq14, .ref mq15, .int 0]))]) [0] rfl
  have hDc := hD.sub (ws' := [(m, .inr (22, [.int 1, .ref mq1, .int 0, .ref mq2, .int 0, .ref mq3, .int 250, .ref mq4, .int 0, .ref mq5, .ref mq6, .ref mq16, .int 0, .ref mq7, .ref mq8, .ref mq9, .int 0, .null, .int 0, .null, .int 0, .int 0, .int 0, .ref mq10, .int 0, .ref mq11, .ref mq12, .ref mq13, .int 0, .ref mq14, .ref mq15, .int 0]))]) [0] (by decide) rfl
  have hFc := va_free (wc := [(m, .inr (22, [.int 1, .ref mq1, .int 0, .ref mq2, .int 0, .ref mq3, .int 250, .ref mq4, .int 0, .ref mq5, .ref mq6, .ref mq16, .int 0, .ref mq7, .ref mq8, .ref mq9, .int 0, .null, .int 0, .null, .int 0, .int 0, .int 0, .ref mq10, .int 0, .ref mq11, .ref mq12, .ref mq13, .int 0, .ref mq14, .ref mq15, .int 0]))]) hD hS hA [0] rfl
  refine va_calli (va_runV (As := []) (rest := []) ⟨hx, hb, hml, hown, hts⟩ (c9_X21_thrown_2 l g m mq1 mq2 mq3 mq4 mq5 mq6 mq16 mq7 mq8 mq9 mq10 mq11 mq12 mq13 mq14 mq15 _) (cwV 0 hts g9_law_15 rfl rfl rfl (by decide +kernel) ⟨Nat.le_of_ble_eq_true rfl, Nat.le_of_ble_eq_true rfl⟩) (mPreV (g := g) (wc := [(m, .inr (22, [.int 1, .ref mq1, .int 0, .ref mq2, .int 0, .ref mq3, .int 250, .ref mq4, .int 0, .ref mq5, .ref mq6, .ref mq16, .int 0, .ref mq7, .ref mq8, .ref mq9, .int 0, .null, .int 0, .null, .int 0, .int 0, .int 0, .ref mq10, .int 0, .ref mq11, .ref mq12, .ref mq13, .int 0, .ref mq14, .ref mq15, .int 0]))]) (C := RX21) (ci := 22) (q0 := 0) hE hS hPc hDc hFc rfl rfl) rfl rfl hl.1 rfl (lv_room (Nat.le_of_ble_eq_true rfl)) dL_law_172 ⟨Nat.le_of_ble_eq_true rfl, Nat.le_of_ble_eq_true rfl⟩) hS (fun q _ h => hFc q h) hFc (fun r_3 u t H1 locs ht hvm hw hB hz1 hk1 hS => ?_)
  replace hw : 1 = r_3 := Eq.symm hw
  subst hw
  obtain ⟨hP1, hD1⟩ := hB
  rw [ht] at hP1
  obtain ⟨hP, hD⟩ := va_join (wr := []) (w1 := [(m, .inr (22, [.int 1, .ref mq1, .int 0, .ref mq2, .int 0, .ref mq3, .int 250, .ref mq4, .int 0, .ref mq5, .ref mq6, .ref mq16, .int 0, .ref mq7, .ref mq8, .ref mq9, .int 0, .null, .int 0, .null, .int 0, .int 0, .int 0, .ref mq10, .int 0, .ref mq11, .ref mq12, .ref mq13, .int 0, .ref mq14, .ref mq15, .int 0]))]) hP hD [0] [] rfl rfl (by decide) (by decide) hk1 hFc hP1 hD1
  clear hP1 hD1 hPc hDc hFc hk1 hz1 hvm ht
  generalize H1 = H at hP hS ⊢
  have hP : va_P g.1 vwCl [(m, .inr (22, [.int 1, .ref mq1, .int 0, .ref mq2, .int 0, .ref mq3, .int 250, .ref mq4, .int 0, .ref mq5, .ref mq6, .ref mq16, .int 0, .ref mq7, .ref mq8, .ref mq9, .int 0, .null, .int 0, .null, .int 0, .int 0, .int 0, .ref mq10, .int 0, .ref mq11, .ref mq12, .ref mq13, .int 0, .ref mq14, .ref mq15, .int 0]))] H := hP
  have hD : va_D A [(m, .inr (22, [.int 1, .ref mq1, .int 0, .ref mq2, .int 0, .ref mq3, .int 250, .ref mq4, .int 0, .ref mq5, .ref mq6, .ref mq16, .int 0, .ref mq7, .ref mq8, .ref mq9, .int 0, .null, .int 0, .null, .int 0, .int 0, .int 0, .ref mq10, .int 0, .ref mq11, .ref mq12, .ref mq13, .int 0, .ref mq14, .ref mq15, .int 0]))] := hD
  refine lv_iload hx hb dL_law_175 (lv_at hl 1 rfl) ?_
  refine lv_icmp_eq (tgt := 182) hx hb dL_law_177 (by decide) (fun _ => ?_) (fun c9 => absurd (by decide) c9)
  refine lv_iload hx hb dL_law_182 (lv_at hl 1 rfl) ?_
  refine lv_if_ne (tgt := 199) hx hb dL_law_184 (by decide) (fun _ => ?_) (fun c9 => absurd c9 (by decide))
  refine lv_goto (tgt := 1368) hx hb dL_law_199 (by decide) ?_
  subst hAe
  exact law_end C0 hS (lv_sub hl [2, 6] rfl) (Nat.le_of_ble_eq_true rfl) (Nat.le_of_ble_eq_true rfl)

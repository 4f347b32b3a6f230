def w9_L_group_15 : List Cond := [.codeWith yL_group cL_group 5 (some .int) [(0, 10, 13, 21)], .methodLink RL 47 yX11_group, .instanceMethod yX11_group, .selects RX11 yX11_group yX11_group, .initialized RX11, .code yX11_group cX11_group 3 (some .int), .fieldLink RX11 78 "Regexloom" "bounds" "LRegexloom$Table;", .methodLink RX11 225 yX9_get, .instanceMethod yX9_get, .selects RX9 yX9_get yX9_get, .initialized RX9, .code yX9_get cX9_get 3 (some .int), .fieldLink RX9 28 "Regexloom$Table" "size" "I", .fieldLink RX9 9 "Regexloom$Table" "width" "I", .fieldLink RX9 24 "Regexloom$Table" "cells" "[I"] ++ (u_ws RX11 TX11 17 ++ u_ws RX9 TX9 4)
set_option maxRecDepth 20000 in
theorem in9_L_group_15_RX11 : ∀ w ∈ u_ws RX11 TX11 17, w ∈ w9_L_group_15 := by decide +kernel
set_option maxRecDepth 20000 in
theorem in9_L_group_15_RX9 : ∀ w ∈ u_ws RX9 TX9 4, w ∈ w9_L_group_15 := by decide +kernel
set_option maxRecDepth 20000 in
theorem g9_L_group_15_0 : GoodIn w9_L_group_15 (wsV RL 47 RX11 yX11_group w9_X11_group_14) := goodIn_r _ [1, 2, 3, 4, 5, 6, 7, 8, 9, 10, 11, 12, 13, 14, 15, 16, 17, 18, 19, 20, 21, 22, 23, 24, 25, 26, 27, 28, 29, 30, 31, 32, 33, 34, 35] (by decide +kernel) (by decide +kernel)
set_option maxHeartbeats 4000000 in
set_option maxRecDepth 100000 in
theorem c9_L_group_15 (l : Launch) (g : G9) (h0 h1 h2 h3 h4 h5 h6 h7 h8 h9 h10 h11 h12 h13 h14 h15 sz : Nat) : Met l yL_group w9_L_group_15 ({ frames := 2, cells := 0, slots := 0, locals := 44 }) (mP g [(h0, .inr (12, [.ref h2, .int 0, .ref h3, .ref h4, .ref h5, .ref h6, .ref h7, .ref h8, .int (-1), .ref h9, .ref h10, .int 250, .ref h11, .int 0, .ref h12, .ref h13, .ref h14])), (h11, .inr (10, [.int 2, .int 7, .ref h15, .int 7])), (h15, .inl (g.2.1 0, 14, .inl (upd (upd (upd (upd (upd (upd (upd (upd (upd (upd (upd (upd (upd (upd (fun _ => 0) 0 (-1)) 1 (-1)) 2 (-1)) 3 (-1)) 4 (-1)) 5 (-1)) 6 (-1)) 7 (-1)) 8 (-1)) 9 (-1)) 10 (-1)) 11 (-1)) 12 (-1)) 13 (-1)))), (h1, .inl (g.2.1 2, 1, .inr (.inl (fun _ => 0))))] sz [.ref h0, .int 2, .int 0, .ref h1]) (va_Qi (fun (r : Int32) (_ : Unit) => r = 0) (fun (_ : Unit) (t : State) => mB g [(h0, .inr (12, [.ref h2, .int 0, .ref h3, .ref h4, .ref h5, .ref h6, .ref h7, .ref h8, .int (-1), .ref h9, .ref h10, .int 250, .ref h11, .int 0, .ref h12, .ref h13, .ref h14])), (h11, .inr (10, [.int 2, .int 7, .ref h15, .int 7])), (h15, .inl (g.2.1 0, 14, .inl (upd (upd (upd (upd (upd (upd (upd (upd (upd (upd (upd (upd (upd (upd (fun _ => 0) 0 (-1)) 1 (-1)) 2 (-1)) 3 (-1)) 4 (-1)) 5 (-1)) 6 (-1)) 7 (-1)) 8 (-1)) 9 (-1)) 10 (-1)) 11 (-1)) 12 (-1)) 13 (-1)))), (h1, .inl (g.2.1 2, 1, .inr (.inl (fun _ => 0))))] sz [(h0, .inr (12, [.ref h2, .int 0, .ref h3, .ref h4, .ref h5, .ref h6, .ref h7, .ref h8, .int (-1), .ref h9, .ref h10, .int 250, .ref h11, .int 0, .ref h12, .ref h13, .ref h14])), (h11, .inr (10, [.int 2, .int 7, .ref h15, .int 7])), (h15, .inl (g.2.1 0, 14, .inl (upd (upd (upd (upd (upd (upd (upd (upd (upd (upd (upd (upd (upd (upd (fun _ => 0) 0 (-1)) 1 (-1)) 2 (-1)) 3 (-1)) 4 (-1)) 5 (-1)) 6 (-1)) 7 (-1)) 8 (-1)) 9 (-1)) 10 (-1)) 11 (-1)) 12 (-1)) 13 (-1)))), (h1, .inl (g.2.1 2, 1, .inr (.inl (vp_updL (fun _ => 0) 0 (-1)))))] t) (va_A [(h0, .inr (12, [.ref h2, .int 0, .ref h3, .ref h4, .ref h5, .ref h6, .ref h7, .ref h8, .int (-1), .ref h9, .ref h10, .int 250, .ref h11, .int 0, .ref h12, .ref h13, .ref h14])), (h11, .inr (10, [.int 2, .int 7, .ref h15, .int 7])), (h15, .inl (g.2.1 0, 14, .inl (upd (upd (upd (upd (upd (upd (upd (upd (upd (upd (upd (upd (upd (upd (fun _ => 0) 0 (-1)) 1 (-1)) 2 (-1)) 3 (-1)) 4 (-1)) 5 (-1)) 6 (-1)) 7 (-1)) 8 (-1)) 9 (-1)) 10 (-1)) 11 (-1)) 12 (-1)) 13 (-1)))), (h1, .inl (g.2.1 2, 1, .inr (.inl (fun _ => 0))))] sz)) 0 0 (va_A [(h0, .inr (12, [.ref h2, .int 0, .ref h3, .ref h4, .ref h5, .ref h6, .ref h7, .ref h8, .int (-1), .ref h9, .ref h10, .int 250, .ref h11, .int 0, .ref h12, .ref h13, .ref h14])), (h11, .inr (10, [.int 2, .int 7, .ref h15, .int 7])), (h15, .inl (g.2.1 0, 14, .inl (upd (upd (upd (upd (upd (upd (upd (upd (upd (upd (upd (upd (upd (upd (fun _ => 0) 0 (-1)) 1 (-1)) 2 (-1)) 3 (-1)) 4 (-1)) 5 (-1)) 6 (-1)) 7 (-1)) 8 (-1)) 9 (-1)) 10 (-1)) 11 (-1)) 12 (-1)) 13 (-1)))), (h1, .inl (g.2.1 2, 1, .inr (.inl (fun _ => 0))))] sz) := by
  refine va_MetW (cc := cL_group) (maxL := 5) (ret := (some .int)) (by decide) rfl ?_
  intro p e s m args below meth c s₁ B hml hv
  obtain ⟨rfl, hsz, hP, hD0, hE⟩ := hv
  have hx := B.exec
  have hb := B.bytes
  have hr := B.returns
  have hts := atoms_spec (ws := w9_L_group_15) B.pre
  have hown : s.vm.findClass RL = some m.cls := findClass_of_methodNamed B.named
  have hlocks := B.notSynchronized
  have htab := vx_table (x := yL_group) B (hts (.codeWith yL_group cL_group 5 (some .int) [(0, 10, 13, 21)]) (List.mem_of_getElem? (i := 0) rfl))
  subst hsz
  have hD := hD0.self (sz := s.heap.size)
  generalize hAe : va_A [(h0, .inr (12, [.ref h2, .int 0, .ref h3, .ref h4, .ref h5, .ref h6, .ref h7, .ref h8, .int (-1), .ref h9, .ref h10, .int 250, .ref h11, .int 0, .ref h12, .ref h13, .ref h14])), (h11, .inr (10, [.int 2, .int 7, .ref h15, .int 7])), (h15, .inl (g.2.1 0, 14, .inl (upd (upd (upd (upd (upd (upd (upd (upd (upd (upd (upd (upd (upd (upd (fun _ => 0) 0 (-1)) 1 (-1)) 2 (-1)) 3 (-1)) 4 (-1)) 5 (-1)) 6 (-1)) 7 (-1)) 8 (-1)) 9 (-1)) 10 (-1)) 11 (-1)) 12 (-1)) 13 (-1)))), (h1, .inl (g.2.1 2, 1, .inr (.inl (fun _ => 0))))] s.heap.size = A at hD hE ⊢
  have hA : ∀ q : Nat, s.heap.size ≤ q → A q := fun q h => by rw [← hAe]; exact Or.inr h
  have hK := hE.1
  have hS : va_S A s.heap s.heap [] := va_S.rf
  replace hP : va_P g.1 vwCl [(h0, .inr (12, [.ref h2, .int 0, .ref h3, .ref h4, .ref h5, .ref h6, .ref h7, .ref h8, .int (-1), .ref h9, .ref h10, .int 250, .ref h11, .int 0, .ref h12, .ref h13, .ref h14])), (h11, .inr (10, [.int 2, .int 7, .ref h15, .int 7])), (h15, .inl (g.2.1 0, 14, .inl (upd (upd (upd (upd (upd (upd (upd (upd (upd (upd (upd (upd (upd (upd (fun _ => 0) 0 (-1)) 1 (-1)) 2 (-1)) 3 (-1)) 4 (-1)) 5 (-1)) 6 (-1)) 7 (-1)) 8 (-1)) 9 (-1)) 10 (-1)) 11 (-1)) 12 (-1)) 13 (-1)))), (h1, .inl (g.2.1 2, 1, .inr (.inl (fun _ => 0))))] s.heap := hP
  have hl := lv_entry ([.ref h0, .int 2, .int 0, .ref h1]) (n := 5) (Nat.le_of_ble_eq_true rfl)
  rw [lg_entry_eq]
  generalize (lg_sl ([.ref h0, .int 2, .int 0, .ref h1]) ++ List.replicate (5 - (lg_sl ([.ref h0, .int 2, .int 0, .ref h1])).length) Slot.unset).toArray = ls at hl ⊢
  replace hl : lv_has ls 5 [(0, .ref h0), (1, .int 2), (2, .int 0), (3, .ref h1)] := hl
  have hH0 : s.heap.size ≤ s.heap.size := Nat.le_refl _
  refine lv_aload_n hx hb dL_group_0 rfl (lv_at hl 3 rfl) ?_
  refine lv_iconst (v := 0) hx hb dL_group_1 (by decide) ?_
  refine lv_aload_n hx hb dL_group_2 rfl (lv_at hl 0 rfl) ?_
  refine lv_iload_n hx hb dL_group_3 rfl (lv_at hl 1 rfl) ?_
  refine lv_iload_n hx hb dL_group_4 rfl (lv_at hl 2 rfl) ?_
  have hPc := hP.sub (ws' := [(h0, .inr (12, [.ref h2, .int 0, .ref h3, .ref h4, .ref h5, .ref h6, .ref h7, .ref h8, .int (-1), .ref h9, .ref h10, .int 250, .ref h11, .int 0, .ref h12, .ref h13, .ref h14])), (h11, .inr (10, [.int 2, .int 7, .ref h15, .int 7])), (h15, .inl (g.2.1 0, 14, .inl (upd (upd (upd (upd (upd (upd (upd (upd (upd (upd (upd (upd (upd (upd (fun _ => 0) 0 (-1)) 1 (-1)) 2 (-1)) 3 (-1)) 4 (-1)) 5 (-1)) 6 (-1)) 7 (-1)) 8 (-1)) 9 (-1)) 10 (-1)) 11 (-1)) 12 (-1)) 13 (-1))))]) [0, 1, 2] rfl
  have hDc := hD.sub (ws' := [(h0, .inr (12, [.ref h2, .int 0, .ref h3, .ref h4, .ref h5, .ref h6, .ref h7, .ref h8, .int (-1), .ref h9, .ref h10, .int 250, .ref h11, .int 0, .ref h12, .ref h13, .ref h14])), (h11, .inr (10, [.int 2, .int 7, .ref h15, .int 7])), (h15, .inl (g.2.1 0, 14, .inl (upd (upd (upd (upd (upd (upd (upd (upd (upd (upd (upd (upd (upd (upd (fun _ => 0) 0 (-1)) 1 (-1)) 2 (-1)) 3 (-1)) 4 (-1)) 5 (-1)) 6 (-1)) 7 (-1)) 8 (-1)) 9 (-1)) 10 (-1)) 11 (-1)) 12 (-1)) 13 (-1))))]) [0, 1, 2] (by decide) rfl
  have hFc := va_free (wc := [(h0, .inr (12, [.ref h2, .int 0, .ref h3, .ref h4, .ref h5, .ref h6, .ref h7, .ref h8, .int (-1), .ref h9, .ref h10, .int 250, .ref h11, .int 0, .ref h12, .ref h13, .ref h14])), (h11, .inr (10, [.int 2, .int 7, .ref h15, .int 7])), (h15, .inl (g.2.1 0, 14, .inl (upd (upd (upd (upd (upd (upd (upd (upd (upd (upd (upd (upd (upd (upd (fun _ => 0) 0 (-1)) 1 (-1)) 2 (-1)) 3 (-1)) 4 (-1)) 5 (-1)) 6 (-1)) 7 (-1)) 8 (-1)) 9 (-1)) 10 (-1)) 11 (-1)) 12 (-1)) 13 (-1))))]) hD hS hA [0, 1, 2] rfl
  refine va_calli (va_runV (As := [.int 2, .int 0]) (rest := [.int 0, .ref h1]) ⟨hx, hb, hml, hown, hts⟩ (c9_X11_group_14 l g h0 h2 h3 h4 h5 h6 h7 h8 h9 h10 h11 h12 h13 h14 h15 _ (upd (upd (upd (upd (upd (upd (upd (upd (upd (upd (upd (upd (upd (upd (fun _ => 0) 0 (-1)) 1 (-1)) 2 (-1)) 3 (-1)) 4 (-1)) 5 (-1)) 6 (-1)) 7 (-1)) 8 (-1)) 9 (-1)) 10 (-1)) 11 (-1)) 12 (-1)) 13 (-1))) (cwV 2 hts g9_L_group_15_0 rfl rfl rfl (by decide +kernel) ⟨Nat.le_of_ble_eq_true rfl, Nat.le_of_ble_eq_true rfl⟩) (mPreV (g := g) (wc := [(h0, .inr (12, [.ref h2, .int 0, .ref h3, .ref h4, .ref h5, .ref h6, .ref h7, .ref h8, .int (-1), .ref h9, .ref h10, .int 250, .ref h11, .int 0, .ref h12, .ref h13, .ref h14])), (h11, .inr (10, [.int 2, .int 7, .ref h15, .int 7])), (h15, .inl (g.2.1 0, 14, .inl (upd (upd (upd (upd (upd (upd (upd (upd (upd (upd (upd (upd (upd (upd (fun _ => 0) 0 (-1)) 1 (-1)) 2 (-1)) 3 (-1)) 4 (-1)) 5 (-1)) 6 (-1)) 7 (-1)) 8 (-1)) 9 (-1)) 10 (-1)) 11 (-1)) 12 (-1)) 13 (-1))))]) (C := RX11) (ci := 12) (q0 := 0) hE hS hPc hDc hFc rfl rfl) rfl rfl hl.1 rfl (lv_room (Nat.le_of_ble_eq_true rfl)) dL_group_5 ⟨Nat.le_of_ble_eq_true rfl, Nat.le_of_ble_eq_true rfl⟩) hS (fun q _ h => hFc q h) hFc (fun r_1 u t H1 locs ht hvm hw hB hz1 hk1 hS => ?_)
  replace hw : ((upd (upd (upd (upd (upd (upd (upd (upd (upd (upd (upd (upd (upd (upd (fun _ => 0) 0 (-1)) 1 (-1)) 2 (-1)) 3 (-1)) 4 (-1)) 5 (-1)) 6 (-1)) 7 (-1)) 8 (-1)) 9 (-1)) 10 (-1)) 11 (-1)) 12 (-1)) 13 (-1)) 4) = r_1 := Eq.symm hw
  subst hw
  obtain ⟨hP1, hD1⟩ := hB
  rw [ht] at hP1
  obtain ⟨hP, hD⟩ := va_join (wr := [(h1, .inl (g.2.1 2, 1, .inr (.inl (fun _ => 0))))]) (w1 := [(h0, .inr (12, [.ref h2, .int 0, .ref h3, .ref h4, .ref h5, .ref h6, .ref h7, .ref h8, .int (-1), .ref h9, .ref h10, .int 250, .ref h11, .int 0, .ref h12, .ref h13, .ref h14])), (h11, .inr (10, [.int 2, .int 7, .ref h15, .int 7])), (h15, .inl (g.2.1 0, 14, .inl (upd (upd (upd (upd (upd (upd (upd (upd (upd (upd (upd (upd (upd (upd (fun _ => 0) 0 (-1)) 1 (-1)) 2 (-1)) 3 (-1)) 4 (-1)) 5 (-1)) 6 (-1)) 7 (-1)) 8 (-1)) 9 (-1)) 10 (-1)) 11 (-1)) 12 (-1)) 13 (-1))))]) hP hD [0, 1, 2] [3] rfl rfl (by decide) (by decide) hk1 hFc hP1 hD1
  clear hP1 hD1 hPc hDc hFc hk1 hz1 hvm ht
  generalize H1 = H at hP hS ⊢
  have hP : va_P g.1 vwCl [(h1, .inl (g.2.1 2, 1, .inr (.inl (fun _ => 0)))), (h0, .inr (12, [.ref h2, .int 0, .ref h3, .ref h4, .ref h5, .ref h6, .ref h7, .ref h8, .int (-1), .ref h9, .ref h10, .int 250, .ref h11, .int 0, .ref h12, .ref h13, .ref h14])), (h11, .inr (10, [.int 2, .int 7, .ref h15, .int 7])), (h15, .inl (g.2.1 0, 14, .inl (upd (upd (upd (upd (upd (upd (upd (upd (upd (upd (upd (upd (upd (upd (fun _ => 0) 0 (-1)) 1 (-1)) 2 (-1)) 3 (-1)) 4 (-1)) 5 (-1)) 6 (-1)) 7 (-1)) 8 (-1)) 9 (-1)) 10 (-1)) 11 (-1)) 12 (-1)) 13 (-1))))] H := hP
  have hD : va_D A [(h1, .inl (g.2.1 2, 1, .inr (.inl (fun _ => 0)))), (h0, .inr (12, [.ref h2, .int 0, .ref h3, .ref h4, .ref h5, .ref h6, .ref h7, .ref h8, .int (-1), .ref h9, .ref h10, .int 250, .ref h11, .int 0, .ref h12, .ref h13, .ref h14])), (h11, .inr (10, [.int 2, .int 7, .ref h15, .int 7])), (h15, .inl (g.2.1 0, 14, .inl (upd (upd (upd (upd (upd (upd (upd (upd (upd (upd (upd (upd (upd (upd (fun _ => 0) 0 (-1)) 1 (-1)) 2 (-1)) 3 (-1)) 4 (-1)) 5 (-1)) 6 (-1)) 7 (-1)) 8 (-1)) 9 (-1)) 10 (-1)) 11 (-1)) 12 (-1)) 13 (-1))))] := hD
  refine e_top (y := (-1)) (by rfl) ?_
  refine lv_i2l (v := (-1)) hx hb dL_group_8 (by decide) ?_
  refine va_last hx hb hK hP hD hS 0 2 rfl rfl (vp_in_nI (n := 0) (by decide) (by decide)) dL_group_9 (fun H locs hP hD hS => ?_)
  have hP : va_P g.1 vwCl [(h1, .inl (g.2.1 2, 1, .inr (.inl (vp_updL (fun _ => 0) 0 (-1))))), (h0, .inr (12, [.ref h2, .int 0, .ref h3, .ref h4, .ref h5, .ref h6, .ref h7, .ref h8, .int (-1), .ref h9, .ref h10, .int 250, .ref h11, .int 0, .ref h12, .ref h13, .ref h14])), (h11, .inr (10, [.int 2, .int 7, .ref h15, .int 7])), (h15, .inl (g.2.1 0, 14, .inl (upd (upd (upd (upd (upd (upd (upd (upd (upd (upd (upd (upd (upd (upd (fun _ => 0) 0 (-1)) 1 (-1)) 2 (-1)) 3 (-1)) 4 (-1)) 5 (-1)) 6 (-1)) 7 (-1)) 8 (-1)) 9 (-1)) 10 (-1)) 11 (-1)) 12 (-1)) 13 (-1))))] H := hP
  have hD : va_D A [(h1, .inl (g.2.1 2, 1, .inr (.inl (vp_updL (fun _ => 0) 0 (-1))))), (h0, .inr (12, [.ref h2, .int 0, .ref h3, .ref h4, .ref h5, .ref h6, .ref h7, .ref h8, .int (-1), .ref h9, .ref h10, .int 250, .ref h11, .int 0, .ref h12, .ref h13, .ref h14])), (h11, .inr (10, [.int 2, .int 7, .ref h15, .int 7])), (h15, .inl (g.2.1 0, 14, .inl (upd (upd (upd (upd (upd (upd (upd (upd (upd (upd (upd (upd (upd (upd (fun _ => 0) 0 (-1)) 1 (-1)) 2 (-1)) 3 (-1)) 4 (-1)) 5 (-1)) 6 (-1)) 7 (-1)) 8 (-1)) 9 (-1)) 10 (-1)) 11 (-1)) 12 (-1)) 13 (-1))))] := hD
  refine lv_goto (tgt := 17) hx hb dL_group_10 (by decide) ?_
  refine lv_iconst (v := 0) hx hb dL_group_17 (by decide) ?_
  have hP9 := hP.sub (ws' := [(h0, .inr (12, [.ref h2, .int 0, .ref h3, .ref h4, .ref h5, .ref h6, .ref h7, .ref h8, .int (-1), .ref h9, .ref h10, .int 250, .ref h11, .int 0, .ref h12, .ref h13, .ref h14])), (h11, .inr (10, [.int 2, .int 7, .ref h15, .int 7])), (h15, .inl (g.2.1 0, 14, .inl (upd (upd (upd (upd (upd (upd (upd (upd (upd (upd (upd (upd (upd (upd (fun _ => 0) 0 (-1)) 1 (-1)) 2 (-1)) 3 (-1)) 4 (-1)) 5 (-1)) 6 (-1)) 7 (-1)) 8 (-1)) 9 (-1)) 10 (-1)) 11 (-1)) 12 (-1)) 13 (-1)))), (h1, .inl (g.2.1 2, 1, .inr (.inl (vp_updL (fun _ => 0) 0 (-1)))))]) [1, 2, 3, 0] rfl
  have hD9 := hD.sub (ws' := [(h0, .inr (12, [.ref h2, .int 0, .ref h3, .ref h4, .ref h5, .ref h6, .ref h7, .ref h8, .int (-1), .ref h9, .ref h10, .int 250, .ref h11, .int 0, .ref h12, .ref h13, .ref h14])), (h11, .inr (10, [.int 2, .int 7, .ref h15, .int 7])), (h15, .inl (g.2.1 0, 14, .inl (upd (upd (upd (upd (upd (upd (upd (upd (upd (upd (upd (upd (upd (upd (fun _ => 0) 0 (-1)) 1 (-1)) 2 (-1)) 3 (-1)) 4 (-1)) 5 (-1)) 6 (-1)) 7 (-1)) 8 (-1)) 9 (-1)) 10 (-1)) 11 (-1)) 12 (-1)) 13 (-1)))), (h1, .inl (g.2.1 2, 1, .inr (.inl (vp_updL (fun _ => 0) 0 (-1)))))]) [1, 2, 3, 0] (by decide) rfl
  subst hAe
  exact W.iret (v := 0) hx hb hr (fun t ht hW => ⟨⟨0, (), rfl, rfl, by rw [ht]; exact hP9, hD9⟩, hS.F ht⟩) hS.2.2 dL_group_18
def w9_X21_group_14 : List Cond := [.code yX21_group cX21_group 3 (some .int), .methodLink RX21 160 yX21_in, .static yX21_in, .initialized RX21, .code yX21_in cX21_in 3 (some .boolean), .methodLink RX21 154 yX21_refused, .instanceMethod yX21_refused, .selects RX21 yX21_refused yX21_refused, .code yX21_refused cX21_refused 2 (some .boolean), .fieldLink RX21 144 "RegexloomModel" "refusal" "I", .fieldLink RX21 107 "RegexloomModel" "told" "[I"] ++ (u_ws RX21 TX21 32)
set_option maxRecDepth 20000 in
theorem in9_X21_group_14_RX21 : ∀ w ∈ u_ws RX21 TX21 32, w ∈ w9_X21_group_14 := by decide +kernel
set_option maxRecDepth 20000 in
theorem g9_X21_group_14_0 : GoodIn w9_X21_group_14 (va_wsS RX21 160 yX21_in w9_X21_in_18) := goodIn_r _ [1, 2, 3, 4] (by decide +kernel) (by decide +kernel)
set_option maxRecDepth 20000 in
theorem g9_X21_group_14_1 : GoodIn w9_X21_group_14 (wsV RX21 154 RX21 yX21_refused w9_X21_refused_1) := goodIn_r _ [5, 6, 7, 3, 8, 9, 11, 12, 13, 14, 15, 16, 17, 18, 19, 20, 21, 22, 23, 24, 25, 26, 27, 28, 29, 30, 31, 32, 33, 34, 35, 36, 37, 38, 39, 40, 41, 42] (by decide +kernel) (by decide +kernel)
set_option maxHeartbeats 4000000 in
set_option maxRecDepth 100000 in
theorem c9_X21_group_14 (l : Launch) (g : G9) (h0 h1 h2 h3 h4 h5 h6 h7 h8 h9 h10 h11 h12 h13 h14 h15 h16 sz : Nat) (f0 : Nat → Int32) : Met l yX21_group w9_X21_group_14 ({ frames := 1, cells := 0, slots := 0, locals := 22 }) (mP g [(h0, .inr (22, [.int 0, .ref h1, .int 0, .ref h2, .int 0, .ref h3, .int 250, .ref h4, .int 0, .ref h5, .ref h6, .ref h7, .int 0, .ref h8, .ref h9, .ref h10, .int 0, .null, .int 0, .null, .int 0, .int 0, .int 0, .ref h11, .int 0, .ref h12, .ref h13, .ref h14, .int 0, .ref h15, .ref h16, .int 0])), (h7, .inl (g.2.1 0, 14, .inl f0))] sz [.ref h0, .int 2, .int 0]) (va_Qi (fun (r : Int32) (_ : Unit) => r = (f0 4)) (fun (_ : Unit) (t : State) => mB g [(h0, .inr (22, [.int 0, .ref h1, .int 0, .ref h2, .int 0, .ref h3, .int 250, .ref h4, .int 0, .ref h5, .ref h6, .ref h7, .int 0, .ref h8, .ref h9, .ref h10, .int 0, .null, .int 0, .null, .int 0, .int 0, .int 0, .ref h11, .int 0, .ref h12, .ref h13, .ref h14, .int 0, .ref h15, .ref h16, .int 0])), (h7, .inl (g.2.1 0, 14, .inl f0))] sz [(h0, .inr (22, [.int 0, .ref h1, .int 0, .ref h2, .int 0, .ref h3, .int 250, .ref h4, .int 0, .ref h5, .ref h6, .ref h7, .int 0, .ref h8, .ref h9, .ref h10, .int 0, .null, .int 0, .null, .int 0, .int 0, .int 0, .ref h11, .int 0, .ref h12, .ref h13, .ref h14, .int 0, .ref h15, .ref h16, .int 0])), (h7, .inl (g.2.1 0, 14, .inl f0))] t) (va_A [(h0, .inr (22, [.int 0, .ref h1, .int 0, .ref h2, .int 0, .ref h3, .int 250, .ref h4, .int 0, .ref h5, .ref h6, .ref h7, .int 0, .ref h8, .ref h9, .ref h10, .int 0, .null, .int 0, .null, .int 0, .int 0, .int 0, .ref h11, .int 0, .ref h12, .ref h13, .ref h14, .int 0, .ref h15, .ref h16, .int 0])), (h7, .inl (g.2.1 0, 14, .inl f0))] sz)) 0 0 (va_A [(h0, .inr (22, [.int 0, .ref h1, .int 0, .ref h2, .int 0, .ref h3, .int 250, .ref h4, .int 0, .ref h5, .ref h6, .ref h7, .int 0, .ref h8, .ref h9, .ref h10, .int 0, .null, .int 0, .null, .int 0, .int 0, .int 0, .ref h11, .int 0, .ref h12, .ref h13, .ref h14, .int 0, .ref h15, .ref h16, .int 0])), (h7, .inl (g.2.1 0, 14, .inl f0))] sz) := by
  refine Met.ofW (cc := cX21_group) (maxL := 3) (ret := (some .int)) (by decide) rfl ?_
  intro p e s m args below meth c s₁ B hml hv
  obtain ⟨rfl, hsz, hP, hD0, hE⟩ := hv
  have hx := B.exec
  have hb := B.bytes
  have hr := B.returns
  have hts := atoms_spec (ws := w9_X21_group_14) B.pre
  have hown : s.vm.findClass RX21 = some m.cls := findClass_of_methodNamed B.named
  have hlocks := B.notSynchronized
  subst hsz
  have hD := hD0.self (sz := s.heap.size)
  generalize hAe : va_A [(h0, .inr (22, [.int 0, .ref h1, .int 0, .ref h2, .int 0, .ref h3, .int 250, .ref h4, .int 0, .ref h5, .ref h6, .ref h7, .int 0, .ref h8, .ref h9, .ref h10, .int 0, .null, .int 0, .null, .int 0, .int 0, .int 0, .ref h11, .int 0, .ref h12, .ref h13, .ref h14, .int 0, .ref h15, .ref h16, .int 0])), (h7, .inl (g.2.1 0, 14, .inl f0))] s.heap.size = A at hD hE ⊢
  have hA : ∀ q : Nat, s.heap.size ≤ q → A q := fun q h => by rw [← hAe]; exact Or.inr h
  have hK := hE.1
  have hS : va_S A s.heap s.heap [] := va_S.rf
  replace hP : va_P g.1 vwCl [(h0, .inr (22, [.int 0, .ref h1, .int 0, .ref h2, .int 0, .ref h3, .int 250, .ref h4, .int 0, .ref h5, .ref h6, .ref h7, .int 0, .ref h8, .ref h9, .ref h10, .int 0, .null, .int 0, .null, .int 0, .int 0, .int 0, .ref h11, .int 0, .ref h12, .ref h13, .ref h14, .int 0, .ref h15, .ref h16, .int 0])), (h7, .inl (g.2.1 0, 14, .inl f0))] s.heap := hP
  have hl := lv_entry ([.ref h0, .int 2, .int 0]) (n := 3) (Nat.le_of_ble_eq_true rfl)
  rw [lg_entry_eq]
  generalize (lg_sl ([.ref h0, .int 2, .int 0]) ++ List.replicate (3 - (lg_sl ([.ref h0, .int 2, .int 0])).length) Slot.unset).toArray = ls at hl ⊢
  replace hl : lv_has ls 3 [(0, .ref h0), (1, .int 2), (2, .int 0)] := hl
  have hH0 : s.heap.size ≤ s.heap.size := Nat.le_refl _
  refine lv_aload_n hx hb dX21_group_0 rfl (lv_at hl 0 rfl) ?_
  refine lv_iload_n hx hb dX21_group_1 rfl (lv_at hl 1 rfl) ?_
  refine lv_iconst (v := 0) hx hb dX21_group_2 (by decide) ?_
  refine lv_bipush (v := 6) hx hb dX21_group_3 (by decide) ?_
  have hPc := hP.sub (ws' := []) [] rfl
  have hDc := hD.sub (ws' := []) [] (by decide) rfl
  have hFc := va_free (wc := []) hD hS hA [] rfl
  refine va_calli (va_runS (As := [.int 2, .int 0, .int 6]) (rest := [.ref h0]) ⟨hx, hb, hml, hown, hts⟩ (c9_X21_in_18 l g _) (va_cwS 3 hts g9_X21_group_14_0 rfl rfl rfl (by decide +kernel) ⟨Nat.le_of_ble_eq_true rfl, Nat.le_of_ble_eq_true rfl⟩) (mPreS (g := g) (wc := []) hE hS hPc hDc hFc) rfl rfl hl.1 rfl (lv_room (Nat.le_of_ble_eq_true rfl)) dX21_group_5 ⟨Nat.le_of_ble_eq_true rfl, Nat.le_of_ble_eq_true rfl⟩) hS (fun q _ h => hFc q h) hFc (fun r_1 u t H1 locs ht hvm hw hB hz1 hk1 hS => ?_)
  replace hw : 1 = r_1 := Eq.symm hw
  subst hw
  obtain ⟨hP1, hD1⟩ := hB
  rw [ht] at hP1
  obtain ⟨hP, hD⟩ := va_join (wr := [(h0, .inr (22, [.int 0, .ref h1, .int 0, .ref h2, .int 0, .ref h3, .int 250, .ref h4, .int 0, .ref h5, .ref h6, .ref h7, .int 0, .ref h8, .ref h9, .ref h10, .int 0, .null, .int 0, .null, .int 0, .int 0, .int 0, .ref h11, .int 0, .ref h12, .ref h13, .ref h14, .int 0, .ref h15, .ref h16, .int 0])), (h7, .inl (g.2.1 0, 14, .inl f0))]) (w1 := []) hP hD [] [0, 1] rfl rfl (by decide) (by decide) hk1 hFc hP1 hD1
  clear hP1 hD1 hPc hDc hFc hk1 hz1 hvm ht
  generalize H1 = H at hP hS ⊢
  have hP : va_P g.1 vwCl [(h0, .inr (22, [.int 0, .ref h1, .int 0, .ref h2, .int 0, .ref h3, .int 250, .ref h4, .int 0, .ref h5, .ref h6, .ref h7, .int 0, .ref h8, .ref h9, .ref h10, .int 0, .null, .int 0, .null, .int 0, .int 0, .int 0, .ref h11, .int 0, .ref h12, .ref h13, .ref h14, .int 0, .ref h15, .ref h16, .int 0])), (h7, .inl (g.2.1 0, 14, .inl f0))] H := hP
  have hD : va_D A [(h0, .inr (22, [.int 0, .ref h1, .int 0, .ref h2, .int 0, .ref h3, .int 250, .ref h4, .int 0, .ref h5, .ref h6, .ref h7, .int 0, .ref h8, .ref h9, .ref h10, .int 0, .null, .int 0, .null, .int 0, .int 0, .int 0, .ref h11, .int 0, .ref h12, .ref h13, .ref h14, .int 0, .ref h15, .ref h16, .int 0])), (h7, .inl (g.2.1 0, 14, .inl f0))] := hD
  refine lv_if_eq (tgt := 15) hx hb dX21_group_8 (by decide) (fun c9 => absurd c9 (by decide)) (fun _ => ?_)
  refine lv_iconst (v := 0) hx hb dX21_group_11 (by decide) ?_
  refine lv_goto (tgt := 16) hx hb dX21_group_12 (by decide) ?_
  have hPc := hP.sub (ws' := [(h0, .inr (22, [.int 0, .ref h1, .int 0, .ref h2, .int 0, .ref h3, .int 250, .ref h4, .int 0, .ref h5, .ref h6, .ref h7, .int 0, .ref h8, .ref h9, .ref h10, .int 0, .null, .int 0, .null, .int 0, .int 0, .int 0, .ref h11, .int 0, .ref h12, .ref h13, .ref h14, .int 0, .ref h15, .ref h16, .int 0]))]) [0] rfl
  have hDc := hD.sub (ws' := [(h0, .inr (22, [.int 0, .ref h1, .int 0, .ref h2, .int 0, .ref h3, .int 250, .ref h4, .int 0, .ref h5, .ref h6, .ref h7, .int 0, .ref h8, .ref h9, .ref h10, .int 0, .null, .int 0, .null, .int 0, .int 0, .int 0, .ref h11, .int 0, .ref h12, .ref h13, .ref h14, .int 0, .ref h15, .ref h16, .int 0]))]) [0] (by decide) rfl
  have hFc := va_free (wc := [(h0, .inr (22, [.int 0, .ref h1, .int 0, .ref h2, .int 0, .ref h3, .int 250, .ref h4, .int 0, .ref h5, .ref h6, .ref h7, .int 0, .ref h8, .ref h9, .ref h10, .int 0, .null, .int 0, .null, .int 0, .int 0, .int 0, .ref h11, .int 0, .ref h12, .ref h13, .ref h14, .int 0, .ref h15, .ref h16, .int 0]))]) hD hS hA [0] rfl
  refine va_calli (va_runV (As := [.int 0]) (rest := []) ⟨hx, hb, hml, hown, hts⟩ (c9_X21_refused_1 l g h0 h1 h2 h3 h4 h5 h6 h7 h8 h9 h10 h11 h12 h13 h14 h15 h16 _) (cwV 1 hts g9_X21_group_14_1 rfl rfl rfl (by decide +kernel) ⟨Nat.le_of_ble_eq_true rfl, Nat.le_of_ble_eq_true rfl⟩) (mPreV (g := g) (wc := [(h0, .inr (22, [.int 0, .ref h1, .int 0, .ref h2, .int 0, .ref h3, .int 250, .ref h4, .int 0, .ref h5, .ref h6, .ref h7, .int 0, .ref h8, .ref h9, .ref h10, .int 0, .null, .int 0, .null, .int 0, .int 0, .int 0, .ref h11, .int 0, .ref h12, .ref h13, .ref h14, .int 0, .ref h15, .ref h16, .int 0]))]) (C := RX21) (ci := 22) (q0 := 0) hE hS hPc hDc hFc rfl rfl) rfl rfl hl.1 rfl (lv_room (Nat.le_of_ble_eq_true rfl)) dX21_group_16 ⟨Nat.le_of_ble_eq_true rfl, Nat.le_of_ble_eq_true rfl⟩) hS (fun q _ h => hFc q h) hFc (fun r_2 u t H1 locs ht hvm hw hB hz1 hk1 hS => ?_)
  replace hw : 0 = r_2 := Eq.symm hw
  subst hw
  obtain ⟨hP1, hD1⟩ := hB
  rw [ht] at hP1
  obtain ⟨hP, hD⟩ := va_join (wr := [(h7, .inl (g.2.1 0, 14, .inl f0))]) (w1 := [(h0, .inr (22, [.int 0, .ref h1, .int 0, .ref h2, .int 0, .ref h3, .int 250, .ref h4, .int 0, .ref h5, .ref h6, .ref h7, .int 0, .ref h8, .ref h9, .ref h10, .int 0, .null, .int 0, .null, .int 0, .int 0, .int 0, .ref h11, .int 0, .ref h12, .ref h13, .ref h14, .int 0, .ref h15, .ref h16, .int 0]))]) hP hD [0] [1] rfl rfl (by decide) (by decide) hk1 hFc hP1 hD1
  clear hP1 hD1 hPc hDc hFc hk1 hz1 hvm ht
  generalize H1 = H at hP hS ⊢
  have hP : va_P g.1 vwCl [(h7, .inl (g.2.1 0, 14, .inl f0)), (h0, .inr (22, [.int 0, .ref h1, .int 0, .ref h2, .int 0, .ref h3, .int 250, .ref h4, .int 0, .ref h5, .ref h6, .ref h7, .int 0, .ref h8, .ref h9, .ref h10, .int 0, .null, .int 0, .null, .int 0, .int 0, .int 0, .ref h11, .int 0, .ref h12, .ref h13, .ref h14, .int 0, .ref h15, .ref h16, .int 0]))] H := hP
  have hD : va_D A [(h7, .inl (g.2.1 0, 14, .inl f0)), (h0, .inr (22, [.int 0, .ref h1, .int 0, .ref h2, .int 0, .ref h3, .int 250, .ref h4, .int 0, .ref h5, .ref h6, .ref h7, .int 0, .ref h8, .ref h9, .ref h10, .int 0, .null, .int 0, .null, .int 0, .int 0, .int 0, .ref h11, .int 0, .ref h12, .ref h13, .ref h14, .int 0, .ref h15, .ref h16, .int 0]))] := hD
  refine lv_if_eq (tgt := 26) hx hb dX21_group_19 (by decide) (fun _ => ?_) (fun c9 => absurd (by decide) c9)
  refine lv_aload_n hx hb dX21_group_26 rfl (lv_at hl 0 rfl) ?_
  refine va_get (D := g.1) (ci := 22) (v := .ref h7) (C := RX21) (T := TX21) (N := 32) hx hb hts in9_X21_group_14_RX21 hown hK hP 1 rfl rfl 11 (by decide) (hts (.fieldLink RX21 107 "RegexloomModel" "told" "[I") (List.mem_of_getElem? (i := 10) rfl)) (fun _ h9 => h9) rfl dX21_group_27 ?_
  refine lv_iconst (v := 2) hx hb dX21_group_30 (by decide) ?_
  refine lv_iload_n hx hb dX21_group_31 rfl (lv_at hl 1 rfl) ?_
  refine lv_imul hx hb dX21_group_32 ?_
  refine e_top (y := 4) (by decide) ?_
  refine lv_iload_n hx hb dX21_group_33 rfl (lv_at hl 2 rfl) ?_
  refine lv_if_eq (tgt := 41) hx hb dX21_group_34 (by decide) (fun _ => ?_) (fun c9 => absurd (by decide) c9)
  refine lv_iconst (v := 0) hx hb dX21_group_41 (by decide) ?_
  refine lv_iadd hx hb dX21_group_42 ?_
  refine e_top (y := 4) (by decide) ?_
  refine va_iald hx hb hK hP 0 0 rfl rfl (vp_in_nI (n := 4) (by decide) (by decide)) dX21_group_43 ?_
  refine e_topv (y := .int (f0 4)) (by rfl) ?_
  have hP9 := hP.sub (ws' := [(h0, .inr (22, [.int 0, .ref h1, .int 0, .ref h2, .int 0, .ref h3, .int 250, .ref h4, .int 0, .ref h5, .ref h6, .ref h7, .int 0, .ref h8, .ref h9, .ref h10, .int 0, .null, .int 0, .null, .int 0, .int 0, .int 0, .ref h11, .int 0, .ref h12, .ref h13, .ref h14, .int 0, .ref h15, .ref h16, .int 0])), (h7, .inl (g.2.1 0, 14, .inl f0))]) [1, 0] rfl
  have hD9 := hD.sub (ws' := [(h0, .inr (22, [.int 0, .ref h1, .int 0, .ref h2, .int 0, .ref h3, .int 250, .ref h4, .int 0, .ref h5, .ref h6, .ref h7, .int 0, .ref h8, .ref h9, .ref h10, .int 0, .null, .int 0, .null, .int 0, .int 0, .int 0, .ref h11, .int 0, .ref h12, .ref h13, .ref h14, .int 0, .ref h15, .ref h16, .int 0])), (h7, .inl (g.2.1 0, 14, .inl f0))]) [1, 0] (by decide) rfl
  subst hAe
  exact W.iret (v := (f0 4)) hx hb hr (fun t ht hW => ⟨⟨(f0 4), (), rfl, rfl, by rw [ht]; exact hP9, hD9⟩, hS.F ht⟩) hS.2.2 dX21_group_44
def w9_X9_get_13 : List Cond := [.code yX9_get cX9_get 3 (some .int), .fieldLink RX9 28 "Regexloom$Table" "size" "I", .fieldLink RX9 9 "Regexloom$Table" "width" "I", .fieldLink RX9 24 "Regexloom$Table" "cells" "[I"] ++ (u_ws RX9 TX9 4)
set_option maxRecDepth 20000 in
theorem in9_X9_get_13_RX9 : ∀ w ∈ u_ws RX9 TX9 4, w ∈ w9_X9_get_13 := by decide +kernel
set_option maxHeartbeats 4000000 in
set_option maxRecDepth 100000 in
theorem c9_X9_get_13 (l : Launch) (g : G9) (h0 h1 sz : Nat) (f0 : Nat → Int32) : Met l yX9_get w9_X9_get_13 ({ frames := 0, cells := 0, slots := 0, locals := 0 }) (mP g [(h0, .inr (10, [.int 2, .int 7, .ref h1, .int 7])), (h1, .inl (g.2.1 0, 14, .inl f0))] sz [.ref h0, .int 3, .int 0]) (va_Qi (fun (r : Int32) (_ : Unit) => r = (f0 6)) (fun (_ : Unit) (t : State) => mB g [(h0, .inr (10, [.int 2, .int 7, .ref h1, .int 7])), (h1, .inl (g.2.1 0, 14, .inl f0))] sz [(h0, .inr (10, [.int 2, .int 7, .ref h1, .int 7])), (h1, .inl (g.2.1 0, 14, .inl f0))] t) (va_A [(h0, .inr (10, [.int 2, .int 7, .ref h1, .int 7])), (h1, .inl (g.2.1 0, 14, .inl f0))] sz)) 0 0 (va_A [(h0, .inr (10, [.int 2, .int 7, .ref h1, .int 7])), (h1, .inl (g.2.1 0, 14, .inl f0))] sz) := by
  refine Met.ofW (cc := cX9_get) (maxL := 3) (ret := (some .int)) (by decide) rfl ?_
  intro p e s m args below meth c s₁ B hml hv
  obtain ⟨rfl, hsz, hP, hD0, hE⟩ := hv
  have hx := B.exec
  have hb := B.bytes
  have hr := B.returns
  have hts := atoms_spec (ws := w9_X9_get_13) B.pre
  have hown : s.vm.findClass RX9 = some m.cls := findClass_of_methodNamed B.named
  have hlocks := B.notSynchronized
  subst hsz
  have hD := hD0.self (sz := s.heap.size)
  generalize hAe : va_A [(h0, .inr (10, [.int 2, .int 7, .ref h1, .int 7])), (h1, .inl (g.2.1 0, 14, .inl f0))] s.heap.size = A at hD hE ⊢
  have hA : ∀ q : Nat, s.heap.size ≤ q → A q := fun q h => by rw [← hAe]; exact Or.inr h
  have hK := hE.1
  have hS : va_S A s.heap s.heap [] := va_S.rf
  replace hP : va_P g.1 vwCl [(h0, .inr (10, [.int 2, .int 7, .ref h1, .int 7])), (h1, .inl (g.2.1 0, 14, .inl f0))] s.heap := hP
  have hl := lv_entry ([.ref h0, .int 3, .int 0]) (n := 3) (Nat.le_of_ble_eq_true rfl)
  rw [lg_entry_eq]
  generalize (lg_sl ([.ref h0, .int 3, .int 0]) ++ List.replicate (3 - (lg_sl ([.ref h0, .int 3, .int 0])).length) Slot.unset).toArray = ls at hl ⊢
  replace hl : lv_has ls 3 [(0, .ref h0), (1, .int 3), (2, .int 0)] := hl
  have hH0 : s.heap.size ≤ s.heap.size := Nat.le_refl _
  refine lv_iload_n hx hb dX9_get_0 rfl (lv_at hl 1 rfl) ?_
  refine lv_if_lt (tgt := 24) hx hb dX9_get_1 (by decide) (fun c9 => absurd c9 (by decide)) (fun _ => ?_)
  refine lv_iload_n hx hb dX9_get_4 rfl (lv_at hl 1 rfl) ?_
  refine lv_aload_n hx hb dX9_get_5 rfl (lv_at hl 0 rfl) ?_
  refine va_get (D := g.1) (ci := 10) (v := .int 7) (C := RX9) (T := TX9) (N := 4) hx hb hts in9_X9_get_13_RX9 hown hK hP 0 rfl rfl 3 (by decide) (hts (.fieldLink RX9 28 "Regexloom$Table" "size" "I") (List.mem_of_getElem? (i := 1) rfl)) (fun _ h9 => h9) rfl dX9_get_6 ?_
  refine lv_icmp_ge (tgt := 24) hx hb dX9_get_9 (by decide) (fun c9 => absurd c9 (by decide)) (fun _ => ?_)
  refine lv_iload_n hx hb dX9_get_12 rfl (lv_at hl 2 rfl) ?_
  refine lv_if_lt (tgt := 24) hx hb dX9_get_13 (by decide) (fun c9 => absurd c9 (by decide)) (fun _ => ?_)
  refine lv_iload_n hx hb dX9_get_16 rfl (lv_at hl 2 rfl) ?_
  refine lv_aload_n hx hb dX9_get_17 rfl (lv_at hl 0 rfl) ?_
  refine va_get (D := g.1) (ci := 10) (v := .int 2) (C := RX9) (T := TX9) (N := 4) hx hb hts in9_X9_get_13_RX9 hown hK hP 0 rfl rfl 0 (by decide) (hts (.fieldLink RX9 9 "Regexloom$Table" "width" "I") (List.mem_of_getElem? (i := 2) rfl)) (fun _ h9 => h9) rfl dX9_get_18 ?_
  refine lv_icmp_lt (tgt := 26) hx hb dX9_get_21 (by decide) (fun _ => ?_) (fun c9 => absurd (by decide) c9)
  refine lv_aload_n hx hb dX9_get_26 rfl (lv_at hl 0 rfl) ?_
  refine va_get (D := g.1) (ci := 10) (v := .ref h1) (C := RX9) (T := TX9) (N := 4) hx hb hts in9_X9_get_13_RX9 hown hK hP 0 rfl rfl 2 (by decide) (hts (.fieldLink RX9 24 "Regexloom$Table" "cells" "[I") (List.mem_of_getElem? (i := 3) rfl)) (fun _ h9 => h9) rfl dX9_get_27 ?_
  refine lv_iload_n hx hb dX9_get_30 rfl (lv_at hl 1 rfl) ?_
  refine lv_aload_n hx hb dX9_get_31 rfl (lv_at hl 0 rfl) ?_
  refine va_get (D := g.1) (ci := 10) (v := .int 2) (C := RX9) (T := TX9) (N := 4) hx hb hts in9_X9_get_13_RX9 hown hK hP 0 rfl rfl 0 (by decide) (hts (.fieldLink RX9 9 "Regexloom$Table" "width" "I") (List.mem_of_getElem? (i := 2) rfl)) (fun _ h9 => h9) rfl dX9_get_32 ?_
  refine lv_imul hx hb dX9_get_35 ?_
  refine e_top (y := 6) (by decide) ?_
  refine lv_iload_n hx hb dX9_get_36 rfl (lv_at hl 2 rfl) ?_
  refine lv_iadd hx hb dX9_get_37 ?_
  refine e_top (y := 6) (by decide) ?_
  refine va_iald hx hb hK hP 1 0 rfl rfl (vp_in_nI (n := 6) (by decide) (by decide)) dX9_get_38 ?_
  refine e_topv (y := .int (f0 6)) (by rfl) ?_
  have hP9 := hP.sub (ws' := [(h0, .inr (10, [.int 2, .int 7, .ref h1, .int 7])), (h1, .inl (g.2.1 0, 14, .inl f0))]) [0, 1] rfl
  have hD9 := hD.sub (ws' := [(h0, .inr (10, [.int 2, .int 7, .ref h1, .int 7])), (h1, .inl (g.2.1 0, 14, .inl f0))]) [0, 1] (by decide) rfl
  subst hAe
  exact W.iret (v := (f0 6)) hx hb hr (fun t ht hW => ⟨⟨(f0 6), (), rfl, rfl, by rw [ht]; exact hP9, hD9⟩, hS.F ht⟩) hS.2.2 dX9_get_39
def w9_X11_group_15 : List Cond := [.code yX11_group cX11_group 3 (some .int), .fieldLink RX11 78 "Regexloom" "bounds" "LRegexloom$Table;", .methodLink RX11 225 yX9_get, .instanceMethod yX9_get, .selects RX9 yX9_get yX9_get, .initialized RX9, .code yX9_get cX9_get 3 (some .int), .fieldLink RX9 28 "Regexloom$Table" "size" "I", .fieldLink RX9 9 "Regexloom$Table" "width" "I", .fieldLink RX9 24 "Regexloom$Table" "cells" "[I"] ++ (u_ws RX11 TX11 17 ++ u_ws RX9 TX9 4)
set_option maxRecDepth 20000 in
theorem in9_X11_group_15_RX11 : ∀ w ∈ u_ws RX11 TX11 17, w ∈ w9_X11_group_15 := by decide +kernel
set_option maxRecDepth 20000 in
theorem in9_X11_group_15_RX9 : ∀ w ∈ u_ws RX9 TX9 4, w ∈ w9_X11_group_15 := by decide +kernel
set_option maxRecDepth 20000 in
theorem g9_X11_group_15_0 : GoodIn w9_X11_group_15 (wsV RX11 225 RX9 yX9_get w9_X9_get_13) := goodIn_r _ [2, 3, 4, 5, 6, 7, 8, 9, 27, 28, 29, 30] (by decide +kernel) (by decide +kernel)
set_option maxHeartbeats 4000000 in
set_option maxRecDepth 100000 in
theorem c9_X11_group_15 (l : Launch) (g : G9) (h0 h1 h2 h3 h4 h5 h6 h7 h8 h9 h10 h11 h12 h13 h14 sz : Nat) (f0 : Nat → Int32) : Met l yX11_group w9_X11_group_15 ({ frames := 1, cells := 0, slots := 0, locals := 22 }) (mP g [(h0, .inr (12, [.ref h1, .int 0, .ref h2, .ref h3, .ref h4, .ref h5, .ref h6, .ref h7, .int (-1), .ref h8, .ref h9, .int 250, .ref h10, .int 0, .ref h11, .ref h12, .ref h13])), (h10, .inr (10, [.int 2, .int 7, .ref h14, .int 7])), (h14, .inl (g.2.1 0, 14, .inl f0))] sz [.ref h0, .int 3, .int 0]) (va_Qi (fun (r : Int32) (_ : Unit) => r = (f0 6)) (fun (_ : Unit) (t : State) => mB g [(h0, .inr (12, [.ref h1, .int 0, .ref h2, .ref h3, .ref h4, .ref h5, .ref h6, .ref h7, .int (-1), .ref h8, .ref h9, .int 250, .ref h10, .int 0, .ref h11, .ref h12, .ref h13])), (h10, .inr (10, [.int 2, .int 7, .ref h14, .int 7])), (h14, .inl (g.2.1 0, 14, .inl f0))] sz [(h0, .inr (12, [.ref h1, .int 0, .ref h2, .ref h3, .ref h4, .ref h5, .ref h6, .ref h7, .int (-1), .ref h8, .ref h9, .int 250, .ref h10, .int 0, .ref h11, .ref h12, .ref h13])), (h10, .inr (10, [.int 2, .int 7, .ref h14, .int 7])), (h14, .inl (g.2.1 0, 14, .inl f0))] t) (va_A [(h0, .inr (12, [.ref h1, .int 0, .ref h2, .ref h3, .ref h4, .ref h5, .ref h6, .ref h7, .int (-1), .ref h8, .ref h9, .int 250, .ref h10, .int 0, .ref h11, .ref h12, .ref h13])), (h10, .inr (10, [.int 2, .int 7, .ref h14, .int 7])), (h14, .inl (g.2.1 0, 14, .inl f0))] sz)) 0 0 (va_A [(h0, .inr (12, [.ref h1, .int 0, .ref h2, .ref h3, .ref h4, .ref h5, .ref h6, .ref h7, .int (-1), .ref h8, .ref h9, .int 250, .ref h10, .int 0, .ref h11, .ref h12, .ref h13])), (h10, .inr (10, [.int 2, .int 7, .ref h14, .int 7])), (h14, .inl (g.2.1 0, 14, .inl f0))] sz) := by
  refine Met.ofW (cc := cX11_group) (maxL := 3) (ret := (some .int)) (by decide) rfl ?_
  intro p e s m args below meth c s₁ B hml hv
  obtain ⟨rfl, hsz, hP, hD0, hE⟩ := hv
  have hx := B.exec
  have hb := B.bytes
  have hr := B.returns
  have hts := atoms_spec (ws := w9_X11_group_15) B.pre
  have hown : s.vm.findClass RX11 = some m.cls := findClass_of_methodNamed B.named
  have hlocks := B.notSynchronized
  subst hsz
  have hD := hD0.self (sz := s.heap.size)
  generalize hAe : va_A [(h0, .inr (12, [.ref h1, .int 0, .ref h2, .ref h3, .ref h4, .ref h5, .ref h6, .ref h7, .int (-1), .ref h8, .ref h9, .int 250, .ref h10, .int 0, .ref h11, .ref h12, .ref h13])), (h10, .inr (10, [.int 2, .int 7, .ref h14, .int 7])), (h14, .inl (g.2.1 0, 14, .inl f0))] s.heap.size = A at hD hE ⊢
  have hA : ∀ q : Nat, s.heap.size ≤ q → A q := fun q h => by rw [← hAe]; exact Or.inr h
  have hK := hE.1
  have hS : va_S A s.heap s.heap [] := va_S.rf
  replace hP : va_P g.1 vwCl [(h0, .inr (12, [.ref h1, .int 0, .ref h2, .ref h3, .ref h4, .ref h5, .ref h6, .ref h7, .int (-1), .ref h8, .ref h9, .int 250, .ref h10, .int 0, .ref h11, .ref h12, .ref h13])), (h10, .inr (10, [.int 2, .int 7, .ref h14, .int 7])), (h14, .inl (g.2.1 0, 14, .inl f0))] s.heap := hP
  have hl := lv_entry ([.ref h0, .int 3, .int 0]) (n := 3) (Nat.le_of_ble_eq_true rfl)
  rw [lg_entry_eq]
  generalize (lg_sl ([.ref h0, .int 3, .int 0]) ++ List.replicate (3 - (lg_sl ([.ref h0, .int 3, .int 0])).length) Slot.unset).toArray = ls at hl ⊢
  replace hl : lv_has ls 3 [(0, .ref h0), (1, .int 3), (2, .int 0)] := hl
  have hH0 : s.heap.size ≤ s.heap.size := Nat.le_refl _
  refine lv_iload_n hx hb dX11_group_0 rfl (lv_at hl 1 rfl) ?_
  refine lv_if_lt (tgt := 10) hx hb dX11_group_1 (by decide) (fun c9 => absurd c9 (by decide)) (fun _ => ?_)
  refine lv_iload_n hx hb dX11_group_4 rfl (lv_at hl 1 rfl) ?_
  refine lv_bipush (v := 6) hx hb dX11_group_5 (by decide) ?_
  refine lv_icmp_le (tgt := 20) hx hb dX11_group_7 (by decide) (fun _ => ?_) (fun c9 => absurd (by decide) c9)
  refine lv_aload_n hx hb dX11_group_20 rfl (lv_at hl 0 rfl) ?_
  refine va_get (D := g.1) (ci := 12) (v := .ref h10) (C := RX11) (T := TX11) (N := 17) hx hb hts in9_X11_group_15_RX11 hown hK hP 0 rfl rfl 12 (by decide) (hts (.fieldLink RX11 78 "Regexloom" "bounds" "LRegexloom$Table;") (List.mem_of_getElem? (i := 1) rfl)) (fun _ h9 => h9) rfl dX11_group_21 ?_
  refine lv_iload_n hx hb dX11_group_24 rfl (lv_at hl 1 rfl) ?_
  refine lv_iload_n hx hb dX11_group_25 rfl (lv_at hl 2 rfl) ?_
  refine lv_if_eq (tgt := 33) hx hb dX11_group_26 (by decide) (fun _ => ?_) (fun c9 => absurd (by decide) c9)
  refine lv_iconst (v := 0) hx hb dX11_group_33 (by decide) ?_
  have hPc := hP.sub (ws' := [(h10, .inr (10, [.int 2, .int 7, .ref h14, .int 7])), (h14, .inl (g.2.1 0, 14, .inl f0))]) [1, 2] rfl
  have hDc := hD.sub (ws' := [(h10, .inr (10, [.int 2, .int 7, .ref h14, .int 7])), (h14, .inl (g.2.1 0, 14, .inl f0))]) [1, 2] (by decide) rfl
  have hFc := va_free (wc := [(h10, .inr (10, [.int 2, .int 7, .ref h14, .int 7])), (h14, .inl (g.2.1 0, 14, .inl f0))]) hD hS hA [1, 2] rfl
  refine va_calli (va_runV (As := [.int 3, .int 0]) (rest := []) ⟨hx, hb, hml, hown, hts⟩ (c9_X9_get_13 l g h10 h14 _ f0) (cwV 2 hts g9_X11_group_15_0 rfl rfl rfl (by decide +kernel) ⟨Nat.le_of_ble_eq_true rfl, Nat.le_of_ble_eq_true rfl⟩) (mPreV (g := g) (wc := [(h10, .inr (10, [.int 2, .int 7, .ref h14, .int 7])), (h14, .inl (g.2.1 0, 14, .inl f0))]) (C := RX9) (ci := 10) (q0 := 0) hE hS hPc hDc hFc rfl rfl) rfl rfl hl.1 rfl (lv_room (Nat.le_of_ble_eq_true rfl)) dX11_group_34 ⟨Nat.le_of_ble_eq_true rfl, Nat.le_of_ble_eq_true rfl⟩) hS (fun q _ h => hFc q h) hFc (fun r_1 u t H1 locs ht hvm hw hB hz1 hk1 hS => ?_)
  replace hw : (f0 6) = r_1 := Eq.symm hw
  subst hw
  obtain ⟨hP1, hD1⟩ := hB
  rw [ht] at hP1
  obtain ⟨hP, hD⟩ := va_join (wr := [(h0, .inr (12, [.ref h1, .int 0, .ref h2, .ref h3, .ref h4, .ref h5, .ref h6, .ref h7, .int (-1), .ref h8, .ref h9, .int 250, .ref h10, .int 0, .ref h11, .ref h12, .ref h13]))]) (w1 := [(h10, .inr (10, [.int 2, .int 7, .ref h14, .int 7])), (h14, .inl (g.2.1 0, 14, .inl f0))]) hP hD [1, 2] [0] rfl rfl (by decide) (by decide) hk1 hFc hP1 hD1
  clear hP1 hD1 hPc hDc hFc hk1 hz1 hvm ht
  generalize H1 = H at hP hS ⊢
  have hP : va_P g.1 vwCl [(h0, .inr (12, [.ref h1, .int 0, .ref h2, .ref h3, .ref h4, .ref h5, .ref h6, .ref h7, .int (-1), .ref h8, .ref h9, .int 250, .ref h10, .int 0, .ref h11, .ref h12, .ref h13])), (h10, .inr (10, [.int 2, .int 7, .ref h14, .int 7])), (h14, .inl (g.2.1 0, 14, .inl f0))] H := hP
  have hD : va_D A [(h0, .inr (12, [.ref h1, .int 0, .ref h2, .ref h3, .ref h4, .ref h5, .ref h6, .ref h7, .int (-1), .ref h8, .ref h9, .int 250, .ref h10, .int 0, .ref h11, .ref h12, .ref h13])), (h10, .inr (10, [.int 2, .int 7, .ref h14, .int 7])), (h14, .inl (g.2.1 0, 14, .inl f0))] := hD
  refine e_top (y := (f0 6)) (by rfl) ?_
  have hP9 := hP.sub (ws' := [(h0, .inr (12, [.ref h1, .int 0, .ref h2, .ref h3, .ref h4, .ref h5, .ref h6, .ref h7, .int (-1), .ref h8, .ref h9, .int 250, .ref h10, .int 0, .ref h11, .ref h12, .ref h13])), (h10, .inr (10, [.int 2, .int 7, .ref h14, .int 7])), (h14, .inl (g.2.1 0, 14, .inl f0))]) [0, 1, 2] rfl
  have hD9 := hD.sub (ws' := [(h0, .inr (12, [.ref h1, .int 0, .ref h2, .ref h3, .ref h4, .ref h5, .ref h6, .ref h7, .int (-1), .ref h8, .ref h9, .int 250, .ref h10, .int 0, .ref h11, .ref h12, .ref h13])), (h10, .inr (10, [.int 2, .int 7, .ref h14, .int 7])), (h14, .inl (g.2.1 0, 14, .inl f0))]) [0, 1, 2] (by decide) rfl
  subst hAe
  exact W.iret (v := (f0 6)) hx hb hr (fun t ht hW => ⟨⟨(f0 6), (), rfl, rfl, by rw [ht]; exact hP9, hD9⟩, hS.F ht⟩) hS.2.2 dX11_group_37
def w9_L_group_16 : List Cond := [.codeWith yL_group cL_group 5 (some .int) [(0, 10, 13, 21)], .methodLink RL 47 yX11_group, .instanceMethod yX11_group, .selects RX11 yX11_group yX11_group, .initialized RX11, .code yX11_group cX11_group 3 (some .int), .fieldLink RX11 78 "Regexloom" "bounds" "LRegexloom$Table;", .methodLink RX11 225 yX9_get, .instanceMethod yX9_get, .selects RX9 yX9_get yX9_get, .initialized RX9, .code yX9_get cX9_get 3 (some .int), .fieldLink RX9 28 "Regexloom$Table" "size" "I", .fieldLink RX9 9 "Regexloom$Table" "width" "I", .fieldLink RX9 24 "Regexloom$Table" "cells" "[I"] ++ (u_ws RX11 TX11 17 ++ u_ws RX9 TX9 4)
set_option maxRecDepth 20000 in
theorem in9_L_group_16_RX11 : ∀ w ∈ u_ws RX11 TX11 17, w ∈ w9_L_group_16 := by decide +kernel
set_option maxRecDepth 20000 in
theorem in9_L_group_16_RX9 : ∀ w ∈ u_ws RX9 TX9 4, w ∈ w9_L_group_16 := by decide +kernel
set_option maxRecDepth 20000 in
theorem g9_L_group_16_0 : GoodIn w9_L_group_16 (wsV RL 47 RX11 yX11_group w9_X11_group_15) := goodIn_r _ [1, 2, 3, 4, 5, 6, 7, 8, 9, 10, 11, 12, 13, 14, 15, 16, 17, 18, 19, 20, 21, 22, 23, 24, 25, 26, 27, 28, 29, 30, 31, 32, 33, 34, 35] (by decide +kernel) (by decide +kernel)
set_option maxHeartbeats 4000000 in
set_option maxRecDepth 100000 in
theorem c9_L_group_16 (l : Launch) (g : G9) (h0 h1 h2 h3 h4 h5 h6 h7 h8 h9 h10 h11 h12 h13 h14 h15 sz : Nat) : Met l yL_group w9_L_group_16 ({ frames := 2, cells := 0, slots := 0, locals := 44 }) (mP g [(h0, .inr (12, [.ref h2, .int 0, .ref h3, .ref h4, .ref h5, .ref h6, .ref h7, .ref h8, .int (-1), .ref h9, .ref h10, .int 250, .ref h11, .int 0, .ref h12, .ref h13, .ref h14])), (h11, .inr (10, [.int 2, .int 7, .ref h15, .int 7])), (h15, .inl (g.2.1 0, 14, .inl (upd (upd (upd (upd (upd (upd (upd (upd (upd (upd (upd (upd (upd (upd (fun _ => 0) 0 (-1)) 1 (-1)) 2 (-1)) 3 (-1)) 4 (-1)) 5 (-1)) 6 (-1)) 7 (-1)) 8 (-1)) 9 (-1)) 10 (-1)) 11 (-1)) 12 (-1)) 13 (-1)))), (h1, .inl (g.2.1 2, 1, .inr (.inl (fun _ => 0))))] sz [.ref h0, .int 3, .int 0, .ref h1]) (va_Qi (fun (r : Int32) (_ : Unit) => r = 0) (fun (_ : Unit) (t : State) => mB g [(h0, .inr (12, [.ref h2, .int 0, .ref h3, .ref h4, .ref h5, .ref h6, .ref h7, .ref h8, .int (-1), .ref h9, .ref h10, .int 250, .ref h11, .int 0, .ref h12, .ref h13, .ref h14])), (h11, .inr (10, [.int 2, .int 7, .ref h15, .int 7])), (h15, .inl (g.2.1 0, 14, .inl (upd (upd (upd (upd (upd (upd (upd (upd (upd (upd (upd (upd (upd (upd (fun _ => 0) 0 (-1)) 1 (-1)) 2 (-1)) 3 (-1)) 4 (-1)) 5 (-1)) 6 (-1)) 7 (-1)) 8 (-1)) 9 (-1)) 10 (-1)) 11 (-1)) 12 (-1)) 13 (-1)))), (h1, .inl (g.2.1 2, 1, .inr (.inl (fun _ => 0))))] sz [(h0, .inr (12, [.ref h2, .int 0, .ref h3, .ref h4, .ref h5, .ref h6, .ref h7, .ref h8, .int (-1), .ref h9, .ref h10, .int 250, .ref h11, .int 0, .ref h12, .ref h13, .ref h14])), (h11, .inr (10, [.int 2, .int 7, .ref h15, .int 7])), (h15, .inl (g.2.1 0, 14, .inl (upd (upd (upd (upd (upd (upd (upd (upd (upd (upd (upd (upd (upd (upd (fun _ => 0) 0 (-1)) 1 (-1)) 2 (-1)) 3 (-1)) 4 (-1)) 5 (-1)) 6 (-1)) 7 (-1)) 8 (-1)) 9 (-1)) 10 (-1)) 11 (-1)) 12 (-1)) 13 (-1)))), (h1, .inl (g.2.1 2, 1, .inr (.inl (vp_updL (fun _ => 0) 0 (-1)))))] t) (va_A [(h0, .inr (12, [.ref h2, .int 0, .ref h3, .ref h4, .ref h5, .ref h6, .ref h7, .ref h8, .int (-1), .ref h9, .ref h10, .int 250, .ref h11, .int 0, .ref h12, .ref h13, .ref h14])), (h11, .inr (10, [.int 2, .int 7, .ref h15, .int 7])), (h15, .inl (g.2.1 0, 14, .inl (upd (upd (upd (upd (upd (upd (upd (upd (upd (upd (upd (upd (upd (upd (fun _ => 0) 0 (-1)) 1 (-1)) 2 (-1)) 3 (-1)) 4 (-1)) 5 (-1)) 6 (-1)) 7 (-1)) 8 (-1)) 9 (-1)) 10 (-1)) 11 (-1)) 12 (-1)) 13 (-1)))), (h1, .inl (g.2.1 2, 1, .inr (.inl (fun _ => 0))))] sz)) 0 0 (va_A [(h0, .inr (12, [.ref h2, .int 0, .ref h3, .ref h4, .ref h5, .ref h6, .ref h7, .ref h8, .int (-1), .ref h9, .ref h10, .int 250, .ref h11, .int 0, .ref h12, .ref h13, .ref h14])), (h11, .inr (10, [.int 2, .int 7, .ref h15, .int 7])), (h15, .inl (g.2.1 0, 14, .inl (upd (upd (upd (upd (upd (upd (upd (upd (upd (upd (upd (upd (upd (upd (fun _ => 0) 0 (-1)) 1 (-1)) 2 (-1)) 3 (-1)) 4 (-1)) 5 (-1)) 6 (-1)) 7 (-1)) 8 (-1)) 9 (-1)) 10 (-1)) 11 (-1)) 12 (-1)) 13 (-1)))), (h1, .inl (g.2.1 2, 1, .inr (.inl (fun _ => 0))))] sz) := by
  refine va_MetW (cc := cL_group) (maxL := 5) (ret := (some .int)) (by decide) rfl ?_
  intro p e s m args below meth c s₁ B hml hv
  obtain ⟨rfl, hsz, hP, hD0, hE⟩ := hv
  have hx := B.exec
  have hb := B.bytes
  have hr := B.returns
  have hts := atoms_spec (ws := w9_L_group_16) B.pre
  have hown : s.vm.findClass RL = some m.cls := findClass_of_methodNamed B.named
  have hlocks := B.notSynchronized
  have htab := vx_table (x := yL_group) B (hts (.codeWith yL_group cL_group 5 (some .int) [(0, 10, 13, 21)]) (List.mem_of_getElem? (i := 0) rfl))
  subst hsz
  have hD := hD0.self (sz := s.heap.size)
  generalize hAe : va_A [(h0, .inr (12, [.ref h2, .int 0, .ref h3, .ref h4, .ref h5, .ref h6, .ref h7, .ref h8, .int (-1), .ref h9, .ref h10, .int 250, .ref h11, .int 0, .ref h12, .ref h13, .ref h14])), (h11, .inr (10, [.int 2, .int 7, .ref h15, .int 7])), (h15, .inl (g.2.1 0, 14, .inl (upd (upd (upd (upd (upd (upd (upd (upd (upd (upd (upd (upd (upd (upd (fun _ => 0) 0 (-1)) 1 (-1)) 2 (-1)) 3 (-1)) 4 (-1)) 5 (-1)) 6 (-1)) 7 (-1)) 8 (-1)) 9 (-1)) 10 (-1)) 11 (-1)) 12 (-1)) 13 (-1)))), (h1, .inl (g.2.1 2, 1, .inr (.inl (fun _ => 0))))] s.heap.size = A at hD hE ⊢
  have hA : ∀ q : Nat, s.heap.size ≤ q → A q := fun q h => by rw [← hAe]; exact Or.inr h
  have hK := hE.1
  have hS : va_S A s.heap s.heap [] := va_S.rf
  replace hP : va_P g.1 vwCl [(h0, .inr (12, [.ref h2, .int 0, .ref h3, .ref h4, .ref h5, .ref h6, .ref h7, .ref h8, .int (-1), .ref h9, .ref h10, .int 250, .ref h11, .int 0, .ref h12, .ref h13, .ref h14])), (h11, .inr (10, [.int 2, .int 7, .ref h15, .int 7])), (h15, .inl (g.2.1 0, 14, .inl (upd (upd (upd (upd (upd (upd (upd (upd (upd (upd (upd (upd (upd (upd (fun _ => 0) 0 (-1)) 1 (-1)) 2 (-1)) 3 (-1)) 4 (-1)) 5 (-1)) 6 (-1)) 7 (-1)) 8 (-1)) 9 (-1)) 10 (-1)) 11 (-1)) 12 (-1)) 13 (-1)))), (h1, .inl (g.2.1 2, 1, .inr (.inl (fun _ => 0))))] s.heap := hP
  have hl := lv_entry ([.ref h0, .int 3, .int 0, .ref h1]) (n := 5) (Nat.le_of_ble_eq_true rfl)
  rw [lg_entry_eq]
  generalize (lg_sl ([.ref h0, .int 3, .int 0, .ref h1]) ++ List.replicate (5 - (lg_sl ([.ref h0, .int 3, .int 0, .ref h1])).length) Slot.unset).toArray = ls at hl ⊢
  replace hl : lv_has ls 5 [(0, .ref h0), (1, .int 3), (2, .int 0), (3, .ref h1)] := hl
  have hH0 : s.heap.size ≤ s.heap.size := Nat.le_refl _
  refine lv_aload_n hx hb dL_group_0 rfl (lv_at hl 3 rfl) ?_
  refine lv_iconst (v := 0) hx hb dL_group_1 (by decide) ?_
  refine lv_aload_n hx hb dL_group_2 rfl (lv_at hl 0 rfl) ?_
  refine lv_iload_n hx hb dL_group_3 rfl (lv_at hl 1 rfl) ?_
  refine lv_iload_n hx hb dL_group_4 rfl (lv_at hl 2 rfl) ?_
  have hPc := hP.sub (ws' := [(h0, .inr (12, [.ref h2, .int 0, .ref h3, .ref h4, .ref h5, .ref h6, .ref h7, .ref h8, .int (-1), .ref h9, .ref h10, .int 250, .ref h11, .int 0, .ref h12, .ref h13, .ref h14])), (h11, .inr (10, [.int 2, .int 7, .ref h15, .int 7])), (h15, .inl (g.2.1 0, 14, .inl (upd (upd (upd (upd (upd (upd (upd (upd (upd (upd (upd (upd (upd (upd (fun _ => 0) 0 (-1)) 1 (-1)) 2 (-1)) 3 (-1)) 4 (-1)) 5 (-1)) 6 (-1)) 7 (-1)) 8 (-1)) 9 (-1)) 10 (-1)) 11 (-1)) 12 (-1)) 13 (-1))))]) [0, 1, 2] rfl
  have hDc := hD.sub (ws' := [(h0, .inr (12, [.ref h2, .int 0, .ref h3, .ref h4, .ref h5, .ref h6, .ref h7, .ref h8, .int (-1), .ref h9, .ref h10, .int 250, .ref h11, .int 0, .ref h12, .ref h13, .ref h14])), (h11, .inr (10, [.int 2, .int 7, .ref h15, .int 7])), (h15, .inl (g.2.1 0, 14, .inl (upd (upd (upd (upd (upd (upd (upd (upd (upd (upd (upd (upd (upd (upd (fun _ => 0) 0 (-1)) 1 (-1)) 2 (-1)) 3 (-1)) 4 (-1)) 5 (-1)) 6 (-1)) 7 (-1)) 8 (-1)) 9 (-1)) 10 (-1)) 11 (-1)) 12 (-1)) 13 (-1))))]) [0, 1, 2] (by decide) rfl
  have hFc := va_free (wc := [(h0, .inr (12, [.ref h2, .int 0, .ref h3, .ref h4, .ref h5, .ref h6, .ref h7, .ref h8, .int (-1), .ref h9, .ref h10, .int 250, .ref h11, .int 0, .ref h12, .ref h13, .ref h14])), (h11, .inr (10, [.int 2, .int 7, .ref h15, .int 7])), (h15, .inl (g.2.1 0, 14, .inl (upd (upd (upd (upd (upd (upd (upd (upd (upd (upd (upd (upd (upd (upd (fun _ => 0) 0 (-1)) 1 (-1)) 2 (-1)) 3 (-1)) 4 (-1)) 5 (-1)) 6 (-1)) 7 (-1)) 8 (-1)) 9 (-1)) 10 (-1)) 11 (-1)) 12 (-1)) 13 (-1))))]) hD hS hA [0, 1, 2] rfl
  refine va_calli (va_runV (As := [.int 3, .int 0]) (rest := [.int 0, .ref h1]) ⟨hx, hb, hml, hown, hts⟩ (c9_X11_group_15 l g h0 h2 h3 h4 h5 h6 h7 h8 h9 h10 h11 h12 h13 h14 h15 _ (upd (upd (upd (upd (upd (upd (upd (upd (upd (upd (upd (upd (upd (upd (fun _ => 0) 0 (-1)) 1 (-1)) 2 (-1)) 3 (-1)) 4 (-1)) 5 (-1)) 6 (-1)) 7 (-1)) 8 (-1)) 9 (-1)) 10 (-1)) 11 (-1)) 12 (-1)) 13 (-1))) (cwV 2 hts g9_L_group_16_0 rfl rfl rfl (by decide +kernel) ⟨Nat.le_of_ble_eq_true rfl, Nat.le_of_ble_eq_true rfl⟩) (mPreV (g := g) (wc := [(h0, .inr (12, [.ref h2, .int 0, .ref h3, .ref h4, .ref h5, .ref h6, .ref h7, .ref h8, .int (-1), .ref h9, .ref h10, .int 250, .ref h11, .int 0, .ref h12, .ref h13, .ref h14])), (h11, .inr (10, [.int 2, .int 7, .ref h15, .int 7])), (h15, .inl (g.2.1 0, 14, .inl (upd (upd (upd (upd (upd (upd (upd (upd (upd (upd (upd (upd (upd (upd (fun _ => 0) 0 (-1)) 1 (-1)) 2 (-1)) 3 (-1)) 4 (-1)) 5 (-1)) 6 (-1)) 7 (-1)) 8 (-1)) 9 (-1)) 10 (-1)) 11 (-1)) 12 (-1)) 13 (-1))))]) (C := RX11) (ci := 12) (q0 := 0) hE hS hPc hDc hFc rfl rfl) rfl rfl hl.1 rfl (lv_room (Nat.le_of_ble_eq_true rfl)) dL_group_5 ⟨Nat.le_of_ble_eq_true rfl, Nat.le_of_ble_eq_true rfl⟩) hS (fun q _ h => hFc q h) hFc (fun r_1 u t H1 locs ht hvm hw hB hz1 hk1 hS => ?_)
  replace hw : ((upd (upd (upd (upd (upd (upd (upd (upd (upd (upd (upd (upd (upd (upd (fun _ => 0) 0 (-1)) 1 (-1)) 2 (-1)) 3 (-1)) 4 (-1)) 5 (-1)) 6 (-1)) 7 (-1)) 8 (-1)) 9 (-1)) 10 (-1)) 11 (-1)) 12 (-1)) 13 (-1)) 6) = r_1 := Eq.symm hw
  subst hw
  obtain ⟨hP1, hD1⟩ := hB
  rw [ht] at hP1
  obtain ⟨hP, hD⟩ := va_join (wr := [(h1, .inl (g.2.1 2, 1, .inr (.inl (fun _ => 0))))]) (w1 := [(h0, .inr (12, [.ref h2, .int 0, .ref h3, .ref h4, .ref h5, .ref h6, .ref h7, .ref h8, .int (-1), .ref h9, .ref h10, .int 250, .ref h11, .int 0, .ref h12, .ref h13, .ref h14])), (h11, .inr (10, [.int 2, .int 7, .ref h15, .int 7])), (h15, .inl (g.2.1 0, 14, .inl (upd (upd (upd (upd (upd (upd (upd (upd (upd (upd (upd (upd (upd (upd (fun _ => 0) 0 (-1)) 1 (-1)) 2 (-1)) 3 (-1)) 4 (-1)) 5 (-1)) 6 (-1)) 7 (-1)) 8 (-1)) 9 (-1)) 10 (-1)) 11 (-1)) 12 (-1)) 13 (-1))))]) hP hD [0, 1, 2] [3] rfl rfl (by decide) (by decide) hk1 hFc hP1 hD1
  clear hP1 hD1 hPc hDc hFc hk1 hz1 hvm ht
  generalize H1 = H at hP hS ⊢
  have hP : va_P g.1 vwCl [(h1, .inl (g.2.1 2, 1, .inr (.inl (fun _ => 0)))), (h0, .inr (12, [.ref h2, .int 0, .ref h3, .ref h4, .ref h5, .ref h6, .ref h7, .ref h8, .int (-1), .ref h9, .ref h10, .int 250, .ref h11, .int 0, .ref h12, .ref h13, .ref h14])), (h11, .inr (10, [.int 2, .int 7, .ref h15, .int 7])), (h15, .inl (g.2.1 0, 14, .inl (upd (upd (upd (upd (upd (upd (upd (upd (upd (upd (upd (upd (upd (upd (fun _ => 0) 0 (-1)) 1 (-1)) 2 (-1)) 3 (-1)) 4 (-1)) 5 (-1)) 6 (-1)) 7 (-1)) 8 (-1)) 9 (-1)) 10 (-1)) 11 (-1)) 12 (-1)) 13 (-1))))] H := hP
  have hD : va_D A [(h1, .inl (g.2.1 2, 1, .inr (.inl (fun _ => 0)))), (h0, .inr (12, [.ref h2, .int 0, .ref h3, .ref h4, .ref h5, .ref h6, .ref h7, .ref h8, .int (-1), .ref h9, .ref h10, .int 250, .ref h11, .int 0, .ref h12, .ref h13, .ref h14])), (h11, .inr (10, [.int 2, .int 7, .ref h15, .int 7])), (h15, .inl (g.2.1 0, 14, .inl (upd (upd (upd (upd (upd (upd (upd (upd (upd (upd (upd (upd (upd (upd (fun _ => 0) 0 (-1)) 1 (-1)) 2 (-1)) 3 (-1)) 4 (-1)) 5 (-1)) 6 (-1)) 7 (-1)) 8 (-1)) 9 (-1)) 10 (-1)) 11 (-1)) 12 (-1)) 13 (-1))))] := hD
  refine e_top (y := (-1)) (by rfl) ?_
  refine lv_i2l (v := (-1)) hx hb dL_group_8 (by decide) ?_
  refine va_last hx hb hK hP hD hS 0 2 rfl rfl (vp_in_nI (n := 0) (by decide) (by decide)) dL_group_9 (fun H locs hP hD hS => ?_)
  have hP : va_P g.1 vwCl [(h1, .inl (g.2.1 2, 1, .inr (.inl (vp_updL (fun _ => 0) 0 (-1))))), (h0, .inr (12, [.ref h2, .int 0, .ref h3, .ref h4, .ref h5, .ref h6, .ref h7, .ref h8, .int (-1), .ref h9, .ref h10, .int 250, .ref h11, .int 0, .ref h12, .ref h13, .ref h14])), (h11, .inr (10, [.int 2, .int 7, .ref h15, .int 7])), (h15, .inl (g.2.1 0, 14, .inl (upd (upd (upd (upd (upd (upd (upd (upd (upd (upd (upd (upd (upd (upd (fun _ => 0) 0 (-1)) 1 (-1)) 2 (-1)) 3 (-1)) 4 (-1)) 5 (-1)) 6 (-1)) 7 (-1)) 8 (-1)) 9 (-1)) 10 (-1)) 11 (-1)) 12 (-1)) 13 (-1))))] H := hP
  have hD : va_D A [(h1, .inl (g.2.1 2, 1, .inr (.inl (vp_updL (fun _ => 0) 0 (-1))))), (h0, .inr (12, [.ref h2, .int 0, .ref h3, .ref h4, .ref h5, .ref h6, .ref h7, .ref h8, .int (-1), .ref h9, .ref h10, .int 250, .ref h11, .int 0, .ref h12, .ref h13, .ref h14])), (h11, .inr (10, [.int 2, .int 7, .ref h15, .int 7])), (h15, .inl (g.2.1 0, 14, .inl (upd (upd (upd (upd (upd (upd (upd (upd (upd (upd (upd (upd (upd (upd (fun _ => 0) 0 (-1)) 1 (-1)) 2 (-1)) 3 (-1)) 4 (-1)) 5 (-1)) 6 (-1)) 7 (-1)) 8 (-1)) 9 (-1)) 10 (-1)) 11 (-1)) 12 (-1)) 13 (-1))))] := hD
  refine lv_goto (tgt := 17) hx hb dL_group_10 (by decide) ?_
  refine lv_iconst (v := 0) hx hb dL_group_17 (by decide) ?_
  have hP9 := hP.sub (ws' := [(h0, .inr (12, [.ref h2, .int 0, .ref h3, .ref h4, .ref h5, .ref h6, .ref h7, .ref h8, .int (-1), .ref h9, .ref h10, .int 250, .ref h11, .int 0, .ref h12, .ref h13, .ref h14])), (h11, .inr (10, [.int 2, .int 7, .ref h15, .int 7])), (h15, .inl (g.2.1 0, 14, .inl (upd (upd (upd (upd (upd (upd (upd (upd (upd (upd (upd (upd (upd (upd (fun _ => 0) 0 (-1)) 1 (-1)) 2 (-1)) 3 (-1)) 4 (-1)) 5 (-1)) 6 (-1)) 7 (-1)) 8 (-1)) 9 (-1)) 10 (-1)) 11 (-1)) 12 (-1)) 13 (-1)))), (h1, .inl (g.2.1 2, 1, .inr (.inl (vp_updL (fun _ => 0) 0 (-1)))))]) [1, 2, 3, 0] rfl
  have hD9 := hD.sub (ws' := [(h0, .inr (12, [.ref h2, .int 0, .ref h3, .ref h4, .ref h5, .ref h6, .ref h7, .ref h8, .int (-1), .ref h9, .ref h10, .int 250, .ref h11, .int 0, .ref h12, .ref h13, .ref h14])), (h11, .inr (10, [.int 2, .int 7, .ref h15, .int 7])), (h15, .inl (g.2.1 0, 14, .inl (upd (upd (upd (upd (upd (upd (upd (upd (upd (upd (upd (upd (upd (upd (fun _ => 0) 0 (-1)) 1 (-1)) 2 (-1)) 3 (-1)) 4 (-1)) 5 (-1)) 6 (-1)) 7 (-1)) 8 (-1)) 9 (-1)) 10 (-1)) 11 (-1)) 12 (-1)) 13 (-1)))), (h1, .inl (g.2.1 2, 1, .inr (.inl (vp_updL (fun _ => 0) 0 (-1)))))]) [1, 2, 3, 0] (by decide) rfl
  subst hAe
  exact W.iret (v := 0) hx hb hr (fun t ht hW => ⟨⟨0, (), rfl, rfl, by rw [ht]; exact hP9, hD9⟩, hS.F ht⟩) hS.2.2 dL_group_18
def w9_X21_group_15 : List Cond := [.code yX21_group cX21_group 3 (some .int), .methodLink RX21 160 yX21_in, .static yX21_in, .initialized RX21, .code yX21_in cX21_in 3 (some .boolean), .methodLink RX21 154 yX21_refused, .instanceMethod yX21_refused, .selects RX21 yX21_refused yX21_refused, .code yX21_refused cX21_refused 2 (some .boolean), .fieldLink RX21 144 "RegexloomModel" "refusal" "I", .fieldLink RX21 107 "RegexloomModel" "told" "[I"] ++ (u_ws RX21 TX21 32)
set_option maxRecDepth 20000 in
theorem in9_X21_group_15_RX21 : ∀ w ∈ u_ws RX21 TX21 32, w ∈ w9_X21_group_15 := by decide +kernel
set_option maxRecDepth 20000 in
theorem g9_X21_group_15_0 : GoodIn w9_X21_group_15 (va_wsS RX21 160 yX21_in w9_X21_in_19) := goodIn_r _ [1, 2, 3, 4] (by decide +kernel) (by decide +kernel)
set_option maxRecDepth 20000 in
theorem g9_X21_group_15_1 : GoodIn w9_X21_group_15 (wsV RX21 154 RX21 yX21_refused w9_X21_refused_1) := goodIn_r _ [5, 6, 7, 3, 8, 9, 11, 12, 13, 14, 15, 16, 17, 18, 19, 20, 21, 22, 23, 24, 25, 26, 27, 28, 29, 30, 31, 32, 33, 34, 35, 36, 37, 38, 39, 40, 41, 42] (by decide +kernel) (by decide +kernel)
set_option maxHeartbeats 4000000 in
set_option maxRecDepth 100000 in
theorem c9_X21_group_15 (l : Launch) (g : G9) (h0 h1 h2 h3 h4 h5 h6 h7 h8 h9 h10 h11 h12 h13 h14 h15 h16 sz : Nat) (f0 : Nat → Int32) : Met l yX21_group w9_X21_group_15 ({ frames := 1, cells := 0, slots := 0, locals := 22 }) (mP g [(h0, .inr (22, [.int 0, .ref h1, .int 0, .ref h2, .int 0, .ref h3, .int 250, .ref h4, .int 0, .ref h5, .ref h6, .ref h7, .int 0, .ref h8, .ref h9, .ref h10, .int 0, .null, .int 0, .null, .int 0, .int 0, .int 0, .ref h11, .int 0, .ref h12, .ref h13, .ref h14, .int 0, .ref h15, .ref h16, .int 0])), (h7, .inl (g.2.1 0, 14, .inl f0))] sz [.ref h0, .int 3, .int 0]) (va_Qi (fun (r : Int32) (_ : Unit) => r = (f0 6)) (fun (_ : Unit) (t : State) => mB g [(h0, .inr (22, [.int 0, .ref h1, .int 0, .ref h2, .int 0, .ref h3, .int 250, .ref h4, .int 0, .ref h5, .ref h6, .ref h7, .int 0, .ref h8, .ref h9, .ref h10, .int 0, .null, .int 0, .null, .int 0, .int 0, .int 0, .ref h11, .int 0, .ref h12, .ref h13, .ref h14, .int 0, .ref h15, .ref h16, .int 0])), (h7, .inl (g.2.1 0, 14, .inl f0))] sz [(h0, .inr (22, [.int 0, .ref h1, .int 0, .ref h2, .int 0, .ref h3, .int 250, .ref h4, .int 0, .ref h5, .ref h6, .ref h7, .int 0, .ref h8, .ref h9, .ref h10, .int 0, .null, .int 0, .null, .int 0, .int 0, .int 0, .ref h11, .int 0, .ref h12, .ref h13, .ref h14, .int 0, .ref h15, .ref h16, .int 0])), (h7, .inl (g.2.1 0, 14, .inl f0))] t) (va_A [(h0, .inr (22, [.int 0, .ref h1, .int 0, .ref h2, .int 0, .ref h3, .int 250, .ref h4, .int 0, .ref h5, .ref h6, .ref h7, .int 0, .ref h8, .ref h9, .ref h10, .int 0, .null, .int 0, .null, .int 0, .int 0, .int 0, .ref h11, .int 0, .ref h12, .ref h13, .ref h14, .int 0, .ref h15, .ref h16, .int 0])), (h7, .inl (g.2.1 0, 14, .inl f0))] sz)) 0 0 (va_A [(h0, .inr (22, [.int 0, .ref h1, .int 0, .ref h2, .int 0, .ref h3, .int 250, .ref h4, .int 0, .ref h5, .ref h6, .ref h7, .int 0, .ref h8, .ref h9, .ref h10, .int 0, .null, .int 0, .null, .int 0, .int 0, .int 0, .ref h11, .int 0, .ref h12, .ref h13, .ref h14, .int 0, .ref h15, .ref h16, .int 0])), (h7, .inl (g.2.1 0, 14, .inl f0))] sz) := by
  refine Met.ofW (cc := cX21_group) (maxL := 3) (ret := (some .int)) (by decide) rfl ?_
  intro p e s m args below meth c s₁ B hml hv
  obtain ⟨rfl, hsz, hP, hD0, hE⟩ := hv
  have hx := B.exec
  have hb := B.bytes
  have hr := B.returns
  have hts := atoms_spec (ws := w9_X21_group_15) B.pre
  have hown : s.vm.findClass RX21 = some m.cls := findClass_of_methodNamed B.named
  have hlocks := B.notSynchronized
  subst hsz
  have hD := hD0.self (sz := s.heap.size)
  generalize hAe : va_A [(h0, .inr (22, [.int 0, .ref h1, .int 0, .ref h2, .int 0, .ref h3, .int 250, .ref h4, .int 0, .ref h5, .ref h6, .ref h7, .int 0, .ref h8, .ref h9, .ref h10, .int 0, .null, .int 0, .null, .int 0, .int 0, .int 0, .ref h11, .int 0, .ref h12, .ref h13, .ref h14, .int 0, .ref h15, .ref h16, .int 0])), (h7, .inl (g.2.1 0, 14, .inl f0))] s.heap.size = A at hD hE ⊢
  have hA : ∀ q : Nat, s.heap.size ≤ q → A q := fun q h => by rw [← hAe]; exact Or.inr h
  have hK := hE.1
  have hS : va_S A s.heap s.heap [] := va_S.rf
  replace hP : va_P g.1 vwCl [(h0, .inr (22, [.int 0, .ref h1, .int 0, .ref h2, .int 0, .ref h3, .int 250, .ref h4, .int 0, .ref h5, .ref h6, .ref h7, .int 0, .ref h8, .ref h9, .ref h10, .int 0, .null, .int 0, .null, .int 0, .int 0, .int 0, .ref h11, .int 0, .ref h12, .ref h13, .ref h14, .int 0, .ref h15, .ref h16, .int 0])), (h7, .inl (g.2.1 0, 14, .inl f0))] s.heap := hP
  have hl := lv_entry ([.ref h0, .int 3, .int 0]) (n := 3) (Nat.le_of_ble_eq_true rfl)
  rw [lg_entry_eq]
  generalize (lg_sl ([.ref h0, .int 3, .int 0]) ++ List.replicate (3 - (lg_sl ([.ref h0, .int 3, .int 0])).length) Slot.unset).toArray = ls at hl ⊢
  replace hl : lv_has ls 3 [(0, .ref h0), (1, .int 3), (2, .int 0)] := hl
  have hH0 : s.heap.size ≤ s.heap.size := Nat.le_refl _
  refine lv_aload_n hx hb dX21_group_0 rfl (lv_at hl 0 rfl) ?_
  refine lv_iload_n hx hb dX21_group_1 rfl (lv_at hl 1 rfl) ?_
  refine lv_iconst (v := 0) hx hb dX21_group_2 (by decide) ?_
  refine lv_bipush (v := 6) hx hb dX21_group_3 (by decide) ?_
  have hPc := hP.sub (ws' := []) [] rfl
  have hDc := hD.sub (ws' := []) [] (by decide) rfl
  have hFc := va_free (wc := []) hD hS hA [] rfl
  refine va_calli (va_runS (As := [.int 3, .int 0, .int 6]) (rest := [.ref h0]) ⟨hx, hb, hml, hown, hts⟩ (c9_X21_in_19 l g _) (va_cwS 3 hts g9_X21_group_15_0 rfl rfl rfl (by decide +kernel) ⟨Nat.le_of_ble_eq_true rfl, Nat.le_of_ble_eq_true rfl⟩) (mPreS (g := g) (wc := []) hE hS hPc hDc hFc) rfl rfl hl.1 rfl (lv_room (Nat.le_of_ble_eq_true rfl)) dX21_group_5 ⟨Nat.le_of_ble_eq_true rfl, Nat.le_of_ble_eq_true rfl⟩) hS (fun q _ h => hFc q h) hFc (fun r_1 u t H1 locs ht hvm hw hB hz1 hk1 hS => ?_)
  replace hw : 1 = r_1 := Eq.symm hw
  subst hw
  obtain ⟨hP1, hD1⟩ := hB
  rw [ht] at hP1
  obtain ⟨hP, hD⟩ := va_join (wr := [(h0, .inr (22, [.int 0, .ref h1, .int 0, .ref h2, .int 0, .ref h3, .int 250, .ref h4, .int 0, .ref h5, .ref h6, .ref h7, .int 0, .ref h8, .ref h9, .ref h10, .int 0, .null, .int 0, .null, .int 0, .int 0, .int 0, .ref h11, .int 0, .ref h12, .ref h13, .ref h14, .int 0, .ref h15, .ref h16, .int 0])), (h7, .inl (g.2.1 0, 14, .inl f0))]) (w1 := []) hP hD [] [0, 1] rfl rfl (by decide) (by decide) hk1 hFc hP1 hD1
  clear hP1 hD1 hPc hDc hFc hk1 hz1 hvm ht
  generalize H1 = H at hP hS ⊢
  have hP : va_P g.1 vwCl [(h0, .inr (22, [.int 0, .ref h1, .int 0, .ref h2, .int 0, .ref h3, .int 250, .ref h4, .int 0, .ref h5, .ref h6, .ref h7, .int 0, .ref h8, .ref h9, .ref h10, .int 0, .null, .int 0, .null, .int 0, .int 0, .int 0, .ref h11, .int 0, .ref h12, .ref h13, .ref h14, .int 0, .ref h15, .ref h16, .int 0])), (h7, .inl (g.2.1 0, 14, .inl f0))] H := hP
  have hD : va_D A [(h0, .inr (22, [.int 0, .ref h1, .int 0, .ref h2, .int 0, .ref h3, .int 250, .ref h4, .int 0, .ref h5, .ref h6, .ref h7, .int 0, .ref h8, .ref h9, .ref h10, .int 0, .null, .int 0, .null, .int 0, .int 0, .int 0, .ref h11, .int 0, .ref h12, .ref h13, .ref h14, .int 0, .ref h15, .ref h16, .int 0])), (h7, .inl (g.2.1 0, 14, .inl f0))] := hD
  refine lv_if_eq (tgt := 15) hx hb dX21_group_8 (by decide) (fun c9 => absurd c9 (by decide)) (fun _ => ?_)
  refine lv_iconst (v := 0) hx hb dX21_group_11 (by decide) ?_
  refine lv_goto (tgt := 16) hx hb dX21_group_12 (by decide) ?_
  have hPc := hP.sub (ws' := [(h0, .inr (22, [.int 0, .ref h1, .int 0, .ref h2, .int 0, .ref h3, .int 250, .ref h4, .int 0, .ref h5, .ref h6, .ref h7, .int 0, .ref h8, .ref h9, .ref h10, .int 0, .null, .int 0, .null, .int 0, .int 0, .int 0, .ref h11, .int 0, .ref h12, .ref h13, .ref h14, .int 0, .ref h15, .ref h16, .int 0]))]) [0] rfl
  have hDc := hD.sub (ws' := [(h0, .inr (22, [.int 0, .ref h1, .int 0, .ref h2, .int 0, .ref h3, .int 250, .ref h4, .int 0, .ref h5, .ref h6, .ref h7, .int 0, .ref h8, .ref h9, .ref h10, .int 0, .null, .int 0, .null, .int 0, .int 0, .int 0, .ref h11, .int 0, .ref h12, .ref h13, .ref h14, .int 0, .ref h15, .ref h16, .int 0]))]) [0] (by decide) rfl
  have hFc := va_free (wc := [(h0, .inr (22, [.int 0, .ref h1, .int 0, .ref h2, .int 0, .ref h3, .int 250, .ref h4, .int 0, .ref h5, .ref h6, .ref h7, .int 0, .ref h8, .ref h9, .ref h10, .int 0, .null, .int 0, .null, .int 0, .int 0, .int 0, .ref h11, .int 0, .ref h12, .ref h13, .ref h14, .int 0, .ref h15, .ref h16, .int 0]))]) hD hS hA [0] rfl
  refine va_calli (va_runV (As := [.int 0]) (rest := []) ⟨hx, hb, hml, hown, hts⟩ (c9_X21_refused_1 l g h0 h1 h2 h3 h4 h5 h6 h7 h8 h9 h10 h11 h12 h13 h14 h15 h16 _) (cwV 1 hts g9_X21_group_15_1 rfl rfl rfl (by decide +kernel) ⟨Nat.le_of_ble_eq_true rfl, Nat.le_of_ble_eq_true rfl⟩) (mPreV (g := g) (wc := [(h0, .inr (22, [.int 0, .ref h1, .int 0, .ref h2, .int 0, .ref h3, .int 250, .ref h4, .int 0, .ref h5, .ref h6, .ref h7, .int 0, .ref h8, .ref h9, .ref h10, .int 0, .null, .int 0, .null, .int 0, .int 0, .int 0, .ref h11, .int 0, .ref h12, .ref h13, .ref h14, .int 0, .ref h15, .ref h16, .int 0]))]) (C := RX21) (ci := 22) (q0 := 0) hE hS hPc hDc hFc rfl rfl) rfl rfl hl.1 rfl (lv_room (Nat.le_of_ble_eq_true rfl)) dX21_group_16 ⟨Nat.le_of_ble_eq_true rfl, Nat.le_of_ble_eq_true rfl⟩) hS (fun q _ h => hFc q h) hFc (fun r_2 u t H1 locs ht hvm hw hB hz1 hk1 hS => ?_)
  replace hw : 0 = r_2 := Eq.symm hw
  subst hw
  obtain ⟨hP1, hD1⟩ := hB
  rw [ht] at hP1
  obtain ⟨hP, hD⟩ := va_join (wr := [(h7, .inl (g.2.1 0, 14, .inl f0))]) (w1 := [(h0, .inr (22, [.int 0, .ref h1, .int 0, .ref h2, .int 0, .ref h3, .int 250, .ref h4, .int 0, .ref h5, .ref h6, .ref h7, .int 0, .ref h8, .ref h9, .ref h10, .int 0, .null, .int 0, .null, .int 0, .int 0, .int 0, .ref h11, .int 0, .ref h12, .ref h13, .ref h14, .int 0, .ref h15, .ref h16, .int 0]))]) hP hD [0] [1] rfl rfl (by decide) (by decide) hk1 hFc hP1 hD1
  clear hP1 hD1 hPc hDc hFc hk1 hz1 hvm ht
  generalize H1 = H at hP hS ⊢
  have hP : va_P g.1 vwCl [(h7, .inl (g.2.1 0, 14, .inl f0)), (h0, .inr (22, [.int 0, .ref h1, .int 0, .ref h2, .int 0, .ref h3, .int 250, .ref h4, .int 0, .ref h5, .ref h6, .ref h7, .int 0, .ref h8, .ref h9, .ref h10, .int 0, .null, .int 0, .null, .int 0, .int 0, .int 0, .ref h11, .int 0, .ref h12, .ref h13, .ref h14, .int 0, .ref h15, .ref h16, .int 0]))] H := hP
  have hD : va_D A [(h7, .inl (g.2.1 0, 14, .inl f0)), (h0, .inr (22, [.int 0, .ref h1, .int 0, .ref h2, .int 0, .ref h3, .int 250, .ref h4, .int 0, .ref h5, .ref h6, .ref h7, .int 0, .ref h8, .ref h9, .ref h10, .int 0, .null, .int 0, .null, .int 0, .int 0, .int 0, .ref h11, .int 0, .ref h12, .ref h13, .ref h14, .int 0, .ref h15, .ref h16, .int 0]))] := hD
  refine lv_if_eq (tgt := 26) hx hb dX21_group_19 (by decide) (fun _ => ?_) (fun c9 => absurd (by decide) c9)
  refine lv_aload_n hx hb dX21_group_26 rfl (lv_at hl 0 rfl) ?_
  refine va_get (D := g.1) (ci := 22) (v := .ref h7) (C := RX21) (T := TX21) (N := 32) hx hb hts in9_X21_group_15_RX21 hown hK hP 1 rfl rfl 11 (by decide) (hts (.fieldLink RX21 107 "RegexloomModel" "told" "[I") (List.mem_of_getElem? (i := 10) rfl)) (fun _ h9 => h9) rfl dX21_group_27 ?_
  refine lv_iconst (v := 2) hx hb dX21_group_30 (by decide) ?_
  refine lv_iload_n hx hb dX21_group_31 rfl (lv_at hl 1 rfl) ?_
  refine lv_imul hx hb dX21_group_32 ?_
  refine e_top (y := 6) (by decide) ?_
  refine lv_iload_n hx hb dX21_group_33 rfl (lv_at hl 2 rfl) ?_
  refine lv_if_eq (tgt := 41) hx hb dX21_group_34 (by decide) (fun _ => ?_) (fun c9 => absurd (by decide) c9)
  refine lv_iconst (v := 0) hx hb dX21_group_41 (by decide) ?_
  refine lv_iadd hx hb dX21_group_42 ?_
  refine e_top (y := 6) (by decide) ?_
  refine va_iald hx hb hK hP 0 0 rfl rfl (vp_in_nI (n := 6) (by decide) (by decide)) dX21_group_43 ?_
  refine e_topv (y := .int (f0 6)) (by rfl) ?_
  have hP9 := hP.sub (ws' := [(h0, .inr (22, [.int 0, .ref h1, .int 0, .ref h2, .int 0, .ref h3, .int 250, .ref h4, .int 0, .ref h5, .ref h6, .ref h7, .int 0, .ref h8, .ref h9, .ref h10, .int 0, .null, .int 0, .null, .int 0, .int 0, .int 0, .ref h11, .int 0, .ref h12, .ref h13, .ref h14, .int 0, .ref h15, .ref h16, .int 0])), (h7, .inl (g.2.1 0, 14, .inl f0))]) [1, 0] rfl
  have hD9 := hD.sub (ws' := [(h0, .inr (22, [.int 0, .ref h1, .int 0, .ref h2, .int 0, .ref h3, .int 250, .ref h4, .int 0, .ref h5, .ref h6, .ref h7, .int 0, .ref h8, .ref h9, .ref h10, .int 0, .null, .int 0, .null, .int 0, .int 0, .int 0, .ref h11, .int 0, .ref h12, .ref h13, .ref h14, .int 0, .ref h15, .ref h16, .int 0])), (h7, .inl (g.2.1 0, 14, .inl f0))]) [1, 0] (by decide) rfl
  subst hAe
  exact W.iret (v := (f0 6)) hx hb hr (fun t ht hW => ⟨⟨(f0 6), (), rfl, rfl, by rw [ht]; exact hP9, hD9⟩, hS.F ht⟩) hS.2.2 dX21_group_44
def w9_X9_get_14 : List Cond := [.code yX9_get cX9_get 3 (some .int), .fieldLink RX9 28 "Regexloom$Table" "size" "I", .fieldLink RX9 9 "Regexloom$Table" "width" "I", .fieldLink RX9 24 "Regexloom$Table" "cells" "[I"] ++ (u_ws RX9 TX9 4)
set_option maxRecDepth 20000 in
theorem in9_X9_get_14_RX9 : ∀ w ∈ u_ws RX9 TX9 4, w ∈ w9_X9_get_14 := by decide +kernel
set_option maxHeartbeats 4000000 in
set_option maxRecDepth 100000 in
theorem c9_X9_get_14 (l : Launch) (g : G9) (h0 h1 sz : Nat) (f0 : Nat → Int32) : Met l yX9_get w9_X9_get_14 ({ frames := 0, cells := 0, slots := 0, locals := 0 }) (mP g [(h0, .inr (10, [.int 2, .int 7, .ref h1, .int 7])), (h1, .inl (g.2.1 0, 14, .inl f0))] sz [.ref h0, .int 4, .int 0]) (va_Qi (fun (r : Int32) (_ : Unit) => r = (f0 8)) (fun (_ : Unit) (t : State) => mB g [(h0, .inr (10, [.int 2, .int 7, .ref h1, .int 7])), (h1, .inl (g.2.1 0, 14, .inl f0))] sz [(h0, .inr (10, [.int 2, .int 7, .ref h1, .int 7])), (h1, .inl (g.2.1 0, 14, .inl f0))] t) (va_A [(h0, .inr (10, [.int 2, .int 7, .ref h1, .int 7])), (h1, .inl (g.2.1 0, 14, .inl f0))] sz)) 0 0 (va_A [(h0, .inr (10, [.int 2, .int 7, .ref h1, .int 7])), (h1, .inl (g.2.1 0, 14, .inl f0))] sz) := by
  refine Met.ofW (cc := cX9_get) (maxL := 3) (ret := (some .int)) (by decide) rfl ?_
  intro p e s m args below meth c s₁ B hml hv
  obtain ⟨rfl, hsz, hP, hD0, hE⟩ := hv
  have hx := B.exec
  have hb := B.bytes
  have hr := B.returns
  have hts := atoms_spec (ws := w9_X9_get_14) B.pre
  have hown : s.vm.findClass RX9 = some m.cls := findClass_of_methodNamed B.named
  have hlocks := B.notSynchronized
  subst hsz
  have hD := hD0.self (sz := s.heap.size)
  generalize hAe : va_A [(h0, .inr (10, [.int 2, .int 7, .ref h1, .int 7])), (h1, .inl (g.2.1 0, 14, .inl f0))] s.heap.size = A at hD hE ⊢
  have hA : ∀ q : Nat, s.heap.size ≤ q → A q := fun q h => by rw [← hAe]; exact Or.inr h
  have hK := hE.1
  have hS : va_S A s.heap s.heap [] := va_S.rf
  replace hP : va_P g.1 vwCl [(h0, .inr (10, [.int 2, .int 7, .ref h1, .int 7])), (h1, .inl (g.2.1 0, 14, .inl f0))] s.heap := hP
  have hl := lv_entry ([.ref h0, .int 4, .int 0]) (n := 3) (Nat.le_of_ble_eq_true rfl)
  rw [lg_entry_eq]
  generalize (lg_sl ([.ref h0, .int 4, .int 0]) ++ List.replicate (3 - (lg_sl ([.ref h0, .int 4, .int 0])).length) Slot.unset).toArray = ls at hl ⊢
  replace hl : lv_has ls 3 [(0, .ref h0), (1, .int 4), (2, .int 0)] := hl
  have hH0 : s.heap.size ≤ s.heap.size := Nat.le_refl _
  refine lv_iload_n hx hb dX9_get_0 rfl (lv_at hl 1 rfl) ?_
  refine lv_if_lt (tgt := 24) hx hb dX9_get_1 (by decide) (fun c9 => absurd c9 (by decide)) (fun _ => ?_)
  refine lv_iload_n hx hb dX9_get_4 rfl (lv_at hl 1 rfl) ?_
  refine lv_aload_n hx hb dX9_get_5 rfl (lv_at hl 0 rfl) ?_
  refine va_get (D := g.1) (ci := 10) (v := .int 7) (C := RX9) (T := TX9) (N := 4) hx hb hts in9_X9_get_14_RX9 hown hK hP 0 rfl rfl 3 (by decide) (hts (.fieldLink RX9 28 "Regexloom$Table" "size" "I") (List.mem_of_getElem? (i := 1) rfl)) (fun _ h9 => h9) rfl dX9_get_6 ?_
  refine lv_icmp_ge (tgt := 24) hx hb dX9_get_9 (by decide) (fun c9 => absurd c9 (by decide)) (fun _ => ?_)
  refine lv_iload_n hx hb dX9_get_12 rfl (lv_at hl 2 rfl) ?_
  refine lv_if_lt (tgt := 24) hx hb dX9_get_13 (by decide) (fun c9 => absurd c9 (by decide)) (fun _ => ?_)
  refine lv_iload_n hx hb dX9_get_16 rfl (lv_at hl 2 rfl) ?_
  refine lv_aload_n hx hb dX9_get_17 rfl (lv_at hl 0 rfl) ?_
  refine va_get (D := g.1) (ci := 10) (v := .int 2) (C := RX9) (T := TX9) (N := 4) hx hb hts in9_X9_get_14_RX9 hown hK hP 0 rfl rfl 0 (by decide) (hts (.fieldLink RX9 9 "Regexloom$Table" "width" "I") (List.mem_of_getElem? (i := 2) rfl)) (fun _ h9 => h9) rfl dX9_get_18 ?_
  refine lv_icmp_lt (tgt := 26) hx hb dX9_get_21 (by decide) (fun _ => ?_) (fun c9 => absurd (by decide) c9)
  refine lv_aload_n hx hb dX9_get_26 rfl (lv_at hl 0 rfl) ?_
  refine va_get (D := g.1) (ci := 10) (v := .ref h1) (C := RX9) (T := TX9) (N := 4) hx hb hts in9_X9_get_14_RX9 hown hK hP 0 rfl rfl 2 (by decide) (hts (.fieldLink RX9 24 "Regexloom$Table" "cells" "[I") (List.mem_of_getElem? (i := 3) rfl)) (fun _ h9 => h9) rfl dX9_get_27 ?_
  refine lv_iload_n hx hb dX9_get_30 rfl (lv_at hl 1 rfl) ?_
  refine lv_aload_n hx hb dX9_get_31 rfl (lv_at hl 0 rfl) ?_
  refine va_get (D := g.1) (ci := 10) (v := .int 2) (C := RX9) (T := TX9) (N := 4) hx hb hts in9_X9_get_14_RX9 hown hK hP 0 rfl rfl 0 (by decide) (hts (.fieldLink RX9 9 "Regexloom$Table" "width" "I") (List.mem_of_getElem? (i := 2) rfl)) (fun _ h9 => h9) rfl dX9_get_32 ?_
  refine lv_imul hx hb dX9_get_35 ?_
  refine e_top (y := 8) (by decide) ?_
  refine lv_iload_n hx hb dX9_get_36 rfl (lv_at hl 2 rfl) ?_
  refine lv_iadd hx hb dX9_get_37 ?_
  refine e_top (y := 8) (by decide) ?_
  refine va_iald hx hb hK hP 1 0 rfl rfl (vp_in_nI (n := 8) (by decide) (by decide)) dX9_get_38 ?_
  refine e_topv (y := .int (f0 8)) (by rfl) ?_
  have hP9 := hP.sub (ws' := [(h0, .inr (10, [.int 2, .int 7, .ref h1, .int 7])), (h1, .inl (g.2.1 0, 14, .inl f0))]) [0, 1] rfl
  have hD9 := hD.sub (ws' := [(h0, .inr (10, [.int 2, .int 7, .ref h1, .int 7])), (h1, .inl (g.2.1 0, 14, .inl f0))]) [0, 1] (by decide) rfl
  subst hAe
  exact W.iret (v := (f0 8)) hx hb hr (fun t ht hW => ⟨⟨(f0 8), (), rfl, rfl, by rw [ht]; exact hP9, hD9⟩, hS.F ht⟩) hS.2.2 dX9_get_39
def w9_X11_group_16 : List Cond := [.code yX11_group cX11_group 3 (some .int), .fieldLink RX11 78 "Regexloom" "bounds" "LRegexloom$Table;", .methodLink RX11 225 yX9_get, .instanceMethod yX9_get, .selects RX9 yX9_get yX9_get, .initialized RX9, .code yX9_get cX9_get 3 (some .int), .fieldLink RX9 28 "Regexloom$Table" "size" "I", .fieldLink RX9 9 "Regexloom$Table" "width" "I", .fieldLink RX9 24 "Regexloom$Table" "cells" "[I"] ++ (u_ws RX11 TX11 17 ++ u_ws RX9 TX9 4)
set_option maxRecDepth 20000 in
theorem in9_X11_group_16_RX11 : ∀ w ∈ u_ws RX11 TX11 17, w ∈ w9_X11_group_16 := by decide +kernel
set_option maxRecDepth 20000 in
theorem in9_X11_group_16_RX9 : ∀ w ∈ u_ws RX9 TX9 4, w ∈ w9_X11_group_16 := by decide +kernel
set_option maxRecDepth 20000 in
theorem g9_X11_group_16_0 : GoodIn w9_X11_group_16 (wsV RX11 225 RX9 yX9_get w9_X9_get_14) := goodIn_r _ [2, 3, 4, 5, 6, 7, 8, 9, 27, 28, 29, 30] (by decide +kernel) (by decide +kernel)
set_option maxHeartbeats 4000000 in
set_option maxRecDepth 100000 in
theorem c9_X11_group_16 (l : Launch) (g : G9) (h0 h1 h2 h3 h4 h5 h6 h7 h8 h9 h10 h11 h12 h13 h14 sz : Nat) (f0 : Nat → Int32) : Met l yX11_group w9_X11_group_16 ({ frames := 1, cells := 0, slots := 0, locals := 22 }) (mP g [(h0, .inr (12, [.ref h1, .int 0, .ref h2, .ref h3, .ref h4, .ref h5, .ref h6, .ref h7, .int (-1), .ref h8, .ref h9, .int 250, .ref h10, .int 0, .ref h11, .ref h12, .ref h13])), (h10, .inr (10, [.int 2, .int 7, .ref h14, .int 7])), (h14, .inl (g.2.1 0, 14, .inl f0))] sz [.ref h0, .int 4, .int 0]) (va_Qi (fun (r : Int32) (_ : Unit) => r = (f0 8)) (fun (_ : Unit) (t : State) => mB g [(h0, .inr (12, [.ref h1, .int 0, .ref h2, .ref h3, .ref h4, .ref h5, .ref h6, .ref h7, .int (-1), .ref h8, .ref h9, .int 250, .ref h10, .int 0, .ref h11, .ref h12, .ref h13])), (h10, .inr (10, [.int 2, .int 7, .ref h14, .int 7])), (h14, .inl (g.2.1 0, 14, .inl f0))] sz [(h0, .inr (12, [.ref h1, .int 0, .ref h2, .ref h3, .ref h4, .ref h5, .ref h6, .ref h7, .int (-1), .ref h8, .ref h9, .int 250, .ref h10, .int 0, .ref h11, .ref h12, .ref h13])), (h10, .inr (10, [.int 2, .int 7, .ref h14, .int 7])), (h14, .inl (g.2.1 0, 14, .inl f0))] t) (va_A [(h0, .inr (12, [.ref h1, .int 0, .ref h2, .ref h3, .ref h4, .ref h5, .ref h6, .ref h7, .int (-1), .ref h8, .ref h9, .int 250, .ref h10, .int 0, .ref h11, .ref h12, .ref h13])), (h10, .inr (10, [.int 2, .int 7, .ref h14, .int 7])), (h14, .inl (g.2.1 0, 14, .inl f0))] sz)) 0 0 (va_A [(h0, .inr (12, [.ref h1, .int 0, .ref h2, .ref h3, .ref h4, .ref h5, .ref h6, .ref h7, .int (-1), .ref h8, .ref h9, .int 250, .ref h10, .int 0, .ref h11, .ref h12, .ref h13])), (h10, .inr (10, [.int 2, .int 7, .ref h14, .int 7])), (h14, .inl (g.2.1 0, 14, .inl f0))] sz) := by
  refine Met.ofW (cc := cX11_group) (maxL := 3) (ret := (some .int)) (by decide) rfl ?_
  intro p e s m args below meth c s₁ B hml hv
  obtain ⟨rfl, hsz, hP, hD0, hE⟩ := hv
  have hx := B.exec
  have hb := B.bytes
  have hr := B.returns
  have hts := atoms_spec (ws := w9_X11_group_16) B.pre
  have hown : s.vm.findClass RX11 = some m.cls := findClass_of_methodNamed B.named
  have hlocks := B.notSynchronized
  subst hsz
  have hD := hD0.self (sz := s.heap.size)
  generalize hAe : va_A [(h0, .inr (12, [.ref h1, .int 0, .ref h2, .ref h3, .ref h4, .ref h5, .ref h6, .ref h7, .int (-1), .ref h8, .ref h9, .int 250, .ref h10, .int 0, .ref h11, .ref h12, .ref h13])), (h10, .inr (10, [.int 2, .int 7, .ref h14, .int 7])), (h14, .inl (g.2.1 0, 14, .inl f0))] s.heap.size = A at hD hE ⊢
  have hA : ∀ q : Nat, s.heap.size ≤ q → A q := fun q h => by rw [← hAe]; exact Or.inr h
  have hK := hE.1
  have hS : va_S A s.heap s.heap [] := va_S.rf
  replace hP : va_P g.1 vwCl [(h0, .inr (12, [.ref h1, .int 0, .ref h2, .ref h3, .ref h4, .ref h5, .ref h6, .ref h7, .int (-1), .ref h8, .ref h9, .int 250, .ref h10, .int 0, .ref h11, .ref h12, .ref h13])), (h10, .inr (10, [.int 2, .int 7, .ref h14, .int 7])), (h14, .inl (g.2.1 0, 14, .inl f0))] s.heap := hP
  have hl := lv_entry ([.ref h0, .int 4, .int 0]) (n := 3) (Nat.le_of_ble_eq_true rfl)
  rw [lg_entry_eq]
  generalize (lg_sl ([.ref h0, .int 4, .int 0]) ++ List.replicate (3 - (lg_sl ([.ref h0, .int 4, .int 0])).length) Slot.unset).toArray = ls at hl ⊢
  replace hl : lv_has ls 3 [(0, .ref h0), (1, .int 4), (2, .int 0)] := hl
  have hH0 : s.heap.size ≤ s.heap.size := Nat.le_refl _
  refine lv_iload_n hx hb dX11_group_0 rfl (lv_at hl 1 rfl) ?_
  refine lv_if_lt (tgt := 10) hx hb dX11_group_1 (by decide) (fun c9 => absurd c9 (by decide)) (fun _ => ?_)
  refine lv_iload_n hx hb dX11_group_4 rfl (lv_at hl 1 rfl) ?_
  refine lv_bipush (v := 6) hx hb dX11_group_5 (by decide) ?_
  refine lv_icmp_le (tgt := 20) hx hb dX11_group_7 (by decide) (fun _ => ?_) (fun c9 => absurd (by decide) c9)
  refine lv_aload_n hx hb dX11_group_20 rfl (lv_at hl 0 rfl) ?_
  refine va_get (D := g.1) (ci := 12) (v := .ref h10) (C := RX11) (T := TX11) (N := 17) hx hb hts in9_X11_group_16_RX11 hown hK hP 0 rfl rfl 12 (by decide) (hts (.fieldLink RX11 78 "Regexloom" "bounds" "LRegexloom$Table;") (List.mem_of_getElem? (i := 1) rfl)) (fun _ h9 => h9) rfl dX11_group_21 ?_
  refine lv_iload_n hx hb dX11_group_24 rfl (lv_at hl 1 rfl) ?_
  refine lv_iload_n hx hb dX11_group_25 rfl (lv_at hl 2 rfl) ?_
  refine lv_if_eq (tgt := 33) hx hb dX11_group_26 (by decide) (fun _ => ?_) (fun c9 => absurd (by decide) c9)
  refine lv_iconst (v := 0) hx hb dX11_group_33 (by decide) ?_
  have hPc := hP.sub (ws' := [(h10, .inr (10, [.int 2, .int 7, .ref h14, .int 7])), (h14, .inl (g.2.1 0, 14, .inl f0))]) [1, 2] rfl
  have hDc := hD.sub (ws' := [(h10, .inr (10, [.int 2, .int 7, .ref h14, .int 7])), (h14, .inl (g.2.1 0, 14, .inl f0))]) [1, 2] (by decide) rfl
  have hFc := va_free (wc := [(h10, .inr (10, [.int 2, .int 7, .ref h14, .int 7])), (h14, .inl (g.2.1 0, 14, .inl f0))]) hD hS hA [1, 2] rfl
  refine va_calli (va_runV (As := [.int 4, .int 0]) (rest := []) ⟨hx, hb, hml, hown, hts⟩ (c9_X9_get_14 l g h10 h14 _ f0) (cwV 2 hts g9_X11_group_16_0 rfl rfl rfl (by decide +kernel) ⟨Nat.le_of_ble_eq_true rfl, Nat.le_of_ble_eq_true rfl⟩) (mPreV (g := g) (wc := [(h10, .inr (10, [.int 2, .int 7, .ref h14, .int 7])), (h14, .inl (g.2.1 0, 14, .inl f0))]) (C := RX9) (ci := 10) (q0 := 0) hE hS hPc hDc hFc rfl rfl) rfl rfl hl.1 rfl (lv_room (Nat.le_of_ble_eq_true rfl)) dX11_group_34 ⟨Nat.le_of_ble_eq_true rfl, Nat.le_of_ble_eq_true rfl⟩) hS (fun q _ h => hFc q h) hFc (fun r_1 u t H1 locs ht hvm hw hB hz1 hk1 hS => ?_)
  replace hw : (f0 8) = r_1 := Eq.symm hw
  subst hw
  obtain ⟨hP1, hD1⟩ := hB
  rw [ht] at hP1
  obtain ⟨hP, hD⟩ := va_join (wr := [(h0, .inr (12, [.ref h1, .int 0, .ref h2, .ref h3, .ref h4, .ref h5, .ref h6, .ref h7, .int (-1), .ref h8, .ref h9, .int 250, .ref h10, .int 0, .ref h11, .ref h12, .ref h13]))]) (w1 := [(h10, .inr (10, [.int 2, .int 7, .ref h14, .int 7])), (h14, .inl (g.2.1 0, 14, .inl f0))]) hP hD [1, 2] [0] rfl rfl (by decide) (by decide) hk1 hFc hP1 hD1
  clear hP1 hD1 hPc hDc hFc hk1 hz1 hvm ht
  generalize H1 = H at hP hS ⊢
  have hP : va_P g.1 vwCl [(h0, .inr (12, [.ref h1, .int 0, .ref h2, .ref h3, .ref h4, .ref h5, .ref h6, .ref h7, .int (-1), .ref h8, .ref h9, .int 250, .ref h10, .int 0, .ref h11, .ref h12, .ref h13])), (h10, .inr (10, [.int 2, .int 7, .ref h14, .int 7])), (h14, .inl (g.2.1 0, 14, .inl f0))] H := hP
  have hD : va_D A [(h0, .inr (12, [.ref h1, .int 0, .ref h2, .ref h3, .ref h4, .ref h5, .ref h6, .ref h7, .int (-1), .ref h8, .ref h9, .int 250, .ref h10, .int 0, .ref h11, .ref h12, .ref h13])), (h10, .inr (10, [.int 2, .int 7, .ref h14, .int 7])), (h14, .inl (g.2.1 0, 14, .inl f0))] := hD
  refine e_top (y := (f0 8)) (by rfl) ?_
  have hP9 := hP.sub (ws' := [(h0, .inr (12, [.ref h1, .int 0, .ref h2, .ref h3, .ref h4, .ref h5, .ref h6, .ref h7, .int (-1), .ref h8, .ref h9, .int 250, .ref h10, .int 0, .ref h11, .ref h12, .ref h13])), (h10, .inr (10, [.int 2, .int 7, .ref h14, .int 7])), (h14, .inl (g.2.1 0, 14, .inl f0))]) [0, 1, 2] rfl
  have hD9 := hD.sub (ws' := [(h0, .inr (12, [.ref h1, .int 0, .ref h2, .ref h3, .ref h4, .ref h5, .ref h6, .ref h7, .int (-1), .ref h8, .ref h9, .int 250, .ref h10, .int 0, .ref h11, .ref h12, .ref h13])), (h10, .inr (10, [.int 2, .int 7, .ref h14, .int 7])), (h14, .inl (g.2.1 0, 14, .inl f0))]) [0, 1, 2] (by decide) rfl
  subst hAe
  exact W.iret (v := (f0 8)) hx hb hr (fun t ht hW => ⟨⟨(f0 8), (), rfl, rfl, by rw [ht]; exact hP9, hD9⟩, hS.F ht⟩) hS.2.2 dX11_group_37
def w9_L_group_17 : List Cond := [.codeWith yL_group cL_group 5 (some .int) [(0, 10, 13, 21)], .methodLink RL 47 yX11_group, .instanceMethod yX11_group, .selects RX11 yX11_group yX11_group, .initialized RX11, .code yX11_group cX11_group 3 (some .int), .fieldLink RX11 78 "Regexloom" "bounds" "LRegexloom$Table;", .methodLink RX11 225 yX9_get, .instanceMethod yX9_get, .selects RX9 yX9_get yX9_get, .initialized RX9, .code yX9_get cX9_get 3 (some .int), .fieldLink RX9 28 "Regexloom$Table" "size" "I", .fieldLink RX9 9 "Regexloom$Table" "width" "I", .fieldLink RX9 24 "Regexloom$Table" "cells" "[I"] ++ (u_ws RX11 TX11 17 ++ u_ws RX9 TX9 4)
set_option maxRecDepth 20000 in
theorem in9_L_group_17_RX11 : ∀ w ∈ u_ws RX11 TX11 17, w ∈ w9_L_group_17 := by decide +kernel
set_option maxRecDepth 20000 in
theorem in9_L_group_17_RX9 : ∀ w ∈ u_ws RX9 TX9 4, w ∈ w9_L_group_17 := by decide +kernel
set_option maxRecDepth 20000 in
theorem g9_L_group_17_0 : GoodIn w9_L_group_17 (wsV RL 47 RX11 yX11_group w9_X11_group_16) := goodIn_r _ [1, 2, 3, 4, 5, 6, 7, 8, 9, 10, 11, 12, 13, 14, 15, 16, 17, 18, 19, 20, 21, 22, 23, 24, 25, 26, 27, 28, 29, 30, 31, 32, 33, 34, 35] (by decide +kernel) (by decide +kernel)
set_option maxHeartbeats 4000000 in
set_option maxRecDepth 100000 in
theorem c9_L_group_17 (l : Launch) (g : G9) (h0 h1 h2 h3 h4 h5 h6 h7 h8 h9 h10 h11 h12 h13 h14 h15 sz : Nat) : Met l yL_group w9_L_group_17 ({ frames := 2, cells := 0, slots := 0, locals := 44 }) (mP g [(h0, .inr (12, [.ref h2, .int 0, .ref h3, .ref h4, .ref h5, .ref h6, .ref h7, .ref h8, .int (-1), .ref h9, .ref h10, .int 250, .ref h11, .int 0, .ref h12, .ref h13, .ref h14])), (h11, .inr (10, [.int 2, .int 7, .ref h15, .int 7])), (h15, .inl (g.2.1 0, 14, .inl (upd (upd (upd (upd (upd (upd (upd (upd (upd (upd (upd (upd (upd (upd (fun _ => 0) 0 (-1)) 1 (-1)) 2 (-1)) 3 (-1)) 4 (-1)) 5 (-1)) 6 (-1)) 7 (-1)) 8 (-1)) 9 (-1)) 10 (-1)) 11 (-1)) 12 (-1)) 13 (-1)))), (h1, .inl (g.2.1 2, 1, .inr (.inl (fun _ => 0))))] sz [.ref h0, .int 4, .int 0, .ref h1]) (va_Qi (fun (r : Int32) (_ : Unit) => r = 0) (fun (_ : Unit) (t : State) => mB g [(h0, .inr (12, [.ref h2, .int 0, .ref h3, .ref h4, .ref h5, .ref h6, .ref h7, .ref h8, .int (-1), .ref h9, .ref h10, .int 250, .ref h11, .int 0, .ref h12, .ref h13, .ref h14])), (h11, .inr (10, [.int 2, .int 7, .ref h15, .int 7])), (h15, .inl (g.2.1 0, 14, .inl (upd (upd (upd (upd (upd (upd (upd (upd (upd (upd (upd (upd (upd (upd (fun _ => 0) 0 (-1)) 1 (-1)) 2 (-1)) 3 (-1)) 4 (-1)) 5 (-1)) 6 (-1)) 7 (-1)) 8 (-1)) 9 (-1)) 10 (-1)) 11 (-1)) 12 (-1)) 13 (-1)))), (h1, .inl (g.2.1 2, 1, .inr (.inl (fun _ => 0))))] sz [(h0, .inr (12, [.ref h2, .int 0, .ref h3, .ref h4, .ref h5, .ref h6, .ref h7, .ref h8, .int (-1), .ref h9, .ref h10, .int 250, .ref h11, .int 0, .ref h12, .ref h13, .ref h14])), (h11, .inr (10, [.int 2, .int 7, .ref h15, .int 7])), (h15, .inl (g.2.1 0, 14, .inl (upd (upd (upd (upd (upd (upd (upd (upd (upd (upd (upd (upd (upd (upd (fun _ => 0) 0 (-1)) 1 (-1)) 2 (-1)) 3 (-1)) 4 (-1)) 5 (-1)) 6 (-1)) 7 (-1)) 8 (-1)) 9 (-1)) 10 (-1)) 11 (-1)) 12 (-1)) 13 (-1)))), (h1, .inl (g.2.1 2, 1, .inr (.inl (vp_updL (fun _ => 0) 0 (-1)))))] t) (va_A [(h0, .inr (12, [.ref h2, .int 0, .ref h3, .ref h4, .ref h5, .ref h6, .ref h7, .ref h8, .int (-1), .ref h9, .ref h10, .int 250, .ref h11, .int 0, .ref h12, .ref h13, .ref h14])), (h11, .inr (10, [.int 2, .int 7, .ref h15, .int 7])), (h15, .inl (g.2.1 0, 14, .inl (upd (upd (upd (upd (upd (upd (upd (upd (upd (upd (upd (upd (upd (upd (fun _ => 0) 0 (-1)) 1 (-1)) 2 (-1)) 3 (-1)) 4 (-1)) 5 (-1)) 6 (-1)) 7 (-1)) 8 (-1)) 9 (-1)) 10 (-1)) 11 (-1)) 12 (-1)) 13 (-1)))), (h1, .inl (g.2.1 2, 1, .inr (.inl (fun _ => 0))))] sz)) 0 0 (va_A [(h0, .inr (12, [.ref h2, .int 0, .ref h3, .ref h4, .ref h5, .ref h6, .ref h7, .ref h8, .int (-1), .ref h9, .ref h10, .int 250, .ref h11, .int 0, .ref h12, .ref h13, .ref h14])), (h11, .inr (10, [.int 2, .int 7, .ref h15, .int 7])), (h15, .inl (g.2.1 0, 14, .inl (upd (upd (upd (upd (upd (upd (upd (upd (upd (upd (upd (upd (upd (upd (fun _ => 0) 0 (-1)) 1 (-1)) 2 (-1)) 3 (-1)) 4 (-1)) 5 (-1)) 6 (-1)) 7 (-1)) 8 (-1)) 9 (-1)) 10 (-1)) 11 (-1)) 12 (-1)) 13 (-1)))), (h1, .inl (g.2.1 2, 1, .inr (.inl (fun _ => 0))))] sz) := by
  refine va_MetW (cc := cL_group) (maxL := 5) (ret := (some .int)) (by decide) rfl ?_
  intro p e s m args below meth c s₁ B hml hv
  obtain ⟨rfl, hsz, hP, hD0, hE⟩ := hv
  have hx := B.exec
  have hb := B.bytes
  have hr := B.returns
  have hts := atoms_spec (ws := w9_L_group_17) B.pre
  have hown : s.vm.findClass RL = some m.cls := findClass_of_methodNamed B.named
  have hlocks := B.notSynchronized
  have htab := vx_table (x := yL_group) B (hts (.codeWith yL_group cL_group 5 (some .int) [(0, 10, 13, 21)]) (List.mem_of_getElem? (i := 0) rfl))
  subst hsz
  have hD := hD0.self (sz := s.heap.size)
  generalize hAe : va_A [(h0, .inr (12, [.ref h2, .int 0, .ref h3, .ref h4, .ref h5, .ref h6, .ref h7, .ref h8, .int (-1), .ref h9, .ref h10, .int 250, .ref h11, .int 0, .ref h12, .ref h13, .ref h14])), (h11, .inr (10, [.int 2, .int 7, .ref h15, .int 7])), (h15, .inl (g.2.1 0, 14, .inl (upd (upd (upd (upd (upd (upd (upd (upd (upd (upd (upd (upd (upd (upd (fun _ => 0) 0 (-1)) 1 (-1)) 2 (-1)) 3 (-1)) 4 (-1)) 5 (-1)) 6 (-1)) 7 (-1)) 8 (-1)) 9 (-1)) 10 (-1)) 11 (-1)) 12 (-1)) 13 (-1)))), (h1, .inl (g.2.1 2, 1, .inr (.inl (fun _ => 0))))] s.heap.size = A at hD hE ⊢
  have hA : ∀ q : Nat, s.heap.size ≤ q → A q := fun q h => by rw [← hAe]; exact Or.inr h
  have hK := hE.1
  have hS : va_S A s.heap s.heap [] := va_S.rf
  replace hP : va_P g.1 vwCl [(h0, .inr (12, [.ref h2, .int 0, .ref h3, .ref h4, .ref h5, .ref h6, .ref h7, .ref h8, .int (-1), .ref h9, .ref h10, .int 250, .ref h11, .int 0, .ref h12, .ref h13, .ref h14])), (h11, .inr (10, [.int 2, .int 7, .ref h15, .int 7])), (h15, .inl (g.2.1 0, 14, .inl (upd (upd (upd (upd (upd (upd (upd (upd (upd (upd (upd (upd (upd (upd (fun _ => 0) 0 (-1)) 1 (-1)) 2 (-1)) 3 (-1)) 4 (-1)) 5 (-1)) 6 (-1)) 7 (-1)) 8 (-1)) 9 (-1)) 10 (-1)) 11 (-1)) 12 (-1)) 13 (-1)))), (h1, .inl (g.2.1 2, 1, .inr (.inl (fun _ => 0))))] s.heap := hP
  have hl := lv_entry ([.ref h0, .int 4, .int 0, .ref h1]) (n := 5) (Nat.le_of_ble_eq_true rfl)
  rw [lg_entry_eq]
  generalize (lg_sl ([.ref h0, .int 4, .int 0, .ref h1]) ++ List.replicate (5 - (lg_sl ([.ref h0, .int 4, .int 0, .ref h1])).length) Slot.unset).toArray = ls at hl ⊢
  replace hl : lv_has ls 5 [(0, .ref h0), (1, .int 4), (2, .int 0), (3, .ref h1)] := hl
  have hH0 : s.heap.size ≤ s.heap.size := Nat.le_refl _
  refine lv_aload_n hx hb dL_group_0 rfl (lv_at hl 3 rfl) ?_
  refine lv_iconst (v := 0) hx hb dL_group_1 (by decide) ?_
  refine lv_aload_n hx hb dL_group_2 rfl (lv_at hl 0 rfl) ?_
  refine lv_iload_n hx hb dL_group_3 rfl (lv_at hl 1 rfl) ?_
  refine lv_iload_n hx hb dL_group_4 rfl (lv_at hl 2 rfl) ?_
  have hPc := hP.sub (ws' := [(h0, .inr (12, [.ref h2, .int 0, .ref h3, .ref h4, .ref h5, .ref h6, .ref h7, .ref h8, .int (-1), .ref h9, .ref h10, .int 250, .ref h11, .int 0, .ref h12, .ref h13, .ref h14])), (h11, .inr (10, [.int 2, .int 7, .ref h15, .int 7])), (h15, .inl (g.2.1 0, 14, .inl (upd (upd (upd (upd (upd (upd (upd (upd (upd (upd (upd (upd (upd (upd (fun _ => 0) 0 (-1)) 1 (-1)) 2 (-1)) 3 (-1)) 4 (-1)) 5 (-1)) 6 (-1)) 7 (-1)) 8 (-1)) 9 (-1)) 10 (-1)) 11 (-1)) 12 (-1)) 13 (-1))))]) [0, 1, 2] rfl
  have hDc := hD.sub (ws' := [(h0, .inr (12, [.ref h2, .int 0, .ref h3, .ref h4, .ref h5, .ref h6, .ref h7, .ref h8, .int (-1), .ref h9, .ref h10, .int 250, .ref h11, .int 0, .ref h12, .ref h13, .ref h14])), (h11, .inr (10, [.int 2, .int 7, .ref h15, .int 7])), (h15, .inl (g.2.1 0, 14, .inl (upd (upd (upd (upd (upd (upd (upd (upd (upd (upd (upd (upd (upd (upd (fun _ => 0) 0 (-1)) 1 (-1)) 2 (-1)) 3 (-1)) 4 (-1)) 5 (-1)) 6 (-1)) 7 (-1)) 8 (-1)) 9 (-1)) 10 (-1)) 11 (-1)) 12 (-1)) 13 (-1))))]) [0, 1, 2] (by decide) rfl
  have hFc := va_free (wc := [(h0, .inr (12, [.ref h2, .int 0, .ref h3, .ref h4, .ref h5, .ref h6, .ref h7, .ref h8, .int (-1), .ref h9, .ref h10, .int 250, .ref h11, .int 0, .ref h12, .ref h13, .ref h14])), (h11, .inr (10, [.int 2, .int 7, .ref h15, .int 7])), (h15, .inl (g.2.1 0, 14, .inl (upd (upd (upd (upd (upd (upd (upd (upd (upd (upd (upd (upd (upd (upd (fun _ => 0) 0 (-1)) 1 (-1)) 2 (-1)) 3 (-1)) 4 (-1)) 5 (-1)) 6 (-1)) 7 (-1)) 8 (-1)) 9 (-1)) 10 (-1)) 11 (-1)) 12 (-1)) 13 (-1))))]) hD hS hA [0, 1, 2] rfl
  refine va_calli (va_runV (As := [.int 4, .int 0]) (rest := [.int 0, .ref h1]) ⟨hx, hb, hml, hown, hts⟩ (c9_X11_group_16 l g h0 h2 h3 h4 h5 h6 h7 h8 h9 h10 h11 h12 h13 h14 h15 _ (upd (upd (upd (upd (upd (upd (upd (upd (upd (upd (upd (upd (upd (upd (fun _ => 0) 0 (-1)) 1 (-1)) 2 (-1)) 3 (-1)) 4 (-1)) 5 (-1)) 6 (-1)) 7 (-1)) 8 (-1)) 9 (-1)) 10 (-1)) 11 (-1)) 12 (-1)) 13 (-1))) (cwV 2 hts g9_L_group_17_0 rfl rfl rfl (by decide +kernel) ⟨Nat.le_of_ble_eq_true rfl, Nat.le_of_ble_eq_true rfl⟩) (mPreV (g := g) (wc := [(h0, .inr (12, [.ref h2, .int 0, .ref h3, .ref h4, .ref h5, .ref h6, .ref h7, .ref h8, .int (-1), .ref h9, .ref h10, .int 250, .ref h11, .int 0, .ref h12, .ref h13, .ref h14])), (h11, .inr (10, [.int 2, .int 7, .ref h15, .int 7])), (h15, .inl (g.2.1 0, 14, .inl (upd (upd (upd (upd (upd (upd (upd (upd (upd (upd (upd (upd (upd (upd (fun _ => 0) 0 (-1)) 1 (-1)) 2 (-1)) 3 (-1)) 4 (-1)) 5 (-1)) 6 (-1)) 7 (-1)) 8 (-1)) 9 (-1)) 10 (-1)) 11 (-1)) 12 (-1)) 13 (-1))))]) (C := RX11) (ci := 12) (q0 := 0) hE hS hPc hDc hFc rfl rfl) rfl rfl hl.1 rfl (lv_room (Nat.le_of_ble_eq_true rfl)) dL_group_5 ⟨Nat.le_of_ble_eq_true rfl, Nat.le_of_ble_eq_true rfl⟩) hS (fun q _ h => hFc q h) hFc (fun r_1 u t H1 locs ht hvm hw hB hz1 hk1 hS => ?_)
  replace hw : ((upd (upd (upd (upd (upd (upd (upd (upd (upd (upd (upd (upd (upd (upd (fun _ => 0) 0 (-1)) 1 (-1)) 2 (-1)) 3 (-1)) 4 (-1)) 5 (-1)) 6 (-1)) 7 (-1)) 8 (-1)) 9 (-1)) 10 (-1)) 11 (-1)) 12 (-1)) 13 (-1)) 8) = r_1 := Eq.symm hw
  subst hw
  obtain ⟨hP1, hD1⟩ := hB
  rw [ht] at hP1
  obtain ⟨hP, hD⟩ := va_join (wr := [(h1, .inl (g.2.1 2, 1, .inr (.inl (fun _ => 0))))]) (w1 := [(h0, .inr (12, [.ref h2, .int 0, .ref h3, .ref h4, .ref h5, .ref h6, .ref h7, .ref h8, .int (-1), .ref h9, .ref h10, .int 250, .ref h11, .int 0, .ref h12, .ref h13, .ref h14])), (h11, .inr (10, [.int 2, .int 7, .ref h15, .int 7])), (h15, .inl (g.2.1 0, 14, .inl (upd (upd (upd (upd (upd (upd (upd (upd (upd (upd (upd (upd (upd (upd (fun _ => 0) 0 (-1)) 1 (-1)) 2 (-1)) 3 (-1)) 4 (-1)) 5 (-1)) 6 (-1)) 7 (-1)) 8 (-1)) 9 (-1)) 10 (-1)) 11 (-1)) 12 (-1)) 13 (-1))))]) hP hD [0, 1, 2] [3] rfl rfl (by decide) (by decide) hk1 hFc hP1 hD1
  clear hP1 hD1 hPc hDc hFc hk1 hz1 hvm ht
  generalize H1 = H at hP hS ⊢
  have hP : va_P g.1 vwCl [(h1, .inl (g.2.1 2, 1, .inr (.inl (fun _ => 0)))), (h0, .inr (12, [.ref h2, .int 0, .ref h3, .ref h4, .ref h5, .ref h6, .ref h7, .ref h8, .int (-1), .ref h9, .ref h10, .int 250, .ref h11, .int 0, .ref h12, .ref h13, .ref h14])), (h11, .inr (10, [.int 2, .int 7, .ref h15, .int 7])), (h15, .inl (g.2.1 0, 14, .inl (upd (upd (upd (upd (upd (upd (upd (upd (upd (upd (upd (upd (upd (upd (fun _ => 0) 0 (-1)) 1 (-1)) 2 (-1)) 3 (-1)) 4 (-1)) 5 (-1)) 6 (-1)) 7 (-1)) 8 (-1)) 9 (-1)) 10 (-1)) 11 (-1)) 12 (-1)) 13 (-1))))] H := hP
  have hD : va_D A [(h1, .inl (g.2.1 2, 1, .inr (.inl (fun _ => 0)))), (h0, .inr (12, [.ref h2, .int 0, .ref h3, .ref h4, .ref h5, .ref h6, .ref h7, .ref h8, .int (-1), .ref h9, .ref h10, .int 250, .ref h11, .int 0, .ref h12, .ref h13, .ref h14])), (h11, .inr (10, [.int 2, .int 7, .ref h15, .int 7])), (h15, .inl (g.2.1 0, 14, .inl (upd (upd (upd (upd (upd (upd (upd (upd (upd (upd (upd (upd (upd (upd (fun _ => 0) 0 (-1)) 1 (-1)) 2 (-1)) 3 (-1)) 4 (-1)) 5 (-1)) 6 (-1)) 7 (-1)) 8 (-1)) 9 (-1)) 10 (-1)) 11 (-1)) 12 (-1)) 13 (-1))))] := hD
  refine e_top (y := (-1)) (by rfl) ?_
  refine lv_i2l (v := (-1)) hx hb dL_group_8 (by decide) ?_
  refine va_last hx hb hK hP hD hS 0 2 rfl rfl (vp_in_nI (n := 0) (by decide) (by decide)) dL_group_9 (fun H locs hP hD hS => ?_)
  have hP : va_P g.1 vwCl [(h1, .inl (g.2.1 2, 1, .inr (.inl (vp_updL (fun _ => 0) 0 (-1))))), (h0, .inr (12, [.ref h2, .int 0, .ref h3, .ref h4, .ref h5, .ref h6, .ref h7, .ref h8, .int (-1), .ref h9, .ref h10, .int 250, .ref h11, .int 0, .ref h12, .ref h13, .ref h14])), (h11, .inr (10, [.int 2, .int 7, .ref h15, .int 7])), (h15, .inl (g.2.1 0, 14, .inl (upd (upd (upd (upd (upd (upd (upd (upd (upd (upd (upd (upd (upd (upd (fun _ => 0) 0 (-1)) 1 (-1)) 2 (-1)) 3 (-1)) 4 (-1)) 5 (-1)) 6 (-1)) 7 (-1)) 8 (-1)) 9 (-1)) 10 (-1)) 11 (-1)) 12 (-1)) 13 (-1))))] H := hP
  have hD : va_D A [(h1, .inl (g.2.1 2, 1, .inr (.inl (vp_updL (fun _ => 0) 0 (-1))))), (h0, .inr (12, [.ref h2, .int 0, .ref h3, .ref h4, .ref h5, .ref h6, .ref h7, .ref h8, .int (-1), .ref h9, .ref h10, .int 250, .ref h11, .int 0, .ref h12, .ref h13, .ref h14])), (h11, .inr (10, [.int 2, .int 7, .ref h15, .int 7])), (h15, .inl (g.2.1 0, 14, .inl (upd (upd (upd (upd (upd (upd (upd (upd (upd (upd (upd (upd (upd (upd (fun _ => 0) 0 (-1)) 1 (-1)) 2 (-1)) 3 (-1)) 4 (-1)) 5 (-1)) 6 (-1)) 7 (-1)) 8 (-1)) 9 (-1)) 10 (-1)) 11 (-1)) 12 (-1)) 13 (-1))))] := hD
  refine lv_goto (tgt := 17) hx hb dL_group_10 (by decide) ?_
  refine lv_iconst (v := 0) hx hb dL_group_17 (by decide) ?_
  have hP9 := hP.sub (ws' := [(h0, .inr (12, [.ref h2, .int 0, .ref h3, .ref h4, .ref h5, .ref h6, .ref h7, .ref h8, .int (-1), .ref h9, .ref h10, .int 250, .ref h11, .int 0, .ref h12, .ref h13, .ref h14])), (h11, .inr (10, [.int 2, .int 7, .ref h15, .int 7])), (h15, .inl (g.2.1 0, 14, .inl (upd (upd (upd (upd (upd (upd (upd (upd (upd (upd (upd (upd (upd (upd (fun _ => 0) 0 (-1)) 1 (-1)) 2 (-1)) 3 (-1)) 4 (-1)) 5 (-1)) 6 (-1)) 7 (-1)) 8 (-1)) 9 (-1)) 10 (-1)) 11 (-1)) 12 (-1)) 13 (-1)))), (h1, .inl (g.2.1 2, 1, .inr (.inl (vp_updL (fun _ => 0) 0 (-1)))))]) [1, 2, 3, 0] rfl
  have hD9 := hD.sub (ws' := [(h0, .inr (12, [.ref h2, .int 0, .ref h3, .ref h4, .ref h5, .ref h6, .ref h7, .ref h8, .int (-1), .ref h9, .ref h10, .int 250, .ref h11, .int 0, .ref h12, .ref h13, .ref h14])), (h11, .inr (10, [.int 2, .int 7, .ref h15, .int 7])), (h15, .inl (g.2.1 0, 14, .inl (upd (upd (upd (upd (upd (upd (upd (upd (upd (upd (upd (upd (upd (upd (fun _ => 0) 0 (-1)) 1 (-1)) 2 (-1)) 3 (-1)) 4 (-1)) 5 (-1)) 6 (-1)) 7 (-1)) 8 (-1)) 9 (-1)) 10 (-1)) 11 (-1)) 12 (-1)) 13 (-1)))), (h1, .inl (g.2.1 2, 1, .inr (.inl (vp_updL (fun _ => 0) 0 (-1)))))]) [1, 2, 3, 0] (by decide) rfl
  subst hAe
  exact W.iret (v := 0) hx hb hr (fun t ht hW => ⟨⟨0, (), rfl, rfl, by rw [ht]; exact hP9, hD9⟩, hS.F ht⟩) hS.2.2 dL_group_18
def w9_X21_group_16 : List Cond := [.code yX21_group cX21_group 3 (some .int), .methodLink RX21 160 yX21_in, .static yX21_in, .initialized RX21, .code yX21_in cX21_in 3 (some .boolean), .methodLink RX21 154 yX21_refused, .instanceMethod yX21_refused, .selects RX21 yX21_refused yX21_refused, .code yX21_refused cX21_refused 2 (some .boolean), .fieldLink RX21 144 "RegexloomModel" "refusal" "I", .fieldLink RX21 107 "RegexloomModel" "told" "[I"] ++ (u_ws RX21 TX21 32)
set_option maxRecDepth 20000 in
theorem in9_X21_group_16_RX21 : ∀ w ∈ u_ws RX21 TX21 32, w ∈ w9_X21_group_16 := by decide +kernel
set_option maxRecDepth 20000 in
theorem g9_X21_group_16_0 : GoodIn w9_X21_group_16 (va_wsS RX21 160 yX21_in w9_X21_in_20) := goodIn_r _ [1, 2, 3, 4] (by decide +kernel) (by decide +kernel)
set_option maxRecDepth 20000 in
theorem g9_X21_group_16_1 : GoodIn w9_X21_group_16 (wsV RX21 154 RX21 yX21_refused w9_X21_refused_1) := goodIn_r _ [5, 6, 7, 3, 8, 9, 11, 12, 13, 14, 15, 16, 17, 18, 19, 20, 21, 22, 23, 24, 25, 26, 27, 28, 29, 30, 31, 32, 33, 34, 35, 36, 37, 38, 39, 40, 41, 42] (by decide +kernel) (by decide +kernel)
set_option maxHeartbeats 4000000 in
set_option maxRecDepth 100000 in
theorem c9_X21_group_16 (l : Launch) (g : G9) (h0 h1 h2 h3 h4 h5 h6 h7 h8 h9 h10 h11 h12 h13 h14 h15 h16 sz : Nat) (f0 : Nat → Int32) : Met l yX21_group w9_X21_group_16 ({ frames := 1, cells := 0, slots := 0, locals := 22 }) (mP g [(h0, .inr (22, [.int 0, .ref h1, .int 0, .ref h2, .int 0, .ref h3, .int 250, .ref h4, .int 0, .ref h5, .ref h6, .ref h7, .int 0, .ref h8, .ref h9, .ref h10, .int 0, .null, .int 0, .null, .int 0, .int 0, .int 0, .ref h11, .int 0, .ref h12, .ref h13, .ref h14, .int 0, .ref h15, .ref h16, .int 0])), (h7, .inl (g.2.1 0, 14, .inl f0))] sz [.ref h0, .int 4, .int 0]) (va_Qi (fun (r : Int32) (_ : Unit) => r = (f0 8)) (fun (_ : Unit) (t : State) => mB g [(h0, .inr (22, [.int 0, .ref h1, .int 0, .ref h2, .int 0, .ref h3, .int 250, .ref h4, .int 0, .ref h5, .ref h6, .ref h7, .int 0, .ref h8, .ref h9, .ref h10, .int 0, .null, .int 0, .null, .int 0, .int 0, .int 0, .ref h11, .int 0, .ref h12, .ref h13, .ref h14, .int 0, .ref h15, .ref h16, .int 0])), (h7, .inl (g.2.1 0, 14, .inl f0))] sz [(h0, .inr (22, [.int 0, .ref h1, .int 0, .ref h2, .int 0, .ref h3, .int 250, .ref h4, .int 0, .ref h5, .ref h6, .ref h7, .int 0, .ref h8, .ref h9, .ref h10, .int 0, .null, .int 0, .null, .int 0, .int 0, .int 0, .ref h11, .int 0, .ref h12, .ref h13, .ref h14, .int 0, .ref h15, .ref h16, .int 0])), (h7, .inl (g.2.1 0, 14, .inl f0))] t) (va_A [(h0, .inr (22, [.int 0, .ref h1, .int 0, .ref h2, .int 0, .ref h3, .int 250, .ref h4, .int 0, .ref h5, .ref h6, .ref h7, .int 0, .ref h8, .ref h9, .ref h10, .int 0, .null, .int 0, .null, .int 0, .int 0, .int 0, .ref h11, .int 0, .ref h12, .ref h13, .ref h14, .int 0, .ref h15, .ref h16, .int 0])), (h7, .inl (g.2.1 0, 14, .inl f0))] sz)) 0 0 (va_A [(h0, .inr (22, [.int 0, .ref h1, .int 0, .ref h2, .int 0, .ref h3, .int 250, .ref h4, .int 0, .ref h5, .ref h6, .ref h7, .int 0, .ref h8, .ref h9, .ref h10, .int 0, .null, .int 0, .null, .int 0, .int 0, .int 0, .ref h11, .int 0, .ref h12, .ref h13, .ref h14, .int 0, .ref h15, .ref h16, .int 0])), (h7, .inl (g.2.1 0, 14, .inl f0))] sz) := by
  refine Met.ofW (cc := cX21_group) (maxL := 3) (ret := (some .int)) (by decide) rfl ?_
  intro p e s m args below meth c s₁ B hml hv
  obtain ⟨rfl, hsz, hP, hD0, hE⟩ := hv
  have hx := B.exec
  have hb := B.bytes
  have hr := B.returns
  have hts := atoms_spec (ws := w9_X21_group_16) B.pre
  have hown : s.vm.findClass RX21 = some m.cls := findClass_of_methodNamed B.named
  have hlocks := B.notSynchronized
  subst hsz
  have hD := hD0.self (sz := s.heap.size)
  generalize hAe : va_A [(h0, .inr (22, [.int 0, .ref h1, .int 0, .ref h2, .int 0, .ref h3, .int 250, .ref h4, .int 0, .ref h5, .ref h6, .ref h7, .int 0, .ref h8, .ref h9, .ref h10, .int 0, .null, .int 0, .null, .int 0, .int 0, .int 0, .ref h11, .int 0, .ref h12, .ref h13, .ref h14, .int 0, .ref h15, .ref h16, .int 0])), (h7, .inl (g.2.1 0, 14, .inl f0))] s.heap.size = A at hD hE ⊢
  have hA : ∀ q : Nat, s.heap.size ≤ q → A q := fun q h => by rw [← hAe]; exact Or.inr h
  have hK := hE.1
  have hS : va_S A s.heap s.heap [] := va_S.rf
  replace hP : va_P g.1 vwCl [(h0, .inr (22, [.int 0, .ref h1, .int 0, .ref h2, .int 0, .ref h3, .int 250, .ref h4, .int 0, .ref h5, .ref h6, .ref h7, .int 0, .ref h8, .ref h9, .ref h10, .int 0, .null, .int 0, .null, .int 0, .int 0, .int 0, .ref h11, .int 0, .ref h12, .ref h13, .ref h14, .int 0, .ref h15, .ref h16, .int 0])), (h7, .inl (g.2.1 0, 14, .inl f0))] s.heap := hP
  have hl := lv_entry ([.ref h0, .int 4, .int 0]) (n := 3) (Nat.le_of_ble_eq_true rfl)
  rw [lg_entry_eq]
  generalize (lg_sl ([.ref h0, .int 4, .int 0]) ++ List.replicate (3 - (lg_sl ([.ref h0, .int 4, .int 0])).length) Slot.unset).toArray = ls at hl ⊢
  replace hl : lv_has ls 3 [(0, .ref h0), (1, .int 4), (2, .int 0)] := hl
  have hH0 : s.heap.size ≤ s.heap.size := Nat.le_refl _
  refine lv_aload_n hx hb dX21_group_0 rfl (lv_at hl 0 rfl) ?_
  refine lv_iload_n hx hb dX21_group_1 rfl (lv_at hl 1 rfl) ?_
  refine lv_iconst (v := 0) hx hb dX21_group_2 (by decide) ?_
  refine lv_bipush (v := 6) hx hb dX21_group_3 (by decide) ?_
  have hPc := hP.sub (ws' := []) [] rfl
  have hDc := hD.sub (ws' := []) [] (by decide) rfl
  have hFc := va_free (wc := []) hD hS hA [] rfl
  refine va_calli (va_runS (As := [.int 4, .int 0, .int 6]) (rest := [.ref h0]) ⟨hx, hb, hml, hown, hts⟩ (c9_X21_in_20 l g _) (va_cwS 3 hts g9_X21_group_16_0 rfl rfl rfl (by decide +kernel) ⟨Nat.le_of_ble_eq_true rfl, Nat.le_of_ble_eq_true rfl⟩) (mPreS (g := g) (wc := []) hE hS hPc hDc hFc) rfl rfl hl.1 rfl (lv_room (Nat.le_of_ble_eq_true rfl)) dX21_group_5 ⟨Nat.le_of_ble_eq_true rfl, Nat.le_of_ble_eq_true rfl⟩) hS (fun q _ h => hFc q h) hFc (fun r_1 u t H1 locs ht hvm hw hB hz1 hk1 hS => ?_)
  replace hw : 1 = r_1 := Eq.symm hw
  subst hw
  obtain ⟨hP1, hD1⟩ := hB
  rw [ht] at hP1
  obtain ⟨hP, hD⟩ := va_join (wr := [(h0, .inr (22, [.int 0, .ref h1, .int 0, .ref h2, .int 0, .ref h3, .int 250, .ref h4, .int 0, .ref h5, .ref h6, .ref h7, .int 0, .ref h8, .ref h9, .ref h10, .int 0, .null, .int 0, .null, .int 0, .int 0, .int 0, .ref h11, .int 0, .ref h12, .ref h13, .ref h14, .int 0, .ref h15, .ref h16, .int 0])), (h7, .inl (g.2.1 0, 14, .inl f0))]) (w1 := []) hP hD [] [0, 1] rfl rfl (by decide) (by decide) hk1 hFc hP1 hD1
  clear hP1 hD1 hPc hDc hFc hk1 hz1 hvm ht
  generalize H1 = H at hP hS ⊢
  have hP : va_P g.1 vwCl [(h0, .inr (22, [.int 0, .ref h1, .int 0, .ref h2, .int 0, .ref h3, .int 250, .ref h4, .int 0, .ref h5, .ref h6, .ref h7, .int 0, .ref h8, .ref h9, .ref h10, .int 0, .null, .int 0, .null, .int 0, .int 0, .int 0, .ref h11, .int 0, .ref h12, .ref h13, .ref h14, .int 0, .ref h15, .ref h16, .int 0])), (h7, .inl (g.2.1 0, 14, .inl f0))] H := hP
  have hD : va_D A [(h0, .inr (22, [.int 0, .ref h1, .int 0, .ref h2, .int 0, .ref h3, .int 250, .ref h4, .int 0, .ref h5, .ref h6, .ref h7, .int 0, .ref h8, .ref h9, .ref h10, .int 0, .null, .int 0, .null, .int 0, .int 0, .int 0, .ref h11, .int 0, .ref h12, .ref h13, .ref h14, .int 0, .ref h15, .ref h16, .int 0])), (h7, .inl (g.2.1 0, 14, .inl f0))] := hD
  refine lv_if_eq (tgt := 15) hx hb dX21_group_8 (by decide) (fun c9 => absurd c9 (by decide)) (fun _ => ?_)
  refine lv_iconst (v := 0) hx hb dX21_group_11 (by decide) ?_
  refine lv_goto (tgt := 16) hx hb dX21_group_12 (by decide) ?_
  have hPc := hP.sub (ws' := [(h0, .inr (22, [.int 0, .ref h1, .int 0, .ref h2, .int 0, .ref h3, .int 250, .ref h4, .int 0, .ref h5, .ref h6, .ref h7, .int 0, .ref h8, .ref h9, .ref h10, .int 0, .null, .int 0, .null, .int 0, .int 0, .int 0, .ref h11, .int 0, .ref h12, .ref h13, .ref h14, .int 0, .ref h15, .ref h16, .int 0]))]) [0] rfl
  have hDc := hD.sub (ws' := [(h0, .inr (22, [.int 0, .ref h1, .int 0, .ref h2, .int 0, .ref h3, .int 250, .ref h4, .int 0, .ref h5, .ref h6, .ref h7, .int 0, .ref h8, .ref h9, .ref h10, .int 0, .null, .int 0, .null, .int 0, .int 0, .int 0, .ref h11, .int 0, .ref h12, .ref h13, .ref h14, .int 0, .ref h15, .ref h16, .int 0]))]) [0] (by decide) rfl
  have hFc := va_free (wc := [(h0, .inr (22, [.int 0, .ref h1, .int 0, .ref h2, .int 0, .ref h3, .int 250, .ref h4, .int 0, .ref h5, .ref h6, .ref h7, .int 0, .ref h8, .ref h9, .ref h10, .int 0, .null, .int 0, .null, .int 0, .int 0, .int 0, .ref h11, .int 0, .ref h12, .ref h13, .ref h14, .int 0, .ref h15, .ref h16, .int 0]))]) hD hS hA [0] rfl
  refine va_calli (va_runV (As := [.int 0]) (rest := []) ⟨hx, hb, hml, hown, hts⟩ (c9_X21_refused_1 l g h0 h1 h2 h3 h4 h5 h6 h7 h8 h9 h10 h11 h12 h13 h14 h15 h16 _) (cwV 1 hts g9_X21_group_16_1 rfl rfl rfl (by decide +kernel) ⟨Nat.le_of_ble_eq_true rfl, Nat.le_of_ble_eq_true rfl⟩) (mPreV (g := g) (wc := [(h0, .inr (22, [.int 0, .ref h1, .int 0, .ref h2, .int 0, .ref h3, .int 250, .ref h4, .int 0, .ref h5, .ref h6, .ref h7, .int 0, .ref h8, .ref h9, .ref h10, .int 0, .null, .int 0, .null, .int 0, .int 0, .int 0, .ref h11, .int 0, .ref h12, .ref h13, .ref h14, .int 0, .ref h15, .ref h16, .int 0]))]) (C := RX21) (ci := 22) (q0 := 0) hE hS hPc hDc hFc rfl rfl) rfl rfl hl.1 rfl (lv_room (Nat.le_of_ble_eq_true rfl)) dX21_group_16 ⟨Nat.le_of_ble_eq_true rfl, Nat.le_of_ble_eq_true rfl⟩) hS (fun q _ h => hFc q h) hFc (fun r_2 u t H1 locs ht hvm hw hB hz1 hk1 hS => ?_)
  replace hw : 0 = r_2 := Eq.symm hw
  subst hw
  obtain ⟨hP1, hD1⟩ := hB
  rw [ht] at hP1
  obtain ⟨hP, hD⟩ := va_join (wr := [(h7, .inl (g.2.1 0, 14, .inl f0))]) (w1 := [(h0, .inr (22, [.int 0, .ref h1, .int 0, .ref h2, .int 0, .ref h3, .int 250, .ref h4, .int 0, .ref h5, .ref h6, .ref h7, .int 0, .ref h8, .ref h9, .ref h10, .int 0, .null, .int 0, .null, .int 0, .int 0, .int 0, .ref h11, .int 0, .ref h12, .ref h13, .ref h14, .int 0, .ref h15, .ref h16, .int 0]))]) hP hD [0] [1] rfl rfl (by decide) (by decide) hk1 hFc hP1 hD1
  clear hP1 hD1 hPc hDc hFc hk1 hz1 hvm ht
  generalize H1 = H at hP hS ⊢
  have hP : va_P g.1 vwCl [(h7, .inl (g.2.1 0, 14, .inl f0)), (h0, .inr (22, [.int 0, .ref h1, .int 0, .ref h2, .int 0, .ref h3, .int 250, .ref h4, .int 0, .ref h5, .ref h6, .ref h7, .int 0, .ref h8, .ref h9, .ref h10, .int 0, .null, .int 0, .null, .int 0, .int 0, .int 0, .ref h11, .int 0, .ref h12, .ref h13, .ref h14, .int 0, .ref h15, .ref h16, .int 0]))] H := hP
  have hD : va_D A [(h7, .inl (g.2.1 0, 14, .inl f0)), (h0, .inr (22, [.int 0, .ref h1, .int 0, .ref h2, .int 0, .ref h3, .int 250, .ref h4, .int 0, .ref h5, .ref h6, .ref h7, .int 0, .ref h8, .ref h9, .ref h10, .int 0, .null, .int 0, .null, .int 0, .int 0, .int 0, .ref h11, .int 0, .ref h12, .ref h13, .ref h14, .int 0, .ref h15, .ref h16, .int 0]))] := hD
  refine lv_if_eq (tgt := 26) hx hb dX21_group_19 (by decide) (fun _ => ?_) (fun c9 => absurd (by decide) c9)
  refine lv_aload_n hx hb dX21_group_26 rfl (lv_at hl 0 rfl) ?_
  refine va_get (D := g.1) (ci := 22) (v := .ref h7) (C := RX21) (T := TX21) (N := 32) hx hb hts in9_X21_group_16_RX21 hown hK hP 1 rfl rfl 11 (by decide) (hts (.fieldLink RX21 107 "RegexloomModel" "told" "[I") (List.mem_of_getElem? (i := 10) rfl)) (fun _ h9 => h9) rfl dX21_group_27 ?_
  refine lv_iconst (v := 2) hx hb dX21_group_30 (by decide) ?_
  refine lv_iload_n hx hb dX21_group_31 rfl (lv_at hl 1 rfl) ?_
  refine lv_imul hx hb dX21_group_32 ?_
  refine e_top (y := 8) (by decide) ?_
  refine lv_iload_n hx hb dX21_group_33 rfl (lv_at hl 2 rfl) ?_
  refine lv_if_eq (tgt := 41) hx hb dX21_group_34 (by decide) (fun _ => ?_) (fun c9 => absurd (by decide) c9)
  refine lv_iconst (v := 0) hx hb dX21_group_41 (by decide) ?_
  refine lv_iadd hx hb dX21_group_42 ?_
  refine e_top (y := 8) (by decide) ?_
  refine va_iald hx hb hK hP 0 0 rfl rfl (vp_in_nI (n := 8) (by decide) (by decide)) dX21_group_43 ?_
  refine e_topv (y := .int (f0 8)) (by rfl) ?_
  have hP9 := hP.sub (ws' := [(h0, .inr (22, [.int 0, .ref h1, .int 0, .ref h2, .int 0, .ref h3, .int 250, .ref h4, .int 0, .ref h5, .ref h6, .ref h7, .int 0, .ref h8, .ref h9, .ref h10, .int 0, .null, .int 0, .null, .int 0, .int 0, .int 0, .ref h11, .int 0, .ref h12, .ref h13, .ref h14, .int 0, .ref h15, .ref h16, .int 0])), (h7, .inl (g.2.1 0, 14, .inl f0))]) [1, 0] rfl
  have hD9 := hD.sub (ws' := [(h0, .inr (22, [.int 0, .ref h1, .int 0, .ref h2, .int 0, .ref h3, .int 250, .ref h4, .int 0, .ref h5, .ref h6, .ref h7, .int 0, .ref h8, .ref h9, .ref h10, .int 0, .null, .int 0, .null, .int 0, .int 0, .int 0, .ref h11, .int 0, .ref h12, .ref h13, .ref h14, .int 0, .ref h15, .ref h16, .int 0])), (h7, .inl (g.2.1 0, 14, .inl f0))]) [1, 0] (by decide) rfl
  subst hAe
  exact W.iret (v := (f0 8)) hx hb hr (fun t ht hW => ⟨⟨(f0 8), (), rfl, rfl, by rw [ht]; exact hP9, hD9⟩, hS.F ht⟩) hS.2.2 dX21_group_44
def w9_X9_get_15 : List Cond := [.code yX9_get cX9_get 3 (some .int), .fieldLink RX9 28 "Regexloom$Table" "size" "I", .fieldLink RX9 9 "Regexloom$Table" "width" "I", .fieldLink RX9 24 "Regexloom$Table" "cells" "[I"] ++ (u_ws RX9 TX9 4)
set_option maxRecDepth 20000 in
theorem in9_X9_get_15_RX9 : ∀ w ∈ u_ws RX9 TX9 4, w ∈ w9_X9_get_15 := by decide +kernel
set_option maxHeartbeats 4000000 in
set_option maxRecDepth 100000 in
theorem c9_X9_get_15 (l : Launch) (g : G9) (h0 h1 sz : Nat) (f0 : Nat → Int32) : Met l yX9_get w9_X9_get_15 ({ frames := 0, cells := 0, slots := 0, locals := 0 }) (mP g [(h0, .inr (10, [.int 2, .int 7, .ref h1, .int 7])), (h1, .inl (g.2.1 0, 14, .inl f0))] sz [.ref h0, .int 5, .int 0]) (va_Qi (fun (r : Int32) (_ : Unit) => r = (f0 10)) (fun (_ : Unit) (t : State) => mB g [(h0, .inr (10, [.int 2, .int 7, .ref h1, .int 7])), (h1, .inl (g.2.1 0, 14, .inl f0))] sz [(h0, .inr (10, [.int 2, .int 7, .ref h1, .int 7])), (h1, .inl (g.2.1 0, 14, .inl f0))] t) (va_A [(h0, .inr (10, [.int 2, .int 7, .ref h1, .int 7])), (h1, .inl (g.2.1 0, 14, .inl f0))] sz)) 0 0 (va_A [(h0, .inr (10, [.int 2, .int 7, .ref h1, .int 7])), (h1, .inl (g.2.1 0, 14, .inl f0))] sz) := by
  refine Met.ofW (cc := cX9_get) (maxL := 3) (ret := (some .int)) (by decide) rfl ?_
  intro p e s m args below meth c s₁ B hml hv
  obtain ⟨rfl, hsz, hP, hD0, hE⟩ := hv
  have hx := B.exec
  have hb := B.bytes
  have hr := B.returns
  have hts := atoms_spec (ws := w9_X9_get_15) B.pre
  have hown : s.vm.findClass RX9 = some m.cls := findClass_of_methodNamed B.named
  have hlocks := B.notSynchronized
  subst hsz
  have hD := hD0.self (sz := s.heap.size)
  generalize hAe : va_A [(h0, .inr (10, [.int 2, .int 7, .ref h1, .int 7])), (h1, .inl (g.2.1 0, 14, .inl f0))] s.heap.size = A at hD hE ⊢
  have hA : ∀ q : Nat, s.heap.size ≤ q → A q := fun q h => by rw [← hAe]; exact Or.inr h
  have hK := hE.1
  have hS : va_S A s.heap s.heap [] := va_S.rf
  replace hP : va_P g.1 vwCl [(h0, .inr (10, [.int 2, .int 7, .ref h1, .int 7])), (h1, .inl (g.2.1 0, 14, .inl f0))] s.heap := hP
  have hl := lv_entry ([.ref h0, .int 5, .int 0]) (n := 3) (Nat.le_of_ble_eq_true rfl)
  rw [lg_entry_eq]
  generalize (lg_sl ([.ref h0, .int 5, .int 0]) ++ List.replicate (3 - (lg_sl ([.ref h0, .int 5, .int 0])).length) Slot.unset).toArray = ls at hl ⊢
  replace hl : lv_has ls 3 [(0, .ref h0), (1, .int 5), (2, .int 0)] := hl
  have hH0 : s.heap.size ≤ s.heap.size := Nat.le_refl _
  refine lv_iload_n hx hb dX9_get_0 rfl (lv_at hl 1 rfl) ?_
  refine lv_if_lt (tgt := 24) hx hb dX9_get_1 (by decide) (fun c9 => absurd c9 (by decide)) (fun _ => ?_)
  refine lv_iload_n hx hb dX9_get_4 rfl (lv_at hl 1 rfl) ?_
  refine lv_aload_n hx hb dX9_get_5 rfl (lv_at hl 0 rfl) ?_
  refine va_get (D := g.1) (ci := 10) (v := .int 7) (C := RX9) (T := TX9) (N := 4) hx hb hts in9_X9_get_15_RX9 hown hK hP 0 rfl rfl 3 (by decide) (hts (.fieldLink RX9 28 "Regexloom$Table" "size" "I") (List.mem_of_getElem? (i := 1) rfl)) (fun _ h9 => h9) rfl dX9_get_6 ?_
  refine lv_icmp_ge (tgt := 24) hx hb dX9_get_9 (by decide) (fun c9 => absurd c9 (by decide)) (fun _ => ?_)
  refine lv_iload_n hx hb dX9_get_12 rfl (lv_at hl 2 rfl) ?_
  refine lv_if_lt (tgt := 24) hx hb dX9_get_13 (by decide) (fun c9 => absurd c9 (by decide)) (fun _ => ?_)
  refine lv_iload_n hx hb dX9_get_16 rfl (lv_at hl 2 rfl) ?_
  refine lv_aload_n hx hb dX9_get_17 rfl (lv_at hl 0 rfl) ?_
  refine va_get (D := g.1) (ci := 10) (v := .int 2) (C := RX9) (T := TX9) (N := 4) hx hb hts in9_X9_get_15_RX9 hown hK hP 0 rfl rfl 0 (by decide) (hts (.fieldLink RX9 9 "Regexloom$Table" "width" "I") (List.mem_of_getElem? (i := 2) rfl)) (fun _ h9 => h9) rfl dX9_get_18 ?_
  refine lv_icmp_lt (tgt := 26) hx hb dX9_get_21 (by decide) (fun _ => ?_) (fun c9 => absurd (by decide) c9)
  refine lv_aload_n hx hb dX9_get_26 rfl (lv_at hl 0 rfl) ?_
  refine va_get (D := g.1) (ci := 10) (v := .ref h1) (C := RX9) (T := TX9) (N := 4) hx hb hts in9_X9_get_15_RX9 hown hK hP 0 rfl rfl 2 (by decide) (hts (.fieldLink RX9 24 "Regexloom$Table" "cells" "[I") (List.mem_of_getElem? (i := 3) rfl)) (fun _ h9 => h9) rfl dX9_get_27 ?_
  refine lv_iload_n hx hb dX9_get_30 rfl (lv_at hl 1 rfl) ?_
  refine lv_aload_n hx hb dX9_get_31 rfl (lv_at hl 0 rfl) ?_
  refine va_get (D := g.1) (ci := 10) (v := .int 2) (C := RX9) (T := TX9) (N := 4) hx hb hts in9_X9_get_15_RX9 hown hK hP 0 rfl rfl 0 (by decide) (hts (.fieldLink RX9 9 "Regexloom$Table" "width" "I") (List.mem_of_getElem? (i := 2) rfl)) (fun _ h9 => h9) rfl dX9_get_32 ?_
  refine lv_imul hx hb dX9_get_35 ?_
  refine e_top (y := 10) (by decide) ?_
  refine lv_iload_n hx hb dX9_get_36 rfl (lv_at hl 2 rfl) ?_
  refine lv_iadd hx hb dX9_get_37 ?_
  refine e_top (y := 10) (by decide) ?_
  refine va_iald hx hb hK hP 1 0 rfl rfl (vp_in_nI (n := 10) (by decide) (by decide)) dX9_get_38 ?_
  refine e_topv (y := .int (f0 10)) (by rfl) ?_
  have hP9 := hP.sub (ws' := [(h0, .inr (10, [.int 2, .int 7, .ref h1, .int 7])), (h1, .inl (g.2.1 0, 14, .inl f0))]) [0, 1] rfl
  have hD9 := hD.sub (ws' := [(h0, .inr (10, [.int 2, .int 7, .ref h1, .int 7])), (h1, .inl (g.2.1 0, 14, .inl f0))]) [0, 1] (by decide) rfl
  subst hAe
  exact W.iret (v := (f0 10)) hx hb hr (fun t ht hW => ⟨⟨(f0 10), (), rfl, rfl, by rw [ht]; exact hP9, hD9⟩, hS.F ht⟩) hS.2.2 dX9_get_39
def w9_X11_group_17 : List Cond := [.code yX11_group cX11_group 3 (some .int), .fieldLink RX11 78 "Regexloom" "bounds" "LRegexloom$Table;", .methodLink RX11 225 yX9_get, .instanceMethod yX9_get, .selects RX9 yX9_get yX9_get, .initialized RX9, .code yX9_get cX9_get 3 (some .int), .fieldLink RX9 28 "Regexloom$Table" "size" "I", .fieldLink RX9 9 "Regexloom$Table" "width" "I", .fieldLink RX9 24 "Regexloom$Table" "cells" "[I"] ++ (u_ws RX11 TX11 17 ++ u_ws RX9 TX9 4)
set_option maxRecDepth 20000 in
theorem in9_X11_group_17_RX11 : ∀ w ∈ u_ws RX11 TX11 17, w ∈ w9_X11_group_17 := by decide +kernel
set_option maxRecDepth 20000 in
theorem in9_X11_group_17_RX9 : ∀ w ∈ u_ws RX9 TX9 4, w ∈ w9_X11_group_17 := by decide +kernel
set_option maxRecDepth 20000 in
theorem g9_X11_group_17_0 : GoodIn w9_X11_group_17 (wsV RX11 225 RX9 yX9_get w9_X9_get_15) := goodIn_r _ [2, 3, 4, 5, 6, 7, 8, 9, 27, 28, 29, 30] (by decide +kernel) (by decide +kernel)
set_option maxHeartbeats 4000000 in
set_option maxRecDepth 100000 in
theorem c9_X11_group_17 (l : Launch) (g : G9) (h0 h1 h2 h3 h4 h5 h6 h7 h8 h9 h10 h11 h12 h13 h14 sz : Nat) (f0 : Nat → Int32) : Met l yX11_group w9_X11_group_17 ({ frames := 1, cells := 0, slots := 0, locals := 22 }) (mP g [(h0, .inr (12, [.ref h1, .int 0, .ref h2, .ref h3, .ref h4, .ref h5, .ref h6, .ref h7, .int (-1), .ref h8, .ref h9, .int 250, .ref h10, .int 0, .ref h11, .ref h12, .ref h13])), (h10, .inr (10, [.int 2, .int 7, .ref h14, .int 7])), (h14, .inl (g.2.1 0, 14, .inl f0))] sz [.ref h0, .int 5, .int 0]) (va_Qi (fun (r : Int32) (_ : Unit) => r = (f0 10)) (fun (_ : Unit) (t : State) => mB g [(h0, .inr (12, [.ref h1, .int 0, .ref h2, .ref h3, .ref h4, .ref h5, .ref h6, .ref h7, .int (-1), .ref h8, .ref h9, .int 250, .ref h10, .int 0, .ref h11, .ref h12, .ref h13])), (h10, .inr (10, [.int 2, .int 7, .ref h14, .int 7])), (h14, .inl (g.2.1 0, 14, .inl f0))] sz [(h0, .inr (12, [.ref h1, .int 0, .ref h2, .ref h3, .ref h4, .ref h5, .ref h6, .ref h7, .int (-1), .ref h8, .ref h9, .int 250, .ref h10, .int 0, .ref h11, .ref h12, .ref h13])), (h10, .inr (10, [.int 2, .int 7, .ref h14, .int 7])), (h14, .inl (g.2.1 0, 14, .inl f0))] t) (va_A [(h0, .inr (12, [.ref h1, .int 0, .ref h2, .ref h3, .ref h4, .ref h5, .ref h6, .ref h7, .int (-1), .ref h8, .ref h9, .int 250, .ref h10, .int 0, .ref h11, .ref h12, .ref h13])), (h10, .inr (10, [.int 2, .int 7, .ref h14, .int 7])), (h14, .inl (g.2.1 0, 14, .inl f0))] sz)) 0 0 (va_A [(h0, .inr (12, [.ref h1, .int 0, .ref h2, .ref h3, .ref h4, .ref h5, .ref h6, .ref h7, .int (-1), .ref h8, .ref h9, .int 250, .ref h10, .int 0, .ref h11, .ref h12, .ref h13])), (h10, .inr (10, [.int 2, .int 7, .ref h14, .int 7])), (h14, .inl (g.2.1 0, 14, .inl f0))] sz) := by
  refine Met.ofW (cc := cX11_group) (maxL := 3) (ret := (some .int)) (by decide) rfl ?_
  intro p e s m args below meth c s₁ B hml hv
  obtain ⟨rfl, hsz, hP, hD0, hE⟩ := hv
  have hx := B.exec
  have hb := B.bytes
  have hr := B.returns
  have hts := atoms_spec (ws := w9_X11_group_17) B.pre
  have hown : s.vm.findClass RX11 = some m.cls := findClass_of_methodNamed B.named
  have hlocks := B.notSynchronized
  subst hsz
  have hD := hD0.self (sz := s.heap.size)
  generalize hAe : va_A [(h0, .inr (12, [.ref h1, .int 0, .ref h2, .ref h3, .ref h4, .ref h5, .ref h6, .ref h7, .int (-1), .ref h8, .ref h9, .int 250, .ref h10, .int 0, .ref h11, .ref h12, .ref h13])), (h10, .inr (10, [.int 2, .int 7, .ref h14, .int 7])), (h14, .inl (g.2.1 0, 14, .inl f0))] s.heap.size = A at hD hE ⊢
  have hA : ∀ q : Nat, s.heap.size ≤ q → A q := fun q h => by rw [← hAe]; exact Or.inr h
  have hK := hE.1
  have hS : va_S A s.heap s.heap [] := va_S.rf
  replace hP : va_P g.1 vwCl [(h0, .inr (12, [.ref h1, .int 0, .ref h2, .ref h3, .ref h4, .ref h5, .ref h6, .ref h7, .int (-1), .ref h8, .ref h9, .int 250, .ref h10, .int 0, .ref h11, .ref h12, .ref h13])), (h10, .inr (10, [.int 2, .int 7, .ref h14, .int 7])), (h14, .inl (g.2.1 0, 14, .inl f0))] s.heap := hP
  have hl := lv_entry ([.ref h0, .int 5, .int 0]) (n := 3) (Nat.le_of_ble_eq_true rfl)
  rw [lg_entry_eq]
  generalize (lg_sl ([.ref h0, .int 5, .int 0]) ++ List.replicate (3 - (lg_sl ([.ref h0, .int 5, .int 0])).length) Slot.unset).toArray = ls at hl ⊢
  replace hl : lv_has ls 3 [(0, .ref h0), (1, .int 5), (2, .int 0)] := hl
  have hH0 : s.heap.size ≤ s.heap.size := Nat.le_refl _
  refine lv_iload_n hx hb dX11_group_0 rfl (lv_at hl 1 rfl) ?_
  refine lv_if_lt (tgt := 10) hx hb dX11_group_1 (by decide) (fun c9 => absurd c9 (by decide)) (fun _ => ?_)
  refine lv_iload_n hx hb dX11_group_4 rfl (lv_at hl 1 rfl) ?_
  refine lv_bipush (v := 6) hx hb dX11_group_5 (by decide) ?_
  refine lv_icmp_le (tgt := 20) hx hb dX11_group_7 (by decide) (fun _ => ?_) (fun c9 => absurd (by decide) c9)
  refine lv_aload_n hx hb dX11_group_20 rfl (lv_at hl 0 rfl) ?_
  refine va_get (D := g.1) (ci := 12) (v := .ref h10) (C := RX11) (T := TX11) (N := 17) hx hb hts in9_X11_group_17_RX11 hown hK hP 0 rfl rfl 12 (by decide) (hts (.fieldLink RX11 78 "Regexloom" "bounds" "LRegexloom$Table;") (List.mem_of_getElem? (i := 1) rfl)) (fun _ h9 => h9) rfl dX11_group_21 ?_
  refine lv_iload_n hx hb dX11_group_24 rfl (lv_at hl 1 rfl) ?_
  refine lv_iload_n hx hb dX11_group_25 rfl (lv_at hl 2 rfl) ?_
  refine lv_if_eq (tgt := 33) hx hb dX11_group_26 (by decide) (fun _ => ?_) (fun c9 => absurd (by decide) c9)
  refine lv_iconst (v := 0) hx hb dX11_group_33 (by decide) ?_
  have hPc := hP.sub (ws' := [(h10, .inr (10, [.int 2, .int 7, .ref h14, .int 7])), (h14, .inl (g.2.1 0, 14, .inl f0))]) [1, 2] rfl
  have hDc := hD.sub (ws' := [(h10, .inr (10, [.int 2, .int 7, .ref h14, .int 7])), (h14, .inl (g.2.1 0, 14, .inl f0))]) [1, 2] (by decide) rfl
  have hFc := va_free (wc := [(h10, .inr (10, [.int 2, .int 7, .ref h14, .int 7])), (h14, .inl (g.2.1 0, 14, .inl f0))]) hD hS hA [1, 2] rfl
  refine va_calli (va_runV (As := [.int 5, .int 0]) (rest := []) ⟨hx, hb, hml, hown, hts⟩ (c9_X9_get_15 l g h10 h14 _ f0) (cwV 2 hts g9_X11_group_17_0 rfl rfl rfl (by decide +kernel) ⟨Nat.le_of_ble_eq_true rfl, Nat.le_of_ble_eq_true rfl⟩) (mPreV (g := g) (wc := [(h10, .inr (10, [.int 2, .int 7, .ref h14, .int 7])), (h14, .inl (g.2.1 0, 14, .inl f0))]) (C := RX9) (ci := 10) (q0 := 0) hE hS hPc hDc hFc rfl rfl) rfl rfl hl.1 rfl (lv_room (Nat.le_of_ble_eq_true rfl)) dX11_group_34 ⟨Nat.le_of_ble_eq_true rfl, Nat.le_of_ble_eq_true rfl⟩) hS (fun q _ h => hFc q h) hFc (fun r_1 u t H1 locs ht hvm hw hB hz1 hk1 hS => ?_)
  replace hw : (f0 10) = r_1 := Eq.symm hw
  subst hw
  obtain ⟨hP1, hD1⟩ := hB
  rw [ht] at hP1
  obtain ⟨hP, hD⟩ := va_join (wr := [(h0, .inr (12, [.ref h1, .int 0, .ref h2, .ref h3, .ref h4, .ref h5, .ref h6, .ref h7, .int (-1), .ref h8, .ref h9, .int 250, .ref h10, .int 0, .ref h11, .ref h12, .ref h13]))]) (w1 := [(h10, .inr (10, [.int 2, .int 7, .ref h14, .int 7])), (h14, .inl (g.2.1 0, 14, .inl f0))]) hP hD [1, 2] [0] rfl rfl (by decide) (by decide) hk1 hFc hP1 hD1
  clear hP1 hD1 hPc hDc hFc hk1 hz1 hvm ht
  generalize H1 = H at hP hS ⊢
  have hP : va_P g.1 vwCl [(h0, .inr (12, [.ref h1, .int 0, .ref h2, .ref h3, .ref h4, .ref h5, .ref h6, .ref h7, .int (-1), .ref h8, .ref h9, .int 250, .ref h10, .int 0, .ref h11, .ref h12, .ref h13])), (h10, .inr (10, [.int 2, .int 7, .ref h14, .int 7])), (h14, .inl (g.2.1 0, 14, .inl f0))] H := hP
  have hD : va_D A [(h0, .inr (12, [.ref h1, .int 0, .ref h2, .ref h3, .ref h4, .ref h5, .ref h6, .ref h7, .int (-1), .ref h8, .ref h9, .int 250, .ref h10, .int 0, .ref h11, .ref h12, .ref h13])), (h10, .inr (10, [.int 2, .int 7, .ref h14, .int 7])), (h14, .inl (g.2.1 0, 14, .inl f0))] := hD
  refine e_top (y := (f0 10)) (by rfl) ?_
  have hP9 := hP.sub (ws' := [(h0, .inr (12, [.ref h1, .int 0, .ref h2, .ref h3, .ref h4, .ref h5, .ref h6, .ref h7, .int (-1), .ref h8, .ref h9, .int 250, .ref h10, .int 0, .ref h11, .ref h12, .ref h13])), (h10, .inr (10, [.int 2, .int 7, .ref h14, .int 7])), (h14, .inl (g.2.1 0, 14, .inl f0))]) [0, 1, 2] rfl
  have hD9 := hD.sub (ws' := [(h0, .inr (12, [.ref h1, .int 0, .ref h2, .ref h3, .ref h4, .ref h5, .ref h6, .ref h7, .int (-1), .ref h8, .ref h9, .int 250, .ref h10, .int 0, .ref h11, .ref h12, .ref h13])), (h10, .inr (10, [.int 2, .int 7, .ref h14, .int 7])), (h14, .inl (g.2.1 0, 14, .inl f0))]) [0, 1, 2] (by decide) rfl
  subst hAe
  exact W.iret (v := (f0 10)) hx hb hr (fun t ht hW => ⟨⟨(f0 10), (), rfl, rfl, by rw [ht]; exact hP9, hD9⟩, hS.F ht⟩) hS.2.2 dX11_group_37
def w9_L_group_18 : List Cond := [.codeWith yL_group cL_group 5 (some .int) [(0, 10, 13, 21)], .methodLink RL 47 yX11_group, .instanceMethod yX11_group, .selects RX11 yX11_group yX11_group, .initialized RX11, .code yX11_group cX11_group 3 (some .int), .fieldLink RX11 78 "Regexloom" "bounds" "LRegexloom$Table;", .methodLink RX11 225 yX9_get, .instanceMethod yX9_get, .selects RX9 yX9_get yX9_get, .initialized RX9, .code yX9_get cX9_get 3 (some .int), .fieldLink RX9 28 "Regexloom$Table" "size" "I", .fieldLink RX9 9 "Regexloom$Table" "width" "I", .fieldLink RX9 24 "Regexloom$Table" "cells" "[I"] ++ (u_ws RX11 TX11 17 ++ u_ws RX9 TX9 4)
set_option maxRecDepth 20000 in
theorem in9_L_group_18_RX11 : ∀ w ∈ u_ws RX11 TX11 17, w ∈ w9_L_group_18 := by decide +kernel
set_option maxRecDepth 20000 in
theorem in9_L_group_18_RX9 : ∀ w ∈ u_ws RX9 TX9 4, w ∈ w9_L_group_18 := by decide +kernel
set_option maxRecDepth 20000 in
theorem g9_L_group_18_0 : GoodIn w9_L_group_18 (wsV RL 47 RX11 yX11_group w9_X11_group_17) := goodIn_r _ [1, 2, 3, 4, 5, 6, 7, 8, 9, 10, 11, 12, 13, 14, 15, 16, 17, 18, 19, 20, 21, 22, 23, 24, 25, 26, 27, 28, 29, 30, 31, 32, 33, 34, 35] (by decide +kernel) (by decide +kernel)
set_option maxHeartbeats 4000000 in
set_option maxRecDepth 100000 in
theorem c9_L_group_18 (l : Launch) (g : G9) (h0 h1 h2 h3 h4 h5 h6 h7 h8 h9 h10 h11 h12 h13 h14 h15 sz : Nat) : Met l yL_group w9_L_group_18 ({ frames := 2, cells := 0, slots := 0, locals := 44 }) (mP g [(h0, .inr (12, [.ref h2, .int 0, .ref h3, .ref h4, .ref h5, .ref h6, .ref h7, .ref h8, .int (-1), .ref h9, .ref h10, .int 250, .ref h11, .int 0, .ref h12, .ref h13, .ref h14])), (h11, .inr (10, [.int 2, .int 7, .ref h15, .int 7])), (h15, .inl (g.2.1 0, 14, .inl (upd (upd (upd (upd (upd (upd (upd (upd (upd (upd (upd (upd (upd (upd (fun _ => 0) 0 (-1)) 1 (-1)) 2 (-1)) 3 (-1)) 4 (-1)) 5 (-1)) 6 (-1)) 7 (-1)) 8 (-1)) 9 (-1)) 10 (-1)) 11 (-1)) 12 (-1)) 13 (-1)))), (h1, .inl (g.2.1 2, 1, .inr (.inl (fun _ => 0))))] sz [.ref h0, .int 5, .int 0, .ref h1]) (va_Qi (fun (r : Int32) (_ : Unit) => r = 0) (fun (_ : Unit) (t : State) => mB g [(h0, .inr (12, [.ref h2, .int 0, .ref h3, .ref h4, .ref h5, .ref h6, .ref h7, .ref h8, .int (-1), .ref h9, .ref h10, .int 250, .ref h11, .int 0, .ref h12, .ref h13, .ref h14])), (h11, .inr (10, [.int 2, .int 7, .ref h15, .int 7])), (h15, .inl (g.2.1 0, 14, .inl (upd (upd (upd (upd (upd (upd (upd (upd (upd (upd (upd (upd (upd (upd (fun _ => 0) 0 (-1)) 1 (-1)) 2 (-1)) 3 (-1)) 4 (-1)) 5 (-1)) 6 (-1)) 7 (-1)) 8 (-1)) 9 (-1)) 10 (-1)) 11 (-1)) 12 (-1)) 13 (-1)))), (h1, .inl (g.2.1 2, 1, .inr (.inl (fun _ => 0))))] sz [(h0, .inr (12, [.ref h2, .int 0, .ref h3, .ref h4, .ref h5, .ref h6, .ref h7, .ref h8, .int (-1), .ref h9, .ref h10, .int 250, .ref h11, .int 0, .ref h12, .ref h13, .ref h14])), (h11, .inr (10, [.int 2, .int 7, .ref h15, .int 7])), (h15, .inl (g.2.1 0, 14, .inl (upd (upd (upd (upd (upd (upd (upd (upd (upd (upd (upd (upd (upd (upd (fun _ => 0) 0 (-1)) 1 (-1)) 2 (-1)) 3 (-1)) 4 (-1)) 5 (-1)) 6 (-1)) 7 (-1)) 8 (-1)) 9 (-1)) 10 (-1)) 11 (-1)) 12 (-1)) 13 (-1)))), (h1, .inl (g.2.1 2, 1, .inr (.inl (vp_updL (fun _ => 0) 0 (-1)))))] t) (va_A [(h0, .inr (12, [.ref h2, .int 0, .ref h3, .ref h4, .ref h5, .ref h6, .ref h7, .ref h8, .int (-1), .ref h9, .ref h10, .int 250, .ref h11, .int 0, .ref h12, .ref h13, .ref h14])), (h11, .inr (10, [.int 2, .int 7, .ref h15, .int 7])), (h15, .inl (g.2.1 0, 14, .inl (upd (upd (upd (upd (upd (upd (upd (upd (upd (upd (upd (upd (upd (upd (fun _ => 0) 0 (-1)) 1 (-1)) 2 (-1)) 3 (-1)) 4 (-1)) 5 (-1)) 6 (-1)) 7 (-1)) 8 (-1)) 9 (-1)) 10 (-1)) 11 (-1)) 12 (-1)) 13 (-1)))), (h1, .inl (g.2.1 2, 1, .inr (.inl (fun _ => 0))))] sz)) 0 0 (va_A [(h0, .inr (12, [.ref h2, .int 0, .ref h3, .ref h4, .ref h5, .ref h6, .ref h7, .ref h8, .int (-1), .ref h9, .ref h10, .int 250, .ref h11, .int 0, .ref h12, .ref h13, .ref h14])), (h11, .inr (10, [.int 2, .int 7, .ref h15, .int 7])), (h15, .inl (g.2.1 0, 14, .inl (upd (upd (upd (upd (upd (upd (upd (upd (upd (upd (upd (upd (upd (upd (fun _ => 0) 0 (-1)) 1 (-1)) 2 (-1)) 3 (-1)) 4 (-1)) 5 (-1)) 6 (-1)) 7 (-1)) 8 (-1)) 9 (-1)) 10 (-1)) 11 (-1)) 12 (-1)) 13 (-1)))), (h1, .inl (g.2.1 2, 1, .inr (.inl (fun _ => 0))))] sz) := by
  refine va_MetW (cc := cL_group) (maxL := 5) (ret := (some .int)) (by decide) rfl ?_
  intro p e s m args below meth c s₁ B hml hv
  obtain ⟨rfl, hsz, hP, hD0, hE⟩ := hv
  have hx := B.exec
  have hb := B.bytes
  have hr := B.returns
  have hts := atoms_spec (ws := w9_L_group_18) B.pre
  have hown : s.vm.findClass RL = some m.cls := findClass_of_methodNamed B.named
  have hlocks := B.notSynchronized
  have htab := vx_table (x := yL_group) B (hts (.codeWith yL_group cL_group 5 (some .int) [(0, 10, 13, 21)]) (List.mem_of_getElem? (i := 0) rfl))
  subst hsz
  have hD := hD0.self (sz := s.heap.size)
  generalize hAe : va_A [(h0, .inr (12, [.ref h2, .int 0, .ref h3, .ref h4, .ref h5, .ref h6, .ref h7, .ref h8, .int (-1), .ref h9, .ref h10, .int 250, .ref h11, .int 0, .ref h12, .ref h13, .ref h14])), (h11, .inr (10, [.int 2, .int 7, .ref h15, .int 7])), (h15, .inl (g.2.1 0, 14, .inl (upd (upd (upd (upd (upd (upd (upd (upd (upd (upd (upd (upd (upd (upd (fun _ => 0) 0 (-1)) 1 (-1)) 2 (-1)) 3 (-1)) 4 (-1)) 5 (-1)) 6 (-1)) 7 (-1)) 8 (-1)) 9 (-1)) 10 (-1)) 11 (-1)) 12 (-1)) 13 (-1)))), (h1, .inl (g.2.1 2, 1, .inr (.inl (fun _ => 0))))] s.heap.size = A at hD hE ⊢
  have hA : ∀ q : Nat, s.heap.size ≤ q → A q := fun q h => by rw [← hAe]; exact Or.inr h
  have hK := hE.1
  have hS : va_S A s.heap s.heap [] := va_S.rf
  replace hP : va_P g.1 vwCl [(h0, .inr (12, [.ref h2, .int 0, .ref h3, .ref h4, .ref h5, .ref h6, .ref h7, .ref h8, .int (-1), .ref h9, .ref h10, .int 250, .ref h11, .int 0, .ref h12, .ref h13, .ref h14])), (h11, .inr (10, [.int 2, .int 7, .ref h15, .int 7])), (h15, .inl (g.2.1 0, 14, .inl (upd (upd (upd (upd (upd (upd (upd (upd (upd (upd (upd (upd (upd (upd (fun _ => 0) 0 (-1)) 1 (-1)) 2 (-1)) 3 (-1)) 4 (-1)) 5 (-1)) 6 (-1)) 7 (-1)) 8 (-1)) 9 (-1)) 10 (-1)) 11 (-1)) 12 (-1)) 13 (-1)))), (h1, .inl (g.2.1 2, 1, .inr (.inl (fun _ => 0))))] s.heap := hP
  have hl := lv_entry ([.ref h0, .int 5, .int 0, .ref h1]) (n := 5) (Nat.le_of_ble_eq_true rfl)
  rw [lg_entry_eq]
  generalize (lg_sl ([.ref h0, .int 5, .int 0, .ref h1]) ++ List.replicate (5 - (lg_sl ([.ref h0, .int 5, .int 0, .ref h1])).length) Slot.unset).toArray = ls at hl ⊢
  replace hl : lv_has ls 5 [(0, .ref h0), (1, .int 5), (2, .int 0), (3, .ref h1)] := hl
  have hH0 : s.heap.size ≤ s.heap.size := Nat.le_refl _
  refine lv_aload_n hx hb dL_group_0 rfl (lv_at hl 3 rfl) ?_
  refine lv_iconst (v := 0) hx hb dL_group_1 (by decide) ?_
  refine lv_aload_n hx hb dL_group_2 rfl (lv_at hl 0 rfl) ?_
  refine lv_iload_n hx hb dL_group_3 rfl (lv_at hl 1 rfl) ?_
  refine lv_iload_n hx hb dL_group_4 rfl (lv_at hl 2 rfl) ?_
  have hPc := hP.sub (ws' := [(h0, .inr (12, [.ref h2, .int 0, .ref h3, .ref h4, .ref h5, .ref h6, .ref h7, .ref h8, .int (-1), .ref h9, .ref h10, .int 250, .ref h11, .int 0, .ref h12, .ref h13, .ref h14])), (h11, .inr (10, [.int 2, .int 7, .ref h15, .int 7])), (h15, .inl (g.2.1 0, 14, .inl (upd (upd (upd (upd (upd (upd (upd (upd (upd (upd (upd (upd (upd (upd (fun _ => 0) 0 (-1)) 1 (-1)) 2 (-1)) 3 (-1)) 4 (-1)) 5 (-1)) 6 (-1)) 7 (-1)) 8 (-1)) 9 (-1)) 10 (-1)) 11 (-1)) 12 (-1)) 13 (-1))))]) [0, 1, 2] rfl
  have hDc := hD.sub (ws' := [(h0, .inr (12, [.ref h2, .int 0, .ref h3, .ref h4, .ref h5, .ref h6, .ref h7, .ref h8, .int (-1), .ref h9, .ref h10, .int 250, .ref h11, .int 0, .ref h12, .ref h13, .ref h14])), (h11, .inr (10, [.int 2, .int 7, .ref h15, .int 7])), (h15, .inl (g.2.1 0, 14, .inl (upd (upd (upd (upd (upd (upd (upd (upd (upd (upd (upd (upd (upd (upd (fun _ => 0) 0 (-1)) 1 (-1)) 2 (-1)) 3 (-1)) 4 (-1)) 5 (-1)) 6 (-1)) 7 (-1)) 8 (-1)) 9 (-1)) 10 (-1)) 11 (-1)) 12 (-1)) 13 (-1))))]) [0, 1, 2] (by decide) rfl
  have hFc := va_free (wc := [(h0, .inr (12, [.ref h2, .int 0, .ref h3, .ref h4, .ref h5, .ref h6, .ref h7, .ref h8, .int (-1), .ref h9, .ref h10, .int 250, .ref h11, .int 0, .ref h12, .ref h13, .ref h14])), (h11, .inr (10, [.int 2, .int 7, .ref h15, .int 7])), (h15, .inl (g.2.1 0, 14, .inl (upd (upd (upd (upd (upd (upd (upd (upd (upd (upd (upd (upd (upd (upd (fun _ => 0) 0 (-1)) 1 (-1)) 2 (-1)) 3 (-1)) 4 (-1)) 5 (-1)) 6 (-1)) 7 (-1)) 8 (-1)) 9 (-1)) 10 (-1)) 11 (-1)) 12 (-1)) 13 (-1))))]) hD hS hA [0, 1, 2] rfl
  refine va_calli (va_runV (As := [.int 5, .int 0]) (rest := [.int 0, .ref h1]) ⟨hx, hb, hml, hown, hts⟩ (c9_X11_group_17 l g h0 h2 h3 h4 h5 h6 h7 h8 h9 h10 h11 h12 h13 h14 h15 _ (upd (upd (upd (upd (upd (upd (upd (upd (upd (upd (upd (upd (upd (upd (fun _ => 0) 0 (-1)) 1 (-1)) 2 (-1)) 3 (-1)) 4 (-1)) 5 (-1)) 6 (-1)) 7 (-1)) 8 (-1)) 9 (-1)) 10 (-1)) 11 (-1)) 12 (-1)) 13 (-1))) (cwV 2 hts g9_L_group_18_0 rfl rfl rfl (by decide +kernel) ⟨Nat.le_of_ble_eq_true rfl, Nat.le_of_ble_eq_true rfl⟩) (mPreV (g := g) (wc := [(h0, .inr (12, [.ref h2, .int 0, .ref h3, .ref h4, .ref h5, .ref h6, .ref h7, .ref h8, .int (-1), .ref h9, .ref h10, .int 250, .ref h11, .int 0, .ref h12, .ref h13, .ref h14])), (h11, .inr (10, [.int 2, .int 7, .ref h15, .int 7])), (h15, .inl (g.2.1 0, 14, .inl (upd (upd (upd (upd (upd (upd (upd (upd (upd (upd (upd (upd (upd (upd (fun _ => 0) 0 (-1)) 1 (-1)) 2 (-1)) 3 (-1)) 4 (-1)) 5 (-1)) 6 (-1)) 7 (-1)) 8 (-1)) 9 (-1)) 10 (-1)) 11 (-1)) 12 (-1)) 13 (-1))))]) (C := RX11) (ci := 12) (q0 := 0) hE hS hPc hDc hFc rfl rfl) rfl rfl hl.1 rfl (lv_room (Nat.le_of_ble_eq_true rfl)) dL_group_5 ⟨Nat.le_of_ble_eq_true rfl, Nat.le_of_ble_eq_true rfl⟩) hS (fun q _ h => hFc q h) hFc (fun r_1 u t H1 locs ht hvm hw hB hz1 hk1 hS => ?_)
  replace hw : ((upd (upd (upd (upd (upd (upd (upd (upd (upd (upd (upd (upd (upd (upd (fun _ => 0) 0 (-1)) 1 (-1)) 2 (-1)) 3 (-1)) 4 (-1)) 5 (-1)) 6 (-1)) 7 (-1)) 8 (-1)) 9 (-1)) 10 (-1)) 11 (-1)) 12 (-1)) 13 (-1)) 10) = r_1 := Eq.symm hw
  subst hw
  obtain ⟨hP1, hD1⟩ := hB
  rw [ht] at hP1
  obtain ⟨hP, hD⟩ := va_join (wr := [(h1, .inl (g.2.1 2, 1, .inr (.inl (fun _ => 0))))]) (w1 := [(h0, .inr (12, [.ref h2, .int 0, .ref h3, .ref h4, .ref h5, .ref h6, .ref h7, .ref h8, .int (-1), .ref h9, .ref h10, .int 250, .ref h11, .int 0, .ref h12, .ref h13, .ref h14])), (h11, .inr (10, [.int 2, .int 7, .ref h15, .int 7])), (h15, .inl (g.2.1 0, 14, .inl (upd (upd (upd (upd (upd (upd (upd (upd (upd (upd (upd (upd (upd (upd (fun _ => 0) 0 (-1)) 1 (-1)) 2 (-1)) 3 (-1)) 4 (-1)) 5 (-1)) 6 (-1)) 7 (-1)) 8 (-1)) 9 (-1)) 10 (-1)) 11 (-1)) 12 (-1)) 13 (-1))))]) hP hD [0, 1, 2] [3] rfl rfl (by decide) (by decide) hk1 hFc hP1 hD1
  clear hP1 hD1 hPc hDc hFc hk1 hz1 hvm ht
  generalize H1 = H at hP hS ⊢
  have hP : va_P g.1 vwCl [(h1, .inl (g.2.1 2, 1, .inr (.inl (fun _ => 0)))), (h0, .inr (12, [.ref h2, .int 0, .ref h3, .ref h4, .ref h5, .ref h6, .ref h7, .ref h8, .int (-1), .ref h9, .ref h10, .int 250, .ref h11, .int 0, .ref h12, .ref h13, .ref h14])), (h11, .inr (10, [.int 2, .int 7, .ref h15, .int 7])), (h15, .inl (g.2.1 0, 14, .inl (upd (upd (upd (upd (upd (upd (upd (upd (upd (upd (upd (upd (upd (upd (fun _ => 0) 0 (-1)) 1 (-1)) 2 (-1)) 3 (-1)) 4 (-1)) 5 (-1)) 6 (-1)) 7 (-1)) 8 (-1)) 9 (-1)) 10 (-1)) 11 (-1)) 12 (-1)) 13 (-1))))] H := hP
  have hD : va_D A [(h1, .inl (g.2.1 2, 1, .inr (.inl (fun _ => 0)))), (h0, .inr (12, [.ref h2, .int 0, .ref h3, .ref h4, .ref h5, .ref h6, .ref h7, .ref h8, .int (-1), .ref h9, .ref h10, .int 250, .ref h11, .int 0, .ref h12, .ref h13, .ref h14])), (h11, .inr (10, [.int 2, .int 7, .ref h15, .int 7])), (h15, .inl (g.2.1 0, 14, .inl (upd (upd (upd (upd (upd (upd (upd (upd (upd (upd (upd (upd (upd (upd (fun _ => 0) 0 (-1)) 1 (-1)) 2 (-1)) 3 (-1)) 4 (-1)) 5 (-1)) 6 (-1)) 7 (-1)) 8 (-1)) 9 (-1)) 10 (-1)) 11 (-1)) 12 (-1)) 13 (-1))))] := hD
  refine e_top (y := (-1)) (by rfl) ?_
  refine lv_i2l (v := (-1)) hx hb dL_group_8 (by decide) ?_
  refine va_last hx hb hK hP hD hS 0 2 rfl rfl (vp_in_nI (n := 0) (by decide) (by decide)) dL_group_9 (fun H locs hP hD hS => ?_)
  have hP : va_P g.1 vwCl [(h1, .inl (g.2.1 2, 1, .inr (.inl (vp_updL (fun _ => 0) 0 (-1))))), (h0, .inr (12, [.ref h2, .int 0, .ref h3, .ref h4, .ref h5, .ref h6, .ref h7, .ref h8, .int (-1), .ref h9, .ref h10, .int 250, .ref h11, .int 0, .ref h12, .ref h13, .ref h14])), (h11, .inr (10, [.int 2, .int 7, .ref h15, .int 7])), (h15, .inl (g.2.1 0, 14, .inl (upd (upd (upd (upd (upd (upd (upd (upd (upd (upd (upd (upd (upd (upd (fun _ => 0) 0 (-1)) 1 (-1)) 2 (-1)) 3 (-1)) 4 (-1)) 5 (-1)) 6 (-1)) 7 (-1)) 8 (-1)) 9 (-1)) 10 (-1)) 11 (-1)) 12 (-1)) 13 (-1))))] H := hP
  have hD : va_D A [(h1, .inl (g.2.1 2, 1, .inr (.inl (vp_updL (fun _ => 0) 0 (-1))))), (h0, .inr (12, [.ref h2, .int 0, .ref h3, .ref h4, .ref h5, .ref h6, .ref h7, .ref h8, .int (-1), .ref h9, .ref h10, .int 250, .ref h11, .int 0, .ref h12, .ref h13, .ref h14])), (h11, .inr (10, [.int 2, .int 7, .ref h15, .int 7])), (h15, .inl (g.2.1 0, 14, .inl (upd (upd (upd (upd (upd (upd (upd (upd (upd (upd (upd (upd (upd (upd (fun _ => 0) 0 (-1)) 1 (-1)) 2 (-1)) 3 (-1)) 4 (-1)) 5 (-1)) 6 (-1)) 7 (-1)) 8 (-1)) 9 (-1)) 10 (-1)) 11 (-1)) 12 (-1)) 13 (-1))))] := hD
  refine lv_goto (tgt := 17) hx hb dL_group_10 (by decide) ?_
  refine lv_iconst (v := 0) hx hb dL_group_17 (by decide) ?_
  have hP9 := hP.sub (ws' := [(h0, .inr (12, [.ref h2, .int 0, .ref h3, .ref h4, .ref h5, .ref h6, .ref h7, .ref h8, .int (-1), .ref h9, .ref h10, .int 250, .ref h11, .int 0, .ref h12, .ref h13, .ref h14])), (h11, .inr (10, [.int 2, .int 7, .ref h15, .int 7])), (h15, .inl (g.2.1 0, 14, .inl (upd (upd (upd (upd (upd (upd (upd (upd (upd (upd (upd (upd (upd (upd (fun _ => 0) 0 (-1)) 1 (-1)) 2 (-1)) 3 (-1)) 4 (-1)) 5 (-1)) 6 (-1)) 7 (-1)) 8 (-1)) 9 (-1)) 10 (-1)) 11 (-1)) 12 (-1)) 13 (-1)))), (h1, .inl (g.2.1 2, 1, .inr (.inl (vp_updL (fun _ => 0) 0 (-1)))))]) [1, 2, 3, 0] rfl
  have hD9 := hD.sub (ws' := [(h0, .inr (12, [.ref h2, .int 0, .ref h3, .ref h4, .ref h5, .ref h6, .ref h7, .ref h8, .int (-1), .ref h9, .ref h10, .int 250, .ref h11, .int 0, .ref h12, .ref h13, .ref h14])), (h11, .inr (10, [.int 2, .int 7, .ref h15, .int 7])), (h15, .inl (g.2.1 0, 14, .inl (upd (upd (upd (upd (upd (upd (upd (upd (upd (upd (upd (upd (upd (upd (fun _ => 0) 0 (-1)) 1 (-1)) 2 (-1)) 3 (-1)) 4 (-1)) 5 (-1)) 6 (-1)) 7 (-1)) 8 (-1)) 9 (-1)) 10 (-1)) 11 (-1)) 12 (-1)) 13 (-1)))), (h1, .inl (g.2.1 2, 1, .inr (.inl (vp_updL (fun _ => 0) 0 (-1)))))]) [1, 2, 3, 0] (by decide) rfl
  subst hAe
  exact W.iret (v := 0) hx hb hr (fun t ht hW => ⟨⟨0, (), rfl, rfl, by rw [ht]; exact hP9, hD9⟩, hS.F ht⟩) hS.2.2 dL_group_18
def w9_X21_group_17 : List Cond := [.code yX21_group cX21_group 3 (some .int), .methodLink RX21 160 yX21_in, .static yX21_in, .initialized RX21, .code yX21_in cX21_in 3 (some .boolean), .methodLink RX21 154 yX21_refused, .instanceMethod yX21_refused, .selects RX21 yX21_refused yX21_refused, .code yX21_refused cX21_refused 2 (some .boolean), .fieldLink RX21 144 "RegexloomModel" "refusal" "I", .fieldLink RX21 107 "RegexloomModel" "told" "[I"] ++ (u_ws RX21 TX21 32)
set_option maxRecDepth 20000 in
theorem in9_X21_group_17_RX21 : ∀ w ∈ u_ws RX21 TX21 32, w ∈ w9_X21_group_17 := by decide +kernel
set_option maxRecDepth 20000 in
theorem g9_X21_group_17_0 : GoodIn w9_X21_group_17 (va_wsS RX21 160 yX21_in w9_X21_in_21) := goodIn_r _ [1, 2, 3, 4] (by decide +kernel) (by decide +kernel)
set_option maxRecDepth 20000 in
theorem g9_X21_group_17_1 : GoodIn w9_X21_group_17 (wsV RX21 154 RX21 yX21_refused w9_X21_refused_1) := goodIn_r _ [5, 6, 7, 3, 8, 9, 11, 12, 13, 14, 15, 16, 17, 18, 19, 20, 21, 22, 23, 24, 25, 26, 27, 28, 29, 30, 31, 32, 33, 34, 35, 36, 37, 38, 39, 40, 41, 42] (by decide +kernel) (by decide +kernel)
set_option maxHeartbeats 4000000 in
set_option maxRecDepth 100000 in
theorem c9_X21_group_17 (l : Launch) (g : G9) (h0 h1 h2 h3 h4 h5 h6 h7 h8 h9 h10 h11 h12 h13 h14 h15 h16 sz : Nat) (f0 : Nat → Int32) : Met l yX21_group w9_X21_group_17 ({ frames := 1, cells := 0, slots := 0, locals := 22 }) (mP g [(h0, .inr (22, [.int 0, .ref h1, .int 0, .ref h2, .int 0, .ref h3, .int 250, .ref h4, .int 0, .ref h5, .ref h6, .ref h7, .int 0, .ref h8, .ref h9, .ref h10, .int 0, .null, .int 0, .null, .int 0, .int 0, .int 0, .ref h11, .int 0, .ref h12, .ref h13, .ref h14, .int 0, .ref h15, .ref h16, .int 0])), (h7, .inl (g.2.1 0, 14, .inl f0))] sz [.ref h0, .int 5, .int 0]) (va_Qi (fun (r : Int32) (_ : Unit) => r = (f0 10)) (fun (_ : Unit) (t : State) => mB g [(h0, .inr (22, [.int 0, .ref h1, .int 0, .ref h2, .int 0, .ref h3, .int 250, .ref h4, .int 0, .ref h5, .ref h6, .ref h7, .int 0, .ref h8, .ref h9, .ref h10, .int 0, .null, .int 0, .null, .int 0, .int 0, .int 0, .ref h11, .int 0, .ref h12, .ref h13, .ref h14, .int 0, .ref h15, .ref h16, .int 0])), (h7, .inl (g.2.1 0, 14, .inl f0))] sz [(h0, .inr (22, [.int 0, .ref h1, .int 0, .ref h2, .int 0, .ref h3, .int 250, .ref h4, .int 0, .ref h5, .ref h6, .ref h7, .int 0, .ref h8, .ref h9, .ref h10, .int 0, .null, .int 0, .null, .int 0, .int 0, .int 0, .ref h11, .int 0, .ref h12, .ref h13, .ref h14, .int 0, .ref h15, .ref h16, .int 0])), (h7, .inl (g.2.1 0, 14, .inl f0))] t) (va_A [(h0, .inr (22, [.int 0, .ref h1, .int 0, .ref h2, .int 0, .ref h3, .int 250, .ref h4, .int 0, .ref h5, .ref h6, .ref h7, .int 0, .ref h8, .ref h9, .ref h10, .int 0, .null, .int 0, .null, .int 0, .int 0, .int 0, .ref h11, .int 0, .ref h12, .ref h13, .ref h14, .int 0, .ref h15, .ref h16, .int 0])), (h7, .inl (g.2.1 0, 14, .inl f0))] sz)) 0 0 (va_A [(h0, .inr (22, [.int 0, .ref h1, .int 0, .ref h2, .int 0, .ref h3, .int 250, .ref h4, .int 0, .ref h5, .ref h6, .ref h7, .int 0, .ref h8, .ref h9, .ref h10, .int 0, .null, .int 0, .null, .int 0, .int 0, .int 0, .ref h11, .int 0, .ref h12, .ref h13, .ref h14, .int 0, .ref h15, .ref h16, .int 0])), (h7, .inl (g.2.1 0, 14, .inl f0))] sz) := by
  refine Met.ofW (cc := cX21_group) (maxL := 3) (ret := (some .int)) (by decide) rfl ?_
  intro p e s m args below meth c s₁ B hml hv
  obtain ⟨rfl, hsz, hP, hD0, hE⟩ := hv
  have hx := B.exec
  have hb := B.bytes
  have hr := B.returns
  have hts := atoms_spec (ws := w9_X21_group_17) B.pre
  have hown : s.vm.findClass RX21 = some m.cls := findClass_of_methodNamed B.named
  have hlocks := B.notSynchronized
  subst hsz
  have hD := hD0.self (sz := s.heap.size)
  generalize hAe : va_A [(h0, .inr (22, [.int 0, .ref h1, .int 0, .ref h2, .int 0, .ref h3, .int 250, .ref h4, .int 0, .ref h5, .ref h6, .ref h7, .int 0, .ref h8, .ref h9, .ref h10, .int 0, .null, .int 0, .null, .int 0, .int 0, .int 0, .ref h11, .int 0, .ref h12, .ref h13, .ref h14, .int 0, .ref h15, .ref h16, .int 0])), (h7, .inl (g.2.1 0, 14, .inl f0))] s.heap.size = A at hD hE ⊢
  have hA : ∀ q : Nat, s.heap.size ≤ q → A q := fun q h => by rw [← hAe]; exact Or.inr h
  have hK := hE.1
  have hS : va_S A s.heap s.heap [] := va_S.rf
  replace hP : va_P g.1 vwCl [(h0, .inr (22, [.int 0, .ref h1, .int 0, .ref h2, .int 0, .ref h3, .int 250, .ref h4, .int 0, .ref h5, .ref h6, .ref h7, .int 0, .ref h8, .ref h9, .ref h10, .int 0, .null, .int 0, .null, .int 0, .int 0, .int 0, .ref h11, .int 0, .ref h12, .ref h13, .ref h14, .int 0, .ref h15, .ref h16, .int 0])), (h7, .inl (g.2.1 0, 14, .inl f0))] s.heap := hP
  have hl := lv_entry ([.ref h0, .int 5, .int 0]) (n := 3) (Nat.le_of_ble_eq_true rfl)
  rw [lg_entry_eq]
  generalize (lg_sl ([.ref h0, .int 5, .int 0]) ++ List.replicate (3 - (lg_sl ([.ref h0, .int 5, .int 0])).length) Slot.unset).toArray = ls at hl ⊢
  replace hl : lv_has ls 3 [(0, .ref h0), (1, .int 5), (2, .int 0)] := hl
  have hH0 : s.heap.size ≤ s.heap.size := Nat.le_refl _
  refine lv_aload_n hx hb dX21_group_0 rfl (lv_at hl 0 rfl) ?_
  refine lv_iload_n hx hb dX21_group_1 rfl (lv_at hl 1 rfl) ?_
  refine lv_iconst (v := 0) hx hb dX21_group_2 (by decide) ?_
  refine lv_bipush (v := 6) hx hb dX21_group_3 (by decide) ?_
  have hPc := hP.sub (ws' := []) [] rfl
  have hDc := hD.sub (ws' := []) [] (by decide) rfl
  have hFc := va_free (wc := []) hD hS hA [] rfl
  refine va_calli (va_runS (As := [.int 5, .int 0, .int 6]) (rest := [.ref h0]) ⟨hx, hb, hml, hown, hts⟩ (c9_X21_in_21 l g _) (va_cwS 3 hts g9_X21_group_17_0 rfl rfl rfl (by decide +kernel) ⟨Nat.le_of_ble_eq_true rfl, Nat.le_of_ble_eq_true rfl⟩) (mPreS (g := g) (wc := []) hE hS hPc hDc hFc) rfl rfl hl.1 rfl (lv_room (Nat.le_of_ble_eq_true rfl)) dX21_group_5 ⟨Nat.le_of_ble_eq_true rfl, Nat.le_of_ble_eq_true rfl⟩) hS (fun q _ h => hFc q h) hFc (fun r_1 u t H1 locs ht hvm hw hB hz1 hk1 hS => ?_)
  replace hw : 1 = r_1 := Eq.symm hw
  subst hw
  obtain ⟨hP1, hD1⟩ := hB
  rw [ht] at hP1
  obtain ⟨hP, hD⟩ := va_join (wr := [(h0, .inr (22, [.int 0, .ref h1, .int 0, .ref h2, .int 0, .ref h3, .int 250, .ref h4, .int 0, .ref h5, .ref h6, .ref h7, .int 0, .ref h8, .ref h9, .ref h10, .int 0, .null, .int 0, .null, .int 0, .int 0, .int 0, .ref h11, .int 0, .ref h12, .ref h13, .ref h14, .int 0, .ref h15, .ref h16, .int 0])), (h7, .inl (g.2.1 0, 14, .inl f0))]) (w1 := []) hP hD [] [0, 1] rfl rfl (by decide) (by decide) hk1 hFc hP1 hD1
  clear hP1 hD1 hPc hDc hFc hk1 hz1 hvm ht
  generalize H1 = H at hP hS ⊢
  have hP : va_P g.1 vwCl [(h0, .inr (22, [.int 0, .ref h1, .int 0, .ref h2, .int 0, .ref h3, .int 250, .ref h4, .int 0, .ref h5, .ref h6, .ref h7, .int 0, .ref h8, .ref h9, .ref h10, .int 0, .null, .int 0, .null, .int 0, .int 0, .int 0, .ref h11, .int 0, .ref h12, .ref h13, .ref h14, .int 0, .ref h15, .ref h16, .int 0])), (h7, .inl (g.2.1 0, 14, .inl f0))] H := hP
  have hD : va_D A [(h0, .inr (22, [.int 0, .ref h1, .int 0, .ref h2, .int 0, .ref h3, .int 250, .ref h4, .int 0, .ref h5, .ref h6, .ref h7, .int 0, .ref h8, .ref h9, .ref h10, .int 0, .null, .int 0, .null, .int 0, .int 0, .int 0, .ref h11, .int 0, .ref h12, .ref h13, .ref h14, .int 0, .ref h15, .ref h16, .int 0])), (h7, .inl (g.2.1 0, 14, .inl f0))] := hD
  refine lv_if_eq (tgt := 15) hx hb dX21_group_8 (by decide) (fun c9 => absurd c9 (by decide)) (fun _ => ?_)
  refine lv_iconst (v := 0) hx hb dX21_group_11 (by decide) ?_
  refine lv_goto (tgt := 16) hx hb dX21_group_12 (by decide) ?_
  have hPc := hP.sub (ws' := [(h0, .inr (22, [.int 0, .ref h1, .int 0, .ref h2, .int 0, .ref h3, .int 250, .ref h4, .int 0, .ref h5, .ref h6, .ref h7, .int 0, .ref h8, .ref h9, .ref h10, .int 0, .null, .int 0, .null, .int 0, .int 0, .int 0, .ref h11, .int 0, .ref h12, .ref h13, .ref h14, .int 0, .ref h15, .ref h16, .int 0]))]) [0] rfl
  have hDc := hD.sub (ws' := [(h0, .inr (22, [.int 0, .ref h1, .int 0, .ref h2, .int 0, .ref h3, .int 250, .ref h4, .int 0, .ref h5, .ref h6, .ref h7, .int 0, .ref h8, .ref h9, .ref h10, .int 0, .null, .int 0, .null, .int 0, .int 0, .int 0, .ref h11, .int 0, .ref h12, .ref h13, .ref h14, .int 0, .ref h15, .ref h16, .int 0]))]) [0] (by decide) rfl
  have hFc := va_free (wc := [(h0, .inr (22, [.int 0, .ref h1, .int 0, .ref h2, .int 0, .ref h3, .int 250, .ref h4, .int 0, .ref h5, .ref h6, .ref h7, .int 0, .ref h8, .ref h9, .ref h10, .int 0, .null, .int 0, .null, .int 0, .int 0, .int 0, .ref h11, .int 0, .ref h12, .ref h13, .ref h14, .int 0, .ref h15, .ref h16, .int 0]))]) hD hS hA [0] rfl
  refine va_calli (va_runV (As := [.int 0]) (rest := []) ⟨hx, hb, hml, hown, hts⟩ (c9_X21_refused_1 l g h0 h1 h2 h3 h4 h5 h6 h7 h8 h9 h10 h11 h12 h13 h14 h15 h16 _) (cwV 1 hts g9_X21_group_17_1 rfl rfl rfl (by decide +kernel) ⟨Nat.le_of_ble_eq_true rfl, Nat.le_of_ble_eq_true rfl⟩) (mPreV (g := g) (wc := [(h0, .inr (22, [.int 0, .ref h1, .int 0, .ref h2, .int 0, .ref h3, .int 250, .ref h4, .int 0, .ref h5, .ref h6, .ref h7, .int 0, .ref h8, .ref h9, .ref h10, .int 0, .null, .int 0, .null, .int 0, .int 0, .int 0, .ref h11, .int 0, .ref h12, .ref h13, .ref h14, .int 0, .ref h15, .ref h16, .int 0]))]) (C := RX21) (ci := 22) (q0 := 0) hE hS hPc hDc hFc rfl rfl) rfl rfl hl.1 rfl (lv_room (Nat.le_of_ble_eq_true rfl)) dX21_group_16 ⟨Nat.le_of_ble_eq_true rfl, Nat.le_of_ble_eq_true rfl⟩) hS (fun q _ h => hFc q h) hFc (fun r_2 u t H1 locs ht hvm hw hB hz1 hk1 hS => ?_)
  replace hw : 0 = r_2 := Eq.symm hw
  subst hw
  obtain ⟨hP1, hD1⟩ := hB
  rw [ht] at hP1
  obtain ⟨hP, hD⟩ := va_join (wr := [(h7, .inl (g.2.1 0, 14, .inl f0))]) (w1 := [(h0, .inr (22, [.int 0, .ref h1, .int 0, .ref h2, .int 0, .ref h3, .int 250, .ref h4, .int 0, .ref h5, .ref h6, .ref h7, .int 0, .ref h8, .ref h9, .ref h10, .int 0, .null, .int 0, .null, .int 0, .int 0, .int 0, .ref h11, .int 0, .ref h12, .ref h13, .ref h14, .int 0, .ref h15, .ref h16, .int 0]))]) hP hD [0] [1] rfl rfl (by decide) (by decide) hk1 hFc hP1 hD1
  clear hP1 hD1 hPc hDc hFc hk1 hz1 hvm ht
  generalize H1 = H at hP hS ⊢
  have hP : va_P g.1 vwCl [(h7, .inl (g.2.1 0, 14, .inl f0)), (h0, .inr (22, [.int 0, .ref h1, .int 0, .ref h2, .int 0, .ref h3, .int 250, .ref h4, .int 0, .ref h5, .ref h6, .ref h7, .int 0, .ref h8, .ref h9, .ref h10, .int 0, .null, .int 0, .null, .int 0, .int 0, .int 0, .ref h11, .int 0, .ref h12, .ref h13, .ref h14, .int 0, .ref h15, .ref h16, .int 0]))] H := hP
  have hD : va_D A [(h7, .inl (g.2.1 0, 14, .inl f0)), (h0, .inr (22, [.int 0, .ref h1, .int 0, .ref h2, .int 0, .ref h3, .int 250, .ref h4, .int 0, .ref h5, .ref h6, .ref h7, .int 0, .ref h8, .ref h9, .ref h10, .int 0, .null, .int 0, .null, .int 0, .int 0, .int 0, .ref h11, .int 0, .ref h12, .ref h13, .ref h14, .int 0, .ref h15, .ref h16, .int 0]))] := hD
  refine lv_if_eq (tgt := 26) hx hb dX21_group_19 (by decide) (fun _ => ?_) (fun c9 => absurd (by decide) c9)
  refine lv_aload_n hx hb dX21_group_26 rfl (lv_at hl 0 rfl) ?_
  refine va_get (D := g.1) (ci := 22) (v := .ref h7) (C := RX21) (T := TX21) (N := 32) hx hb hts in9_X21_group_17_RX21 hown hK hP 1 rfl rfl 11 (by decide) (hts (.fieldLink RX21 107 "RegexloomModel" "told" "[I") (List.mem_of_getElem? (i := 10) rfl)) (fun _ h9 => h9) rfl dX21_group_27 ?_
  refine lv_iconst (v := 2) hx hb dX21_group_30 (by decide) ?_
  refine lv_iload_n hx hb dX21_group_31 rfl (lv_at hl 1 rfl) ?_
  refine lv_imul hx hb dX21_group_32 ?_
  refine e_top (y := 10) (by decide) ?_
  refine lv_iload_n hx hb dX21_group_33 rfl (lv_at hl 2 rfl) ?_
  refine lv_if_eq (tgt := 41) hx hb dX21_group_34 (by decide) (fun _ => ?_) (fun c9 => absurd (by decide) c9)
  refine lv_iconst (v := 0) hx hb dX21_group_41 (by decide) ?_
  refine lv_iadd hx hb dX21_group_42 ?_
  refine e_top (y := 10) (by decide) ?_
  refine va_iald hx hb hK hP 0 0 rfl rfl (vp_in_nI (n := 10) (by decide) (by decide)) dX21_group_43 ?_
  refine e_topv (y := .int (f0 10)) (by rfl) ?_
  have hP9 := hP.sub (ws' := [(h0, .inr (22, [.int 0, .ref h1, .int 0, .ref h2, .int 0, .ref h3, .int 250, .ref h4, .int 0, .ref h5, .ref h6, .ref h7, .int 0, .ref h8, .ref h9, .ref h10, .int 0, .null, .int 0, .null, .int 0, .int 0, .int 0, .ref h11, .int 0, .ref h12, .ref h13, .ref h14, .int 0, .ref h15, .ref h16, .int 0])), (h7, .inl (g.2.1 0, 14, .inl f0))]) [1, 0] rfl
  have hD9 := hD.sub (ws' := [(h0, .inr (22, [.int 0, .ref h1, .int 0, .ref h2, .int 0, .ref h3, .int 250, .ref h4, .int 0, .ref h5, .ref h6, .ref h7, .int 0, .ref h8, .ref h9, .ref h10, .int 0, .null, .int 0, .null, .int 0, .int 0, .int 0, .ref h11, .int 0, .ref h12, .ref h13, .ref h14, .int 0, .ref h15, .ref h16, .int 0])), (h7, .inl (g.2.1 0, 14, .inl f0))]) [1, 0] (by decide) rfl
  subst hAe
  exact W.iret (v := (f0 10)) hx hb hr (fun t ht hW => ⟨⟨(f0 10), (), rfl, rfl, by rw [ht]; exact hP9, hD9⟩, hS.F ht⟩) hS.2.2 dX21_group_44
def w9_X9_get_16 : List Cond := [.code yX9_get cX9_get 3 (some .int), .fieldLink RX9 28 "Regexloom$Table" "size" "I", .fieldLink RX9 9 "Regexloom$Table" "width" "I", .fieldLink RX9 24 "Regexloom$Table" "cells" "[I"] ++ (u_ws RX9 TX9 4)
set_option maxRecDepth 20000 in
theorem in9_X9_get_16_RX9 : ∀ w ∈ u_ws RX9 TX9 4, w ∈ w9_X9_get_16 := by decide +kernel
set_option maxHeartbeats 4000000 in
set_option maxRecDepth 100000 in
theorem c9_X9_get_16 (l : Launch) (g : G9) (h0 h1 sz : Nat) (f0 : Nat → Int32) : Met l yX9_get w9_X9_get_16 ({ frames := 0, cells := 0, slots := 0, locals := 0 }) (mP g [(h0, .inr (10, [.int 2, .int 7, .ref h1, .int 7])), (h1, .inl (g.2.1 0, 14, .inl f0))] sz [.ref h0, .int 6, .int 0]) (va_Qi (fun (r : Int32) (_ : Unit) => r = (f0 12)) (fun (_ : Unit) (t : State) => mB g [(h0, .inr (10, [.int 2, .int 7, .ref h1, .int 7])), (h1, .inl (g.2.1 0, 14, .inl f0))] sz [(h0, .inr (10, [.int 2, .int 7, .ref h1, .int 7])), (h1, .inl (g.2.1 0, 14, .inl f0))] t) (va_A [(h0, .inr (10, [.int 2, .int 7, .ref h1, .int 7])), (h1, .inl (g.2.1 0, 14, .inl f0))] sz)) 0 0 (va_A [(h0, .inr (10, [.int 2, .int 7, .ref h1, .int 7])), (h1, .inl (g.2.1 0, 14, .inl f0))] sz) := by
  refine Met.ofW (cc := cX9_get) (maxL := 3) (ret := (some .int)) (by decide) rfl ?_
  intro p e s m args below meth c s₁ B hml hv
  obtain ⟨rfl, hsz, hP, hD0, hE⟩ := hv
  have hx := B.exec
  have hb := B.bytes
  have hr := B.returns
  have hts := atoms_spec (ws := w9_X9_get_16) B.pre
  have hown : s.vm.findClass RX9 = some m.cls := findClass_of_methodNamed B.named
  have hlocks := B.notSynchronized
  subst hsz
  have hD := hD0.self (sz := s.heap.size)
  generalize hAe : va_A [(h0, .inr (10, [.int 2, .int 7, .ref h1, .int 7])), (h1, .inl (g.2.1 0, 14, .inl f0))] s.heap.size = A at hD hE ⊢
  have hA : ∀ q : Nat, s.heap.size ≤ q → A q := fun q h => by rw [← hAe]; exact Or.inr h
  have hK := hE.1
  have hS : va_S A s.heap s.heap [] := va_S.rf
  replace hP : va_P g.1 vwCl [(h0, .inr (10, [.int 2, .int 7, .ref h1, .int 7])), (h1, .inl (g.2.1 0, 14, .inl f0))] s.heap := hP
  have hl := lv_entry ([.ref h0, .int 6, .int 0]) (n := 3) (Nat.le_of_ble_eq_true rfl)
  rw [lg_entry_eq]
  generalize (lg_sl ([.ref h0, .int 6, .int 0]) ++ List.replicate (3 - (lg_sl ([.ref h0, .int 6, .int 0])).length) Slot.unset).toArray = ls at hl ⊢
  replace hl : lv_has ls 3 [(0, .ref h0), (1, .int 6), (2, .int 0)] := hl
  have hH0 : s.heap.size ≤ s.heap.size := Nat.le_refl _
  refine lv_iload_n hx hb dX9_get_0 rfl (lv_at hl 1 rfl) ?_
  refine lv_if_lt (tgt := 24) hx hb dX9_get_1 (by decide) (fun c9 => absurd c9 (by decide)) (fun _ => ?_)
  refine lv_iload_n hx hb dX9_get_4 rfl (lv_at hl 1 rfl) ?_
  refine lv_aload_n hx hb dX9_get_5 rfl (lv_at hl 0 rfl) ?_
  refine va_get (D := g.1) (ci := 10) (v := .int 7) (C := RX9) (T := TX9) (N := 4) hx hb hts in9_X9_get_16_RX9 hown hK hP 0 rfl rfl 3 (by decide) (hts (.fieldLink RX9 28 "Regexloom$Table" "size" "I") (List.mem_of_getElem? (i := 1) rfl)) (fun _ h9 => h9) rfl dX9_get_6 ?_
  refine lv_icmp_ge (tgt := 24) hx hb dX9_get_9 (by decide) (fun c9 => absurd c9 (by decide)) (fun _ => ?_)
  refine lv_iload_n hx hb dX9_get_12 rfl (lv_at hl 2 rfl) ?_
  refine lv_if_lt (tgt := 24) hx hb dX9_get_13 (by decide) (fun c9 => absurd c9 (by decide)) (fun _ => ?_)
  refine lv_iload_n hx hb dX9_get_16 rfl (lv_at hl 2 rfl) ?_
  refine lv_aload_n hx hb dX9_get_17 rfl (lv_at hl 0 rfl) ?_
  refine va_get (D := g.1) (ci := 10) (v := .int 2) (C := RX9) (T := TX9) (N := 4) hx hb hts in9_X9_get_16_RX9 hown hK hP 0 rfl rfl 0 (by decide) (hts (.fieldLink RX9 9 "Regexloom$Table" "width" "I") (List.mem_of_getElem? (i := 2) rfl)) (fun _ h9 => h9) rfl dX9_get_18 ?_
  refine lv_icmp_lt (tgt := 26) hx hb dX9_get_21 (by decide) (fun _ => ?_) (fun c9 => absurd (by decide) c9)
  refine lv_aload_n hx hb dX9_get_26 rfl (lv_at hl 0 rfl) ?_
  refine va_get (D := g.1) (ci := 10) (v := .ref h1) (C := RX9) (T := TX9) (N := 4) hx hb hts in9_X9_get_16_RX9 hown hK hP 0 rfl rfl 2 (by decide) (hts (.fieldLink RX9 24 "Regexloom$Table" "cells" "[I") (List.mem_of_getElem? (i := 3) rfl)) (fun _ h9 => h9) rfl dX9_get_27 ?_
  refine lv_iload_n hx hb dX9_get_30 rfl (lv_at hl 1 rfl) ?_
  refine lv_aload_n hx hb dX9_get_31 rfl (lv_at hl 0 rfl) ?_
  refine va_get (D := g.1) (ci := 10) (v := .int 2) (C := RX9) (T := TX9) (N := 4) hx hb hts in9_X9_get_16_RX9 hown hK hP 0 rfl rfl 0 (by decide) (hts (.fieldLink RX9 9 "Regexloom$Table" "width" "I") (List.mem_of_getElem? (i := 2) rfl)) (fun _ h9 => h9) rfl dX9_get_32 ?_
  refine lv_imul hx hb dX9_get_35 ?_
  refine e_top (y := 12) (by decide) ?_
  refine lv_iload_n hx hb dX9_get_36 rfl (lv_at hl 2 rfl) ?_
  refine lv_iadd hx hb dX9_get_37 ?_
  refine e_top (y := 12) (by decide) ?_
  refine va_iald hx hb hK hP 1 0 rfl rfl (vp_in_nI (n := 12) (by decide) (by decide)) dX9_get_38 ?_
  refine e_topv (y := .int (f0 12)) (by rfl) ?_
  have hP9 := hP.sub (ws' := [(h0, .inr (10, [.int 2, .int 7, .ref h1, .int 7])), (h1, .inl (g.2.1 0, 14, .inl f0))]) [0, 1] rfl
  have hD9 := hD.sub (ws' := [(h0, .inr (10, [.int 2, .int 7, .ref h1, .int 7])), (h1, .inl (g.2.1 0, 14, .inl f0))]) [0, 1] (by decide) rfl
  subst hAe
  exact W.iret (v := (f0 12)) hx hb hr (fun t ht hW => ⟨⟨(f0 12), (), rfl, rfl, by rw [ht]; exact hP9, hD9⟩, hS.F ht⟩) hS.2.2 dX9_get_39
def w9_X11_group_18 : List Cond := [.code yX11_group cX11_group 3 (some .int), .fieldLink RX11 78 "Regexloom" "bounds" "LRegexloom$Table;", .methodLink RX11 225 yX9_get, .instanceMethod yX9_get, .selects RX9 yX9_get yX9_get, .initialized RX9, .code yX9_get cX9_get 3 (some .int), .fieldLink RX9 28 "Regexloom$Table" "size" "I", .fieldLink RX9 9 "Regexloom$Table" "width" "I", .fieldLink RX9 24 "Regexloom$Table" "cells" "[I"] ++ (u_ws RX11 TX11 17 ++ u_ws RX9 TX9 4)
set_option maxRecDepth 20000 in
theorem in9_X11_group_18_RX11 : ∀ w ∈ u_ws RX11 TX11 17, w ∈ w9_X11_group_18 := by decide +kernel
set_option maxRecDepth 20000 in
theorem in9_X11_group_18_RX9 : ∀ w ∈ u_ws RX9 TX9 4, w ∈ w9_X11_group_18 := by decide +kernel
set_option maxRecDepth 20000 in
theorem g9_X11_group_18_0 : GoodIn w9_X11_group_18 (wsV RX11 225 RX9 yX9_get w9_X9_get_16) := goodIn_r _ [2, 3, 4, 5, 6, 7, 8, 9, 27, 28, 29, 30] (by decide +kernel) (by decide +kernel)
set_option maxHeartbeats 4000000 in
set_option maxRecDepth 100000 in
theorem c9_X11_group_18 (l : Launch) (g : G9) (h0 h1 h2 h3 h4 h5 h6 h7 h8 h9 h10 h11 h12 h13 h14 sz : Nat) (f0 : Nat → Int32) : Met l yX11_group w9_X11_group_18 ({ frames := 1, cells := 0, slots := 0, locals := 22 }) (mP g [(h0, .inr (12, [.ref h1, .int 0, .ref h2, .ref h3, .ref h4, .ref h5, .ref h6, .ref h7, .int (-1), .ref h8, .ref h9, .int 250, .ref h10, .int 0, .ref h11, .ref h12, .ref h13])), (h10, .inr (10, [.int 2, .int 7, .ref h14, .int 7])), (h14, .inl (g.2.1 0, 14, .inl f0))] sz [.ref h0, .int 6, .int 0]) (va_Qi (fun (r : Int32) (_ : Unit) => r = (f0 12)) (fun (_ : Unit) (t : State) => mB g [(h0, .inr (12, [.ref h1, .int 0, .ref h2, .ref h3, .ref h4, .ref h5, .ref h6, .ref h7, .int (-1), .ref h8, .ref h9, .int 250, .ref h10, .int 0, .ref h11, .ref h12, .ref h13])), (h10, .inr (10, [.int 2, .int 7, .ref h14, .int 7])), (h14, .inl (g.2.1 0, 14, .inl f0))] sz [(h0, .inr (12, [.ref h1, .int 0, .ref h2, .ref h3, .ref h4, .ref h5, .ref h6, .ref h7, .int (-1), .ref h8, .ref h9, .int 250, .ref h10, .int 0, .ref h11, .ref h12, .ref h13])), (h10, .inr (10, [.int 2, .int 7, .ref h14, .int 7])), (h14, .inl (g.2.1 0, 14, .inl f0))] t) (va_A [(h0, .inr (12, [.ref h1, .int 0, .ref h2, .ref h3, .ref h4, .ref h5, .ref h6, .ref h7, .int (-1), .ref h8, .ref h9, .int 250, .ref h10, .int 0, .ref h11, .ref h12, .ref h13])), (h10, .inr (10, [.int 2, .int 7, .ref h14, .int 7])), (h14, .inl (g.2.1 0, 14, .inl f0))] sz)) 0 0 (va_A [(h0, .inr (12, [.ref h1, .int 0, .ref h2, .ref h3, .ref h4, .ref h5, .ref h6, .ref h7, .int (-1), .ref h8, .ref h9, .int 250, .ref h10, .int 0, .ref h11, .ref h12, .ref h13])), (h10, .inr (10, [.int 2, .int 7, .ref h14, .int 7])), (h14, .inl (g.2.1 0, 14, .inl f0))] sz) := by
  refine Met.ofW (cc := cX11_group) (maxL := 3) (ret := (some .int)) (by decide) rfl ?_
  intro p e s m args below meth c s₁ B hml hv
  obtain ⟨rfl, hsz, hP, hD0, hE⟩ := hv
  have hx := B.exec
  have hb := B.bytes
  have hr := B.returns
  have hts := atoms_spec (ws := w9_X11_group_18) B.pre
  have hown : s.vm.findClass RX11 = some m.cls := findClass_of_methodNamed B.named
  have hlocks := B.notSynchronized
  subst hsz
  have hD := hD0.self (sz := s.heap.size)
  generalize hAe : va_A [(h0, .inr (12, [.ref h1, .int 0, .ref h2, .ref h3, .ref h4, .ref h5, .ref h6, .ref h7, .int (-1), .ref h8, .ref h9, .int 250, .ref h10, .int 0, .ref h11, .ref h12, .ref h13])), (h10, .inr (10, [.int 2, .int 7, .ref h14, .int 7])), (h14, .inl (g.2.1 0, 14, .inl f0))] s.heap.size = A at hD hE ⊢
  have hA : ∀ q : Nat, s.heap.size ≤ q → A q := fun q h => by rw [← hAe]; exact Or.inr h
  have hK := hE.1
  have hS : va_S A s.heap s.heap [] := va_S.rf
  replace hP : va_P g.1 vwCl [(h0, .inr (12, [.ref h1, .int 0, .ref h2, .ref h3, .ref h4, .ref h5, .ref h6, .ref h7, .int (-1), .ref h8, .ref h9, .int 250, .ref h10, .int 0, .ref h11, .ref h12, .ref h13])), (h10, .inr (10, [.int 2, .int 7, .ref h14, .int 7])), (h14, .inl (g.2.1 0, 14, .inl f0))] s.heap := hP
  have hl := lv_entry ([.ref h0, .int 6, .int 0]) (n := 3) (Nat.le_of_ble_eq_true rfl)
  rw [lg_entry_eq]
  generalize (lg_sl ([.ref h0, .int 6, .int 0]) ++ List.replicate (3 - (lg_sl ([.ref h0, .int 6, .int 0])).length) Slot.unset).toArray = ls at hl ⊢
  replace hl : lv_has ls 3 [(0, .ref h0), (1, .int 6), (2, .int 0)] := hl
  have hH0 : s.heap.size ≤ s.heap.size := Nat.le_refl _
  refine lv_iload_n hx hb dX11_group_0 rfl (lv_at hl 1 rfl) ?_
  refine lv_if_lt (tgt := 10) hx hb dX11_group_1 (by decide) (fun c9 => absurd c9 (by decide)) (fun _ => ?_)
  refine lv_iload_n hx hb dX11_group_4 rfl (lv_at hl 1 rfl) ?_
  refine lv_bipush (v := 6) hx hb dX11_group_5 (by decide) ?_
  refine lv_icmp_le (tgt := 20) hx hb dX11_group_7 (by decide) (fun _ => ?_) (fun c9 => absurd (by decide) c9)
  refine lv_aload_n hx hb dX11_group_20 rfl (lv_at hl 0 rfl) ?_
  refine va_get (D := g.1) (ci := 12) (v := .ref h10) (C := RX11) (T := TX11) (N := 17) hx hb hts in9_X11_group_18_RX11 hown hK hP 0 rfl rfl 12 (by decide) (hts (.fieldLink RX11 78 "Regexloom" "bounds" "LRegexloom$Table;") (List.mem_of_getElem? (i := 1) rfl)) (fun _ h9 => h9) rfl dX11_group_21 ?_
  refine lv_iload_n hx hb dX11_group_24 rfl (lv_at hl 1 rfl) ?_
  refine lv_iload_n hx hb dX11_group_25 rfl (lv_at hl 2 rfl) ?_
  refine lv_if_eq (tgt := 33) hx hb dX11_group_26 (by decide) (fun _ => ?_) (fun c9 => absurd (by decide) c9)
  refine lv_iconst (v := 0) hx hb dX11_group_33 (by decide) ?_
  have hPc := hP.sub (ws' := [(h10, .inr (10, [.int 2, .int 7, .ref h14, .int 7])), (h14, .inl (g.2.1 0, 14, .inl f0))]) [1, 2] rfl
  have hDc := hD.sub (ws' := [(h10, .inr (10, [.int 2, .int 7, .ref h14, .int 7])), (h14, .inl (g.2.1 0, 14, .inl f0))]) [1, 2] (by decide) rfl
  have hFc := va_free (wc := [(h10, .inr (10, [.int 2, .int 7, .ref h14, .int 7])), (h14, .inl (g.2.1 0, 14, .inl f0))]) hD hS hA [1, 2] rfl
  refine va_calli (va_runV (As := [.int 6, .int 0]) (rest := []) ⟨hx, hb, hml, hown, hts⟩ (c9_X9_get_16 l g h10 h14 _ f0) (cwV 2 hts g9_X11_group_18_0 rfl rfl rfl (by decide +kernel) ⟨Nat.le_of_ble_eq_true rfl, Nat.le_of_ble_eq_true rfl⟩) (mPreV (g := g) (wc := [(h10, .inr (10, [.int 2, .int 7, .ref h14, .int 7])), (h14, .inl (g.2.1 0, 14, .inl f0))]) (C := RX9) (ci := 10) (q0 := 0) hE hS hPc hDc hFc rfl rfl) rfl rfl hl.1 rfl (lv_room (Nat.le_of_ble_eq_true rfl)) dX11_group_34 ⟨Nat.le_of_ble_eq_true rfl, Nat.le_of_ble_eq_true rfl⟩) hS (fun q _ h => hFc q h) hFc (fun r_1 u t H1 locs ht hvm hw hB hz1 hk1 hS => ?_)
  replace hw : (f0 12) = r_1 := Eq.symm hw
  subst hw
  obtain ⟨hP1, hD1⟩ := hB
  rw [ht] at hP1
  obtain ⟨hP, hD⟩ := va_join (wr := [(h0, .inr (12, [.ref h1, .int 0, .ref h2, .ref h3, .ref h4, .ref h5, .ref h6, .ref h7, .int (-1), .ref h8, .ref h9, .int 250, .ref h10, .int 0, .ref h11, .ref h12, .ref h13]))]) (w1 := [(h10, .inr (10, [.int 2, .int 7, .ref h14, .int 7])), (h14, .inl (g.2.1 0, 14, .inl f0))]) hP hD [1, 2] [0] rfl rfl (by decide) (by decide) hk1 hFc hP1 hD1
  clear hP1 hD1 hPc hDc hFc hk1 hz1 hvm ht
  generalize H1 = H at hP hS ⊢
  have hP : va_P g.1 vwCl [(h0, .inr (12, [.ref h1, .int 0, .ref h2, .ref h3, .ref h4, .ref h5, .ref h6, .ref h7, .int (-1), .ref h8, .ref h9, .int 250, .ref h10, .int 0, .ref h11, .ref h12, .ref h13])), (h10, .inr (10, [.int 2, .int 7, .ref h14, .int 7])), (h14, .inl (g.2.1 0, 14, .inl f0))] H := hP
  have hD : va_D A [(h0, .inr (12, [.ref h1, .int 0, .ref h2, .ref h3, .ref h4, .ref h5, .ref h6, .ref h7, .int (-1), .ref h8, .ref h9, .int 250, .ref h10, .int 0, .ref h11, .ref h12, .ref h13])), (h10, .inr (10, [.int 2, .int 7, .ref h14, .int 7])), (h14, .inl (g.2.1 0, 14, .inl f0))] := hD
  refine e_top (y := (f0 12)) (by rfl) ?_
  have hP9 := hP.sub (ws' := [(h0, .inr (12, [.ref h1, .int 0, .ref h2, .ref h3, .ref h4, .ref h5, .ref h6, .ref h7, .int (-1), .ref h8, .ref h9, .int 250, .ref h10, .int 0, .ref h11, .ref h12, .ref h13])), (h10, .inr (10, [.int 2, .int 7, .ref h14, .int 7])), (h14, .inl (g.2.1 0, 14, .inl f0))]) [0, 1, 2] rfl
  have hD9 := hD.sub (ws' := [(h0, .inr (12, [.ref h1, .int 0, .ref h2, .ref h3, .ref h4, .ref h5, .ref h6, .ref h7, .int (-1), .ref h8, .ref h9, .int 250, .ref h10, .int 0, .ref h11, .ref h12, .ref h13])), (h10, .inr (10, [.int 2, .int 7, .ref h14, .int 7])), (h14, .inl (g.2.1 0, 14, .inl f0))]) [0, 1, 2] (by decide) rfl
  subst hAe
  exact W.iret (v := (f0 12)) hx hb hr (fun t ht hW => ⟨⟨(f0 12), (), rfl, rfl, by rw [ht]; exact hP9, hD9⟩, hS.F ht⟩) hS.2.2 dX11_group_37
def w9_L_group_19 : List Cond := [.codeWith yL_group cL_group 5 (some .int) [(0, 10, 13, 21)], .methodLink RL 47 yX11_group, .instanceMethod yX11_group, .selects RX11 yX11_group yX11_group, .initialized RX11, .code yX11_group cX11_group 3 (some .int), .fieldLink RX11 78 "Regexloom" "bounds" "LRegexloom$Table;", .methodLink RX11 225 yX9_get, .instanceMethod yX9_get, .selects RX9 yX9_get yX9_get, .initialized RX9, .code yX9_get cX9_get 3 (some .int), .fieldLink RX9 28 "Regexloom$Table" "size" "I", .fieldLink RX9 9 "Regexloom$Table" "width" "I", .fieldLink RX9 24 "Regexloom$Table" "cells" "[I"] ++ (u_ws RX11 TX11 17 ++ u_ws RX9 TX9 4)
set_option maxRecDepth 20000 in
theorem in9_L_group_19_RX11 : ∀ w ∈ u_ws RX11 TX11 17, w ∈ w9_L_group_19 := by decide +kernel
set_option maxRecDepth 20000 in
theorem in9_L_group_19_RX9 : ∀ w ∈ u_ws RX9 TX9 4, w ∈ w9_L_group_19 := by decide +kernel
set_option maxRecDepth 20000 in
theorem g9_L_group_19_0 : GoodIn w9_L_group_19 (wsV RL 47 RX11 yX11_group w9_X11_group_18) := goodIn_r _ [1, 2, 3, 4, 5, 6, 7, 8, 9, 10, 11, 12, 13, 14, 15, 16, 17, 18, 19, 20, 21, 22, 23, 24, 25, 26, 27, 28, 29, 30, 31, 32, 33, 34, 35] (by decide +kernel) (by decide +kernel)
set_option maxHeartbeats 4000000 in
set_option maxRecDepth 100000 in
theorem c9_L_group_19 (l : Launch) (g : G9) (h0 h1 h2 h3 h4 h5 h6 h7 h8 h9 h10 h11 h12 h13 h14 h15 sz : Nat) : Met l yL_group w9_L_group_19 ({ frames := 2, cells := 0, slots := 0, locals := 44 }) (mP g [(h0, .inr (12, [.ref h2, .int 0, .ref h3, .ref h4, .ref h5, .ref h6, .ref h7, .ref h8, .int (-1), .ref h9, .ref h10, .int 250, .ref h11, .int 0, .ref h12, .ref h13, .ref h14])), (h11, .inr (10, [.int 2, .int 7, .ref h15, .int 7])), (h15, .inl (g.2.1 0, 14, .inl (upd (upd (upd (upd (upd (upd (upd (upd (upd (upd (upd (upd (upd (upd (fun _ => 0) 0 (-1)) 1 (-1)) 2 (-1)) 3 (-1)) 4 (-1)) 5 (-1)) 6 (-1)) 7 (-1)) 8 (-1)) 9 (-1)) 10 (-1)) 11 (-1)) 12 (-1)) 13 (-1)))), (h1, .inl (g.2.1 2, 1, .inr (.inl (fun _ => 0))))] sz [.ref h0, .int 6, .int 0, .ref h1]) (va_Qi (fun (r : Int32) (_ : Unit) => r = 0) (fun (_ : Unit) (t : State) => mB g [(h0, .inr (12, [.ref h2, .int 0, .ref h3, .ref h4, .ref h5, .ref h6, .ref h7, .ref h8, .int (-1), .ref h9, .ref h10, .int 250, .ref h11, .int 0, .ref h12, .ref h13, .ref h14])), (h11, .inr (10, [.int 2, .int 7, .ref h15, .int 7])), (h15, .inl (g.2.1 0, 14, .inl (upd (upd (upd (upd (upd (upd (upd (upd (upd (upd (upd (upd (upd (upd (fun _ => 0) 0 (-1)) 1 (-1)) 2 (-1)) 3 (-1)) 4 (-1)) 5 (-1)) 6 (-1)) 7 (-1)) 8 (-1)) 9 (-1)) 10 (-1)) 11 (-1)) 12 (-1)) 13 (-1)))), (h1, .inl (g.2.1 2, 1, .inr (.inl (fun _ => 0))))] sz [(h0, .inr (12, [.ref h2, .int 0, .ref h3, .ref h4, .ref h5, .ref h6, .ref h7, .ref h8, .int (-1), .ref h9, .ref h10, .int 250, .ref h11, .int 0, .ref h12, .ref h13, .ref h14])), (h11, .inr (10, [.int 2, .int 7, .ref h15, .int 7])), (h15, .inl (g.2.1 0, 14, .inl (upd (upd (upd (upd (upd (upd (upd (upd (upd (upd (upd (upd (upd (upd (fun _ => 0) 0 (-1)) 1 (-1)) 2 (-1)) 3 (-1)) 4 (-1)) 5 (-1)) 6 (-1)) 7 (-1)) 8 (-1)) 9 (-1)) 10 (-1)) 11 (-1)) 12 (-1)) 13 (-1)))), (h1, .inl (g.2.1 2, 1, .inr (.inl (vp_updL (fun _ => 0) 0 (-1)))))] t) (va_A [(h0, .inr (12, [.ref h2, .int 0, .ref h3, .ref h4, .ref h5, .ref h6, .ref h7, .ref h8, .int (-1), .ref h9, .ref h10, .int 250, .ref h11, .int 0, .ref h12, .ref h13, .ref h14])), (h11, .inr (10, [.int 2, .int 7, .ref h15, .int 7])), (h15, .inl (g.2.1 0, 14, .inl (upd (upd (upd (upd (upd (upd (upd (upd (upd (upd (upd (upd (upd (upd (fun _ => 0) 0 (-1)) 1 (-1)) 2 (-1)) 3 (-1)) 4 (-1)) 5 (-1)) 6 (-1)) 7 (-1)) 8 (-1)) 9 (-1)) 10 (-1)) 11 (-1)) 12 (-1)) 13 (-1)))), (h1, .inl (g.2.1 2, 1, .inr (.inl (fun _ => 0))))] sz)) 0 0 (va_A [(h0, .inr (12, [.ref h2, .int 0, .ref h3, .ref h4, .ref h5, .ref h6, .ref h7, .ref h8, .int (-1), .ref h9, .ref h10, .int 250, .ref h11, .int 0, .ref h12, .ref h13, .ref h14])), (h11, .inr (10, [.int 2, .int 7, .ref h15, .int 7])), (h15, .inl (g.2.1 0, 14, .inl (upd (upd (upd (upd (upd (upd (upd (upd (upd (upd (upd (upd (upd (upd (fun _ => 0) 0 (-1)) 1 (-1)) 2 (-1)) 3 (-1)) 4 (-1)) 5 (-1)) 6 (-1)) 7 (-1)) 8 (-1)) 9 (-1)) 10 (-1)) 11 (-1)) 12 (-1)) 13 (-1)))), (h1, .inl (g.2.1 2, 1, .inr (.inl (fun _ => 0))))] sz) := by
  refine va_MetW (cc := cL_group) (maxL := 5) (ret := (some .int)) (by decide) rfl ?_
  intro p e s m args below meth c s₁ B hml hv
  obtain ⟨rfl, hsz, hP, hD0, hE⟩ := hv
  have hx := B.exec
  have hb := B.bytes
  have hr := B.returns
  have hts := atoms_spec (ws := w9_L_group_19) B.pre
  have hown : s.vm.findClass RL = some m.cls := findClass_of_methodNamed B.named
  have hlocks := B.notSynchronized
  have htab := vx_table (x := yL_group) B (hts (.codeWith yL_group cL_group 5 (some .int) [(0, 10, 13, 21)]) (List.mem_of_getElem? (i := 0) rfl))
  subst hsz
  have hD := hD0.self (sz := s.heap.size)
  generalize hAe : va_A [(h0, .inr (12, [.ref h2, .int 0, .ref h3, .ref h4, .ref h5, .ref h6, .ref h7, .ref h8, .int (-1), .ref h9, .ref h10, .int 250, .ref h11, .int 0, .ref h12, .ref h13, .ref h14])), (h11, .inr (10, [.int 2, .int 7, .ref h15, .int 7])), (h15, .inl (g.2.1 0, 14, .inl (upd (upd (upd (upd (upd (upd (upd (upd (upd (upd (upd (upd (upd (upd (fun _ => 0) 0 (-1)) 1 (-1)) 2 (-1)) 3 (-1)) 4 (-1)) 5 (-1)) 6 (-1)) 7 (-1)) 8 (-1)) 9 (-1)) 10 (-1)) 11 (-1)) 12 (-1)) 13 (-1)))), (h1, .inl (g.2.1 2, 1, .inr (.inl (fun _ => 0))))] s.heap.size = A at hD hE ⊢
  have hA : ∀ q : Nat, s.heap.size ≤ q → A q := fun q h => by rw [← hAe]; exact Or.inr h
  have hK := hE.1
  have hS : va_S A s.heap s.heap [] := va_S.rf
  replace hP : va_P g.1 vwCl [(h0, .inr (12, [.ref h2, .int 0, .ref h3, .ref h4, .ref h5, .ref h6, .ref h7, .ref h8, .int (-1), .ref h9, .ref h10, .int 250, .ref h11, .int 0, .ref h12, .ref h13, .ref h14])), (h11, .inr (10, [.int 2, .int 7, .ref h15, .int 7])), (h15, .inl (g.2.1 0, 14, .inl (upd (upd (upd (upd (upd (upd (upd (upd (upd (upd (upd (upd (upd (upd (fun _ => 0) 0 (-1)) 1 (-1)) 2 (-1)) 3 (-1)) 4 (-1)) 5 (-1)) 6 (-1)) 7 (-1)) 8 (-1)) 9 (-1)) 10 (-1)) 11 (-1)) 12 (-1)) 13 (-1)))), (h1, .inl (g.2.1 2, 1, .inr (.inl (fun _ => 0))))] s.heap := hP
  have hl := lv_entry ([.ref h0, .int 6, .int 0, .ref h1]) (n := 5) (Nat.le_of_ble_eq_true rfl)
  rw [lg_entry_eq]
  generalize (lg_sl ([.ref h0, .int 6, .int 0, .ref h1]) ++ List.replicate (5 - (lg_sl ([.ref h0, .int 6, .int 0, .ref h1])).length) Slot.unset).toArray = ls at hl ⊢
  replace hl : lv_has ls 5 [(0, .ref h0), (1, .int 6), (2, .int 0), (3, .ref h1)] := hl
  have hH0 : s.heap.size ≤ s.heap.size := Nat.le_refl _
  refine lv_aload_n hx hb dL_group_0 rfl (lv_at hl 3 rfl) ?_
  refine lv_iconst (v := 0) hx hb dL_group_1 (by decide) ?_
  refine lv_aload_n hx hb dL_group_2 rfl (lv_at hl 0 rfl) ?_
  refine lv_iload_n hx hb dL_group_3 rfl (lv_at hl 1 rfl) ?_
  refine lv_iload_n hx hb dL_group_4 rfl (lv_at hl 2 rfl) ?_
  have hPc := hP.sub (ws' := [(h0, .inr (12, [.ref h2, .int 0, .ref h3, .ref h4, .ref h5, .ref h6, .ref h7, .ref h8, .int (-1), .ref h9, .ref h10, .int 250, .ref h11, .int 0, .ref h12, .ref h13, .ref h14])), (h11, .inr (10, [.int 2, .int 7, .ref h15, .int 7])), (h15, .inl (g.2.1 0, 14, .inl (upd (upd (upd (upd (upd (upd (upd (upd (upd (upd (upd (upd (upd (upd (fun _ => 0) 0 (-1)) 1 (-1)) 2 (-1)) 3 (-1)) 4 (-1)) 5 (-1)) 6 (-1)) 7 (-1)) 8 (-1)) 9 (-1)) 10 (-1)) 11 (-1)) 12 (-1)) 13 (-1))))]) [0, 1, 2] rfl
  have hDc := hD.sub (ws' := [(h0, .inr (12, [.ref h2, .int 0, .ref h3, .ref h4, .ref h5, .ref h6, .ref h7, .ref h8, .int (-1), .ref h9, .ref h10, .int 250, .ref h11, .int 0, .ref h12, .ref h13, .ref h14])), (h11, .inr (10, [.int 2, .int 7, .ref h15, .int 7])), (h15, .inl (g.2.1 0, 14, .inl (upd (upd (upd (upd (upd (upd (upd (upd (upd (upd (upd (upd (upd (upd (fun _ => 0) 0 (-1)) 1 (-1)) 2 (-1)) 3 (-1)) 4 (-1)) 5 (-1)) 6 (-1)) 7 (-1)) 8 (-1)) 9 (-1)) 10 (-1)) 11 (-1)) 12 (-1)) 13 (-1))))]) [0, 1, 2] (by decide) rfl
  have hFc := va_free (wc := [(h0, .inr (12, [.ref h2, .int 0, .ref h3, .ref h4, .ref h5, .ref h6, .ref h7, .ref h8, .int (-1), .ref h9, .ref h10, .int 250, .ref h11, .int 0, .ref h12, .ref h13, .ref h14])), (h11, .inr (10, [.int 2, .int 7, .ref h15, .int 7])), (h15, .inl (g.2.1 0, 14, .inl (upd (upd (upd (upd (upd (upd (upd (upd (upd (upd (upd (upd (upd (upd (fun _ => 0) 0 (-1)) 1 (-1)) 2 (-1)) 3 (-1)) 4 (-1)) 5 (-1)) 6 (-1)) 7 (-1)) 8 (-1)) 9 (-1)) 10 (-1)) 11 (-1)) 12 (-1)) 13 (-1))))]) hD hS hA [0, 1, 2] rfl
  refine va_calli (va_runV (As := [.int 6, .int 0]) (rest := [.int 0, .ref h1]) ⟨hx, hb, hml, hown, hts⟩ (c9_X11_group_18 l g h0 h2 h3 h4 h5 h6 h7 h8 h9 h10 h11 h12 h13 h14 h15 _ (upd (upd (upd (upd (upd (upd (upd (upd (upd (upd (upd (upd (upd (upd (fun _ => 0) 0 (-1)) 1 (-1)) 2 (-1)) 3 (-1)) 4 (-1)) 5 (-1)) 6 (-1)) 7 (-1)) 8 (-1)) 9 (-1)) 10 (-1)) 11 (-1)) 12 (-1)) 13 (-1))) (cwV 2 hts g9_L_group_19_0 rfl rfl rfl (by decide +kernel) ⟨Nat.le_of_ble_eq_true rfl, Nat.le_of_ble_eq_true rfl⟩) (mPreV (g := g) (wc := [(h0, .inr (12, [.ref h2, .int 0, .ref h3, .ref h4, .ref h5, .ref h6, .ref h7, .ref h8, .int (-1), .ref h9, .ref h10, .int 250, .ref h11, .int 0, .ref h12, .ref h13, .ref h14])), (h11, .inr (10, [.int 2, .int 7, .ref h15, .int 7])), (h15, .inl (g.2.1 0, 14, .inl (upd (upd (upd (upd (upd (upd (upd (upd (upd (upd (upd (upd (upd (upd (fun _ => 0) 0 (-1)) 1 (-1)) 2 (-1)) 3 (-1)) 4 (-1)) 5 (-1)) 6 (-1)) 7 (-1)) 8 (-1)) 9 (-1)) 10 (-1)) 11 (-1)) 12 (-1)) 13 (-1))))]) (C := RX11) (ci := 12) (q0 := 0) hE hS hPc hDc hFc rfl rfl) rfl rfl hl.1 rfl (lv_room (Nat.le_of_ble_eq_true rfl)) dL_group_5 ⟨Nat.le_of_ble_eq_true rfl, Nat.le_of_ble_eq_true rfl⟩) hS (fun q _ h => hFc q h) hFc (fun r_1 u t H1 locs ht hvm hw hB hz1 hk1 hS => ?_)
  replace hw : ((upd (upd (upd (upd (upd (upd (upd (upd (upd (upd (upd (upd (upd (upd (fun _ => 0) 0 (-1)) 1 (-1)) 2 (-1)) 3 (-1)) 4 (-1)) 5 (-1)) 6 (-1)) 7 (-1)) 8 (-1)) 9 (-1)) 10 (-1)) 11 (-1)) 12 (-1)) 13 (-1)) 12) = r_1 := Eq.symm hw
  subst hw
  obtain ⟨hP1, hD1⟩ := hB
  rw [ht] at hP1
  obtain ⟨hP, hD⟩ := va_join (wr := [(h1, .inl (g.2.1 2, 1, .inr (.inl (fun _ => 0))))]) (w1 := [(h0, .inr (12, [.ref h2, .int 0, .ref h3, .ref h4, .ref h5, .ref h6, .ref h7, .ref h8, .int (-1), .ref h9, .ref h10, .int 250, .ref h11, .int 0, .ref h12, .ref h13, .ref h14])), (h11, .inr (10, [.int 2, .int 7, .ref h15, .int 7])), (h15, .inl (g.2.1 0, 14, .inl (upd (upd (upd (upd (upd (upd (upd (upd (upd (upd (upd (upd (upd (upd (fun _ => 0) 0 (-1)) 1 (-1)) 2 (-1)) 3 (-1)) 4 (-1)) 5 (-1)) 6 (-1)) 7 (-1)) 8 (-1)) 9 (-1)) 10 (-1)) 11 (-1)) 12 (-1)) 13 (-1))))]) hP hD [0, 1, 2] [3] rfl rfl (by decide) (by decide) hk1 hFc hP1 hD1
  clear hP1 hD1 hPc hDc hFc hk1 hz1 hvm ht
  generalize H1 = H at hP hS ⊢
  have hP : va_P g.1 vwCl [(h1, .inl (g.2.1 2, 1, .inr (.inl (fun _ => 0)))), (h0, .inr (12, [.ref h2, .int 0, .ref h3, .ref h4, .ref h5, .ref h6, .ref h7, .ref h8, .int (-1), .ref h9, .ref h10, .int 250, .ref h11, .int 0, .ref h12, .ref h13, .ref h14])), (h11, .inr (10, [.int 2, .int 7, .ref h15, .int 7])), (h15, .inl (g.2.1 0, 14, .inl (upd (upd (upd (upd (upd (upd (upd (upd (upd (upd (upd (upd (upd (upd (fun _ => 0) 0 (-1)) 1 (-1)) 2 (-1)) 3 (-1)) 4 (-1)) 5 (-1)) 6 (-1)) 7 (-1)) 8 (-1)) 9 (-1)) 10 (-1)) 11 (-1)) 12 (-1)) 13 (-1))))] H := hP
  have hD : va_D A [(h1, .inl (g.2.1 2, 1, .inr (.inl (fun _ => 0)))), (h0, .inr (12, [.ref h2, .int 0, .ref h3, .ref h4, .ref h5, .ref h6, .ref h7, .ref h8, .int (-1), .ref h9, .ref h10, .int 250, .ref h11, .int 0, .ref h12, .ref h13, .ref h14])), (h11, .inr (10, [.int 2, .int 7, .ref h15, .int 7])), (h15, .inl (g.2.1 0, 14, .inl (upd (upd (upd (upd (upd (upd (upd (upd (upd (upd (upd (upd (upd (upd (fun _ => 0) 0 (-1)) 1 (-1)) 2 (-1)) 3 (-1)) 4 (-1)) 5 (-1)) 6 (-1)) 7 (-1)) 8 (-1)) 9 (-1)) 10 (-1)) 11 (-1)) 12 (-1)) 13 (-1))))] := hD
  refine e_top (y := (-1)) (by rfl) ?_
  refine lv_i2l (v := (-1)) hx hb dL_group_8 (by decide) ?_
  refine va_last hx hb hK hP hD hS 0 2 rfl rfl (vp_in_nI (n := 0) (by decide) (by decide)) dL_group_9 (fun H locs hP hD hS => ?_)
  have hP : va_P g.1 vwCl [(h1, .inl (g.2.1 2, 1, .inr (.inl (vp_updL (fun _ => 0) 0 (-1))))), (h0, .inr (12, [.ref h2, .int 0, .ref h3, .ref h4, .ref h5, .ref h6, .ref h7, .ref h8, .int (-1), .ref h9, .ref h10, .int 250, .ref h11, .int 0, .ref h12, .ref h13, .ref h14])), (h11, .inr (10, [.int 2, .int 7, .ref h15, .int 7])), (h15, .inl (g.2.1 0, 14, .inl (upd (upd (upd (upd (upd (upd (upd (upd (upd (upd (upd (upd (upd (upd (fun _ => 0) 0 (-1)) 1 (-1)) 2 (-1)) 3 (-1)) 4 (-1)) 5 (-1)) 6 (-1)) 7 (-1)) 8 (-1)) 9 (-1)) 10 (-1)) 11 (-1)) 12 (-1)) 13 (-1))))] H := hP
  have hD : va_D A [(h1, .inl (g.2.1 2, 1, .inr (.inl (vp_updL (fun _ => 0) 0 (-1))))), (h0, .inr (12, [.ref h2, .int 0, .ref h3, .ref h4, .ref h5, .ref h6, .ref h7, .ref h8, .int (-1), .ref h9, .ref h10, .int 250, .ref h11, .int 0, .ref h12, .ref h13, .ref h14])), (h11, .inr (10, [.int 2, .int 7, .ref h15, .int 7])), (h15, .inl (g.2.1 0, 14, .inl (upd (upd (upd (upd (upd (upd (upd (upd (upd (upd (upd (upd (upd (upd (fun _ => 0) 0 (-1)) 1 (-1)) 2 (-1)) 3 (-1)) 4 (-1)) 5 (-1)) 6 (-1)) 7 (-1)) 8 (-1)) 9 (-1)) 10 (-1)) 11 (-1)) 12 (-1)) 13 (-1))))] := hD
  refine lv_goto (tgt := 17) hx hb dL_group_10 (by decide) ?_
  refine lv_iconst (v := 0) hx hb dL_group_17 (by decide) ?_
  have hP9 := hP.sub (ws' := [(h0, .inr (12, [.ref h2, .int 0, .ref h3, .ref h4, .ref h5, .ref h6, .ref h7, .ref h8, .int (-1), .ref h9, .ref h10, .int 250, .ref h11, .int 0, .ref h12, .ref h13, .ref h14])), (h11, .inr (10, [.int 2, .int 7, .ref h15, .int 7])), (h15, .inl (g.2.1 0, 14, .inl (upd (upd (upd (upd (upd (upd (upd (upd (upd (upd (upd (upd (upd (upd (fun _ => 0) 0 (-1)) 1 (-1)) 2 (-1)) 3 (-1)) 4 (-1)) 5 (-1)) 6 (-1)) 7 (-1)) 8 (-1)) 9 (-1)) 10 (-1)) 11 (-1)) 12 (-1)) 13 (-1)))), (h1, .inl (g.2.1 2, 1, .inr (.inl (vp_updL (fun _ => 0) 0 (-1)))))]) [1, 2, 3, 0] rfl
  have hD9 := hD.sub (ws' := [(h0, .inr (12, [.ref h2, .int 0, .ref h3, .ref h4, .ref h5, .ref h6, .ref h7, .ref h8, .int (-1), .ref h9, .ref h10, .int 250, .ref h11, .int 0, .ref h12, .ref h13, .ref h14])), (h11, .inr (10, [.int 2, .int 7, .ref h15, .int 7])), (h15, .inl (g.2.1 0, 14, .inl (upd (upd (upd (upd (upd (upd (upd (upd (upd (upd (upd (upd (upd (upd (fun _ => 0) 0 (-1)) 1 (-1)) 2 (-1)) 3 (-1)) 4 (-1)) 5 (-1)) 6 (-1)) 7 (-1)) 8 (-1)) 9 (-1)) 10 (-1)) 11 (-1)) 12 (-1)) 13 (-1)))), (h1, .inl (g.2.1 2, 1, .inr (.inl (vp_updL (fun _ => 0) 0 (-1)))))]) [1, 2, 3, 0] (by decide) rfl
  subst hAe
  exact W.iret (v := 0) hx hb hr (fun t ht hW => ⟨⟨0, (), rfl, rfl, by rw [ht]; exact hP9, hD9⟩, hS.F ht⟩) hS.2.2 dL_group_18
def w9_X21_group_18 : List Cond := [.code yX21_group cX21_group 3 (some .int), .methodLink RX21 160 yX21_in, .static yX21_in, .initialized RX21, .code yX21_in cX21_in 3 (some .boolean), .methodLink RX21 154 yX21_refused, .instanceMethod yX21_refused, .selects RX21 yX21_refused yX21_refused, .code yX21_refused cX21_refused 2 (some .boolean), .fieldLink RX21 144 "RegexloomModel" "refusal" "I", .fieldLink RX21 107 "RegexloomModel" "told" "[I"] ++ (u_ws RX21 TX21 32)
set_option maxRecDepth 20000 in
theorem in9_X21_group_18_RX21 : ∀ w ∈ u_ws RX21 TX21 32, w ∈ w9_X21_group_18 := by decide +kernel
set_option maxRecDepth 20000 in
theorem g9_X21_group_18_0 : GoodIn w9_X21_group_18 (va_wsS RX21 160 yX21_in w9_X21_in_22) := goodIn_r _ [1, 2, 3, 4] (by decide +kernel) (by decide +kernel)
set_option maxRecDepth 20000 in
theorem g9_X21_group_18_1 : GoodIn w9_X21_group_18 (wsV RX21 154 RX21 yX21_refused w9_X21_refused_1) := goodIn_r _ [5, 6, 7, 3, 8, 9, 11, 12, 13, 14, 15, 16, 17, 18, 19, 20, 21, 22, 23, 24, 25, 26, 27, 28, 29, 30, 31, 32, 33, 34, 35, 36, 37, 38, 39, 40, 41, 42] (by decide +kernel) (by decide +kernel)
set_option maxHeartbeats 4000000 in
set_option maxRecDepth 100000 in
theorem c9_X21_group_18 (l : Launch) (g : G9) (h0 h1 h2 h3 h4 h5 h6 h7 h8 h9 h10 h11 h12 h13 h14 h15 h16 sz : Nat) (f0 : Nat → Int32) : Met l yX21_group w9_X21_group_18 ({ frames := 1, cells := 0, slots := 0, locals := 22 }) (mP g [(h0, .inr (22, [.int 0, .ref h1, .int 0, .ref h2, .int 0, .ref h3, .int 250, .ref h4, .int 0, .ref h5, .ref h6, .ref h7, .int 0, .ref h8, .ref h9, .ref h10, .int 0, .null, .int 0, .null, .int 0, .int 0, .int 0, .ref h11, .int 0, .ref h12, .ref h13, .ref h14, .int 0, .ref h15, .ref h16, .int 0])), (h7, .inl (g.2.1 0, 14, .inl f0))] sz [.ref h0, .int 6, .int 0]) (va_Qi (fun (r : Int32) (_ : Unit) => r = (f0 12)) (fun (_ : Unit) (t : State) => mB g [(h0, .inr (22, [.int 0, .ref h1, .int 0, .ref h2, .int 0, .ref h3, .int 250, .ref h4, .int 0, .ref h5, .ref h6, .ref h7, .int 0, .ref h8, .ref h9, .ref h10, .int 0, .null, .int 0, .null, .int 0, .int 0, .int 0, .ref h11, .int 0, .ref h12, .ref h13, .ref h14, .int 0, .ref h15, .ref h16, .int 0])), (h7, .inl (g.2.1 0, 14, .inl f0))] sz [(h0, .inr (22, [.int 0, .ref h1, .int 0, .ref h2, .int 0, .ref h3, .int 250, .ref h4, .int 0, .ref h5, .ref h6, .ref h7, .int 0, .ref h8, .ref h9, .ref h10, .int 0, .null, .int 0, .null, .int 0, .int 0, .int 0, .ref h11, .int 0, .ref h12, .ref h13, .ref h14, .int 0, .ref h15, .ref h16, .int 0])), (h7, .inl (g.2.1 0, 14, .inl f0))] t) (va_A [(h0, .inr (22, [.int 0, .ref h1, .int 0, .ref h2, .int 0, .ref h3, .int 250, .ref h4, .int 0, .ref h5, .ref h6, .ref h7, .int 0, .ref h8, .ref h9, .ref h10, .int 0, .null, .int 0, .null, .int 0, .int 0, .int 0, .ref h11, .int 0, .ref h12, .ref h13, .ref h14, .int 0, .ref h15, .ref h16, .int 0])), (h7, .inl (g.2.1 0, 14, .inl f0))] sz)) 0 0 (va_A [(h0, .inr (22, [.int 0, .ref h1, .int 0, .ref h2, .int 0, .ref h3, .int 250, .ref h4, .int 0, .ref h5, .ref h6, .ref h7, .int 0, .ref h8, .ref h9, .ref h10, .int 0, .null, .int 0, .null, .int 0, .int 0, .int 0, .ref h11, .int 0, .ref h12, .ref h13, .ref h14, .int 0, .ref h15, .ref h16, .int 0])), (h7, .inl (g.2.1 0, 14, .inl f0))] sz) := by
  refine Met.ofW (cc := cX21_group) (maxL := 3) (ret := (some .int)) (by decide) rfl ?_
  intro p e s m args below meth c s₁ B hml hv
  obtain ⟨rfl, hsz, hP, hD0, hE⟩ := hv
  have hx := B.exec
  have hb := B.bytes
  have hr := B.returns
  have hts := atoms_spec (ws := w9_X21_group_18) B.pre
  have hown : s.vm.findClass RX21 = some m.cls := findClass_of_methodNamed B.named
  have hlocks := B.notSynchronized
  subst hsz
  have hD := hD0.self (sz := s.heap.size)
  generalize hAe : va_A [(h0, .inr (22, [.int 0, .ref h1, .int 0, .ref h2, .int 0, .ref h3, .int 250, .ref h4, .int 0, .ref h5, .ref h6, .ref h7, .int 0, .ref h8, .ref h9, .ref h10, .int 0, .null, .int 0, .null, .int 0, .int 0, .int 0, .ref h11, .int 0, .ref h12, .ref h13, .ref h14, .int 0, .ref h15, .ref h16, .int 0])), (h7, .inl (g.2.1 0, 14, .inl f0))] s.heap.size = A at hD hE ⊢
  have hA : ∀ q : Nat, s.heap.size ≤ q → A q := fun q h => by rw [← hAe]; exact Or.inr h
  have hK := hE.1
  have hS : va_S A s.heap s.heap [] := va_S.rf
  replace hP : va_P g.1 vwCl [(h0, .inr (22, [.int 0, .ref h1, .int 0, .ref h2, .int 0, .ref h3, .int 250, .ref h4, .int 0, .ref h5, .ref h6, .ref h7, .int 0, .ref h8, .ref h9, .ref h10, .int 0, .null, .int 0, .null, .int 0, .int 0, .int 0, .ref h11, .int 0, .ref h12, .ref h13, .ref h14, .int 0, .ref h15, .ref h16, .int 0])), (h7, .inl (g.2.1 0, 14, .inl f0))] s.heap := hP
  have hl := lv_entry ([.ref h0, .int 6, .int 0]) (n := 3) (Nat.le_of_ble_eq_true rfl)
  rw [lg_entry_eq]
  generalize (lg_sl ([.ref h0, .int 6, .int 0]) ++ List.replicate (3 - (lg_sl ([.ref h0, .int 6, .int 0])).length) Slot.unset).toArray = ls at hl ⊢
  replace hl : lv_has ls 3 [(0, .ref h0), (1, .int 6), (2, .int 0)] := hl
  have hH0 : s.heap.size ≤ s.heap.size := Nat.le_refl _
  refine lv_aload_n hx hb dX21_group_0 rfl (lv_at hl 0 rfl) ?_
  refine lv_iload_n hx hb dX21_group_1 rfl (lv_at hl 1 rfl) ?_
  refine lv_iconst (v := 0) hx hb dX21_group_2 (by decide) ?_
  refine lv_bipush (v := 6) hx hb dX21_group_3 (by decide) ?_
  have hPc := hP.sub (ws' := []) [] rfl
  have hDc := hD.sub (ws' := []) [] (by decide) rfl
  have hFc := va_free (wc := []) hD hS hA [] rfl
  refine va_calli (va_runS (As := [.int 6, .int 0, .int 6]) (rest := [.ref h0]) ⟨hx, hb, hml, hown, hts⟩ (c9_X21_in_22 l g _) (va_cwS 3 hts g9_X21_group_18_0 rfl rfl rfl (by decide +kernel) ⟨Nat.le_of_ble_eq_true rfl, Nat.le_of_ble_eq_true rfl⟩) (mPreS (g := g) (wc := []) hE hS hPc hDc hFc) rfl rfl hl.1 rfl (lv_room (Nat.le_of_ble_eq_true rfl)) dX21_group_5 ⟨Nat.le_of_ble_eq_true rfl, Nat.le_of_ble_eq_true rfl⟩) hS (fun q _ h => hFc q h) hFc (fun r_1 u t H1 locs ht hvm hw hB hz1 hk1 hS => ?_)
  replace hw : 1 = r_1 := Eq.symm hw
  subst hw
  obtain ⟨hP1, hD1⟩ := hB
  rw [ht] at hP1
  obtain ⟨hP, hD⟩ := va_join (wr := [(h0, .inr (22, [.int 0, .ref h1, .int 0, .ref h2, .int 0, .ref h3, .int 250, .ref h4, .int 0, .ref h5, .ref h6, .ref h7, .int 0, .ref h8, .ref h9, .ref h10, .int 0, .null, .int 0, .null, .int 0, .int 0, .int 0, .ref h11, .int 0, .ref h12, .ref h13, .ref h14, .int 0, .ref h15, .ref h16, .int 0])), (h7, .inl (g.2.1 0, 14, .inl f0))]) (w1 := []) hP hD [] [0, 1] rfl rfl (by decide) (by decide) hk1 hFc hP1 hD1
  clear hP1 hD1 hPc hDc hFc hk1 hz1 hvm ht
  generalize H1 = H at hP hS ⊢
  have hP : va_P g.1 vwCl [(h0, .inr (22, [.int 0, .ref h1, .int 0, .ref h2, .int 0, .ref h3, .int 250, .ref h4, .int 0, .ref h5, .ref h6, .ref h7, .int 0, .ref h8, .ref h9, .ref h10, .int 0, .null, .int 0, .null, .int 0, .int 0, .int 0, .ref h11, .int 0, .ref h12, .ref h13, .ref h14, .int 0, .ref h15, .ref h16, .int 0])), (h7, .inl (g.2.1 0, 14, .inl f0))] H := hP
  have hD : va_D A [(h0, .inr (22, [.int 0, .ref h1, .int 0, .ref h2, .int 0, .ref h3, .int 250, .ref h4, .int 0, .ref h5, .ref h6, .ref h7, .int 0, .ref h8, .ref h9, .ref h10, .int 0, .null, .int 0, .null, .int 0, .int 0, .int 0, .ref h11, .int 0, .ref h12, .ref h13, .ref h14, .int 0, .ref h15, .ref h16, .int 0])), (h7, .inl (g.2.1 0, 14, .inl f0))] := hD
  refine lv_if_eq (tgt := 15) hx hb dX21_group_8 (by decide) (fun c9 => absurd c9 (by decide)) (fun _ => ?_)
  refine lv_iconst (v := 0) hx hb dX21_group_11 (by decide) ?_
  refine lv_goto (tgt := 16) hx hb dX21_group_12 (by decide) ?_
  have hPc := hP.sub (ws' := [(h0, .inr (22, [.int 0, .ref h1, .int 0, .ref h2, .int 0, .ref h3, .int 250, .ref h4, .int 0, .ref h5, .ref h6, .ref h7, .int 0, .ref h8, .ref h9, .ref h10, .int 0, .null, .int 0, .null, .int 0, .int 0, .int 0, .ref h11, .int 0, .ref h12, .ref h13, .ref h14, .int 0, .ref h15, .ref h16, .int 0]))]) [0] rfl
  have hDc := hD.sub (ws' := [(h0, .inr (22, [.int 0, .ref h1, .int 0, .ref h2, .int 0, .ref h3, .int 250, .ref h4, .int 0, .ref h5, .ref h6, .ref h7, .int 0, .ref h8, .ref h9, .ref h10, .int 0, .null, .int 0, .null, .int 0, .int 0, .int 0, .ref h11, .int 0, .ref h12, .ref h13, .ref h14, .int 0, .ref h15, .ref h16, .int 0]))]) [0] (by decide) rfl
  have hFc := va_free (wc := [(h0, .inr (22, [.int 0, .ref h1, .int 0, .ref h2, .int 0, .ref h3, .int 250, .ref h4, .int 0, .ref h5, .ref h6, .ref h7, .int 0, .ref h8, .ref h9, .ref h10, .int 0, .null, .int 0, .null, .int 0, .int 0, .int 0, .ref h11, .int 0, .ref h12, .ref h13, .ref h14, .int 0, .ref h15, .ref h16, .int 0]))]) hD hS hA [0] rfl
  refine va_calli (va_runV (As := [.int 0]) (rest := []) ⟨hx, hb, hml, hown, hts⟩ (c9_X21_refused_1 l g h0 h1 h2 h3 h4 h5 h6 h7 h8 h9 h10 h11 h12 h13 h14 h15 h16 _) (cwV 1 hts g9_X21_group_18_1 rfl rfl rfl (by decide +kernel) ⟨Nat.le_of_ble_eq_true rfl, Nat.le_of_ble_eq_true rfl⟩) (mPreV (g := g) (wc := [(h0, .inr (22, [.int 0, .ref h1, .int 0, .ref h2, .int 0, .ref h3, .int 250, .ref h4, .int 0, .ref h5, .ref h6, .ref h7, .int 0, .ref h8, .ref h9, .ref h10, .int 0, .null, .int 0, .null, .int 0, .int 0, .int 0, .ref h11, .int 0, .ref h12, .ref h13, .ref h14, .int 0, .ref h15, .ref h16, .int 0]))]) (C := RX21) (ci := 22) (q0 := 0) hE hS hPc hDc hFc rfl rfl) rfl rfl hl.1 rfl (lv_room (Nat.le_of_ble_eq_true rfl)) dX21_group_16 ⟨Nat.le_of_ble_eq_true rfl, Nat.le_of_ble_eq_true rfl⟩) hS (fun q _ h => hFc q h) hFc (fun r_2 u t H1 locs ht hvm hw hB hz1 hk1 hS => ?_)
  replace hw : 0 = r_2 := Eq.symm hw
  subst hw
  obtain ⟨hP1, hD1⟩ := hB
  rw [ht] at hP1
  obtain ⟨hP, hD⟩ := va_join (wr := [(h7, .inl (g.2.1 0, 14, .inl f0))]) (w1 := [(h0, .inr (22, [.int 0, .ref h1, .int 0, .ref h2, .int 0, .ref h3, .int 250, .ref h4, .int 0, .ref h5, .ref h6, .ref h7, .int 0, .ref h8, .ref h9, .ref h10, .int 0, .null, .int 0, .null, .int 0, .int 0, .int 0, .ref h11, .int 0, .ref h12, .ref h13, .ref h14, .int 0, .ref h15, .ref h16, .int 0]))]) hP hD [0] [1] rfl rfl (by decide) (by decide) hk1 hFc hP1 hD1
  clear hP1 hD1 hPc hDc hFc hk1 hz1 hvm ht
  generalize H1 = H at hP hS ⊢
  have hP : va_P g.1 vwCl [(h7, .inl (g.2.1 0, 14, .inl f0)), (h0, .inr (22, [.int 0, .ref h1, .int 0, .ref h2, .int 0, .ref h3, .int 250, .ref h4, .int 0, .ref h5, .ref h6, .ref h7, .int 0, .ref h8, .ref h9, .ref h10, .int 0, .null, .int 0, .null, .int 0, .int 0, .int 0, .ref h11, .int 0, .ref h12, .ref h13, .ref h14, .int 0, .ref h15, .ref h16, .int 0]))] H := hP
  have hD : va_D A [(h7, .inl (g.2.1 0, 14, .inl f0)), (h0, .inr (22, [.int 0, .ref h1, .int 0, .ref h2, .int 0, .ref h3, .int 250, .ref h4, .int 0, .ref h5, .ref h6, .ref h7, .int 0, .ref h8, .ref h9, .ref h10, .int 0, .null, .int 0, .null, .int 0, .int 0, .int 0, .ref h11, .int 0, .ref h12, .ref h13, .ref h14, .int 0, .ref h15, .ref h16, .int 0]))] := hD
  refine lv_if_eq (tgt := 26) hx hb dX21_group_19 (by decide) (fun _ => ?_) (fun c9 => absurd (by decide) c9)
  refine lv_aload_n hx hb dX21_group_26 rfl (lv_at hl 0 rfl) ?_
  refine va_get (D := g.1) (ci := 22) (v := .ref h7) (C := RX21) (T := TX21) (N := 32) hx hb hts in9_X21_group_18_RX21 hown hK hP 1 rfl rfl 11 (by decide) (hts (.fieldLink RX21 107 "RegexloomModel" "told" "[I") (List.mem_of_getElem? (i := 10) rfl)) (fun _ h9 => h9) rfl dX21_group_27 ?_
  refine lv_iconst (v := 2) hx hb dX21_group_30 (by decide) ?_
  refine lv_iload_n hx hb dX21_group_31 rfl (lv_at hl 1 rfl) ?_
  refine lv_imul hx hb dX21_group_32 ?_
  refine e_top (y := 12) (by decide) ?_
  refine lv_iload_n hx hb dX21_group_33 rfl (lv_at hl 2 rfl) ?_
  refine lv_if_eq (tgt := 41) hx hb dX21_group_34 (by decide) (fun _ => ?_) (fun c9 => absurd (by decide) c9)
  refine lv_iconst (v := 0) hx hb dX21_group_41 (by decide) ?_
  refine lv_iadd hx hb dX21_group_42 ?_
  refine e_top (y := 12) (by decide) ?_
  refine va_iald hx hb hK hP 0 0 rfl rfl (vp_in_nI (n := 12) (by decide) (by decide)) dX21_group_43 ?_
  refine e_topv (y := .int (f0 12)) (by rfl) ?_
  have hP9 := hP.sub (ws' := [(h0, .inr (22, [.int 0, .ref h1, .int 0, .ref h2, .int 0, .ref h3, .int 250, .ref h4, .int 0, .ref h5, .ref h6, .ref h7, .int 0, .ref h8, .ref h9, .ref h10, .int 0, .null, .int 0, .null, .int 0, .int 0, .int 0, .ref h11, .int 0, .ref h12, .ref h13, .ref h14, .int 0, .ref h15, .ref h16, .int 0])), (h7, .inl (g.2.1 0, 14, .inl f0))]) [1, 0] rfl
  have hD9 := hD.sub (ws' := [(h0, .inr (22, [.int 0, .ref h1, .int 0, .ref h2, .int 0, .ref h3, .int 250, .ref h4, .int 0, .ref h5, .ref h6, .ref h7, .int 0, .ref h8, .ref h9, .ref h10, .int 0, .null, .int 0, .null, .int 0, .int 0, .int 0, .ref h11, .int 0, .ref h12, .ref h13, .ref h14, .int 0, .ref h15, .ref h16, .int 0])), (h7, .inl (g.2.1 0, 14, .inl f0))]) [1, 0] (by decide) rfl
  subst hAe
  exact W.iret (v := (f0 12)) hx hb hr (fun t ht hW => ⟨⟨(f0 12), (), rfl, rfl, by rw [ht]; exact hP9, hD9⟩, hS.F ht⟩) hS.2.2 dX21_group_44
def w9_X11_found_3 : List Cond := [.code yX11_found cX11_found 3 (some .int), .initialized "java/lang/Throwable", .superclass "java/lang/Throwable" "java/lang/Object", .instanceMethod Bundle.tFill, .codeSync Bundle.tFill LibCode.Throwable.Fill.code 1 (some (.object "java/lang/Throwable")), .instanceMethod Bundle.tFill0, .native Bundle.tFill0, .instanceMethod Bundle.tInit0, .code Bundle.tInit0 LibCode.Throwable.Init0.code 1 none, .instanceMethod Bundle.oInit, .code Bundle.oInit ⟨#[0xb1]⟩ 1 none, .methodLink "java/lang/Throwable" 1 Bundle.oInit, .methodLink "java/lang/Throwable" 27 Bundle.tFill, .methodLink "java/lang/Throwable" 202 Bundle.tFill0, .fieldLink "java/lang/Throwable" 7 "java/lang/Throwable" "cause" "Ljava/lang/Throwable;", .lays "java/lang/Throwable" "java/lang/Throwable" "cause" "Ljava/lang/Throwable;", .fieldLink "java/lang/Throwable" 17 "java/lang/Throwable" "stackTrace" "[Ljava/lang/StackTraceElement;", .lays "java/lang/Throwable" "java/lang/Throwable" "stackTrace" "[Ljava/lang/StackTraceElement;", .fieldLink "java/lang/Throwable" 24 "java/lang/Throwable" "suppressedExceptions" "Ljava/util/List;", .lays "java/lang/Throwable" "java/lang/Throwable" "suppressedExceptions" "Ljava/util/List;", .fieldLink "java/lang/Throwable" 13 "java/lang/Throwable" "UNASSIGNED_STACK" "[Ljava/lang/StackTraceElement;", .fieldLink "java/lang/Throwable" 20 "java/lang/Throwable" "SUPPRESSED_SENTINEL" "Ljava/util/List;", .lays "java/lang/Throwable" "java/lang/Throwable" "detailMessage" "Ljava/lang/String;", .instanceMethod (Bundle.initS "java/lang/Throwable"), .code (Bundle.initS "java/lang/Throwable") LibCode.Throwable.InitS.code 2 none, .fieldLink "java/lang/Throwable" 31 "java/lang/Throwable" "detailMessage" "Ljava/lang/String;", .instanceMethod (Bundle.initS "java/lang/IndexOutOfBoundsException"), .code (Bundle.initS "java/lang/IndexOutOfBoundsException") Bundle.six 2 none, .methodLink "java/lang/IndexOutOfBoundsException" 7 (Bundle.initS "java/lang/RuntimeException"), .instanceMethod (Bundle.initS "java/lang/RuntimeException"), .code (Bundle.initS "java/lang/RuntimeException") Bundle.six 2 none, .methodLink "java/lang/RuntimeException" 7 (Bundle.initS "java/lang/Exception"), .instanceMethod (Bundle.initS "java/lang/Exception"), .code (Bundle.initS "java/lang/Exception") Bundle.six 2 none, .methodLink "java/lang/Exception" 7 (Bundle.initS "java/lang/Throwable"), .methodLink RX11 224 (Bundle.initS "java/lang/IndexOutOfBoundsException"), .instantiable "java/lang/IndexOutOfBoundsException" 6, .selects "java/lang/IndexOutOfBoundsException" Bundle.tFill0 Bundle.tFill0, .selects "java/lang/IndexOutOfBoundsException" Bundle.tFill Bundle.tFill, .lays "java/lang/IndexOutOfBoundsException" "java/lang/Throwable" "cause" "Ljava/lang/Throwable;", .lays "java/lang/IndexOutOfBoundsException" "java/lang/Throwable" "stackTrace" "[Ljava/lang/StackTraceElement;", .lays "java/lang/IndexOutOfBoundsException" "java/lang/Throwable" "suppressedExceptions" "Ljava/util/List;", .lays "java/lang/IndexOutOfBoundsException" "java/lang/Throwable" "detailMessage" "Ljava/lang/String;", .fieldLink "java/lang/Throwable" 198 "java/lang/Throwable" "backtrace" "Ljava/lang/Object;", .lays "java/lang/Throwable" "java/lang/Throwable" "backtrace" "Ljava/lang/Object;", .lays "java/lang/IndexOutOfBoundsException" "java/lang/Throwable" "backtrace" "Ljava/lang/Object;", .classLink RX11 220 "java/lang/IndexOutOfBoundsException", .initialized "java/lang/IndexOutOfBoundsException"]
set_option maxHeartbeats 4000000 in
set_option maxRecDepth 100000 in
theorem c9_X11_found_3 (l : Launch) (hlt : l.stackTraces = false) (g : G9) (h0 h1 h2 h3 h4 h5 h6 h7 h8 h9 h10 h11 h12 h13 sz : Nat) (v0 : Int32) (k_v0 : (-2147483648) ≤ v0.toInt ∧ v0.toInt ≤ (-1)) : vx_Met l yX11_found w9_X11_found_3 ({ frames := 6, cells := 1, slots := 6, locals := 82 }) (mP g [(h0, .inr (12, [.ref h1, .int 0, .ref h2, .ref h3, .ref h4, .ref h5, .ref h6, .ref h7, .int (-1), .ref h8, .ref h9, .int 250, .ref h10, .int 0, .ref h11, .ref h12, .ref h13]))] sz [.ref h0, .int v0, .int 0]) (va_Qv (fun _ : Unit => False) (fun _ _ => True) (va_A [(h0, .inr (12, [.ref h1, .int 0, .ref h2, .ref h3, .ref h4, .ref h5, .ref h6, .ref h7, .int (-1), .ref h8, .ref h9, .int 250, .ref h10, .int 0, .ref h11, .ref h12, .ref h13]))] sz)) (mT g [(h0, .inr (12, [.ref h1, .int 0, .ref h2, .ref h3, .ref h4, .ref h5, .ref h6, .ref h7, .int (-1), .ref h8, .ref h9, .int 250, .ref h10, .int 0, .ref h11, .ref h12, .ref h13]))] sz "java/lang/IndexOutOfBoundsException") 1 6 (va_A [(h0, .inr (12, [.ref h1, .int 0, .ref h2, .ref h3, .ref h4, .ref h5, .ref h6, .ref h7, .int (-1), .ref h8, .ref h9, .int 250, .ref h10, .int 0, .ref h11, .ref h12, .ref h13]))] sz) := by
  refine vx_ofW (cc := cX11_found) (maxL := 3) (ret := (some .int)) (by decide) rfl ?_
  intro p e s m args below meth c s₁ B hml hno hv
  obtain ⟨rfl, hsz, hP, hD0, hE⟩ := hv
  have hx := B.exec
  have hb := B.bytes
  have hr := B.returns
  have hts := atoms_spec (ws := w9_X11_found_3) B.pre
  have hown : s.vm.findClass RX11 = some m.cls := findClass_of_methodNamed B.named
  have hlocks := B.notSynchronized
  subst hsz
  have hD := hD0.self (sz := s.heap.size)
  generalize hAe : va_A [(h0, .inr (12, [.ref h1, .int 0, .ref h2, .ref h3, .ref h4, .ref h5, .ref h6, .ref h7, .int (-1), .ref h8, .ref h9, .int 250, .ref h10, .int 0, .ref h11, .ref h12, .ref h13]))] s.heap.size = A at hD hE ⊢
  have hA : ∀ q : Nat, s.heap.size ≤ q → A q := fun q h => by rw [← hAe]; exact Or.inr h
  have hK := hE.1
  have hS : va_S A s.heap s.heap [] := va_S.rf
  replace hP : va_P g.1 vwCl [(h0, .inr (12, [.ref h1, .int 0, .ref h2, .ref h3, .ref h4, .ref h5, .ref h6, .ref h7, .int (-1), .ref h8, .ref h9, .int 250, .ref h10, .int 0, .ref h11, .ref h12, .ref h13]))] s.heap := hP
  have hl := lv_entry ([.ref h0, .int v0, .int 0]) (n := 3) (Nat.le_of_ble_eq_true rfl)
  rw [lg_entry_eq]
  generalize (lg_sl ([.ref h0, .int v0, .int 0]) ++ List.replicate (3 - (lg_sl ([.ref h0, .int v0, .int 0])).length) Slot.unset).toArray = ls at hl ⊢
  replace hl : lv_has ls 3 [(0, .ref h0), (1, .int v0), (2, .int 0)] := hl
  have hH0 : s.heap.size ≤ s.heap.size := Nat.le_refl _
  refine lv_iload_n hx hb dX11_found_0 rfl (lv_at hl 1 rfl) ?_
  refine lv_if_lt (tgt := 15) hx hb dX11_found_1 (by decide) (fun _ => ?_) (fun c9 => absurd (by simp only [Int32.lt_iff_toInt_lt, Int32.le_iff_toInt_le, ← Int32.toInt_inj, show (0 : Int32).toInt = 0 from by decide]; omega) c9)
  obtain ⟨sa, hsa⟩ := hE.str (245, "no such match") (by decide)
  exact vx_throwS (names := ["java/lang/RuntimeException", "java/lang/Exception"]) (A := A) hx hb hlt hown (by decide) (by decide) (hts (.classLink RX11 220 "java/lang/IndexOutOfBoundsException") (List.mem_of_getElem? (i := 46) rfl)) (hts (.initialized "java/lang/IndexOutOfBoundsException") (List.mem_of_getElem? (i := 47) rfl)) hsa (vx_hat (B := [.castable "java/lang/IndexOutOfBoundsException" "java/lang/IndexOutOfBoundsException", .declares (Bundle.initS "java/lang/RuntimeException"), .declares (Bundle.initS "java/lang/Exception"), .declares (Bundle.initS "java/lang/Throwable")]) (fun w9 hw9 => hts w9 (by revert w9; decide +kernel)) (by decide +kernel) (vx_c (va_Nw.use rfl (hE.cast ("java/lang/IndexOutOfBoundsException", "java/lang/IndexOutOfBoundsException") (by decide))) (vx_c (va_Nw.use rfl (hE.decl _ (by decide))) (vx_c (va_Nw.use rfl (hE.decl _ (by decide))) (vx_c (va_Nw.use rfl (hE.decl _ (by decide))) vx_n))))) (by decide +kernel) hE.zu hE.zn hS (by rw [hml]; exact hl.1) dX11_found_15 dX11_found_18 dX11_found_19 dX11_found_21 dX11_found_24 (fun z hz => (hno z hz).elim) (Nat.le_of_ble_eq_true rfl) (Nat.le_of_ble_eq_true rfl) (Nat.le_of_ble_eq_true rfl) (Nat.le_of_ble_eq_true rfl) hlocks (fun t hW hz ho => ⟨(), trivial, rfl, by subst hAe; exact ⟨Nat.le_trans hS.1 hz, fun q h1 h2 => (ho q (Nat.lt_of_lt_of_le h1 hS.1)).trans (hS.2.1 q h1 h2)⟩⟩) (fun z hz => by subst hAe; exact hS.2.2 z hz) (Nat.le_of_ble_eq_true rfl) (Nat.le_of_ble_eq_true rfl)
def w9_L_found_3 : List Cond := [.codeWith yL_found cL_found 5 (some .int) [(0, 10, 13, 21)], .methodLink RL 68 yX11_found, .instanceMethod yX11_found, .selects RX11 yX11_found yX11_found, .initialized RX11, .code yX11_found cX11_found 3 (some .int), .initialized "java/lang/Throwable", .superclass "java/lang/Throwable" "java/lang/Object", .instanceMethod Bundle.tFill, .codeSync Bundle.tFill LibCode.Throwable.Fill.code 1 (some (.object "java/lang/Throwable")), .instanceMethod Bundle.tFill0, .native Bundle.tFill0, .instanceMethod Bundle.tInit0, .code Bundle.tInit0 LibCode.Throwable.Init0.code 1 none, .instanceMethod Bundle.oInit, .code Bundle.oInit ⟨#[0xb1]⟩ 1 none, .methodLink "java/lang/Throwable" 1 Bundle.oInit, .methodLink "java/lang/Throwable" 27 Bundle.tFill, .methodLink "java/lang/Throwable" 202 Bundle.tFill0, .fieldLink "java/lang/Throwable" 7 "java/lang/Throwable" "cause" "Ljava/lang/Throwable;", .lays "java/lang/Throwable" "java/lang/Throwable" "cause" "Ljava/lang/Throwable;", .fieldLink "java/lang/Throwable" 17 "java/lang/Throwable" "stackTrace" "[Ljava/lang/StackTraceElement;", .lays "java/lang/Throwable" "java/lang/Throwable" "stackTrace" "[Ljava/lang/StackTraceElement;", .fieldLink "java/lang/Throwable" 24 "java/lang/Throwable" "suppressedExceptions" "Ljava/util/List;", .lays "java/lang/Throwable" "java/lang/Throwable" "suppressedExceptions" "Ljava/util/List;", .fieldLink "java/lang/Throwable" 13 "java/lang/Throwable" "UNASSIGNED_STACK" "[Ljava/lang/StackTraceElement;", .fieldLink "java/lang/Throwable" 20 "java/lang/Throwable" "SUPPRESSED_SENTINEL" "Ljava/util/List;", .lays "java/lang/Throwable" "java/lang/Throwable" "detailMessage" "Ljava/lang/String;", .instanceMethod (Bundle.initS "java/lang/Throwable"), .code (Bundle.initS "java/lang/Throwable") LibCode.Throwable.InitS.code 2 none, .fieldLink "java/lang/Throwable" 31 "java/lang/Throwable" "detailMessage" "Ljava/lang/String;", .instanceMethod (Bundle.initS "java/lang/IndexOutOfBoundsException"), .code (Bundle.initS "java/lang/IndexOutOfBoundsException") Bundle.six 2 none, .methodLink "java/lang/IndexOutOfBoundsException" 7 (Bundle.initS "java/lang/RuntimeException"), .instanceMethod (Bundle.initS "java/lang/RuntimeException"), .code (Bundle.initS "java/lang/RuntimeException") Bundle.six 2 none, .methodLink "java/lang/RuntimeException" 7 (Bundle.initS "java/lang/Exception"), .instanceMethod (Bundle.initS "java/lang/Exception"), .code (Bundle.initS "java/lang/Exception") Bundle.six 2 none, .methodLink "java/lang/Exception" 7 (Bundle.initS "java/lang/Throwable"), .methodLink RX11 224 (Bundle.initS "java/lang/IndexOutOfBoundsException"), .instantiable "java/lang/IndexOutOfBoundsException" 6, .selects "java/lang/IndexOutOfBoundsException" Bundle.tFill0 Bundle.tFill0, .selects "java/lang/IndexOutOfBoundsException" Bundle.tFill Bundle.tFill, .lays "java/lang/IndexOutOfBoundsException" "java/lang/Throwable" "cause" "Ljava/lang/Throwable;", .lays "java/lang/IndexOutOfBoundsException" "java/lang/Throwable" "stackTrace" "[Ljava/lang/StackTraceElement;", .lays "java/lang/IndexOutOfBoundsException" "java/lang/Throwable" "suppressedExceptions" "Ljava/util/List;", .lays "java/lang/IndexOutOfBoundsException" "java/lang/Throwable" "detailMessage" "Ljava/lang/String;", .fieldLink "java/lang/Throwable" 198 "java/lang/Throwable" "backtrace" "Ljava/lang/Object;", .lays "java/lang/Throwable" "java/lang/Throwable" "backtrace" "Ljava/lang/Object;", .lays "java/lang/IndexOutOfBoundsException" "java/lang/Throwable" "backtrace" "Ljava/lang/Object;", .classLink RX11 220 "java/lang/IndexOutOfBoundsException", .initialized "java/lang/IndexOutOfBoundsException", .classLink RL 21 "java/lang/IndexOutOfBoundsException"]
set_option maxRecDepth 20000 in
theorem g9_L_found_3_0 : GoodIn w9_L_found_3 (wsV RL 68 RX11 yX11_found w9_X11_found_3) := goodIn_r _ [1, 2, 3, 4, 5, 6, 7, 8, 9, 10, 11, 12, 13, 14, 15, 16, 17, 18, 19, 20, 21, 22, 23, 24, 25, 26, 27, 28, 29, 30, 31, 32, 33, 34, 35, 36, 37, 38, 39, 40, 41, 42, 43, 44, 45, 46, 47, 48, 49, 50, 51, 52] (by decide +kernel) (by decide +kernel)
set_option maxHeartbeats 4000000 in
set_option maxRecDepth 100000 in
theorem c9_L_found_3 (l : Launch) (hlt : l.stackTraces = false) (g : G9) (h0 h1 h2 h3 h4 h5 h6 h7 h8 h9 h10 h11 h12 h13 h14 sz : Nat) (v0 : Int32) (k_v0 : (-2147483648) ≤ v0.toInt ∧ v0.toInt ≤ (-1)) : Met l yL_found w9_L_found_3 ({ frames := 7, cells := 1, slots := 6, locals := 104 }) (mP g [(h0, .inr (12, [.ref h2, .int 0, .ref h3, .ref h4, .ref h5, .ref h6, .ref h7, .ref h8, .int (-1), .ref h9, .ref h10, .int 250, .ref h11, .int 0, .ref h12, .ref h13, .ref h14]))] sz [.ref h0, .int v0, .int 0, .ref h1]) (va_Qi (fun (r : Int32) (_ : Unit) => r = 1) (fun (_ : Unit) (t : State) => mB g [(h0, .inr (12, [.ref h2, .int 0, .ref h3, .ref h4, .ref h5, .ref h6, .ref h7, .ref h8, .int (-1), .ref h9, .ref h10, .int 250, .ref h11, .int 0, .ref h12, .ref h13, .ref h14]))] sz [] t) (va_A [(h0, .inr (12, [.ref h2, .int 0, .ref h3, .ref h4, .ref h5, .ref h6, .ref h7, .ref h8, .int (-1), .ref h9, .ref h10, .int 250, .ref h11, .int 0, .ref h12, .ref h13, .ref h14]))] sz)) 1 6 (va_A [(h0, .inr (12, [.ref h2, .int 0, .ref h3, .ref h4, .ref h5, .ref h6, .ref h7, .ref h8, .int (-1), .ref h9, .ref h10, .int 250, .ref h11, .int 0, .ref h12, .ref h13, .ref h14]))] sz) := by
  refine va_MetW (cc := cL_found) (maxL := 5) (ret := (some .int)) (by decide) rfl ?_
  intro p e s m args below meth c s₁ B hml hv
  obtain ⟨rfl, hsz, hP, hD0, hE⟩ := hv
  have hx := B.exec
  have hb := B.bytes
  have hr := B.returns
  have hts := atoms_spec (ws := w9_L_found_3) B.pre
  have hown : s.vm.findClass RL = some m.cls := findClass_of_methodNamed B.named
  have hlocks := B.notSynchronized
  have htab := vx_table (x := yL_found) B (hts (.codeWith yL_found cL_found 5 (some .int) [(0, 10, 13, 21)]) (List.mem_of_getElem? (i := 0) rfl))
  subst hsz
  have hD := hD0.self (sz := s.heap.size)
  generalize hAe : va_A [(h0, .inr (12, [.ref h2, .int 0, .ref h3, .ref h4, .ref h5, .ref h6, .ref h7, .ref h8, .int (-1), .ref h9, .ref h10, .int 250, .ref h11, .int 0, .ref h12, .ref h13, .ref h14]))] s.heap.size = A at hD hE ⊢
  have hA : ∀ q : Nat, s.heap.size ≤ q → A q := fun q h => by rw [← hAe]; exact Or.inr h
  have hK := hE.1
  have hS : va_S A s.heap s.heap [] := va_S.rf
  replace hP : va_P g.1 vwCl [(h0, .inr (12, [.ref h2, .int 0, .ref h3, .ref h4, .ref h5, .ref h6, .ref h7, .ref h8, .int (-1), .ref h9, .ref h10, .int 250, .ref h11, .int 0, .ref h12, .ref h13, .ref h14]))] s.heap := hP
  have hl := lv_entry ([.ref h0, .int v0, .int 0, .ref h1]) (n := 5) (Nat.le_of_ble_eq_true rfl)
  rw [lg_entry_eq]
  generalize (lg_sl ([.ref h0, .int v0, .int 0, .ref h1]) ++ List.replicate (5 - (lg_sl ([.ref h0, .int v0, .int 0, .ref h1])).length) Slot.unset).toArray = ls at hl ⊢
  replace hl : lv_has ls 5 [(0, .ref h0), (1, .int v0), (2, .int 0), (3, .ref h1)] := hl
  have hH0 : s.heap.size ≤ s.heap.size := Nat.le_refl _
  refine lv_aload_n hx hb dL_found_0 rfl (lv_at hl 3 rfl) ?_
  refine lv_iconst (v := 0) hx hb dL_found_1 (by decide) ?_
  refine lv_aload_n hx hb dL_found_2 rfl (lv_at hl 0 rfl) ?_
  refine lv_iload_n hx hb dL_found_3 rfl (lv_at hl 1 rfl) ?_
  refine lv_iload_n hx hb dL_found_4 rfl (lv_at hl 2 rfl) ?_
  have hPc := hP.sub (ws' := [(h0, .inr (12, [.ref h2, .int 0, .ref h3, .ref h4, .ref h5, .ref h6, .ref h7, .ref h8, .int (-1), .ref h9, .ref h10, .int 250, .ref h11, .int 0, .ref h12, .ref h13, .ref h14]))]) [0] rfl
  have hDc := hD.sub (ws' := [(h0, .inr (12, [.ref h2, .int 0, .ref h3, .ref h4, .ref h5, .ref h6, .ref h7, .ref h8, .int (-1), .ref h9, .ref h10, .int 250, .ref h11, .int 0, .ref h12, .ref h13, .ref h14]))]) [0] (by decide) rfl
  have hFc := va_free (wc := [(h0, .inr (12, [.ref h2, .int 0, .ref h3, .ref h4, .ref h5, .ref h6, .ref h7, .ref h8, .int (-1), .ref h9, .ref h10, .int 250, .ref h11, .int 0, .ref h12, .ref h13, .ref h14]))]) hD hS hA [0] rfl
  refine vx_callv (vx_runV (As := [.int v0, .int 0]) (rest := [.int 0, .ref h1]) ⟨hx, hb, hml, hown, hts⟩ (c9_X11_found_3 l hlt g h0 h2 h3 h4 h5 h6 h7 h8 h9 h10 h11 h12 h13 h14 _ v0 (by omega)) (cwV 2 hts g9_L_found_3_0 rfl rfl rfl (by decide +kernel) ⟨Nat.le_of_ble_eq_true rfl, Nat.le_of_ble_eq_true rfl⟩) (mPreV (g := g) (wc := [(h0, .inr (12, [.ref h2, .int 0, .ref h3, .ref h4, .ref h5, .ref h6, .ref h7, .ref h8, .int (-1), .ref h9, .ref h10, .int 250, .ref h11, .int 0, .ref h12, .ref h13, .ref h14]))]) (C := RX11) (ci := 12) (q0 := 0) hE hS hPc hDc hFc rfl rfl) rfl rfl hl.1 rfl (lv_room (Nat.le_of_ble_eq_true rfl)) dL_found_5 ⟨Nat.le_of_ble_eq_true rfl, Nat.le_of_ble_eq_true rfl⟩) hS (fun q _ h => hFc q h) hFc (fun q _ h => hFc q h) (fun E9 ce q9 u t H locs ht hvm hw hB hz1 hk1 hS hc1 hc2 hc3 => ?_) (fun u t H1 locs ht hvm hw hB hz1 hk1 hS => hw.elim)
  replace hB : E9 = "java/lang/IndexOutOfBoundsException" := hB
  subst hB
  obtain ⟨hP, hD⟩ := va_join (wr := []) (w1 := []) hP hD [0] [] rfl rfl (by decide) (by decide) hk1 hFc (fun k q h => by simp at h) ⟨fun i j p q h => by simp at h, fun k q h => by simp at h⟩
  have hP : va_P g.1 vwCl [] H := hP
  have hD : va_D A [] := hD
  refine vx_catch (own := RL) (name := "java/lang/IndexOutOfBoundsException") hown [] ⟨0, 10, 13, 21⟩ [] (by rw [htab]; rfl) (fun z hz => absurd hz List.not_mem_nil) (by decide) (by decide) (hts (.classLink RL 21 "java/lang/IndexOutOfBoundsException") (List.mem_of_getElem? (i := 53) rfl)) (va_Nw.use rfl (hE.cast ("java/lang/IndexOutOfBoundsException", "java/lang/IndexOutOfBoundsException") (by decide))) hc1 hc2 hc3 ?_
  refine lv_astore (lv' := [(4, .ref q9), (0, .ref h0), (1, .int v0), (2, .int 0), (3, .ref h1)]) hx hb dL_found_13 hl (by decide) rfl (fun ls hl => ?_)
  refine lv_iconst (v := 1) hx hb dL_found_15 (by decide) ?_
  have hP9 := hP.sub (ws' := []) [] rfl
  have hD9 := hD.sub (ws' := []) [] (by decide) rfl
  subst hAe
  exact W.iret (v := 1) hx hb hr (fun t ht hW => ⟨⟨1, (), rfl, rfl, by rw [ht]; exact hP9, hD9⟩, hS.F ht⟩) hS.2.2 dL_found_16
def w9_X21_found_3 : List Cond := [.code yX21_found cX21_found 3 (some .int), .fieldLink RX21 101 "RegexloomModel" "begins" "Ljava/util/ArrayList;", .methodLink RX21 218 yJx4a65c_size_8abf5, .instanceMethod yJx4a65c_size_8abf5, .selects RJx4a65c yJx4a65c_size_8abf5 yJx4a65c_size_8abf5, .initialized RJx4a65c, .code yJx4a65c_size_8abf5 cJx4a65c_size_8abf5 1 (some .int), .fieldLink RJx4a65c 48 "java/util/ArrayList" "size" "I", .methodLink RX21 160 yX21_in, .static yX21_in, .initialized RX21, .code yX21_in cX21_in 3 (some .boolean), .methodLink RX21 154 yX21_refused, .instanceMethod yX21_refused, .selects RX21 yX21_refused yX21_refused, .code yX21_refused cX21_refused 2 (some .boolean), .fieldLink RX21 144 "RegexloomModel" "refusal" "I"] ++ (u_ws RX21 TX21 32 ++ u_ws RJx4a65c TJx4a65c 3)
set_option maxRecDepth 20000 in
theorem in9_X21_found_3_RX21 : ∀ w ∈ u_ws RX21 TX21 32, w ∈ w9_X21_found_3 := by decide +kernel
set_option maxRecDepth 20000 in
theorem in9_X21_found_3_RJx4a65c : ∀ w ∈ u_ws RJx4a65c TJx4a65c 3, w ∈ w9_X21_found_3 := by decide +kernel
set_option maxRecDepth 20000 in
theorem g9_X21_found_3_0 : GoodIn w9_X21_found_3 (wsV RX21 218 RJx4a65c yJx4a65c_size_8abf5 w9_Jx4a65c_size_8abf5_1) := goodIn_r _ [2, 3, 4, 5, 6, 7, 49, 50, 51] (by decide +kernel) (by decide +kernel)
set_option maxRecDepth 20000 in
theorem g9_X21_found_3_1 : GoodIn w9_X21_found_3 (va_wsS RX21 160 yX21_in w9_X21_in_23) := goodIn_r _ [8, 9, 10, 11] (by decide +kernel) (by decide +kernel)
set_option maxRecDepth 20000 in
theorem g9_X21_found_3_2 : GoodIn w9_X21_found_3 (wsV RX21 154 RX21 yX21_refused w9_X21_refused_2) := goodIn_r _ [12, 13, 14, 10, 15, 16, 17, 18, 19, 20, 21, 22, 23, 24, 25, 26, 27, 28, 29, 30, 31, 32, 33, 34, 35, 36, 37, 38, 39, 40, 41, 42, 43, 44, 45, 46, 47, 48] (by decide +kernel) (by decide +kernel)
set_option maxHeartbeats 4000000 in
set_option maxRecDepth 100000 in
theorem c9_X21_found_3 (l : Launch) (g : G9) (h0 h1 h2 h3 h4 h5 h6 h7 h8 h9 h10 h11 h12 h13 h14 h15 h16 sz : Nat) (v0 : Int32) (k_v0 : (-2147483648) ≤ v0.toInt ∧ v0.toInt ≤ (-1)) : Met l yX21_found w9_X21_found_3 ({ frames := 1, cells := 0, slots := 0, locals := 22 }) (mP g [(h0, .inr (22, [.int 0, .ref h1, .int 0, .ref h2, .int 0, .ref h3, .int 250, .ref h4, .int 0, .ref h5, .ref h6, .ref h7, .int 0, .ref h8, .ref h9, .ref h10, .int 0, .null, .int 0, .null, .int 0, .int 0, .int 0, .ref h11, .int 0, .ref h12, .ref h13, .ref h14, .int 0, .ref h15, .ref h16, .int 0])), (h5, .inr (2, [.int 0, .ref (g.2.2 0), .int 0]))] sz [.ref h0, .int v0, .int 0]) (va_Qi (fun (r : Int32) (_ : Unit) => r = 0) (fun (_ : Unit) (t : State) => mB g [(h0, .inr (22, [.int 0, .ref h1, .int 0, .ref h2, .int 0, .ref h3, .int 250, .ref h4, .int 0, .ref h5, .ref h6, .ref h7, .int 0, .ref h8, .ref h9, .ref h10, .int 0, .null, .int 0, .null, .int 0, .int 0, .int 0, .ref h11, .int 0, .ref h12, .ref h13, .ref h14, .int 0, .ref h15, .ref h16, .int 0])), (h5, .inr (2, [.int 0, .ref (g.2.2 0), .int 0]))] sz [(h0, .inr (22, [.int 1, .ref h1, .int 0, .ref h2, .int 0, .ref h3, .int 250, .ref h4, .int 0, .ref h5, .ref h6, .ref h7, .int 0, .ref h8, .ref h9, .ref h10, .int 0, .null, .int 0, .null, .int 0, .int 0, .int 0, .ref h11, .int 0, .ref h12, .ref h13, .ref h14, .int 0, .ref h15, .ref h16, .int 0])), (h5, .inr (2, [.int 0, .ref (g.2.2 0), .int 0]))] t) (va_A [(h0, .inr (22, [.int 0, .ref h1, .int 0, .ref h2, .int 0, .ref h3, .int 250, .ref h4, .int 0, .ref h5, .ref h6, .ref h7, .int 0, .ref h8, .ref h9, .ref h10, .int 0, .null, .int 0, .null, .int 0, .int 0, .int 0, .ref h11, .int 0, .ref h12, .ref h13, .ref h14, .int 0, .ref h15, .ref h16, .int 0])), (h5, .inr (2, [.int 0, .ref (g.2.2 0), .int 0]))] sz)) 0 0 (va_A [(h0, .inr (22, [.int 0, .ref h1, .int 0, .ref h2, .int 0, .ref h3, .int 250, .ref h4, .int 0, .ref h5, .ref h6, .ref h7, .int 0, .ref h8, .ref h9, .ref h10, .int 0, .null, .int 0, .null, .int 0, .int 0, .int 0, .ref h11, .int 0, .ref h12, .ref h13, .ref h14, .int 0, .ref h15, .ref h16, .int 0])), (h5, .inr (2, [.int 0, .ref (g.2.2 0), .int 0]))] sz) := by
  refine Met.ofW (cc := cX21_found) (maxL := 3) (ret := (some .int)) (by decide) rfl ?_
  intro p e s m args below meth c s₁ B hml hv
  obtain ⟨rfl, hsz, hP, hD0, hE⟩ := hv
  have hx := B.exec
  have hb := B.bytes
  have hr := B.returns
  have hts := atoms_spec (ws := w9_X21_found_3) B.pre
  have hown : s.vm.findClass RX21 = some m.cls := findClass_of_methodNamed B.named
  have hlocks := B.notSynchronized
  subst hsz
  have hD := hD0.self (sz := s.heap.size)
  generalize hAe : va_A [(h0, .inr (22, [.int 0, .ref h1, .int 0, .ref h2, .int 0, .ref h3, .int 250, .ref h4, .int 0, .ref h5, .ref h6, .ref h7, .int 0, .ref h8, .ref h9, .ref h10, .int 0, .null, .int 0, .null, .int 0, .int 0, .int 0, .ref h11, .int 0, .ref h12, .ref h13, .ref h14, .int 0, .ref h15, .ref h16, .int 0])), (h5, .inr (2, [.int 0, .ref (g.2.2 0), .int 0]))] s.heap.size = A at hD hE ⊢
  have hA : ∀ q : Nat, s.heap.size ≤ q → A q := fun q h => by rw [← hAe]; exact Or.inr h
  have hK := hE.1
  have hS : va_S A s.heap s.heap [] := va_S.rf
  replace hP : va_P g.1 vwCl [(h0, .inr (22, [.int 0, .ref h1, .int 0, .ref h2, .int 0, .ref h3, .int 250, .ref h4, .int 0, .ref h5, .ref h6, .ref h7, .int 0, .ref h8, .ref h9, .ref h10, .int 0, .null, .int 0, .null, .int 0, .int 0, .int 0, .ref h11, .int 0, .ref h12, .ref h13, .ref h14, .int 0, .ref h15, .ref h16, .int 0])), (h5, .inr (2, [.int 0, .ref (g.2.2 0), .int 0]))] s.heap := hP
  have hl := lv_entry ([.ref h0, .int v0, .int 0]) (n := 3) (Nat.le_of_ble_eq_true rfl)
  rw [lg_entry_eq]
  generalize (lg_sl ([.ref h0, .int v0, .int 0]) ++ List.replicate (3 - (lg_sl ([.ref h0, .int v0, .int 0])).length) Slot.unset).toArray = ls at hl ⊢
  replace hl : lv_has ls 3 [(0, .ref h0), (1, .int v0), (2, .int 0)] := hl
  have hH0 : s.heap.size ≤ s.heap.size := Nat.le_refl _
  refine lv_aload_n hx hb dX21_found_0 rfl (lv_at hl 0 rfl) ?_
  refine lv_iload_n hx hb dX21_found_1 rfl (lv_at hl 1 rfl) ?_
  refine lv_iconst (v := 0) hx hb dX21_found_2 (by decide) ?_
  refine lv_aload_n hx hb dX21_found_3 rfl (lv_at hl 0 rfl) ?_
  refine va_get (D := g.1) (ci := 22) (v := .ref h5) (C := RX21) (T := TX21) (N := 32) hx hb hts in9_X21_found_3_RX21 hown hK hP 0 rfl rfl 9 (by decide) (hts (.fieldLink RX21 101 "RegexloomModel" "begins" "Ljava/util/ArrayList;") (List.mem_of_getElem? (i := 1) rfl)) (fun _ h9 => h9) rfl dX21_found_4 ?_
  have hPc := hP.sub (ws' := [(h5, .inr (2, [.int 0, .ref (g.2.2 0), .int 0]))]) [1] rfl
  have hDc := hD.sub (ws' := [(h5, .inr (2, [.int 0, .ref (g.2.2 0), .int 0]))]) [1] (by decide) rfl
  have hFc := va_free (wc := [(h5, .inr (2, [.int 0, .ref (g.2.2 0), .int 0]))]) hD hS hA [1] rfl
  refine va_calli (va_runV (As := []) (rest := [.int 0, .int v0, .ref h0]) ⟨hx, hb, hml, hown, hts⟩ (c9_Jx4a65c_size_8abf5_1 l g h5 _) (cwV 0 hts g9_X21_found_3_0 rfl rfl rfl (by decide +kernel) ⟨Nat.le_of_ble_eq_true rfl, Nat.le_of_ble_eq_true rfl⟩) (mPreV (g := g) (wc := [(h5, .inr (2, [.int 0, .ref (g.2.2 0), .int 0]))]) (C := RJx4a65c) (ci := 2) (q0 := 0) hE hS hPc hDc hFc rfl rfl) rfl rfl hl.1 rfl (lv_room (Nat.le_of_ble_eq_true rfl)) dX21_found_7 ⟨Nat.le_of_ble_eq_true rfl, Nat.le_of_ble_eq_true rfl⟩) hS (fun q _ h => hFc q h) hFc (fun r_1 u t H1 locs ht hvm hw hB hz1 hk1 hS => ?_)
  replace hw : 0 = r_1 := Eq.symm hw
  subst hw
  obtain ⟨hP1, hD1⟩ := hB
  rw [ht] at hP1
  obtain ⟨hP, hD⟩ := va_join (wr := [(h0, .inr (22, [.int 0, .ref h1, .int 0, .ref h2, .int 0, .ref h3, .int 250, .ref h4, .int 0, .ref h5, .ref h6, .ref h7, .int 0, .ref h8, .ref h9, .ref h10, .int 0, .null, .int 0, .null, .int 0, .int 0, .int 0, .ref h11, .int 0, .ref h12, .ref h13, .ref h14, .int 0, .ref h15, .ref h16, .int 0]))]) (w1 := [(h5, .inr (2, [.int 0, .ref (g.2.2 0), .int 0]))]) hP hD [1] [0] rfl rfl (by decide) (by decide) hk1 hFc hP1 hD1
  clear hP1 hD1 hPc hDc hFc hk1 hz1 hvm ht
  generalize H1 = H at hP hS ⊢
  have hP : va_P g.1 vwCl [(h0, .inr (22, [.int 0, .ref h1, .int 0, .ref h2, .int 0, .ref h3, .int 250, .ref h4, .int 0, .ref h5, .ref h6, .ref h7, .int 0, .ref h8, .ref h9, .ref h10, .int 0, .null, .int 0, .null, .int 0, .int 0, .int 0, .ref h11, .int 0, .ref h12, .ref h13, .ref h14, .int 0, .ref h15, .ref h16, .int 0])), (h5, .inr (2, [.int 0, .ref (g.2.2 0), .int 0]))] H := hP
  have hD : va_D A [(h0, .inr (22, [.int 0, .ref h1, .int 0, .ref h2, .int 0, .ref h3, .int 250, .ref h4, .int 0, .ref h5, .ref h6, .ref h7, .int 0, .ref h8, .ref h9, .ref h10, .int 0, .null, .int 0, .null, .int 0, .int 0, .int 0, .ref h11, .int 0, .ref h12, .ref h13, .ref h14, .int 0, .ref h15, .ref h16, .int 0])), (h5, .inr (2, [.int 0, .ref (g.2.2 0), .int 0]))] := hD
  refine lv_iconst (v := 1) hx hb dX21_found_10 (by decide) ?_
  refine lv_isub hx hb dX21_found_11 ?_
  refine e_top (y := (-1)) (by decide) ?_
  have hPc := hP.sub (ws' := []) [] rfl
  have hDc := hD.sub (ws' := []) [] (by decide) rfl
  have hFc := va_free (wc := []) hD hS hA [] rfl
  refine va_calli (va_runS (As := [.int v0, .int 0, .int (-1)]) (rest := [.ref h0]) ⟨hx, hb, hml, hown, hts⟩ (c9_X21_in_23 l g _ v0 (by omega)) (va_cwS 3 hts g9_X21_found_3_1 rfl rfl rfl (by decide +kernel) ⟨Nat.le_of_ble_eq_true rfl, Nat.le_of_ble_eq_true rfl⟩) (mPreS (g := g) (wc := []) hE hS hPc hDc hFc) rfl rfl hl.1 rfl (lv_room (Nat.le_of_ble_eq_true rfl)) dX21_found_12 ⟨Nat.le_of_ble_eq_true rfl, Nat.le_of_ble_eq_true rfl⟩) hS (fun q _ h => hFc q h) hFc (fun r_2 u t H1 locs ht hvm hw hB hz1 hk1 hS => ?_)
  replace hw : 0 = r_2 := Eq.symm hw
  subst hw
  obtain ⟨hP1, hD1⟩ := hB
  rw [ht] at hP1
  obtain ⟨hP, hD⟩ := va_join (wr := [(h0, .inr (22, [.int 0, .ref h1, .int 0, .ref h2, .int 0, .ref h3, .int 250, .ref h4, .int 0, .ref h5, .ref h6, .ref h7, .int 0, .ref h8, .ref h9, .ref h10, .int 0, .null, .int 0, .null, .int 0, .int 0, .int 0, .ref h11, .int 0, .ref h12, .ref h13, .ref h14, .int 0, .ref h15, .ref h16, .int 0])), (h5, .inr (2, [.int 0, .ref (g.2.2 0), .int 0]))]) (w1 := []) hP hD [] [0, 1] rfl rfl (by decide) (by decide) hk1 hFc hP1 hD1
  clear hP1 hD1 hPc hDc hFc hk1 hz1 hvm ht
  generalize H1 = H at hP hS ⊢
  have hP : va_P g.1 vwCl [(h0, .inr (22, [.int 0, .ref h1, .int 0, .ref h2, .int 0, .ref h3, .int 250, .ref h4, .int 0, .ref h5, .ref h6, .ref h7, .int 0, .ref h8, .ref h9, .ref h10, .int 0, .null, .int 0, .null, .int 0, .int 0, .int 0, .ref h11, .int 0, .ref h12, .ref h13, .ref h14, .int 0, .ref h15, .ref h16, .int 0])), (h5, .inr (2, [.int 0, .ref (g.2.2 0), .int 0]))] H := hP
  have hD : va_D A [(h0, .inr (22, [.int 0, .ref h1, .int 0, .ref h2, .int 0, .ref h3, .int 250, .ref h4, .int 0, .ref h5, .ref h6, .ref h7, .int 0, .ref h8, .ref h9, .ref h10, .int 0, .null, .int 0, .null, .int 0, .int 0, .int 0, .ref h11, .int 0, .ref h12, .ref h13, .ref h14, .int 0, .ref h15, .ref h16, .int 0])), (h5, .inr (2, [.int 0, .ref (g.2.2 0), .int 0]))] := hD
  refine lv_if_eq (tgt := 22) hx hb dX21_found_15 (by decide) (fun _ => ?_) (fun c9 => absurd (by decide) c9)
  refine lv_iconst (v := 1) hx hb dX21_found_22 (by decide) ?_
  have hPc := hP.sub (ws' := [(h0, .inr (22, [.int 0, .ref h1, .int 0, .ref h2, .int 0, .ref h3, .int 250, .ref h4, .int 0, .ref h5, .ref h6, .ref h7, .int 0, .ref h8, .ref h9, .ref h10, .int 0, .null, .int 0, .null, .int 0, .int 0, .int 0, .ref h11, .int 0, .ref h12, .ref h13, .ref h14, .int 0, .ref h15, .ref h16, .int 0]))]) [0] rfl
  have hDc := hD.sub (ws' := [(h0, .inr (22, [.int 0, .ref h1, .int 0, .ref h2, .int 0, .ref h3, .int 250, .ref h4, .int 0, .ref h5, .ref h6, .ref h7, .int 0, .ref h8, .ref h9, .ref h10, .int 0, .null, .int 0, .null, .int 0, .int 0, .int 0, .ref h11, .int 0, .ref h12, .ref h13, .ref h14, .int 0, .ref h15, .ref h16, .int 0]))]) [0] (by decide) rfl
  have hFc := va_free (wc := [(h0, .inr (22, [.int 0, .ref h1, .int 0, .ref h2, .int 0, .ref h3, .int 250, .ref h4, .int 0, .ref h5, .ref h6, .ref h7, .int 0, .ref h8, .ref h9, .ref h10, .int 0, .null, .int 0, .null, .int 0, .int 0, .int 0, .ref h11, .int 0, .ref h12, .ref h13, .ref h14, .int 0, .ref h15, .ref h16, .int 0]))]) hD hS hA [0] rfl
  refine va_calli (va_runV (As := [.int 1]) (rest := []) ⟨hx, hb, hml, hown, hts⟩ (c9_X21_refused_2 l g h0 h1 h2 h3 h4 h5 h6 h7 h8 h9 h10 h11 h12 h13 h14 h15 h16 _) (cwV 1 hts g9_X21_found_3_2 rfl rfl rfl (by decide +kernel) ⟨Nat.le_of_ble_eq_true rfl, Nat.le_of_ble_eq_true rfl⟩) (mPreV (g := g) (wc := [(h0, .inr (22, [.int 0, .ref h1, .int 0, .ref h2, .int 0, .ref h3, .int 250, .ref h4, .int 0, .ref h5, .ref h6, .ref h7, .int 0, .ref h8, .ref h9, .ref h10, .int 0, .null, .int 0, .null, .int 0, .int 0, .int 0, .ref h11, .int 0, .ref h12, .ref h13, .ref h14, .int 0, .ref h15, .ref h16, .int 0]))]) (C := RX21) (ci := 22) (q0 := 0) hE hS hPc hDc hFc rfl rfl) rfl rfl hl.1 rfl (lv_room (Nat.le_of_ble_eq_true rfl)) dX21_found_23 ⟨Nat.le_of_ble_eq_true rfl, Nat.le_of_ble_eq_true rfl⟩) hS (fun q _ h => hFc q h) hFc (fun r_3 u t H1 locs ht hvm hw hB hz1 hk1 hS => ?_)
  replace hw : 1 = r_3 := Eq.symm hw
  subst hw
  obtain ⟨hP1, hD1⟩ := hB
  rw [ht] at hP1
  obtain ⟨hP, hD⟩ := va_join (wr := [(h5, .inr (2, [.int 0, .ref (g.2.2 0), .int 0]))]) (w1 := [(h0, .inr (22, [.int 1, .ref h1, .int 0, .ref h2, .int 0, .ref h3, .int 250, .ref h4, .int 0, .ref h5, .ref h6, .ref h7, .int 0, .ref h8, .ref h9, .ref h10, .int 0, .null, .int 0, .null, .int 0, .int 0, .int 0, .ref h11, .int 0, .ref h12, .ref h13, .ref h14, .int 0, .ref h15, .ref h16, .int 0]))]) hP hD [0] [1] rfl rfl (by decide) (by decide) hk1 hFc hP1 hD1
  clear hP1 hD1 hPc hDc hFc hk1 hz1 hvm ht
  generalize H1 = H at hP hS ⊢
  have hP : va_P g.1 vwCl [(h5, .inr (2, [.int 0, .ref (g.2.2 0), .int 0])), (h0, .inr (22, [.int 1, .ref h1, .int 0, .ref h2, .int 0, .ref h3, .int 250, .ref h4, .int 0, .ref h5, .ref h6, .ref h7, .int 0, .ref h8, .ref h9, .ref h10, .int 0, .null, .int 0, .null, .int 0, .int 0, .int 0, .ref h11, .int 0, .ref h12, .ref h13, .ref h14, .int 0, .ref h15, .ref h16, .int 0]))] H := hP
  have hD : va_D A [(h5, .inr (2, [.int 0, .ref (g.2.2 0), .int 0])), (h0, .inr (22, [.int 1, .ref h1, .int 0, .ref h2, .int 0, .ref h3, .int 250, .ref h4, .int 0, .ref h5, .ref h6, .ref h7, .int 0, .ref h8, .ref h9, .ref h10, .int 0, .null, .int 0, .null, .int 0, .int 0, .int 0, .ref h11, .int 0, .ref h12, .ref h13, .ref h14, .int 0, .ref h15, .ref h16, .int 0]))] := hD
  refine lv_if_eq (tgt := 31) hx hb dX21_found_26 (by decide) (fun c9 => absurd c9 (by decide)) (fun _ => ?_)
  refine lv_iconst (v := 0) hx hb dX21_found_29 (by decide) ?_
  have hP9 := hP.sub (ws' := [(h0, .inr (22, [.int 1, .ref h1, .int 0, .ref h2, .int 0, .ref h3, .int 250, .ref h4, .int 0, .ref h5, .ref h6, .ref h7, .int 0, .ref h8, .ref h9, .ref h10, .int 0, .null, .int 0, .null, .int 0, .int 0, .int 0, .ref h11, .int 0, .ref h12, .ref h13, .ref h14, .int 0, .ref h15, .ref h16, .int 0])), (h5, .inr (2, [.int 0, .ref (g.2.2 0), .int 0]))]) [1, 0] rfl
  have hD9 := hD.sub (ws' := [(h0, .inr (22, [.int 1, .ref h1, .int 0, .ref h2, .int 0, .ref h3, .int 250, .ref h4, .int 0, .ref h5, .ref h6, .ref h7, .int 0, .ref h8, .ref h9, .ref h10, .int 0, .null, .int 0, .null, .int 0, .int 0, .int 0, .ref h11, .int 0, .ref h12, .ref h13, .ref h14, .int 0, .ref h15, .ref h16, .int 0])), (h5, .inr (2, [.int 0, .ref (g.2.2 0), .int 0]))]) [1, 0] (by decide) rfl
  subst hAe
  exact W.iret (v := 0) hx hb hr (fun t ht hW => ⟨⟨0, (), rfl, rfl, by rw [ht]; exact hP9, hD9⟩, hS.F ht⟩) hS.2.2 dX21_found_30
def w9_X11_found_4 : List Cond := [.code yX11_found cX11_found 3 (some .int), .fieldLink RX11 82 "Regexloom" "matches" "LRegexloom$Table;", .methodLink RX11 244 yX9_size, .instanceMethod yX9_size, .selects RX9 yX9_size yX9_size, .initialized RX9, .code yX9_size cX9_size 1 (some .int), .fieldLink RX9 28 "Regexloom$Table" "size" "I", .initialized "java/lang/Throwable", .superclass "java/lang/Throwable" "java/lang/Object", .instanceMethod Bundle.tFill, .codeSync Bundle.tFill LibCode.Throwable.Fill.code 1 (some (.object "java/lang/Throwable")), .instanceMethod Bundle.tFill0, .native Bundle.tFill0, .instanceMethod Bundle.tInit0, .code Bundle.tInit0 LibCode.Throwable.Init0.code 1 none, .instanceMethod Bundle.oInit, .code Bundle.oInit ⟨#[0xb1]⟩ 1 none, .methodLink "java/lang/Throwable" 1 Bundle.oInit, .methodLink "java/lang/Throwable" 27 Bundle.tFill, .methodLink "java/lang/Throwable" 202 Bundle.tFill0, .fieldLink "java/lang/Throwable" 7 "java/lang/Throwable" "cause" "Ljava/lang/Throwable;", .lays "java/lang/Throwable" "java/lang/Throwable" "cause" "Ljava/lang/Throwable;", .fieldLink "java/lang/Throwable" 17 "java/lang/Throwable" "stackTrace" "[Ljava/lang/StackTraceElement;", .lays "java/lang/Throwable" "java/lang/Throwable" "stackTrace" "[Ljava/lang/StackTraceElement;", .fieldLink "java/lang/Throwable" 24 "java/lang/Throwable" "suppressedExceptions" "Ljava/util/List;", .lays "java/lang/Throwable" "java/lang/Throwable" "suppressedExceptions" "Ljava/util/List;", .fieldLink "java/lang/Throwable" 13 "java/lang/Throwable" "UNASSIGNED_STACK" "[Ljava/lang/StackTraceElement;", .fieldLink "java/lang/Throwable" 20 "java/lang/Throwable" "SUPPRESSED_SENTINEL" "Ljava/util/List;", .lays "java/lang/Throwable" "java/lang/Throwable" "detailMessage" "Ljava/lang/String;", .instanceMethod (Bundle.initS "java/lang/Throwable"), .code (Bundle.initS "java/lang/Throwable") LibCode.Throwable.InitS.code 2 none, .fieldLink "java/lang/Throwable" 31 "java/lang/Throwable" "detailMessage" "Ljava/lang/String;", .instanceMethod (Bundle.initS "java/lang/IndexOutOfBoundsException"), .code (Bundle.initS "java/lang/IndexOutOfBoundsException") Bundle.six 2 none, .methodLink "java/lang/IndexOutOfBoundsException" 7 (Bundle.initS "java/lang/RuntimeException"), .instanceMethod (Bundle.initS "java/lang/RuntimeException"), .code (Bundle.initS "java/lang/RuntimeException") Bundle.six 2 none, .methodLink "java/lang/RuntimeException" 7 (Bundle.initS "java/lang/Exception"), .instanceMethod (Bundle.initS "java/lang/Exception"), .code (Bundle.initS "java/lang/Exception") Bundle.six 2 none, .methodLink "java/lang/Exception" 7 (Bundle.initS "java/lang/Throwable"), .methodLink RX11 224 (Bundle.initS "java/lang/IndexOutOfBoundsException"), .instantiable "java/lang/IndexOutOfBoundsException" 6, .selects "java/lang/IndexOutOfBoundsException" Bundle.tFill0 Bundle.tFill0, .selects "java/lang/IndexOutOfBoundsException" Bundle.tFill Bundle.tFill, .lays "java/lang/IndexOutOfBoundsException" "java/lang/Throwable" "cause" "Ljava/lang/Throwable;", .lays "java/lang/IndexOutOfBoundsException" "java/lang/Throwable" "stackTrace" "[Ljava/lang/StackTraceElement;", .lays "java/lang/IndexOutOfBoundsException" "java/lang/Throwable" "suppressedExceptions" "Ljava/util/List;", .lays "java/lang/IndexOutOfBoundsException" "java/lang/Throwable" "detailMessage" "Ljava/lang/String;", .fieldLink "java/lang/Throwable" 198 "java/lang/Throwable" "backtrace" "Ljava/lang/Object;", .lays "java/lang/Throwable" "java/lang/Throwable" "backtrace" "Ljava/lang/Object;", .lays "java/lang/IndexOutOfBoundsException" "java/lang/Throwable" "backtrace" "Ljava/lang/Object;", .classLink RX11 220 "java/lang/IndexOutOfBoundsException", .initialized "java/lang/IndexOutOfBoundsException"] ++ (u_ws RX11 TX11 17 ++ u_ws RX9 TX9 4)
set_option maxRecDepth 20000 in
theorem in9_X11_found_4_RX11 : ∀ w ∈ u_ws RX11 TX11 17, w ∈ w9_X11_found_4 := by decide +kernel
set_option maxRecDepth 20000 in
theorem in9_X11_found_4_RX9 : ∀ w ∈ u_ws RX9 TX9 4, w ∈ w9_X11_found_4 := by decide +kernel
set_option maxRecDepth 20000 in
theorem g9_X11_found_4_0 : GoodIn w9_X11_found_4 (wsV RX11 244 RX9 yX9_size w9_X9_size_3) := goodIn_r _ [2, 3, 4, 5, 6, 7, 72, 73, 74, 75] (by decide +kernel) (by decide +kernel)
set_option maxHeartbeats 4000000 in
set_option maxRecDepth 100000 in
theorem c9_X11_found_4 (l : Launch) (hlt : l.stackTraces = false) (g : G9) (h0 h1 h2 h3 h4 h5 h6 h7 h8 h9 h10 h11 h12 h13 h14 sz : Nat) (v0 : Int32) (k_v0 : 0 ≤ v0.toInt ∧ v0.toInt ≤ 2147483647) : vx_Met l yX11_found w9_X11_found_4 ({ frames := 6, cells := 1, slots := 6, locals := 82 }) (mP g [(h0, .inr (12, [.ref h1, .int 0, .ref h2, .ref h3, .ref h4, .ref h5, .ref h6, .ref h7, .int (-1), .ref h8, .ref h9, .int 250, .ref h10, .int 0, .ref h11, .ref h12, .ref h13])), (h11, .inr (10, [.int 2, .int 21, .ref h14, .int 0]))] sz [.ref h0, .int v0, .int 0]) (va_Qv (fun _ : Unit => False) (fun _ _ => True) (va_A [(h0, .inr (12, [.ref h1, .int 0, .ref h2, .ref h3, .ref h4, .ref h5, .ref h6, .ref h7, .int (-1), .ref h8, .ref h9, .int 250, .ref h10, .int 0, .ref h11, .ref h12, .ref h13])), (h11, .inr (10, [.int 2, .int 21, .ref h14, .int 0]))] sz)) (mT g [(h0, .inr (12, [.ref h1, .int 0, .ref h2, .ref h3, .ref h4, .ref h5, .ref h6, .ref h7, .int (-1), .ref h8, .ref h9, .int 250, .ref h10, .int 0, .ref h11, .ref h12, .ref h13])), (h11, .inr (10, [.int 2, .int 21, .ref h14, .int 0]))] sz "java/lang/IndexOutOfBoundsException") 1 6 (va_A [(h0, .inr (12, [.ref h1, .int 0, .ref h2, .ref h3, .ref h4, .ref h5, .ref h6, .ref h7, .int (-1), .ref h8, .ref h9, .int 250, .ref h10, .int 0, .ref h11, .ref h12, .ref h13])), (h11, .inr (10, [.int 2, .int 21, .ref h14, .int 0]))] sz) := by
  refine vx_ofW (cc := cX11_found) (maxL := 3) (ret := (some .int)) (by decide) rfl ?_
  intro p e s m args below meth c s₁ B hml hno hv
  obtain ⟨rfl, hsz, hP, hD0, hE⟩ := hv
  have hx := B.exec
  have hb := B.bytes
  have hr := B.returns
  have hts := atoms_spec (ws := w9_X11_found_4) B.pre
  have hown : s.vm.findClass RX11 = some m.cls := findClass_of_methodNamed B.named
  have hlocks := B.notSynchronized
  subst hsz
  have hD := hD0.self (sz := s.heap.size)
  generalize hAe : va_A [(h0, .inr (12, [.ref h1, .int 0, .ref h2, .ref h3, .ref h4, .ref h5, .ref h6, .ref h7, .int (-1), .ref h8, .ref h9, .int 250, .ref h10, .int 0, .ref h11, .ref h12, .ref h13])), (h11, .inr (10, [.int 2, .int 21, .ref h14, .int 0]))] s.heap.size = A at hD hE ⊢
  have hA : ∀ q : Nat, s.heap.size ≤ q → A q := fun q h => by rw [← hAe]; exact Or.inr h
  have hK := hE.1
  have hS : va_S A s.heap s.heap [] := va_S.rf
  replace hP : va_P g.1 vwCl [(h0, .inr (12, [.ref h1, .int 0, .ref h2, .ref h3, .ref h4, .ref h5, .ref h6, .ref h7, .int (-1), .ref h8, .ref h9, .int 250, .ref h10, .int 0, .ref h11, .ref h12, .ref h13])), (h11, .inr (10, [.int 2, .int 21, .ref h14, .int 0]))] s.heap := hP
  have hl := lv_entry ([.ref h0, .int v0, .int 0]) (n := 3) (Nat.le_of_ble_eq_true rfl)
  rw [lg_entry_eq]
  generalize (lg_sl ([.ref h0, .int v0, .int 0]) ++ List.replicate (3 - (lg_sl ([.ref h0, .int v0, .int 0])).length) Slot.unset).toArray = ls at hl ⊢
  replace hl : lv_has ls 3 [(0, .ref h0), (1, .int v0), (2, .int 0)] := hl
  have hH0 : s.heap.size ≤ s.heap.size := Nat.le_refl _
  refine lv_iload_n hx hb dX11_found_0 rfl (lv_at hl 1 rfl) ?_
  refine lv_if_lt (tgt := 15) hx hb dX11_found_1 (by decide) (fun c9 => absurd c9 (by simp only [Int32.lt_iff_toInt_lt, Int32.le_iff_toInt_le, ← Int32.toInt_inj, show (0 : Int32).toInt = 0 from by decide]; omega)) (fun _ => ?_)
  refine lv_iload_n hx hb dX11_found_4 rfl (lv_at hl 1 rfl) ?_
  refine lv_aload_n hx hb dX11_found_5 rfl (lv_at hl 0 rfl) ?_
  refine va_get (D := g.1) (ci := 12) (v := .ref h11) (C := RX11) (T := TX11) (N := 17) hx hb hts in9_X11_found_4_RX11 hown hK hP 0 rfl rfl 14 (by decide) (hts (.fieldLink RX11 82 "Regexloom" "matches" "LRegexloom$Table;") (List.mem_of_getElem? (i := 1) rfl)) (fun _ h9 => h9) rfl dX11_found_6 ?_
  have hPc := hP.sub (ws' := [(h11, .inr (10, [.int 2, .int 21, .ref h14, .int 0]))]) [1] rfl
  have hDc := hD.sub (ws' := [(h11, .inr (10, [.int 2, .int 21, .ref h14, .int 0]))]) [1] (by decide) rfl
  have hFc := va_free (wc := [(h11, .inr (10, [.int 2, .int 21, .ref h14, .int 0]))]) hD hS hA [1] rfl
  refine va_calli (va_runV (As := []) (rest := [.int v0]) ⟨hx, hb, hml, hown, hts⟩ (c9_X9_size_3 l g h11 h14 _) (cwV 0 hts g9_X11_found_4_0 rfl rfl rfl (by decide +kernel) ⟨Nat.le_of_ble_eq_true rfl, Nat.le_of_ble_eq_true rfl⟩) (mPreV (g := g) (wc := [(h11, .inr (10, [.int 2, .int 21, .ref h14, .int 0]))]) (C := RX9) (ci := 10) (q0 := 0) hE hS hPc hDc hFc rfl rfl) rfl rfl hl.1 rfl (lv_room (Nat.le_of_ble_eq_true rfl)) dX11_found_9 ⟨Nat.le_of_ble_eq_true rfl, Nat.le_of_ble_eq_true rfl⟩) hS (fun q _ h => hFc q h) hFc (fun r_1 u t H1 locs ht hvm hw hB hz1 hk1 hS => ?_)
  replace hw : 0 = r_1 := Eq.symm hw
  subst hw
  obtain ⟨hP1, hD1⟩ := hB
  rw [ht] at hP1
  obtain ⟨hP, hD⟩ := va_join (wr := [(h0, .inr (12, [.ref h1, .int 0, .ref h2, .ref h3, .ref h4, .ref h5, .ref h6, .ref h7, .int (-1), .ref h8, .ref h9, .int 250, .ref h10, .int 0, .ref h11, .ref h12, .ref h13]))]) (w1 := [(h11, .inr (10, [.int 2, .int 21, .ref h14, .int 0]))]) hP hD [1] [0] rfl rfl (by decide) (by decide) hk1 hFc hP1 hD1
  clear hP1 hD1 hPc hDc hFc hk1 hz1 hvm ht
  generalize H1 = H at hP hS ⊢
  have hP : va_P g.1 vwCl [(h0, .inr (12, [.ref h1, .int 0, .ref h2, .ref h3, .ref h4, .ref h5, .ref h6, .ref h7, .int (-1), .ref h8, .ref h9, .int 250, .ref h10, .int 0, .ref h11, .ref h12, .ref h13])), (h11, .inr (10, [.int 2, .int 21, .ref h14, .int 0]))] H := hP
  have hD : va_D A [(h0, .inr (12, [.ref h1, .int 0, .ref h2, .ref h3, .ref h4, .ref h5, .ref h6, .ref h7, .int (-1), .ref h8, .ref h9, .int 250, .ref h10, .int 0, .ref h11, .ref h12, .ref h13])), (h11, .inr (10, [.int 2, .int 21, .ref h14, .int 0]))] := hD
  refine lv_icmp_lt (tgt := 25) hx hb dX11_found_12 (by decide) (fun c9 => absurd c9 (by simp only [Int32.lt_iff_toInt_lt, Int32.le_iff_toInt_le, ← Int32.toInt_inj, show (0 : Int32).toInt = 0 from by decide]; omega)) (fun _ => ?_)
  obtain ⟨sa, hsa⟩ := hE.str (245, "no such match") (by decide)
  exact vx_throwS (names := ["java/lang/RuntimeException", "java/lang/Exception"]) (A := A) hx hb hlt hown (by decide) (by decide) (hts (.classLink RX11 220 "java/lang/IndexOutOfBoundsException") (List.mem_of_getElem? (i := 53) rfl)) (hts (.initialized "java/lang/IndexOutOfBoundsException") (List.mem_of_getElem? (i := 54) rfl)) hsa (vx_hat (B := [.castable "java/lang/IndexOutOfBoundsException" "java/lang/IndexOutOfBoundsException", .declares (Bundle.initS "java/lang/RuntimeException"), .declares (Bundle.initS "java/lang/Exception"), .declares (Bundle.initS "java/lang/Throwable")]) (fun w9 hw9 => hts w9 (by revert w9; decide +kernel)) (by decide +kernel) (vx_c (va_Nw.use rfl (hE.cast ("java/lang/IndexOutOfBoundsException", "java/lang/IndexOutOfBoundsException") (by decide))) (vx_c (va_Nw.use rfl (hE.decl _ (by decide))) (vx_c (va_Nw.use rfl (hE.decl _ (by decide))) (vx_c (va_Nw.use rfl (hE.decl _ (by decide))) vx_n))))) (by decide +kernel) hE.zu hE.zn hS (by rw [hml]; exact hl.1) dX11_found_15 dX11_found_18 dX11_found_19 dX11_found_21 dX11_found_24 (fun z hz => (hno z hz).elim) (Nat.le_of_ble_eq_true rfl) (Nat.le_of_ble_eq_true rfl) (Nat.le_of_ble_eq_true rfl) (Nat.le_of_ble_eq_true rfl) hlocks (fun t hW hz ho => ⟨(), trivial, rfl, by subst hAe; exact ⟨Nat.le_trans hS.1 hz, fun q h1 h2 => (ho q (Nat.lt_of_lt_of_le h1 hS.1)).trans (hS.2.1 q h1 h2)⟩⟩) (fun z hz => by subst hAe; exact hS.2.2 z hz) (Nat.le_of_ble_eq_true rfl) (Nat.le_of_ble_eq_true rfl)
def w9_L_found_4 : List Cond := [.codeWith yL_found cL_found 5 (some .int) [(0, 10, 13, 21)], .methodLink RL 68 yX11_found, .instanceMethod yX11_found, .selects RX11 yX11_found yX11_found, .initialized RX11, .code yX11_found cX11_found 3 (some .int), .fieldLink RX11 82 "Regexloom" "matches" "LRegexloom$Table;", .methodLink RX11 244 yX9_size, .instanceMethod yX9_size, .selects RX9 yX9_size yX9_size, .initialized RX9, .code yX9_size cX9_size 1 (some .int), .fieldLink RX9 28 "Regexloom$Table" "size" "I", .initialized "java/lang/Throwable", .superclass "java/lang/Throwable" "java/lang/Object", .instanceMethod Bundle.tFill, .codeSync Bundle.tFill LibCode.Throwable.Fill.code 1 (some (.object "java/lang/Throwable")), .instanceMethod Bundle.tFill0, .native Bundle.tFill0, .instanceMethod Bundle.tInit0, .code Bundle.tInit0 LibCode.Throwable.Init0.code 1 none, .instanceMethod Bundle.oInit, .code Bundle.oInit ⟨#[0xb1]⟩ 1 none, .methodLink "java/lang/Throwable" 1 Bundle.oInit, .methodLink "java/lang/Throwable" 27 Bundle.tFill, .methodLink "java/lang/Throwable" 202 Bundle.tFill0, .fieldLink "java/lang/Throwable" 7 "java/lang/Throwable" "cause" "Ljava/lang/Throwable;", .lays "java/lang/Throwable" "java/lang/Throwable" "cause" "Ljava/lang/Throwable;", .fieldLink "java/lang/Throwable" 17 "java/lang/Throwable" "stackTrace" "[Ljava/lang/StackTraceElement;", .lays "java/lang/Throwable" "java/lang/Throwable" "stackTrace" "[Ljava/lang/StackTraceElement;", .fieldLink "java/lang/Throwable" 24 "java/lang/Throwable" "suppressedExceptions" "Ljava/util/List;", .lays "java/lang/Throwable" "java/lang/Throwable" "suppressedExceptions" "Ljava/util/List;", .fieldLink "java/lang/Throwable" 13 "java/lang/Throwable" "UNASSIGNED_STACK" "[Ljava/lang/StackTraceElement;", .fieldLink "java/lang/Throwable" 20 "java/lang/Throwable" "SUPPRESSED_SENTINEL" "Ljava/util/List;", .lays "java/lang/Throwable" "java/lang/Throwable" "detailMessage" "Ljava/lang/String;", .instanceMethod (Bundle.initS "java/lang/Throwable"), .code (Bundle.initS "java/lang/Throwable") LibCode.Throwable.InitS.code 2 none, .fieldLink "java/lang/Throwable" 31 "java/lang/Throwable" "detailMessage" "Ljava/lang/String;", .instanceMethod (Bundle.initS "java/lang/IndexOutOfBoundsException"), .code (Bundle.initS "java/lang/IndexOutOfBoundsException") Bundle.six 2 none, .methodLink "java/lang/IndexOutOfBoundsException" 7 (Bundle.initS "java/lang/RuntimeException"), .instanceMethod (Bundle.initS "java/lang/RuntimeException"), .code (Bundle.initS "java/lang/RuntimeException") Bundle.six 2 none, .methodLink "java/lang/RuntimeException" 7 (Bundle.initS "java/lang/Exception"), .instanceMethod (Bundle.initS "java/lang/Exception"), .code (Bundle.initS "java/lang/Exception") Bundle.six 2 none, .methodLink "java/lang/Exception" 7 (Bundle.initS "java/lang/Throwable"), .methodLink RX11 224 (Bundle.initS "java/lang/IndexOutOfBoundsException"), .instantiable "java/lang/IndexOutOfBoundsException" 6, .selects "java/lang/IndexOutOfBoundsException" Bundle.tFill0 Bundle.tFill0, .selects "java/lang/IndexOutOfBoundsException" Bundle.tFill Bundle.tFill, .lays "java/lang/IndexOutOfBoundsException" "java/lang/Throwable" "cause" "Ljava/lang/Throwable;", .lays "java/lang/IndexOutOfBoundsException" "java/lang/Throwable" "stackTrace" "[Ljava/lang/StackTraceElement;", .lays "java/lang/IndexOutOfBoundsException" "java/lang/Throwable" "suppressedExceptions" "Ljava/util/List;", .lays "java/lang/IndexOutOfBoundsException" "java/lang/Throwable" "detailMessage" "Ljava/lang/String;", .fieldLink "java/lang/Throwable" 198 "java/lang/Throwable" "backtrace" "Ljava/lang/Object;", .lays "java/lang/Throwable" "java/lang/Throwable" "backtrace" "Ljava/lang/Object;", .lays "java/lang/IndexOutOfBoundsException" "java/lang/Throwable" "backtrace" "Ljava/lang/Object;", .classLink RX11 220 "java/lang/IndexOutOfBoundsException", .initialized "java/lang/IndexOutOfBoundsException", .classLink RL 21 "java/lang/IndexOutOfBoundsException"] ++ (u_ws RX11 TX11 17 ++ u_ws RX9 TX9 4)
set_option maxRecDepth 20000 in
theorem in9_L_found_4_RX11 : ∀ w ∈ u_ws RX11 TX11 17, w ∈ w9_L_found_4 := by decide +kernel
set_option maxRecDepth 20000 in
theorem in9_L_found_4_RX9 : ∀ w ∈ u_ws RX9 TX9 4, w ∈ w9_L_found_4 := by decide +kernel
set_option maxRecDepth 20000 in
theorem g9_L_found_4_0 : GoodIn w9_L_found_4 (wsV RL 68 RX11 yX11_found w9_X11_found_4) := goodIn_r _ [1, 2, 3, 4, 5, 6, 7, 8, 9, 10, 11, 12, 13, 14, 15, 16, 17, 18, 19, 20, 21, 22, 23, 24, 25, 26, 27, 28, 29, 30, 31, 32, 33, 34, 35, 36, 37, 38, 39, 40, 41, 42, 43, 44, 45, 46, 47, 48, 49, 50, 51, 52, 53, 54, 55, 56, 57, 58, 59, 61, 62, 63, 64, 65, 66, 67, 68, 69, 70, 71, 72, 73, 74, 75, 76, 77, 78, 79, 80, 81] (by decide +kernel) (by decide +kernel)
set_option maxHeartbeats 4000000 in
set_option maxRecDepth 100000 in
theorem c9_L_found_4 (l : Launch) (hlt : l.stackTraces = false) (g : G9) (h0 h1 h2 h3 h4 h5 h6 h7 h8 h9 h10 h11 h12 h13 h14 h15 sz : Nat) (v0 : Int32) (k_v0 : 0 ≤ v0.toInt ∧ v0.toInt ≤ 2147483647) : Met l yL_found w9_L_found_4 ({ frames := 7, cells := 1, slots := 6, locals := 104 }) (mP g [(h0, .inr (12, [.ref h2, .int 0, .ref h3, .ref h4, .ref h5, .ref h6, .ref h7, .ref h8, .int (-1), .ref h9, .ref h10, .int 250, .ref h11, .int 0, .ref h12, .ref h13, .ref h14])), (h12, .inr (10, [.int 2, .int 21, .ref h15, .int 0]))] sz [.ref h0, .int v0, .int 0, .ref h1]) (va_Qi (fun (r : Int32) (_ : Unit) => r = 1) (fun (_ : Unit) (t : State) => mB g [(h0, .inr (12, [.ref h2, .int 0, .ref h3, .ref h4, .ref h5, .ref h6, .ref h7, .ref h8, .int (-1), .ref h9, .ref h10, .int 250, .ref h11, .int 0, .ref h12, .ref h13, .ref h14])), (h12, .inr (10, [.int 2, .int 21, .ref h15, .int 0]))] sz [] t) (va_A [(h0, .inr (12, [.ref h2, .int 0, .ref h3, .ref h4, .ref h5, .ref h6, .ref h7, .ref h8, .int (-1), .ref h9, .ref h10, .int 250, .ref h11, .int 0, .ref h12, .ref h13, .ref h14])), (h12, .inr (10, [.int 2, .int 21, .ref h15, .int 0]))] sz)) 1 6 (va_A [(h0, .inr (12, [.ref h2, .int 0, .ref h3, .ref h4, .ref h5, .ref h6, .ref h7, .ref h8, .int (-1), .ref h9, .ref h10, .int 250, .ref h11, .int 0, .ref h12, .ref h13, .ref h14])), (h12, .inr (10, [.int 2, .int 21, .ref h15, .int 0]))] sz) := by
  refine va_MetW (cc := cL_found) (maxL := 5) (ret := (some .int)) (by decide) rfl ?_
  intro p e s m args below meth c s₁ B hml hv
  obtain ⟨rfl, hsz, hP, hD0, hE⟩ := hv
  have hx := B.exec
  have hb := B.bytes
  have hr := B.returns
  have hts := atoms_spec (ws := w9_L_found_4) B.pre
  have hown : s.vm.findClass RL = some m.cls := findClass_of_methodNamed B.named
  have hlocks := B.notSynchronized
  have htab := vx_table (x := yL_found) B (hts (.codeWith yL_found cL_found 5 (some .int) [(0, 10, 13, 21)]) (List.mem_of_getElem? (i := 0) rfl))
  subst hsz
  have hD := hD0.self (sz := s.heap.size)
  generalize hAe : va_A [(h0, .inr (12, [.ref h2, .int 0, .ref h3, .ref h4, .ref h5, .ref h6, .ref h7, .ref h8, .int (-1), .ref h9, .ref h10, .int 250, .ref h11, .int 0, .ref h12, .ref h13, .ref h14])), (h12, .inr (10, [.int 2, .int 21, .ref h15, .int 0]))] s.heap.size = A at hD hE ⊢
  have hA : ∀ q : Nat, s.heap.size ≤ q → A q := fun q h => by rw [← hAe]; exact Or.inr h
  have hK := hE.1
  have hS : va_S A s.heap s.heap [] := va_S.rf
  replace hP : va_P g.1 vwCl [(h0, .inr (12, [.ref h2, .int 0, .ref h3, .ref h4, .ref h5, .ref h6, .ref h7, .ref h8, .int (-1), .ref h9, .ref h10, .int 250, .ref h11, .int 0, .ref h12, .ref h13, .ref h14])), (h12, .inr (10, [.int 2, .int 21, .ref h15, .int 0]))] s.heap := hP
  have hl := lv_entry ([.ref h0, .int v0, .int 0, .ref h1]) (n := 5) (Nat.le_of_ble_eq_true rfl)
  rw [lg_entry_eq]
  generalize (lg_sl ([.ref h0, .int v0, .int 0, .ref h1]) ++ List.replicate (5 - (lg_sl ([.ref h0, .int v0, .int 0, .ref h1])).length) Slot.unset).toArray = ls at hl ⊢
  replace hl : lv_has ls 5 [(0, .ref h0), (1, .int v0), (2, .int 0), (3, .ref h1)] := hl
  have hH0 : s.heap.size ≤ s.heap.size := Nat.le_refl _
  refine lv_aload_n hx hb dL_found_0 rfl (lv_at hl 3 rfl) ?_
  refine lv_iconst (v := 0) hx hb dL_found_1 (by decide) ?_
  refine lv_aload_n hx hb dL_found_2 rfl (lv_at hl 0 rfl) ?_
  refine lv_iload_n hx hb dL_found_3 rfl (lv_at hl 1 rfl) ?_
  refine lv_iload_n hx hb dL_found_4 rfl (lv_at hl 2 rfl) ?_
  have hPc := hP.sub (ws' := [(h0, .inr (12, [.ref h2, .int 0, .ref h3, .ref h4, .ref h5, .ref h6, .ref h7, .ref h8, .int (-1), .ref h9, .ref h10, .int 250, .ref h11, .int 0, .ref h12, .ref h13, .ref h14])), (h12, .inr (10, [.int 2, .int 21, .ref h15, .int 0]))]) [0, 1] rfl
  have hDc := hD.sub (ws' := [(h0, .inr (12, [.ref h2, .int 0, .ref h3, .ref h4, .ref h5, .ref h6, .ref h7, .ref h8, .int (-1), .ref h9, .ref h10, .int 250, .ref h11, .int 0, .ref h12, .ref h13, .ref h14])), (h12, .inr (10, [.int 2, .int 21, .ref h15, .int 0]))]) [0, 1] (by decide) rfl
  have hFc := va_free (wc := [(h0, .inr (12, [.ref h2, .int 0, .ref h3, .ref h4, .ref h5, .ref h6, .ref h7, .ref h8, .int (-1), .ref h9, .ref h10, .int 250, .ref h11, .int 0, .ref h12, .ref h13, .ref h14])), (h12, .inr (10, [.int 2, .int 21, .ref h15, .int 0]))]) hD hS hA [0, 1] rfl
  refine vx_callv (vx_runV (As := [.int v0, .int 0]) (rest := [.int 0, .ref h1]) ⟨hx, hb, hml, hown, hts⟩ (c9_X11_found_4 l hlt g h0 h2 h3 h4 h5 h6 h7 h8 h9 h10 h11 h12 h13 h14 h15 _ v0 (by omega)) (cwV 2 hts g9_L_found_4_0 rfl rfl rfl (by decide +kernel) ⟨Nat.le_of_ble_eq_true rfl, Nat.le_of_ble_eq_true rfl⟩) (mPreV (g := g) (wc := [(h0, .inr (12, [.ref h2, .int 0, .ref h3, .ref h4, .ref h5, .ref h6, .ref h7, .ref h8, .int (-1), .ref h9, .ref h10, .int 250, .ref h11, .int 0, .ref h12, .ref h13, .ref h14])), (h12, .inr (10, [.int 2, .int 21, .ref h15, .int 0]))]) (C := RX11) (ci := 12) (q0 := 0) hE hS hPc hDc hFc rfl rfl) rfl rfl hl.1 rfl (lv_room (Nat.le_of_ble_eq_true rfl)) dL_found_5 ⟨Nat.le_of_ble_eq_true rfl, Nat.le_of_ble_eq_true rfl⟩) hS (fun q _ h => hFc q h) hFc (fun q _ h => hFc q h) (fun E9 ce q9 u t H locs ht hvm hw hB hz1 hk1 hS hc1 hc2 hc3 => ?_) (fun u t H1 locs ht hvm hw hB hz1 hk1 hS => hw.elim)
  replace hB : E9 = "java/lang/IndexOutOfBoundsException" := hB
  subst hB
  obtain ⟨hP, hD⟩ := va_join (wr := []) (w1 := []) hP hD [0, 1] [] rfl rfl (by decide) (by decide) hk1 hFc (fun k q h => by simp at h) ⟨fun i j p q h => by simp at h, fun k q h => by simp at h⟩
  have hP : va_P g.1 vwCl [] H := hP
  have hD : va_D A [] := hD
  refine vx_catch (own := RL) (name := "java/lang/IndexOutOfBoundsException") hown [] ⟨0, 10, 13, 21⟩ [] (by rw [htab]; rfl) (fun z hz => absurd hz List.not_mem_nil) (by decide) (by decide) (hts (.classLink RL 21 "java/lang/IndexOutOfBoundsException") (List.mem_of_getElem? (i := 60) rfl)) (va_Nw.use rfl (hE.cast ("java/lang/IndexOutOfBoundsException", "java/lang/IndexOutOfBoundsException") (by decide))) hc1 hc2 hc3 ?_
  refine lv_astore (lv' := [(4, .ref q9), (0, .ref h0), (1, .int v0), (2, .int 0), (3, .ref h1)]) hx hb dL_found_13 hl (by decide) rfl (fun ls hl => ?_)
  refine lv_iconst (v := 1) hx hb dL_found_15 (by decide) ?_
  have hP9 := hP.sub (ws' := []) [] rfl
  have hD9 := hD.sub (ws' := []) [] (by decide) rfl
  subst hAe
  exact W.iret (v := 1) hx hb hr (fun t ht hW => ⟨⟨1, (), rfl, rfl, by rw [ht]; exact hP9, hD9⟩, hS.F ht⟩) hS.2.2 dL_found_16
def w9_X21_found_4 : List Cond := [.code yX21_found cX21_found 3 (some .int), .fieldLink RX21 101 "RegexloomModel" "begins" "Ljava/util/ArrayList;", .methodLink RX21 218 yJx4a65c_size_8abf5, .instanceMethod yJx4a65c_size_8abf5, .selects RJx4a65c yJx4a65c_size_8abf5 yJx4a65c_size_8abf5, .initialized RJx4a65c, .code yJx4a65c_size_8abf5 cJx4a65c_size_8abf5 1 (some .int), .fieldLink RJx4a65c 48 "java/util/ArrayList" "size" "I", .methodLink RX21 160 yX21_in, .static yX21_in, .initialized RX21, .code yX21_in cX21_in 3 (some .boolean), .methodLink RX21 154 yX21_refused, .instanceMethod yX21_refused, .selects RX21 yX21_refused yX21_refused, .code yX21_refused cX21_refused 2 (some .boolean), .fieldLink RX21 144 "RegexloomModel" "refusal" "I"] ++ (u_ws RX21 TX21 32 ++ u_ws RJx4a65c TJx4a65c 3)
set_option maxRecDepth 20000 in
theorem in9_X21_found_4_RX21 : ∀ w ∈ u_ws RX21 TX21 32, w ∈ w9_X21_found_4 := by decide +kernel
set_option maxRecDepth 20000 in
theorem in9_X21_found_4_RJx4a65c : ∀ w ∈ u_ws RJx4a65c TJx4a65c 3, w ∈ w9_X21_found_4 := by decide +kernel
set_option maxRecDepth 20000 in
theorem g9_X21_found_4_0 : GoodIn w9_X21_found_4 (wsV RX21 218 RJx4a65c yJx4a65c_size_8abf5 w9_Jx4a65c_size_8abf5_1) := goodIn_r _ [2, 3, 4, 5, 6, 7, 49, 50, 51] (by decide +kernel) (by decide +kernel)
set_option maxRecDepth 20000 in
theorem g9_X21_found_4_1 : GoodIn w9_X21_found_4 (va_wsS RX21 160 yX21_in w9_X21_in_24) := goodIn_r _ [8, 9, 10, 11] (by decide +kernel) (by decide +kernel)
set_option maxRecDepth 20000 in
theorem g9_X21_found_4_2 : GoodIn w9_X21_found_4 (wsV RX21 154 RX21 yX21_refused w9_X21_refused_2) := goodIn_r _ [12, 13, 14, 10, 15, 16, 17, 18, 19, 20, 21, 22, 23, 24, 25, 26, 27, 28, 29, 30, 31, 32, 33, 34, 35, 36, 37, 38, 39, 40, 41, 42, 43, 44, 45, 46, 47, 48] (by decide +kernel) (by decide +kernel)
set_option maxHeartbeats 4000000 in
set_option maxRecDepth 100000 in
theorem c9_X21_found_4 (l : Launch) (g : G9) (h0 h1 h2 h3 h4 h5 h6 h7 h8 h9 h10 h11 h12 h13 h14 h15 h16 sz : Nat) (v0 : Int32) (k_v0 : 0 ≤ v0.toInt ∧ v0.toInt ≤ 2147483647) : Met l yX21_found w9_X21_found_4 ({ frames := 1, cells := 0, slots := 0, locals := 22 }) (mP g [(h0, .inr (22, [.int 0, .ref h1, .int 0, .ref h2, .int 0, .ref h3, .int 250, .ref h4, .int 0, .ref h5, .ref h6, .ref h7, .int 0, .ref h8, .ref h9, .ref h10, .int 0, .null, .int 0, .null, .int 0, .int 0, .int 0, .ref h11, .int 0, .ref h12, .ref h13, .ref h14, .int 0, .ref h15, .ref h16, .int 0])), (h5, .inr (2, [.int 0, .ref (g.2.2 0), .int 0]))] sz [.ref h0, .int v0, .int 0]) (va_Qi (fun (r : Int32) (_ : Unit) => r = 0) (fun (_ : Unit) (t : State) => mB g [(h0, .inr (22, [.int 0, .ref h1, .int 0, .ref h2, .int 0, .ref h3, .int 250, .ref h4, .int 0, .ref h5, .ref h6, .ref h7, .int 0, .ref h8, .ref h9, .ref h10, .int 0, .null, .int 0, .null, .int 0, .int 0, .int 0, .ref h11, .int 0, .ref h12, .ref h13, .ref h14, .int 0, .ref h15, .ref h16, .int 0])), (h5, .inr (2, [.int 0, .ref (g.2.2 0), .int 0]))] sz [(h0, .inr (22, [.int 1, .ref h1, .int 0, .ref h2, .int 0, .ref h3, .int 250, .ref h4, .int 0, .ref h5, .ref h6, .ref h7, .int 0, .ref h8, .ref h9, .ref h10, .int 0, .null, .int 0, .null, .int 0, .int 0, .int 0, .ref h11, .int 0, .ref h12, .ref h13, .ref h14, .int 0, .ref h15, .ref h16, .int 0])), (h5, .inr (2, [.int 0, .ref (g.2.2 0), .int 0]))] t) (va_A [(h0, .inr (22, [.int 0, .ref h1, .int 0, .ref h2, .int 0, .ref h3, .int 250, .ref h4, .int 0, .ref h5, .ref h6, .ref h7, .int 0, .ref h8, .ref h9, .ref h10, .int 0, .null, .int 0, .null, .int 0, .int 0, .int 0, .ref h11, .int 0, .ref h12, .ref h13, .ref h14, .int 0, .ref h15, .ref h16, .int 0])), (h5, .inr (2, [.int 0, .ref (g.2.2 0), .int 0]))] sz)) 0 0 (va_A [(h0, .inr (22, [.int 0, .ref h1, .int 0, .ref h2, .int 0, .ref h3, .int 250, .ref h4, .int 0, .ref h5, .ref h6, .ref h7, .int 0, .ref h8, .ref h9, .ref h10, .int 0, .null, .int 0, .null, .int 0, .int 0, .int 0, .ref h11, .int 0, .ref h12, .ref h13, .ref h14, .int 0, .ref h15, .ref h16, .int 0])), (h5, .inr (2, [.int 0, .ref (g.2.2 0), .int 0]))] sz) := by
  refine Met.ofW (cc := cX21_found) (maxL := 3) (ret := (some .int)) (by decide) rfl ?_
  intro p e s m args below meth c s₁ B hml hv
  obtain ⟨rfl, hsz, hP, hD0, hE⟩ := hv
  have hx := B.exec
  have hb := B.bytes
  have hr := B.returns
  have hts := atoms_spec (ws := w9_X21_found_4) B.pre
  have hown : s.vm.findClass RX21 = some m.cls := findClass_of_methodNamed B.named
  have hlocks := B.notSynchronized
  subst hsz
  have hD := hD0.self (sz := s.heap.size)
  generalize hAe : va_A [(h0, .inr (22, [.int 0, .ref h1, .int 0, .ref h2, .int 0, .ref h3, .int 250, .ref h4, .int 0, .ref h5, .ref h6, .ref h7, .int 0, .ref h8, .ref h9, .ref h10, .int 0, .null, .int 0, .null, .int 0, .int 0, .int 0, .ref h11, .int 0, .ref h12, .ref h13, .ref h14, .int 0, .ref h15, .ref h16, .int 0])), (h5, .inr (2, [.int 0, .ref (g.2.2 0), .int 0]))] s.heap.size = A at hD hE ⊢
  have hA : ∀ q : Nat, s.heap.size ≤ q → A q := fun q h => by rw [← hAe]; exact Or.inr h
  have hK := hE.1
  have hS : va_S A s.heap s.heap [] := va_S.rf
  replace hP : va_P g.1 vwCl [(h0, .inr (22, [.int 0, .ref h1, .int 0, .ref h2, .int 0, .ref h3, .int 250, .ref h4, .int 0, .ref h5, .ref h6, .ref h7, .int 0, .ref h8, .ref h9, .ref h10, .int 0, .null, .int 0, .null, .int 0, .int 0, .int 0, .ref h11, .int 0, .ref h12, .ref h13, .ref h14, .int 0, .ref h15, .ref h16, .int 0])), (h5, .inr (2, [.int 0, .ref (g.2.2 0), .int 0]))] s.heap := hP
  have hl := lv_entry ([.ref h0, .int v0, .int 0]) (n := 3) (Nat.le_of_ble_eq_true rfl)
  rw [lg_entry_eq]
  generalize (lg_sl ([.ref h0, .int v0, .int 0]) ++ List.replicate (3 - (lg_sl ([.ref h0, .int v0, .int 0])).length) Slot.unset).toArray = ls at hl ⊢
  replace hl : lv_has ls 3 [(0, .ref h0), (1, .int v0), (2, .int 0)] := hl
  have hH0 : s.heap.size ≤ s.heap.size := Nat.le_refl _
  refine lv_aload_n hx hb dX21_found_0 rfl (lv_at hl 0 rfl) ?_
  refine lv_iload_n hx hb dX21_found_1 rfl (lv_at hl 1 rfl) ?_
  refine lv_iconst (v := 0) hx hb dX21_found_2 (by decide) ?_
  refine lv_aload_n hx hb dX21_found_3 rfl (lv_at hl 0 rfl) ?_
  refine va_get (D := g.1) (ci := 22) (v := .ref h5) (C := RX21) (T := TX21) (N := 32) hx hb hts in9_X21_found_4_RX21 hown hK hP 0 rfl rfl 9 (by decide) (hts (.fieldLink RX21 101 "RegexloomModel" "begins" "Ljava/util/ArrayList;") (List.mem_of_getElem? (i := 1) rfl)) (fun _ h9 => h9) rfl dX21_found_4 ?_
  have hPc := hP.sub (ws' := [(h5, .inr (2, [.int 0, .ref (g.2.2 0), .int 0]))]) [1] rfl
  have hDc := hD.sub (ws' := [(h5, .inr (2, [.int 0, .ref (g.2.2 0), .int 0]))]) [1] (by decide) rfl
  have hFc := va_free (wc := [(h5, .inr (2, [.int 0, .ref (g.2.2 0), .int 0]))]) hD hS hA [1] rfl
  refine va_calli (va_runV (As := []) (rest := [.int 0, .int v0, .ref h0]) ⟨hx, hb, hml, hown, hts⟩ (c9_Jx4a65c_size_8abf5_1 l g h5 _) (cwV 0 hts g9_X21_found_4_0 rfl rfl rfl (by decide +kernel) ⟨Nat.le_of_ble_eq_true rfl, Nat.le_of_ble_eq_true rfl⟩) (mPreV (g := g) (wc := [(h5, .inr (2, [.int 0, .ref (g.2.2 0), .int 0]))]) (C := RJx4a65c) (ci := 2) (q0 := 0) hE hS hPc hDc hFc rfl rfl) rfl rfl hl.1 rfl (lv_room (Nat.le_of_ble_eq_true rfl)) dX21_found_7 ⟨Nat.le_of_ble_eq_true rfl, Nat.le_of_ble_eq_true rfl⟩) hS (fun q _ h => hFc q h) hFc (fun r_1 u t H1 locs ht hvm hw hB hz1 hk1 hS => ?_)
  replace hw : 0 = r_1 := Eq.symm hw
  subst hw
  obtain ⟨hP1, hD1⟩ := hB
  rw [ht] at hP1
  obtain ⟨hP, hD⟩ := va_join (wr := [(h0, .inr (22, [.int 0, .ref h1, .int 0, .ref h2, .int 0, .ref h3, .int 250, .ref h4, .int 0, .ref h5, .ref h6, .ref h7, .int 0, .ref h8, .ref h9, .ref h10, .int 0, .null, .int 0, .null, .int 0, .int 0, .int 0, .ref h11, .int 0, .ref h12, .ref h13, .ref h14, .int 0, .ref h15, .ref h16, .int 0]))]) (w1 := [(h5, .inr (2, [.int 0, .ref (g.2.2 0), .int 0]))]) hP hD [1] [0] rfl rfl (by decide) (by decide) hk1 hFc hP1 hD1
  clear hP1 hD1 hPc hDc hFc hk1 hz1 hvm ht
  generalize H1 = H at hP hS ⊢
  have hP : va_P g.1 vwCl [(h0, .inr (22, [.int 0, .ref h1, .int 0, .ref h2, .int 0, .ref h3, .int 250, .ref h4, .int 0, .ref h5, .ref h6, .ref h7, .int 0, .ref h8, .ref h9, .ref h10, .int 0, .null, .int 0, .null, .int 0, .int 0, .int 0, .ref h11, .int 0, .ref h12, .ref h13, .ref h14, .int 0, .ref h15, .ref h16, .int 0])), (h5, .inr (2, [.int 0, .ref (g.2.2 0), .int 0]))] H := hP
  have hD : va_D A [(h0, .inr (22, [.int 0, .ref h1, .int 0, .ref h2, .int 0, .ref h3, .int 250, .ref h4, .int 0, .ref h5, .ref h6, .ref h7, .int 0, .ref h8, .ref h9, .ref h10, .int 0, .null, .int 0, .null, .int 0, .int 0, .int 0, .ref h11, .int 0, .ref h12, .ref h13, .ref h14, .int 0, .ref h15, .ref h16, .int 0])), (h5, .inr (2, [.int 0, .ref (g.2.2 0), .int 0]))] := hD
  refine lv_iconst (v := 1) hx hb dX21_found_10 (by decide) ?_
  refine lv_isub hx hb dX21_found_11 ?_
  refine e_top (y := (-1)) (by decide) ?_
  have hPc := hP.sub (ws' := []) [] rfl
  have hDc := hD.sub (ws' := []) [] (by decide) rfl
  have hFc := va_free (wc := []) hD hS hA [] rfl
  refine va_calli (va_runS (As := [.int v0, .int 0, .int (-1)]) (rest := [.ref h0]) ⟨hx, hb, hml, hown, hts⟩ (c9_X21_in_24 l g _ v0 (by omega)) (va_cwS 3 hts g9_X21_found_4_1 rfl rfl rfl (by decide +kernel) ⟨Nat.le_of_ble_eq_true rfl, Nat.le_of_ble_eq_true rfl⟩) (mPreS (g := g) (wc := []) hE hS hPc hDc hFc) rfl rfl hl.1 rfl (lv_room (Nat.le_of_ble_eq_true rfl)) dX21_found_12 ⟨Nat.le_of_ble_eq_true rfl, Nat.le_of_ble_eq_true rfl⟩) hS (fun q _ h => hFc q h) hFc (fun r_2 u t H1 locs ht hvm hw hB hz1 hk1 hS => ?_)
  replace hw : 0 = r_2 := Eq.symm hw
  subst hw
  obtain ⟨hP1, hD1⟩ := hB
  rw [ht] at hP1
  obtain ⟨hP, hD⟩ := va_join (wr := [(h0, .inr (22, [.int 0, .ref h1, .int 0, .ref h2, .int 0, .ref h3, .int 250, .ref h4, .int 0, .ref h5, .ref h6, .ref h7, .int 0, .ref h8, .ref h9, .ref h10, .int 0, .null, .int 0, .null, .int 0, .int 0, .int 0, .ref h11, .int 0, .ref h12, .ref h13, .ref h14, .int 0, .ref h15, .ref h16, .int 0])), (h5, .inr (2, [.int 0, .ref (g.2.2 0), .int 0]))]) (w1 := []) hP hD [] [0, 1] rfl rfl (by decide) (by decide) hk1 hFc hP1 hD1
  clear hP1 hD1 hPc hDc hFc hk1 hz1 hvm ht
  generalize H1 = H at hP hS ⊢
  have hP : va_P g.1 vwCl [(h0, .inr (22, [.int 0, .ref h1, .int 0, .ref h2, .int 0, .ref h3, .int 250, .ref h4, .int 0, .ref h5, .ref h6, .ref h7, .int 0, .ref h8, .ref h9, .ref h10, .int 0, .null, .int 0, .null, .int 0, .int 0, .int 0, .ref h11, .int 0, .ref h12, .ref h13, .ref h14, .int 0, .ref h15, .ref h16, .int 0])), (h5, .inr (2, [.int 0, .ref (g.2.2 0), .int 0]))] H := hP
  have hD : va_D A [(h0, .inr (22, [.int 0, .ref h1, .int 0, .ref h2, .int 0, .ref h3, .int 250, .ref h4, .int 0, .ref h5, .ref h6, .ref h7, .int 0, .ref h8, .ref h9, .ref h10, .int 0, .null, .int 0, .null, .int 0, .int 0, .int 0, .ref h11, .int 0, .ref h12, .ref h13, .ref h14, .int 0, .ref h15, .ref h16, .int 0])), (h5, .inr (2, [.int 0, .ref (g.2.2 0), .int 0]))] := hD
  refine lv_if_eq (tgt := 22) hx hb dX21_found_15 (by decide) (fun _ => ?_) (fun c9 => absurd (by decide) c9)
  refine lv_iconst (v := 1) hx hb dX21_found_22 (by decide) ?_
  have hPc := hP.sub (ws' := [(h0, .inr (22, [.int 0, .ref h1, .int 0, .ref h2, .int 0, .ref h3, .int 250, .ref h4, .int 0, .ref h5, .ref h6, .ref h7, .int 0, .ref h8, .ref h9, .ref h10, .int 0, .null, .int 0, .null, .int 0, .int 0, .int 0, .ref h11, .int 0, .ref h12, .ref h13, .ref h14, .int 0, .ref h15, .ref h16, .int 0]))]) [0] rfl
  have hDc := hD.sub (ws' := [(h0, .inr (22, [.int 0, .ref h1, .int 0, .ref h2, .int 0, .ref h3, .int 250, .ref h4, .int 0, .ref h5, .ref h6, .ref h7, .int 0, .ref h8, .ref h9, .ref h10, .int 0, .null, .int 0, .null, .int 0, .int 0, .int 0, .ref h11, .int 0, .ref h12, .ref h13, .ref h14, .int 0, .ref h15, .ref h16, .int 0]))]) [0] (by decide) rfl
  have hFc := va_free (wc := [(h0, .inr (22, [.int 0, .ref h1, .int 0, .ref h2, .int 0, .ref h3, .int 250, .ref h4, .int 0, .ref h5, .ref h6, .ref h7, .int 0, .ref h8, .ref h9, .ref h10, .int 0, .null, .int 0, .null, .int 0, .int 0, .int 0, .ref h11, .int 0, .ref h12, .ref h13, .ref h14, .int 0, .ref h15, .ref h16, .int 0]))]) hD hS hA [0] rfl
  refine va_calli (va_runV (As := [.int 1]) (rest := []) ⟨hx, hb, hml, hown, hts⟩ (c9_X21_refused_2 l g h0 h1 h2 h3 h4 h5 h6 h7 h8 h9 h10 h11 h12 h13 h14 h15 h16 _) (cwV 1 hts g9_X21_found_4_2 rfl rfl rfl (by decide +kernel) ⟨Nat.le_of_ble_eq_true rfl, Nat.le_of_ble_eq_true rfl⟩) (mPreV (g := g) (wc := [(h0, .inr (22, [.int 0, .ref h1, .int 0, .ref h2, .int 0, .ref h3, .int 250, .ref h4, .int 0, .ref h5, .ref h6, .ref h7, .int 0, .ref h8, .ref h9, .ref h10, .int 0, .null, .int 0, .null, .int 0, .int 0, .int 0, .ref h11, .int 0, .ref h12, .ref h13, .ref h14, .int 0, .ref h15, .ref h16, .int 0]))]) (C := RX21) (ci := 22) (q0 := 0) hE hS hPc hDc hFc rfl rfl) rfl rfl hl.1 rfl (lv_room (Nat.le_of_ble_eq_true rfl)) dX21_found_23 ⟨Nat.le_of_ble_eq_true rfl, Nat.le_of_ble_eq_true rfl⟩) hS (fun q _ h => hFc q h) hFc (fun r_3 u t H1 locs ht hvm hw hB hz1 hk1 hS => ?_)
  replace hw : 1 = r_3 := Eq.symm hw
  subst hw
  obtain ⟨hP1, hD1⟩ := hB
  rw [ht] at hP1
  obtain ⟨hP, hD⟩ := va_join (wr := [(h5, .inr (2, [.int 0, .ref (g.2.2 0), .int 0]))]) (w1 := [(h0, .inr (22, [.int 1, .ref h1, .int 0, .ref h2, .int 0, .ref h3, .int 250, .ref h4, .int 0, .ref h5, .ref h6, .ref h7, .int 0, .ref h8, .ref h9, .ref h10, .int 0, .null, .int 0, .null, .int 0, .int 0, .int 0, .ref h11, .int 0, .ref h12, .ref h13, .ref h14, .int 0, .ref h15, .ref h16, .int 0]))]) hP hD [0] [1] rfl rfl (by decide) (by decide) hk1 hFc hP1 hD1
  clear hP1 hD1 hPc hDc hFc hk1 hz1 hvm ht
  generalize H1 = H at hP hS ⊢
  have hP : va_P g.1 vwCl [(h5, .inr (2, [.int 0, .ref (g.2.2 0), .int 0])), (h0, .inr (22, [.int 1, .ref h1, .int 0, .ref h2, .int 0, .ref h3, .int 250, .ref h4, .int 0, .ref h5, .ref h6, .ref h7, .int 0, .ref h8, .ref h9, .ref h10, .int 0, .null, .int 0, .null, .int 0, .int 0, .int 0, .ref h11, .int 0, .ref h12, .ref h13, .ref h14, .int 0, .ref h15, .ref h16, .int 0]))] H := hP
  have hD : va_D A [(h5, .inr (2, [.int 0, .ref (g.2.2 0), .int 0])), (h0, .inr (22, [.int 1, .ref h1, .int 0, .ref h2, .int 0, .ref h3, .int 250, .ref h4, .int 0, .ref h5, .ref h6, .ref h7, .int 0, .ref h8, .ref h9, .ref h10, .int 0, .null, .int 0, .null, .int 0, .int 0, .int 0, .ref h11, .int 0, .ref h12, .ref h13, .ref h14, .int 0, .ref h15, .ref h16, .int 0]))] := hD
  refine lv_if_eq (tgt := 31) hx hb dX21_found_26 (by decide) (fun c9 => absurd c9 (by decide)) (fun _ => ?_)
  refine lv_iconst (v := 0) hx hb dX21_found_29 (by decide) ?_
  have hP9 := hP.sub (ws' := [(h0, .inr (22, [.int 1, .ref h1, .int 0, .ref h2, .int 0, .ref h3, .int 250, .ref h4, .int 0, .ref h5, .ref h6, .ref h7, .int 0, .ref h8, .ref h9, .ref h10, .int 0, .null, .int 0, .null, .int 0, .int 0, .int 0, .ref h11, .int 0, .ref h12, .ref h13, .ref h14, .int 0, .ref h15, .ref h16, .int 0])), (h5, .inr (2, [.int 0, .ref (g.2.2 0), .int 0]))]) [1, 0] rfl
  have hD9 := hD.sub (ws' := [(h0, .inr (22, [.int 1, .ref h1, .int 0, .ref h2, .int 0, .ref h3, .int 250, .ref h4, .int 0, .ref h5, .ref h6, .ref h7, .int 0, .ref h8, .ref h9, .ref h10, .int 0, .null, .int 0, .null, .int 0, .int 0, .int 0, .ref h11, .int 0, .ref h12, .ref h13, .ref h14, .int 0, .ref h15, .ref h16, .int 0])), (h5, .inr (2, [.int 0, .ref (g.2.2 0), .int 0]))]) [1, 0] (by decide) rfl
  subst hAe
  exact W.iret (v := 0) hx hb hr (fun t ht hW => ⟨⟨0, (), rfl, rfl, by rw [ht]; exact hP9, hD9⟩, hS.F ht⟩) hS.2.2 dX21_found_30
def w9_X11_which_1 : List Cond := [.code yX11_which cX11_which 4 (some .int), .methodLink RX11 180 yX11_needPlace, .instanceMethod yX11_needPlace, .selects RX11 yX11_needPlace yX11_needPlace, .initialized RX11, .code yX11_needPlace cX11_needPlace 2 none, .initialized "java/lang/Throwable", .superclass "java/lang/Throwable" "java/lang/Object", .instanceMethod Bundle.tFill, .codeSync Bundle.tFill LibCode.Throwable.Fill.code 1 (some (.object "java/lang/Throwable")), .instanceMethod Bundle.tFill0, .native Bundle.tFill0, .instanceMethod Bundle.tInit0, .code Bundle.tInit0 LibCode.Throwable.Init0.code 1 none, .instanceMethod Bundle.oInit, .code Bundle.oInit ⟨#[0xb1]⟩ 1 none, .methodLink "java/lang/Throwable" 1 Bundle.oInit, .methodLink "java/lang/Throwable" 27 Bundle.tFill, .methodLink "java/lang/Throwable" 202 Bundle.tFill0, .fieldLink "java/lang/Throwable" 7 "java/lang/Throwable" "cause" "Ljava/lang/Throwable;", .lays "java/lang/Throwable" "java/lang/Throwable" "cause" "Ljava/lang/Throwable;", .fieldLink "java/lang/Throwable" 17 "java/lang/Throwable" "stackTrace" "[Ljava/lang/StackTraceElement;", .lays "java/lang/Throwable" "java/lang/Throwable" "stackTrace" "[Ljava/lang/StackTraceElement;", .fieldLink "java/lang/Throwable" 24 "java/lang/Throwable" "suppressedExceptions" "Ljava/util/List;", .lays "java/lang/Throwable" "java/lang/Throwable" "suppressedExceptions" "Ljava/util/List;", .fieldLink "java/lang/Throwable" 13 "java/lang/Throwable" "UNASSIGNED_STACK" "[Ljava/lang/StackTraceElement;", .fieldLink "java/lang/Throwable" 20 "java/lang/Throwable" "SUPPRESSED_SENTINEL" "Ljava/util/List;", .lays "java/lang/Throwable" "java/lang/Throwable" "detailMessage" "Ljava/lang/String;", .instanceMethod (Bundle.initS "java/lang/Throwable"), .code (Bundle.initS "java/lang/Throwable") LibCode.Throwable.InitS.code 2 none, .fieldLink "java/lang/Throwable" 31 "java/lang/Throwable" "detailMessage" "Ljava/lang/String;", .instanceMethod (Bundle.initS "java/lang/IndexOutOfBoundsException"), .code (Bundle.initS "java/lang/IndexOutOfBoundsException") Bundle.six 2 none, .methodLink "java/lang/IndexOutOfBoundsException" 7 (Bundle.initS "java/lang/RuntimeException"), .instanceMethod (Bundle.initS "java/lang/RuntimeException"), .code (Bundle.initS "java/lang/RuntimeException") Bundle.six 2 none, .methodLink "java/lang/RuntimeException" 7 (Bundle.initS "java/lang/Exception"), .instanceMethod (Bundle.initS "java/lang/Exception"), .code (Bundle.initS "java/lang/Exception") Bundle.six 2 none, .methodLink "java/lang/Exception" 7 (Bundle.initS "java/lang/Throwable"), .methodLink RX11 224 (Bundle.initS "java/lang/IndexOutOfBoundsException"), .instantiable "java/lang/IndexOutOfBoundsException" 6, .selects "java/lang/IndexOutOfBoundsException" Bundle.tFill0 Bundle.tFill0, .selects "java/lang/IndexOutOfBoundsException" Bundle.tFill Bundle.tFill, .lays "java/lang/IndexOutOfBoundsException" "java/lang/Throwable" "cause" "Ljava/lang/Throwable;", .lays "java/lang/IndexOutOfBoundsException" "java/lang/Throwable" "stackTrace" "[Ljava/lang/StackTraceElement;", .lays "java/lang/IndexOutOfBoundsException" "java/lang/Throwable" "suppressedExceptions" "Ljava/util/List;", .lays "java/lang/IndexOutOfBoundsException" "java/lang/Throwable" "detailMessage" "Ljava/lang/String;", .fieldLink "java/lang/Throwable" 198 "java/lang/Throwable" "backtrace" "Ljava/lang/Object;", .lays "java/lang/Throwable" "java/lang/Throwable" "backtrace" "Ljava/lang/Object;", .lays "java/lang/IndexOutOfBoundsException" "java/lang/Throwable" "backtrace" "Ljava/lang/Object;", .classLink RX11 220 "java/lang/IndexOutOfBoundsException", .initialized "java/lang/IndexOutOfBoundsException"]
set_option maxRecDepth 20000 in
theorem g9_X11_which_1_0 : GoodIn w9_X11_which_1 (wsV RX11 180 RX11 yX11_needPlace w9_X11_needPlace_1) := goodIn_r _ [1, 2, 3, 4, 5, 6, 7, 8, 9, 10, 11, 12, 13, 14, 15, 16, 17, 18, 19, 20, 21, 22, 23, 24, 25, 26, 27, 28, 29, 30, 31, 32, 33, 34, 35, 36, 37, 38, 39, 40, 41, 42, 43, 44, 45, 46, 47, 48, 49, 50, 51, 52] (by decide +kernel) (by decide +kernel)
set_option maxHeartbeats 4000000 in
set_option maxRecDepth 100000 in
theorem c9_X11_which_1 (l : Launch) (hlt : l.stackTraces = false) (g : G9) (h0 h1 h2 h3 h4 h5 h6 h7 h8 h9 h10 h11 h12 h13 sz : Nat) (v0 : Int32) (k_v0 : (-2147483648) ≤ v0.toInt ∧ v0.toInt ≤ (-1)) : vx_Met l yX11_which w9_X11_which_1 ({ frames := 7, cells := 1, slots := 6, locals := 103 }) (mP g [(h0, .inr (12, [.ref h1, .int 0, .ref h2, .ref h3, .ref h4, .ref h5, .ref h6, .ref h7, .int (-1), .ref h8, .ref h9, .int 250, .ref h10, .int 0, .ref h11, .ref h12, .ref h13]))] sz [.ref h0, .int v0]) (va_Qv (fun _ : Unit => False) (fun _ _ => True) (va_A [(h0, .inr (12, [.ref h1, .int 0, .ref h2, .ref h3, .ref h4, .ref h5, .ref h6, .ref h7, .int (-1), .ref h8, .ref h9, .int 250, .ref h10, .int 0, .ref h11, .ref h12, .ref h13]))] sz)) (mT g [(h0, .inr (12, [.ref h1, .int 0, .ref h2, .ref h3, .ref h4, .ref h5, .ref h6, .ref h7, .int (-1), .ref h8, .ref h9, .int 250, .ref h10, .int 0, .ref h11, .ref h12, .ref h13]))] sz "java/lang/IndexOutOfBoundsException") 1 6 (va_A [(h0, .inr (12, [.ref h1, .int 0, .ref h2, .ref h3, .ref h4, .ref h5, .ref h6, .ref h7, .int (-1), .ref h8, .ref h9, .int 250, .ref h10, .int 0, .ref h11, .ref h12, .ref h13]))] sz) := by
  refine vx_ofW (cc := cX11_which) (maxL := 4) (ret := (some .int)) (by decide) rfl ?_
  intro p e s m args below meth c s₁ B hml hno hv
  obtain ⟨rfl, hsz, hP, hD0, hE⟩ := hv
  have hx := B.exec
  have hb := B.bytes
  have hr := B.returns
  have hts := atoms_spec (ws := w9_X11_which_1) B.pre
  have hown : s.vm.findClass RX11 = some m.cls := findClass_of_methodNamed B.named
  have hlocks := B.notSynchronized
  subst hsz
  have hD := hD0.self (sz := s.heap.size)
  generalize hAe : va_A [(h0, .inr (12, [.ref h1, .int 0, .ref h2, .ref h3, .ref h4, .ref h5, .ref h6, .ref h7, .int (-1), .ref h8, .ref h9, .int 250, .ref h10, .int 0, .ref h11, .ref h12, .ref h13]))] s.heap.size = A at hD hE ⊢
  have hA : ∀ q : Nat, s.heap.size ≤ q → A q := fun q h => by rw [← hAe]; exact Or.inr h
  have hK := hE.1
  have hS : va_S A s.heap s.heap [] := va_S.rf
  replace hP : va_P g.1 vwCl [(h0, .inr (12, [.ref h1, .int 0, .ref h2, .ref h3, .ref h4, .ref h5, .ref h6, .ref h7, .int (-1), .ref h8, .ref h9, .int 250, .ref h10, .int 0, .ref h11, .ref h12, .ref h13]))] s.heap := hP
  have hl := lv_entry ([.ref h0, .int v0]) (n := 4) (Nat.le_of_ble_eq_true rfl)
  rw [lg_entry_eq]
  generalize (lg_sl ([.ref h0, .int v0]) ++ List.replicate (4 - (lg_sl ([.ref h0, .int v0])).length) Slot.unset).toArray = ls at hl ⊢
  replace hl : lv_has ls 4 [(0, .ref h0), (1, .int v0)] := hl
  have hH0 : s.heap.size ≤ s.heap.size := Nat.le_refl _
  refine lv_aload_n hx hb dX11_which_0 rfl (lv_at hl 0 rfl) ?_
  refine lv_iload_n hx hb dX11_which_1 rfl (lv_at hl 1 rfl) ?_
  have hPc := hP.sub (ws' := [(h0, .inr (12, [.ref h1, .int 0, .ref h2, .ref h3, .ref h4, .ref h5, .ref h6, .ref h7, .int (-1), .ref h8, .ref h9, .int 250, .ref h10, .int 0, .ref h11, .ref h12, .ref h13]))]) [0] rfl
  have hDc := hD.sub (ws' := [(h0, .inr (12, [.ref h1, .int 0, .ref h2, .ref h3, .ref h4, .ref h5, .ref h6, .ref h7, .int (-1), .ref h8, .ref h9, .int 250, .ref h10, .int 0, .ref h11, .ref h12, .ref h13]))]) [0] (by decide) rfl
  have hFc := va_free (wc := [(h0, .inr (12, [.ref h1, .int 0, .ref h2, .ref h3, .ref h4, .ref h5, .ref h6, .ref h7, .int (-1), .ref h8, .ref h9, .int 250, .ref h10, .int 0, .ref h11, .ref h12, .ref h13]))]) hD hS hA [0] rfl
  refine vx_callv (vx_runV (As := [.int v0]) (rest := []) ⟨hx, hb, hml, hown, hts⟩ (c9_X11_needPlace_1 l hlt g h0 h1 h2 h3 h4 h5 h6 h7 h8 h9 h10 h11 h12 h13 _ v0 (by omega)) (cwV 1 hts g9_X11_which_1_0 rfl rfl rfl (by decide +kernel) ⟨Nat.le_of_ble_eq_true rfl, Nat.le_of_ble_eq_true rfl⟩) (mPreV (g := g) (wc := [(h0, .inr (12, [.ref h1, .int 0, .ref h2, .ref h3, .ref h4, .ref h5, .ref h6, .ref h7, .int (-1), .ref h8, .ref h9, .int 250, .ref h10, .int 0, .ref h11, .ref h12, .ref h13]))]) (C := RX11) (ci := 12) (q0 := 0) hE hS hPc hDc hFc rfl rfl) rfl rfl hl.1 rfl (lv_room (Nat.le_of_ble_eq_true rfl)) dX11_which_2 ⟨Nat.le_of_ble_eq_true rfl, Nat.le_of_ble_eq_true rfl⟩) hS (fun q _ h => hFc q h) hFc (fun q _ h => hFc q h) (fun E9 ce q9 u t H locs ht hvm hw hB hz1 hk1 hS hc1 hc2 hc3 => ?_) (fun u t H1 locs ht hvm hw hB hz1 hk1 hS => hw.elim)
  replace hB : E9 = "java/lang/IndexOutOfBoundsException" := hB
  subst hB
  exact vx_out (fun z hz => (hno z hz).elim) hlocks hc1 hc2 hc3 (fun t ht hW => ⟨(), trivial, rfl, by subst hAe; exact hS.F ht⟩) (by subst hAe; exact hS.2.2) (Nat.le_of_ble_eq_true rfl) (Nat.le_of_ble_eq_true rfl)
def w9_L_which_1 : List Cond := [.codeWith yL_which cL_which 4 (some .int) [(0, 9, 12, 21)], .methodLink RL 58 yX11_which, .instanceMethod yX11_which, .selects RX11 yX11_which yX11_which, .initialized RX11, .code yX11_which cX11_which 4 (some .int), .methodLink RX11 180 yX11_needPlace, .instanceMethod yX11_needPlace, .selects RX11 yX11_needPlace yX11_needPlace, .code yX11_needPlace cX11_needPlace 2 none, .initialized "java/lang/Throwable", .superclass "java/lang/Throwable" "java/lang/Object", .instanceMethod Bundle.tFill, .codeSync Bundle.tFill LibCode.Throwable.Fill.code 1 (some (.object "java/lang/Throwable")), .instanceMethod Bundle.tFill0, .native Bundle.tFill0, .instanceMethod Bundle.tInit0, .code Bundle.tInit0 LibCode.Throwable.Init0.code 1 none, .instanceMethod Bundle.oInit, .code Bundle.oInit ⟨#[0xb1]⟩ 1 none, .methodLink "java/lang/Throwable" 1 Bundle.oInit, .methodLink "java/lang/Throwable" 27 Bundle.tFill, .methodLink "java/lang/Throwable" 202 Bundle.tFill0, .fieldLink "java/lang/Throwable" 7 "java/lang/Throwable" "cause" "Ljava/lang/Throwable;", .lays "java/lang/Throwable" "java/lang/Throwable" "cause" "Ljava/lang/Throwable;", .fieldLink "java/lang/Throwable" 17 "java/lang/Throwable" "stackTrace" "[Ljava/lang/StackTraceElement;", .lays "java/lang/Throwable" "java/lang/Throwable" "stackTrace" "[Ljava/lang/StackTraceElement;", .fieldLink "java/lang/Throwable" 24 "java/lang/Throwable" "suppressedExceptions" "Ljava/util/List;", .lays "java/lang/Throwable" "java/lang/Throwable" "suppressedExceptions" "Ljava/util/List;", .fieldLink "java/lang/Throwable" 13 "java/lang/Throwable" "UNASSIGNED_STACK" "[Ljava/lang/StackTraceElement;", .fieldLink "java/lang/Throwable" 20 "java/lang/Throwable" "SUPPRESSED_SENTINEL" "Ljava/util/List;", .lays "java/lang/Throwable" "java/lang/Throwable" "detailMessage" "Ljava/lang/String;", .instanceMethod (Bundle.initS "java/lang/Throwable"), .code (Bundle.initS "java/lang/Throwable") LibCode.Throwable.InitS.code 2 none, .fieldLink "java/lang/Throwable" 31 "java/lang/Throwable" "detailMessage" "Ljava/lang/String;", .instanceMethod (Bundle.initS "java/lang/IndexOutOfBoundsException"), .code (Bundle.initS "java/lang/IndexOutOfBoundsException") Bundle.six 2 none, .methodLink "java/lang/IndexOutOfBoundsException" 7 (Bundle.initS "java/lang/RuntimeException"), .instanceMethod (Bundle.initS "java/lang/RuntimeException"), .code (Bundle.initS "java/lang/RuntimeException") Bundle.six 2 none, .methodLink "java/lang/RuntimeException" 7 (Bundle.initS "java/lang/Exception"), .instanceMethod (Bundle.initS "java/lang/Exception"), .code (Bundle.initS "java/lang/Exception") Bundle.six 2 none, .methodLink "java/lang/Exception" 7 (Bundle.initS "java/lang/Throwable"), .methodLink RX11 224 (Bundle.initS "java/lang/IndexOutOfBoundsException"), .instantiable "java/lang/IndexOutOfBoundsException" 6, .selects "java/lang/IndexOutOfBoundsException" Bundle.tFill0 Bundle.tFill0, .selects "java/lang/IndexOutOfBoundsException" Bundle.tFill Bundle.tFill, .lays "java/lang/IndexOutOfBoundsException" "java/lang/Throwable" "cause" "Ljava/lang/Throwable;", .lays "java/lang/IndexOutOfBoundsException" "java/lang/Throwable" "stackTrace" "[Ljava/lang/StackTraceElement;", .lays "java/lang/IndexOutOfBoundsException" "java/lang/Throwable" "suppressedExceptions" "Ljava/util/List;", .lays "java/lang/IndexOutOfBoundsException" "java/lang/Throwable" "detailMessage" "Ljava/lang/String;", .fieldLink "java/lang/Throwable" 198 "java/lang/Throwable" "backtrace" "Ljava/lang/Object;", .lays "java/lang/Throwable" "java/lang/Throwable" "backtrace" "Ljava/lang/Object;", .lays "java/lang/IndexOutOfBoundsException" "java/lang/Throwable" "backtrace" "Ljava/lang/Object;", .classLink RX11 220 "java/lang/IndexOutOfBoundsException", .initialized "java/lang/IndexOutOfBoundsException", .classLink RL 21 "java/lang/IndexOutOfBoundsException"]
set_option maxRecDepth 20000 in
theorem g9_L_which_1_0 : GoodIn w9_L_which_1 (wsV RL 58 RX11 yX11_which w9_X11_which_1) := goodIn_r _ [1, 2, 3, 4, 5, 6, 7, 8, 4, 9, 10, 11, 12, 13, 14, 15, 16, 17, 18, 19, 20, 21, 22, 23, 24, 25, 26, 27, 28, 29, 30, 31, 32, 33, 34, 35, 36, 37, 38, 39, 40, 41, 42, 43, 44, 45, 46, 47, 48, 49, 50, 51, 52, 53, 54, 55, 56] (by decide +kernel) (by decide +kernel)
set_option maxHeartbeats 4000000 in
set_option maxRecDepth 100000 in
theorem c9_L_which_1 (l : Launch) (hlt : l.stackTraces = false) (g : G9) (h0 h1 h2 h3 h4 h5 h6 h7 h8 h9 h10 h11 h12 h13 h14 sz : Nat) (v0 : Int32) (k_v0 : (-2147483648) ≤ v0.toInt ∧ v0.toInt ≤ (-1)) : Met l yL_which w9_L_which_1 ({ frames := 8, cells := 1, slots := 6, locals := 126 }) (mP g [(h0, .inr (12, [.ref h2, .int 0, .ref h3, .ref h4, .ref h5, .ref h6, .ref h7, .ref h8, .int (-1), .ref h9, .ref h10, .int 250, .ref h11, .int 0, .ref h12, .ref h13, .ref h14]))] sz [.ref h0, .int v0, .ref h1]) (va_Qi (fun (r : Int32) (_ : Unit) => r = 1) (fun (_ : Unit) (t : State) => mB g [(h0, .inr (12, [.ref h2, .int 0, .ref h3, .ref h4, .ref h5, .ref h6, .ref h7, .ref h8, .int (-1), .ref h9, .ref h10, .int 250, .ref h11, .int 0, .ref h12, .ref h13, .ref h14]))] sz [] t) (va_A [(h0, .inr (12, [.ref h2, .int 0, .ref h3, .ref h4, .ref h5, .ref h6, .ref h7, .ref h8, .int (-1), .ref h9, .ref h10, .int 250, .ref h11, .int 0, .ref h12, .ref h13, .ref h14]))] sz)) 1 6 (va_A [(h0, .inr (12, [.ref h2, .int 0, .ref h3, .ref h4, .ref h5, .ref h6, .ref h7, .ref h8, .int (-1), .ref h9, .ref h10, .int 250, .ref h11, .int 0, .ref h12, .ref h13, .ref h14]))] sz) := by
  refine va_MetW (cc := cL_which) (maxL := 4) (ret := (some .int)) (by decide) rfl ?_
  intro p e s m args below meth c s₁ B hml hv
  obtain ⟨rfl, hsz, hP, hD0, hE⟩ := hv
  have hx := B.exec
  have hb := B.bytes
  have hr := B.returns
  have hts := atoms_spec (ws := w9_L_which_1) B.pre
  have hown : s.vm.findClass RL = some m.cls := findClass_of_methodNamed B.named
  have hlocks := B.notSynchronized
  have htab := vx_table (x := yL_which) B (hts (.codeWith yL_which cL_which 4 (some .int) [(0, 9, 12, 21)]) (List.mem_of_getElem? (i := 0) rfl))
  subst hsz
  have hD := hD0.self (sz := s.heap.size)
  generalize hAe : va_A [(h0, .inr (12, [.ref h2, .int 0, .ref h3, .ref h4, .ref h5, .ref h6, .ref h7, .ref h8, .int (-1), .ref h9, .ref h10, .int 250, .ref h11, .int 0, .ref h12, .ref h13, .ref h14]))] s.heap.size = A at hD hE ⊢
  have hA : ∀ q : Nat, s.heap.size ≤ q → A q := fun q h => by rw [← hAe]; exact Or.inr h
  have hK := hE.1
  have hS : va_S A s.heap s.heap [] := va_S.rf
  replace hP : va_P g.1 vwCl [(h0, .inr (12, [.ref h2, .int 0, .ref h3, .ref h4, .ref h5, .ref h6, .ref h7, .ref h8, .int (-1), .ref h9, .ref h10, .int 250, .ref h11, .int 0, .ref h12, .ref h13, .ref h14]))] s.heap := hP
  have hl := lv_entry ([.ref h0, .int v0, .ref h1]) (n := 4) (Nat.le_of_ble_eq_true rfl)
  rw [lg_entry_eq]
  generalize (lg_sl ([.ref h0, .int v0, .ref h1]) ++ List.replicate (4 - (lg_sl ([.ref h0, .int v0, .ref h1])).length) Slot.unset).toArray = ls at hl ⊢
  replace hl : lv_has ls 4 [(0, .ref h0), (1, .int v0), (2, .ref h1)] := hl
  have hH0 : s.heap.size ≤ s.heap.size := Nat.le_refl _
  refine lv_aload_n hx hb dL_which_0 rfl (lv_at hl 2 rfl) ?_
  refine lv_iconst (v := 0) hx hb dL_which_1 (by decide) ?_
  refine lv_aload_n hx hb dL_which_2 rfl (lv_at hl 0 rfl) ?_
  refine lv_iload_n hx hb dL_which_3 rfl (lv_at hl 1 rfl) ?_
  have hPc := hP.sub (ws' := [(h0, .inr (12, [.ref h2, .int 0, .ref h3, .ref h4, .ref h5, .ref h6, .ref h7, .ref h8, .int (-1), .ref h9, .ref h10, .int 250, .ref h11, .int 0, .ref h12, .ref h13, .ref h14]))]) [0] rfl
  have hDc := hD.sub (ws' := [(h0, .inr (12, [.ref h2, .int 0, .ref h3, .ref h4, .ref h5, .ref h6, .ref h7, .ref h8, .int (-1), .ref h9, .ref h10, .int 250, .ref h11, .int 0, .ref h12, .ref h13, .ref h14]))]) [0] (by decide) rfl
  have hFc := va_free (wc := [(h0, .inr (12, [.ref h2, .int 0, .ref h3, .ref h4, .ref h5, .ref h6, .ref h7, .ref h8, .int (-1), .ref h9, .ref h10, .int 250, .ref h11, .int 0, .ref h12, .ref h13, .ref h14]))]) hD hS hA [0] rfl
  refine vx_callv (vx_runV (As := [.int v0]) (rest := [.int 0, .ref h1]) ⟨hx, hb, hml, hown, hts⟩ (c9_X11_which_1 l hlt g h0 h2 h3 h4 h5 h6 h7 h8 h9 h10 h11 h12 h13 h14 _ v0 (by omega)) (cwV 1 hts g9_L_which_1_0 rfl rfl rfl (by decide +kernel) ⟨Nat.le_of_ble_eq_true rfl, Nat.le_of_ble_eq_true rfl⟩) (mPreV (g := g) (wc := [(h0, .inr (12, [.ref h2, .int 0, .ref h3, .ref h4, .ref h5, .ref h6, .ref h7, .ref h8, .int (-1), .ref h9, .ref h10, .int 250, .ref h11, .int 0, .ref h12, .ref h13, .ref h14]))]) (C := RX11) (ci := 12) (q0 := 0) hE hS hPc hDc hFc rfl rfl) rfl rfl hl.1 rfl (lv_room (Nat.le_of_ble_eq_true rfl)) dL_which_4 ⟨Nat.le_of_ble_eq_true rfl, Nat.le_of_ble_eq_true rfl⟩) hS (fun q _ h => hFc q h) hFc (fun q _ h => hFc q h) (fun E9 ce q9 u t H locs ht hvm hw hB hz1 hk1 hS hc1 hc2 hc3 => ?_) (fun u t H1 locs ht hvm hw hB hz1 hk1 hS => hw.elim)
  replace hB : E9 = "java/lang/IndexOutOfBoundsException" := hB
  subst hB
  obtain ⟨hP, hD⟩ := va_join (wr := []) (w1 := []) hP hD [0] [] rfl rfl (by decide) (by decide) hk1 hFc (fun k q h => by simp at h) ⟨fun i j p q h => by simp at h, fun k q h => by simp at h⟩
  have hP : va_P g.1 vwCl [] H := hP
  have hD : va_D A [] := hD
  refine vx_catch (own := RL) (name := "java/lang/IndexOutOfBoundsException") hown [] ⟨0, 9, 12, 21⟩ [] (by rw [htab]; rfl) (fun z hz => absurd hz List.not_mem_nil) (by decide) (by decide) (hts (.classLink RL 21 "java/lang/IndexOutOfBoundsException") (List.mem_of_getElem? (i := 57) rfl)) (va_Nw.use rfl (hE.cast ("java/lang/IndexOutOfBoundsException", "java/lang/IndexOutOfBoundsException") (by decide))) hc1 hc2 hc3 ?_
  refine lv_astore_n (lv' := [(3, .ref q9), (0, .ref h0), (1, .int v0), (2, .ref h1)]) hx hb dL_which_12 rfl hl (by decide) rfl (fun ls hl => ?_)
  refine lv_iconst (v := 1) hx hb dL_which_13 (by decide) ?_
  have hP9 := hP.sub (ws' := []) [] rfl
  have hD9 := hD.sub (ws' := []) [] (by decide) rfl
  subst hAe
  exact W.iret (v := 1) hx hb hr (fun t ht hW => ⟨⟨1, (), rfl, rfl, by rw [ht]; exact hP9, hD9⟩, hS.F ht⟩) hS.2.2 dL_which_14
def w9_X21_which_1 : List Cond := [.codeWith yX21_which cX21_which 5 (some .int) [(40, 74, 77, 208)], .fieldLink RX21 196 "RegexloomModel" "length" "I", .methodLink RX21 160 yX21_in, .static yX21_in, .initialized RX21, .code yX21_in cX21_in 3 (some .boolean), .methodLink RX21 154 yX21_refused, .instanceMethod yX21_refused, .selects RX21 yX21_refused yX21_refused, .code yX21_refused cX21_refused 2 (some .boolean), .fieldLink RX21 144 "RegexloomModel" "refusal" "I"] ++ (u_ws RX21 TX21 32)
set_option maxRecDepth 20000 in
theorem in9_X21_which_1_RX21 : ∀ w ∈ u_ws RX21 TX21 32, w ∈ w9_X21_which_1 := by decide +kernel
set_option maxRecDepth 20000 in
theorem g9_X21_which_1_0 : GoodIn w9_X21_which_1 (va_wsS RX21 160 yX21_in w9_X21_in_11) := goodIn_r _ [2, 3, 4, 5] (by decide +kernel) (by decide +kernel)
set_option maxRecDepth 20000 in
theorem g9_X21_which_1_1 : GoodIn w9_X21_which_1 (wsV RX21 154 RX21 yX21_refused w9_X21_refused_2) := goodIn_r _ [6, 7, 8, 4, 9, 10, 11, 12, 13, 14, 15, 16, 17, 18, 19, 20, 21, 22, 23, 24, 25, 26, 27, 28, 29, 30, 31, 32, 33, 34, 35, 36, 37, 38, 39, 40, 41, 42] (by decide +kernel) (by decide +kernel)
set_option maxHeartbeats 4000000 in
set_option maxRecDepth 100000 in
theorem c9_X21_which_1 (l : Launch) (g : G9) (h0 h1 h2 h3 h4 h5 h6 h7 h8 h9 h10 h11 h12 h13 h14 h15 h16 sz : Nat) (v0 : Int32) (k_v0 : (-2147483648) ≤ v0.toInt ∧ v0.toInt ≤ (-1)) : Met l yX21_which w9_X21_which_1 ({ frames := 1, cells := 0, slots := 0, locals := 22 }) (mP g [(h0, .inr (22, [.int 0, .ref h1, .int 0, .ref h2, .int 0, .ref h3, .int 250, .ref h4, .int 0, .ref h5, .ref h6, .ref h7, .int 0, .ref h8, .ref h9, .ref h10, .int 0, .null, .int 0, .null, .int 0, .int 0, .int 0, .ref h11, .int 0, .ref h12, .ref h13, .ref h14, .int 0, .ref h15, .ref h16, .int 0]))] sz [.ref h0, .int v0]) (va_Qi (fun (r : Int32) (_ : Unit) => r = 0) (fun (_ : Unit) (t : State) => mB g [(h0, .inr (22, [.int 0, .ref h1, .int 0, .ref h2, .int 0, .ref h3, .int 250, .ref h4, .int 0, .ref h5, .ref h6, .ref h7, .int 0, .ref h8, .ref h9, .ref h10, .int 0, .null, .int 0, .null, .int 0, .int 0, .int 0, .ref h11, .int 0, .ref h12, .ref h13, .ref h14, .int 0, .ref h15, .ref h16, .int 0]))] sz [(h0, .inr (22, [.int 1, .ref h1, .int 0, .ref h2, .int 0, .ref h3, .int 250, .ref h4, .int 0, .ref h5, .ref h6, .ref h7, .int 0, .ref h8, .ref h9, .ref h10, .int 0, .null, .int 0, .null, .int 0, .int 0, .int 0, .ref h11, .int 0, .ref h12, .ref h13, .ref h14, .int 0, .ref h15, .ref h16, .int 0]))] t) (va_A [(h0, .inr (22, [.int 0, .ref h1, .int 0, .ref h2, .int 0, .ref h3, .int 250, .ref h4, .int 0, .ref h5, .ref h6, .ref h7, .int 0, .ref h8, .ref h9, .ref h10, .int 0, .null, .int 0, .null, .int 0, .int 0, .int 0, .ref h11, .int 0, .ref h12, .ref h13, .ref h14, .int 0, .ref h15, .ref h16, .int 0]))] sz)) 0 0 (va_A [(h0, .inr (22, [.int 0, .ref h1, .int 0, .ref h2, .int 0, .ref h3, .int 250, .ref h4, .int 0, .ref h5, .ref h6, .ref h7, .int 0, .ref h8, .ref h9, .ref h10, .int 0, .null, .int 0, .null, .int 0, .int 0, .int 0, .ref h11, .int 0, .ref h12, .ref h13, .ref h14, .int 0, .ref h15, .ref h16, .int 0]))] sz) := by
  refine va_MetW (cc := cX21_which) (maxL := 5) (ret := (some .int)) (by decide) rfl ?_
  intro p e s m args below meth c s₁ B hml hv
  obtain ⟨rfl, hsz, hP, hD0, hE⟩ := hv
  have hx := B.exec
  have hb := B.bytes
  have hr := B.returns
  have hts := atoms_spec (ws := w9_X21_which_1) B.pre
  have hown : s.vm.findClass RX21 = some m.cls := findClass_of_methodNamed B.named
  have hlocks := B.notSynchronized
  have htab := vx_table (x := yX21_which) B (hts (.codeWith yX21_which cX21_which 5 (some .int) [(40, 74, 77, 208)]) (List.mem_of_getElem? (i := 0) rfl))
  subst hsz
  have hD := hD0.self (sz := s.heap.size)
  generalize hAe : va_A [(h0, .inr (22, [.int 0, .ref h1, .int 0, .ref h2, .int 0, .ref h3, .int 250, .ref h4, .int 0, .ref h5, .ref h6, .ref h7, .int 0, .ref h8, .ref h9, .ref h10, .int 0, .null, .int 0, .null, .int 0, .int 0, .int 0, .ref h11, .int 0, .ref h12, .ref h13, .ref h14, .int 0, .ref h15, .ref h16, .int 0]))] s.heap.size = A at hD hE ⊢
  have hA : ∀ q : Nat, s.heap.size ≤ q → A q := fun q h => by rw [← hAe]; exact Or.inr h
  have hK := hE.1
  have hS : va_S A s.heap s.heap [] := va_S.rf
  replace hP : va_P g.1 vwCl [(h0, .inr (22, [.int 0, .ref h1, .int 0, .ref h2, .int 0, .ref h3, .int 250, .ref h4, .int 0, .ref h5, .ref h6, .ref h7, .int 0, .ref h8, .ref h9, .ref h10, .int 0, .null, .int 0, .null, .int 0, .int 0, .int 0, .ref h11, .int 0, .ref h12, .ref h13, .ref h14, .int 0, .ref h15, .ref h16, .int 0]))] s.heap := hP
  have hl := lv_entry ([.ref h0, .int v0]) (n := 5) (Nat.le_of_ble_eq_true rfl)
  rw [lg_entry_eq]
  generalize (lg_sl ([.ref h0, .int v0]) ++ List.replicate (5 - (lg_sl ([.ref h0, .int v0])).length) Slot.unset).toArray = ls at hl ⊢
  replace hl : lv_has ls 5 [(0, .ref h0), (1, .int v0)] := hl
  have hH0 : s.heap.size ≤ s.heap.size := Nat.le_refl _
  refine lv_aload_n hx hb dX21_which_0 rfl (lv_at hl 0 rfl) ?_
  refine lv_iload_n hx hb dX21_which_1 rfl (lv_at hl 1 rfl) ?_
  refine lv_iconst (v := 0) hx hb dX21_which_2 (by decide) ?_
  refine lv_aload_n hx hb dX21_which_3 rfl (lv_at hl 0 rfl) ?_
  refine va_get (D := g.1) (ci := 22) (v := .int 0) (C := RX21) (T := TX21) (N := 32) hx hb hts in9_X21_which_1_RX21 hown hK hP 0 rfl rfl 4 (by decide) (hts (.fieldLink RX21 196 "RegexloomModel" "length" "I") (List.mem_of_getElem? (i := 1) rfl)) (fun _ h9 => h9) rfl dX21_which_4 ?_
  have hPc := hP.sub (ws' := []) [] rfl
  have hDc := hD.sub (ws' := []) [] (by decide) rfl
  have hFc := va_free (wc := []) hD hS hA [] rfl
  refine va_calli (va_runS (As := [.int v0, .int 0, .int 0]) (rest := [.ref h0]) ⟨hx, hb, hml, hown, hts⟩ (c9_X21_in_11 l g _ v0 (by omega)) (va_cwS 3 hts g9_X21_which_1_0 rfl rfl rfl (by decide +kernel) ⟨Nat.le_of_ble_eq_true rfl, Nat.le_of_ble_eq_true rfl⟩) (mPreS (g := g) (wc := []) hE hS hPc hDc hFc) rfl rfl hl.1 rfl (lv_room (Nat.le_of_ble_eq_true rfl)) dX21_which_7 ⟨Nat.le_of_ble_eq_true rfl, Nat.le_of_ble_eq_true rfl⟩) hS (fun q _ h => hFc q h) hFc (fun r_1 u t H1 locs ht hvm hw hB hz1 hk1 hS => ?_)
  replace hw : 0 = r_1 := Eq.symm hw
  subst hw
  obtain ⟨hP1, hD1⟩ := hB
  rw [ht] at hP1
  obtain ⟨hP, hD⟩ := va_join (wr := [(h0, .inr (22, [.int 0, .ref h1, .int 0, .ref h2, .int 0, .ref h3, .int 250, .ref h4, .int 0, .ref h5, .ref h6, .ref h7, .int 0, .ref h8, .ref h9, .ref h10, .int 0, .null, .int 0, .null, .int 0, .int 0, .int 0, .ref h11, .int 0, .ref h12, .ref h13, .ref h14, .int 0, .ref h15, .ref h16, .int 0]))]) (w1 := []) hP hD [] [0] rfl rfl (by decide) (by decide) hk1 hFc hP1 hD1
  clear hP1 hD1 hPc hDc hFc hk1 hz1 hvm ht
  generalize H1 = H at hP hS ⊢
  have hP : va_P g.1 vwCl [(h0, .inr (22, [.int 0, .ref h1, .int 0, .ref h2, .int 0, .ref h3, .int 250, .ref h4, .int 0, .ref h5, .ref h6, .ref h7, .int 0, .ref h8, .ref h9, .ref h10, .int 0, .null, .int 0, .null, .int 0, .int 0, .int 0, .ref h11, .int 0, .ref h12, .ref h13, .ref h14, .int 0, .ref h15, .ref h16, .int 0]))] H := hP
  have hD : va_D A [(h0, .inr (22, [.int 0, .ref h1, .int 0, .ref h2, .int 0, .ref h3, .int 250, .ref h4, .int 0, .ref h5, .ref h6, .ref h7, .int 0, .ref h8, .ref h9, .ref h10, .int 0, .null, .int 0, .null, .int 0, .int 0, .int 0, .ref h11, .int 0, .ref h12, .ref h13, .ref h14, .int 0, .ref h15, .ref h16, .int 0]))] := hD
  refine lv_if_eq (tgt := 17) hx hb dX21_which_10 (by decide) (fun _ => ?_) (fun c9 => absurd (by decide) c9)
  refine lv_iconst (v := 1) hx hb dX21_which_17 (by decide) ?_
  have hPc := hP.sub (ws' := [(h0, .inr (22, [.int 0, .ref h1, .int 0, .ref h2, .int 0, .ref h3, .int 250, .ref h4, .int 0, .ref h5, .ref h6, .ref h7, .int 0, .ref h8, .ref h9, .ref h10, .int 0, .null, .int 0, .null, .int 0, .int 0, .int 0, .ref h11, .int 0, .ref h12, .ref h13, .ref h14, .int 0, .ref h15, .ref h16, .int 0]))]) [0] rfl
  have hDc := hD.sub (ws' := [(h0, .inr (22, [.int 0, .ref h1, .int 0, .ref h2, .int 0, .ref h3, .int 250, .ref h4, .int 0, .ref h5, .ref h6, .ref h7, .int 0, .ref h8, .ref h9, .ref h10, .int 0, .null, .int 0, .null, .int 0, .int 0, .int 0, .ref h11, .int 0, .ref h12, .ref h13, .ref h14, .int 0, .ref h15, .ref h16, .int 0]))]) [0] (by decide) rfl
  have hFc := va_free (wc := [(h0, .inr (22, [.int 0, .ref h1, .int 0, .ref h2, .int 0, .ref h3, .int 250, .ref h4, .int 0, .ref h5, .ref h6, .ref h7, .int 0, .ref h8, .ref h9, .ref h10, .int 0, .null, .int 0, .null, .int 0, .int 0, .int 0, .ref h11, .int 0, .ref h12, .ref h13, .ref h14, .int 0, .ref h15, .ref h16, .int 0]))]) hD hS hA [0] rfl
  refine va_calli (va_runV (As := [.int 1]) (rest := []) ⟨hx, hb, hml, hown, hts⟩ (c9_X21_refused_2 l g h0 h1 h2 h3 h4 h5 h6 h7 h8 h9 h10 h11 h12 h13 h14 h15 h16 _) (cwV 1 hts g9_X21_which_1_1 rfl rfl rfl (by decide +kernel) ⟨Nat.le_of_ble_eq_true rfl, Nat.le_of_ble_eq_true rfl⟩) (mPreV (g := g) (wc := [(h0, .inr (22, [.int 0, .ref h1, .int 0, .ref h2, .int 0, .ref h3, .int 250, .ref h4, .int 0, .ref h5, .ref h6, .ref h7, .int 0, .ref h8, .ref h9, .ref h10, .int 0, .null, .int 0, .null, .int 0, .int 0, .int 0, .ref h11, .int 0, .ref h12, .ref h13, .ref h14, .int 0, .ref h15, .ref h16, .int 0]))]) (C := RX21) (ci := 22) (q0 := 0) hE hS hPc hDc hFc rfl rfl) rfl rfl hl.1 rfl (lv_room (Nat.le_of_ble_eq_true rfl)) dX21_which_18 ⟨Nat.le_of_ble_eq_true rfl, Nat.le_of_ble_eq_true rfl⟩) hS (fun q _ h => hFc q h) hFc (fun r_2 u t H1 locs ht hvm hw hB hz1 hk1 hS => ?_)
  replace hw : 1 = r_2 := Eq.symm hw
  subst hw
  obtain ⟨hP1, hD1⟩ := hB
  rw [ht] at hP1
  obtain ⟨hP, hD⟩ := va_join (wr := []) (w1 := [(h0, .inr (22, [.int 1, .ref h1, .int 0, .ref h2, .int 0, .ref h3, .int 250, .ref h4, .int 0, .ref h5, .ref h6, .ref h7, .int 0, .ref h8, .ref h9, .ref h10, .int 0, .null, .int 0, .null, .int 0, .int 0, .int 0, .ref h11, .int 0, .ref h12, .ref h13, .ref h14, .int 0, .ref h15, .ref h16, .int 0]))]) hP hD [0] [] rfl rfl (by decide) (by decide) hk1 hFc hP1 hD1
  clear hP1 hD1 hPc hDc hFc hk1 hz1 hvm ht
  generalize H1 = H at hP hS ⊢
  have hP : va_P g.1 vwCl [(h0, .inr (22, [.int 1, .ref h1, .int 0, .ref h2, .int 0, .ref h3, .int 250, .ref h4, .int 0, .ref h5, .ref h6, .ref h7, .int 0, .ref h8, .ref h9, .ref h10, .int 0, .null, .int 0, .null, .int 0, .int 0, .int 0, .ref h11, .int 0, .ref h12, .ref h13, .ref h14, .int 0, .ref h15, .ref h16, .int 0]))] H := hP
  have hD : va_D A [(h0, .inr (22, [.int 1, .ref h1, .int 0, .ref h2, .int 0, .ref h3, .int 250, .ref h4, .int 0, .ref h5, .ref h6, .ref h7, .int 0, .ref h8, .ref h9, .ref h10, .int 0, .null, .int 0, .null, .int 0, .int 0, .int 0, .ref h11, .int 0, .ref h12, .ref h13, .ref h14, .int 0, .ref h15, .ref h16, .int 0]))] := hD
  refine lv_if_eq (tgt := 26) hx hb dX21_which_21 (by decide) (fun c9 => absurd c9 (by decide)) (fun _ => ?_)
  refine lv_iconst (v := 0) hx hb dX21_which_24 (by decide) ?_
  have hP9 := hP.sub (ws' := [(h0, .inr (22, [.int 1, .ref h1, .int 0, .ref h2, .int 0, .ref h3, .int 250, .ref h4, .int 0, .ref h5, .ref h6, .ref h7, .int 0, .ref h8, .ref h9, .ref h10, .int 0, .null, .int 0, .null, .int 0, .int 0, .int 0, .ref h11, .int 0, .ref h12, .ref h13, .ref h14, .int 0, .ref h15, .ref h16, .int 0]))]) [0] rfl
  have hD9 := hD.sub (ws' := [(h0, .inr (22, [.int 1, .ref h1, .int 0, .ref h2, .int 0, .ref h3, .int 250, .ref h4, .int 0, .ref h5, .ref h6, .ref h7, .int 0, .ref h8, .ref h9, .ref h10, .int 0, .null, .int 0, .null, .int 0, .int 0, .int 0, .ref h11, .int 0, .ref h12, .ref h13, .ref h14, .int 0, .ref h15, .ref h16, .int 0]))]) [0] (by decide) rfl
  subst hAe
  exact W.iret (v := 0) hx hb hr (fun t ht hW => ⟨⟨0, (), rfl, rfl, by rw [ht]; exact hP9, hD9⟩, hS.F ht⟩) hS.2.2 dX21_which_25
def w9_X11_needPlace_4 : List Cond := [.code yX11_needPlace cX11_needPlace 2 none, .fieldLink RX11 16 "Regexloom" "text" "LRegexloom$Text;", .methodLink RX11 146 yX10_size, .instanceMethod yX10_size, .selects RX10 yX10_size yX10_size, .initialized RX10, .code yX10_size cX10_size 1 (some .int), .fieldLink RX10 14 "Regexloom$Text" "codes" "LRegexloom$Table;", .methodLink RX10 20 yX9_size, .instanceMethod yX9_size, .selects RX9 yX9_size yX9_size, .initialized RX9, .code yX9_size cX9_size 1 (some .int), .fieldLink RX9 28 "Regexloom$Table" "size" "I", .initialized "java/lang/Throwable", .superclass "java/lang/Throwable" "java/lang/Object", .instanceMethod Bundle.tFill, .codeSync Bundle.tFill LibCode.Throwable.Fill.code 1 (some (.object "java/lang/Throwable")), .instanceMethod Bundle.tFill0, .native Bundle.tFill0, .instanceMethod Bundle.tInit0, .code Bundle.tInit0 LibCode.Throwable.Init0.code 1 none, .instanceMethod Bundle.oInit, .code Bundle.oInit ⟨#[0xb1]⟩ 1 none, .methodLink "java/lang/Throwable" 1 Bundle.oInit, .methodLink "java/lang/Throwable" 27 Bundle.tFill, .methodLink "java/lang/Throwable" 202 Bundle.tFill0, .fieldLink "java/lang/Throwable" 7 "java/lang/Throwable" "cause" "Ljava/lang/Throwable;", .lays "java/lang/Throwable" "java/lang/Throwable" "cause" "Ljava/lang/Throwable;", .fieldLink "java/lang/Throwable" 17 "java/lang/Throwable" "stackTrace" "[Ljava/lang/StackTraceElement;", .lays "java/lang/Throwable" "java/lang/Throwable" "stackTrace" "[Ljava/lang/StackTraceElement;", .fieldLink "java/lang/Throwable" 24 "java/lang/Throwable" "suppressedExceptions" "Ljava/util/List;", .lays "java/lang/Throwable" "java/lang/Throwable" "suppressedExceptions" "Ljava/util/List;", .fieldLink "java/lang/Throwable" 13 "java/lang/Throwable" "UNASSIGNED_STACK" "[Ljava/lang/StackTraceElement;", .fieldLink "java/lang/Throwable" 20 "java/lang/Throwable" "SUPPRESSED_SENTINEL" "Ljava/util/List;", .lays "java/lang/Throwable" "java/lang/Throwable" "detailMessage" "Ljava/lang/String;", .instanceMethod (Bundle.initS "java/lang/Throwable"), .code (Bundle.initS "java/lang/Throwable") LibCode.Throwable.InitS.code 2 none, .fieldLink "java/lang/Throwable" 31 "java/lang/Throwable" "detailMessage" "Ljava/lang/String;", .instanceMethod (Bundle.initS "java/lang/IndexOutOfBoundsException"), .code (Bundle.initS "java/lang/IndexOutOfBoundsException") Bundle.six 2 none, .methodLink "java/lang/IndexOutOfBoundsException" 7 (Bundle.initS "java/lang/RuntimeException"), .instanceMethod (Bundle.initS "java/lang/RuntimeException"), .code (Bundle.initS "java/lang/RuntimeException") Bundle.six 2 none, .methodLink "java/lang/RuntimeException" 7 (Bundle.initS "java/lang/Exception"), .instanceMethod (Bundle.initS "java/lang/Exception"), .code (Bundle.initS "java/lang/Exception") Bundle.six 2 none, .methodLink "java/lang/Exception" 7 (Bundle.initS "java/lang/Throwable"), .methodLink RX11 224 (Bundle.initS "java/lang/IndexOutOfBoundsException"), .instantiable "java/lang/IndexOutOfBoundsException" 6, .selects "java/lang/IndexOutOfBoundsException" Bundle.tFill0 Bundle.tFill0, .selects "java/lang/IndexOutOfBoundsException" Bundle.tFill Bundle.tFill, .lays "java/lang/IndexOutOfBoundsException" "java/lang/Throwable" "cause" "Ljava/lang/Throwable;", .lays "java/lang/IndexOutOfBoundsException" "java/lang/Throwable" "stackTrace" "[Ljava/lang/StackTraceElement;", .lays "java/lang/IndexOutOfBoundsException" "java/lang/Throwable" "suppressedExceptions" "Ljava/util/List;", .lays "java/lang/IndexOutOfBoundsException" "java/lang/Throwable" "detailMessage" "Ljava/lang/String;", .fieldLink "java/lang/Throwable" 198 "java/lang/Throwable" "backtrace" "Ljava/lang/Object;", .lays "java/lang/Throwable" "java/lang/Throwable" "backtrace" "Ljava/lang/Object;", .lays "java/lang/IndexOutOfBoundsException" "java/lang/Throwable" "backtrace" "Ljava/lang/Object;", .classLink RX11 220 "java/lang/IndexOutOfBoundsException", .initialized "java/lang/IndexOutOfBoundsException"] ++ (u_ws RX11 TX11 17 ++ u_ws RX10 TX10 1 ++ u_ws RX9 TX9 4)
set_option maxRecDepth 20000 in
theorem in9_X11_needPlace_4_RX11 : ∀ w ∈ u_ws RX11 TX11 17, w ∈ w9_X11_needPlace_4 := by decide +kernel
set_option maxRecDepth 20000 in
theorem in9_X11_needPlace_4_RX10 : ∀ w ∈ u_ws RX10 TX10 1, w ∈ w9_X11_needPlace_4 := by decide +kernel
set_option maxRecDepth 20000 in
theorem in9_X11_needPlace_4_RX9 : ∀ w ∈ u_ws RX9 TX9 4, w ∈ w9_X11_needPlace_4 := by decide +kernel
set_option maxRecDepth 20000 in
theorem g9_X11_needPlace_4_0 : GoodIn w9_X11_needPlace_4 (wsV RX11 146 RX10 yX10_size w9_X10_size_1) := goodIn_r _ [2, 3, 4, 5, 6, 7, 8, 9, 10, 11, 12, 13, 78, 79, 80, 81, 82] (by decide +kernel) (by decide +kernel)
set_option maxHeartbeats 4000000 in
set_option maxRecDepth 100000 in
theorem c9_X11_needPlace_4 (l : Launch) (hlt : l.stackTraces = false) (g : G9) (h0 h1 h2 h3 h4 h5 h6 h7 h8 h9 h10 h11 h12 h13 h14 h15 sz : Nat) (v0 : Int32) (k_v0 : 1 ≤ v0.toInt ∧ v0.toInt ≤ 2147483647) : vx_Met l yX11_needPlace w9_X11_needPlace_4 ({ frames := 6, cells := 1, slots := 6, locals := 82 }) (mP g [(h0, .inr (12, [.ref h1, .int 0, .ref h2, .ref h3, .ref h4, .ref h5, .ref h6, .ref h7, .int (-1), .ref h8, .ref h9, .int 250, .ref h10, .int 0, .ref h11, .ref h12, .ref h13])), (h2, .inr (11, [.ref h14])), (h14, .inr (10, [.int 1, .int 20, .ref h15, .int 0]))] sz [.ref h0, .int v0]) (va_Qv (fun _ : Unit => False) (fun _ _ => True) (va_A [(h0, .inr (12, [.ref h1, .int 0, .ref h2, .ref h3, .ref h4, .ref h5, .ref h6, .ref h7, .int (-1), .ref h8, .ref h9, .int 250, .ref h10, .int 0, .ref h11, .ref h12, .ref h13])), (h2, .inr (11, [.ref h14])), (h14, .inr (10, [.int 1, .int 20, .ref h15, .int 0]))] sz)) (mT g [(h0, .inr (12, [.ref h1, .int 0, .ref h2, .ref h3, .ref h4, .ref h5, .ref h6, .ref h7, .int (-1), .ref h8, .ref h9, .int 250, .ref h10, .int 0, .ref h11, .ref h12, .ref h13])), (h2, .inr (11, [.ref h14])), (h14, .inr (10, [.int 1, .int 20, .ref h15, .int 0]))] sz "java/lang/IndexOutOfBoundsException") 1 6 (va_A [(h0, .inr (12, [.ref h1, .int 0, .ref h2, .ref h3, .ref h4, .ref h5, .ref h6, .ref h7, .int (-1), .ref h8, .ref h9, .int 250, .ref h10, .int 0, .ref h11, .ref h12, .ref h13])), (h2, .inr (11, [.ref h14])), (h14, .inr (10, [.int 1, .int 20, .ref h15, .int 0]))] sz) := by
  refine vx_ofW (cc := cX11_needPlace) (maxL := 2) (ret := none) (by decide) rfl ?_
  intro p e s m args below meth c s₁ B hml hno hv
  obtain ⟨rfl, hsz, hP, hD0, hE⟩ := hv
  have hx := B.exec
  have hb := B.bytes
  have hr := B.returns
  have hts := atoms_spec (ws := w9_X11_needPlace_4) B.pre
  have hown : s.vm.findClass RX11 = some m.cls := findClass_of_methodNamed B.named
  have hlocks := B.notSynchronized
  subst hsz
  have hD := hD0.self (sz := s.heap.size)
  generalize hAe : va_A [(h0, .inr (12, [.ref h1, .int 0, .ref h2, .ref h3, .ref h4, .ref h5, .ref h6, .ref h7, .int (-1), .ref h8, .ref h9, .int 250, .ref h10, .int 0, .ref h11, .ref h12, .ref h13])), (h2, .inr (11, [.ref h14])), (h14, .inr (10, [.int 1, .int 20, .ref h15, .int 0]))] s.heap.size = A at hD hE ⊢
  have hA : ∀ q : Nat, s.heap.size ≤ q → A q := fun q h => by rw [← hAe]; exact Or.inr h
  have hK := hE.1
  have hS : va_S A s.heap s.heap [] := va_S.rf
  replace hP : va_P g.1 vwCl [(h0, .inr (12, [.ref h1, .int 0, .ref h2, .ref h3, .ref h4, .ref h5, .ref h6, .ref h7, .int (-1), .ref h8, .ref h9, .int 250, .ref h10, .int 0, .ref h11, .ref h12, .ref h13])), (h2, .inr (11, [.ref h14])), (h14, .inr (10, [.int 1, .int 20, .ref h15, .int 0]))] s.heap := hP
  have hl := lv_entry ([.ref h0, .int v0]) (n := 2) (Nat.le_of_ble_eq_true rfl)
  rw [lg_entry_eq]
  generalize (lg_sl ([.ref h0, .int v0]) ++ List.replicate (2 - (lg_sl ([.ref h0, .int v0])).length) Slot.unset).toArray = ls at hl ⊢
  replace hl : lv_has ls 2 [(0, .ref h0), (1, .int v0)] := hl
  have hH0 : s.heap.size ≤ s.heap.size := Nat.le_refl _
  refine lv_iload_n hx hb dX11_needPlace_0 rfl (lv_at hl 1 rfl) ?_
  refine lv_if_lt (tgt := 15) hx hb dX11_needPlace_1 (by decide) (fun c9 => absurd c9 (by simp only [Int32.lt_iff_toInt_lt, Int32.le_iff_toInt_le, ← Int32.toInt_inj, show (0 : Int32).toInt = 0 from by decide]; omega)) (fun _ => ?_)
  refine lv_iload_n hx hb dX11_needPlace_4 rfl (lv_at hl 1 rfl) ?_
  refine lv_aload_n hx hb dX11_needPlace_5 rfl (lv_at hl 0 rfl) ?_
  refine va_get (D := g.1) (ci := 12) (v := .ref h2) (C := RX11) (T := TX11) (N := 17) hx hb hts in9_X11_needPlace_4_RX11 hown hK hP 0 rfl rfl 2 (by decide) (hts (.fieldLink RX11 16 "Regexloom" "text" "LRegexloom$Text;") (List.mem_of_getElem? (i := 1) rfl)) (fun _ h9 => h9) rfl dX11_needPlace_6 ?_
  have hPc := hP.sub (ws' := [(h2, .inr (11, [.ref h14])), (h14, .inr (10, [.int 1, .int 20, .ref h15, .int 0]))]) [1, 2] rfl
  have hDc := hD.sub (ws' := [(h2, .inr (11, [.ref h14])), (h14, .inr (10, [.int 1, .int 20, .ref h15, .int 0]))]) [1, 2] (by decide) rfl
  have hFc := va_free (wc := [(h2, .inr (11, [.ref h14])), (h14, .inr (10, [.int 1, .int 20, .ref h15, .int 0]))]) hD hS hA [1, 2] rfl
  refine va_calli (va_runV (As := []) (rest := [.int v0]) ⟨hx, hb, hml, hown, hts⟩ (c9_X10_size_1 l g h2 h14 h15 _) (cwV 0 hts g9_X11_needPlace_4_0 rfl rfl rfl (by decide +kernel) ⟨Nat.le_of_ble_eq_true rfl, Nat.le_of_ble_eq_true rfl⟩) (mPreV (g := g) (wc := [(h2, .inr (11, [.ref h14])), (h14, .inr (10, [.int 1, .int 20, .ref h15, .int 0]))]) (C := RX10) (ci := 11) (q0 := 0) hE hS hPc hDc hFc rfl rfl) rfl rfl hl.1 rfl (lv_room (Nat.le_of_ble_eq_true rfl)) dX11_needPlace_9 ⟨Nat.le_of_ble_eq_true rfl, Nat.le_of_ble_eq_true rfl⟩) hS (fun q _ h => hFc q h) hFc (fun r_1 u t H1 locs ht hvm hw hB hz1 hk1 hS => ?_)
  replace hw : 0 = r_1 := Eq.symm hw
  subst hw
  obtain ⟨hP1, hD1⟩ := hB
  rw [ht] at hP1
  obtain ⟨hP, hD⟩ := va_join (wr := [(h0, .inr (12, [.ref h1, .int 0, .ref h2, .ref h3, .ref h4, .ref h5, .ref h6, .ref h7, .int (-1), .ref h8, .ref h9, .int 250, .ref h10, .int 0, .ref h11, .ref h12, .ref h13]))]) (w1 := [(h2, .inr (11, [.ref h14])), (h14, .inr (10, [.int 1, .int 20, .ref h15, .int 0]))]) hP hD [1, 2] [0] rfl rfl (by decide) (by decide) hk1 hFc hP1 hD1
  clear hP1 hD1 hPc hDc hFc hk1 hz1 hvm ht
  generalize H1 = H at hP hS ⊢
  have hP : va_P g.1 vwCl [(h0, .inr (12, [.ref h1, .int 0, .ref h2, .ref h3, .ref h4, .ref h5, .ref h6, .ref h7, .int (-1), .ref h8, .ref h9, .int 250, .ref h10, .int 0, .ref h11, .ref h12, .ref h13])), (h2, .inr (11, [.ref h14])), (h14, .inr (10, [.int 1, .int 20, .ref h15, .int 0]))] H := hP
  have hD : va_D A [(h0, .inr (12, [.ref h1, .int 0, .ref h2, .ref h3, .ref h4, .ref h5, .ref h6, .ref h7, .int (-1), .ref h8, .ref h9, .int 250, .ref h10, .int 0, .ref h11, .ref h12, .ref h13])), (h2, .inr (11, [.ref h14])), (h14, .inr (10, [.int 1, .int 20, .ref h15, .int 0]))] := hD
  refine lv_icmp_le (tgt := 26) hx hb dX11_needPlace_12 (by decide) (fun c9 => absurd c9 (by simp only [Int32.lt_iff_toInt_lt, Int32.le_iff_toInt_le, ← Int32.toInt_inj, show (0 : Int32).toInt = 0 from by decide]; omega)) (fun _ => ?_)
  obtain ⟨sa, hsa⟩ := hE.str (270, "no such place") (by decide)
  exact vx_throwSW (names := ["java/lang/RuntimeException", "java/lang/Exception"]) (A := A) hx hb hlt hown (by decide) (by decide) (hts (.classLink RX11 220 "java/lang/IndexOutOfBoundsException") (List.mem_of_getElem? (i := 59) rfl)) (hts (.initialized "java/lang/IndexOutOfBoundsException") (List.mem_of_getElem? (i := 60) rfl)) hsa (vx_hat (B := [.castable "java/lang/IndexOutOfBoundsException" "java/lang/IndexOutOfBoundsException", .declares (Bundle.initS "java/lang/RuntimeException"), .declares (Bundle.initS "java/lang/Exception"), .declares (Bundle.initS "java/lang/Throwable")]) (fun w9 hw9 => hts w9 (by revert w9; decide +kernel)) (by decide +kernel) (vx_c (va_Nw.use rfl (hE.cast ("java/lang/IndexOutOfBoundsException", "java/lang/IndexOutOfBoundsException") (by decide))) (vx_c (va_Nw.use rfl (hE.decl _ (by decide))) (vx_c (va_Nw.use rfl (hE.decl _ (by decide))) (vx_c (va_Nw.use rfl (hE.decl _ (by decide))) vx_n))))) (by decide +kernel) hE.zu hE.zn hS (by rw [hml]; exact hl.1) dX11_needPlace_15 dX11_needPlace_18 dX11_needPlace_19 dX11_needPlace_22 dX11_needPlace_25 (fun z hz => (hno z hz).elim) (Nat.le_of_ble_eq_true rfl) (Nat.le_of_ble_eq_true rfl) (Nat.le_of_ble_eq_true rfl) (Nat.le_of_ble_eq_true rfl) hlocks (fun t hW hz ho => ⟨(), trivial, rfl, by subst hAe; exact ⟨Nat.le_trans hS.1 hz, fun q h1 h2 => (ho q (Nat.lt_of_lt_of_le h1 hS.1)).trans (hS.2.1 q h1 h2)⟩⟩) (fun z hz => by subst hAe; exact hS.2.2 z hz) (Nat.le_of_ble_eq_true rfl) (Nat.le_of_ble_eq_true rfl)
def w9_X11_which_2 : List Cond := [.code yX11_which cX11_which 4 (some .int), .methodLink RX11 180 yX11_needPlace, .instanceMethod yX11_needPlace, .selects RX11 yX11_needPlace yX11_needPlace, .initialized RX11, .code yX11_needPlace cX11_needPlace 2 none, .fieldLink RX11 16 "Regexloom" "text" "LRegexloom$Text;", .methodLink RX11 146 yX10_size, .instanceMethod yX10_size, .selects RX10 yX10_size yX10_size, .initialized RX10, .code yX10_size cX10_size 1 (some .int), .fieldLink RX10 14 "Regexloom$Text" "codes" "LRegexloom$Table;", .methodLink RX10 20 yX9_size, .instanceMethod yX9_size, .selects RX9 yX9_size yX9_size, .initialized RX9, .code yX9_size cX9_size 1 (some .int), .fieldLink RX9 28 "Regexloom$Table" "size" "I", .initialized "java/lang/Throwable", .superclass "java/lang/Throwable" "java/lang/Object", .instanceMethod Bundle.tFill, .codeSync Bundle.tFill LibCode.Throwable.Fill.code 1 (some (.object "java/lang/Throwable")), .instanceMethod Bundle.tFill0, .native Bundle.tFill0, .instanceMethod Bundle.tInit0, .code Bundle.tInit0 LibCode.Throwable.Init0.code 1 none, .instanceMethod Bundle.oInit, .code Bundle.oInit ⟨#[0xb1]⟩ 1 none, .methodLink "java/lang/Throwable" 1 Bundle.oInit, .methodLink "java/lang/Throwable" 27 Bundle.tFill, .methodLink "java/lang/Throwable" 202 Bundle.tFill0, .fieldLink "java/lang/Throwable" 7 "java/lang/Throwable" "cause" "Ljava/lang/Throwable;", .lays "java/lang/Throwable" "java/lang/Throwable" "cause" "Ljava/lang/Throwable;", .fieldLink "java/lang/Throwable" 17 "java/lang/Throwable" "stackTrace" "[Ljava/lang/StackTraceElement;", .lays "java/lang/Throwable" "java/lang/Throwable" "stackTrace" "[Ljava/lang/StackTraceElement;", .fieldLink "java/lang/Throwable" 24 "java/lang/Throwable" "suppressedExceptions" "Ljava/util/List;", .lays "java/lang/Throwable" "java/lang/Throwable" "suppressedExceptions" "Ljava/util/List;", .fieldLink "java/lang/Throwable" 13 "java/lang/Throwable" "UNASSIGNED_STACK" "[Ljava/lang/StackTraceElement;", .fieldLink "java/lang/Throwable" 20 "java/lang/Throwable" "SUPPRESSED_SENTINEL" "Ljava/util/List;", .lays "java/lang/Throwable" "java/lang/Throwable" "detailMessage" "Ljava/lang/String;", .instanceMethod (Bundle.initS "java/lang/Throwable"), .code (Bundle.initS "java/lang/Throwable") LibCode.Throwable.InitS.code 2 none, .fieldLink "java/lang/Throwable" 31 "java/lang/Throwable" "detailMessage" "Ljava/lang/String;", .instanceMethod (Bundle.initS "java/lang/IndexOutOfBoundsException"), .code (Bundle.initS "java/lang/IndexOutOfBoundsException") Bundle.six 2 none, .methodLink "java/lang/IndexOutOfBoundsException" 7 (Bundle.initS "java/lang/RuntimeException"), .instanceMethod (Bundle.initS "java/lang/RuntimeException"), .code (Bundle.initS "java/lang/RuntimeException") Bundle.six 2 none, .methodLink "java/lang/RuntimeException" 7 (Bundle.initS "java/lang/Exception"), .instanceMethod (Bundle.initS "java/lang/Exception"), .code (Bundle.initS "java/lang/Exception") Bundle.six 2 none, .methodLink "java/lang/Exception" 7 (Bundle.initS "java/lang/Throwable"), .methodLink RX11 224 (Bundle.initS "java/lang/IndexOutOfBoundsException"), .instantiable "java/lang/IndexOutOfBoundsException" 6, .selects "java/lang/IndexOutOfBoundsException" Bundle.tFill0 Bundle.tFill0, .selects "java/lang/IndexOutOfBoundsException" Bundle.tFill Bundle.tFill, .lays "java/lang/IndexOutOfBoundsException" "java/lang/Throwable" "cause" "Ljava/lang/Throwable;", .lays "java/lang/IndexOutOfBoundsException" "java/lang/Throwable" "stackTrace" "[Ljava/lang/StackTraceElement;", .lays "java/lang/IndexOutOfBoundsException" "java/lang/Throwable" "suppressedExceptions" "Ljava/util/List;", .lays "java/lang/IndexOutOfBoundsException" "java/lang/Throwable" "detailMessage" "Ljava/lang/String;", .fieldLink "java/lang/Throwable" 198 "java/lang/Throwable" "backtrace" "Ljava/lang/Object;", .lays "java/lang/Throwable" "java/lang/Throwable" "backtrace" "Ljava/lang/Object;", .lays "java/lang/IndexOutOfBoundsException" "java/lang/Throwable" "backtrace" "Ljava/lang/Object;", .classLink RX11 220 "java/lang/IndexOutOfBoundsException", .initialized "java/lang/IndexOutOfBoundsException"] ++ (u_ws RX11 TX11 17 ++ u_ws RX10 TX10 1 ++ u_ws RX9 TX9 4)
set_option maxRecDepth 20000 in
theorem in9_X11_which_2_RX11 : ∀ w ∈ u_ws RX11 TX11 17, w ∈ w9_X11_which_2 := by decide +kernel
set_option maxRecDepth 20000 in
theorem in9_X11_which_2_RX10 : ∀ w ∈ u_ws RX10 TX10 1, w ∈ w9_X11_which_2 := by decide +kernel
set_option maxRecDepth 20000 in
theorem in9_X11_which_2_RX9 : ∀ w ∈ u_ws RX9 TX9 4, w ∈ w9_X11_which_2 := by decide +kernel
set_option maxRecDepth 20000 in
theorem g9_X11_which_2_0 : GoodIn w9_X11_which_2 (wsV RX11 180 RX11 yX11_needPlace w9_X11_needPlace_4) := goodIn_r _ [1, 2, 3, 4, 5, 6, 7, 8, 9, 10, 11, 12, 13, 14, 15, 16, 17, 18, 19, 20, 21, 22, 23, 24, 25, 26, 27, 28, 29, 30, 31, 32, 33, 34, 35, 36, 37, 38, 39, 40, 41, 42, 43, 44, 45, 46, 47, 48, 49, 50, 51, 52, 53, 54, 55, 56, 57, 58, 59, 60, 61, 62, 63, 64, 65, 66, 67, 68, 69, 70, 71, 72, 73, 74, 75, 76, 77, 78, 79, 80, 81, 82, 83, 84, 85, 86, 87] (by decide +kernel) (by decide +kernel)
set_option maxHeartbeats 4000000 in
set_option maxRecDepth 100000 in
theorem c9_X11_which_2 (l : Launch) (hlt : l.stackTraces = false) (g : G9) (h0 h1 h2 h3 h4 h5 h6 h7 h8 h9 h10 h11 h12 h13 h14 h15 sz : Nat) (v0 : Int32) (k_v0 : 1 ≤ v0.toInt ∧ v0.toInt ≤ 2147483647) : vx_Met l yX11_which w9_X11_which_2 ({ frames := 7, cells := 1, slots := 6, locals := 103 }) (mP g [(h0, .inr (12, [.ref h1, .int 0, .ref h2, .ref h3, .ref h4, .ref h5, .ref h6, .ref h7, .int (-1), .ref h8, .ref h9, .int 250, .ref h10, .int 0, .ref h11, .ref h12, .ref h13])), (h2, .inr (11, [.ref h14])), (h14, .inr (10, [.int 1, .int 20, .ref h15, .int 0]))] sz [.ref h0, .int v0]) (va_Qv (fun _ : Unit => False) (fun _ _ => True) (va_A [(h0, .inr (12, [.ref h1, .int 0, .ref h2, .ref h3, .ref h4, .ref h5, .ref h6, .ref h7, .int (-1), .ref h8, .ref h9, .int 250, .ref h10, .int 0, .ref h11, .ref h12, .ref h13])), (h2, .inr (11, [.ref h14])), (h14, .inr (10, [.int 1, .int 20, .ref h15, .int 0]))] sz)) (mT g [(h0, .inr (12, [.ref h1, .int 0, .ref h2, .ref h3, .ref h4, .ref h5, .ref h6, .ref h7, .int (-1), .ref h8, .ref h9, .int 250, .ref h10, .int 0, .ref h11, .ref h12, .ref h13])), (h2, .inr (11, [.ref h14])), (h14, .inr (10, [.int 1, .int 20, .ref h15, .int 0]))] sz "java/lang/IndexOutOfBoundsException") 1 6 (va_A [(h0, .inr (12, [.ref h1, .int 0, .ref h2, .ref h3, .ref h4, .ref h5, .ref h6, .ref h7, .int (-1), .ref h8, .ref h9, .int 250, .ref h10, .int 0, .ref h11, .ref h12, .ref h13])), (h2, .inr (11, [.ref h14])), (h14, .inr (10, [.int 1, .int 20, .ref h15, .int 0]))] sz) := by
  refine vx_ofW (cc := cX11_which) (maxL := 4) (ret := (some .int)) (by decide) rfl ?_
  intro p e s m args below meth c s₁ B hml hno hv
  obtain ⟨rfl, hsz, hP, hD0, hE⟩ := hv
  have hx := B.exec
  have hb := B.bytes
  have hr := B.returns
  have hts := atoms_spec (ws := w9_X11_which_2) B.pre
  have hown : s.vm.findClass RX11 = some m.cls := findClass_of_methodNamed B.named
  have hlocks := B.notSynchronized
  subst hsz
  have hD := hD0.self (sz := s.heap.size)
  generalize hAe : va_A [(h0, .inr (12, [.ref h1, .int 0, .ref h2, .ref h3, .ref h4, .ref h5, .ref h6, .ref h7, .int (-1), .ref h8, .ref h9, .int 250, .ref h10, .int 0, .ref h11, .ref h12, .ref h13])), (h2, .inr (11, [.ref h14])), (h14, .inr (10, [.int 1, .int 20, .ref h15, .int 0]))] s.heap.size = A at hD hE ⊢
  have hA : ∀ q : Nat, s.heap.size ≤ q → A q := fun q h => by rw [← hAe]; exact Or.inr h
  have hK := hE.1
  have hS : va_S A s.heap s.heap [] := va_S.rf
  replace hP : va_P g.1 vwCl [(h0, .inr (12, [.ref h1, .int 0, .ref h2, .ref h3, .ref h4, .ref h5, .ref h6, .ref h7, .int (-1), .ref h8, .ref h9, .int 250, .ref h10, .int 0, .ref h11, .ref h12, .ref h13])), (h2, .inr (11, [.ref h14])), (h14, .inr (10, [.int 1, .int 20, .ref h15, .int 0]))] s.heap := hP
  have hl := lv_entry ([.ref h0, .int v0]) (n := 4) (Nat.le_of_ble_eq_true rfl)
  rw [lg_entry_eq]
  generalize (lg_sl ([.ref h0, .int v0]) ++ List.replicate (4 - (lg_sl ([.ref h0, .int v0])).length) Slot.unset).toArray = ls at hl ⊢
  replace hl : lv_has ls 4 [(0, .ref h0), (1, .int v0)] := hl
  have hH0 : s.heap.size ≤ s.heap.size := Nat.le_refl _
  refine lv_aload_n hx hb dX11_which_0 rfl (lv_at hl 0 rfl) ?_
  refine lv_iload_n hx hb dX11_which_1 rfl (lv_at hl 1 rfl) ?_
  have hPc := hP.sub (ws' := [(h0, .inr (12, [.ref h1, .int 0, .ref h2, .ref h3, .ref h4, .ref h5, .ref h6, .ref h7, .int (-1), .ref h8, .ref h9, .int 250, .ref h10, .int 0, .ref h11, .ref h12, .ref h13])), (h2, .inr (11, [.ref h14])), (h14, .inr (10, [.int 1, .int 20, .ref h15, .int 0]))]) [0, 1, 2] rfl
  have hDc := hD.sub (ws' := [(h0, .inr (12, [.ref h1, .int 0, .ref h2, .ref h3, .ref h4, .ref h5, .ref h6, .ref h7, .int (-1), .ref h8, .ref h9, .int 250, .ref h10, .int 0, .ref h11, .ref h12, .ref h13])), (h2, .inr (11, [.ref h14])), (h14, .inr (10, [.int 1, .int 20, .ref h15, .int 0]))]) [0, 1, 2] (by decide) rfl
  have hFc := va_free (wc := [(h0, .inr (12, [.ref h1, .int 0, .ref h2, .ref h3, .ref h4, .ref h5, .ref h6, .ref h7, .int (-1), .ref h8, .ref h9, .int 250, .ref h10, .int 0, .ref h11, .ref h12, .ref h13])), (h2, .inr (11, [.ref h14])), (h14, .inr (10, [.int 1, .int 20, .ref h15, .int 0]))]) hD hS hA [0, 1, 2] rfl
  refine vx_callv (vx_runV (As := [.int v0]) (rest := []) ⟨hx, hb, hml, hown, hts⟩ (c9_X11_needPlace_4 l hlt g h0 h1 h2 h3 h4 h5 h6 h7 h8 h9 h10 h11 h12 h13 h14 h15 _ v0 (by omega)) (cwV 1 hts g9_X11_which_2_0 rfl rfl rfl (by decide +kernel) ⟨Nat.le_of_ble_eq_true rfl, Nat.le_of_ble_eq_true rfl⟩) (mPreV (g := g) (wc := [(h0, .inr (12, [.ref h1, .int 0, .ref h2, .ref h3, .ref h4, .ref h5, .ref h6, .ref h7, .int (-1), .ref h8, .ref h9, .int 250, .ref h10, .int 0, .ref h11, .ref h12, .ref h13])), (h2, .inr (11, [.ref h14])), (h14, .inr (10, [.int 1, .int 20, .ref h15, .int 0]))]) (C := RX11) (ci := 12) (q0 := 0) hE hS hPc hDc hFc rfl rfl) rfl rfl hl.1 rfl (lv_room (Nat.le_of_ble_eq_true rfl)) dX11_which_2 ⟨Nat.le_of_ble_eq_true rfl, Nat.le_of_ble_eq_true rfl⟩) hS (fun q _ h => hFc q h) hFc (fun q _ h => hFc q h) (fun E9 ce q9 u t H locs ht hvm hw hB hz1 hk1 hS hc1 hc2 hc3 => ?_) (fun u t H1 locs ht hvm hw hB hz1 hk1 hS => hw.elim)
  replace hB : E9 = "java/lang/IndexOutOfBoundsException" := hB
  subst hB
  exact vx_out (fun z hz => (hno z hz).elim) hlocks hc1 hc2 hc3 (fun t ht hW => ⟨(), trivial, rfl, by subst hAe; exact hS.F ht⟩) (by subst hAe; exact hS.2.2) (Nat.le_of_ble_eq_true rfl) (Nat.le_of_ble_eq_true rfl)
def w9_L_which_2 : List Cond := [.codeWith yL_which cL_which 4 (some .int) [(0, 9, 12, 21)], .methodLink RL 58 yX11_which, .instanceMethod yX11_which, .selects RX11 yX11_which yX11_which, .initialized RX11, .code yX11_which cX11_which 4 (some .int), .methodLink RX11 180 yX11_needPlace, .instanceMethod yX11_needPlace, .selects RX11 yX11_needPlace yX11_needPlace, .code yX11_needPlace cX11_needPlace 2 none, .fieldLink RX11 16 "Regexloom" "text" "LRegexloom$Text;", .methodLink RX11 146 yX10_size, .instanceMethod yX10_size, .selects RX10 yX10_size yX10_size, .initialized RX10, .code yX10_size cX10_size 1 (some .int), .fieldLink RX10 14 "Regexloom$Text" "codes" "LRegexloom$Table;", .methodLink RX10 20 yX9_size, .instanceMethod yX9_size, .selects RX9 yX9_size yX9_size, .initialized RX9, .code yX9_size cX9_size 1 (some .int), .fieldLink RX9 28 "Regexloom$Table" "size" "I", .initialized "java/lang/Throwable", .superclass "java/lang/Throwable" "java/lang/Object", .instanceMethod Bundle.tFill, .codeSync Bundle.tFill LibCode.Throwable.Fill.code 1 (some (.object "java/lang/Throwable")), .instanceMethod Bundle.tFill0, .native Bundle.tFill0, .instanceMethod Bundle.tInit0, .code Bundle.tInit0 LibCode.Throwable.Init0.code 1 none, .instanceMethod Bundle.oInit, .code Bundle.oInit ⟨#[0xb1]⟩ 1 none, .methodLink "java/lang/Throwable" 1 Bundle.oInit, .methodLink "java/lang/Throwable" 27 Bundle.tFill, .methodLink "java/lang/Throwable" 202 Bundle.tFill0, .fieldLink "java/lang/Throwable" 7 "java/lang/Throwable" "cause" "Ljava/lang/Throwable;", .lays "java/lang/Throwable" "java/lang/Throwable" "cause" "Ljava/lang/Throwable;", .fieldLink "java/lang/Throwable" 17 "java/lang/Throwable" "stackTrace" "[Ljava/lang/StackTraceElement;", .lays "java/lang/Throwable" "java/lang/Throwable" "stackTrace" "[Ljava/lang/StackTraceElement;", .fieldLink "java/lang/Throwable" 24 "java/lang/Throwable" "suppressedExceptions" "Ljava/util/List;", .lays "java/lang/Throwable" "java/lang/Throwable" "suppressedExceptions" "Ljava/util/List;", .fieldLink "java/lang/Throwable" 13 "java/lang/Throwable" "UNASSIGNED_STACK" "[Ljava/lang/StackTraceElement;", .fieldLink "java/lang/Throwable" 20 "java/lang/Throwable" "SUPPRESSED_SENTINEL" "Ljava/util/List;", .lays "java/lang/Throwable" "java/lang/Throwable" "detailMessage" "Ljava/lang/String;", .instanceMethod (Bundle.initS "java/lang/Throwable"), .code (Bundle.initS "java/lang/Throwable") LibCode.Throwable.InitS.code 2 none, .fieldLink "java/lang/Throwable" 31 "java/lang/Throwable" "detailMessage" "Ljava/lang/String;", .instanceMethod (Bundle.initS "java/lang/IndexOutOfBoundsException"), .code (Bundle.initS "java/lang/IndexOutOfBoundsException") Bundle.six 2 none, .methodLink "java/lang/IndexOutOfBoundsException" 7 (Bundle.initS "java/lang/RuntimeException"), .instanceMethod (Bundle.initS "java/lang/RuntimeException"), .code (Bundle.initS "java/lang/RuntimeException") Bundle.six 2 none, .methodLink "java/lang/RuntimeException" 7 (Bundle.initS "java/lang/Exception"), .instanceMethod (Bundle.initS "java/lang/Exception"), .code (Bundle.initS "java/lang/Exception") Bundle.six 2 none, .methodLink "java/lang/Exception" 7 (Bundle.initS "java/lang/Throwable"), .methodLink RX11 224 (Bundle.initS "java/lang/IndexOutOfBoundsException"), .instantiable "java/lang/IndexOutOfBoundsException" 6, .selects "java/lang/IndexOutOfBoundsException" Bundle.tFill0 Bundle.tFill0, .selects "java/lang/IndexOutOfBoundsException" Bundle.tFill Bundle.tFill, .lays "java/lang/IndexOutOfBoundsException" "java/lang/Throwable" "cause" "Ljava/lang/Throwable;", .lays "java/lang/IndexOutOfBoundsException" "java/lang/Throwable" "stackTrace" "[Ljava/lang/StackTraceElement;", .lays "java/lang/IndexOutOfBoundsException" "java/lang/Throwable" "suppressedExceptions" "Ljava/util/List;", .lays "java/lang/IndexOutOfBoundsException" "java/lang/Throwable" "detailMessage" "Ljava/lang/String;", .fieldLink "java/lang/Throwable" 198 "java/lang/Throwable" "backtrace" "Ljava/lang/Object;", .lays "java/lang/Throwable" "java/lang/Throwable" "backtrace" "Ljava/lang/Object;", .lays "java/lang/IndexOutOfBoundsException" "java/lang/Throwable" "backtrace" "Ljava/lang/Object;", .classLink RX11 220 "java/lang/IndexOutOfBoundsException", .initialized "java/lang/IndexOutOfBoundsException", .classLink RL 21 "java/lang/IndexOutOfBoundsException"] ++ (u_ws RX11 TX11 17 ++ u_ws RX10 TX10 1 ++ u_ws RX9 TX9 4)
set_option maxRecDepth 20000 in
theorem in9_L_which_2_RX11 : ∀ w ∈ u_ws RX11 TX11 17, w ∈ w9_L_which_2 := by decide +kernel
set_option maxRecDepth 20000 in
theorem in9_L_which_2_RX10 : ∀ w ∈ u_ws RX10 TX10 1, w ∈ w9_L_which_2 := by decide +kernel
set_option maxRecDepth 20000 in
theorem in9_L_which_2_RX9 : ∀ w ∈ u_ws RX9 TX9 4, w ∈ w9_L_which_2 := by decide +kernel
set_option maxRecDepth 20000 in
theorem g9_L_which_2_0 : GoodIn w9_L_which_2 (wsV RL 58 RX11 yX11_which w9_X11_which_2) := goodIn_r _ [1, 2, 3, 4, 5, 6, 7, 8, 4, 9, 10, 11, 12, 13, 14, 15, 16, 17, 18, 19, 20, 21, 22, 23, 24, 25, 26, 27, 28, 29, 30, 31, 32, 33, 34, 35, 36, 37, 38, 39, 40, 41, 42, 43, 44, 45, 46, 47, 48, 49, 50, 51, 52, 53, 54, 55, 56, 57, 58, 59, 60, 61, 62, 63, 64, 65, 66, 67, 68, 69, 71, 72, 73, 74, 75, 76, 77, 78, 79, 80, 81, 82, 83, 84, 85, 86, 87, 88, 89, 90, 91, 92] (by decide +kernel) (by decide +kernel)
set_option maxHeartbeats 4000000 in
set_option maxRecDepth 100000 in
theorem c9_L_which_2 (l : Launch) (hlt : l.stackTraces = false) (g : G9) (h0 h1 h2 h3 h4 h5 h6 h7 h8 h9 h10 h11 h12 h13 h14 h15 h16 sz : Nat) (v0 : Int32) (k_v0 : 1 ≤ v0.toInt ∧ v0.toInt ≤ 2147483647) : Met l yL_which w9_L_which_2 ({ frames := 8, cells := 1, slots := 6, locals := 126 }) (mP g [(h0, .inr (12, [.ref h2, .int 0, .ref h3, .ref h4, .ref h5, .ref h6, .ref h7, .ref h8, .int (-1), .ref h9, .ref h10, .int 250, .ref h11, .int 0, .ref h12, .ref h13, .ref h14])), (h3, .inr (11, [.ref h15])), (h15, .inr (10, [.int 1, .int 20, .ref h16, .int 0]))] sz [.ref h0, .int v0, .ref h1]) (va_Qi (fun (r : Int32) (_ : Unit) => r = 1) (fun (_ : Unit) (t : State) => mB g [(h0, .inr (12, [.ref h2, .int 0, .ref h3, .ref h4, .ref h5, .ref h6, .ref h7, .ref h8, .int (-1), .ref h9, .ref h10, .int 250, .ref h11, .int 0, .ref h12, .ref h13, .ref h14])), (h3, .inr (11, [.ref h15])), (h15, .inr (10, [.int 1, .int 20, .ref h16, .int 0]))] sz [] t) (va_A [(h0, .inr (12, [.ref h2, .int 0, .ref h3, .ref h4, .ref h5, .ref h6, .ref h7, .ref h8, .int (-1), .ref h9, .ref h10, .int 250, .ref h11, .int 0, .ref h12, .ref h13, .ref h14])), (h3, .inr (11, [.ref h15])), (h15, .inr (10, [.int 1, .int 20, .ref h16, .int 0]))] sz)) 1 6 (va_A [(h0, .inr (12, [.ref h2, .int 0, .ref h3, .ref h4, .ref h5, .ref h6, .ref h7, .ref h8, .int (-1), .ref h9, .ref h10, .int 250, .ref h11, .int 0, .ref h12, .ref h13, .ref h14])), (h3, .inr (11, [.ref h15])), (h15, .inr (10, [.int 1, .int 20, .ref h16, .int 0]))] sz) := by
  refine va_MetW (cc := cL_which) (maxL := 4) (ret := (some .int)) (by decide) rfl ?_
  intro p e s m args below meth c s₁ B hml hv
  obtain ⟨rfl, hsz, hP, hD0, hE⟩ := hv
  have hx := B.exec
  have hb := B.bytes
  have hr := B.returns
  have hts := atoms_spec (ws := w9_L_which_2) B.pre
  have hown : s.vm.findClass RL = some m.cls := findClass_of_methodNamed B.named
  have hlocks := B.notSynchronized
  have htab := vx_table (x := yL_which) B (hts (.codeWith yL_which cL_which 4 (some .int) [(0, 9, 12, 21)]) (List.mem_of_getElem? (i := 0) rfl))
  subst hsz
  have hD := hD0.self (sz := s.heap.size)
  generalize hAe : va_A [(h0, .inr (12, [.ref h2, .int 0, .ref h3, .ref h4, .ref h5, .ref h6, .ref h7, .ref h8, .int (-1), .ref h9, .ref h10, .int 250, .ref h11, .int 0, .ref h12, .ref h13, .ref h14])), (h3, .inr (11, [.ref h15])), (h15, .inr (10, [.int 1, .int 20, .ref h16, .int 0]))] s.heap.size = A at hD hE ⊢
  have hA : ∀ q : Nat, s.heap.size ≤ q → A q := fun q h => by rw [← hAe]; exact Or.inr h
  have hK := hE.1
  have hS : va_S A s.heap s.heap [] := va_S.rf
  replace hP : va_P g.1 vwCl [(h0, .inr (12, [.ref h2, .int 0, .ref h3, .ref h4, .ref h5, .ref h6, .ref h7, .ref h8, .int (-1), .ref h9, .ref h10, .int 250, .ref h11, .int 0, .ref h12, .ref h13, .ref h14])), (h3, .inr (11, [.ref h15])), (h15, .inr (10, [.int 1, .int 20, .ref h16, .int 0]))] s.heap := hP
  have hl := lv_entry ([.ref h0, .int v0, .ref h1]) (n := 4) (Nat.le_of_ble_eq_true rfl)
  rw [lg_entry_eq]
  generalize (lg_sl ([.ref h0, .int v0, .ref h1]) ++ List.replicate (4 - (lg_sl ([.ref h0, .int v0, .ref h1])).length) Slot.unset).toArray = ls at hl ⊢
  replace hl : lv_has ls 4 [(0, .ref h0), (1, .int v0), (2, .ref h1)] := hl
  have hH0 : s.heap.size ≤ s.heap.size := Nat.le_refl _
  refine lv_aload_n hx hb dL_which_0 rfl (lv_at hl 2 rfl) ?_
  refine lv_iconst (v := 0) hx hb dL_which_1 (by decide) ?_
  refine lv_aload_n hx hb dL_which_2 rfl (lv_at hl 0 rfl) ?_
  refine lv_iload_n hx hb dL_which_3 rfl (lv_at hl 1 rfl) ?_
  have hPc := hP.sub (ws' := [(h0, .inr (12, [.ref h2, .int 0, .ref h3, .ref h4, .ref h5, .ref h6, .ref h7, .ref h8, .int (-1), .ref h9, .ref h10, .int 250, .ref h11, .int 0, .ref h12, .ref h13, .ref h14])), (h3, .inr (11, [.ref h15])), (h15, .inr (10, [.int 1, .int 20, .ref h16, .int 0]))]) [0, 1, 2] rfl
  have hDc := hD.sub (ws' := [(h0, .inr (12, [.ref h2, .int 0, .ref h3, .ref h4, .ref h5, .ref h6, .ref h7, .ref h8, .int (-1), .ref h9, .ref h10, .int 250, .ref h11, .int 0, .ref h12, .ref h13, .ref h14])), (h3, .inr (11, [.ref h15])), (h15, .inr (10, [.int 1, .int 20, .ref h16, .int 0]))]) [0, 1, 2] (by decide) rfl
  have hFc := va_free (wc := [(h0, .inr (12, [.ref h2, .int 0, .ref h3, .ref h4, .ref h5, .ref h6, .ref h7, .ref h8, .int (-1), .ref h9, .ref h10, .int 250, .ref h11, .int 0, .ref h12, .ref h13, .ref h14])), (h3, .inr (11, [.ref h15])), (h15, .inr (10, [.int 1, .int 20, .ref h16, .int 0]))]) hD hS hA [0, 1, 2] rfl
  refine vx_callv (vx_runV (As := [.int v0]) (rest := [.int 0, .ref h1]) ⟨hx, hb, hml, hown, hts⟩ (c9_X11_which_2 l hlt g h0 h2 h3 h4 h5 h6 h7 h8 h9 h10 h11 h12 h13 h14 h15 h16 _ v0 (by omega)) (cwV 1 hts g9_L_which_2_0 rfl rfl rfl (by decide +kernel) ⟨Nat.le_of_ble_eq_true rfl, Nat.le_of_ble_eq_true rfl⟩) (mPreV (g := g) (wc := [(h0, .inr (12, [.ref h2, .int 0, .ref h3, .ref h4, .ref h5, .ref h6, .ref h7, .ref h8, .int (-1), .ref h9, .ref h10, .int 250, .ref h11, .int 0, .ref h12, .ref h13, .ref h14])), (h3, .inr (11, [.ref h15])), (h15, .inr (10, [.int 1, .int 20, .ref h16, .int 0]))]) (C := RX11) (ci := 12) (q0 := 0) hE hS hPc hDc hFc rfl rfl) rfl rfl hl.1 rfl (lv_room (Nat.le_of_ble_eq_true rfl)) dL_which_4 ⟨Nat.le_of_ble_eq_true rfl, Nat.le_of_ble_eq_true rfl⟩) hS (fun q _ h => hFc q h) hFc (fun q _ h => hFc q h) (fun E9 ce q9 u t H locs ht hvm hw hB hz1 hk1 hS hc1 hc2 hc3 => ?_) (fun u t H1 locs ht hvm hw hB hz1 hk1 hS => hw.elim)
  replace hB : E9 = "java/lang/IndexOutOfBoundsException" := hB
  subst hB
  obtain ⟨hP, hD⟩ := va_join (wr := []) (w1 := []) hP hD [0, 1, 2] [] rfl rfl (by decide) (by decide) hk1 hFc (fun k q h => by simp at h) ⟨fun i j p q h => by simp at h, fun k q h => by simp at h⟩
  have hP : va_P g.1 vwCl [] H := hP
  have hD : va_D A [] := hD
  refine vx_catch (own := RL) (name := "java/lang/IndexOutOfBoundsException") hown [] ⟨0, 9, 12, 21⟩ [] (by rw [htab]; rfl) (fun z hz => absurd hz List.not_mem_nil) (by decide) (by decide) (hts (.classLink RL 21 "java/lang/IndexOutOfBoundsException") (List.mem_of_getElem? (i := 70) rfl)) (va_Nw.use rfl (hE.cast ("java/lang/IndexOutOfBoundsException", "java/lang/IndexOutOfBoundsException") (by decide))) hc1 hc2 hc3 ?_
  refine lv_astore_n (lv' := [(3, .ref q9), (0, .ref h0), (1, .int v0), (2, .ref h1)]) hx hb dL_which_12 rfl hl (by decide) rfl (fun ls hl => ?_)
  refine lv_iconst (v := 1) hx hb dL_which_13 (by decide) ?_
  have hP9 := hP.sub (ws' := []) [] rfl
  have hD9 := hD.sub (ws' := []) [] (by decide) rfl
  subst hAe
  exact W.iret (v := 1) hx hb hr (fun t ht hW => ⟨⟨1, (), rfl, rfl, by rw [ht]; exact hP9, hD9⟩, hS.F ht⟩) hS.2.2 dL_which_14
def w9_X21_which_2 : List Cond := [.codeWith yX21_which cX21_which 5 (some .int) [(40, 74, 77, 208)], .fieldLink RX21 196 "RegexloomModel" "length" "I", .methodLink RX21 160 yX21_in, .static yX21_in, .initialized RX21, .code yX21_in cX21_in 3 (some .boolean), .methodLink RX21 154 yX21_refused, .instanceMethod yX21_refused, .selects RX21 yX21_refused yX21_refused, .code yX21_refused cX21_refused 2 (some .boolean), .fieldLink RX21 144 "RegexloomModel" "refusal" "I"] ++ (u_ws RX21 TX21 32)
set_option maxRecDepth 20000 in
theorem in9_X21_which_2_RX21 : ∀ w ∈ u_ws RX21 TX21 32, w ∈ w9_X21_which_2 := by decide +kernel
set_option maxRecDepth 20000 in
theorem g9_X21_which_2_0 : GoodIn w9_X21_which_2 (va_wsS RX21 160 yX21_in w9_X21_in_12) := goodIn_r _ [2, 3, 4, 5] (by decide +kernel) (by decide +kernel)
set_option maxRecDepth 20000 in
theorem g9_X21_which_2_1 : GoodIn w9_X21_which_2 (wsV RX21 154 RX21 yX21_refused w9_X21_refused_2) := goodIn_r _ [6, 7, 8, 4, 9, 10, 11, 12, 13, 14, 15, 16, 17, 18, 19, 20, 21, 22, 23, 24, 25, 26, 27, 28, 29, 30, 31, 32, 33, 34, 35, 36, 37, 38, 39, 40, 41, 42] (by decide +kernel) (by decide +kernel)
set_option maxHeartbeats 4000000 in
set_option maxRecDepth 100000 in
theorem c9_X21_which_2 (l : Launch) (g : G9) (h0 h1 h2 h3 h4 h5 h6 h7 h8 h9 h10 h11 h12 h13 h14 h15 h16 sz : Nat) (v0 : Int32) (k_v0 : 1 ≤ v0.toInt ∧ v0.toInt ≤ 2147483647) : Met l yX21_which w9_X21_which_2 ({ frames := 1, cells := 0, slots := 0, locals := 22 }) (mP g [(h0, .inr (22, [.int 0, .ref h1, .int 0, .ref h2, .int 0, .ref h3, .int 250, .ref h4, .int 0, .ref h5, .ref h6, .ref h7, .int 0, .ref h8, .ref h9, .ref h10, .int 0, .null, .int 0, .null, .int 0, .int 0, .int 0, .ref h11, .int 0, .ref h12, .ref h13, .ref h14, .int 0, .ref h15, .ref h16, .int 0]))] sz [.ref h0, .int v0]) (va_Qi (fun (r : Int32) (_ : Unit) => r = 0) (fun (_ : Unit) (t : State) => mB g [(h0, .inr (22, [.int 0, .ref h1, .int 0, .ref h2, .int 0, .ref h3, .int 250, .ref h4, .int 0, .ref h5, .ref h6, .ref h7, .int 0, .ref h8, .ref h9, .ref h10, .int 0, .null, .int 0, .null, .int 0, .int 0, .int 0, .ref h11, .int 0, .ref h12, .ref h13, .ref h14, .int 0, .ref h15, .ref h16, .int 0]))] sz [(h0, .inr (22, [.int 1, .ref h1, .int 0, .ref h2, .int 0, .ref h3, .int 250, .ref h4, .int 0, .ref h5, .ref h6, .ref h7, .int 0, .ref h8, .ref h9, .ref h10, .int 0, .null, .int 0, .null, .int 0, .int 0, .int 0, .ref h11, .int 0, .ref h12, .ref h13, .ref h14, .int 0, .ref h15, .ref h16, .int 0]))] t) (va_A [(h0, .inr (22, [.int 0, .ref h1, .int 0, .ref h2, .int 0, .ref h3, .int 250, .ref h4, .int 0, .ref h5, .ref h6, .ref h7, .int 0, .ref h8, .ref h9, .ref h10, .int 0, .null, .int 0, .null, .int 0, .int 0, .int 0, .ref h11, .int 0, .ref h12, .ref h13, .ref h14, .int 0, .ref h15, .ref h16, .int 0]))] sz)) 0 0 (va_A [(h0, .inr (22, [.int 0, .ref h1, .int 0, .ref h2, .int 0, .ref h3, .int 250, .ref h4, .int 0, .ref h5, .ref h6, .ref h7, .int 0, .ref h8, .ref h9, .ref h10, .int 0, .null, .int 0, .null, .int 0, .int 0, .int 0, .ref h11, .int 0, .ref h12, .ref h13, .ref h14, .int 0, .ref h15, .ref h16, .int 0]))] sz) := by
  refine va_MetW (cc := cX21_which) (maxL := 5) (ret := (some .int)) (by decide) rfl ?_
  intro p e s m args below meth c s₁ B hml hv
  obtain ⟨rfl, hsz, hP, hD0, hE⟩ := hv
  have hx := B.exec
  have hb := B.bytes
  have hr := B.returns
  have hts := atoms_spec (ws := w9_X21_which_2) B.pre
  have hown : s.vm.findClass RX21 = some m.cls := findClass_of_methodNamed B.named
  have hlocks := B.notSynchronized
  have htab := vx_table (x := yX21_which) B (hts (.codeWith yX21_which cX21_which 5 (some .int) [(40, 74, 77, 208)]) (List.mem_of_getElem? (i := 0) rfl))
  subst hsz
  have hD := hD0.self (sz := s.heap.size)
  generalize hAe : va_A [(h0, .inr (22, [.int 0, .ref h1, .int 0, .ref h2, .int 0, .ref h3, .int 250, .ref h4, .int 0, .ref h5, .ref h6, .ref h7, .int 0, .ref h8, .ref h9, .ref h10, .int 0, .null, .int 0, .null, .int 0, .int 0, .int 0, .ref h11, .int 0, .ref h12, .ref h13, .ref h14, .int 0, .ref h15, .ref h16, .int 0]))] s.heap.size = A at hD hE ⊢
  have hA : ∀ q : Nat, s.heap.size ≤ q → A q := fun q h => by rw [← hAe]; exact Or.inr h
  have hK := hE.1
  have hS : va_S A s.heap s.heap [] := va_S.rf
  replace hP : va_P g.1 vwCl [(h0, .inr (22, [.int 0, .ref h1, .int 0, .ref h2, .int 0, .ref h3, .int 250, .ref h4, .int 0, .ref h5, .ref h6, .ref h7, .int 0, .ref h8, .ref h9, .ref h10, .int 0, .null, .int 0, .null, .int 0, .int 0, .int 0, .ref h11, .int 0, .ref h12, .ref h13, .ref h14, .int 0, .ref h15, .ref h16, .int 0]))] s.heap := hP
  have hl := lv_entry ([.ref h0, .int v0]) (n := 5) (Nat.le_of_ble_eq_true rfl)
  rw [lg_entry_eq]
  generalize (lg_sl ([.ref h0, .int v0]) ++ List.replicate (5 - (lg_sl ([.ref h0, .int v0])).length) Slot.unset).toArray = ls at hl ⊢
  replace hl : lv_has ls 5 [(0, .ref h0), (1, .int v0)] := hl
  have hH0 : s.heap.size ≤ s.heap.size := Nat.le_refl _
  refine lv_aload_n hx hb dX21_which_0 rfl (lv_at hl 0 rfl) ?_
  refine lv_iload_n hx hb dX21_which_1 rfl (lv_at hl 1 rfl) ?_
  refine lv_iconst (v := 0) hx hb dX21_which_2 (by decide) ?_
  refine lv_aload_n hx hb dX21_which_3 rfl (lv_at hl 0 rfl) ?_
  refine va_get (D := g.1) (ci := 22) (v := .int 0) (C := RX21) (T := TX21) (N := 32) hx hb hts in9_X21_which_2_RX21 hown hK hP 0 rfl rfl 4 (by decide) (hts (.fieldLink RX21 196 "RegexloomModel" "length" "I") (List.mem_of_getElem? (i := 1) rfl)) (fun _ h9 => h9) rfl dX21_which_4 ?_
  have hPc := hP.sub (ws' := []) [] rfl
  have hDc := hD.sub (ws' := []) [] (by decide) rfl
  have hFc := va_free (wc := []) hD hS hA [] rfl
  refine va_calli (va_runS (As := [.int v0, .int 0, .int 0]) (rest := [.ref h0]) ⟨hx, hb, hml, hown, hts⟩ (c9_X21_in_12 l g _ v0 (by omega)) (va_cwS 3 hts g9_X21_which_2_0 rfl rfl rfl (by decide +kernel) ⟨Nat.le_of_ble_eq_true rfl, Nat.le_of_ble_eq_true rfl⟩) (mPreS (g := g) (wc := []) hE hS hPc hDc hFc) rfl rfl hl.1 rfl (lv_room (Nat.le_of_ble_eq_true rfl)) dX21_which_7 ⟨Nat.le_of_ble_eq_true rfl, Nat.le_of_ble_eq_true rfl⟩) hS (fun q _ h => hFc q h) hFc (fun r_1 u t H1 locs ht hvm hw hB hz1 hk1 hS => ?_)
  replace hw : 0 = r_1 := Eq.symm hw
  subst hw
  obtain ⟨hP1, hD1⟩ := hB
  rw [ht] at hP1
  obtain ⟨hP, hD⟩ := va_join (wr := [(h0, .inr (22, [.int 0, .ref h1, .int 0, .ref h2, .int 0, .ref h3, .int 250, .ref h4, .int 0, .ref h5, .ref h6, .ref h7, .int 0, .ref h8, .ref h9, .ref h10, .int 0, .null, .int 0, .null, .int 0, .int 0, .int 0, .ref h11, .int 0, .ref h12, .ref h13, .ref h14, .int 0, .ref h15, .ref h16, .int 0]))]) (w1 := []) hP hD [] [0] rfl rfl (by decide) (by decide) hk1 hFc hP1 hD1
  clear hP1 hD1 hPc hDc hFc hk1 hz1 hvm ht
  generalize H1 = H at hP hS ⊢
  have hP : va_P g.1 vwCl [(h0, .inr (22, [.int 0, .ref h1, .int 0, .ref h2, .int 0, .ref h3, .int 250, .ref h4, .int 0, .ref h5, .ref h6, .ref h7, .int 0, .ref h8, .ref h9, .ref h10, .int 0, .null, .int 0, .null, .int 0, .int 0, .int 0, .ref h11, .int 0, .ref h12, .ref h13, .ref h14, .int 0, .ref h15, .ref h16, .int 0]))] H := hP
  have hD : va_D A [(h0, .inr (22, [.int 0, .ref h1, .int 0, .ref h2, .int 0, .ref h3, .int 250, .ref h4, .int 0, .ref h5, .ref h6, .ref h7, .int 0, .ref h8, .ref h9, .ref h10, .int 0, .null, .int 0, .null, .int 0, .int 0, .int 0, .ref h11, .int 0, .ref h12, .ref h13, .ref h14, .int 0, .ref h15, .ref h16, .int 0]))] := hD
  refine lv_if_eq (tgt := 17) hx hb dX21_which_10 (by decide) (fun _ => ?_) (fun c9 => absurd (by decide) c9)
  refine lv_iconst (v := 1) hx hb dX21_which_17 (by decide) ?_
  have hPc := hP.sub (ws' := [(h0, .inr (22, [.int 0, .ref h1, .int 0, .ref h2, .int 0, .ref h3, .int 250, .ref h4, .int 0, .ref h5, .ref h6, .ref h7, .int 0, .ref h8, .ref h9, .ref h10, .int 0, .null, .int 0, .null, .int 0, .int 0, .int 0, .ref h11, .int 0, .ref h12, .ref h13, .ref h14, .int 0, .ref h15, .ref h16, .int 0]))]) [0] rfl
  have hDc := hD.sub (ws' := [(h0, .inr (22, [.int 0, .ref h1, .int 0, .ref h2, .int 0, .ref h3, .int 250, .ref h4, .int 0, .ref h5, .ref h6, .ref h7, .int 0, .ref h8, .ref h9, .ref h10, .int 0, .null, .int 0, .null, .int 0, .int 0, .int 0, .ref h11, .int 0, .ref h12, .ref h13, .ref h14, .int 0, .ref h15, .ref h16, .int 0]))]) [0] (by decide) rfl
  have hFc := va_free (wc := [(h0, .inr (22, [.int 0, .ref h1, .int 0, .ref h2, .int 0, .ref h3, .int 250, .ref h4, .int 0, .ref h5, .ref h6, .ref h7, .int 0, .ref h8, .ref h9, .ref h10, .int 0, .null, .int 0, .null, .int 0, .int 0, .int 0, .ref h11, .int 0, .ref h12, .ref h13, .ref h14, .int 0, .ref h15, .ref h16, .int 0]))]) hD hS hA [0] rfl
  refine va_calli (va_runV (As := [.int 1]) (rest := []) ⟨hx, hb, hml, hown, hts⟩ (c9_X21_refused_2 l g h0 h1 h2 h3 h4 h5 h6 h7 h8 h9 h10 h11 h12 h13 h14 h15 h16 _) (cwV 1 hts g9_X21_which_2_1 rfl rfl rfl (by decide +kernel) ⟨Nat.le_of_ble_eq_true rfl, Nat.le_of_ble_eq_true rfl⟩) (mPreV (g := g) (wc := [(h0, .inr (22, [.int 0, .ref h1, .int 0, .ref h2, .int 0, .ref h3, .int 250, .ref h4, .int 0, .ref h5, .ref h6, .ref h7, .int 0, .ref h8, .ref h9, .ref h10, .int 0, .null, .int 0, .null, .int 0, .int 0, .int 0, .ref h11, .int 0, .ref h12, .ref h13, .ref h14, .int 0, .ref h15, .ref h16, .int 0]))]) (C := RX21) (ci := 22) (q0 := 0) hE hS hPc hDc hFc rfl rfl) rfl rfl hl.1 rfl (lv_room (Nat.le_of_ble_eq_true rfl)) dX21_which_18 ⟨Nat.le_of_ble_eq_true rfl, Nat.le_of_ble_eq_true rfl⟩) hS (fun q _ h => hFc q h) hFc (fun r_2 u t H1 locs ht hvm hw hB hz1 hk1 hS => ?_)
  replace hw : 1 = r_2 := Eq.symm hw
  subst hw
  obtain ⟨hP1, hD1⟩ := hB
  rw [ht] at hP1
  obtain ⟨hP, hD⟩ := va_join (wr := []) (w1 := [(h0, .inr (22, [.int 1, .ref h1, .int 0, .ref h2, .int 0, .ref h3, .int 250, .ref h4, .int 0, .ref h5, .ref h6, .ref h7, .int 0, .ref h8, .ref h9, .ref h10, .int 0, .null, .int 0, .null, .int 0, .int 0, .int 0, .ref h11, .int 0, .ref h12, .ref h13, .ref h14, .int 0, .ref h15, .ref h16, .int 0]))]) hP hD [0] [] rfl rfl (by decide) (by decide) hk1 hFc hP1 hD1
  clear hP1 hD1 hPc hDc hFc hk1 hz1 hvm ht
  generalize H1 = H at hP hS ⊢
  have hP : va_P g.1 vwCl [(h0, .inr (22, [.int 1, .ref h1, .int 0, .ref h2, .int 0, .ref h3, .int 250, .ref h4, .int 0, .ref h5, .ref h6, .ref h7, .int 0, .ref h8, .ref h9, .ref h10, .int 0, .null, .int 0, .null, .int 0, .int 0, .int 0, .ref h11, .int 0, .ref h12, .ref h13, .ref h14, .int 0, .ref h15, .ref h16, .int 0]))] H := hP
  have hD : va_D A [(h0, .inr (22, [.int 1, .ref h1, .int 0, .ref h2, .int 0, .ref h3, .int 250, .ref h4, .int 0, .ref h5, .ref h6, .ref h7, .int 0, .ref h8, .ref h9, .ref h10, .int 0, .null, .int 0, .null, .int 0, .int 0, .int 0, .ref h11, .int 0, .ref h12, .ref h13, .ref h14, .int 0, .ref h15, .ref h16, .int 0]))] := hD
  refine lv_if_eq (tgt := 26) hx hb dX21_which_21 (by decide) (fun c9 => absurd c9 (by decide)) (fun _ => ?_)
  refine lv_iconst (v := 0) hx hb dX21_which_24 (by decide) ?_
  have hP9 := hP.sub (ws' := [(h0, .inr (22, [.int 1, .ref h1, .int 0, .ref h2, .int 0, .ref h3, .int 250, .ref h4, .int 0, .ref h5, .ref h6, .ref h7, .int 0, .ref h8, .ref h9, .ref h10, .int 0, .null, .int 0, .null, .int 0, .int 0, .int 0, .ref h11, .int 0, .ref h12, .ref h13, .ref h14, .int 0, .ref h15, .ref h16, .int 0]))]) [0] rfl
  have hD9 := hD.sub (ws' := [(h0, .inr (22, [.int 1, .ref h1, .int 0, .ref h2, .int 0, .ref h3, .int 250, .ref h4, .int 0, .ref h5, .ref h6, .ref h7, .int 0, .ref h8, .ref h9, .ref h10, .int 0, .null, .int 0, .null, .int 0, .int 0, .int 0, .ref h11, .int 0, .ref h12, .ref h13, .ref h14, .int 0, .ref h15, .ref h16, .int 0]))]) [0] (by decide) rfl
  subst hAe
  exact W.iret (v := 0) hx hb hr (fun t ht hW => ⟨⟨0, (), rfl, rfl, by rw [ht]; exact hP9, hD9⟩, hS.F ht⟩) hS.2.2 dX21_which_25
def w9_X11_needPlace_5 : List Cond := [.code yX11_needPlace cX11_needPlace 2 none, .fieldLink RX11 16 "Regexloom" "text" "LRegexloom$Text;", .methodLink RX11 146 yX10_size, .instanceMethod yX10_size, .selects RX10 yX10_size yX10_size, .initialized RX10, .code yX10_size cX10_size 1 (some .int), .fieldLink RX10 14 "Regexloom$Text" "codes" "LRegexloom$Table;", .methodLink RX10 20 yX9_size, .instanceMethod yX9_size, .selects RX9 yX9_size yX9_size, .initialized RX9, .code yX9_size cX9_size 1 (some .int), .fieldLink RX9 28 "Regexloom$Table" "size" "I"] ++ (u_ws RX11 TX11 17 ++ u_ws RX10 TX10 1 ++ u_ws RX9 TX9 4)
set_option maxRecDepth 20000 in
theorem in9_X11_needPlace_5_RX11 : ∀ w ∈ u_ws RX11 TX11 17, w ∈ w9_X11_needPlace_5 := by decide +kernel
set_option maxRecDepth 20000 in
theorem in9_X11_needPlace_5_RX10 : ∀ w ∈ u_ws RX10 TX10 1, w ∈ w9_X11_needPlace_5 := by decide +kernel
set_option maxRecDepth 20000 in
theorem in9_X11_needPlace_5_RX9 : ∀ w ∈ u_ws RX9 TX9 4, w ∈ w9_X11_needPlace_5 := by decide +kernel
set_option maxRecDepth 20000 in
theorem g9_X11_needPlace_5_0 : GoodIn w9_X11_needPlace_5 (wsV RX11 146 RX10 yX10_size w9_X10_size_1) := goodIn_r _ [2, 3, 4, 5, 6, 7, 8, 9, 10, 11, 12, 13, 31, 32, 33, 34, 35] (by decide +kernel) (by decide +kernel)
set_option maxHeartbeats 4000000 in
set_option maxRecDepth 100000 in
theorem c9_X11_needPlace_5 (l : Launch) (g : G9) (h0 h1 h2 h3 h4 h5 h6 h7 h8 h9 h10 h11 h12 h13 h14 h15 sz : Nat) : Met l yX11_needPlace w9_X11_needPlace_5 ({ frames := 2, cells := 0, slots := 0, locals := 40 }) (mP g [(h0, .inr (12, [.ref h1, .int 0, .ref h2, .ref h3, .ref h4, .ref h5, .ref h6, .ref h7, .int (-1), .ref h8, .ref h9, .int 250, .ref h10, .int 0, .ref h11, .ref h12, .ref h13])), (h2, .inr (11, [.ref h14])), (h14, .inr (10, [.int 1, .int 20, .ref h15, .int 0]))] sz [.ref h0, .int 0]) (va_Qv (fun _ : Unit => True) (fun (_ : Unit) (t : State) => mB g [(h0, .inr (12, [.ref h1, .int 0, .ref h2, .ref h3, .ref h4, .ref h5, .ref h6, .ref h7, .int (-1), .ref h8, .ref h9, .int 250, .ref h10, .int 0, .ref h11, .ref h12, .ref h13])), (h2, .inr (11, [.ref h14])), (h14, .inr (10, [.int 1, .int 20, .ref h15, .int 0]))] sz [(h0, .inr (12, [.ref h1, .int 0, .ref h2, .ref h3, .ref h4, .ref h5, .ref h6, .ref h7, .int (-1), .ref h8, .ref h9, .int 250, .ref h10, .int 0, .ref h11, .ref h12, .ref h13])), (h2, .inr (11, [.ref h14])), (h14, .inr (10, [.int 1, .int 20, .ref h15, .int 0]))] t) (va_A [(h0, .inr (12, [.ref h1, .int 0, .ref h2, .ref h3, .ref h4, .ref h5, .ref h6, .ref h7, .int (-1), .ref h8, .ref h9, .int 250, .ref h10, .int 0, .ref h11, .ref h12, .ref h13])), (h2, .inr (11, [.ref h14])), (h14, .inr (10, [.int 1, .int 20, .ref h15, .int 0]))] sz)) 0 0 (va_A [(h0, .inr (12, [.ref h1, .int 0, .ref h2, .ref h3, .ref h4, .ref h5, .ref h6, .ref h7, .int (-1), .ref h8, .ref h9, .int 250, .ref h10, .int 0, .ref h11, .ref h12, .ref h13])), (h2, .inr (11, [.ref h14])), (h14, .inr (10, [.int 1, .int 20, .ref h15, .int 0]))] sz) := by
  refine Met.ofW (cc := cX11_needPlace) (maxL := 2) (ret := none) (by decide) rfl ?_
  intro p e s m args below meth c s₁ B hml hv
  obtain ⟨rfl, hsz, hP, hD0, hE⟩ := hv
  have hx := B.exec
  have hb := B.bytes
  have hr := B.returns
  have hts := atoms_spec (ws := w9_X11_needPlace_5) B.pre
  have hown : s.vm.findClass RX11 = some m.cls := findClass_of_methodNamed B.named
  have hlocks := B.notSynchronized
  subst hsz
  have hD := hD0.self (sz := s.heap.size)
  generalize hAe : va_A [(h0, .inr (12, [.ref h1, .int 0, .ref h2, .ref h3, .ref h4, .ref h5, .ref h6, .ref h7, .int (-1), .ref h8, .ref h9, .int 250, .ref h10, .int 0, .ref h11, .ref h12, .ref h13])), (h2, .inr (11, [.ref h14])), (h14, .inr (10, [.int 1, .int 20, .ref h15, .int 0]))] s.heap.size = A at hD hE ⊢
  have hA : ∀ q : Nat, s.heap.size ≤ q → A q := fun q h => by rw [← hAe]; exact Or.inr h
  have hK := hE.1
  have hS : va_S A s.heap s.heap [] := va_S.rf
  replace hP : va_P g.1 vwCl [(h0, .inr (12, [.ref h1, .int 0, .ref h2, .ref h3, .ref h4, .ref h5, .ref h6, .ref h7, .int (-1), .ref h8, .ref h9, .int 250, .ref h10, .int 0, .ref h11, .ref h12, .ref h13])), (h2, .inr (11, [.ref h14])), (h14, .inr (10, [.int 1, .int 20, .ref h15, .int 0]))] s.heap := hP
  have hl := lv_entry ([.ref h0, .int 0]) (n := 2) (Nat.le_of_ble_eq_true rfl)
  rw [lg_entry_eq]
  generalize (lg_sl ([.ref h0, .int 0]) ++ List.replicate (2 - (lg_sl ([.ref h0, .int 0])).length) Slot.unset).toArray = ls at hl ⊢
  replace hl : lv_has ls 2 [(0, .ref h0), (1, .int 0)] := hl
  have hH0 : s.heap.size ≤ s.heap.size := Nat.le_refl _
  refine lv_iload_n hx hb dX11_needPlace_0 rfl (lv_at hl 1 rfl) ?_
  refine lv_if_lt (tgt := 15) hx hb dX11_needPlace_1 (by decide) (fun c9 => absurd c9 (by decide)) (fun _ => ?_)
  refine lv_iload_n hx hb dX11_needPlace_4 rfl (lv_at hl 1 rfl) ?_
  refine lv_aload_n hx hb dX11_needPlace_5 rfl (lv_at hl 0 rfl) ?_
  refine va_get (D := g.1) (ci := 12) (v := .ref h2) (C := RX11) (T := TX11) (N := 17) hx hb hts in9_X11_needPlace_5_RX11 hown hK hP 0 rfl rfl 2 (by decide) (hts (.fieldLink RX11 16 "Regexloom" "text" "LRegexloom$Text;") (List.mem_of_getElem? (i := 1) rfl)) (fun _ h9 => h9) rfl dX11_needPlace_6 ?_
  have hPc := hP.sub (ws' := [(h2, .inr (11, [.ref h14])), (h14, .inr (10, [.int 1, .int 20, .ref h15, .int 0]))]) [1, 2] rfl
  have hDc := hD.sub (ws' := [(h2, .inr (11, [.ref h14])), (h14, .inr (10, [.int 1, .int 20, .ref h15, .int 0]))]) [1, 2] (by decide) rfl
  have hFc := va_free (wc := [(h2, .inr (11, [.ref h14])), (h14, .inr (10, [.int 1, .int 20, .ref h15, .int 0]))]) hD hS hA [1, 2] rfl
  refine va_calli (va_runV (As := []) (rest := [.int 0]) ⟨hx, hb, hml, hown, hts⟩ (c9_X10_size_1 l g h2 h14 h15 _) (cwV 0 hts g9_X11_needPlace_5_0 rfl rfl rfl (by decide +kernel) ⟨Nat.le_of_ble_eq_true rfl, Nat.le_of_ble_eq_true rfl⟩) (mPreV (g := g) (wc := [(h2, .inr (11, [.ref h14])), (h14, .inr (10, [.int 1, .int 20, .ref h15, .int 0]))]) (C := RX10) (ci := 11) (q0 := 0) hE hS hPc hDc hFc rfl rfl) rfl rfl hl.1 rfl (lv_room (Nat.le_of_ble_eq_true rfl)) dX11_needPlace_9 ⟨Nat.le_of_ble_eq_true rfl, Nat.le_of_ble_eq_true rfl⟩) hS (fun q _ h => hFc q h) hFc (fun r_1 u t H1 locs ht hvm hw hB hz1 hk1 hS => ?_)
  replace hw : 0 = r_1 := Eq.symm hw
  subst hw
  obtain ⟨hP1, hD1⟩ := hB
  rw [ht] at hP1
  obtain ⟨hP, hD⟩ := va_join (wr := [(h0, .inr (12, [.ref h1, .int 0, .ref h2, .ref h3, .ref h4, .ref h5, .ref h6, .ref h7, .int (-1), .ref h8, .ref h9, .int 250, .ref h10, .int 0, .ref h11, .ref h12, .ref h13]))]) (w1 := [(h2, .inr (11, [.ref h14])), (h14, .inr (10, [.int 1, .int 20, .ref h15, .int 0]))]) hP hD [1, 2] [0] rfl rfl (by decide) (by decide) hk1 hFc hP1 hD1
  clear hP1 hD1 hPc hDc hFc hk1 hz1 hvm ht
  generalize H1 = H at hP hS ⊢
  have hP : va_P g.1 vwCl [(h0, .inr (12, [.ref h1, .int 0, .ref h2, .ref h3, .ref h4, .ref h5, .ref h6, .ref h7, .int (-1), .ref h8, .ref h9, .int 250, .ref h10, .int 0, .ref h11, .ref h12, .ref h13])), (h2, .inr (11, [.ref h14])), (h14, .inr (10, [.int 1, .int 20, .ref h15, .int 0]))] H := hP
  have hD : va_D A [(h0, .inr (12, [.ref h1, .int 0, .ref h2, .ref h3, .ref h4, .ref h5, .ref h6, .ref h7, .int (-1), .ref h8, .ref h9, .int 250, .ref h10, .int 0, .ref h11, .ref h12, .ref h13])), (h2, .inr (11, [.ref h14])), (h14, .inr (10, [.int 1, .int 20, .ref h15, .int 0]))] := hD
  refine lv_icmp_le (tgt := 26) hx hb dX11_needPlace_12 (by decide) (fun _ => ?_) (fun c9 => absurd (by decide) c9)
  have hP9 := hP.sub (ws' := [(h0, .inr (12, [.ref h1, .int 0, .ref h2, .ref h3, .ref h4, .ref h5, .ref h6, .ref h7, .int (-1), .ref h8, .ref h9, .int 250, .ref h10, .int 0, .ref h11, .ref h12, .ref h13])), (h2, .inr (11, [.ref h14])), (h14, .inr (10, [.int 1, .int 20, .ref h15, .int 0]))]) [0, 1, 2] rfl
  have hD9 := hD.sub (ws' := [(h0, .inr (12, [.ref h1, .int 0, .ref h2, .ref h3, .ref h4, .ref h5, .ref h6, .ref h7, .int (-1), .ref h8, .ref h9, .int 250, .ref h10, .int 0, .ref h11, .ref h12, .ref h13])), (h2, .inr (11, [.ref h14])), (h14, .inr (10, [.int 1, .int 20, .ref h15, .int 0]))]) [0, 1, 2] (by decide) rfl
  subst hAe
  exact W.vret hx hb hr (fun t ht hW => ⟨⟨(), rfl, trivial, by rw [ht]; exact hP9, hD9⟩, hS.F ht⟩) hS.2.2 dX11_needPlace_26
def w9_X11_which_3 : List Cond := [.code yX11_which cX11_which 4 (some .int), .methodLink RX11 180 yX11_needPlace, .instanceMethod yX11_needPlace, .selects RX11 yX11_needPlace yX11_needPlace, .initialized RX11, .code yX11_needPlace cX11_needPlace 2 none, .fieldLink RX11 16 "Regexloom" "text" "LRegexloom$Text;", .methodLink RX11 146 yX10_size, .instanceMethod yX10_size, .selects RX10 yX10_size yX10_size, .initialized RX10, .code yX10_size cX10_size 1 (some .int), .fieldLink RX10 14 "Regexloom$Text" "codes" "LRegexloom$Table;", .methodLink RX10 20 yX9_size, .instanceMethod yX9_size, .selects RX9 yX9_size yX9_size, .initialized RX9, .code yX9_size cX9_size 1 (some .int), .fieldLink RX9 28 "Regexloom$Table" "size" "I", .fieldLink RX11 22 "Regexloom" "patterns" "[LRegexloom$Pattern;", .fieldLink RX11 133 "Regexloom$Pattern" "isTold" "Z"] ++ (u_ws RX11 TX11 17 ++ u_ws RX10 TX10 1 ++ u_ws RX9 TX9 4 ++ u_ws RX3 TX3 8)
set_option maxRecDepth 20000 in
theorem in9_X11_which_3_RX11 : ∀ w ∈ u_ws RX11 TX11 17, w ∈ w9_X11_which_3 := by decide +kernel
set_option maxRecDepth 20000 in
theorem in9_X11_which_3_RX10 : ∀ w ∈ u_ws RX10 TX10 1, w ∈ w9_X11_which_3 := by decide +kernel
set_option maxRecDepth 20000 in
theorem in9_X11_which_3_RX9 : ∀ w ∈ u_ws RX9 TX9 4, w ∈ w9_X11_which_3 := by decide +kernel
set_option maxRecDepth 20000 in
theorem in9_X11_which_3_RX3 : ∀ w ∈ u_ws RX3 TX3 8, w ∈ w9_X11_which_3 := by decide +kernel
set_option maxRecDepth 20000 in
theorem g9_X11_which_3_0 : GoodIn w9_X11_which_3 (wsV RX11 180 RX11 yX11_needPlace w9_X11_needPlace_5) := goodIn_r _ [1, 2, 3, 4, 5, 6, 7, 8, 9, 10, 11, 12, 13, 14, 15, 16, 17, 18, 21, 22, 23, 24, 25, 26, 27, 28, 29, 30, 31, 32, 33, 34, 35, 36, 37, 38, 39, 40, 41, 42] (by decide +kernel) (by decide +kernel)
set_option maxHeartbeats 4000000 in
set_option maxRecDepth 100000 in
theorem c9_X11_which_3 (l : Launch) (g : G9) (h0 h1 h2 h3 h4 h5 h6 h7 h8 h9 h10 h11 h12 h13 h14 h15 h16 h17 h18 h19 h20 h21 h22 h23 h24 h25 h26 h27 h28 h29 h30 h31 sz : Nat) : Met l yX11_which w9_X11_which_3 ({ frames := 3, cells := 0, slots := 0, locals := 61 }) (mP g [(h0, .inr (12, [.ref h1, .int 0, .ref h2, .ref h3, .ref h4, .ref h5, .ref h6, .ref h7, .int (-1), .ref h8, .ref h9, .int 250, .ref h10, .int 0, .ref h11, .ref h12, .ref h13])), (h2, .inr (11, [.ref h14])), (h14, .inr (10, [.int 1, .int 20, .ref h15, .int 0])), (h3, .inl (g.2.1 3, 4, .inr (.inr (.inr (.inr (va_up (va_up (va_up (va_up (fun _ => none) 0 (some h16)) 1 (some h17)) 2 (some h18)) 3 (some h19))))))), (h16, .inr (6, [.ref h20, .ref h21, .ref h22, .int 0, .int 0, .int 0, .int 0, .int 0])), (h17, .inr (6, [.ref h23, .ref h24, .ref h25, .int 0, .int 0, .int 0, .int 0, .int 0])), (h18, .inr (6, [.ref h26, .ref h27, .ref h28, .int 0, .int 0, .int 0, .int 0, .int 0])), (h19, .inr (6, [.ref h29, .ref h30, .ref h31, .int 0, .int 0, .int 0, .int 0, .int 0]))] sz [.ref h0, .int 0]) (va_Qi (fun (r : Int32) (_ : Unit) => r = 0) (fun (_ : Unit) (t : State) => mB g [(h0, .inr (12, [.ref h1, .int 0, .ref h2, .ref h3, .ref h4, .ref h5, .ref h6, .ref h7, .int (-1), .ref h8, .ref h9, .int 250, .ref h10, .int 0, .ref h11, .ref h12, .ref h13])), (h2, .inr (11, [.ref h14])), (h14, .inr (10, [.int 1, .int 20, .ref h15, .int 0])), (h3, .inl (g.2.1 3, 4, .inr (.inr (.inr (.inr (va_up (va_up (va_up (va_up (fun _ => none) 0 (some h16)) 1 (some h17)) 2 (some h18)) 3 (some h19))))))), (h16, .inr (6, [.ref h20, .ref h21, .ref h22, .int 0, .int 0, .int 0, .int 0, .int 0])), (h17, .inr (6, [.ref h23, .ref h24, .ref h25, .int 0, .int 0, .int 0, .int 0, .int 0])), (h18, .inr (6, [.ref h26, .ref h27, .ref h28, .int 0, .int 0, .int 0, .int 0, .int 0])), (h19, .inr (6, [.ref h29, .ref h30, .ref h31, .int 0, .int 0, .int 0, .int 0, .int 0]))] sz [(h0, .inr (12, [.ref h1, .int 0, .ref h2, .ref h3, .ref h4, .ref h5, .ref h6, .ref h7, .int (-1), .ref h8, .ref h9, .int 250, .ref h10, .int 0, .ref h11, .ref h12, .ref h13])), (h2, .inr (11, [.ref h14])), (h14, .inr (10, [.int 1, .int 20, .ref h15, .int 0])), (h3, .inl (g.2.1 3, 4, .inr (.inr (.inr (.inr (va_up (va_up (va_up (va_up (fun _ => none) 0 (some h16)) 1 (some h17)) 2 (some h18)) 3 (some h19))))))), (h16, .inr (6, [.ref h20, .ref h21, .ref h22, .int 0, .int 0, .int 0, .int 0, .int 0])), (h17, .inr (6, [.ref h23, .ref h24, .ref h25, .int 0, .int 0, .int 0, .int 0, .int 0])), (h18, .inr (6, [.ref h26, .ref h27, .ref h28, .int 0, .int 0, .int 0, .int 0, .int 0])), (h19, .inr (6, [.ref h29, .ref h30, .ref h31, .int 0, .int 0, .int 0, .int 0, .int 0]))] t) (va_A [(h0, .inr (12, [.ref h1, .int 0, .ref h2, .ref h3, .ref h4, .ref h5, .ref h6, .ref h7, .int (-1), .ref h8, .ref h9, .int 250, .ref h10, .int 0, .ref h11, .ref h12, .ref h13])), (h2, .inr (11, [.ref h14])), (h14, .inr (10, [.int 1, .int 20, .ref h15, .int 0])), (h3, .inl (g.2.1 3, 4, .inr (.inr (.inr (.inr (va_up (va_up (va_up (va_up (fun _ => none) 0 (some h16)) 1 (some h17)) 2 (some h18)) 3 (some h19))))))), (h16, .inr (6, [.ref h20, .ref h21, .ref h22, .int 0, .int 0, .int 0, .int 0, .int 0])), (h17, .inr (6, [.ref h23, .ref h24, .ref h25, .int 0, .int 0, .int 0, .int 0, .int 0])), (h18, .inr (6, [.ref h26, .ref h27, .ref h28, .int 0, .int 0, .int 0, .int 0, .int 0])), (h19, .inr (6, [.ref h29, .ref h30, .ref h31, .int 0, .int 0, .int 0, .int 0, .int 0]))] sz)) 0 0 (va_A [(h0, .inr (12, [.ref h1, .int 0, .ref h2, .ref h3, .ref h4, .ref h5, .ref h6, .ref h7, .int (-1), .ref h8, .ref h9, .int 250, .ref h10, .int 0, .ref h11, .ref h12, .ref h13])), (h2, .inr (11, [.ref h14])), (h14, .inr (10, [.int 1, .int 20, .ref h15, .int 0])), (h3, .inl (g.2.1 3, 4, .inr (.inr (.inr (.inr (va_up (va_up (va_up (va_up (fun _ => none) 0 (some h16)) 1 (some h17)) 2 (some h18)) 3 (some h19))))))), (h16, .inr (6, [.ref h20, .ref h21, .ref h22, .int 0, .int 0, .int 0, .int 0, .int 0])), (h17, .inr (6, [.ref h23, .ref h24, .ref h25, .int 0, .int 0, .int 0, .int 0, .int 0])), (h18, .inr (6, [.ref h26, .ref h27, .ref h28, .int 0, .int 0, .int 0, .int 0, .int 0])), (h19, .inr (6, [.ref h29, .ref h30, .ref h31, .int 0, .int 0, .int 0, .int 0, .int 0]))] sz) := by
  refine Met.ofW (cc := cX11_which) (maxL := 4) (ret := (some .int)) (by decide) rfl ?_
  intro p e s m args below meth c s₁ B hml hv
  obtain ⟨rfl, hsz, hP, hD0, hE⟩ := hv
  have hx := B.exec
  have hb := B.bytes
  have hr := B.returns
  have hts := atoms_spec (ws := w9_X11_which_3) B.pre
  have hown : s.vm.findClass RX11 = some m.cls := findClass_of_methodNamed B.named
  have hlocks := B.notSynchronized
  subst hsz
  have hD := hD0.self (sz := s.heap.size)
  generalize hAe : va_A [(h0, .inr (12, [.ref h1, .int 0, .ref h2, .ref h3, .ref h4, .ref h5, .ref h6, .ref h7, .int (-1), .ref h8, .ref h9, .int 250, .ref h10, .int 0, .ref h11, .ref h12, .ref h13])), (h2, .inr (11, [.ref h14])), (h14, .inr (10, [.int 1, .int 20, .ref h15, .int 0])), (h3, .inl (g.2.1 3, 4, .inr (.inr (.inr (.inr (va_up (va_up (va_up (va_up (fun _ => none) 0 (some h16)) 1 (some h17)) 2 (some h18)) 3 (some h19))))))), (h16, .inr (6, [.ref h20, .ref h21, .ref h22, .int 0, .int 0, .int 0, .int 0, .int 0])), (h17, .inr (6, [.ref h23, .ref h24, .ref h25, .int 0, .int 0, .int 0, .int 0, .int 0])), (h18, .inr (6, [.ref h26, .ref h27, .ref h28, .int 0, .int 0, .int 0, .int 0, .int 0])), (h19, .inr (6, [.ref h29, .ref h30, .ref h31, .int 0, .int 0, .int 0, .int 0, .int 0]))] s.heap.size = A at hD hE ⊢
  have hA : ∀ q : Nat, s.heap.size ≤ q → A q := fun q h => by rw [← hAe]; exact Or.inr h
  have hK := hE.1
  have hS : va_S A s.heap s.heap [] := va_S.rf
  replace hP : va_P g.1 vwCl [(h0, .inr (12, [.ref h1, .int 0, .ref h2, .ref h3, .ref h4, .ref h5, .ref h6, .ref h7, .int (-1), .ref h8, .ref h9, .int 250, .ref h10, .int 0, .ref h11, .ref h12, .ref h13])), (h2, .inr (11, [.ref h14])), (h14, .inr (10, [.int 1, .int 20, .ref h15, .int 0])), (h3, .inl (g.2.1 3, 4, .inr (.inr (.inr (.inr (va_up (va_up (va_up (va_up (fun _ => none) 0 (some h16)) 1 (some h17)) 2 (some h18)) 3 (some h19))))))), (h16, .inr (6, [.ref h20, .ref h21, .ref h22, .int 0, .int 0, .int 0, .int 0, .int 0])), (h17, .inr (6, [.ref h23, .ref h24, .ref h25, .int 0, .int 0, .int 0, .int 0, .int 0])), (h18, .inr (6, [.ref h26, .ref h27, .ref h28, .int 0, .int 0, .int 0, .int 0, .int 0])), (h19, .inr (6, [.ref h29, .ref h30, .ref h31, .int 0, .int 0, .int 0, .int 0, .int 0]))] s.heap := hP
  have hl := lv_entry ([.ref h0, .int 0]) (n := 4) (Nat.le_of_ble_eq_true rfl)
  rw [lg_entry_eq]
  generalize (lg_sl ([.ref h0, .int 0]) ++ List.replicate (4 - (lg_sl ([.ref h0, .int 0])).length) Slot.unset).toArray = ls at hl ⊢
  replace hl : lv_has ls 4 [(0, .ref h0), (1, .int 0)] := hl
  have hH0 : s.heap.size ≤ s.heap.size := Nat.le_refl _
  refine lv_aload_n hx hb dX11_which_0 rfl (lv_at hl 0 rfl) ?_
  refine lv_iload_n hx hb dX11_which_1 rfl (lv_at hl 1 rfl) ?_
  have hPc := hP.sub (ws' := [(h0, .inr (12, [.ref h1, .int 0, .ref h2, .ref h3, .ref h4, .ref h5, .ref h6, .ref h7, .int (-1), .ref h8, .ref h9, .int 250, .ref h10, .int 0, .ref h11, .ref h12, .ref h13])), (h2, .inr (11, [.ref h14])), (h14, .inr (10, [.int 1, .int 20, .ref h15, .int 0]))]) [0, 1, 2] rfl
  have hDc := hD.sub (ws' := [(h0, .inr (12, [.ref h1, .int 0, .ref h2, .ref h3, .ref h4, .ref h5, .ref h6, .ref h7, .int (-1), .ref h8, .ref h9, .int 250, .ref h10, .int 0, .ref h11, .ref h12, .ref h13])), (h2, .inr (11, [.ref h14])), (h14, .inr (10, [.int 1, .int 20, .ref h15, .int 0]))]) [0, 1, 2] (by decide) rfl
  have hFc := va_free (wc := [(h0, .inr (12, [.ref h1, .int 0, .ref h2, .ref h3, .ref h4, .ref h5, .ref h6, .ref h7, .int (-1), .ref h8, .ref h9, .int 250, .ref h10, .int 0, .ref h11, .ref h12, .ref h13])), (h2, .inr (11, [.ref h14])), (h14, .inr (10, [.int 1, .int 20, .ref h15, .int 0]))]) hD hS hA [0, 1, 2] rfl
  refine va_callv (va_runV (As := [.int 0]) (rest := []) ⟨hx, hb, hml, hown, hts⟩ (c9_X11_needPlace_5 l g h0 h1 h2 h3 h4 h5 h6 h7 h8 h9 h10 h11 h12 h13 h14 h15 _) (cwV 1 hts g9_X11_which_3_0 rfl rfl rfl (by decide +kernel) ⟨Nat.le_of_ble_eq_true rfl, Nat.le_of_ble_eq_true rfl⟩) (mPreV (g := g) (wc := [(h0, .inr (12, [.ref h1, .int 0, .ref h2, .ref h3, .ref h4, .ref h5, .ref h6, .ref h7, .int (-1), .ref h8, .ref h9, .int 250, .ref h10, .int 0, .ref h11, .ref h12, .ref h13])), (h2, .inr (11, [.ref h14])), (h14, .inr (10, [.int 1, .int 20, .ref h15, .int 0]))]) (C := RX11) (ci := 12) (q0 := 0) hE hS hPc hDc hFc rfl rfl) rfl rfl hl.1 rfl (lv_room (Nat.le_of_ble_eq_true rfl)) dX11_which_2 ⟨Nat.le_of_ble_eq_true rfl, Nat.le_of_ble_eq_true rfl⟩) hS (fun q _ h => hFc q h) hFc (fun u t H1 locs ht hvm hw hB hz1 hk1 hS => ?_)
  obtain ⟨hP1, hD1⟩ := hB
  rw [ht] at hP1
  obtain ⟨hP, hD⟩ := va_join (wr := [(h3, .inl (g.2.1 3, 4, .inr (.inr (.inr (.inr (va_up (va_up (va_up (va_up (fun _ => none) 0 (some h16)) 1 (some h17)) 2 (some h18)) 3 (some h19))))))), (h16, .inr (6, [.ref h20, .ref h21, .ref h22, .int 0, .int 0, .int 0, .int 0, .int 0])), (h17, .inr (6, [.ref h23, .ref h24, .ref h25, .int 0, .int 0, .int 0, .int 0, .int 0])), (h18, .inr (6, [.ref h26, .ref h27, .ref h28, .int 0, .int 0, .int 0, .int 0, .int 0])), (h19, .inr (6, [.ref h29, .ref h30, .ref h31, .int 0, .int 0, .int 0, .int 0, .int 0]))]) (w1 := [(h0, .inr (12, [.ref h1, .int 0, .ref h2, .ref h3, .ref h4, .ref h5, .ref h6, .ref h7, .int (-1), .ref h8, .ref h9, .int 250, .ref h10, .int 0, .ref h11, .ref h12, .ref h13])), (h2, .inr (11, [.ref h14])), (h14, .inr (10, [.int 1, .int 20, .ref h15, .int 0]))]) hP hD [0, 1, 2] [3, 4, 5, 6, 7] rfl rfl (by decide) (by decide) hk1 hFc hP1 hD1
  clear hP1 hD1 hPc hDc hFc hk1 hz1 hvm ht
  generalize H1 = H at hP hS ⊢
  have hP : va_P g.1 vwCl [(h3, .inl (g.2.1 3, 4, .inr (.inr (.inr (.inr (va_up (va_up (va_up (va_up (fun _ => none) 0 (some h16)) 1 (some h17)) 2 (some h18)) 3 (some h19))))))), (h16, .inr (6, [.ref h20, .ref h21, .ref h22, .int 0, .int 0, .int 0, .int 0, .int 0])), (h17, .inr (6, [.ref h23, .ref h24, .ref h25, .int 0, .int 0, .int 0, .int 0, .int 0])), (h18, .inr (6, [.ref h26, .ref h27, .ref h28, .int 0, .int 0, .int 0, .int 0, .int 0])), (h19, .inr (6, [.ref h29, .ref h30, .ref h31, .int 0, .int 0, .int 0, .int 0, .int 0])), (h0, .inr (12, [.ref h1, .int 0, .ref h2, .ref h3, .ref h4, .ref h5, .ref h6, .ref h7, .int (-1), .ref h8, .ref h9, .int 250, .ref h10, .int 0, .ref h11, .ref h12, .ref h13])), (h2, .inr (11, [.ref h14])), (h14, .inr (10, [.int 1, .int 20, .ref h15, .int 0]))] H := hP
  have hD : va_D A [(h3, .inl (g.2.1 3, 4, .inr (.inr (.inr (.inr (va_up (va_up (va_up (va_up (fun _ => none) 0 (some h16)) 1 (some h17)) 2 (some h18)) 3 (some h19))))))), (h16, .inr (6, [.ref h20, .ref h21, .ref h22, .int 0, .int 0, .int 0, .int 0, .int 0])), (h17, .inr (6, [.ref h23, .ref h24, .ref h25, .int 0, .int 0, .int 0, .int 0, .int 0])), (h18, .inr (6, [.ref h26, .ref h27, .ref h28, .int 0, .int 0, .int 0, .int 0, .int 0])), (h19, .inr (6, [.ref h29, .ref h30, .ref h31, .int 0, .int 0, .int 0, .int 0, .int 0])), (h0, .inr (12, [.ref h1, .int 0, .ref h2, .ref h3, .ref h4, .ref h5, .ref h6, .ref h7, .int (-1), .ref h8, .ref h9, .int 250, .ref h10, .int 0, .ref h11, .ref h12, .ref h13])), (h2, .inr (11, [.ref h14])), (h14, .inr (10, [.int 1, .int 20, .ref h15, .int 0]))] := hD
  refine lv_iconst (v := 0) hx hb dX11_which_5 (by decide) ?_
  refine lv_istore_n (lv' := [(2, .int 0), (0, .ref h0), (1, .int 0)]) hx hb dX11_which_6 rfl hl (by decide) rfl (fun ls hl => ?_)
  refine lv_iconst (v := 0) hx hb dX11_which_7 (by decide) ?_
  refine lv_istore_n (lv' := [(3, .int 0), (2, .int 0), (0, .ref h0), (1, .int 0)]) hx hb dX11_which_8 rfl hl (by decide) rfl (fun ls hl => ?_)
  refine lv_iload_n hx hb dX11_which_9 rfl (lv_at hl 0 rfl) ?_
  refine lv_iconst (v := 4) hx hb dX11_which_10 (by decide) ?_
  refine lv_icmp_ge (tgt := 70) hx hb dX11_which_11 (by decide) (fun c9 => absurd c9 (by decide)) (fun _ => ?_)
  refine lv_aload_n hx hb dX11_which_14 rfl (lv_at hl 2 rfl) ?_
  refine va_get (D := g.1) (ci := 12) (v := .ref h3) (C := RX11) (T := TX11) (N := 17) hx hb hts in9_X11_which_3_RX11 hown hK hP 5 rfl rfl 3 (by decide) (hts (.fieldLink RX11 22 "Regexloom" "patterns" "[LRegexloom$Pattern;") (List.mem_of_getElem? (i := 19) rfl)) (fun _ h9 => h9) rfl dX11_which_15 ?_
  refine lv_iload_n hx hb dX11_which_18 rfl (lv_at hl 0 rfl) ?_
  refine va_aldq hx hb hK hP 0 3 rfl rfl (vp_in_nI (n := 0) (by decide) (by decide)) dX11_which_19 ?_
  refine e_topv (y := .ref h16) (by rfl) ?_
  refine va_get (D := g.1) (ci := 6) (v := .int 0) (C := RX3) (T := TX3) (N := 8) hx hb hts in9_X11_which_3_RX3 hown hK hP 1 rfl rfl 5 (by decide) (hts (.fieldLink RX11 133 "Regexloom$Pattern" "isTold" "Z") (List.mem_of_getElem? (i := 20) rfl)) (fun _ h9 => h9) rfl dX11_which_20 ?_
  refine lv_if_eq (tgt := 64) hx hb dX11_which_23 (by decide) (fun _ => ?_) (fun c9 => absurd (by decide) c9)
  refine lv_iinc (v := 1) (lv' := [(3, .int 1), (2, .int 0), (0, .ref h0), (1, .int 0)]) hx hb dX11_which_64 hl (k := 0) rfl (by decide) (by decide) rfl (fun ls hl => ?_)
  refine lv_goto (tgt := 9) hx hb dX11_which_67 (by decide) ?_
  refine lv_iload_n hx hb dX11_which_9 rfl (lv_at hl 0 rfl) ?_
  refine lv_iconst (v := 4) hx hb dX11_which_10 (by decide) ?_
  refine lv_icmp_ge (tgt := 70) hx hb dX11_which_11 (by decide) (fun c9 => absurd c9 (by decide)) (fun _ => ?_)
  refine lv_aload_n hx hb dX11_which_14 rfl (lv_at hl 2 rfl) ?_
  refine va_get (D := g.1) (ci := 12) (v := .ref h3) (C := RX11) (T := TX11) (N := 17) hx hb hts in9_X11_which_3_RX11 hown hK hP 5 rfl rfl 3 (by decide) (hts (.fieldLink RX11 22 "Regexloom" "patterns" "[LRegexloom$Pattern;") (List.mem_of_getElem? (i := 19) rfl)) (fun _ h9 => h9) rfl dX11_which_15 ?_
  refine lv_iload_n hx hb dX11_which_18 rfl (lv_at hl 0 rfl) ?_
  refine va_aldq hx hb hK hP 0 3 rfl rfl (vp_in_nI (n := 1) (by decide) (by decide)) dX11_which_19 ?_
  refine e_topv (y := .ref h17) (by rfl) ?_
  refine va_get (D := g.1) (ci := 6) (v := .int 0) (C := RX3) (T := TX3) (N := 8) hx hb hts in9_X11_which_3_RX3 hown hK hP 2 rfl rfl 5 (by decide) (hts (.fieldLink RX11 133 "Regexloom$Pattern" "isTold" "Z") (List.mem_of_getElem? (i := 20) rfl)) (fun _ h9 => h9) rfl dX11_which_20 ?_
  refine lv_if_eq (tgt := 64) hx hb dX11_which_23 (by decide) (fun _ => ?_) (fun c9 => absurd (by decide) c9)
  refine lv_iinc (v := 2) (lv' := [(3, .int 2), (2, .int 0), (0, .ref h0), (1, .int 0)]) hx hb dX11_which_64 hl (k := 0) rfl (by decide) (by decide) rfl (fun ls hl => ?_)
  refine lv_goto (tgt := 9) hx hb dX11_which_67 (by decide) ?_
  refine lv_iload_n hx hb dX11_which_9 rfl (lv_at hl 0 rfl) ?_
  refine lv_iconst (v := 4) hx hb dX11_which_10 (by decide) ?_
  refine lv_icmp_ge (tgt := 70) hx hb dX11_which_11 (by decide) (fun c9 => absurd c9 (by decide)) (fun _ => ?_)
  refine lv_aload_n hx hb dX11_which_14 rfl (lv_at hl 2 rfl) ?_
  refine va_get (D := g.1) (ci := 12) (v := .ref h3) (C := RX11) (T := TX11) (N := 17) hx hb hts in9_X11_which_3_RX11 hown hK hP 5 rfl rfl 3 (by decide) (hts (.fieldLink RX11 22 "Regexloom" "patterns" "[LRegexloom$Pattern;") (List.mem_of_getElem? (i := 19) rfl)) (fun _ h9 => h9) rfl dX11_which_15 ?_
  refine lv_iload_n hx hb dX11_which_18 rfl (lv_at hl 0 rfl) ?_
  refine va_aldq hx hb hK hP 0 3 rfl rfl (vp_in_nI (n := 2) (by decide) (by decide)) dX11_which_19 ?_
  refine e_topv (y := .ref h18) (by rfl) ?_
  refine va_get (D := g.1) (ci := 6) (v := .int 0) (C := RX3) (T := TX3) (N := 8) hx hb hts in9_X11_which_3_RX3 hown hK hP 3 rfl rfl 5 (by decide) (hts (.fieldLink RX11 133 "Regexloom$Pattern" "isTold" "Z") (List.mem_of_getElem? (i := 20) rfl)) (fun _ h9 => h9) rfl dX11_which_20 ?_
  refine lv_if_eq (tgt := 64) hx hb dX11_which_23 (by decide) (fun _ => ?_) (fun c9 => absurd (by decide) c9)
  refine lv_iinc (v := 3) (lv' := [(3, .int 3), (2, .int 0), (0, .ref h0), (1, .int 0)]) hx hb dX11_which_64 hl (k := 0) rfl (by decide) (by decide) rfl (fun ls hl => ?_)
  refine lv_goto (tgt := 9) hx hb dX11_which_67 (by decide) ?_
  refine lv_iload_n hx hb dX11_which_9 rfl (lv_at hl 0 rfl) ?_
  refine lv_iconst (v := 4) hx hb dX11_which_10 (by decide) ?_
  refine lv_icmp_ge (tgt := 70) hx hb dX11_which_11 (by decide) (fun c9 => absurd c9 (by decide)) (fun _ => ?_)
  refine lv_aload_n hx hb dX11_which_14 rfl (lv_at hl 2 rfl) ?_
  refine va_get (D := g.1) (ci := 12) (v := .ref h3) (C := RX11) (T := TX11) (N := 17) hx hb hts in9_X11_which_3_RX11 hown hK hP 5 rfl rfl 3 (by decide) (hts (.fieldLink RX11 22 "Regexloom" "patterns" "[LRegexloom$Pattern;") (List.mem_of_getElem? (i := 19) rfl)) (fun _ h9 => h9) rfl dX11_which_15 ?_
  refine lv_iload_n hx hb dX11_which_18 rfl (lv_at hl 0 rfl) ?_
  refine va_aldq hx hb hK hP 0 3 rfl rfl (vp_in_nI (n := 3) (by decide) (by decide)) dX11_which_19 ?_
  refine e_topv (y := .ref h19) (by rfl) ?_
  refine va_get (D := g.1) (ci := 6) (v := .int 0) (C := RX3) (T := TX3) (N := 8) hx hb hts in9_X11_which_3_RX3 hown hK hP 4 rfl rfl 5 (by decide) (hts (.fieldLink RX11 133 "Regexloom$Pattern" "isTold" "Z") (List.mem_of_getElem? (i := 20) rfl)) (fun _ h9 => h9) rfl dX11_which_20 ?_
  refine lv_if_eq (tgt := 64) hx hb dX11_which_23 (by decide) (fun _ => ?_) (fun c9 => absurd (by decide) c9)
  refine lv_iinc (v := 4) (lv' := [(3, .int 4), (2, .int 0), (0, .ref h0), (1, .int 0)]) hx hb dX11_which_64 hl (k := 0) rfl (by decide) (by decide) rfl (fun ls hl => ?_)
  refine lv_goto (tgt := 9) hx hb dX11_which_67 (by decide) ?_
  refine lv_iload_n hx hb dX11_which_9 rfl (lv_at hl 0 rfl) ?_
  refine lv_iconst (v := 4) hx hb dX11_which_10 (by decide) ?_
  refine lv_icmp_ge (tgt := 70) hx hb dX11_which_11 (by decide) (fun _ => ?_) (fun c9 => absurd (by decide) c9)
  refine lv_iload_n hx hb dX11_which_70 rfl (lv_at hl 1 rfl) ?_
  have hP9 := hP.sub (ws' := [(h0, .inr (12, [.ref h1, .int 0, .ref h2, .ref h3, .ref h4, .ref h5, .ref h6, .ref h7, .int (-1), .ref h8, .ref h9, .int 250, .ref h10, .int 0, .ref h11, .ref h12, .ref h13])), (h2, .inr (11, [.ref h14])), (h14, .inr (10, [.int 1, .int 20, .ref h15, .int 0])), (h3, .inl (g.2.1 3, 4, .inr (.inr (.inr (.inr (va_up (va_up (va_up (va_up (fun _ => none) 0 (some h16)) 1 (some h17)) 2 (some h18)) 3 (some h19))))))), (h16, .inr (6, [.ref h20, .ref h21, .ref h22, .int 0, .int 0, .int 0, .int 0, .int 0])), (h17, .inr (6, [.ref h23, .ref h24, .ref h25, .int 0, .int 0, .int 0, .int 0, .int 0])), (h18, .inr (6, [.ref h26, .ref h27, .ref h28, .int 0, .int 0, .int 0, .int 0, .int 0])), (h19, .inr (6, [.ref h29, .ref h30, .ref h31, .int 0, .int 0, .int 0, .int 0, .int 0]))]) [5, 6, 7, 0, 1, 2, 3, 4] rfl
  have hD9 := hD.sub (ws' := [(h0, .inr (12, [.ref h1, .int 0, .ref h2, .ref h3, .ref h4, .ref h5, .ref h6, .ref h7, .int (-1), .ref h8, .ref h9, .int 250, .ref h10, .int 0, .ref h11, .ref h12, .ref h13])), (h2, .inr (11, [.ref h14])), (h14, .inr (10, [.int 1, .int 20, .ref h15, .int 0])), (h3, .inl (g.2.1 3, 4, .inr (.inr (.inr (.inr (va_up (va_up (va_up (va_up (fun _ => none) 0 (some h16)) 1 (some h17)) 2 (some h18)) 3 (some h19))))))), (h16, .inr (6, [.ref h20, .ref h21, .ref h22, .int 0, .int 0, .int 0, .int 0, .int 0])), (h17, .inr (6, [.ref h23, .ref h24, .ref h25, .int 0, .int 0, .int 0, .int 0, .int 0])), (h18, .inr (6, [.ref h26, .ref h27, .ref h28, .int 0, .int 0, .int 0, .int 0, .int 0])), (h19, .inr (6, [.ref h29, .ref h30, .ref h31, .int 0, .int 0, .int 0, .int 0, .int 0]))]) [5, 6, 7, 0, 1, 2, 3, 4] (by decide) rfl
  subst hAe
  exact W.iret (v := 0) hx hb hr (fun t ht hW => ⟨⟨0, (), rfl, rfl, by rw [ht]; exact hP9, hD9⟩, hS.F ht⟩) hS.2.2 dX11_which_71
def w9_L_which_3 : List Cond := [.codeWith yL_which cL_which 4 (some .int) [(0, 9, 12, 21)], .methodLink RL 58 yX11_which, .instanceMethod yX11_which, .selects RX11 yX11_which yX11_which, .initialized RX11, .code yX11_which cX11_which 4 (some .int), .methodLink RX11 180 yX11_needPlace, .instanceMethod yX11_needPlace, .selects RX11 yX11_needPlace yX11_needPlace, .code yX11_needPlace cX11_needPlace 2 none, .fieldLink RX11 16 "Regexloom" "text" "LRegexloom$Text;", .methodLink RX11 146 yX10_size, .instanceMethod yX10_size, .selects RX10 yX10_size yX10_size, .initialized RX10, .code yX10_size cX10_size 1 (some .int), .fieldLink RX10 14 "Regexloom$Text" "codes" "LRegexloom$Table;", .methodLink RX10 20 yX9_size, .instanceMethod yX9_size, .selects RX9 yX9_size yX9_size, .initialized RX9, .code yX9_size cX9_size 1 (some .int), .fieldLink RX9 28 "Regexloom$Table" "size" "I", .fieldLink RX11 22 "Regexloom" "patterns" "[LRegexloom$Pattern;", .fieldLink RX11 133 "Regexloom$Pattern" "isTold" "Z"] ++ (u_ws RX11 TX11 17 ++ u_ws RX10 TX10 1 ++ u_ws RX9 TX9 4 ++ u_ws RX3 TX3 8)
set_option maxRecDepth 20000 in
theorem in9_L_which_3_RX11 : ∀ w ∈ u_ws RX11 TX11 17, w ∈ w9_L_which_3 := by decide +kernel
set_option maxRecDepth 20000 in
theorem in9_L_which_3_RX10 : ∀ w ∈ u_ws RX10 TX10 1, w ∈ w9_L_which_3 := by decide +kernel
set_option maxRecDepth 20000 in
theorem in9_L_which_3_RX9 : ∀ w ∈ u_ws RX9 TX9 4, w ∈ w9_L_which_3 := by decide +kernel
set_option maxRecDepth 20000 in
theorem in9_L_which_3_RX3 : ∀ w ∈ u_ws RX3 TX3 8, w ∈ w9_L_which_3 := by decide +kernel
set_option maxRecDepth 20000 in
theorem g9_L_which_3_0 : GoodIn w9_L_which_3 (wsV RL 58 RX11 yX11_which w9_X11_which_3) := goodIn_r _ [1, 2, 3, 4, 5, 6, 7, 8, 4, 9, 10, 11, 12, 13, 14, 15, 16, 17, 18, 19, 20, 21, 22, 23, 24, 25, 26, 27, 28, 29, 30, 31, 32, 33, 34, 35, 36, 37, 38, 39, 40, 41, 42, 43, 44, 45, 46, 47, 48, 49, 50, 51, 52, 53, 54] (by decide +kernel) (by decide +kernel)
set_option maxHeartbeats 4000000 in
set_option maxRecDepth 100000 in
theorem c9_L_which_3 (l : Launch) (g : G9) (h0 h1 h2 h3 h4 h5 h6 h7 h8 h9 h10 h11 h12 h13 h14 h15 h16 h17 h18 h19 h20 h21 h22 h23 h24 h25 h26 h27 h28 h29 h30 h31 h32 sz : Nat) (f0 : Nat → Int64) : Met l yL_which w9_L_which_3 ({ frames := 4, cells := 0, slots := 0, locals := 84 }) (mP g [(h0, .inr (12, [.ref h2, .int 0, .ref h3, .ref h4, .ref h5, .ref h6, .ref h7, .ref h8, .int (-1), .ref h9, .ref h10, .int 250, .ref h11, .int 0, .ref h12, .ref h13, .ref h14])), (h3, .inr (11, [.ref h15])), (h15, .inr (10, [.int 1, .int 20, .ref h16, .int 0])), (h4, .inl (g.2.1 3, 4, .inr (.inr (.inr (.inr (va_up (va_up (va_up (va_up (fun _ => none) 0 (some h17)) 1 (some h18)) 2 (some h19)) 3 (some h20))))))), (h17, .inr (6, [.ref h21, .ref h22, .ref h23, .int 0, .int 0, .int 0, .int 0, .int 0])), (h18, .inr (6, [.ref h24, .ref h25, .ref h26, .int 0, .int 0, .int 0, .int 0, .int 0])), (h19, .inr (6, [.ref h27, .ref h28, .ref h29, .int 0, .int 0, .int 0, .int 0, .int 0])), (h20, .inr (6, [.ref h30, .ref h31, .ref h32, .int 0, .int 0, .int 0, .int 0, .int 0])), (h1, .inl (g.2.1 2, 1, .inr (.inl f0)))] sz [.ref h0, .int 0, .ref h1]) (va_Qi (fun (r : Int32) (_ : Unit) => r = 0) (fun (_ : Unit) (t : State) => mB g [(h0, .inr (12, [.ref h2, .int 0, .ref h3, .ref h4, .ref h5, .ref h6, .ref h7, .ref h8, .int (-1), .ref h9, .ref h10, .int 250, .ref h11, .int 0, .ref h12, .ref h13, .ref h14])), (h3, .inr (11, [.ref h15])), (h15, .inr (10, [.int 1, .int 20, .ref h16, .int 0])), (h4, .inl (g.2.1 3, 4, .inr (.inr (.inr (.inr (va_up (va_up (va_up (va_up (fun _ => none) 0 (some h17)) 1 (some h18)) 2 (some h19)) 3 (some h20))))))), (h17, .inr (6, [.ref h21, .ref h22, .ref h23, .int 0, .int 0, .int 0, .int 0, .int 0])), (h18, .inr (6, [.ref h24, .ref h25, .ref h26, .int 0, .int 0, .int 0, .int 0, .int 0])), (h19, .inr (6, [.ref h27, .ref h28, .ref h29, .int 0, .int 0, .int 0, .int 0, .int 0])), (h20, .inr (6, [.ref h30, .ref h31, .ref h32, .int 0, .int 0, .int 0, .int 0, .int 0])), (h1, .inl (g.2.1 2, 1, .inr (.inl f0)))] sz [(h0, .inr (12, [.ref h2, .int 0, .ref h3, .ref h4, .ref h5, .ref h6, .ref h7, .ref h8, .int (-1), .ref h9, .ref h10, .int 250, .ref h11, .int 0, .ref h12, .ref h13, .ref h14])), (h3, .inr (11, [.ref h15])), (h15, .inr (10, [.int 1, .int 20, .ref h16, .int 0])), (h4, .inl (g.2.1 3, 4, .inr (.inr (.inr (.inr (va_up (va_up (va_up (va_up (fun _ => none) 0 (some h17)) 1 (some h18)) 2 (some h19)) 3 (some h20))))))), (h17, .inr (6, [.ref h21, .ref h22, .ref h23, .int 0, .int 0, .int 0, .int 0, .int 0])), (h18, .inr (6, [.ref h24, .ref h25, .ref h26, .int 0, .int 0, .int 0, .int 0, .int 0])), (h19, .inr (6, [.ref h27, .ref h28, .ref h29, .int 0, .int 0, .int 0, .int 0, .int 0])), (h20, .inr (6, [.ref h30, .ref h31, .ref h32, .int 0, .int 0, .int 0, .int 0, .int 0])), (h1, .inl (g.2.1 2, 1, .inr (.inl (vp_updL f0 0 0))))] t) (va_A [(h0, .inr (12, [.ref h2, .int 0, .ref h3, .ref h4, .ref h5, .ref h6, .ref h7, .ref h8, .int (-1), .ref h9, .ref h10, .int 250, .ref h11, .int 0, .ref h12, .ref h13, .ref h14])), (h3, .inr (11, [.ref h15])), (h15, .inr (10, [.int 1, .int 20, .ref h16, .int 0])), (h4, .inl (g.2.1 3, 4, .inr (.inr (.inr (.inr (va_up (va_up (va_up (va_up (fun _ => none) 0 (some h17)) 1 (some h18)) 2 (some h19)) 3 (some h20))))))), (h17, .inr (6, [.ref h21, .ref h22, .ref h23, .int 0, .int 0, .int 0, .int 0, .int 0])), (h18, .inr (6, [.ref h24, .ref h25, .ref h26, .int 0, .int 0, .int 0, .int 0, .int 0])), (h19, .inr (6, [.ref h27, .ref h28, .ref h29, .int 0, .int 0, .int 0, .int 0, .int 0])), (h20, .inr (6, [.ref h30, .ref h31, .ref h32, .int 0, .int 0, .int 0, .int 0, .int 0])), (h1, .inl (g.2.1 2, 1, .inr (.inl f0)))] sz)) 0 0 (va_A [(h0, .inr (12, [.ref h2, .int 0, .ref h3, .ref h4, .ref h5, .ref h6, .ref h7, .ref h8, .int (-1), .ref h9, .ref h10, .int 250, .ref h11, .int 0, .ref h12, .ref h13, .ref h14])), (h3, .inr (11, [.ref h15])), (h15, .inr (10, [.int 1, .int 20, .ref h16, .int 0])), (h4, .inl (g.2.1 3, 4, .inr (.inr (.inr (.inr (va_up (va_up (va_up (va_up (fun _ => none) 0 (some h17)) 1 (some h18)) 2 (some h19)) 3 (some h20))))))), (h17, .inr (6, [.ref h21, .ref h22, .ref h23, .int 0, .int 0, .int 0, .int 0, .int 0])), (h18, .inr (6, [.ref h24, .ref h25, .ref h26, .int 0, .int 0, .int 0, .int 0, .int 0])), (h19, .inr (6, [.ref h27, .ref h28, .ref h29, .int 0, .int 0, .int 0, .int 0, .int 0])), (h20, .inr (6, [.ref h30, .ref h31, .ref h32, .int 0, .int 0, .int 0, .int 0, .int 0])), (h1, .inl (g.2.1 2, 1, .inr (.inl f0)))] sz) := by
  refine va_MetW (cc := cL_which) (maxL := 4) (ret := (some .int)) (by decide) rfl ?_
  intro p e s m args below meth c s₁ B hml hv
  obtain ⟨rfl, hsz, hP, hD0, hE⟩ := hv
  have hx := B.exec
  have hb := B.bytes
  have hr := B.returns
  have hts := atoms_spec (ws := w9_L_which_3) B.pre
  have hown : s.vm.findClass RL = some m.cls := findClass_of_methodNamed B.named
  have hlocks := B.notSynchronized
  have htab := vx_table (x := yL_which) B (hts (.codeWith yL_which cL_which 4 (some .int) [(0, 9, 12, 21)]) (List.mem_of_getElem? (i := 0) rfl))
  subst hsz
  have hD := hD0.self (sz := s.heap.size)
  generalize hAe : va_A [(h0, .inr (12, [.ref h2, .int 0, .ref h3, .ref h4, .ref h5, .ref h6, .ref h7, .ref h8, .int (-1), .ref h9, .ref h10, .int 250, .ref h11, .int 0, .ref h12, .ref h13, .ref h14])), (h3, .inr (11, [.ref h15])), (h15, .inr (10, [.int 1, .int 20, .ref h16, .int 0])), (h4, .inl (g.2.1 3, 4, .inr (.inr (.inr (.inr (va_up (va_up (va_up (va_up (fun _ => none) 0 (some h17)) 1 (some h18)) 2 (some h19)) 3 (some h20))))))), (h17, .inr (6, [.ref h21, .ref h22, .ref h23, .int 0, .int 0, .int 0, .int 0, .int 0])), (h18, .inr (6, [.ref h24, .ref h25, .ref h26, .int 0, .int 0, .int 0, .int 0, .int 0])), (h19, .inr (6, [.ref h27, .ref h28, .ref h29, .int 0, .int 0, .int 0, .int 0, .int 0])), (h20, .inr (6, [.ref h30, .ref h31, .ref h32, .int 0, .int 0, .int 0, .int 0, .int 0])), (h1, .inl (g.2.1 2, 1, .inr (.inl f0)))] s.heap.size = A at hD hE ⊢
  have hA : ∀ q : Nat, s.heap.size ≤ q → A q := fun q h => by rw [← hAe]; exact Or.inr h
  have hK := hE.1
  have hS : va_S A s.heap s.heap [] := va_S.rf
  replace hP : va_P g.1 vwCl [(h0, .inr (12, [.ref h2, .int 0, .ref h3, .ref h4, .ref h5, .ref h6, .ref h7, .ref h8, .int (-1), .ref h9, .ref h10, .int 250, .ref h11, .int 0, .ref h12, .ref h13, .ref h14])), (h3, .inr (11, [.ref h15])), (h15, .inr (10, [.int 1, .int 20, .ref h16, .int 0])), (h4, .inl (g.2.1 3, 4, .inr (.inr (.inr (.inr (va_up (va_up (va_up (va_up (fun _ => none) 0 (some h17)) 1 (some h18)) 2 (some h19)) 3 (some h20))))))), (h17, .inr (6, [.ref h21, .ref h22, .ref h23, .int 0, .int 0, .int 0, .int 0, .int 0])), (h18, .inr (6, [.ref h24, .ref h25, .ref h26, .int 0, .int 0, .int 0, .int 0, .int 0])), (h19, .inr (6, [.ref h27, .ref h28, .ref h29, .int 0, .int 0, .int 0, .int 0, .int 0])), (h20, .inr (6, [.ref h30, .ref h31, .ref h32, .int 0, .int 0, .int 0, .int 0, .int 0])), (h1, .inl (g.2.1 2, 1, .inr (.inl f0)))] s.heap := hP
  have hl := lv_entry ([.ref h0, .int 0, .ref h1]) (n := 4) (Nat.le_of_ble_eq_true rfl)
  rw [lg_entry_eq]
  generalize (lg_sl ([.ref h0, .int 0, .ref h1]) ++ List.replicate (4 - (lg_sl ([.ref h0, .int 0, .ref h1])).length) Slot.unset).toArray = ls at hl ⊢
  replace hl : lv_has ls 4 [(0, .ref h0), (1, .int 0), (2, .ref h1)] := hl
  have hH0 : s.heap.size ≤ s.heap.size := Nat.le_refl _
  refine lv_aload_n hx hb dL_which_0 rfl (lv_at hl 2 rfl) ?_
  refine lv_iconst (v := 0) hx hb dL_which_1 (by decide) ?_
  refine lv_aload_n hx hb dL_which_2 rfl (lv_at hl 0 rfl) ?_
  refine lv_iload_n hx hb dL_which_3 rfl (lv_at hl 1 rfl) ?_
  have hPc := hP.sub (ws' := [(h0, .inr (12, [.ref h2, .int 0, .ref h3, .ref h4, .ref h5, .ref h6, .ref h7, .ref h8, .int (-1), .ref h9, .ref h10, .int 250, .ref h11, .int 0, .ref h12, .ref h13, .ref h14])), (h3, .inr (11, [.ref h15])), (h15, .inr (10, [.int 1, .int 20, .ref h16, .int 0])), (h4, .inl (g.2.1 3, 4, .inr (.inr (.inr (.inr (va_up (va_up (va_up (va_up (fun _ => none) 0 (some h17)) 1 (some h18)) 2 (some h19)) 3 (some h20))))))), (h17, .inr (6, [.ref h21, .ref h22, .ref h23, .int 0, .int 0, .int 0, .int 0, .int 0])), (h18, .inr (6, [.ref h24, .ref h25, .ref h26, .int 0, .int 0, .int 0, .int 0, .int 0])), (h19, .inr (6, [.ref h27, .ref h28, .ref h29, .int 0, .int 0, .int 0, .int 0, .int 0])), (h20, .inr (6, [.ref h30, .ref h31, .ref h32, .int 0, .int 0, .int 0, .int 0, .int 0]))]) [0, 1, 2, 3, 4, 5, 6, 7] rfl
  have hDc := hD.sub (ws' := [(h0, .inr (12, [.ref h2, .int 0, .ref h3, .ref h4, .ref h5, .ref h6, .ref h7, .ref h8, .int (-1), .ref h9, .ref h10, .int 250, .ref h11, .int 0, .ref h12, .ref h13, .ref h14])), (h3, .inr (11, [.ref h15])), (h15, .inr (10, [.int 1, .int 20, .ref h16, .int 0])), (h4, .inl (g.2.1 3, 4, .inr (.inr (.inr (.inr (va_up (va_up (va_up (va_up (fun _ => none) 0 (some h17)) 1 (some h18)) 2 (some h19)) 3 (some h20))))))), (h17, .inr (6, [.ref h21, .ref h22, .ref h23, .int 0, .int 0, .int 0, .int 0, .int 0])), (h18, .inr (6, [.ref h24, .ref h25, .ref h26, .int 0, .int 0, .int 0, .int 0, .int 0])), (h19, .inr (6, [.ref h27, .ref h28, .ref h29, .int 0, .int 0, .int 0, .int 0, .int 0])), (h20, .inr (6, [.ref h30, .ref h31, .ref h32, .int 0, .int 0, .int 0, .int 0, .int 0]))]) [0, 1, 2, 3, 4, 5, 6, 7] (by decide) rfl
  have hFc := va_free (wc := [(h0, .inr (12, [.ref h2, .int 0, .ref h3, .ref h4, .ref h5, .ref h6, .ref h7, .ref h8, .int (-1), .ref h9, .ref h10, .int 250, .ref h11, .int 0, .ref h12, .ref h13, .ref h14])), (h3, .inr (11, [.ref h15])), (h15, .inr (10, [.int 1, .int 20, .ref h16, .int 0])), (h4, .inl (g.2.1 3, 4, .inr (.inr (.inr (.inr (va_up (va_up (va_up (va_up (fun _ => none) 0 (some h17)) 1 (some h18)) 2 (some h19)) 3 (some h20))))))), (h17, .inr (6, [.ref h21, .ref h22, .ref h23, .int 0, .int 0, .int 0, .int 0, .int 0])), (h18, .inr (6, [.ref h24, .ref h25, .ref h26, .int 0, .int 0, .int 0, .int 0, .int 0])), (h19, .inr (6, [.ref h27, .ref h28, .ref h29, .int 0, .int 0, .int 0, .int 0, .int 0])), (h20, .inr (6, [.ref h30, .ref h31, .ref h32, .int 0, .int 0, .int 0, .int 0, .int 0]))]) hD hS hA [0, 1, 2, 3, 4, 5, 6, 7] rfl
  refine va_calli (va_runV (As := [.int 0]) (rest := [.int 0, .ref h1]) ⟨hx, hb, hml, hown, hts⟩ (c9_X11_which_3 l g h0 h2 h3 h4 h5 h6 h7 h8 h9 h10 h11 h12 h13 h14 h15 h16 h17 h18 h19 h20 h21 h22 h23 h24 h25 h26 h27 h28 h29 h30 h31 h32 _) (cwV 1 hts g9_L_which_3_0 rfl rfl rfl (by decide +kernel) ⟨Nat.le_of_ble_eq_true rfl, Nat.le_of_ble_eq_true rfl⟩) (mPreV (g := g) (wc := [(h0, .inr (12, [.ref h2, .int 0, .ref h3, .ref h4, .ref h5, .ref h6, .ref h7, .ref h8, .int (-1), .ref h9, .ref h10, .int 250, .ref h11, .int 0, .ref h12, .ref h13, .ref h14])), (h3, .inr (11, [.ref h15])), (h15, .inr (10, [.int 1, .int 20, .ref h16, .int 0])), (h4, .inl (g.2.1 3, 4, .inr (.inr (.inr (.inr (va_up (va_up (va_up (va_up (fun _ => none) 0 (some h17)) 1 (some h18)) 2 (some h19)) 3 (some h20))))))), (h17, .inr (6, [.ref h21, .ref h22, .ref h23, .int 0, .int 0, .int 0, .int 0, .int 0])), (h18, .inr (6, [.ref h24, .ref h25, .ref h26, .int 0, .int 0, .int 0, .int 0, .int 0])), (h19, .inr (6, [.ref h27, .ref h28, .ref h29, .int 0, .int 0, .int 0, .int 0, .int 0])), (h20, .inr (6, [.ref h30, .ref h31, .ref h32, .int 0, .int 0, .int 0, .int 0, .int 0]))]) (C := RX11) (ci := 12) (q0 := 0) hE hS hPc hDc hFc rfl rfl) rfl rfl hl.1 rfl (lv_room (Nat.le_of_ble_eq_true rfl)) dL_which_4 ⟨Nat.le_of_ble_eq_true rfl, Nat.le_of_ble_eq_true rfl⟩) hS (fun q _ h => hFc q h) hFc (fun r_1 u t H1 locs ht hvm hw hB hz1 hk1 hS => ?_)
  replace hw : 0 = r_1 := Eq.symm hw
  subst hw
  obtain ⟨hP1, hD1⟩ := hB
  rw [ht] at hP1
  obtain ⟨hP, hD⟩ := va_join (wr := [(h1, .inl (g.2.1 2, 1, .inr (.inl f0)))]) (w1 := [(h0, .inr (12, [.ref h2, .int 0, .ref h3, .ref h4, .ref h5, .ref h6, .ref h7, .ref h8, .int (-1), .ref h9, .ref h10, .int 250, .ref h11, .int 0, .ref h12, .ref h13, .ref h14])), (h3, .inr (11, [.ref h15])), (h15, .inr (10, [.int 1, .int 20, .ref h16, .int 0])), (h4, .inl (g.2.1 3, 4, .inr (.inr (.inr (.inr (va_up (va_up (va_up (va_up (fun _ => none) 0 (some h17)) 1 (some h18)) 2 (some h19)) 3 (some h20))))))), (h17, .inr (6, [.ref h21, .ref h22, .ref h23, .int 0, .int 0, .int 0, .int 0, .int 0])), (h18, .inr (6, [.ref h24, .ref h25, .ref h26, .int 0, .int 0, .int 0, .int 0, .int 0])), (h19, .inr (6, [.ref h27, .ref h28, .ref h29, .int 0, .int 0, .int 0, .int 0, .int 0])), (h20, .inr (6, [.ref h30, .ref h31, .ref h32, .int 0, .int 0, .int 0, .int 0, .int 0]))]) hP hD [0, 1, 2, 3, 4, 5, 6, 7] [8] rfl rfl (by decide) (by decide) hk1 hFc hP1 hD1
  clear hP1 hD1 hPc hDc hFc hk1 hz1 hvm ht
  generalize H1 = H at hP hS ⊢
  have hP : va_P g.1 vwCl [(h1, .inl (g.2.1 2, 1, .inr (.inl f0))), (h0, .inr (12, [.ref h2, .int 0, .ref h3, .ref h4, .ref h5, .ref h6, .ref h7, .ref h8, .int (-1), .ref h9, .ref h10, .int 250, .ref h11, .int 0, .ref h12, .ref h13, .ref h14])), (h3, .inr (11, [.ref h15])), (h15, .inr (10, [.int 1, .int 20, .ref h16, .int 0])), (h4, .inl (g.2.1 3, 4, .inr (.inr (.inr (.inr (va_up (va_up (va_up (va_up (fun _ => none) 0 (some h17)) 1 (some h18)) 2 (some h19)) 3 (some h20))))))), (h17, .inr (6, [.ref h21, .ref h22, .ref h23, .int 0, .int 0, .int 0, .int 0, .int 0])), (h18, .inr (6, [.ref h24, .ref h25, .ref h26, .int 0, .int 0, .int 0, .int 0, .int 0])), (h19, .inr (6, [.ref h27, .ref h28, .ref h29, .int 0, .int 0, .int 0, .int 0, .int 0])), (h20, .inr (6, [.ref h30, .ref h31, .ref h32, .int 0, .int 0, .int 0, .int 0, .int 0]))] H := hP
  have hD : va_D A [(h1, .inl (g.2.1 2, 1, .inr (.inl f0))), (h0, .inr (12, [.ref h2, .int 0, .ref h3, .ref h4, .ref h5, .ref h6, .ref h7, .ref h8, .int (-1), .ref h9, .ref h10, .int 250, .ref h11, .int 0, .ref h12, .ref h13, .ref h14])), (h3, .inr (11, [.ref h15])), (h15, .inr (10, [.int 1, .int 20, .ref h16, .int 0])), (h4, .inl (g.2.1 3, 4, .inr (.inr (.inr (.inr (va_up (va_up (va_up (va_up (fun _ => none) 0 (some h17)) 1 (some h18)) 2 (some h19)) 3 (some h20))))))), (h17, .inr (6, [.ref h21, .ref h22, .ref h23, .int 0, .int 0, .int 0, .int 0, .int 0])), (h18, .inr (6, [.ref h24, .ref h25, .ref h26, .int 0, .int 0, .int 0, .int 0, .int 0])), (h19, .inr (6, [.ref h27, .ref h28, .ref h29, .int 0, .int 0, .int 0, .int 0, .int 0])), (h20, .inr (6, [.ref h30, .ref h31, .ref h32, .int 0, .int 0, .int 0, .int 0, .int 0]))] := hD
  refine lv_i2l (v := 0) hx hb dL_which_7 (by decide) ?_
  refine va_last hx hb hK hP hD hS 0 2 rfl rfl (vp_in_nI (n := 0) (by decide) (by decide)) dL_which_8 (fun H locs hP hD hS => ?_)
  have hP : va_P g.1 vwCl [(h1, .inl (g.2.1 2, 1, .inr (.inl (vp_updL f0 0 0)))), (h0, .inr (12, [.ref h2, .int 0, .ref h3, .ref h4, .ref h5, .ref h6, .ref h7, .ref h8, .int (-1), .ref h9, .ref h10, .int 250, .ref h11, .int 0, .ref h12, .ref h13, .ref h14])), (h3, .inr (11, [.ref h15])), (h15, .inr (10, [.int 1, .int 20, .ref h16, .int 0])), (h4, .inl (g.2.1 3, 4, .inr (.inr (.inr (.inr (va_up (va_up (va_up (va_up (fun _ => none) 0 (some h17)) 1 (some h18)) 2 (some h19)) 3 (some h20))))))), (h17, .inr (6, [.ref h21, .ref h22, .ref h23, .int 0, .int 0, .int 0, .int 0, .int 0])), (h18, .inr (6, [.ref h24, .ref h25, .ref h26, .int 0, .int 0, .int 0, .int 0, .int 0])), (h19, .inr (6, [.ref h27, .ref h28, .ref h29, .int 0, .int 0, .int 0, .int 0, .int 0])), (h20, .inr (6, [.ref h30, .ref h31, .ref h32, .int 0, .int 0, .int 0, .int 0, .int 0]))] H := hP
  have hD : va_D A [(h1, .inl (g.2.1 2, 1, .inr (.inl (vp_updL f0 0 0)))), (h0, .inr (12, [.ref h2, .int 0, .ref h3, .ref h4, .ref h5, .ref h6, .ref h7, .ref h8, .int (-1), .ref h9, .ref h10, .int 250, .ref h11, .int 0, .ref h12, .ref h13, .ref h14])), (h3, .inr (11, [.ref h15])), (h15, .inr (10, [.int 1, .int 20, .ref h16, .int 0])), (h4, .inl (g.2.1 3, 4, .inr (.inr (.inr (.inr (va_up (va_up (va_up (va_up (fun _ => none) 0 (some h17)) 1 (some h18)) 2 (some h19)) 3 (some h20))))))), (h17, .inr (6, [.ref h21, .ref h22, .ref h23, .int 0, .int 0, .int 0, .int 0, .int 0])), (h18, .inr (6, [.ref h24, .ref h25, .ref h26, .int 0, .int 0, .int 0, .int 0, .int 0])), (h19, .inr (6, [.ref h27, .ref h28, .ref h29, .int 0, .int 0, .int 0, .int 0, .int 0])), (h20, .inr (6, [.ref h30, .ref h31, .ref h32, .int 0, .int 0, .int 0, .int 0, .int 0]))] := hD
  refine lv_goto (tgt := 15) hx hb dL_which_9 (by decide) ?_
  refine lv_iconst (v := 0) hx hb dL_which_15 (by decide) ?_
  have hP9 := hP.sub (ws' := [(h0, .inr (12, [.ref h2, .int 0, .ref h3, .ref h4, .ref h5, .ref h6, .ref h7, .ref h8, .int (-1), .ref h9, .ref h10, .int 250, .ref h11, .int 0, .ref h12, .ref h13, .ref h14])), (h3, .inr (11, [.ref h15])), (h15, .inr (10, [.int 1, .int 20, .ref h16, .int 0])), (h4, .inl (g.2.1 3, 4, .inr (.inr (.inr (.inr (va_up (va_up (va_up (va_up (fun _ => none) 0 (some h17)) 1 (some h18)) 2 (some h19)) 3 (some h20))))))), (h17, .inr (6, [.ref h21, .ref h22, .ref h23, .int 0, .int 0, .int 0, .int 0, .int 0])), (h18, .inr (6, [.ref h24, .ref h25, .ref h26, .int 0, .int 0, .int 0, .int 0, .int 0])), (h19, .inr (6, [.ref h27, .ref h28, .ref h29, .int 0, .int 0, .int 0, .int 0, .int 0])), (h20, .inr (6, [.ref h30, .ref h31, .ref h32, .int 0, .int 0, .int 0, .int 0, .int 0])), (h1, .inl (g.2.1 2, 1, .inr (.inl (vp_updL f0 0 0))))]) [1, 2, 3, 4, 5, 6, 7, 8, 0] rfl
  have hD9 := hD.sub (ws' := [(h0, .inr (12, [.ref h2, .int 0, .ref h3, .ref h4, .ref h5, .ref h6, .ref h7, .ref h8, .int (-1), .ref h9, .ref h10, .int 250, .ref h11, .int 0, .ref h12, .ref h13, .ref h14])), (h3, .inr (11, [.ref h15])), (h15, .inr (10, [.int 1, .int 20, .ref h16, .int 0])), (h4, .inl (g.2.1 3, 4, .inr (.inr (.inr (.inr (va_up (va_up (va_up (va_up (fun _ => none) 0 (some h17)) 1 (some h18)) 2 (some h19)) 3 (some h20))))))), (h17, .inr (6, [.ref h21, .ref h22, .ref h23, .int 0, .int 0, .int 0, .int 0, .int 0])), (h18, .inr (6, [.ref h24, .ref h25, .ref h26, .int 0, .int 0, .int 0, .int 0, .int 0])), (h19, .inr (6, [.ref h27, .ref h28, .ref h29, .int 0, .int 0, .int 0, .int 0, .int 0])), (h20, .inr (6, [.ref h30, .ref h31, .ref h32, .int 0, .int 0, .int 0, .int 0, .int 0])), (h1, .inl (g.2.1 2, 1, .inr (.inl (vp_updL f0 0 0))))]) [1, 2, 3, 4, 5, 6, 7, 8, 0] (by decide) rfl
  subst hAe
  exact W.iret (v := 0) hx hb hr (fun t ht hW => ⟨⟨0, (), rfl, rfl, by rw [ht]; exact hP9, hD9⟩, hS.F ht⟩) hS.2.2 dL_which_16
def w9_X21_which_3 : List Cond := [.codeWith yX21_which cX21_which 5 (some .int) [(40, 74, 77, 208)], .fieldLink RX21 196 "RegexloomModel" "length" "I", .methodLink RX21 160 yX21_in, .static yX21_in, .initialized RX21, .code yX21_in cX21_in 3 (some .boolean), .methodLink RX21 154 yX21_refused, .instanceMethod yX21_refused, .selects RX21 yX21_refused yX21_refused, .code yX21_refused cX21_refused 2 (some .boolean), .fieldLink RX21 144 "RegexloomModel" "refusal" "I", .fieldLink RX21 205 "RegexloomModel" "trials" "I", .fieldLink RX21 90 "RegexloomModel" "patterns" "[LRegexloomModel$Pattern;"] ++ (u_ws RX21 TX21 32)
set_option maxRecDepth 20000 in
theorem in9_X21_which_3_RX21 : ∀ w ∈ u_ws RX21 TX21 32, w ∈ w9_X21_which_3 := by decide +kernel
set_option maxRecDepth 20000 in
theorem g9_X21_which_3_0 : GoodIn w9_X21_which_3 (va_wsS RX21 160 yX21_in w9_X21_in_13) := goodIn_r _ [2, 3, 4, 5] (by decide +kernel) (by decide +kernel)
set_option maxRecDepth 20000 in
theorem g9_X21_which_3_1 : GoodIn w9_X21_which_3 (wsV RX21 154 RX21 yX21_refused w9_X21_refused_1) := goodIn_r _ [6, 7, 8, 4, 9, 10, 13, 14, 15, 16, 17, 18, 19, 20, 21, 22, 23, 24, 25, 26, 27, 28, 29, 30, 31, 32, 33, 34, 35, 36, 37, 38, 39, 40, 41, 42, 43, 44] (by decide +kernel) (by decide +kernel)
set_option maxHeartbeats 4000000 in
set_option maxRecDepth 100000 in
theorem c9_X21_which_3 (l : Launch) (g : G9) (h0 h1 h2 h3 h4 h5 h6 h7 h8 h9 h10 h11 h12 h13 h14 h15 h16 sz : Nat) : Met l yX21_which w9_X21_which_3 ({ frames := 1, cells := 0, slots := 0, locals := 22 }) (mP g [(h0, .inr (22, [.int 0, .ref h1, .int 0, .ref h2, .int 0, .ref h3, .int 250, .ref h4, .int 0, .ref h5, .ref h6, .ref h7, .int 0, .ref h8, .ref h9, .ref h10, .int 0, .null, .int 0, .null, .int 0, .int 0, .int 0, .ref h11, .int 0, .ref h12, .ref h13, .ref h14, .int 0, .ref h15, .ref h16, .int 0])), (h3, .inl (g.2.1 4, 4, .inr (.inr (.inr (.inr (fun _ => none))))))] sz [.ref h0, .int 0]) (va_Qi (fun (r : Int32) (_ : Unit) => r = 0) (fun (_ : Unit) (t : State) => mB g [(h0, .inr (22, [.int 0, .ref h1, .int 0, .ref h2, .int 0, .ref h3, .int 250, .ref h4, .int 0, .ref h5, .ref h6, .ref h7, .int 0, .ref h8, .ref h9, .ref h10, .int 0, .null, .int 0, .null, .int 0, .int 0, .int 0, .ref h11, .int 0, .ref h12, .ref h13, .ref h14, .int 0, .ref h15, .ref h16, .int 0])), (h3, .inl (g.2.1 4, 4, .inr (.inr (.inr (.inr (fun _ => none))))))] sz [(h0, .inr (22, [.int 0, .ref h1, .int 0, .ref h2, .int 0, .ref h3, .int 250, .ref h4, .int 0, .ref h5, .ref h6, .ref h7, .int 0, .ref h8, .ref h9, .ref h10, .int 0, .null, .int 0, .null, .int 0, .int 0, .int 0, .ref h11, .int 0, .ref h12, .ref h13, .ref h14, .int 0, .ref h15, .ref h16, .int 0])), (h3, .inl (g.2.1 4, 4, .inr (.inr (.inr (.inr (fun _ => none))))))] t) (va_A [(h0, .inr (22, [.int 0, .ref h1, .int 0, .ref h2, .int 0, .ref h3, .int 250, .ref h4, .int 0, .ref h5, .ref h6, .ref h7, .int 0, .ref h8, .ref h9, .ref h10, .int 0, .null, .int 0, .null, .int 0, .int 0, .int 0, .ref h11, .int 0, .ref h12, .ref h13, .ref h14, .int 0, .ref h15, .ref h16, .int 0])), (h3, .inl (g.2.1 4, 4, .inr (.inr (.inr (.inr (fun _ => none))))))] sz)) 0 0 (va_A [(h0, .inr (22, [.int 0, .ref h1, .int 0, .ref h2, .int 0, .ref h3, .int 250, .ref h4, .int 0, .ref h5, .ref h6, .ref h7, .int 0, .ref h8, .ref h9, .ref h10, .int 0, .null, .int 0, .null, .int 0, .int 0, .int 0, .ref h11, .int 0, .ref h12, .ref h13, .ref h14, .int 0, .ref h15, .ref h16, .int 0])), (h3, .inl (g.2.1 4, 4, .inr (.inr (.inr (.inr (fun _ => none))))))] sz) := by
  refine va_MetW (cc := cX21_which) (maxL := 5) (ret := (some .int)) (by decide) rfl ?_
  intro p e s m args below meth c s₁ B hml hv
  obtain ⟨rfl, hsz, hP, hD0, hE⟩ := hv
  have hx := B.exec
  have hb := B.bytes
  have hr := B.returns
  have hts := atoms_spec (ws := w9_X21_which_3) B.pre
  have hown : s.vm.findClass RX21 = some m.cls := findClass_of_methodNamed B.named
  have hlocks := B.notSynchronized
  have htab := vx_table (x := yX21_which) B (hts (.codeWith yX21_which cX21_which 5 (some .int) [(40, 74, 77, 208)]) (List.mem_of_getElem? (i := 0) rfl))
  subst hsz
  have hD := hD0.self (sz := s.heap.size)
  generalize hAe : va_A [(h0, .inr (22, [.int 0, .ref h1, .int 0, .ref h2, .int 0, .ref h3, .int 250, .ref h4, .int 0, .ref h5, .ref h6, .ref h7, .int 0, .ref h8, .ref h9, .ref h10, .int 0, .null, .int 0, .null, .int 0, .int 0, .int 0, .ref h11, .int 0, .ref h12, .ref h13, .ref h14, .int 0, .ref h15, .ref h16, .int 0])), (h3, .inl (g.2.1 4, 4, .inr (.inr (.inr (.inr (fun _ => none))))))] s.heap.size = A at hD hE ⊢
  have hA : ∀ q : Nat, s.heap.size ≤ q → A q := fun q h => by rw [← hAe]; exact Or.inr h
  have hK := hE.1
  have hS : va_S A s.heap s.heap [] := va_S.rf
  replace hP : va_P g.1 vwCl [(h0, .inr (22, [.int 0, .ref h1, .int 0, .ref h2, .int 0, .ref h3, .int 250, .ref h4, .int 0, .ref h5, .ref h6, .ref h7, .int 0, .ref h8, .ref h9, .ref h10, .int 0, .null, .int 0, .null, .int 0, .int 0, .int 0, .ref h11, .int 0, .ref h12, .ref h13, .ref h14, .int 0, .ref h15, .ref h16, .int 0])), (h3, .inl (g.2.1 4, 4, .inr (.inr (.inr (.inr (fun _ => none))))))] s.heap := hP
  have hl := lv_entry ([.ref h0, .int 0]) (n := 5) (Nat.le_of_ble_eq_true rfl)
  rw [lg_entry_eq]
  generalize (lg_sl ([.ref h0, .int 0]) ++ List.replicate (5 - (lg_sl ([.ref h0, .int 0])).length) Slot.unset).toArray = ls at hl ⊢
  replace hl : lv_has ls 5 [(0, .ref h0), (1, .int 0)] := hl
  have hH0 : s.heap.size ≤ s.heap.size := Nat.le_refl _
  refine lv_aload_n hx hb dX21_which_0 rfl (lv_at hl 0 rfl) ?_
  refine lv_iload_n hx hb dX21_which_1 rfl (lv_at hl 1 rfl) ?_
  refine lv_iconst (v := 0) hx hb dX21_which_2 (by decide) ?_
  refine lv_aload_n hx hb dX21_which_3 rfl (lv_at hl 0 rfl) ?_
  refine va_get (D := g.1) (ci := 22) (v := .int 0) (C := RX21) (T := TX21) (N := 32) hx hb hts in9_X21_which_3_RX21 hown hK hP 0 rfl rfl 4 (by decide) (hts (.fieldLink RX21 196 "RegexloomModel" "length" "I") (List.mem_of_getElem? (i := 1) rfl)) (fun _ h9 => h9) rfl dX21_which_4 ?_
  have hPc := hP.sub (ws' := []) [] rfl
  have hDc := hD.sub (ws' := []) [] (by decide) rfl
  have hFc := va_free (wc := []) hD hS hA [] rfl
  refine va_calli (va_runS (As := [.int 0, .int 0, .int 0]) (rest := [.ref h0]) ⟨hx, hb, hml, hown, hts⟩ (c9_X21_in_13 l g _) (va_cwS 3 hts g9_X21_which_3_0 rfl rfl rfl (by decide +kernel) ⟨Nat.le_of_ble_eq_true rfl, Nat.le_of_ble_eq_true rfl⟩) (mPreS (g := g) (wc := []) hE hS hPc hDc hFc) rfl rfl hl.1 rfl (lv_room (Nat.le_of_ble_eq_true rfl)) dX21_which_7 ⟨Nat.le_of_ble_eq_true rfl, Nat.le_of_ble_eq_true rfl⟩) hS (fun q _ h => hFc q h) hFc (fun r_1 u t H1 locs ht hvm hw hB hz1 hk1 hS => ?_)
  replace hw : 1 = r_1 := Eq.symm hw
  subst hw
  obtain ⟨hP1, hD1⟩ := hB
  rw [ht] at hP1
  obtain ⟨hP, hD⟩ := va_join (wr := [(h0, .inr (22, [.int 0, .ref h1, .int 0, .ref h2, .int 0, .ref h3, .int 250, .ref h4, .int 0, .ref h5, .ref h6, .ref h7, .int 0, .ref h8, .ref h9, .ref h10, .int 0, .null, .int 0, .null, .int 0, .int 0, .int 0, .ref h11, .int 0, .ref h12, .ref h13, .ref h14, .int 0, .ref h15, .ref h16, .int 0])), (h3, .inl (g.2.1 4, 4, .inr (.inr (.inr (.inr (fun _ => none))))))]) (w1 := []) hP hD [] [0, 1] rfl rfl (by decide) (by decide) hk1 hFc hP1 hD1
  clear hP1 hD1 hPc hDc hFc hk1 hz1 hvm ht
  generalize H1 = H at hP hS ⊢
  have hP : va_P g.1 vwCl [(h0, .inr (22, [.int 0, .ref h1, .int 0, .ref h2, .int 0, .ref h3, .int 250, .ref h4, .int 0, .ref h5, .ref h6, .ref h7, .int 0, .ref h8, .ref h9, .ref h10, .int 0, .null, .int 0, .null, .int 0, .int 0, .int 0, .ref h11, .int 0, .ref h12, .ref h13, .ref h14, .int 0, .ref h15, .ref h16, .int 0])), (h3, .inl (g.2.1 4, 4, .inr (.inr (.inr (.inr (fun _ => none))))))] H := hP
  have hD : va_D A [(h0, .inr (22, [.int 0, .ref h1, .int 0, .ref h2, .int 0, .ref h3, .int 250, .ref h4, .int 0, .ref h5, .ref h6, .ref h7, .int 0, .ref h8, .ref h9, .ref h10, .int 0, .null, .int 0, .null, .int 0, .int 0, .int 0, .ref h11, .int 0, .ref h12, .ref h13, .ref h14, .int 0, .ref h15, .ref h16, .int 0])), (h3, .inl (g.2.1 4, 4, .inr (.inr (.inr (.inr (fun _ => none))))))] := hD
  refine lv_if_eq (tgt := 17) hx hb dX21_which_10 (by decide) (fun c9 => absurd c9 (by decide)) (fun _ => ?_)
  refine lv_iconst (v := 0) hx hb dX21_which_13 (by decide) ?_
  refine lv_goto (tgt := 18) hx hb dX21_which_14 (by decide) ?_
  have hPc := hP.sub (ws' := [(h0, .inr (22, [.int 0, .ref h1, .int 0, .ref h2, .int 0, .ref h3, .int 250, .ref h4, .int 0, .ref h5, .ref h6, .ref h7, .int 0, .ref h8, .ref h9, .ref h10, .int 0, .null, .int 0, .null, .int 0, .int 0, .int 0, .ref h11, .int 0, .ref h12, .ref h13, .ref h14, .int 0, .ref h15, .ref h16, .int 0]))]) [0] rfl
  have hDc := hD.sub (ws' := [(h0, .inr (22, [.int 0, .ref h1, .int 0, .ref h2, .int 0, .ref h3, .int 250, .ref h4, .int 0, .ref h5, .ref h6, .ref h7, .int 0, .ref h8, .ref h9, .ref h10, .int 0, .null, .int 0, .null, .int 0, .int 0, .int 0, .ref h11, .int 0, .ref h12, .ref h13, .ref h14, .int 0, .ref h15, .ref h16, .int 0]))]) [0] (by decide) rfl
  have hFc := va_free (wc := [(h0, .inr (22, [.int 0, .ref h1, .int 0, .ref h2, .int 0, .ref h3, .int 250, .ref h4, .int 0, .ref h5, .ref h6, .ref h7, .int 0, .ref h8, .ref h9, .ref h10, .int 0, .null, .int 0, .null, .int 0, .int 0, .int 0, .ref h11, .int 0, .ref h12, .ref h13, .ref h14, .int 0, .ref h15, .ref h16, .int 0]))]) hD hS hA [0] rfl
  refine va_calli (va_runV (As := [.int 0]) (rest := []) ⟨hx, hb, hml, hown, hts⟩ (c9_X21_refused_1 l g h0 h1 h2 h3 h4 h5 h6 h7 h8 h9 h10 h11 h12 h13 h14 h15 h16 _) (cwV 1 hts g9_X21_which_3_1 rfl rfl rfl (by decide +kernel) ⟨Nat.le_of_ble_eq_true rfl, Nat.le_of_ble_eq_true rfl⟩) (mPreV (g := g) (wc := [(h0, .inr (22, [.int 0, .ref h1, .int 0, .ref h2, .int 0, .ref h3, .int 250, .ref h4, .int 0, .ref h5, .ref h6, .ref h7, .int 0, .ref h8, .ref h9, .ref h10, .int 0, .null, .int 0, .null, .int 0, .int 0, .int 0, .ref h11, .int 0, .ref h12, .ref h13, .ref h14, .int 0, .ref h15, .ref h16, .int 0]))]) (C := RX21) (ci := 22) (q0 := 0) hE hS hPc hDc hFc rfl rfl) rfl rfl hl.1 rfl (lv_room (Nat.le_of_ble_eq_true rfl)) dX21_which_18 ⟨Nat.le_of_ble_eq_true rfl, Nat.le_of_ble_eq_true rfl⟩) hS (fun q _ h => hFc q h) hFc (fun r_2 u t H1 locs ht hvm hw hB hz1 hk1 hS => ?_)
  replace hw : 0 = r_2 := Eq.symm hw
  subst hw
  obtain ⟨hP1, hD1⟩ := hB
  rw [ht] at hP1
  obtain ⟨hP, hD⟩ := va_join (wr := [(h3, .inl (g.2.1 4, 4, .inr (.inr (.inr (.inr (fun _ => none))))))]) (w1 := [(h0, .inr (22, [.int 0, .ref h1, .int 0, .ref h2, .int 0, .ref h3, .int 250, .ref h4, .int 0, .ref h5, .ref h6, .ref h7, .int 0, .ref h8, .ref h9, .ref h10, .int 0, .null, .int 0, .null, .int 0, .int 0, .int 0, .ref h11, .int 0, .ref h12, .ref h13, .ref h14, .int 0, .ref h15, .ref h16, .int 0]))]) hP hD [0] [1] rfl rfl (by decide) (by decide) hk1 hFc hP1 hD1
  clear hP1 hD1 hPc hDc hFc hk1 hz1 hvm ht
  generalize H1 = H at hP hS ⊢
  have hP : va_P g.1 vwCl [(h3, .inl (g.2.1 4, 4, .inr (.inr (.inr (.inr (fun _ => none)))))), (h0, .inr (22, [.int 0, .ref h1, .int 0, .ref h2, .int 0, .ref h3, .int 250, .ref h4, .int 0, .ref h5, .ref h6, .ref h7, .int 0, .ref h8, .ref h9, .ref h10, .int 0, .null, .int 0, .null, .int 0, .int 0, .int 0, .ref h11, .int 0, .ref h12, .ref h13, .ref h14, .int 0, .ref h15, .ref h16, .int 0]))] H := hP
  have hD : va_D A [(h3, .inl (g.2.1 4, 4, .inr (.inr (.inr (.inr (fun _ => none)))))), (h0, .inr (22, [.int 0, .ref h1, .int 0, .ref h2, .int 0, .ref h3, .int 250, .ref h4, .int 0, .ref h5, .ref h6, .ref h7, .int 0, .ref h8, .ref h9, .ref h10, .int 0, .null, .int 0, .null, .int 0, .int 0, .int 0, .ref h11, .int 0, .ref h12, .ref h13, .ref h14, .int 0, .ref h15, .ref h16, .int 0]))] := hD
  refine lv_if_eq (tgt := 26) hx hb dX21_which_21 (by decide) (fun _ => ?_) (fun c9 => absurd (by decide) c9)
  refine lv_iconst (v := 0) hx hb dX21_which_26 (by decide) ?_
  refine lv_istore_n (lv' := [(2, .int 0), (0, .ref h0), (1, .int 0)]) hx hb dX21_which_27 rfl hl (by decide) rfl (fun ls hl => ?_)
  refine lv_iconst (v := 0) hx hb dX21_which_28 (by decide) ?_
  refine lv_istore_n (lv' := [(3, .int 0), (2, .int 0), (0, .ref h0), (1, .int 0)]) hx hb dX21_which_29 rfl hl (by decide) rfl (fun ls hl => ?_)
  refine lv_iload_n hx hb dX21_which_30 rfl (lv_at hl 0 rfl) ?_
  refine lv_iconst (v := 4) hx hb dX21_which_31 (by decide) ?_
  refine lv_icmp_ge (tgt := 89) hx hb dX21_which_32 (by decide) (fun c9 => absurd c9 (by decide)) (fun _ => ?_)
  refine lv_aload_n hx hb dX21_which_35 rfl (lv_at hl 2 rfl) ?_
  refine lv_iconst (v := 0) hx hb dX21_which_36 (by decide) ?_
  refine va_put (D := g.1) (ci := 22) (v := .int 0) (ty := .int) (C := RX21) (T := TX21) (N := 32) hx hb hts in9_X21_which_3_RX21 tyX21 tyX21_ok nmX21 hown hK hP hD hS 1 rfl rfl 20 (by decide) (hts (.fieldLink RX21 205 "RegexloomModel" "trials" "I") (List.mem_of_getElem? (i := 11) rfl)) (fun _ h9 => h9) rfl (by decide +kernel) rfl rfl (Nat.le_of_ble_eq_true rfl) dX21_which_37 (fun H locs hP hD hS => ?_)
  have hP : va_P g.1 vwCl [(h3, .inl (g.2.1 4, 4, .inr (.inr (.inr (.inr (fun _ => none)))))), (h0, .inr (22, [.int 0, .ref h1, .int 0, .ref h2, .int 0, .ref h3, .int 250, .ref h4, .int 0, .ref h5, .ref h6, .ref h7, .int 0, .ref h8, .ref h9, .ref h10, .int 0, .null, .int 0, .null, .int 0, .int 0, .int 0, .ref h11, .int 0, .ref h12, .ref h13, .ref h14, .int 0, .ref h15, .ref h16, .int 0]))] H := hP
  have hD : va_D A [(h3, .inl (g.2.1 4, 4, .inr (.inr (.inr (.inr (fun _ => none)))))), (h0, .inr (22, [.int 0, .ref h1, .int 0, .ref h2, .int 0, .ref h3, .int 250, .ref h4, .int 0, .ref h5, .ref h6, .ref h7, .int 0, .ref h8, .ref h9, .ref h10, .int 0, .null, .int 0, .null, .int 0, .int 0, .int 0, .ref h11, .int 0, .ref h12, .ref h13, .ref h14, .int 0, .ref h15, .ref h16, .int 0]))] := hD
  refine lv_iload_n hx hb dX21_which_40 rfl (lv_at hl 1 rfl) ?_
  refine lv_aload_n hx hb dX21_which_41 rfl (lv_at hl 2 rfl) ?_
  refine va_get (D := g.1) (ci := 22) (v := .ref h3) (C := RX21) (T := TX21) (N := 32) hx hb hts in9_X21_which_3_RX21 hown hK hP 1 rfl rfl 5 (by decide) (hts (.fieldLink RX21 90 "RegexloomModel" "patterns" "[LRegexloomModel$Pattern;") (List.mem_of_getElem? (i := 12) rfl)) (fun _ h9 => h9) rfl dX21_which_42 ?_
  refine lv_iload_n hx hb dX21_which_45 rfl (lv_at hl 0 rfl) ?_
  refine va_aldq hx hb hK hP 0 4 rfl rfl (vp_in_nI (n := 0) (by decide) (by decide)) dX21_which_46 ?_
  refine e_topv (y := .null) (by rfl) ?_
  refine lv_ifnullN hx hb dX21_which_47 (tgt := 71) (by decide) ?_
  refine lv_iconst (v := 0) hx hb dX21_which_71 (by decide) ?_
  refine lv_ior hx hb dX21_which_72 ?_
  refine e_top (y := 0) (by decide) ?_
  refine lv_istore_n (lv' := [(2, .int 0), (3, .int 0), (0, .ref h0), (1, .int 0)]) hx hb dX21_which_73 rfl hl (by decide) rfl (fun ls hl => ?_)
  refine lv_goto (tgt := 83) hx hb dX21_which_74 (by decide) ?_
  refine lv_iinc (v := 1) (lv' := [(3, .int 1), (2, .int 0), (0, .ref h0), (1, .int 0)]) hx hb dX21_which_83 hl (k := 1) rfl (by decide) (by decide) rfl (fun ls hl => ?_)
  refine lv_goto (tgt := 30) hx hb dX21_which_86 (by decide) ?_
  refine lv_iload_n hx hb dX21_which_30 rfl (lv_at hl 0 rfl) ?_
  refine lv_iconst (v := 4) hx hb dX21_which_31 (by decide) ?_
  refine lv_icmp_ge (tgt := 89) hx hb dX21_which_32 (by decide) (fun c9 => absurd c9 (by decide)) (fun _ => ?_)
  refine lv_aload_n hx hb dX21_which_35 rfl (lv_at hl 2 rfl) ?_
  refine lv_iconst (v := 0) hx hb dX21_which_36 (by decide) ?_
  refine va_put (D := g.1) (ci := 22) (v := .int 0) (ty := .int) (C := RX21) (T := TX21) (N := 32) hx hb hts in9_X21_which_3_RX21 tyX21 tyX21_ok nmX21 hown hK hP hD hS 1 rfl rfl 20 (by decide) (hts (.fieldLink RX21 205 "RegexloomModel" "trials" "I") (List.mem_of_getElem? (i := 11) rfl)) (fun _ h9 => h9) rfl (by decide +kernel) rfl rfl (Nat.le_of_ble_eq_true rfl) dX21_which_37 (fun H locs hP hD hS => ?_)
  have hP : va_P g.1 vwCl [(h3, .inl (g.2.1 4, 4, .inr (.inr (.inr (.inr (fun _ => none)))))), (h0, .inr (22, [.int 0, .ref h1, .int 0, .ref h2, .int 0, .ref h3, .int 250, .ref h4, .int 0, .ref h5, .ref h6, .ref h7, .int 0, .ref h8, .ref h9, .ref h10, .int 0, .null, .int 0, .null, .int 0, .int 0, .int 0, .ref h11, .int 0, .ref h12, .ref h13, .ref h14, .int 0, .ref h15, .ref h16, .int 0]))] H := hP
  have hD : va_D A [(h3, .inl (g.2.1 4, 4, .inr (.inr (.inr (.inr (fun _ => none)))))), (h0, .inr (22, [.int 0, .ref h1, .int 0, .ref h2, .int 0, .ref h3, .int 250, .ref h4, .int 0, .ref h5, .ref h6, .ref h7, .int 0, .ref h8, .ref h9, .ref h10, .int 0, .null, .int 0, .null, .int 0, .int 0, .int 0, .ref h11, .int 0, .ref h12, .ref h13, .ref h14, .int 0, .ref h15, .ref h16, .int 0]))] := hD
  refine lv_iload_n hx hb dX21_which_40 rfl (lv_at hl 1 rfl) ?_
  refine lv_aload_n hx hb dX21_which_41 rfl (lv_at hl 2 rfl) ?_
  refine va_get (D := g.1) (ci := 22) (v := .ref h3) (C := RX21) (T := TX21) (N := 32) hx hb hts in9_X21_which_3_RX21 hown hK hP 1 rfl rfl 5 (by decide) (hts (.fieldLink RX21 90 "RegexloomModel" "patterns" "[LRegexloomModel$Pattern;") (List.mem_of_getElem? (i := 12) rfl)) (fun _ h9 => h9) rfl dX21_which_42 ?_
  refine lv_iload_n hx hb dX21_which_45 rfl (lv_at hl 0 rfl) ?_
  refine va_aldq hx hb hK hP 0 4 rfl rfl (vp_in_nI (n := 1) (by decide) (by decide)) dX21_which_46 ?_
  refine e_topv (y := .null) (by rfl) ?_
  refine lv_ifnullN hx hb dX21_which_47 (tgt := 71) (by decide) ?_
  refine lv_iconst (v := 0) hx hb dX21_which_71 (by decide) ?_
  refine lv_ior hx hb dX21_which_72 ?_
  refine e_top (y := 0) (by decide) ?_
  refine lv_istore_n (lv' := [(2, .int 0), (3, .int 1), (0, .ref h0), (1, .int 0)]) hx hb dX21_which_73 rfl hl (by decide) rfl (fun ls hl => ?_)
  refine lv_goto (tgt := 83) hx hb dX21_which_74 (by decide) ?_
  refine lv_iinc (v := 2) (lv' := [(3, .int 2), (2, .int 0), (0, .ref h0), (1, .int 0)]) hx hb dX21_which_83 hl (k := 1) rfl (by decide) (by decide) rfl (fun ls hl => ?_)
  refine lv_goto (tgt := 30) hx hb dX21_which_86 (by decide) ?_
  refine lv_iload_n hx hb dX21_which_30 rfl (lv_at hl 0 rfl) ?_
  refine lv_iconst (v := 4) hx hb dX21_which_31 (by decide) ?_
  refine lv_icmp_ge (tgt := 89) hx hb dX21_which_32 (by decide) (fun c9 => absurd c9 (by decide)) (fun _ => ?_)
  refine lv_aload_n hx hb dX21_which_35 rfl (lv_at hl 2 rfl) ?_
  refine lv_iconst (v := 0) hx hb dX21_which_36 (by decide) ?_
  refine va_put (D := g.1) (ci := 22) (v := .int 0) (ty := .int) (C := RX21) (T := TX21) (N := 32) hx hb hts in9_X21_which_3_RX21 tyX21 tyX21_ok nmX21 hown hK hP hD hS 1 rfl rfl 20 (by decide) (hts (.fieldLink RX21 205 "RegexloomModel" "trials" "I") (List.mem_of_getElem? (i := 11) rfl)) (fun _ h9 => h9) rfl (by decide +kernel) rfl rfl (Nat.le_of_ble_eq_true rfl) dX21_which_37 (fun H locs hP hD hS => ?_)
  have hP : va_P g.1 vwCl [(h3, .inl (g.2.1 4, 4, .inr (.inr (.inr (.inr (fun _ => none)))))), (h0, .inr (22, [.int 0, .ref h1, .int 0, .ref h2, .int 0, .ref h3, .int 250, .ref h4, .int 0, .ref h5, .ref h6, .ref h7, .int 0, .ref h8, .ref h9, .ref h10, .int 0, .null, .int 0, .null, .int 0, .int 0, .int 0, .ref h11, .int 0, .ref h12, .ref h13, .ref h14, .int 0, .ref h15, .ref h16, .int 0]))] H := hP
  have hD : va_D A [(h3, .inl (g.2.1 4, 4, .inr (.inr (.inr (.inr (fun _ => none)))))), (h0, .inr (22, [.int 0, .ref h1, .int 0, .ref h2, .int 0, .ref h3, .int 250, .ref h4, .int 0, .ref h5, .ref h6, .ref h7, .int 0, .ref h8, .ref h9, .ref h10, .int 0, .null, .int 0, .null, .int 0, .int 0, .int 0, .ref h11, .int 0, .ref h12, .ref h13, .ref h14, .int 0, .ref h15, .ref h16, .int 0]))] := hD
  refine lv_iload_n hx hb dX21_which_40 rfl (lv_at hl 1 rfl) ?_
  refine lv_aload_n hx hb dX21_which_41 rfl (lv_at hl 2 rfl) ?_
  refine va_get (D := g.1) (ci := 22) (v := .ref h3) (C := RX21) (T := TX21) (N := 32) hx hb hts in9_X21_which_3_RX21 hown hK hP 1 rfl rfl 5 (by decide) (hts (.fieldLink RX21 90 "RegexloomModel" "patterns" "[LRegexloomModel$Pattern;") (List.mem_of_getElem? (i := 12) rfl)) (fun _ h9 => h9) rfl dX21_which_42 ?_
  refine lv_iload_n hx hb dX21_which_45 rfl (lv_at hl 0 rfl) ?_
  refine va_aldq hx hb hK hP 0 4 rfl rfl (vp_in_nI (n := 2) (by decide) (by decide)) dX21_which_46 ?_
  refine e_topv (y := .null) (by rfl) ?_
  refine lv_ifnullN hx hb dX21_which_47 (tgt := 71) (by decide) ?_
  refine lv_iconst (v := 0) hx hb dX21_which_71 (by decide) ?_
  refine lv_ior hx hb dX21_which_72 ?_
  refine e_top (y := 0) (by decide) ?_
  refine lv_istore_n (lv' := [(2, .int 0), (3, .int 2), (0, .ref h0), (1, .int 0)]) hx hb dX21_which_73 rfl hl (by decide) rfl (fun ls hl => ?_)
  refine lv_goto (tgt := 83) hx hb dX21_which_74 (by decide) ?_
  refine lv_iinc (v := 3) (lv' := [(3, .int 3), (2, .int 0), (0, .ref h0), (1, .int 0)]) hx hb dX21_which_83 hl (k := 1) rfl (by decide) (by decide) rfl (fun ls hl => ?_)
  refine lv_goto (tgt := 30) hx hb dX21_which_86 (by decide) ?_
  refine lv_iload_n hx hb dX21_which_30 rfl (lv_at hl 0 rfl) ?_
  refine lv_iconst (v := 4) hx hb dX21_which_31 (by decide) ?_
  refine lv_icmp_ge (tgt := 89) hx hb dX21_which_32 (by decide) (fun c9 => absurd c9 (by decide)) (fun _ => ?_)
  refine lv_aload_n hx hb dX21_which_35 rfl (lv_at hl 2 rfl) ?_
  refine lv_iconst (v := 0) hx hb dX21_which_36 (by decide) ?_
  refine va_put (D := g.1) (ci := 22) (v := .int 0) (ty := .int) (C := RX21) (T := TX21) (N := 32) hx hb hts in9_X21_which_3_RX21 tyX21 tyX21_ok nmX21 hown hK hP hD hS 1 rfl rfl 20 (by decide) (hts (.fieldLink RX21 205 "RegexloomModel" "trials" "I") (List.mem_of_getElem? (i := 11) rfl)) (fun _ h9 => h9) rfl (by decide +kernel) rfl rfl (Nat.le_of_ble_eq_true rfl) dX21_which_37 (fun H locs hP hD hS => ?_)
  have hP : va_P g.1 vwCl [(h3, .inl (g.2.1 4, 4, .inr (.inr (.inr (.inr (fun _ => none)))))), (h0, .inr (22, [.int 0, .ref h1, .int 0, .ref h2, .int 0, .ref h3, .int 250, .ref h4, .int 0, .ref h5, .ref h6, .ref h7, .int 0, .ref h8, .ref h9, .ref h10, .int 0, .null, .int 0, .null, .int 0, .int 0, .int 0, .ref h11, .int 0, .ref h12, .ref h13, .ref h14, .int 0, .ref h15, .ref h16, .int 0]))] H := hP
  have hD : va_D A [(h3, .inl (g.2.1 4, 4, .inr (.inr (.inr (.inr (fun _ => none)))))), (h0, .inr (22, [.int 0, .ref h1, .int 0, .ref h2, .int 0, .ref h3, .int 250, .ref h4, .int 0, .ref h5, .ref h6, .ref h7, .int 0, .ref h8, .ref h9, .ref h10, .int 0, .null, .int 0, .null, .int 0, .int 0, .int 0, .ref h11, .int 0, .ref h12, .ref h13, .ref h14, .int 0, .ref h15, .ref h16, .int 0]))] := hD
  refine lv_iload_n hx hb dX21_which_40 rfl (lv_at hl 1 rfl) ?_
  refine lv_aload_n hx hb dX21_which_41 rfl (lv_at hl 2 rfl) ?_
  refine va_get (D := g.1) (ci := 22) (v := .ref h3) (C := RX21) (T := TX21) (N := 32) hx hb hts in9_X21_which_3_RX21 hown hK hP 1 rfl rfl 5 (by decide) (hts (.fieldLink RX21 90 "RegexloomModel" "patterns" "[LRegexloomModel$Pattern;") (List.mem_of_getElem? (i := 12) rfl)) (fun _ h9 => h9) rfl dX21_which_42 ?_
  refine lv_iload_n hx hb dX21_which_45 rfl (lv_at hl 0 rfl) ?_
  refine va_aldq hx hb hK hP 0 4 rfl rfl (vp_in_nI (n := 3) (by decide) (by decide)) dX21_which_46 ?_
  refine e_topv (y := .null) (by rfl) ?_
  refine lv_ifnullN hx hb dX21_which_47 (tgt := 71) (by decide) ?_
  refine lv_iconst (v := 0) hx hb dX21_which_71 (by decide) ?_
  refine lv_ior hx hb dX21_which_72 ?_
  refine e_top (y := 0) (by decide) ?_
  refine lv_istore_n (lv' := [(2, .int 0), (3, .int 3), (0, .ref h0), (1, .int 0)]) hx hb dX21_which_73 rfl hl (by decide) rfl (fun ls hl => ?_)
  refine lv_goto (tgt := 83) hx hb dX21_which_74 (by decide) ?_
  refine lv_iinc (v := 4) (lv' := [(3, .int 4), (2, .int 0), (0, .ref h0), (1, .int 0)]) hx hb dX21_which_83 hl (k := 1) rfl (by decide) (by decide) rfl (fun ls hl => ?_)
  refine lv_goto (tgt := 30) hx hb dX21_which_86 (by decide) ?_
  refine lv_iload_n hx hb dX21_which_30 rfl (lv_at hl 0 rfl) ?_
  refine lv_iconst (v := 4) hx hb dX21_which_31 (by decide) ?_
  refine lv_icmp_ge (tgt := 89) hx hb dX21_which_32 (by decide) (fun _ => ?_) (fun c9 => absurd (by decide) c9)
  refine lv_iload_n hx hb dX21_which_89 rfl (lv_at hl 1 rfl) ?_
  have hP9 := hP.sub (ws' := [(h0, .inr (22, [.int 0, .ref h1, .int 0, .ref h2, .int 0, .ref h3, .int 250, .ref h4, .int 0, .ref h5, .ref h6, .ref h7, .int 0, .ref h8, .ref h9, .ref h10, .int 0, .null, .int 0, .null, .int 0, .int 0, .int 0, .ref h11, .int 0, .ref h12, .ref h13, .ref h14, .int 0, .ref h15, .ref h16, .int 0])), (h3, .inl (g.2.1 4, 4, .inr (.inr (.inr (.inr (fun _ => none))))))]) [1, 0] rfl
  have hD9 := hD.sub (ws' := [(h0, .inr (22, [.int 0, .ref h1, .int 0, .ref h2, .int 0, .ref h3, .int 250, .ref h4, .int 0, .ref h5, .ref h6, .ref h7, .int 0, .ref h8, .ref h9, .ref h10, .int 0, .null, .int 0, .null, .int 0, .int 0, .int 0, .ref h11, .int 0, .ref h12, .ref h13, .ref h14, .int 0, .ref h15, .ref h16, .int 0])), (h3, .inl (g.2.1 4, 4, .inr (.inr (.inr (.inr (fun _ => none))))))]) [1, 0] (by decide) rfl
  subst hAe
  exact W.iret (v := 0) hx hb hr (fun t ht hW => ⟨⟨0, (), rfl, rfl, by rw [ht]; exact hP9, hD9⟩, hS.F ht⟩) hS.2.2 dX21_which_90
def w9_X11_ways_1 : List Cond := [.code yX11_ways cX11_ways 4 (some .int), .methodLink RX11 124 yX11_needPattern, .instanceMethod yX11_needPattern, .selects RX11 yX11_needPattern yX11_needPattern, .initialized RX11, .code yX11_needPattern cX11_needPattern 2 none, .initialized "java/lang/Throwable", .superclass "java/lang/Throwable" "java/lang/Object", .instanceMethod Bundle.tFill, .codeSync Bundle.tFill LibCode.Throwable.Fill.code 1 (some (.object "java/lang/Throwable")), .instanceMethod Bundle.tFill0, .native Bundle.tFill0, .instanceMethod Bundle.tInit0, .code Bundle.tInit0 LibCode.Throwable.Init0.code 1 none, .instanceMethod Bundle.oInit, .code Bundle.oInit ⟨#[0xb1]⟩ 1 none, .methodLink "java/lang/Throwable" 1 Bundle.oInit, .methodLink "java/lang/Throwable" 27 Bundle.tFill, .methodLink "java/lang/Throwable" 202 Bundle.tFill0, .fieldLink "java/lang/Throwable" 7 "java/lang/Throwable" "cause" "Ljava/lang/Throwable;", .lays "java/lang/Throwable" "java/lang/Throwable" "cause" "Ljava/lang/Throwable;", .fieldLink "java/lang/Throwable" 17 "java/lang/Throwable" "stackTrace" "[Ljava/lang/StackTraceElement;", .lays "java/lang/Throwable" "java/lang/Throwable" "stackTrace" "[Ljava/lang/StackTraceElement;", .fieldLink "java/lang/Throwable" 24 "java/lang/Throwable" "suppressedExceptions" "Ljava/util/List;", .lays "java/lang/Throwable" "java/lang/Throwable" "suppressedExceptions" "Ljava/util/List;", .fieldLink "java/lang/Throwable" 13 "java/lang/Throwable" "UNASSIGNED_STACK" "[Ljava/lang/StackTraceElement;", .fieldLink "java/lang/Throwable" 20 "java/lang/Throwable" "SUPPRESSED_SENTINEL" "Ljava/util/List;", .lays "java/lang/Throwable" "java/lang/Throwable" "detailMessage" "Ljava/lang/String;", .instanceMethod (Bundle.initS "java/lang/Throwable"), .code (Bundle.initS "java/lang/Throwable") LibCode.Throwable.InitS.code 2 none, .fieldLink "java/lang/Throwable" 31 "java/lang/Throwable" "detailMessage" "Ljava/lang/String;", .instanceMethod (Bundle.initS "java/lang/IndexOutOfBoundsException"), .code (Bundle.initS "java/lang/IndexOutOfBoundsException") Bundle.six 2 none, .methodLink "java/lang/IndexOutOfBoundsException" 7 (Bundle.initS "java/lang/RuntimeException"), .instanceMethod (Bundle.initS "java/lang/RuntimeException"), .code (Bundle.initS "java/lang/RuntimeException") Bundle.six 2 none, .methodLink "java/lang/RuntimeException" 7 (Bundle.initS "java/lang/Exception"), .instanceMethod (Bundle.initS "java/lang/Exception"), .code (Bundle.initS "java/lang/Exception") Bundle.six 2 none, .methodLink "java/lang/Exception" 7 (Bundle.initS "java/lang/Throwable"), .methodLink RX11 224 (Bundle.initS "java/lang/IndexOutOfBoundsException"), .instantiable "java/lang/IndexOutOfBoundsException" 6, .selects "java/lang/IndexOutOfBoundsException" Bundle.tFill0 Bundle.tFill0, .selects "java/lang/IndexOutOfBoundsException" Bundle.tFill Bundle.tFill, .lays "java/lang/IndexOutOfBoundsException" "java/lang/Throwable" "cause" "Ljava/lang/Throwable;", .lays "java/lang/IndexOutOfBoundsException" "java/lang/Throwable" "stackTrace" "[Ljava/lang/StackTraceElement;", .lays "java/lang/IndexOutOfBoundsException" "java/lang/Throwable" "suppressedExceptions" "Ljava/util/List;", .lays "java/lang/IndexOutOfBoundsException" "java/lang/Throwable" "detailMessage" "Ljava/lang/String;", .fieldLink "java/lang/Throwable" 198 "java/lang/Throwable" "backtrace" "Ljava/lang/Object;", .lays "java/lang/Throwable" "java/lang/Throwable" "backtrace" "Ljava/lang/Object;", .lays "java/lang/IndexOutOfBoundsException" "java/lang/Throwable" "backtrace" "Ljava/lang/Object;", .classLink RX11 220 "java/lang/IndexOutOfBoundsException", .initialized "java/lang/IndexOutOfBoundsException"]
set_option maxRecDepth 20000 in
theorem g9_X11_ways_1_0 : GoodIn w9_X11_ways_1 (wsV RX11 124 RX11 yX11_needPattern w9_X11_needPattern_1) := goodIn_r _ [1, 2, 3, 4, 5, 6, 7, 8, 9, 10, 11, 12, 13, 14, 15, 16, 17, 18, 19, 20, 21, 22, 23, 24, 25, 26, 27, 28, 29, 30, 31, 32, 33, 34, 35, 36, 37, 38, 39, 40, 41, 42, 43, 44, 45, 46, 47, 48, 49, 50, 51, 52] (by decide +kernel) (by decide +kernel)
set_option maxHeartbeats 4000000 in
set_option maxRecDepth 100000 in
theorem c9_X11_ways_1 (l : Launch) (hlt : l.stackTraces = false) (g : G9) (h0 h1 h2 h3 h4 h5 h6 h7 h8 h9 h10 h11 h12 h13 sz : Nat) (v0 v1 v2 : Int32) (k_v0 : (-2147483648) ≤ v0.toInt ∧ v0.toInt ≤ (-1)) (k_v1 : (-2147483648) ≤ v1.toInt ∧ v1.toInt ≤ 2147483647) (k_v2 : (-2147483648) ≤ v2.toInt ∧ v2.toInt ≤ 2147483647) : vx_Met l yX11_ways w9_X11_ways_1 ({ frames := 7, cells := 1, slots := 6, locals := 103 }) (mP g [(h0, .inr (12, [.ref h1, .int 0, .ref h2, .ref h3, .ref h4, .ref h5, .ref h6, .ref h7, .int (-1), .ref h8, .ref h9, .int 250, .ref h10, .int 0, .ref h11, .ref h12, .ref h13]))] sz [.ref h0, .int v0, .int v1, .int v2]) (va_Qv (fun _ : Unit => False) (fun _ _ => True) (va_A [(h0, .inr (12, [.ref h1, .int 0, .ref h2, .ref h3, .ref h4, .ref h5, .ref h6, .ref h7, .int (-1), .ref h8, .ref h9, .int 250, .ref h10, .int 0, .ref h11, .ref h12, .ref h13]))] sz)) (mT g [(h0, .inr (12, [.ref h1, .int 0, .ref h2, .ref h3, .ref h4, .ref h5, .ref h6, .ref h7, .int (-1), .ref h8, .ref h9, .int 250, .ref h10, .int 0, .ref h11, .ref h12, .ref h13]))] sz "java/lang/IndexOutOfBoundsException") 1 6 (va_A [(h0, .inr (12, [.ref h1, .int 0, .ref h2, .ref h3, .ref h4, .ref h5, .ref h6, .ref h7, .int (-1), .ref h8, .ref h9, .int 250, .ref h10, .int 0, .ref h11, .ref h12, .ref h13]))] sz) := by
  refine vx_ofW (cc := cX11_ways) (maxL := 4) (ret := (some .int)) (by decide) rfl ?_
  intro p e s m args below meth c s₁ B hml hno hv
  obtain ⟨rfl, hsz, hP, hD0, hE⟩ := hv
  have hx := B.exec
  have hb := B.bytes
  have hr := B.returns
  have hts := atoms_spec (ws := w9_X11_ways_1) B.pre
  have hown : s.vm.findClass RX11 = some m.cls := findClass_of_methodNamed B.named
  have hlocks := B.notSynchronized
  subst hsz
  have hD := hD0.self (sz := s.heap.size)
  generalize hAe : va_A [(h0, .inr (12, [.ref h1, .int 0, .ref h2, .ref h3, .ref h4, .ref h5, .ref h6, .ref h7, .int (-1), .ref h8, .ref h9, .int 250, .ref h10, .int 0, .ref h11, .ref h12, .ref h13]))] s.heap.size = A at hD hE ⊢
  have hA : ∀ q : Nat, s.heap.size ≤ q → A q := fun q h => by rw [← hAe]; exact Or.inr h
  have hK := hE.1
  have hS : va_S A s.heap s.heap [] := va_S.rf
  replace hP : va_P g.1 vwCl [(h0, .inr (12, [.ref h1, .int 0, .ref h2, .ref h3, .ref h4, .ref h5, .ref h6, .ref h7, .int (-1), .ref h8, .ref h9, .int 250, .ref h10, .int 0, .ref h11, .ref h12, .ref h13]))] s.heap := hP
  have hl := lv_entry ([.ref h0, .int v0, .int v1, .int v2]) (n := 4) (Nat.le_of_ble_eq_true rfl)
  rw [lg_entry_eq]
  generalize (lg_sl ([.ref h0, .int v0, .int v1, .int v2]) ++ List.replicate (4 - (lg_sl ([.ref h0, .int v0, .int v1, .int v2])).length) Slot.unset).toArray = ls at hl ⊢
  replace hl : lv_has ls 4 [(0, .ref h0), (1, .int v0), (2, .int v1), (3, .int v2)] := hl
  have hH0 : s.heap.size ≤ s.heap.size := Nat.le_refl _
  refine lv_aload_n hx hb dX11_ways_0 rfl (lv_at hl 0 rfl) ?_
  refine lv_iload_n hx hb dX11_ways_1 rfl (lv_at hl 1 rfl) ?_
  have hPc := hP.sub (ws' := [(h0, .inr (12, [.ref h1, .int 0, .ref h2, .ref h3, .ref h4, .ref h5, .ref h6, .ref h7, .int (-1), .ref h8, .ref h9, .int 250, .ref h10, .int 0, .ref h11, .ref h12, .ref h13]))]) [0] rfl
  have hDc := hD.sub (ws' := [(h0, .inr (12, [.ref h1, .int 0, .ref h2, .ref h3, .ref h4, .ref h5, .ref h6, .ref h7, .int (-1), .ref h8, .ref h9, .int 250, .ref h10, .int 0, .ref h11, .ref h12, .ref h13]))]) [0] (by decide) rfl
  have hFc := va_free (wc := [(h0, .inr (12, [.ref h1, .int 0, .ref h2, .ref h3, .ref h4, .ref h5, .ref h6, .ref h7, .int (-1), .ref h8, .ref h9, .int 250, .ref h10, .int 0, .ref h11, .ref h12, .ref h13]))]) hD hS hA [0] rfl
  refine vx_callv (vx_runV (As := [.int v0]) (rest := []) ⟨hx, hb, hml, hown, hts⟩ (c9_X11_needPattern_1 l hlt g h0 h1 h2 h3 h4 h5 h6 h7 h8 h9 h10 h11 h12 h13 _ v0 (by omega)) (cwV 1 hts g9_X11_ways_1_0 rfl rfl rfl (by decide +kernel) ⟨Nat.le_of_ble_eq_true rfl, Nat.le_of_ble_eq_true rfl⟩) (mPreV (g := g) (wc := [(h0, .inr (12, [.ref h1, .int 0, .ref h2, .ref h3, .ref h4, .ref h5, .ref h6, .ref h7, .int (-1), .ref h8, .ref h9, .int 250, .ref h10, .int 0, .ref h11, .ref h12, .ref h13]))]) (C := RX11) (ci := 12) (q0 := 0) hE hS hPc hDc hFc rfl rfl) rfl rfl hl.1 rfl (lv_room (Nat.le_of_ble_eq_true rfl)) dX11_ways_2 ⟨Nat.le_of_ble_eq_true rfl, Nat.le_of_ble_eq_true rfl⟩) hS (fun q _ h => hFc q h) hFc (fun q _ h => hFc q h) (fun E9 ce q9 u t H locs ht hvm hw hB hz1 hk1 hS hc1 hc2 hc3 => ?_) (fun u t H1 locs ht hvm hw hB hz1 hk1 hS => hw.elim)
  replace hB : E9 = "java/lang/IndexOutOfBoundsException" := hB
  subst hB
  exact vx_out (fun z hz => (hno z hz).elim) hlocks hc1 hc2 hc3 (fun t ht hW => ⟨(), trivial, rfl, by subst hAe; exact hS.F ht⟩) (by subst hAe; exact hS.2.2) (Nat.le_of_ble_eq_true rfl) (Nat.le_of_ble_eq_true rfl)
def w9_L_ways_1 : List Cond := [.codeWith yL_ways cL_ways 6 (some .int) [(0, 12, 15, 21), (0, 12, 19, 15)], .methodLink RL 61 yX11_ways, .instanceMethod yX11_ways, .selects RX11 yX11_ways yX11_ways, .initialized RX11, .code yX11_ways cX11_ways 4 (some .int), .methodLink RX11 124 yX11_needPattern, .instanceMethod yX11_needPattern, .selects RX11 yX11_needPattern yX11_needPattern, .code yX11_needPattern cX11_needPattern 2 none, .initialized "java/lang/Throwable", .superclass "java/lang/Throwable" "java/lang/Object", .instanceMethod Bundle.tFill, .codeSync Bundle.tFill LibCode.Throwable.Fill.code 1 (some (.object "java/lang/Throwable")), .instanceMethod Bundle.tFill0, .native Bundle.tFill0, .instanceMethod Bundle.tInit0, .code Bundle.tInit0 LibCode.Throwable.Init0.code 1 none, .instanceMethod Bundle.oInit, .code Bundle.oInit ⟨#[0xb1]⟩ 1 none, .methodLink "java/lang/Throwable" 1 Bundle.oInit, .methodLink "java/lang/Throwable" 27 Bundle.tFill, .methodLink "java/lang/Throwable" 202 Bundle.tFill0, .fieldLink "java/lang/Throwable" 7 "java/lang/Throwable" "cause" "Ljava/lang/Throwable;", .lays "java/lang/Throwable" "java/lang/Throwable" "cause" "Ljava/lang/Throwable;", .fieldLink "java/lang/Throwable" 17 "java/lang/Throwable" "stackTrace" "[Ljava/lang/StackTraceElement;", .lays "java/lang/Throwable" "java/lang/Throwable" "stackTrace" "[Ljava/lang/StackTraceElement;", .fieldLink "java/lang/Throwable" 24 "java/lang/Throwable" "suppressedExceptions" "Ljava/util/List;", .lays "java/lang/Throwable" "java/lang/Throwable" "suppressedExceptions" "Ljava/util/List;", .fieldLink "java/lang/Throwable" 13 "java/lang/Throwable" "UNASSIGNED_STACK" "[Ljava/lang/StackTraceElement;", .fieldLink "java/lang/Throwable" 20 "java/lang/Throwable" "SUPPRESSED_SENTINEL" "Ljava/util/List;", .lays "java/lang/Throwable" "java/lang/Throwable" "detailMessage" "Ljava/lang/String;", .instanceMethod (Bundle.initS "java/lang/Throwable"), .code (Bundle.initS "java/lang/Throwable") LibCode.Throwable.InitS.code 2 none, .fieldLink "java/lang/Throwable" 31 "java/lang/Throwable" "detailMessage" "Ljava/lang/String;", .instanceMethod (Bundle.initS "java/lang/IndexOutOfBoundsException"), .code (Bundle.initS "java/lang/IndexOutOfBoundsException") Bundle.six 2 none, .methodLink "java/lang/IndexOutOfBoundsException" 7 (Bundle.initS "java/lang/RuntimeException"), .instanceMethod (Bundle.initS "java/lang/RuntimeException"), .code (Bundle.initS "java/lang/RuntimeException") Bundle.six 2 none, .methodLink "java/lang/RuntimeException" 7 (Bundle.initS "java/lang/Exception"), .instanceMethod (Bundle.initS "java/lang/Exception"), .code (Bundle.initS "java/lang/Exception") Bundle.six 2 none, .methodLink "java/lang/Exception" 7 (Bundle.initS "java/lang/Throwable"), .methodLink RX11 224 (Bundle.initS "java/lang/IndexOutOfBoundsException"), .instantiable "java/lang/IndexOutOfBoundsException" 6, .selects "java/lang/IndexOutOfBoundsException" Bundle.tFill0 Bundle.tFill0, .selects "java/lang/IndexOutOfBoundsException" Bundle.tFill Bundle.tFill, .lays "java/lang/IndexOutOfBoundsException" "java/lang/Throwable" "cause" "Ljava/lang/Throwable;", .lays "java/lang/IndexOutOfBoundsException" "java/lang/Throwable" "stackTrace" "[Ljava/lang/StackTraceElement;", .lays "java/lang/IndexOutOfBoundsException" "java/lang/Throwable" "suppressedExceptions" "Ljava/util/List;", .lays "java/lang/IndexOutOfBoundsException" "java/lang/Throwable" "detailMessage" "Ljava/lang/String;", .fieldLink "java/lang/Throwable" 198 "java/lang/Throwable" "backtrace" "Ljava/lang/Object;", .lays "java/lang/Throwable" "java/lang/Throwable" "backtrace" "Ljava/lang/Object;", .lays "java/lang/IndexOutOfBoundsException" "java/lang/Throwable" "backtrace" "Ljava/lang/Object;", .classLink RX11 220 "java/lang/IndexOutOfBoundsException", .initialized "java/lang/IndexOutOfBoundsException", .classLink RL 21 "java/lang/IndexOutOfBoundsException"]
set_option maxRecDepth 20000 in
theorem g9_L_ways_1_0 : GoodIn w9_L_ways_1 (wsV RL 61 RX11 yX11_ways w9_X11_ways_1) := goodIn_r _ [1, 2, 3, 4, 5, 6, 7, 8, 4, 9, 10, 11, 12, 13, 14, 15, 16, 17, 18, 19, 20, 21, 22, 23, 24, 25, 26, 27, 28, 29, 30, 31, 32, 33, 34, 35, 36, 37, 38, 39, 40, 41, 42, 43, 44, 45, 46, 47, 48, 49, 50, 51, 52, 53, 54, 55, 56] (by decide +kernel) (by decide +kernel)
set_option maxHeartbeats 4000000 in
set_option maxRecDepth 100000 in
theorem c9_L_ways_1 (l : Launch) (hlt : l.stackTraces = false) (g : G9) (h0 h1 h2 h3 h4 h5 h6 h7 h8 h9 h10 h11 h12 h13 h14 sz : Nat) (v0 v1 v2 : Int32) (k_v0 : (-2147483648) ≤ v0.toInt ∧ v0.toInt ≤ (-1)) (k_v1 : (-2147483648) ≤ v1.toInt ∧ v1.toInt ≤ 2147483647) (k_v2 : (-2147483648) ≤ v2.toInt ∧ v2.toInt ≤ 2147483647) : Met l yL_ways w9_L_ways_1 ({ frames := 8, cells := 1, slots := 6, locals := 126 }) (mP g [(h0, .inr (12, [.ref h2, .int 0, .ref h3, .ref h4, .ref h5, .ref h6, .ref h7, .ref h8, .int (-1), .ref h9, .ref h10, .int 250, .ref h11, .int 0, .ref h12, .ref h13, .ref h14]))] sz [.ref h0, .int v0, .int v1, .int v2, .ref h1]) (va_Qi (fun (r : Int32) (_ : Unit) => r = 1) (fun (_ : Unit) (t : State) => mB g [(h0, .inr (12, [.ref h2, .int 0, .ref h3, .ref h4, .ref h5, .ref h6, .ref h7, .ref h8, .int (-1), .ref h9, .ref h10, .int 250, .ref h11, .int 0, .ref h12, .ref h13, .ref h14]))] sz [] t) (va_A [(h0, .inr (12, [.ref h2, .int 0, .ref h3, .ref h4, .ref h5, .ref h6, .ref h7, .ref h8, .int (-1), .ref h9, .ref h10, .int 250, .ref h11, .int 0, .ref h12, .ref h13, .ref h14]))] sz)) 1 6 (va_A [(h0, .inr (12, [.ref h2, .int 0, .ref h3, .ref h4, .ref h5, .ref h6, .ref h7, .ref h8, .int (-1), .ref h9, .ref h10, .int 250, .ref h11, .int 0, .ref h12, .ref h13, .ref h14]))] sz) := by
  refine va_MetW (cc := cL_ways) (maxL := 6) (ret := (some .int)) (by decide) rfl ?_
  intro p e s m args below meth c s₁ B hml hv
  obtain ⟨rfl, hsz, hP, hD0, hE⟩ := hv
  have hx := B.exec
  have hb := B.bytes
  have hr := B.returns
  have hts := atoms_spec (ws := w9_L_ways_1) B.pre
  have hown : s.vm.findClass RL = some m.cls := findClass_of_methodNamed B.named
  have hlocks := B.notSynchronized
  have htab := vx_table (x := yL_ways) B (hts (.codeWith yL_ways cL_ways 6 (some .int) [(0, 12, 15, 21), (0, 12, 19, 15)]) (List.mem_of_getElem? (i := 0) rfl))
  subst hsz
  have hD := hD0.self (sz := s.heap.size)
  generalize hAe : va_A [(h0, .inr (12, [.ref h2, .int 0, .ref h3, .ref h4, .ref h5, .ref h6, .ref h7, .ref h8, .int (-1), .ref h9, .ref h10, .int 250, .ref h11, .int 0, .ref h12, .ref h13, .ref h14]))] s.heap.size = A at hD hE ⊢
  have hA : ∀ q : Nat, s.heap.size ≤ q → A q := fun q h => by rw [← hAe]; exact Or.inr h
  have hK := hE.1
  have hS : va_S A s.heap s.heap [] := va_S.rf
  replace hP : va_P g.1 vwCl [(h0, .inr (12, [.ref h2, .int 0, .ref h3, .ref h4, .ref h5, .ref h6, .ref h7, .ref h8, .int (-1), .ref h9, .ref h10, .int 250, .ref h11, .int 0, .ref h12, .ref h13, .ref h14]))] s.heap := hP
  have hl := lv_entry ([.ref h0, .int v0, .int v1, .int v2, .ref h1]) (n := 6) (Nat.le_of_ble_eq_true rfl)
  rw [lg_entry_eq]
  generalize (lg_sl ([.ref h0, .int v0, .int v1, .int v2, .ref h1]) ++ List.replicate (6 - (lg_sl ([.ref h0, .int v0, .int v1, .int v2, .ref h1])).length) Slot.unset).toArray = ls at hl ⊢
  replace hl : lv_has ls 6 [(0, .ref h0), (1, .int v0), (2, .int v1), (3, .int v2), (4, .ref h1)] := hl
  have hH0 : s.heap.size ≤ s.heap.size := Nat.le_refl _
  refine lv_aload hx hb dL_ways_0 (lv_at hl 4 rfl) ?_
  refine lv_iconst (v := 0) hx hb dL_ways_2 (by decide) ?_
  refine lv_aload_n hx hb dL_ways_3 rfl (lv_at hl 0 rfl) ?_
  refine lv_iload_n hx hb dL_ways_4 rfl (lv_at hl 1 rfl) ?_
  refine lv_iload_n hx hb dL_ways_5 rfl (lv_at hl 2 rfl) ?_
  refine lv_iload_n hx hb dL_ways_6 rfl (lv_at hl 3 rfl) ?_
  have hPc := hP.sub (ws' := [(h0, .inr (12, [.ref h2, .int 0, .ref h3, .ref h4, .ref h5, .ref h6, .ref h7, .ref h8, .int (-1), .ref h9, .ref h10, .int 250, .ref h11, .int 0, .ref h12, .ref h13, .ref h14]))]) [0] rfl
  have hDc := hD.sub (ws' := [(h0, .inr (12, [.ref h2, .int 0, .ref h3, .ref h4, .ref h5, .ref h6, .ref h7, .ref h8, .int (-1), .ref h9, .ref h10, .int 250, .ref h11, .int 0, .ref h12, .ref h13, .ref h14]))]) [0] (by decide) rfl
  have hFc := va_free (wc := [(h0, .inr (12, [.ref h2, .int 0, .ref h3, .ref h4, .ref h5, .ref h6, .ref h7, .ref h8, .int (-1), .ref h9, .ref h10, .int 250, .ref h11, .int 0, .ref h12, .ref h13, .ref h14]))]) hD hS hA [0] rfl
  refine vx_callv (vx_runV (As := [.int v0, .int v1, .int v2]) (rest := [.int 0, .ref h1]) ⟨hx, hb, hml, hown, hts⟩ (c9_X11_ways_1 l hlt g h0 h2 h3 h4 h5 h6 h7 h8 h9 h10 h11 h12 h13 h14 _ v0 v1 v2 (by omega) (by omega) (by omega)) (cwV 3 hts g9_L_ways_1_0 rfl rfl rfl (by decide +kernel) ⟨Nat.le_of_ble_eq_true rfl, Nat.le_of_ble_eq_true rfl⟩) (mPreV (g := g) (wc := [(h0, .inr (12, [.ref h2, .int 0, .ref h3, .ref h4, .ref h5, .ref h6, .ref h7, .ref h8, .int (-1), .ref h9, .ref h10, .int 250, .ref h11, .int 0, .ref h12, .ref h13, .ref h14]))]) (C := RX11) (ci := 12) (q0 := 0) hE hS hPc hDc hFc rfl rfl) rfl rfl hl.1 rfl (lv_room (Nat.le_of_ble_eq_true rfl)) dL_ways_7 ⟨Nat.le_of_ble_eq_true rfl, Nat.le_of_ble_eq_true rfl⟩) hS (fun q _ h => hFc q h) hFc (fun q _ h => hFc q h) (fun E9 ce q9 u t H locs ht hvm hw hB hz1 hk1 hS hc1 hc2 hc3 => ?_) (fun u t H1 locs ht hvm hw hB hz1 hk1 hS => hw.elim)
  replace hB : E9 = "java/lang/IndexOutOfBoundsException" := hB
  subst hB
  obtain ⟨hP, hD⟩ := va_join (wr := []) (w1 := []) hP hD [0] [] rfl rfl (by decide) (by decide) hk1 hFc (fun k q h => by simp at h) ⟨fun i j p q h => by simp at h, fun k q h => by simp at h⟩
  have hP : va_P g.1 vwCl [] H := hP
  have hD : va_D A [] := hD
  refine vx_catch (own := RL) (name := "java/lang/IndexOutOfBoundsException") hown [] ⟨0, 12, 15, 21⟩ [⟨0, 12, 19, 15⟩] (by rw [htab]; rfl) (fun z hz => absurd hz List.not_mem_nil) (by decide) (by decide) (hts (.classLink RL 21 "java/lang/IndexOutOfBoundsException") (List.mem_of_getElem? (i := 57) rfl)) (va_Nw.use rfl (hE.cast ("java/lang/IndexOutOfBoundsException", "java/lang/IndexOutOfBoundsException") (by decide))) hc1 hc2 hc3 ?_
  refine lv_astore (lv' := [(5, .ref q9), (0, .ref h0), (1, .int v0), (2, .int v1), (3, .int v2), (4, .ref h1)]) hx hb dL_ways_15 hl (by decide) rfl (fun ls hl => ?_)
  refine lv_iconst (v := 1) hx hb dL_ways_17 (by decide) ?_
  have hP9 := hP.sub (ws' := []) [] rfl
  have hD9 := hD.sub (ws' := []) [] (by decide) rfl
  subst hAe
  exact W.iret (v := 1) hx hb hr (fun t ht hW => ⟨⟨1, (), rfl, rfl, by rw [ht]; exact hP9, hD9⟩, hS.F ht⟩) hS.2.2 dL_ways_18
def w9_X21_ways_1 : List Cond := [.code yX21_ways cX21_ways 7 (some .int), .methodLink RX21 160 yX21_in, .static yX21_in, .initialized RX21, .code yX21_in cX21_in 3 (some .boolean), .methodLink RX21 154 yX21_refused, .instanceMethod yX21_refused, .selects RX21 yX21_refused yX21_refused, .code yX21_refused cX21_refused 2 (some .boolean), .fieldLink RX21 144 "RegexloomModel" "refusal" "I"] ++ (u_ws RX21 TX21 32)
set_option maxRecDepth 20000 in
theorem in9_X21_ways_1_RX21 : ∀ w ∈ u_ws RX21 TX21 32, w ∈ w9_X21_ways_1 := by decide +kernel
set_option maxRecDepth 20000 in
theorem g9_X21_ways_1_0 : GoodIn w9_X21_ways_1 (va_wsS RX21 160 yX21_in w9_X21_in_1) := goodIn_r _ [1, 2, 3, 4] (by decide +kernel) (by decide +kernel)
set_option maxRecDepth 20000 in
theorem g9_X21_ways_1_1 : GoodIn w9_X21_ways_1 (wsV RX21 154 RX21 yX21_refused w9_X21_refused_2) := goodIn_r _ [5, 6, 7, 3, 8, 9, 10, 11, 12, 13, 14, 15, 16, 17, 18, 19, 20, 21, 22, 23, 24, 25, 26, 27, 28, 29, 30, 31, 32, 33, 34, 35, 36, 37, 38, 39, 40, 41] (by decide +kernel) (by decide +kernel)
set_option maxHeartbeats 4000000 in
set_option maxRecDepth 100000 in
theorem c9_X21_ways_1 (l : Launch) (g : G9) (h0 h1 h2 h3 h4 h5 h6 h7 h8 h9 h10 h11 h12 h13 h14 h15 h16 sz : Nat) (v0 v1 v2 : Int32) (k_v0 : (-2147483648) ≤ v0.toInt ∧ v0.toInt ≤ (-1)) (k_v1 : (-2147483648) ≤ v1.toInt ∧ v1.toInt ≤ 2147483647) (k_v2 : (-2147483648) ≤ v2.toInt ∧ v2.toInt ≤ 2147483647) : Met l yX21_ways w9_X21_ways_1 ({ frames := 1, cells := 0, slots := 0, locals := 22 }) (mP g [(h0, .inr (22, [.int 0, .ref h1, .int 0, .ref h2, .int 0, .ref h3, .int 250, .ref h4, .int 0, .ref h5, .ref h6, .ref h7, .int 0, .ref h8, .ref h9, .ref h10, .int 0, .null, .int 0, .null, .int 0, .int 0, .int 0, .ref h11, .int 0, .ref h12, .ref h13, .ref h14, .int 0, .ref h15, .ref h16, .int 0]))] sz [.ref h0, .int v0, .int v1, .int v2]) (va_Qi (fun (r : Int32) (_ : Unit) => r = 0) (fun (_ : Unit) (t : State) => mB g [(h0, .inr (22, [.int 0, .ref h1, .int 0, .ref h2, .int 0, .ref h3, .int 250, .ref h4, .int 0, .ref h5, .ref h6, .ref h7, .int 0, .ref h8, .ref h9, .ref h10, .int 0, .null, .int 0, .null, .int 0, .int 0, .int 0, .ref h11, .int 0, .ref h12, .ref h13, .ref h14, .int 0, .ref h15, .ref h16, .int 0]))] sz [(h0, .inr (22, [.int 1, .ref h1, .int 0, .ref h2, .int 0, .ref h3, .int 250, .ref h4, .int 0, .ref h5, .ref h6, .ref h7, .int 0, .ref h8, .ref h9, .ref h10, .int 0, .null, .int 0, .null, .int 0, .int 0, .int 0, .ref h11, .int 0, .ref h12, .ref h13, .ref h14, .int 0, .ref h15, .ref h16, .int 0]))] t) (va_A [(h0, .inr (22, [.int 0, .ref h1, .int 0, .ref h2, .int 0, .ref h3, .int 250, .ref h4, .int 0, .ref h5, .ref h6, .ref h7, .int 0, .ref h8, .ref h9, .ref h10, .int 0, .null, .int 0, .null, .int 0, .int 0, .int 0, .ref h11, .int 0, .ref h12, .ref h13, .ref h14, .int 0, .ref h15, .ref h16, .int 0]))] sz)) 0 0 (va_A [(h0, .inr (22, [.int 0, .ref h1, .int 0, .ref h2, .int 0, .ref h3, .int 250, .ref h4, .int 0, .ref h5, .ref h6, .ref h7, .int 0, .ref h8, .ref h9, .ref h10, .int 0, .null, .int 0, .null, .int 0, .int 0, .int 0, .ref h11, .int 0, .ref h12, .ref h13, .ref h14, .int 0, .ref h15, .ref h16, .int 0]))] sz) := by
  refine Met.ofW (cc := cX21_ways) (maxL := 7) (ret := (some .int)) (by decide) rfl ?_
  intro p e s m args below meth c s₁ B hml hv
  obtain ⟨rfl, hsz, hP, hD0, hE⟩ := hv
  have hx := B.exec
  have hb := B.bytes
  have hr := B.returns
  have hts := atoms_spec (ws := w9_X21_ways_1) B.pre
  have hown : s.vm.findClass RX21 = some m.cls := findClass_of_methodNamed B.named
  have hlocks := B.notSynchronized
  subst hsz
  have hD := hD0.self (sz := s.heap.size)
  generalize hAe : va_A [(h0, .inr (22, [.int 0, .ref h1, .int 0, .ref h2, .int 0, .ref h3, .int 250, .ref h4, .int 0, .ref h5, .ref h6, .ref h7, .int 0, .ref h8, .ref h9, .ref h10, .int 0, .null, .int 0, .null, .int 0, .int 0, .int 0, .ref h11, .int 0, .ref h12, .ref h13, .ref h14, .int 0, .ref h15, .ref h16, .int 0]))] s.heap.size = A at hD hE ⊢
  have hA : ∀ q : Nat, s.heap.size ≤ q → A q := fun q h => by rw [← hAe]; exact Or.inr h
  have hK := hE.1
  have hS : va_S A s.heap s.heap [] := va_S.rf
  replace hP : va_P g.1 vwCl [(h0, .inr (22, [.int 0, .ref h1, .int 0, .ref h2, .int 0, .ref h3, .int 250, .ref h4, .int 0, .ref h5, .ref h6, .ref h7, .int 0, .ref h8, .ref h9, .ref h10, .int 0, .null, .int 0, .null, .int 0, .int 0, .int 0, .ref h11, .int 0, .ref h12, .ref h13, .ref h14, .int 0, .ref h15, .ref h16, .int 0]))] s.heap := hP
  have hl := lv_entry ([.ref h0, .int v0, .int v1, .int v2]) (n := 7) (Nat.le_of_ble_eq_true rfl)
  rw [lg_entry_eq]
  generalize (lg_sl ([.ref h0, .int v0, .int v1, .int v2]) ++ List.replicate (7 - (lg_sl ([.ref h0, .int v0, .int v1, .int v2])).length) Slot.unset).toArray = ls at hl ⊢
  replace hl : lv_has ls 7 [(0, .ref h0), (1, .int v0), (2, .int v1), (3, .int v2)] := hl
  have hH0 : s.heap.size ≤ s.heap.size := Nat.le_refl _
  refine lv_iload_n hx hb dX21_ways_0 rfl (lv_at hl 1 rfl) ?_
  refine lv_iconst (v := 0) hx hb dX21_ways_1 (by decide) ?_
  refine lv_iconst (v := 3) hx hb dX21_ways_2 (by decide) ?_
  have hPc := hP.sub (ws' := []) [] rfl
  have hDc := hD.sub (ws' := []) [] (by decide) rfl
  have hFc := va_free (wc := []) hD hS hA [] rfl
  refine va_calli (va_runS (As := [.int v0, .int 0, .int 3]) (rest := []) ⟨hx, hb, hml, hown, hts⟩ (c9_X21_in_1 l g _ v0 (by omega)) (va_cwS 3 hts g9_X21_ways_1_0 rfl rfl rfl (by decide +kernel) ⟨Nat.le_of_ble_eq_true rfl, Nat.le_of_ble_eq_true rfl⟩) (mPreS (g := g) (wc := []) hE hS hPc hDc hFc) rfl rfl hl.1 rfl (lv_room (Nat.le_of_ble_eq_true rfl)) dX21_ways_3 ⟨Nat.le_of_ble_eq_true rfl, Nat.le_of_ble_eq_true rfl⟩) hS (fun q _ h => hFc q h) hFc (fun r_1 u t H1 locs ht hvm hw hB hz1 hk1 hS => ?_)
  replace hw : 0 = r_1 := Eq.symm hw
  subst hw
  obtain ⟨hP1, hD1⟩ := hB
  rw [ht] at hP1
  obtain ⟨hP, hD⟩ := va_join (wr := [(h0, .inr (22, [.int 0, .ref h1, .int 0, .ref h2, .int 0, .ref h3, .int 250, .ref h4, .int 0, .ref h5, .ref h6, .ref h7, .int 0, .ref h8, .ref h9, .ref h10, .int 0, .null, .int 0, .null, .int 0, .int 0, .int 0, .ref h11, .int 0, .ref h12, .ref h13, .ref h14, .int 0, .ref h15, .ref h16, .int 0]))]) (w1 := []) hP hD [] [0] rfl rfl (by decide) (by decide) hk1 hFc hP1 hD1
  clear hP1 hD1 hPc hDc hFc hk1 hz1 hvm ht
  generalize H1 = H at hP hS ⊢
  have hP : va_P g.1 vwCl [(h0, .inr (22, [.int 0, .ref h1, .int 0, .ref h2, .int 0, .ref h3, .int 250, .ref h4, .int 0, .ref h5, .ref h6, .ref h7, .int 0, .ref h8, .ref h9, .ref h10, .int 0, .null, .int 0, .null, .int 0, .int 0, .int 0, .ref h11, .int 0, .ref h12, .ref h13, .ref h14, .int 0, .ref h15, .ref h16, .int 0]))] H := hP
  have hD : va_D A [(h0, .inr (22, [.int 0, .ref h1, .int 0, .ref h2, .int 0, .ref h3, .int 250, .ref h4, .int 0, .ref h5, .ref h6, .ref h7, .int 0, .ref h8, .ref h9, .ref h10, .int 0, .null, .int 0, .null, .int 0, .int 0, .int 0, .ref h11, .int 0, .ref h12, .ref h13, .ref h14, .int 0, .ref h15, .ref h16, .int 0]))] := hD
  refine lv_if_eq (tgt := 37) hx hb dX21_ways_6 (by decide) (fun _ => ?_) (fun c9 => absurd (by decide) c9)
  refine lv_iconst (v := 0) hx hb dX21_ways_37 (by decide) ?_
  refine lv_istore (lv' := [(4, .int 0), (0, .ref h0), (1, .int v0), (2, .int v1), (3, .int v2)]) hx hb dX21_ways_38 hl (by decide) rfl (fun ls hl => ?_)
  refine lv_iload hx hb dX21_ways_40 (lv_at hl 0 rfl) ?_
  refine lv_if_ne (tgt := 49) hx hb dX21_ways_42 (by decide) (fun c9 => absurd (by decide) c9) (fun _ => ?_)
  refine lv_iconst (v := 1) hx hb dX21_ways_45 (by decide) ?_
  refine lv_goto (tgt := 75) hx hb dX21_ways_46 (by decide) ?_
  refine lv_istore (lv' := [(5, .int 1), (4, .int 0), (0, .ref h0), (1, .int v0), (2, .int v1), (3, .int v2)]) hx hb dX21_ways_75 hl (by decide) rfl (fun ls hl => ?_)
  refine lv_aload_n hx hb dX21_ways_77 rfl (lv_at hl 2 rfl) ?_
  refine lv_iload hx hb dX21_ways_78 (lv_at hl 0 rfl) ?_
  have hPc := hP.sub (ws' := [(h0, .inr (22, [.int 0, .ref h1, .int 0, .ref h2, .int 0, .ref h3, .int 250, .ref h4, .int 0, .ref h5, .ref h6, .ref h7, .int 0, .ref h8, .ref h9, .ref h10, .int 0, .null, .int 0, .null, .int 0, .int 0, .int 0, .ref h11, .int 0, .ref h12, .ref h13, .ref h14, .int 0, .ref h15, .ref h16, .int 0]))]) [0] rfl
  have hDc := hD.sub (ws' := [(h0, .inr (22, [.int 0, .ref h1, .int 0, .ref h2, .int 0, .ref h3, .int 250, .ref h4, .int 0, .ref h5, .ref h6, .ref h7, .int 0, .ref h8, .ref h9, .ref h10, .int 0, .null, .int 0, .null, .int 0, .int 0, .int 0, .ref h11, .int 0, .ref h12, .ref h13, .ref h14, .int 0, .ref h15, .ref h16, .int 0]))]) [0] (by decide) rfl
  have hFc := va_free (wc := [(h0, .inr (22, [.int 0, .ref h1, .int 0, .ref h2, .int 0, .ref h3, .int 250, .ref h4, .int 0, .ref h5, .ref h6, .ref h7, .int 0, .ref h8, .ref h9, .ref h10, .int 0, .null, .int 0, .null, .int 0, .int 0, .int 0, .ref h11, .int 0, .ref h12, .ref h13, .ref h14, .int 0, .ref h15, .ref h16, .int 0]))]) hD hS hA [0] rfl
  refine va_calli (va_runV (As := [.int 1]) (rest := []) ⟨hx, hb, hml, hown, hts⟩ (c9_X21_refused_2 l g h0 h1 h2 h3 h4 h5 h6 h7 h8 h9 h10 h11 h12 h13 h14 h15 h16 _) (cwV 1 hts g9_X21_ways_1_1 rfl rfl rfl (by decide +kernel) ⟨Nat.le_of_ble_eq_true rfl, Nat.le_of_ble_eq_true rfl⟩) (mPreV (g := g) (wc := [(h0, .inr (22, [.int 0, .ref h1, .int 0, .ref h2, .int 0, .ref h3, .int 250, .ref h4, .int 0, .ref h5, .ref h6, .ref h7, .int 0, .ref h8, .ref h9, .ref h10, .int 0, .null, .int 0, .null, .int 0, .int 0, .int 0, .ref h11, .int 0, .ref h12, .ref h13, .ref h14, .int 0, .ref h15, .ref h16, .int 0]))]) (C := RX21) (ci := 22) (q0 := 0) hE hS hPc hDc hFc rfl rfl) rfl rfl hl.1 rfl (lv_room (Nat.le_of_ble_eq_true rfl)) dX21_ways_80 ⟨Nat.le_of_ble_eq_true rfl, Nat.le_of_ble_eq_true rfl⟩) hS (fun q _ h => hFc q h) hFc (fun r_2 u t H1 locs ht hvm hw hB hz1 hk1 hS => ?_)
  replace hw : 1 = r_2 := Eq.symm hw
  subst hw
  obtain ⟨hP1, hD1⟩ := hB
  rw [ht] at hP1
  obtain ⟨hP, hD⟩ := va_join (wr := []) (w1 := [(h0, .inr (22, [.int 1, .ref h1, .int 0, .ref h2, .int 0, .ref h3, .int 250, .ref h4, .int 0, .ref h5, .ref h6, .ref h7, .int 0, .ref h8, .ref h9, .ref h10, .int 0, .null, .int 0, .null, .int 0, .int 0, .int 0, .ref h11, .int 0, .ref h12, .ref h13, .ref h14, .int 0, .ref h15, .ref h16, .int 0]))]) hP hD [0] [] rfl rfl (by decide) (by decide) hk1 hFc hP1 hD1
  clear hP1 hD1 hPc hDc hFc hk1 hz1 hvm ht
  generalize H1 = H at hP hS ⊢
  have hP : va_P g.1 vwCl [(h0, .inr (22, [.int 1, .ref h1, .int 0, .ref h2, .int 0, .ref h3, .int 250, .ref h4, .int 0, .ref h5, .ref h6, .ref h7, .int 0, .ref h8, .ref h9, .ref h10, .int 0, .null, .int 0, .null, .int 0, .int 0, .int 0, .ref h11, .int 0, .ref h12, .ref h13, .ref h14, .int 0, .ref h15, .ref h16, .int 0]))] H := hP
  have hD : va_D A [(h0, .inr (22, [.int 1, .ref h1, .int 0, .ref h2, .int 0, .ref h3, .int 250, .ref h4, .int 0, .ref h5, .ref h6, .ref h7, .int 0, .ref h8, .ref h9, .ref h10, .int 0, .null, .int 0, .null, .int 0, .int 0, .int 0, .ref h11, .int 0, .ref h12, .ref h13, .ref h14, .int 0, .ref h15, .ref h16, .int 0]))] := hD
  refine lv_if_eq (tgt := 88) hx hb dX21_ways_83 (by decide) (fun c9 => absurd c9 (by decide)) (fun _ => ?_)
  refine lv_iconst (v := 0) hx hb dX21_ways_86 (by decide) ?_
  have hP9 := hP.sub (ws' := [(h0, .inr (22, [.int 1, .ref h1, .int 0, .ref h2, .int 0, .ref h3, .int 250, .ref h4, .int 0, .ref h5, .ref h6, .ref h7, .int 0, .ref h8, .ref h9, .ref h10, .int 0, .null, .int 0, .null, .int 0, .int 0, .int 0, .ref h11, .int 0, .ref h12, .ref h13, .ref h14, .int 0, .ref h15, .ref h16, .int 0]))]) [0] rfl
  have hD9 := hD.sub (ws' := [(h0, .inr (22, [.int 1, .ref h1, .int 0, .ref h2, .int 0, .ref h3, .int 250, .ref h4, .int 0, .ref h5, .ref h6, .ref h7, .int 0, .ref h8, .ref h9, .ref h10, .int 0, .null, .int 0, .null, .int 0, .int 0, .int 0, .ref h11, .int 0, .ref h12, .ref h13, .ref h14, .int 0, .ref h15, .ref h16, .int 0]))]) [0] (by decide) rfl
  subst hAe
  exact W.iret (v := 0) hx hb hr (fun t ht hW => ⟨⟨0, (), rfl, rfl, by rw [ht]; exact hP9, hD9⟩, hS.F ht⟩) hS.2.2 dX21_ways_87
def w9_X11_ways_2 : List Cond := [.code yX11_ways cX11_ways 4 (some .int), .methodLink RX11 124 yX11_needPattern, .instanceMethod yX11_needPattern, .selects RX11 yX11_needPattern yX11_needPattern, .initialized RX11, .code yX11_needPattern cX11_needPattern 2 none, .initialized "java/lang/Throwable", .superclass "java/lang/Throwable" "java/lang/Object", .instanceMethod Bundle.tFill, .codeSync Bundle.tFill LibCode.Throwable.Fill.code 1 (some (.object "java/lang/Throwable")), .instanceMethod Bundle.tFill0, .native Bundle.tFill0, .instanceMethod Bundle.tInit0, .code Bundle.tInit0 LibCode.Throwable.Init0.code 1 none, .instanceMethod Bundle.oInit, .code Bundle.oInit ⟨#[0xb1]⟩ 1 none, .methodLink "java/lang/Throwable" 1 Bundle.oInit, .methodLink "java/lang/Throwable" 27 Bundle.tFill, .methodLink "java/lang/Throwable" 202 Bundle.tFill0, .fieldLink "java/lang/Throwable" 7 "java/lang/Throwable" "cause" "Ljava/lang/Throwable;", .lays "java/lang/Throwable" "java/lang/Throwable" "cause" "Ljava/lang/Throwable;", .fieldLink "java/lang/Throwable" 17 "java/lang/Throwable" "stackTrace" "[Ljava/lang/StackTraceElement;", .lays "java/lang/Throwable" "java/lang/Throwable" "stackTrace" "[Ljava/lang/StackTraceElement;", .fieldLink "java/lang/Throwable" 24 "java/lang/Throwable" "suppressedExceptions" "Ljava/util/List;", .lays "java/lang/Throwable" "java/lang/Throwable" "suppressedExceptions" "Ljava/util/List;", .fieldLink "java/lang/Throwable" 13 "java/lang/Throwable" "UNASSIGNED_STACK" "[Ljava/lang/StackTraceElement;", .fieldLink "java/lang/Throwable" 20 "java/lang/Throwable" "SUPPRESSED_SENTINEL" "Ljava/util/List;", .lays "java/lang/Throwable" "java/lang/Throwable" "detailMessage" "Ljava/lang/String;", .instanceMethod (Bundle.initS "java/lang/Throwable"), .code (Bundle.initS "java/lang/Throwable") LibCode.Throwable.InitS.code 2 none, .fieldLink "java/lang/Throwable" 31 "java/lang/Throwable" "detailMessage" "Ljava/lang/String;", .instanceMethod (Bundle.initS "java/lang/IndexOutOfBoundsException"), .code (Bundle.initS "java/lang/IndexOutOfBoundsException") Bundle.six 2 none, .methodLink "java/lang/IndexOutOfBoundsException" 7 (Bundle.initS "java/lang/RuntimeException"), .instanceMethod (Bundle.initS "java/lang/RuntimeException"), .code (Bundle.initS "java/lang/RuntimeException") Bundle.six 2 none, .methodLink "java/lang/RuntimeException" 7 (Bundle.initS "java/lang/Exception"), .instanceMethod (Bundle.initS "java/lang/Exception"), .code (Bundle.initS "java/lang/Exception") Bundle.six 2 none, .methodLink "java/lang/Exception" 7 (Bundle.initS "java/lang/Throwable"), .methodLink RX11 224 (Bundle.initS "java/lang/IndexOutOfBoundsException"), .instantiable "java/lang/IndexOutOfBoundsException" 6, .selects "java/lang/IndexOutOfBoundsException" Bundle.tFill0 Bundle.tFill0, .selects "java/lang/IndexOutOfBoundsException" Bundle.tFill Bundle.tFill, .lays "java/lang/IndexOutOfBoundsException" "java/lang/Throwable" "cause" "Ljava/lang/Throwable;", .lays "java/lang/IndexOutOfBoundsException" "java/lang/Throwable" "stackTrace" "[Ljava/lang/StackTraceElement;", .lays "java/lang/IndexOutOfBoundsException" "java/lang/Throwable" "suppressedExceptions" "Ljava/util/List;", .lays "java/lang/IndexOutOfBoundsException" "java/lang/Throwable" "detailMessage" "Ljava/lang/String;", .fieldLink "java/lang/Throwable" 198 "java/lang/Throwable" "backtrace" "Ljava/lang/Object;", .lays "java/lang/Throwable" "java/lang/Throwable" "backtrace" "Ljava/lang/Object;", .lays "java/lang/IndexOutOfBoundsException" "java/lang/Throwable" "backtrace" "Ljava/lang/Object;", .classLink RX11 220 "java/lang/IndexOutOfBoundsException", .initialized "java/lang/IndexOutOfBoundsException"]
set_option maxRecDepth 20000 in
theorem g9_X11_ways_2_0 : GoodIn w9_X11_ways_2 (wsV RX11 124 RX11 yX11_needPattern w9_X11_needPattern_2) := goodIn_r _ [1, 2, 3, 4, 5, 6, 7, 8, 9, 10, 11, 12, 13, 14, 15, 16, 17, 18, 19, 20, 21, 22, 23, 24, 25, 26, 27, 28, 29, 30, 31, 32, 33, 34, 35, 36, 37, 38, 39, 40, 41, 42, 43, 44, 45, 46, 47, 48, 49, 50, 51, 52] (by decide +kernel) (by decide +kernel)
set_option maxHeartbeats 4000000 in
set_option maxRecDepth 100000 in
theorem c9_X11_ways_2 (l : Launch) (hlt : l.stackTraces = false) (g : G9) (h0 h1 h2 h3 h4 h5 h6 h7 h8 h9 h10 h11 h12 h13 sz : Nat) (v0 v1 v2 : Int32) (k_v0 : 4 ≤ v0.toInt ∧ v0.toInt ≤ 2147483647) (k_v1 : (-2147483648) ≤ v1.toInt ∧ v1.toInt ≤ 2147483647) (k_v2 : (-2147483648) ≤ v2.toInt ∧ v2.toInt ≤ 2147483647) : vx_Met l yX11_ways w9_X11_ways_2 ({ frames := 7, cells := 1, slots := 6, locals := 103 }) (mP g [(h0, .inr (12, [.ref h1, .int 0, .ref h2, .ref h3, .ref h4, .ref h5, .ref h6, .ref h7, .int (-1), .ref h8, .ref h9, .int 250, .ref h10, .int 0, .ref h11, .ref h12, .ref h13]))] sz [.ref h0, .int v0, .int v1, .int v2]) (va_Qv (fun _ : Unit => False) (fun _ _ => True) (va_A [(h0, .inr (12, [.ref h1, .int 0, .ref h2, .ref h3, .ref h4, .ref h5, .ref h6, .ref h7, .int (-1), .ref h8, .ref h9, .int 250, .ref h10, .int 0, .ref h11, .ref h12, .ref h13]))] sz)) (mT g [(h0, .inr (12, [.ref h1, .int 0, .ref h2, .ref h3, .ref h4, .ref h5, .ref h6, .ref h7, .int (-1), .ref h8, .ref h9, .int 250, .ref h10, .int 0, .ref h11, .ref h12, .ref h13]))] sz "java/lang/IndexOutOfBoundsException") 1 6 (va_A [(h0, .inr (12, [.ref h1, .int 0, .ref h2, .ref h3, .ref h4, .ref h5, .ref h6, .ref h7, .int (-1), .ref h8, .ref h9, .int 250, .ref h10, .int 0, .ref h11, .ref h12, .ref h13]))] sz) := by
  refine vx_ofW (cc := cX11_ways) (maxL := 4) (ret := (some .int)) (by decide) rfl ?_
  intro p e s m args below meth c s₁ B hml hno hv
  obtain ⟨rfl, hsz, hP, hD0, hE⟩ := hv
  have hx := B.exec
  have hb := B.bytes
  have hr := B.returns
  have hts := atoms_spec (ws := w9_X11_ways_2) B.pre
  have hown : s.vm.findClass RX11 = some m.cls := findClass_of_methodNamed B.named
  have hlocks := B.notSynchronized
  subst hsz
  have hD := hD0.self (sz := s.heap.size)
  generalize hAe : va_A [(h0, .inr (12, [.ref h1, .int 0, .ref h2, .ref h3, .ref h4, .ref h5, .ref h6, .ref h7, .int (-1), .ref h8, .ref h9, .int 250, .ref h10, .int 0, .ref h11, .ref h12, .ref h13]))] s.heap.size = A at hD hE ⊢
  have hA : ∀ q : Nat, s.heap.size ≤ q → A q := fun q h => by rw [← hAe]; exact Or.inr h
  have hK := hE.1
  have hS : va_S A s.heap s.heap [] := va_S.rf
  replace hP : va_P g.1 vwCl [(h0, .inr (12, [.ref h1, .int 0, .ref h2, .ref h3, .ref h4, .ref h5, .ref h6, .ref h7, .int (-1), .ref h8, .ref h9, .int 250, .ref h10, .int 0, .ref h11, .ref h12, .ref h13]))] s.heap := hP
  have hl := lv_entry ([.ref h0, .int v0, .int v1, .int v2]) (n := 4) (Nat.le_of_ble_eq_true rfl)
  rw [lg_entry_eq]
  generalize (lg_sl ([.ref h0, .int v0, .int v1, .int v2]) ++ List.replicate (4 - (lg_sl ([.ref h0, .int v0, .int v1, .int v2])).length) Slot.unset).toArray = ls at hl ⊢
  replace hl : lv_has ls 4 [(0, .ref h0), (1, .int v0), (2, .int v1), (3, .int v2)] := hl
  have hH0 : s.heap.size ≤ s.heap.size := Nat.le_refl _
  refine lv_aload_n hx hb dX11_ways_0 rfl (lv_at hl 0 rfl) ?_
  refine lv_iload_n hx hb dX11_ways_1 rfl (lv_at hl 1 rfl) ?_
  have hPc := hP.sub (ws' := [(h0, .inr (12, [.ref h1, .int 0, .ref h2, .ref h3, .ref h4, .ref h5, .ref h6, .ref h7, .int (-1), .ref h8, .ref h9, .int 250, .ref h10, .int 0, .ref h11, .ref h12, .ref h13]))]) [0] rfl
  have hDc := hD.sub (ws' := [(h0, .inr (12, [.ref h1, .int 0, .ref h2, .ref h3, .ref h4, .ref h5, .ref h6, .ref h7, .int (-1), .ref h8, .ref h9, .int 250, .ref h10, .int 0, .ref h11, .ref h12, .ref h13]))]) [0] (by decide) rfl
  have hFc := va_free (wc := [(h0, .inr (12, [.ref h1, .int 0, .ref h2, .ref h3, .ref h4, .ref h5, .ref h6, .ref h7, .int (-1), .ref h8, .ref h9, .int 250, .ref h10, .int 0, .ref h11, .ref h12, .ref h13]))]) hD hS hA [0] rfl
  refine vx_callv (vx_runV (As := [.int v0]) (rest := []) ⟨hx, hb, hml, hown, hts⟩ (c9_X11_needPattern_2 l hlt g h0 h1 h2 h3 h4 h5 h6 h7 h8 h9 h10 h11 h12 h13 _ v0 (by omega)) (cwV 1 hts g9_X11_ways_2_0 rfl rfl rfl (by decide +kernel) ⟨Nat.le_of_ble_eq_true rfl, Nat.le_of_ble_eq_true rfl⟩) (mPreV (g := g) (wc := [(h0, .inr (12, [.ref h1, .int 0, .ref h2, .ref h3, .ref h4, .ref h5, .ref h6, .ref h7, .int (-1), .ref h8, .ref h9, .int 250, .ref h10, .int 0, .ref h11, .ref h12, .ref h13]))]) (C := RX11) (ci := 12) (q0 := 0) hE hS hPc hDc hFc rfl rfl) rfl rfl hl.1 rfl (lv_room (Nat.le_of_ble_eq_true rfl)) dX11_ways_2 ⟨Nat.le_of_ble_eq_true rfl, Nat.le_of_ble_eq_true rfl⟩) hS (fun q _ h => hFc q h) hFc (fun q _ h => hFc q h) (fun E9 ce q9 u t H locs ht hvm hw hB hz1 hk1 hS hc1 hc2 hc3 => ?_) (fun u t H1 locs ht hvm hw hB hz1 hk1 hS => hw.elim)
  replace hB : E9 = "java/lang/IndexOutOfBoundsException" := hB
  subst hB
  exact vx_out (fun z hz => (hno z hz).elim) hlocks hc1 hc2 hc3 (fun t ht hW => ⟨(), trivial, rfl, by subst hAe; exact hS.F ht⟩) (by subst hAe; exact hS.2.2) (Nat.le_of_ble_eq_true rfl) (Nat.le_of_ble_eq_true rfl)
def w9_L_ways_2 : List Cond := [.codeWith yL_ways cL_ways 6 (some .int) [(0, 12, 15, 21), (0, 12, 19, 15)], .methodLink RL 61 yX11_ways, .instanceMethod yX11_ways, .selects RX11 yX11_ways yX11_ways, .initialized RX11, .code yX11_ways cX11_ways 4 (some .int), .methodLink RX11 124 yX11_needPattern, .instanceMethod yX11_needPattern, .selects RX11 yX11_needPattern yX11_needPattern, .code yX11_needPattern cX11_needPattern 2 none, .initialized "java/lang/Throwable", .superclass "java/lang/Throwable" "java/lang/Object", .instanceMethod Bundle.tFill, .codeSync Bundle.tFill LibCode.Throwable.Fill.code 1 (some (.object "java/lang/Throwable")), .instanceMethod Bundle.tFill0, .native Bundle.tFill0, .instanceMethod Bundle.tInit0, .code Bundle.tInit0 LibCode.Throwable.Init0.code 1 none, .instanceMethod Bundle.oInit, .code Bundle.oInit ⟨#[0xb1]⟩ 1 none, .methodLink "java/lang/Throwable" 1 Bundle.oInit, .methodLink "java/lang/Throwable" 27 Bundle.tFill, .methodLink "java/lang/Throwable" 202 Bundle.tFill0, .fieldLink "java/lang/Throwable" 7 "java/lang/Throwable" "cause" "Ljava/lang/Throwable;", .lays "java/lang/Throwable" "java/lang/Throwable" "cause" "Ljava/lang/Throwable;", .fieldLink "java/lang/Throwable" 17 "java/lang/Throwable" "stackTrace" "[Ljava/lang/StackTraceElement;", .lays "java/lang/Throwable" "java/lang/Throwable" "stackTrace" "[Ljava/lang/StackTraceElement;", .fieldLink "java/lang/Throwable" 24 "java/lang/Throwable" "suppressedExceptions" "Ljava/util/List;", .lays "java/lang/Throwable" "java/lang/Throwable" "suppressedExceptions" "Ljava/util/List;", .fieldLink "java/lang/Throwable" 13 "java/lang/Throwable" "UNASSIGNED_STACK" "[Ljava/lang/StackTraceElement;", .fieldLink "java/lang/Throwable" 20 "java/lang/Throwable" "SUPPRESSED_SENTINEL" "Ljava/util/List;", .lays "java/lang/Throwable" "java/lang/Throwable" "detailMessage" "Ljava/lang/String;", .instanceMethod (Bundle.initS "java/lang/Throwable"), .code (Bundle.initS "java/lang/Throwable") LibCode.Throwable.InitS.code 2 none, .fieldLink "java/lang/Throwable" 31 "java/lang/Throwable" "detailMessage" "Ljava/lang/String;", .instanceMethod (Bundle.initS "java/lang/IndexOutOfBoundsException"), .code (Bundle.initS "java/lang/IndexOutOfBoundsException") Bundle.six 2 none, .methodLink "java/lang/IndexOutOfBoundsException" 7 (Bundle.initS "java/lang/RuntimeException"), .instanceMethod (Bundle.initS "java/lang/RuntimeException"), .code (Bundle.initS "java/lang/RuntimeException") Bundle.six 2 none, .methodLink "java/lang/RuntimeException" 7 (Bundle.initS "java/lang/Exception"), .instanceMethod (Bundle.initS "java/lang/Exception"), .code (Bundle.initS "java/lang/Exception") Bundle.six 2 none, .methodLink "java/lang/Exception" 7 (Bundle.initS "java/lang/Throwable"), .methodLink RX11 224 (Bundle.initS "java/lang/IndexOutOfBoundsException"), .instantiable "java/lang/IndexOutOfBoundsException" 6, .selects "java/lang/IndexOutOfBoundsException" Bundle.tFill0 Bundle.tFill0, .selects "java/lang/IndexOutOfBoundsException" Bundle.tFill Bundle.tFill, .lays "java/lang/IndexOutOfBoundsException" "java/lang/Throwable" "cause" "Ljava/lang/Throwable;", .lays "java/lang/IndexOutOfBoundsException" "java/lang/Throwable" "stackTrace" "[Ljava/lang/StackTraceElement;", .lays "java/lang/IndexOutOfBoundsException" "java/lang/Throwable" "suppressedExceptions" "Ljava/util/List;", .lays "java/lang/IndexOutOfBoundsException" "java/lang/Throwable" "detailMessage" "Ljava/lang/String;", .fieldLink "java/lang/Throwable" 198 "java/lang/Throwable" "backtrace" "Ljava/lang/Object;", .lays "java/lang/Throwable" "java/lang/Throwable" "backtrace" "Ljava/lang/Object;", .lays "java/lang/IndexOutOfBoundsException" "java/lang/Throwable" "backtrace" "Ljava/lang/Object;", .classLink RX11 220 "java/lang/IndexOutOfBoundsException", .initialized "java/lang/IndexOutOfBoundsException", .classLink RL 21 "java/lang/IndexOutOfBoundsException"]
set_option maxRecDepth 20000 in
theorem g9_L_ways_2_0 : GoodIn w9_L_ways_2 (wsV RL 61 RX11 yX11_ways w9_X11_ways_2) := goodIn_r _ [1, 2, 3, 4, 5, 6, 7, 8, 4, 9, 10, 11, 12, 13, 14, 15, 16, 17, 18, 19, 20, 21, 22, 23, 24, 25, 26, 27, 28, 29, 30, 31, 32, 33, 34, 35, 36, 37, 38, 39, 40, 41, 42, 43, 44, 45, 46, 47, 48, 49, 50, 51, 52, 53, 54, 55, 56] (by decide +kernel) (by decide +kernel)
set_option maxHeartbeats 4000000 in
set_option maxRecDepth 100000 in
theorem c9_L_ways_2 (l : Launch) (hlt : l.stackTraces = false) (g : G9) (h0 h1 h2 h3 h4 h5 h6 h7 h8 h9 h10 h11 h12 h13 h14 sz : Nat) (v0 v1 v2 : Int32) (k_v0 : 4 ≤ v0.toInt ∧ v0.toInt ≤ 2147483647) (k_v1 : (-2147483648) ≤ v1.toInt ∧ v1.toInt ≤ 2147483647) (k_v2 : (-2147483648) ≤ v2.toInt ∧ v2.toInt ≤ 2147483647) : Met l yL_ways w9_L_ways_2 ({ frames := 8, cells := 1, slots := 6, locals := 126 }) (mP g [(h0, .inr (12, [.ref h2, .int 0, .ref h3, .ref h4, .ref h5, .ref h6, .ref h7, .ref h8, .int (-1), .ref h9, .ref h10, .int 250, .ref h11, .int 0, .ref h12, .ref h13, .ref h14]))] sz [.ref h0, .int v0, .int v1, .int v2, .ref h1]) (va_Qi (fun (r : Int32) (_ : Unit) => r = 1) (fun (_ : Unit) (t : State) => mB g [(h0, .inr (12, [.ref h2, .int 0, .ref h3, .ref h4, .ref h5, .ref h6, .ref h7, .ref h8, .int (-1), .ref h9, .ref h10, .int 250, .ref h11, .int 0, .ref h12, .ref h13, .ref h14]))] sz [] t) (va_A [(h0, .inr (12, [.ref h2, .int 0, .ref h3, .ref h4, .ref h5, .ref h6, .ref h7, .ref h8, .int (-1), .ref h9, .ref h10, .int 250, .ref h11, .int 0, .ref h12, .ref h13, .ref h14]))] sz)) 1 6 (va_A [(h0, .inr (12, [.ref h2, .int 0, .ref h3, .ref h4, .ref h5, .ref h6, .ref h7, .ref h8, .int (-1), .ref h9, .ref h10, .int 250, .ref h11, .int 0, .ref h12, .ref h13, .ref h14]))] sz) := by
  refine va_MetW (cc := cL_ways) (maxL := 6) (ret := (some .int)) (by decide) rfl ?_
  intro p e s m args below meth c s₁ B hml hv
  obtain ⟨rfl, hsz, hP, hD0, hE⟩ := hv
  have hx := B.exec
  have hb := B.bytes
  have hr := B.returns
  have hts := atoms_spec (ws := w9_L_ways_2) B.pre
  have hown : s.vm.findClass RL = some m.cls := findClass_of_methodNamed B.named
  have hlocks := B.notSynchronized
  have htab := vx_table (x := yL_ways) B (hts (.codeWith yL_ways cL_ways 6 (some .int) [(0, 12, 15, 21), (0, 12, 19, 15)]) (List.mem_of_getElem? (i := 0) rfl))
  subst hsz
  have hD := hD0.self (sz := s.heap.size)
  generalize hAe : va_A [(h0, .inr (12, [.ref h2, .int 0, .ref h3, .ref h4, .ref h5, .ref h6, .ref h7, .ref h8, .int (-1), .ref h9, .ref h10, .int 250, .ref h11, .int 0, .ref h12, .ref h13, .ref h14]))] s.heap.size = A at hD hE ⊢
  have hA : ∀ q : Nat, s.heap.size ≤ q → A q := fun q h => by rw [← hAe]; exact Or.inr h
  have hK := hE.1
  have hS : va_S A s.heap s.heap [] := va_S.rf
  replace hP : va_P g.1 vwCl [(h0, .inr (12, [.ref h2, .int 0, .ref h3, .ref h4, .ref h5, .ref h6, .ref h7, .ref h8, .int (-1), .ref h9, .ref h10, .int 250, .ref h11, .int 0, .ref h12, .ref h13, .ref h14]))] s.heap := hP
  have hl := lv_entry ([.ref h0, .int v0, .int v1, .int v2, .ref h1]) (n := 6) (Nat.le_of_ble_eq_true rfl)
  rw [lg_entry_eq]
  generalize (lg_sl ([.ref h0, .int v0, .int v1, .int v2, .ref h1]) ++ List.replicate (6 - (lg_sl ([.ref h0, .int v0, .int v1, .int v2, .ref h1])).length) Slot.unset).toArray = ls at hl ⊢
  replace hl : lv_has ls 6 [(0, .ref h0), (1, .int v0), (2, .int v1), (3, .int v2), (4, .ref h1)] := hl
  have hH0 : s.heap.size ≤ s.heap.size := Nat.le_refl _
  refine lv_aload hx hb dL_ways_0 (lv_at hl 4 rfl) ?_
  refine lv_iconst (v := 0) hx hb dL_ways_2 (by decide) ?_
  refine lv_aload_n hx hb dL_ways_3 rfl (lv_at hl 0 rfl) ?_
  refine lv_iload_n hx hb dL_ways_4 rfl (lv_at hl 1 rfl) ?_
  refine lv_iload_n hx hb dL_ways_5 rfl (lv_at hl 2 rfl) ?_
  refine lv_iload_n hx hb dL_ways_6 rfl (lv_at hl 3 rfl) ?_
  have hPc := hP.sub (ws' := [(h0, .inr (12, [.ref h2, .int 0, .ref h3, .ref h4, .ref h5, .ref h6, .ref h7, .ref h8, .int (-1), .ref h9, .ref h10, .int 250, .ref h11, .int 0, .ref h12, .ref h13, .ref h14]))]) [0] rfl
  have hDc := hD.sub (ws' := [(h0, .inr (12, [.ref h2, .int 0, .ref h3, .ref h4, .ref h5, .ref h6, .ref h7, .ref h8, .int (-1), .ref h9, .ref h10, .int 250, .ref h11, .int 0, .ref h12, .ref h13, .ref h14]))]) [0] (by decide) rfl
  have hFc := va_free (wc := [(h0, .inr (12, [.ref h2, .int 0, .ref h3, .ref h4, .ref h5, .ref h6, .ref h7, .ref h8, .int (-1), .ref h9, .ref h10, .int 250, .ref h11, .int 0, .ref h12, .ref h13, .ref h14]))]) hD hS hA [0] rfl
  refine vx_callv (vx_runV (As := [.int v0, .int v1, .int v2]) (rest := [.int 0, .ref h1]) ⟨hx, hb, hml, hown, hts⟩ (c9_X11_ways_2 l hlt g h0 h2 h3 h4 h5 h6 h7 h8 h9 h10 h11 h12 h13 h14 _ v0 v1 v2 (by omega) (by omega) (by omega)) (cwV 3 hts g9_L_ways_2_0 rfl rfl rfl (by decide +kernel) ⟨Nat.le_of_ble_eq_true rfl, Nat.le_of_ble_eq_true rfl⟩) (mPreV (g := g) (wc := [(h0, .inr (12, [.ref h2, .int 0, .ref h3, .ref h4, .ref h5, .ref h6, .ref h7, .ref h8, .int (-1), .ref h9, .ref h10, .int 250, .ref h11, .int 0, .ref h12, .ref h13, .ref h14]))]) (C := RX11) (ci := 12) (q0 := 0) hE hS hPc hDc hFc rfl rfl) rfl rfl hl.1 rfl (lv_room (Nat.le_of_ble_eq_true rfl)) dL_ways_7 ⟨Nat.le_of_ble_eq_true rfl, Nat.le_of_ble_eq_true rfl⟩) hS (fun q _ h => hFc q h) hFc (fun q _ h => hFc q h) (fun E9 ce q9 u t H locs ht hvm hw hB hz1 hk1 hS hc1 hc2 hc3 => ?_) (fun u t H1 locs ht hvm hw hB hz1 hk1 hS => hw.elim)
  replace hB : E9 = "java/lang/IndexOutOfBoundsException" := hB
  subst hB
  obtain ⟨hP, hD⟩ := va_join (wr := []) (w1 := []) hP hD [0] [] rfl rfl (by decide) (by decide) hk1 hFc (fun k q h => by simp at h) ⟨fun i j p q h => by simp at h, fun k q h => by simp at h⟩
  have hP : va_P g.1 vwCl [] H := hP
  have hD : va_D A [] := hD
  refine vx_catch (own := RL) (name := "java/lang/IndexOutOfBoundsException") hown [] ⟨0, 12, 15, 21⟩ [⟨0, 12, 19, 15⟩] (by rw [htab]; rfl) (fun z hz => absurd hz List.not_mem_nil) (by decide) (by decide) (hts (.classLink RL 21 "java/lang/IndexOutOfBoundsException") (List.mem_of_getElem? (i := 57) rfl)) (va_Nw.use rfl (hE.cast ("java/lang/IndexOutOfBoundsException", "java/lang/IndexOutOfBoundsException") (by decide))) hc1 hc2 hc3 ?_
  refine lv_astore (lv' := [(5, .ref q9), (0, .ref h0), (1, .int v0), (2, .int v1), (3, .int v2), (4, .ref h1)]) hx hb dL_ways_15 hl (by decide) rfl (fun ls hl => ?_)
  refine lv_iconst (v := 1) hx hb dL_ways_17 (by decide) ?_
  have hP9 := hP.sub (ws' := []) [] rfl
  have hD9 := hD.sub (ws' := []) [] (by decide) rfl
  subst hAe
  exact W.iret (v := 1) hx hb hr (fun t ht hW => ⟨⟨1, (), rfl, rfl, by rw [ht]; exact hP9, hD9⟩, hS.F ht⟩) hS.2.2 dL_ways_18
def w9_X21_ways_2 : List Cond := [.code yX21_ways cX21_ways 7 (some .int), .methodLink RX21 160 yX21_in, .static yX21_in, .initialized RX21, .code yX21_in cX21_in 3 (some .boolean), .methodLink RX21 154 yX21_refused, .instanceMethod yX21_refused, .selects RX21 yX21_refused yX21_refused, .code yX21_refused cX21_refused 2 (some .boolean), .fieldLink RX21 144 "RegexloomModel" "refusal" "I"] ++ (u_ws RX21 TX21 32)
set_option maxRecDepth 20000 in
theorem in9_X21_ways_2_RX21 : ∀ w ∈ u_ws RX21 TX21 32, w ∈ w9_X21_ways_2 := by decide +kernel
set_option maxRecDepth 20000 in
theorem g9_X21_ways_2_0 : GoodIn w9_X21_ways_2 (va_wsS RX21 160 yX21_in w9_X21_in_2) := goodIn_r _ [1, 2, 3, 4] (by decide +kernel) (by decide +kernel)
set_option maxRecDepth 20000 in
theorem g9_X21_ways_2_1 : GoodIn w9_X21_ways_2 (wsV RX21 154 RX21 yX21_refused w9_X21_refused_2) := goodIn_r _ [5, 6, 7, 3, 8, 9, 10, 11, 12, 13, 14, 15, 16, 17, 18, 19, 20, 21, 22, 23, 24, 25, 26, 27, 28, 29, 30, 31, 32, 33, 34, 35, 36, 37, 38, 39, 40, 41] (by decide +kernel) (by decide +kernel)
set_option maxHeartbeats 4000000 in
set_option maxRecDepth 100000 in
theorem c9_X21_ways_2 (l : Launch) (g : G9) (h0 h1 h2 h3 h4 h5 h6 h7 h8 h9 h10 h11 h12 h13 h14 h15 h16 sz : Nat) (v0 v1 v2 : Int32) (k_v0 : 4 ≤ v0.toInt ∧ v0.toInt ≤ 2147483647) (k_v1 : (-2147483648) ≤ v1.toInt ∧ v1.toInt ≤ 2147483647) (k_v2 : (-2147483648) ≤ v2.toInt ∧ v2.toInt ≤ 2147483647) : Met l yX21_ways w9_X21_ways_2 ({ frames := 1, cells := 0, slots := 0, locals := 22 }) (mP g [(h0, .inr (22, [.int 0, .ref h1, .int 0, .ref h2, .int 0, .ref h3, .int 250, .ref h4, .int 0, .ref h5, .ref h6, .ref h7, .int 0, .ref h8, .ref h9, .ref h10, .int 0, .null, .int 0, .null, .int 0, .int 0, .int 0, .ref h11, .int 0, .ref h12, .ref h13, .ref h14, .int 0, .ref h15, .ref h16, .int 0]))] sz [.ref h0, .int v0, .int v1, .int v2]) (va_Qi (fun (r : Int32) (_ : Unit) => r = 0) (fun (_ : Unit) (t : State) => mB g [(h0, .inr (22, [.int 0, .ref h1, .int 0, .ref h2, .int 0, .ref h3, .int 250, .ref h4, .int 0, .ref h5, .ref h6, .ref h7, .int 0, .ref h8, .ref h9, .ref h10, .int 0, .null, .int 0, .null, .int 0, .int 0, .int 0, .ref h11, .int 0, .ref h12, .ref h13, .ref h14, .int 0, .ref h15, .ref h16, .int 0]))] sz [(h0, .inr (22, [.int 1, .ref h1, .int 0, .ref h2, .int 0, .ref h3, .int 250, .ref h4, .int 0, .ref h5, .ref h6, .ref h7, .int 0, .ref h8, .ref h9, .ref h10, .int 0, .null, .int 0, .null, .int 0, .int 0, .int 0, .ref h11, .int 0, .ref h12, .ref h13, .ref h14, .int 0, .ref h15, .ref h16, .int 0]))] t) (va_A [(h0, .inr (22, [.int 0, .ref h1, .int 0, .ref h2, .int 0, .ref h3, .int 250, .ref h4, .int 0, .ref h5, .ref h6, .ref h7, .int 0, .ref h8, .ref h9, .ref h10, .int 0, .null, .int 0, .null, .int 0, .int 0, .int 0, .ref h11, .int 0, .ref h12, .ref h13, .ref h14, .int 0, .ref h15, .ref h16, .int 0]))] sz)) 0 0 (va_A [(h0, .inr (22, [.int 0, .ref h1, .int 0, .ref h2, .int 0, .ref h3, .int 250, .ref h4, .int 0, .ref h5, .ref h6, .ref h7, .int 0, .ref h8, .ref h9, .ref h10, .int 0, .null, .int 0, .null, .int 0, .int 0, .int 0, .ref h11, .int 0, .ref h12, .ref h13, .ref h14, .int 0, .ref h15, .ref h16, .int 0]))] sz) := by
  refine Met.ofW (cc := cX21_ways) (maxL := 7) (ret := (some .int)) (by decide) rfl ?_
  intro p e s m args below meth c s₁ B hml hv
  obtain ⟨rfl, hsz, hP, hD0, hE⟩ := hv
  have hx := B.exec
  have hb := B.bytes
  have hr := B.returns
  have hts := atoms_spec (ws := w9_X21_ways_2) B.pre
  have hown : s.vm.findClass RX21 = some m.cls := findClass_of_methodNamed B.named
  have hlocks := B.notSynchronized
  subst hsz
  have hD := hD0.self (sz := s.heap.size)
  generalize hAe : va_A [(h0, .inr (22, [.int 0, .ref h1, .int 0, .ref h2, .int 0, .ref h3, .int 250, .ref h4, .int 0, .ref h5, .ref h6, .ref h7, .int 0, .ref h8, .ref h9, .ref h10, .int 0, .null, .int 0, .null, .int 0, .int 0, .int 0, .ref h11, .int 0, .ref h12, .ref h13, .ref h14, .int 0, .ref h15, .ref h16, .int 0]))] s.heap.size = A at hD hE ⊢
  have hA : ∀ q : Nat, s.heap.size ≤ q → A q := fun q h => by rw [← hAe]; exact Or.inr h
  have hK := hE.1
  have hS : va_S A s.heap s.heap [] := va_S.rf
  replace hP : va_P g.1 vwCl [(h0, .inr (22, [.int 0, .ref h1, .int 0, .ref h2, .int 0, .ref h3, .int 250, .ref h4, .int 0, .ref h5, .ref h6, .ref h7, .int 0, .ref h8, .ref h9, .ref h10, .int 0, .null, .int 0, .null, .int 0, .int 0, .int 0, .ref h11, .int 0, .ref h12, .ref h13, .ref h14, .int 0, .ref h15, .ref h16, .int 0]))] s.heap := hP
  have hl := lv_entry ([.ref h0, .int v0, .int v1, .int v2]) (n := 7) (Nat.le_of_ble_eq_true rfl)
  rw [lg_entry_eq]
  generalize (lg_sl ([.ref h0, .int v0, .int v1, .int v2]) ++ List.replicate (7 - (lg_sl ([.ref h0, .int v0, .int v1, .int v2])).length) Slot.unset).toArray = ls at hl ⊢
  replace hl : lv_has ls 7 [(0, .ref h0), (1, .int v0), (2, .int v1), (3, .int v2)] := hl
  have hH0 : s.heap.size ≤ s.heap.size := Nat.le_refl _
  refine lv_iload_n hx hb dX21_ways_0 rfl (lv_at hl 1 rfl) ?_
  refine lv_iconst (v := 0) hx hb dX21_ways_1 (by decide) ?_
  refine lv_iconst (v := 3) hx hb dX21_ways_2 (by decide) ?_
  have hPc := hP.sub (ws' := []) [] rfl
  have hDc := hD.sub (ws' := []) [] (by decide) rfl
  have hFc := va_free (wc := []) hD hS hA [] rfl
  refine va_calli (va_runS (As := [.int v0, .int 0, .int 3]) (rest := []) ⟨hx, hb, hml, hown, hts⟩ (c9_X21_in_2 l g _ v0 (by omega)) (va_cwS 3 hts g9_X21_ways_2_0 rfl rfl rfl (by decide +kernel) ⟨Nat.le_of_ble_eq_true rfl, Nat.le_of_ble_eq_true rfl⟩) (mPreS (g := g) (wc := []) hE hS hPc hDc hFc) rfl rfl hl.1 rfl (lv_room (Nat.le_of_ble_eq_true rfl)) dX21_ways_3 ⟨Nat.le_of_ble_eq_true rfl, Nat.le_of_ble_eq_true rfl⟩) hS (fun q _ h => hFc q h) hFc (fun r_1 u t H1 locs ht hvm hw hB hz1 hk1 hS => ?_)
  replace hw : 0 = r_1 := Eq.symm hw
  subst hw
  obtain ⟨hP1, hD1⟩ := hB
  rw [ht] at hP1
  obtain ⟨hP, hD⟩ := va_join (wr := [(h0, .inr (22, [.int 0, .ref h1, .int 0, .ref h2, .int 0, .ref h3, .int 250, .ref h4, .int 0, .ref h5, .ref h6, .ref h7, .int 0, .ref h8, .ref h9, .ref h10, .int 0, .null, .int 0, .null, .int 0, .int 0, .int 0, .ref h11, .int 0, .ref h12, .ref h13, .ref h14, .int 0, .ref h15, .ref h16, .int 0]))]) (w1 := []) hP hD [] [0] rfl rfl (by decide) (by decide) hk1 hFc hP1 hD1
  clear hP1 hD1 hPc hDc hFc hk1 hz1 hvm ht
  generalize H1 = H at hP hS ⊢
  have hP : va_P g.1 vwCl [(h0, .inr (22, [.int 0, .ref h1, .int 0, .ref h2, .int 0, .ref h3, .int 250, .ref h4, .int 0, .ref h5, .ref h6, .ref h7, .int 0, .ref h8, .ref h9, .ref h10, .int 0, .null, .int 0, .null, .int 0, .int 0, .int 0, .ref h11, .int 0, .ref h12, .ref h13, .ref h14, .int 0, .ref h15, .ref h16, .int 0]))] H := hP
  have hD : va_D A [(h0, .inr (22, [.int 0, .ref h1, .int 0, .ref h2, .int 0, .ref h3, .int 250, .ref h4, .int 0, .ref h5, .ref h6, .ref h7, .int 0, .ref h8, .ref h9, .ref h10, .int 0, .null, .int 0, .null, .int 0, .int 0, .int 0, .ref h11, .int 0, .ref h12, .ref h13, .ref h14, .int 0, .ref h15, .ref h16, .int 0]))] := hD
  refine lv_if_eq (tgt := 37) hx hb dX21_ways_6 (by decide) (fun _ => ?_) (fun c9 => absurd (by decide) c9)
  refine lv_iconst (v := 0) hx hb dX21_ways_37 (by decide) ?_
  refine lv_istore (lv' := [(4, .int 0), (0, .ref h0), (1, .int v0), (2, .int v1), (3, .int v2)]) hx hb dX21_ways_38 hl (by decide) rfl (fun ls hl => ?_)
  refine lv_iload hx hb dX21_ways_40 (lv_at hl 0 rfl) ?_
  refine lv_if_ne (tgt := 49) hx hb dX21_ways_42 (by decide) (fun c9 => absurd (by decide) c9) (fun _ => ?_)
  refine lv_iconst (v := 1) hx hb dX21_ways_45 (by decide) ?_
  refine lv_goto (tgt := 75) hx hb dX21_ways_46 (by decide) ?_
  refine lv_istore (lv' := [(5, .int 1), (4, .int 0), (0, .ref h0), (1, .int v0), (2, .int v1), (3, .int v2)]) hx hb dX21_ways_75 hl (by decide) rfl (fun ls hl => ?_)
  refine lv_aload_n hx hb dX21_ways_77 rfl (lv_at hl 2 rfl) ?_
  refine lv_iload hx hb dX21_ways_78 (lv_at hl 0 rfl) ?_
  have hPc := hP.sub (ws' := [(h0, .inr (22, [.int 0, .ref h1, .int 0, .ref h2, .int 0, .ref h3, .int 250, .ref h4, .int 0, .ref h5, .ref h6, .ref h7, .int 0, .ref h8, .ref h9, .ref h10, .int 0, .null, .int 0, .null, .int 0, .int 0, .int 0, .ref h11, .int 0, .ref h12, .ref h13, .ref h14, .int 0, .ref h15, .ref h16, .int 0]))]) [0] rfl
  have hDc := hD.sub (ws' := [(h0, .inr (22, [.int 0, .ref h1, .int 0, .ref h2, .int 0, .ref h3, .int 250, .ref h4, .int 0, .ref h5, .ref h6, .ref h7, .int 0, .ref h8, .ref h9, .ref h10, .int 0, .null, .int 0, .null, .int 0, .int 0, .int 0, .ref h11, .int 0, .ref h12, .ref h13, .ref h14, .int 0, .ref h15, .ref h16, .int 0]))]) [0] (by decide) rfl
  have hFc := va_free (wc := [(h0, .inr (22, [.int 0, .ref h1, .int 0, .ref h2, .int 0, .ref h3, .int 250, .ref h4, .int 0, .ref h5, .ref h6, .ref h7, .int 0, .ref h8, .ref h9, .ref h10, .int 0, .null, .int 0, .null, .int 0, .int 0, .int 0, .ref h11, .int 0, .ref h12, .ref h13, .ref h14, .int 0, .ref h15, .ref h16, .int 0]))]) hD hS hA [0] rfl
  refine va_calli (va_runV (As := [.int 1]) (rest := []) ⟨hx, hb, hml, hown, hts⟩ (c9_X21_refused_2 l g h0 h1 h2 h3 h4 h5 h6 h7 h8 h9 h10 h11 h12 h13 h14 h15 h16 _) (cwV 1 hts g9_X21_ways_2_1 rfl rfl rfl (by decide +kernel) ⟨Nat.le_of_ble_eq_true rfl, Nat.le_of_ble_eq_true rfl⟩) (mPreV (g := g) (wc := [(h0, .inr (22, [.int 0, .ref h1, .int 0, .ref h2, .int 0, .ref h3, .int 250, .ref h4, .int 0, .ref h5, .ref h6, .ref h7, .int 0, .ref h8, .ref h9, .ref h10, .int 0, .null, .int 0, .null, .int 0, .int 0, .int 0, .ref h11, .int 0, .ref h12, .ref h13, .ref h14, .int 0, .ref h15, .ref h16, .int 0]))]) (C := RX21) (ci := 22) (q0 := 0) hE hS hPc hDc hFc rfl rfl) rfl rfl hl.1 rfl (lv_room (Nat.le_of_ble_eq_true rfl)) dX21_ways_80 ⟨Nat.le_of_ble_eq_true rfl, Nat.le_of_ble_eq_true rfl⟩) hS (fun q _ h => hFc q h) hFc (fun r_2 u t H1 locs ht hvm hw hB hz1 hk1 hS => ?_)
  replace hw : 1 = r_2 := Eq.symm hw
  subst hw
  obtain ⟨hP1, hD1⟩ := hB
  rw [ht] at hP1
  obtain ⟨hP, hD⟩ := va_join (wr := []) (w1 := [(h0, .inr (22, [.int 1, .ref h1, .int 0, .ref h2, .int 0, .ref h3, .int 250, .ref h4, .int 0, .ref h5, .ref h6, .ref h7, .int 0, .ref h8, .ref h9, .ref h10, .int 0, .null, .int 0, .null, .int 0, .int 0, .int 0, .ref h11, .int 0, .ref h12, .ref h13, .ref h14, .int 0, .ref h15, .ref h16, .int 0]))]) hP hD [0] [] rfl rfl (by decide) (by decide) hk1 hFc hP1 hD1
  clear hP1 hD1 hPc hDc hFc hk1 hz1 hvm ht
  generalize H1 = H at hP hS ⊢
  have hP : va_P g.1 vwCl [(h0, .inr (22, [.int 1, .ref h1, .int 0, .ref h2, .int 0, .ref h3, .int 250, .ref h4, .int 0, .ref h5, .ref h6, .ref h7, .int 0, .ref h8, .ref h9, .ref h10, .int 0, .null, .int 0, .null, .int 0, .int 0, .int 0, .ref h11, .int 0, .ref h12, .ref h13, .ref h14, .int 0, .ref h15, .ref h16, .int 0]))] H := hP
  have hD : va_D A [(h0, .inr (22, [.int 1, .ref h1, .int 0, .ref h2, .int 0, .ref h3, .int 250, .ref h4, .int 0, .ref h5, .ref h6, .ref h7, .int 0, .ref h8, .ref h9, .ref h10, .int 0, .null, .int 0, .null, .int 0, .int 0, .int 0, .ref h11, .int 0, .ref h12, .ref h13, .ref h14, .int 0, .ref h15, .ref h16, .int 0]))] := hD
  refine lv_if_eq (tgt := 88) hx hb dX21_ways_83 (by decide) (fun c9 => absurd c9 (by decide)) (fun _ => ?_)
  refine lv_iconst (v := 0) hx hb dX21_ways_86 (by decide) ?_
  have hP9 := hP.sub (ws' := [(h0, .inr (22, [.int 1, .ref h1, .int 0, .ref h2, .int 0, .ref h3, .int 250, .ref h4, .int 0, .ref h5, .ref h6, .ref h7, .int 0, .ref h8, .ref h9, .ref h10, .int 0, .null, .int 0, .null, .int 0, .int 0, .int 0, .ref h11, .int 0, .ref h12, .ref h13, .ref h14, .int 0, .ref h15, .ref h16, .int 0]))]) [0] rfl
  have hD9 := hD.sub (ws' := [(h0, .inr (22, [.int 1, .ref h1, .int 0, .ref h2, .int 0, .ref h3, .int 250, .ref h4, .int 0, .ref h5, .ref h6, .ref h7, .int 0, .ref h8, .ref h9, .ref h10, .int 0, .null, .int 0, .null, .int 0, .int 0, .int 0, .ref h11, .int 0, .ref h12, .ref h13, .ref h14, .int 0, .ref h15, .ref h16, .int 0]))]) [0] (by decide) rfl
  subst hAe
  exact W.iret (v := 0) hx hb hr (fun t ht hW => ⟨⟨0, (), rfl, rfl, by rw [ht]; exact hP9, hD9⟩, hS.F ht⟩) hS.2.2 dX21_ways_87
def w9_X11_ways_3 : List Cond := [.code yX11_ways cX11_ways 4 (some .int), .methodLink RX11 124 yX11_needPattern, .instanceMethod yX11_needPattern, .selects RX11 yX11_needPattern yX11_needPattern, .initialized RX11, .code yX11_needPattern cX11_needPattern 2 none, .methodLink RX11 180 yX11_needPlace, .instanceMethod yX11_needPlace, .selects RX11 yX11_needPlace yX11_needPlace, .code yX11_needPlace cX11_needPlace 2 none, .initialized "java/lang/Throwable", .superclass "java/lang/Throwable" "java/lang/Object", .instanceMethod Bundle.tFill, .codeSync Bundle.tFill LibCode.Throwable.Fill.code 1 (some (.object "java/lang/Throwable")), .instanceMethod Bundle.tFill0, .native Bundle.tFill0, .instanceMethod Bundle.tInit0, .code Bundle.tInit0 LibCode.Throwable.Init0.code 1 none, .instanceMethod Bundle.oInit, .code Bundle.oInit ⟨#[0xb1]⟩ 1 none, .methodLink "java/lang/Throwable" 1 Bundle.oInit, .methodLink "java/lang/Throwable" 27 Bundle.tFill, .methodLink "java/lang/Throwable" 202 Bundle.tFill0, .fieldLink "java/lang/Throwable" 7 "java/lang/Throwable" "cause" "Ljava/lang/Throwable;", .lays "java/lang/Throwable" "java/lang/Throwable" "cause" "Ljava/lang/Throwable;", .fieldLink "java/lang/Throwable" 17 "java/lang/Throwable" "stackTrace" "[Ljava/lang/StackTraceElement;", .lays "java/lang/Throwable" "java/lang/Throwable" "stackTrace" "[Ljava/lang/StackTraceElement;", .fieldLink "java/lang/Throwable" 24 "java/lang/Throwable" "suppressedExceptions" "Ljava/util/List;", .lays "java/lang/Throwable" "java/lang/Throwable" "suppressedExceptions" "Ljava/util/List;", .fieldLink "java/lang/Throwable" 13 "java/lang/Throwable" "UNASSIGNED_STACK" "[Ljava/lang/StackTraceElement;", .fieldLink "java/lang/Throwable" 20 "java/lang/Throwable" "SUPPRESSED_SENTINEL" "Ljava/util/List;", .lays "java/lang/Throwable" "java/lang/Throwable" "detailMessage" "Ljava/lang/String;", .instanceMethod (Bundle.initS "java/lang/Throwable"), .code (Bundle.initS "java/lang/Throwable") LibCode.Throwable.InitS.code 2 none, .fieldLink "java/lang/Throwable" 31 "java/lang/Throwable" "detailMessage" "Ljava/lang/String;", .instanceMethod (Bundle.initS "java/lang/IndexOutOfBoundsException"), .code (Bundle.initS "java/lang/IndexOutOfBoundsException") Bundle.six 2 none, .methodLink "java/lang/IndexOutOfBoundsException" 7 (Bundle.initS "java/lang/RuntimeException"), .instanceMethod (Bundle.initS "java/lang/RuntimeException"), .code (Bundle.initS "java/lang/RuntimeException") Bundle.six 2 none, .methodLink "java/lang/RuntimeException" 7 (Bundle.initS "java/lang/Exception"), .instanceMethod (Bundle.initS "java/lang/Exception"), .code (Bundle.initS "java/lang/Exception") Bundle.six 2 none, .methodLink "java/lang/Exception" 7 (Bundle.initS "java/lang/Throwable"), .methodLink RX11 224 (Bundle.initS "java/lang/IndexOutOfBoundsException"), .instantiable "java/lang/IndexOutOfBoundsException" 6, .selects "java/lang/IndexOutOfBoundsException" Bundle.tFill0 Bundle.tFill0, .selects "java/lang/IndexOutOfBoundsException" Bundle.tFill Bundle.tFill, .lays "java/lang/IndexOutOfBoundsException" "java/lang/Throwable" "cause" "Ljava/lang/Throwable;", .lays "java/lang/IndexOutOfBoundsException" "java/lang/Throwable" "stackTrace" "[Ljava/lang/StackTraceElement;", .lays "java/lang/IndexOutOfBoundsException" "java/lang/Throwable" "suppressedExceptions" "Ljava/util/List;", .lays "java/lang/IndexOutOfBoundsException" "java/lang/Throwable" "detailMessage" "Ljava/lang/String;", .fieldLink "java/lang/Throwable" 198 "java/lang/Throwable" "backtrace" "Ljava/lang/Object;", .lays "java/lang/Throwable" "java/lang/Throwable" "backtrace" "Ljava/lang/Object;", .lays "java/lang/IndexOutOfBoundsException" "java/lang/Throwable" "backtrace" "Ljava/lang/Object;", .classLink RX11 220 "java/lang/IndexOutOfBoundsException", .initialized "java/lang/IndexOutOfBoundsException"]
set_option maxRecDepth 20000 in
theorem g9_X11_ways_3_0 : GoodIn w9_X11_ways_3 (wsV RX11 124 RX11 yX11_needPattern w9_X11_needPattern_7) := goodIn_r _ [1, 2, 3, 4, 5] (by decide +kernel) (by decide +kernel)
set_option maxRecDepth 20000 in
theorem g9_X11_ways_3_1 : GoodIn w9_X11_ways_3 (wsV RX11 180 RX11 yX11_needPlace w9_X11_needPlace_1) := goodIn_r _ [6, 7, 8, 4, 9, 10, 11, 12, 13, 14, 15, 16, 17, 18, 19, 20, 21, 22, 23, 24, 25, 26, 27, 28, 29, 30, 31, 32, 33, 34, 35, 36, 37, 38, 39, 40, 41, 42, 43, 44, 45, 46, 47, 48, 49, 50, 51, 52, 53, 54, 55, 56] (by decide +kernel) (by decide +kernel)
set_option maxHeartbeats 4000000 in
set_option maxRecDepth 100000 in
theorem c9_X11_ways_3 (l : Launch) (hlt : l.stackTraces = false) (g : G9) (h0 h1 h2 h3 h4 h5 h6 h7 h8 h9 h10 h11 h12 h13 sz : Nat) (v0 v1 v2 : Int32) (k_v0 : 0 ≤ v0.toInt ∧ v0.toInt ≤ 3) (k_v1 : (-2147483648) ≤ v1.toInt ∧ v1.toInt ≤ (-1)) (k_v2 : (-2147483648) ≤ v2.toInt ∧ v2.toInt ≤ 2147483647) : vx_Met l yX11_ways w9_X11_ways_3 ({ frames := 7, cells := 1, slots := 6, locals := 103 }) (mP g [(h0, .inr (12, [.ref h1, .int 0, .ref h2, .ref h3, .ref h4, .ref h5, .ref h6, .ref h7, .int (-1), .ref h8, .ref h9, .int 250, .ref h10, .int 0, .ref h11, .ref h12, .ref h13]))] sz [.ref h0, .int v0, .int v1, .int v2]) (va_Qv (fun _ : Unit => False) (fun _ _ => True) (va_A [(h0, .inr (12, [.ref h1, .int 0, .ref h2, .ref h3, .ref h4, .ref h5, .ref h6, .ref h7, .int (-1), .ref h8, .ref h9, .int 250, .ref h10, .int 0, .ref h11, .ref h12, .ref h13]))] sz)) (mT g [(h0, .inr (12, [.ref h1, .int 0, .ref h2, .ref h3, .ref h4, .ref h5, .ref h6, .ref h7, .int (-1), .ref h8, .ref h9, .int 250, .ref h10, .int 0, .ref h11, .ref h12, .ref h13]))] sz "java/lang/IndexOutOfBoundsException") 1 6 (va_A [(h0, .inr (12, [.ref h1, .int 0, .ref h2, .ref h3, .ref h4, .ref h5, .ref h6, .ref h7, .int (-1), .ref h8, .ref h9, .int 250, .ref h10, .int 0, .ref h11, .ref h12, .ref h13]))] sz) := by
  refine vx_ofW (cc := cX11_ways) (maxL := 4) (ret := (some .int)) (by decide) rfl ?_
  intro p e s m args below meth c s₁ B hml hno hv
  obtain ⟨rfl, hsz, hP, hD0, hE⟩ := hv
  have hx := B.exec
  have hb := B.bytes
  have hr := B.returns
  have hts := atoms_spec (ws := w9_X11_ways_3) B.pre
  have hown : s.vm.findClass RX11 = some m.cls := findClass_of_methodNamed B.named
  have hlocks := B.notSynchronized
  subst hsz
  have hD := hD0.self (sz := s.heap.size)
  generalize hAe : va_A [(h0, .inr (12, [.ref h1, .int 0, .ref h2, .ref h3, .ref h4, .ref h5, .ref h6, .ref h7, .int (-1), .ref h8, .ref h9, .int 250, .ref h10, .int 0, .ref h11, .ref h12, .ref h13]))] s.heap.size = A at hD hE ⊢
  have hA : ∀ q : Nat, s.heap.size ≤ q → A q := fun q h => by rw [← hAe]; exact Or.inr h
  have hK := hE.1
  have hS : va_S A s.heap s.heap [] := va_S.rf
  replace hP : va_P g.1 vwCl [(h0, .inr (12, [.ref h1, .int 0, .ref h2, .ref h3, .ref h4, .ref h5, .ref h6, .ref h7, .int (-1), .ref h8, .ref h9, .int 250, .ref h10, .int 0, .ref h11, .ref h12, .ref h13]))] s.heap := hP
  have hl := lv_entry ([.ref h0, .int v0, .int v1, .int v2]) (n := 4) (Nat.le_of_ble_eq_true rfl)
  rw [lg_entry_eq]
  generalize (lg_sl ([.ref h0, .int v0, .int v1, .int v2]) ++ List.replicate (4 - (lg_sl ([.ref h0, .int v0, .int v1, .int v2])).length) Slot.unset).toArray = ls at hl ⊢
  replace hl : lv_has ls 4 [(0, .ref h0), (1, .int v0), (2, .int v1), (3, .int v2)] := hl
  have hH0 : s.heap.size ≤ s.heap.size := Nat.le_refl _
  refine lv_aload_n hx hb dX11_ways_0 rfl (lv_at hl 0 rfl) ?_
  refine lv_iload_n hx hb dX11_ways_1 rfl (lv_at hl 1 rfl) ?_
  have hPc := hP.sub (ws' := [(h0, .inr (12, [.ref h1, .int 0, .ref h2, .ref h3, .ref h4, .ref h5, .ref h6, .ref h7, .int (-1), .ref h8, .ref h9, .int 250, .ref h10, .int 0, .ref h11, .ref h12, .ref h13]))]) [0] rfl
  have hDc := hD.sub (ws' := [(h0, .inr (12, [.ref h1, .int 0, .ref h2, .ref h3, .ref h4, .ref h5, .ref h6, .ref h7, .int (-1), .ref h8, .ref h9, .int 250, .ref h10, .int 0, .ref h11, .ref h12, .ref h13]))]) [0] (by decide) rfl
  have hFc := va_free (wc := [(h0, .inr (12, [.ref h1, .int 0, .ref h2, .ref h3, .ref h4, .ref h5, .ref h6, .ref h7, .int (-1), .ref h8, .ref h9, .int 250, .ref h10, .int 0, .ref h11, .ref h12, .ref h13]))]) hD hS hA [0] rfl
  refine va_callv (va_runV (As := [.int v0]) (rest := []) ⟨hx, hb, hml, hown, hts⟩ (c9_X11_needPattern_7 l g h0 h1 h2 h3 h4 h5 h6 h7 h8 h9 h10 h11 h12 h13 _ v0 (by omega)) (cwV 1 hts g9_X11_ways_3_0 rfl rfl rfl (by decide +kernel) ⟨Nat.le_of_ble_eq_true rfl, Nat.le_of_ble_eq_true rfl⟩) (mPreV (g := g) (wc := [(h0, .inr (12, [.ref h1, .int 0, .ref h2, .ref h3, .ref h4, .ref h5, .ref h6, .ref h7, .int (-1), .ref h8, .ref h9, .int 250, .ref h10, .int 0, .ref h11, .ref h12, .ref h13]))]) (C := RX11) (ci := 12) (q0 := 0) hE hS hPc hDc hFc rfl rfl) rfl rfl hl.1 rfl (lv_room (Nat.le_of_ble_eq_true rfl)) dX11_ways_2 ⟨Nat.le_of_ble_eq_true rfl, Nat.le_of_ble_eq_true rfl⟩) hS (fun q _ h => hFc q h) hFc (fun u t H1 locs ht hvm hw hB hz1 hk1 hS => ?_)
  obtain ⟨hP1, hD1⟩ := hB
  rw [ht] at hP1
  obtain ⟨hP, hD⟩ := va_join (wr := []) (w1 := [(h0, .inr (12, [.ref h1, .int 0, .ref h2, .ref h3, .ref h4, .ref h5, .ref h6, .ref h7, .int (-1), .ref h8, .ref h9, .int 250, .ref h10, .int 0, .ref h11, .ref h12, .ref h13]))]) hP hD [0] [] rfl rfl (by decide) (by decide) hk1 hFc hP1 hD1
  clear hP1 hD1 hPc hDc hFc hk1 hz1 hvm ht
  generalize H1 = H at hP hS ⊢
  have hP : va_P g.1 vwCl [(h0, .inr (12, [.ref h1, .int 0, .ref h2, .ref h3, .ref h4, .ref h5, .ref h6, .ref h7, .int (-1), .ref h8, .ref h9, .int 250, .ref h10, .int 0, .ref h11, .ref h12, .ref h13]))] H := hP
  have hD : va_D A [(h0, .inr (12, [.ref h1, .int 0, .ref h2, .ref h3, .ref h4, .ref h5, .ref h6, .ref h7, .int (-1), .ref h8, .ref h9, .int 250, .ref h10, .int 0, .ref h11, .ref h12, .ref h13]))] := hD
  refine lv_aload_n hx hb dX11_ways_5 rfl (lv_at hl 0 rfl) ?_
  refine lv_iload_n hx hb dX11_ways_6 rfl (lv_at hl 2 rfl) ?_
  have hPc := hP.sub (ws' := [(h0, .inr (12, [.ref h1, .int 0, .ref h2, .ref h3, .ref h4, .ref h5, .ref h6, .ref h7, .int (-1), .ref h8, .ref h9, .int 250, .ref h10, .int 0, .ref h11, .ref h12, .ref h13]))]) [0] rfl
  have hDc := hD.sub (ws' := [(h0, .inr (12, [.ref h1, .int 0, .ref h2, .ref h3, .ref h4, .ref h5, .ref h6, .ref h7, .int (-1), .ref h8, .ref h9, .int 250, .ref h10, .int 0, .ref h11, .ref h12, .ref h13]))]) [0] (by decide) rfl
  have hFc := va_free (wc := [(h0, .inr (12, [.ref h1, .int 0, .ref h2, .ref h3, .ref h4, .ref h5, .ref h6, .ref h7, .int (-1), .ref h8, .ref h9, .int 250, .ref h10, .int 0, .ref h11, .ref h12, .ref h13]))]) hD hS hA [0] rfl
  refine vx_callv (vx_runV (As := [.int v1]) (rest := []) ⟨hx, hb, hml, hown, hts⟩ (c9_X11_needPlace_1 l hlt g h0 h1 h2 h3 h4 h5 h6 h7 h8 h9 h10 h11 h12 h13 _ v1 (by omega)) (cwV 1 hts g9_X11_ways_3_1 rfl rfl rfl (by decide +kernel) ⟨Nat.le_of_ble_eq_true rfl, Nat.le_of_ble_eq_true rfl⟩) (mPreV (g := g) (wc := [(h0, .inr (12, [.ref h1, .int 0, .ref h2, .ref h3, .ref h4, .ref h5, .ref h6, .ref h7, .int (-1), .ref h8, .ref h9, .int 250, .ref h10, .int 0, .ref h11, .ref h12, .ref h13]))]) (C := RX11) (ci := 12) (q0 := 0) hE hS hPc hDc hFc rfl rfl) rfl rfl hl.1 rfl (lv_room (Nat.le_of_ble_eq_true rfl)) dX11_ways_7 ⟨Nat.le_of_ble_eq_true rfl, Nat.le_of_ble_eq_true rfl⟩) hS (fun q _ h => hFc q h) hFc (fun q _ h => hFc q h) (fun E9 ce q9 u t H locs ht hvm hw hB hz1 hk1 hS hc1 hc2 hc3 => ?_) (fun u t H1 locs ht hvm hw hB hz1 hk1 hS => hw.elim)
  replace hB : E9 = "java/lang/IndexOutOfBoundsException" := hB
  subst hB
  exact vx_out (fun z hz => (hno z hz).elim) hlocks hc1 hc2 hc3 (fun t ht hW => ⟨(), trivial, rfl, by subst hAe; exact hS.F ht⟩) (by subst hAe; exact hS.2.2) (Nat.le_of_ble_eq_true rfl) (Nat.le_of_ble_eq_true rfl)
def w9_L_ways_3 : List Cond := [.codeWith yL_ways cL_ways 6 (some .int) [(0, 12, 15, 21), (0, 12, 19, 15)], .methodLink RL 61 yX11_ways, .instanceMethod yX11_ways, .selects RX11 yX11_ways yX11_ways, .initialized RX11, .code yX11_ways cX11_ways 4 (some .int), .methodLink RX11 124 yX11_needPattern, .instanceMethod yX11_needPattern, .selects RX11 yX11_needPattern yX11_needPattern, .code yX11_needPattern cX11_needPattern 2 none, .methodLink RX11 180 yX11_needPlace, .instanceMethod yX11_needPlace, .selects RX11 yX11_needPlace yX11_needPlace, .code yX11_needPlace cX11_needPlace 2 none, .initialized "java/lang/Throwable", .superclass "java/lang/Throwable" "java/lang/Object", .instanceMethod Bundle.tFill, .codeSync Bundle.tFill LibCode.Throwable.Fill.code 1 (some (.object "java/lang/Throwable")), .instanceMethod Bundle.tFill0, .native Bundle.tFill0, .instanceMethod Bundle.tInit0, .code Bundle.tInit0 LibCode.Throwable.Init0.code 1 none, .instanceMethod Bundle.oInit, .code Bundle.oInit ⟨#[0xb1]⟩ 1 none, .methodLink "java/lang/Throwable" 1 Bundle.oInit, .methodLink "java/lang/Throwable" 27 Bundle.tFill, .methodLink "java/lang/Throwable" 202 Bundle.tFill0, .fieldLink "java/lang/Throwable" 7 "java/lang/Throwable" "cause" "Ljava/lang/Throwable;", .lays "java/lang/Throwable" "java/lang/Throwable" "cause" "Ljava/lang/Throwable;", .fieldLink "java/lang/Throwable" 17 "java/lang/Throwable" "stackTrace" "[Ljava/lang/StackTraceElement;", .lays "java/lang/Throwable" "java/lang/Throwable" "stackTrace" "[Ljava/lang/StackTraceElement;", .fieldLink "java/lang/Throwable" 24 "java/lang/Throwable" "suppressedExceptions" "Ljava/util/List;", .lays "java/lang/Throwable" "java/lang/Throwable" "suppressedExceptions" "Ljava/util/List;", .fieldLink "java/lang/Throwable" 13 "java/lang/Throwable" "UNASSIGNED_STACK" "[Ljava/lang/StackTraceElement;", .fieldLink "java/lang/Throwable" 20 "java/lang/Throwable" "SUPPRESSED_SENTINEL" "Ljava/util/List;", .lays "java/lang/Throwable" "java/lang/Throwable" "detailMessage" "Ljava/lang/String;", .instanceMethod (Bundle.initS "java/lang/Throwable"), .code (Bundle.initS "java/lang/Throwable") LibCode.Throwable.InitS.code 2 none, .fieldLink "java/lang/Throwable" 31 "java/lang/Throwable" "detailMessage" "Ljava/lang/String;", .instanceMethod (Bundle.initS "java/lang/IndexOutOfBoundsException"), .code (Bundle.initS "java/lang/IndexOutOfBoundsException") Bundle.six 2 none, .methodLink "java/lang/IndexOutOfBoundsException" 7 (Bundle.initS "java/lang/RuntimeException"), .instanceMethod (Bundle.initS "java/lang/RuntimeException"), .code (Bundle.initS "java/lang/RuntimeException") Bundle.six 2 none, .methodLink "java/lang/RuntimeException" 7 (Bundle.initS "java/lang/Exception"), .instanceMethod (Bundle.initS "java/lang/Exception"), .code (Bundle.initS "java/lang/Exception") Bundle.six 2 none, .methodLink "java/lang/Exception" 7 (Bundle.initS "java/lang/Throwable"), .methodLink RX11 224 (Bundle.initS "java/lang/IndexOutOfBoundsException"), .instantiable "java/lang/IndexOutOfBoundsException" 6, .selects "java/lang/IndexOutOfBoundsException" Bundle.tFill0 Bundle.tFill0, .selects "java/lang/IndexOutOfBoundsException" Bundle.tFill Bundle.tFill, .lays "java/lang/IndexOutOfBoundsException" "java/lang/Throwable" "cause" "Ljava/lang/Throwable;", .lays "java/lang/IndexOutOfBoundsException" "java/lang/Throwable" "stackTrace" "[Ljava/lang/StackTraceElement;", .lays "java/lang/IndexOutOfBoundsException" "java/lang/Throwable" "suppressedExceptions" "Ljava/util/List;", .lays "java/lang/IndexOutOfBoundsException" "java/lang/Throwable" "detailMessage" "Ljava/lang/String;", .fieldLink "java/lang/Throwable" 198 "java/lang/Throwable" "backtrace" "Ljava/lang/Object;", .lays "java/lang/Throwable" "java/lang/Throwable" "backtrace" "Ljava/lang/Object;", .lays "java/lang/IndexOutOfBoundsException" "java/lang/Throwable" "backtrace" "Ljava/lang/Object;", .classLink RX11 220 "java/lang/IndexOutOfBoundsException", .initialized "java/lang/IndexOutOfBoundsException", .classLink RL 21 "java/lang/IndexOutOfBoundsException"]
set_option maxRecDepth 20000 in
theorem g9_L_ways_3_0 : GoodIn w9_L_ways_3 (wsV RL 61 RX11 yX11_ways w9_X11_ways_3) := goodIn_r _ [1, 2, 3, 4, 5, 6, 7, 8, 4, 9, 10, 11, 12, 13, 14, 15, 16, 17, 18, 19, 20, 21, 22, 23, 24, 25, 26, 27, 28, 29, 30, 31, 32, 33, 34, 35, 36, 37, 38, 39, 40, 41, 42, 43, 44, 45, 46, 47, 48, 49, 50, 51, 52, 53, 54, 55, 56, 57, 58, 59, 60] (by decide +kernel) (by decide +kernel)
set_option maxHeartbeats 4000000 in
set_option maxRecDepth 100000 in
theorem c9_L_ways_3 (l : Launch) (hlt : l.stackTraces = false) (g : G9) (h0 h1 h2 h3 h4 h5 h6 h7 h8 h9 h10 h11 h12 h13 h14 sz : Nat) (v0 v1 v2 : Int32) (k_v0 : 0 ≤ v0.toInt ∧ v0.toInt ≤ 3) (k_v1 : (-2147483648) ≤ v1.toInt ∧ v1.toInt ≤ (-1)) (k_v2 : (-2147483648) ≤ v2.toInt ∧ v2.toInt ≤ 2147483647) : Met l yL_ways w9_L_ways_3 ({ frames := 8, cells := 1, slots := 6, locals := 126 }) (mP g [(h0, .inr (12, [.ref h2, .int 0, .ref h3, .ref h4, .ref h5, .ref h6, .ref h7, .ref h8, .int (-1), .ref h9, .ref h10, .int 250, .ref h11, .int 0, .ref h12, .ref h13, .ref h14]))] sz [.ref h0, .int v0, .int v1, .int v2, .ref h1]) (va_Qi (fun (r : Int32) (_ : Unit) => r = 1) (fun (_ : Unit) (t : State) => mB g [(h0, .inr (12, [.ref h2, .int 0, .ref h3, .ref h4, .ref h5, .ref h6, .ref h7, .ref h8, .int (-1), .ref h9, .ref h10, .int 250, .ref h11, .int 0, .ref h12, .ref h13, .ref h14]))] sz [] t) (va_A [(h0, .inr (12, [.ref h2, .int 0, .ref h3, .ref h4, .ref h5, .ref h6, .ref h7, .ref h8, .int (-1), .ref h9, .ref h10, .int 250, .ref h11, .int 0, .ref h12, .ref h13, .ref h14]))] sz)) 1 6 (va_A [(h0, .inr (12, [.ref h2, .int 0, .ref h3, .ref h4, .ref h5, .ref h6, .ref h7, .ref h8, .int (-1), .ref h9, .ref h10, .int 250, .ref h11, .int 0, .ref h12, .ref h13, .ref h14]))] sz) := by
  refine va_MetW (cc := cL_ways) (maxL := 6) (ret := (some .int)) (by decide) rfl ?_
  intro p e s m args below meth c s₁ B hml hv
  obtain ⟨rfl, hsz, hP, hD0, hE⟩ := hv
  have hx := B.exec
  have hb := B.bytes
  have hr := B.returns
  have hts := atoms_spec (ws := w9_L_ways_3) B.pre
  have hown : s.vm.findClass RL = some m.cls := findClass_of_methodNamed B.named
  have hlocks := B.notSynchronized
  have htab := vx_table (x := yL_ways) B (hts (.codeWith yL_ways cL_ways 6 (some .int) [(0, 12, 15, 21), (0, 12, 19, 15)]) (List.mem_of_getElem? (i := 0) rfl))
  subst hsz
  have hD := hD0.self (sz := s.heap.size)
  generalize hAe : va_A [(h0, .inr (12, [.ref h2, .int 0, .ref h3, .ref h4, .ref h5, .ref h6, .ref h7, .ref h8, .int (-1), .ref h9, .ref h10, .int 250, .ref h11, .int 0, .ref h12, .ref h13, .ref h14]))] s.heap.size = A at hD hE ⊢
  have hA : ∀ q : Nat, s.heap.size ≤ q → A q := fun q h => by rw [← hAe]; exact Or.inr h
  have hK := hE.1
  have hS : va_S A s.heap s.heap [] := va_S.rf
  replace hP : va_P g.1 vwCl [(h0, .inr (12, [.ref h2, .int 0, .ref h3, .ref h4, .ref h5, .ref h6, .ref h7, .ref h8, .int (-1), .ref h9, .ref h10, .int 250, .ref h11, .int 0, .ref h12, .ref h13, .ref h14]))] s.heap := hP
  have hl := lv_entry ([.ref h0, .int v0, .int v1, .int v2, .ref h1]) (n := 6) (Nat.le_of_ble_eq_true rfl)
  rw [lg_entry_eq]
  generalize (lg_sl ([.ref h0, .int v0, .int v1, .int v2, .ref h1]) ++ List.replicate (6 - (lg_sl ([.ref h0, .int v0, .int v1, .int v2, .ref h1])).length) Slot.unset).toArray = ls at hl ⊢
  replace hl : lv_has ls 6 [(0, .ref h0), (1, .int v0), (2, .int v1), (3, .int v2), (4, .ref h1)] := hl
  have hH0 : s.heap.size ≤ s.heap.size := Nat.le_refl _
  refine lv_aload hx hb dL_ways_0 (lv_at hl 4 rfl) ?_
  refine lv_iconst (v := 0) hx hb dL_ways_2 (by decide) ?_
  refine lv_aload_n hx hb dL_ways_3 rfl (lv_at hl 0 rfl) ?_
  refine lv_iload_n hx hb dL_ways_4 rfl (lv_at hl 1 rfl) ?_
  refine lv_iload_n hx hb dL_ways_5 rfl (lv_at hl 2 rfl) ?_
  refine lv_iload_n hx hb dL_ways_6 rfl (lv_at hl 3 rfl) ?_
  have hPc := hP.sub (ws' := [(h0, .inr (12, [.ref h2, .int 0, .ref h3, .ref h4, .ref h5, .ref h6, .ref h7, .ref h8, .int (-1), .ref h9, .ref h10, .int 250, .ref h11, .int 0, .ref h12, .ref h13, .ref h14]))]) [0] rfl
  have hDc := hD.sub (ws' := [(h0, .inr (12, [.ref h2, .int 0, .ref h3, .ref h4, .ref h5, .ref h6, .ref h7, .ref h8, .int (-1), .ref h9, .ref h10, .int 250, .ref h11, .int 0, .ref h12, .ref h13, .ref h14]))]) [0] (by decide) rfl
  have hFc := va_free (wc := [(h0, .inr (12, [.ref h2, .int 0, .ref h3, .ref h4, .ref h5, .ref h6, .ref h7, .ref h8, .int (-1), .ref h9, .ref h10, .int 250, .ref h11, .int 0, .ref h12, .ref h13, .ref h14]))]) hD hS hA [0] rfl
  refine vx_callv (vx_runV (As := [.int v0, .int v1, .int v2]) (rest := [.int 0, .ref h1]) ⟨hx, hb, hml, hown, hts⟩ (c9_X11_ways_3 l hlt g h0 h2 h3 h4 h5 h6 h7 h8 h9 h10 h11 h12 h13 h14 _ v0 v1 v2 (by omega) (by omega) (by omega)) (cwV 3 hts g9_L_ways_3_0 rfl rfl rfl (by decide +kernel) ⟨Nat.le_of_ble_eq_true rfl, Nat.le_of_ble_eq_true rfl⟩) (mPreV (g := g) (wc := [(h0, .inr (12, [.ref h2, .int 0, .ref h3, .ref h4, .ref h5, .ref h6, .ref h7, .ref h8, .int (-1), .ref h9, .ref h10, .int 250, .ref h11, .int 0, .ref h12, .ref h13, .ref h14]))]) (C := RX11) (ci := 12) (q0 := 0) hE hS hPc hDc hFc rfl rfl) rfl rfl hl.1 rfl (lv_room (Nat.le_of_ble_eq_true rfl)) dL_ways_7 ⟨Nat.le_of_ble_eq_true rfl, Nat.le_of_ble_eq_true rfl⟩) hS (fun q _ h => hFc q h) hFc (fun q _ h => hFc q h) (fun E9 ce q9 u t H locs ht hvm hw hB hz1 hk1 hS hc1 hc2 hc3 => ?_) (fun u t H1 locs ht hvm hw hB hz1 hk1 hS => hw.elim)
  replace hB : E9 = "java/lang/IndexOutOfBoundsException" := hB
  subst hB
  obtain ⟨hP, hD⟩ := va_join (wr := []) (w1 := []) hP hD [0] [] rfl rfl (by decide) (by decide) hk1 hFc (fun k q h => by simp at h) ⟨fun i j p q h => by simp at h, fun k q h => by simp at h⟩
  have hP : va_P g.1 vwCl [] H := hP
  have hD : va_D A [] := hD
  refine vx_catch (own := RL) (name := "java/lang/IndexOutOfBoundsException") hown [] ⟨0, 12, 15, 21⟩ [⟨0, 12, 19, 15⟩] (by rw [htab]; rfl) (fun z hz => absurd hz List.not_mem_nil) (by decide) (by decide) (hts (.classLink RL 21 "java/lang/IndexOutOfBoundsException") (List.mem_of_getElem? (i := 61) rfl)) (va_Nw.use rfl (hE.cast ("java/lang/IndexOutOfBoundsException", "java/lang/IndexOutOfBoundsException") (by decide))) hc1 hc2 hc3 ?_
  refine lv_astore (lv' := [(5, .ref q9), (0, .ref h0), (1, .int v0), (2, .int v1), (3, .int v2), (4, .ref h1)]) hx hb dL_ways_15 hl (by decide) rfl (fun ls hl => ?_)
  refine lv_iconst (v := 1) hx hb dL_ways_17 (by decide) ?_
  have hP9 := hP.sub (ws' := []) [] rfl
  have hD9 := hD.sub (ws' := []) [] (by decide) rfl
  subst hAe
  exact W.iret (v := 1) hx hb hr (fun t ht hW => ⟨⟨1, (), rfl, rfl, by rw [ht]; exact hP9, hD9⟩, hS.F ht⟩) hS.2.2 dL_ways_18
def w9_X21_ways_3 : List Cond := [.code yX21_ways cX21_ways 7 (some .int), .methodLink RX21 160 yX21_in, .static yX21_in, .initialized RX21, .code yX21_in cX21_in 3 (some .boolean), .fieldLink RX21 196 "RegexloomModel" "length" "I", .methodLink RX21 154 yX21_refused, .instanceMethod yX21_refused, .selects RX21 yX21_refused yX21_refused, .code yX21_refused cX21_refused 2 (some .boolean), .fieldLink RX21 144 "RegexloomModel" "refusal" "I"] ++ (u_ws RX21 TX21 32)
set_option maxRecDepth 20000 in
theorem in9_X21_ways_3_RX21 : ∀ w ∈ u_ws RX21 TX21 32, w ∈ w9_X21_ways_3 := by decide +kernel
set_option maxRecDepth 20000 in
theorem g9_X21_ways_3_0 : GoodIn w9_X21_ways_3 (va_wsS RX21 160 yX21_in w9_X21_in_7) := goodIn_r _ [1, 2, 3, 4] (by decide +kernel) (by decide +kernel)
set_option maxRecDepth 20000 in
theorem g9_X21_ways_3_1 : GoodIn w9_X21_ways_3 (va_wsS RX21 160 yX21_in w9_X21_in_11) := goodIn_r _ [1, 2, 3, 4] (by decide +kernel) (by decide +kernel)
set_option maxRecDepth 20000 in
theorem g9_X21_ways_3_2 : GoodIn w9_X21_ways_3 (wsV RX21 154 RX21 yX21_refused w9_X21_refused_2) := goodIn_r _ [6, 7, 8, 3, 9, 10, 11, 12, 13, 14, 15, 16, 17, 18, 19, 20, 21, 22, 23, 24, 25, 26, 27, 28, 29, 30, 31, 32, 33, 34, 35, 36, 37, 38, 39, 40, 41, 42] (by decide +kernel) (by decide +kernel)
set_option maxHeartbeats 4000000 in
set_option maxRecDepth 100000 in
theorem c9_X21_ways_3 (l : Launch) (g : G9) (h0 h1 h2 h3 h4 h5 h6 h7 h8 h9 h10 h11 h12 h13 h14 h15 h16 sz : Nat) (v0 v1 v2 : Int32) (k_v0 : 0 ≤ v0.toInt ∧ v0.toInt ≤ 3) (k_v1 : (-2147483648) ≤ v1.toInt ∧ v1.toInt ≤ (-1)) (k_v2 : (-2147483648) ≤ v2.toInt ∧ v2.toInt ≤ 2147483647) : Met l yX21_ways w9_X21_ways_3 ({ frames := 1, cells := 0, slots := 0, locals := 22 }) (mP g [(h0, .inr (22, [.int 0, .ref h1, .int 0, .ref h2, .int 0, .ref h3, .int 250, .ref h4, .int 0, .ref h5, .ref h6, .ref h7, .int 0, .ref h8, .ref h9, .ref h10, .int 0, .null, .int 0, .null, .int 0, .int 0, .int 0, .ref h11, .int 0, .ref h12, .ref h13, .ref h14, .int 0, .ref h15, .ref h16, .int 0]))] sz [.ref h0, .int v0, .int v1, .int v2]) (va_Qi (fun (r : Int32) (_ : Unit) => r = 0) (fun (_ : Unit) (t : State) => mB g [(h0, .inr (22, [.int 0, .ref h1, .int 0, .ref h2, .int 0, .ref h3, .int 250, .ref h4, .int 0, .ref h5, .ref h6, .ref h7, .int 0, .ref h8, .ref h9, .ref h10, .int 0, .null, .int 0, .null, .int 0, .int 0, .int 0, .ref h11, .int 0, .ref h12, .ref h13, .ref h14, .int 0, .ref h15, .ref h16, .int 0]))] sz [(h0, .inr (22, [.int 1, .ref h1, .int 0, .ref h2, .int 0, .ref h3, .int 250, .ref h4, .int 0, .ref h5, .ref h6, .ref h7, .int 0, .ref h8, .ref h9, .ref h10, .int 0, .null, .int 0, .null, .int 0, .int 0, .int 0, .ref h11, .int 0, .ref h12, .ref h13, .ref h14, .int 0, .ref h15, .ref h16, .int 0]))] t) (va_A [(h0, .inr (22, [.int 0, .ref h1, .int 0, .ref h2, .int 0, .ref h3, .int 250, .ref h4, .int 0, .ref h5, .ref h6, .ref h7, .int 0, .ref h8, .ref h9, .ref h10, .int 0, .null, .int 0, .null, .int 0, .int 0, .int 0, .ref h11, .int 0, .ref h12, .ref h13, .ref h14, .int 0, .ref h15, .ref h16, .int 0]))] sz)) 0 0 (va_A [(h0, .inr (22, [.int 0, .ref h1, .int 0, .ref h2, .int 0, .ref h3, .int 250, .ref h4, .int 0, .ref h5, .ref h6, .ref h7, .int 0, .ref h8, .ref h9, .ref h10, .int 0, .null, .int 0, .null, .int 0, .int 0, .int 0, .ref h11, .int 0, .ref h12, .ref h13, .ref h14, .int 0, .ref h15, .ref h16, .int 0]))] sz) := by
  refine Met.ofW (cc := cX21_ways) (maxL := 7) (ret := (some .int)) (by decide) rfl ?_
  intro p e s m args below meth c s₁ B hml hv
  obtain ⟨rfl, hsz, hP, hD0, hE⟩ := hv
  have hx := B.exec
  have hb := B.bytes
  have hr := B.returns
  have hts := atoms_spec (ws := w9_X21_ways_3) B.pre
  have hown : s.vm.findClass RX21 = some m.cls := findClass_of_methodNamed B.named
  have hlocks := B.notSynchronized
  subst hsz
  have hD := hD0.self (sz := s.heap.size)
  generalize hAe : va_A [(h0, .inr (22, [.int 0, .ref h1, .int 0, .ref h2, .int 0, .ref h3, .int 250, .ref h4, .int 0, .ref h5, .ref h6, .ref h7, .int 0, .ref h8, .ref h9, .ref h10, .int 0, .null, .int 0, .null, .int 0, .int 0, .int 0, .ref h11, .int 0, .ref h12, .ref h13, .ref h14, .int 0, .ref h15, .ref h16, .int 0]))] s.heap.size = A at hD hE ⊢
  have hA : ∀ q : Nat, s.heap.size ≤ q → A q := fun q h => by rw [← hAe]; exact Or.inr h
  have hK := hE.1
  have hS : va_S A s.heap s.heap [] := va_S.rf
  replace hP : va_P g.1 vwCl [(h0, .inr (22, [.int 0, .ref h1, .int 0, .ref h2, .int 0, .ref h3, .int 250, .ref h4, .int 0, .ref h5, .ref h6, .ref h7, .int 0, .ref h8, .ref h9, .ref h10, .int 0, .null, .int 0, .null, .int 0, .int 0, .int 0, .ref h11, .int 0, .ref h12, .ref h13, .ref h14, .int 0, .ref h15, .ref h16, .int 0]))] s.heap := hP
  have hl := lv_entry ([.ref h0, .int v0, .int v1, .int v2]) (n := 7) (Nat.le_of_ble_eq_true rfl)
  rw [lg_entry_eq]
  generalize (lg_sl ([.ref h0, .int v0, .int v1, .int v2]) ++ List.replicate (7 - (lg_sl ([.ref h0, .int v0, .int v1, .int v2])).length) Slot.unset).toArray = ls at hl ⊢
  replace hl : lv_has ls 7 [(0, .ref h0), (1, .int v0), (2, .int v1), (3, .int v2)] := hl
  have hH0 : s.heap.size ≤ s.heap.size := Nat.le_refl _
  refine lv_iload_n hx hb dX21_ways_0 rfl (lv_at hl 1 rfl) ?_
  refine lv_iconst (v := 0) hx hb dX21_ways_1 (by decide) ?_
  refine lv_iconst (v := 3) hx hb dX21_ways_2 (by decide) ?_
  have hPc := hP.sub (ws' := []) [] rfl
  have hDc := hD.sub (ws' := []) [] (by decide) rfl
  have hFc := va_free (wc := []) hD hS hA [] rfl
  refine va_calli (va_runS (As := [.int v0, .int 0, .int 3]) (rest := []) ⟨hx, hb, hml, hown, hts⟩ (c9_X21_in_7 l g _ v0 (by omega)) (va_cwS 3 hts g9_X21_ways_3_0 rfl rfl rfl (by decide +kernel) ⟨Nat.le_of_ble_eq_true rfl, Nat.le_of_ble_eq_true rfl⟩) (mPreS (g := g) (wc := []) hE hS hPc hDc hFc) rfl rfl hl.1 rfl (lv_room (Nat.le_of_ble_eq_true rfl)) dX21_ways_3 ⟨Nat.le_of_ble_eq_true rfl, Nat.le_of_ble_eq_true rfl⟩) hS (fun q _ h => hFc q h) hFc (fun r_1 u t H1 locs ht hvm hw hB hz1 hk1 hS => ?_)
  replace hw : 1 = r_1 := Eq.symm hw
  subst hw
  obtain ⟨hP1, hD1⟩ := hB
  rw [ht] at hP1
  obtain ⟨hP, hD⟩ := va_join (wr := [(h0, .inr (22, [.int 0, .ref h1, .int 0, .ref h2, .int 0, .ref h3, .int 250, .ref h4, .int 0, .ref h5, .ref h6, .ref h7, .int 0, .ref h8, .ref h9, .ref h10, .int 0, .null, .int 0, .null, .int 0, .int 0, .int 0, .ref h11, .int 0, .ref h12, .ref h13, .ref h14, .int 0, .ref h15, .ref h16, .int 0]))]) (w1 := []) hP hD [] [0] rfl rfl (by decide) (by decide) hk1 hFc hP1 hD1
  clear hP1 hD1 hPc hDc hFc hk1 hz1 hvm ht
  generalize H1 = H at hP hS ⊢
  have hP : va_P g.1 vwCl [(h0, .inr (22, [.int 0, .ref h1, .int 0, .ref h2, .int 0, .ref h3, .int 250, .ref h4, .int 0, .ref h5, .ref h6, .ref h7, .int 0, .ref h8, .ref h9, .ref h10, .int 0, .null, .int 0, .null, .int 0, .int 0, .int 0, .ref h11, .int 0, .ref h12, .ref h13, .ref h14, .int 0, .ref h15, .ref h16, .int 0]))] H := hP
  have hD : va_D A [(h0, .inr (22, [.int 0, .ref h1, .int 0, .ref h2, .int 0, .ref h3, .int 250, .ref h4, .int 0, .ref h5, .ref h6, .ref h7, .int 0, .ref h8, .ref h9, .ref h10, .int 0, .null, .int 0, .null, .int 0, .int 0, .int 0, .ref h11, .int 0, .ref h12, .ref h13, .ref h14, .int 0, .ref h15, .ref h16, .int 0]))] := hD
  refine lv_if_eq (tgt := 37) hx hb dX21_ways_6 (by decide) (fun c9 => absurd c9 (by decide)) (fun _ => ?_)
  refine lv_iload_n hx hb dX21_ways_9 rfl (lv_at hl 2 rfl) ?_
  refine lv_iconst (v := 0) hx hb dX21_ways_10 (by decide) ?_
  refine lv_aload_n hx hb dX21_ways_11 rfl (lv_at hl 0 rfl) ?_
  refine va_get (D := g.1) (ci := 22) (v := .int 0) (C := RX21) (T := TX21) (N := 32) hx hb hts in9_X21_ways_3_RX21 hown hK hP 0 rfl rfl 4 (by decide) (hts (.fieldLink RX21 196 "RegexloomModel" "length" "I") (List.mem_of_getElem? (i := 5) rfl)) (fun _ h9 => h9) rfl dX21_ways_12 ?_
  have hPc := hP.sub (ws' := []) [] rfl
  have hDc := hD.sub (ws' := []) [] (by decide) rfl
  have hFc := va_free (wc := []) hD hS hA [] rfl
  refine va_calli (va_runS (As := [.int v1, .int 0, .int 0]) (rest := []) ⟨hx, hb, hml, hown, hts⟩ (c9_X21_in_11 l g _ v1 (by omega)) (va_cwS 3 hts g9_X21_ways_3_1 rfl rfl rfl (by decide +kernel) ⟨Nat.le_of_ble_eq_true rfl, Nat.le_of_ble_eq_true rfl⟩) (mPreS (g := g) (wc := []) hE hS hPc hDc hFc) rfl rfl hl.1 rfl (lv_room (Nat.le_of_ble_eq_true rfl)) dX21_ways_15 ⟨Nat.le_of_ble_eq_true rfl, Nat.le_of_ble_eq_true rfl⟩) hS (fun q _ h => hFc q h) hFc (fun r_2 u t H1 locs ht hvm hw hB hz1 hk1 hS => ?_)
  replace hw : 0 = r_2 := Eq.symm hw
  subst hw
  obtain ⟨hP1, hD1⟩ := hB
  rw [ht] at hP1
  obtain ⟨hP, hD⟩ := va_join (wr := [(h0, .inr (22, [.int 0, .ref h1, .int 0, .ref h2, .int 0, .ref h3, .int 250, .ref h4, .int 0, .ref h5, .ref h6, .ref h7, .int 0, .ref h8, .ref h9, .ref h10, .int 0, .null, .int 0, .null, .int 0, .int 0, .int 0, .ref h11, .int 0, .ref h12, .ref h13, .ref h14, .int 0, .ref h15, .ref h16, .int 0]))]) (w1 := []) hP hD [] [0] rfl rfl (by decide) (by decide) hk1 hFc hP1 hD1
  clear hP1 hD1 hPc hDc hFc hk1 hz1 hvm ht
  generalize H1 = H at hP hS ⊢
  have hP : va_P g.1 vwCl [(h0, .inr (22, [.int 0, .ref h1, .int 0, .ref h2, .int 0, .ref h3, .int 250, .ref h4, .int 0, .ref h5, .ref h6, .ref h7, .int 0, .ref h8, .ref h9, .ref h10, .int 0, .null, .int 0, .null, .int 0, .int 0, .int 0, .ref h11, .int 0, .ref h12, .ref h13, .ref h14, .int 0, .ref h15, .ref h16, .int 0]))] H := hP
  have hD : va_D A [(h0, .inr (22, [.int 0, .ref h1, .int 0, .ref h2, .int 0, .ref h3, .int 250, .ref h4, .int 0, .ref h5, .ref h6, .ref h7, .int 0, .ref h8, .ref h9, .ref h10, .int 0, .null, .int 0, .null, .int 0, .int 0, .int 0, .ref h11, .int 0, .ref h12, .ref h13, .ref h14, .int 0, .ref h15, .ref h16, .int 0]))] := hD
  refine lv_if_eq (tgt := 37) hx hb dX21_ways_18 (by decide) (fun _ => ?_) (fun c9 => absurd (by decide) c9)
  refine lv_iconst (v := 0) hx hb dX21_ways_37 (by decide) ?_
  refine lv_istore (lv' := [(4, .int 0), (0, .ref h0), (1, .int v0), (2, .int v1), (3, .int v2)]) hx hb dX21_ways_38 hl (by decide) rfl (fun ls hl => ?_)
  refine lv_iload hx hb dX21_ways_40 (lv_at hl 0 rfl) ?_
  refine lv_if_ne (tgt := 49) hx hb dX21_ways_42 (by decide) (fun c9 => absurd (by decide) c9) (fun _ => ?_)
  refine lv_iconst (v := 1) hx hb dX21_ways_45 (by decide) ?_
  refine lv_goto (tgt := 75) hx hb dX21_ways_46 (by decide) ?_
  refine lv_istore (lv' := [(5, .int 1), (4, .int 0), (0, .ref h0), (1, .int v0), (2, .int v1), (3, .int v2)]) hx hb dX21_ways_75 hl (by decide) rfl (fun ls hl => ?_)
  refine lv_aload_n hx hb dX21_ways_77 rfl (lv_at hl 2 rfl) ?_
  refine lv_iload hx hb dX21_ways_78 (lv_at hl 0 rfl) ?_
  have hPc := hP.sub (ws' := [(h0, .inr (22, [.int 0, .ref h1, .int 0, .ref h2, .int 0, .ref h3, .int 250, .ref h4, .int 0, .ref h5, .ref h6, .ref h7, .int 0, .ref h8, .ref h9, .ref h10, .int 0, .null, .int 0, .null, .int 0, .int 0, .int 0, .ref h11, .int 0, .ref h12, .ref h13, .ref h14, .int 0, .ref h15, .ref h16, .int 0]))]) [0] rfl
  have hDc := hD.sub (ws' := [(h0, .inr (22, [.int 0, .ref h1, .int 0, .ref h2, .int 0, .ref h3, .int 250, .ref h4, .int 0, .ref h5, .ref h6, .ref h7, .int 0, .ref h8, .ref h9, .ref h10, .int 0, .null, .int 0, .null, .int 0, .int 0, .int 0, .ref h11, .int 0, .ref h12, .ref h13, .ref h14, .int 0, .ref h15, .ref h16, .int 0]))]) [0] (by decide) rfl
  have hFc := va_free (wc := [(h0, .inr (22, [.int 0, .ref h1, .int 0, .ref h2, .int 0, .ref h3, .int 250, .ref h4, .int 0, .ref h5, .ref h6, .ref h7, .int 0, .ref h8, .ref h9, .ref h10, .int 0, .null, .int 0, .null, .int 0, .int 0, .int 0, .ref h11, .int 0, .ref h12, .ref h13, .ref h14, .int 0, .ref h15, .ref h16, .int 0]))]) hD hS hA [0] rfl
  refine va_calli (va_runV (As := [.int 1]) (rest := []) ⟨hx, hb, hml, hown, hts⟩ (c9_X21_refused_2 l g h0 h1 h2 h3 h4 h5 h6 h7 h8 h9 h10 h11 h12 h13 h14 h15 h16 _) (cwV 1 hts g9_X21_ways_3_2 rfl rfl rfl (by decide +kernel) ⟨Nat.le_of_ble_eq_true rfl, Nat.le_of_ble_eq_true rfl⟩) (mPreV (g := g) (wc := [(h0, .inr (22, [.int 0, .ref h1, .int 0, .ref h2, .int 0, .ref h3, .int 250, .ref h4, .int 0, .ref h5, .ref h6, .ref h7, .int 0, .ref h8, .ref h9, .ref h10, .int 0, .null, .int 0, .null, .int 0, .int 0, .int 0, .ref h11, .int 0, .ref h12, .ref h13, .ref h14, .int 0, .ref h15, .ref h16, .int 0]))]) (C := RX21) (ci := 22) (q0 := 0) hE hS hPc hDc hFc rfl rfl) rfl rfl hl.1 rfl (lv_room (Nat.le_of_ble_eq_true rfl)) dX21_ways_80 ⟨Nat.le_of_ble_eq_true rfl, Nat.le_of_ble_eq_true rfl⟩) hS (fun q _ h => hFc q h) hFc (fun r_3 u t H1 locs ht hvm hw hB hz1 hk1 hS => ?_)
  replace hw : 1 = r_3 := Eq.symm hw
  subst hw
  obtain ⟨hP1, hD1⟩ := hB
  rw [ht] at hP1
  obtain ⟨hP, hD⟩ := va_join (wr := []) (w1 := [(h0, .inr (22, [.int 1, .ref h1, .int 0, .ref h2, .int 0, .ref h3, .int 250, .ref h4, .int 0, .ref h5, .ref h6, .ref h7, .int 0, .ref h8, .ref h9, .ref h10, .int 0, .null, .int 0, .null, .int 0, .int 0, .int 0, .ref h11, .int 0, .ref h12, .ref h13, .ref h14, .int 0, .ref h15, .ref h16, .int 0]))]) hP hD [0] [] rfl rfl (by decide) (by decide) hk1 hFc hP1 hD1
  clear hP1 hD1 hPc hDc hFc hk1 hz1 hvm ht
  generalize H1 = H at hP hS ⊢
  have hP : va_P g.1 vwCl [(h0, .inr (22, [.int 1, .ref h1, .int 0, .ref h2, .int 0, .ref h3, .int 250, .ref h4, .int 0, .ref h5, .ref h6, .ref h7, .int 0, .ref h8, .ref h9, .ref h10, .int 0, .null, .int 0, .null, .int 0, .int 0, .int 0, .ref h11, .int 0, .ref h12, .ref h13, .ref h14, .int 0, .ref h15, .ref h16, .int 0]))] H := hP
  have hD : va_D A [(h0, .inr (22, [.int 1, .ref h1, .int 0, .ref h2, .int 0, .ref h3, .int 250, .ref h4, .int 0, .ref h5, .ref h6, .ref h7, .int 0, .ref h8, .ref h9, .ref h10, .int 0, .null, .int 0, .null, .int 0, .int 0, .int 0, .ref h11, .int 0, .ref h12, .ref h13, .ref h14, .int 0, .ref h15, .ref h16, .int 0]))] := hD
  refine lv_if_eq (tgt := 88) hx hb dX21_ways_83 (by decide) (fun c9 => absurd c9 (by decide)) (fun _ => ?_)
  refine lv_iconst (v := 0) hx hb dX21_ways_86 (by decide) ?_
  have hP9 := hP.sub (ws' := [(h0, .inr (22, [.int 1, .ref h1, .int 0, .ref h2, .int 0, .ref h3, .int 250, .ref h4, .int 0, .ref h5, .ref h6, .ref h7, .int 0, .ref h8, .ref h9, .ref h10, .int 0, .null, .int 0, .null, .int 0, .int 0, .int 0, .ref h11, .int 0, .ref h12, .ref h13, .ref h14, .int 0, .ref h15, .ref h16, .int 0]))]) [0] rfl
  have hD9 := hD.sub (ws' := [(h0, .inr (22, [.int 1, .ref h1, .int 0, .ref h2, .int 0, .ref h3, .int 250, .ref h4, .int 0, .ref h5, .ref h6, .ref h7, .int 0, .ref h8, .ref h9, .ref h10, .int 0, .null, .int 0, .null, .int 0, .int 0, .int 0, .ref h11, .int 0, .ref h12, .ref h13, .ref h14, .int 0, .ref h15, .ref h16, .int 0]))]) [0] (by decide) rfl
  subst hAe
  exact W.iret (v := 0) hx hb hr (fun t ht hW => ⟨⟨0, (), rfl, rfl, by rw [ht]; exact hP9, hD9⟩, hS.F ht⟩) hS.2.2 dX21_ways_87
def w9_X11_ways_4 : List Cond := [.code yX11_ways cX11_ways 4 (some .int), .methodLink RX11 124 yX11_needPattern, .instanceMethod yX11_needPattern, .selects RX11 yX11_needPattern yX11_needPattern, .initialized RX11, .code yX11_needPattern cX11_needPattern 2 none, .methodLink RX11 180 yX11_needPlace, .instanceMethod yX11_needPlace, .selects RX11 yX11_needPlace yX11_needPlace, .code yX11_needPlace cX11_needPlace 2 none, .fieldLink RX11 16 "Regexloom" "text" "LRegexloom$Text;", .methodLink RX11 146 yX10_size, .instanceMethod yX10_size, .selects RX10 yX10_size yX10_size, .initialized RX10, .code yX10_size cX10_size 1 (some .int), .fieldLink RX10 14 "Regexloom$Text" "codes" "LRegexloom$Table;", .methodLink RX10 20 yX9_size, .instanceMethod yX9_size, .selects RX9 yX9_size yX9_size, .initialized RX9, .code yX9_size cX9_size 1 (some .int), .fieldLink RX9 28 "Regexloom$Table" "size" "I", .initialized "java/lang/Throwable", .superclass "java/lang/Throwable" "java/lang/Object", .instanceMethod Bundle.tFill, .codeSync Bundle.tFill LibCode.Throwable.Fill.code 1 (some (.object "java/lang/Throwable")), .instanceMethod Bundle.tFill0, .native Bundle.tFill0, .instanceMethod Bundle.tInit0, .code Bundle.tInit0 LibCode.Throwable.Init0.code 1 none, .instanceMethod Bundle.oInit, .code Bundle.oInit ⟨#[0xb1]⟩ 1 none, .methodLink "java/lang/Throwable" 1 Bundle.oInit, .methodLink "java/lang/Throwable" 27 Bundle.tFill, .methodLink "java/lang/Throwable" 202 Bundle.tFill0, .fieldLink "java/lang/Throwable" 7 "java/lang/Throwable" "cause" "Ljava/lang/Throwable;", .lays "java/lang/Throwable" "java/lang/Throwable" "cause" "Ljava/lang/Throwable;", .fieldLink "java/lang/Throwable" 17 "java/lang/Throwable" "stackTrace" "[Ljava/lang/StackTraceElement;", .lays "java/lang/Throwable" "java/lang/Throwable" "stackTrace" "[Ljava/lang/StackTraceElement;", .fieldLink "java/lang/Throwable" 24 "java/lang/Throwable" "suppressedExceptions" "Ljava/util/List;", .lays "java/lang/Throwable" "java/lang/Throwable" "suppressedExceptions" "Ljava/util/List;", .fieldLink "java/lang/Throwable" 13 "java/lang/Throwable" "UNASSIGNED_STACK" "[Ljava/lang/StackTraceElement;", .fieldLink "java/lang/Throwable" 20 "java/lang/Throwable" "SUPPRESSED_SENTINEL" "Ljava/util/List;", .lays "java/lang/Throwable" "java/lang/Throwable" "detailMessage" "Ljava/lang/String;", .instanceMethod (Bundle.initS "java/lang/Throwable"), .code (Bundle.initS "java/lang/Throwable") LibCode.Throwable.InitS.code 2 none, .fieldLink "java/lang/Throwable" 31 "java/lang/Throwable" "detailMessage" "Ljava/lang/String;", .instanceMethod (Bundle.initS "java/lang/IndexOutOfBoundsException"), .code (Bundle.initS "java/lang/IndexOutOfBoundsException") Bundle.six 2 none, .methodLink "java/lang/IndexOutOfBoundsException" 7 (Bundle.initS "java/lang/RuntimeException"), .instanceMethod (Bundle.initS "java/lang/RuntimeException"), .code (Bundle.initS "java/lang/RuntimeException") Bundle.six 2 none, .methodLink "java/lang/RuntimeException" 7 (Bundle.initS "java/lang/Exception"), .instanceMethod (Bundle.initS "java/lang/Exception"), .code (Bundle.initS "java/lang/Exception") Bundle.six 2 none, .methodLink "java/lang/Exception" 7 (Bundle.initS "java/lang/Throwable"), .methodLink RX11 224 (Bundle.initS "java/lang/IndexOutOfBoundsException"), .instantiable "java/lang/IndexOutOfBoundsException" 6, .selects "java/lang/IndexOutOfBoundsException" Bundle.tFill0 Bundle.tFill0, .selects "java/lang/IndexOutOfBoundsException" Bundle.tFill Bundle.tFill, .lays "java/lang/IndexOutOfBoundsException" "java/lang/Throwable" "cause" "Ljava/lang/Throwable;", .lays "java/lang/IndexOutOfBoundsException" "java/lang/Throwable" "stackTrace" "[Ljava/lang/StackTraceElement;", .lays "java/lang/IndexOutOfBoundsException" "java/lang/Throwable" "suppressedExceptions" "Ljava/util/List;", .lays "java/lang/IndexOutOfBoundsException" "java/lang/Throwable" "detailMessage" "Ljava/lang/String;", .fieldLink "java/lang/Throwable" 198 "java/lang/Throwable" "backtrace" "Ljava/lang/Object;", .lays "java/lang/Throwable" "java/lang/Throwable" "backtrace" "Ljava/lang/Object;", .lays "java/lang/IndexOutOfBoundsException" "java/lang/Throwable" "backtrace" "Ljava/lang/Object;", .classLink RX11 220 "java/lang/IndexOutOfBoundsException", .initialized "java/lang/IndexOutOfBoundsException"] ++ (u_ws RX11 TX11 17 ++ u_ws RX10 TX10 1 ++ u_ws RX9 TX9 4)
set_option maxRecDepth 20000 in
theorem in9_X11_ways_4_RX11 : ∀ w ∈ u_ws RX11 TX11 17, w ∈ w9_X11_ways_4 := by decide +kernel
set_option maxRecDepth 20000 in
theorem in9_X11_ways_4_RX10 : ∀ w ∈ u_ws RX10 TX10 1, w ∈ w9_X11_ways_4 := by decide +kernel
set_option maxRecDepth 20000 in
theorem in9_X11_ways_4_RX9 : ∀ w ∈ u_ws RX9 TX9 4, w ∈ w9_X11_ways_4 := by decide +kernel
set_option maxRecDepth 20000 in
theorem g9_X11_ways_4_0 : GoodIn w9_X11_ways_4 (wsV RX11 124 RX11 yX11_needPattern w9_X11_needPattern_7) := goodIn_r _ [1, 2, 3, 4, 5] (by decide +kernel) (by decide +kernel)
set_option maxRecDepth 20000 in
theorem g9_X11_ways_4_1 : GoodIn w9_X11_ways_4 (wsV RX11 180 RX11 yX11_needPlace w9_X11_needPlace_2) := goodIn_r _ [6, 7, 8, 4, 9, 10, 11, 12, 13, 14, 15, 16, 17, 18, 19, 20, 21, 22, 23, 24, 25, 26, 27, 28, 29, 30, 31, 32, 33, 34, 35, 36, 37, 38, 39, 40, 41, 42, 43, 44, 45, 46, 47, 48, 49, 50, 51, 52, 53, 54, 55, 56, 57, 58, 59, 60, 61, 62, 63, 64, 65, 66, 67, 68, 69, 70, 71, 72, 73, 74, 75, 76, 77, 78, 79, 80, 81, 82, 83, 84, 85, 86, 87, 88, 89, 90, 91] (by decide +kernel) (by decide +kernel)
set_option maxHeartbeats 4000000 in
set_option maxRecDepth 100000 in
theorem c9_X11_ways_4 (l : Launch) (hlt : l.stackTraces = false) (g : G9) (h0 h1 h2 h3 h4 h5 h6 h7 h8 h9 h10 h11 h12 h13 h14 h15 sz : Nat) (v0 v1 v2 : Int32) (k_v0 : 0 ≤ v0.toInt ∧ v0.toInt ≤ 3) (k_v1 : 1 ≤ v1.toInt ∧ v1.toInt ≤ 2147483647) (k_v2 : (-2147483648) ≤ v2.toInt ∧ v2.toInt ≤ 2147483647) : vx_Met l yX11_ways w9_X11_ways_4 ({ frames := 7, cells := 1, slots := 6, locals := 103 }) (mP g [(h0, .inr (12, [.ref h1, .int 0, .ref h2, .ref h3, .ref h4, .ref h5, .ref h6, .ref h7, .int (-1), .ref h8, .ref h9, .int 250, .ref h10, .int 0, .ref h11, .ref h12, .ref h13])), (h2, .inr (11, [.ref h14])), (h14, .inr (10, [.int 1, .int 20, .ref h15, .int 0]))] sz [.ref h0, .int v0, .int v1, .int v2]) (va_Qv (fun _ : Unit => False) (fun _ _ => True) (va_A [(h0, .inr (12, [.ref h1, .int 0, .ref h2, .ref h3, .ref h4, .ref h5, .ref h6, .ref h7, .int (-1), .ref h8, .ref h9, .int 250, .ref h10, .int 0, .ref h11, .ref h12, .ref h13])), (h2, .inr (11, [.ref h14])), (h14, .inr (10, [.int 1, .int 20, .ref h15, .int 0]))] sz)) (mT g [(h0, .inr (12, [.ref h1, .int 0, .ref h2, .ref h3, .ref h4, .ref h5, .ref h6, .ref h7, .int (-1), .ref h8, .ref h9, .int 250, .ref h10, .int 0, .ref h11, .ref h12, .ref h13])), (h2, .inr (11, [.ref h14])), (h14, .inr (10, [.int 1, .int 20, .ref h15, .int 0]))] sz "java/lang/IndexOutOfBoundsException") 1 6 (va_A [(h0, .inr (12, [.ref h1, .int 0, .ref h2, .ref h3, .ref h4, .ref h5, .ref h6, .ref h7, .int (-1), .ref h8, .ref h9, .int 250, .ref h10, .int 0, .ref h11, .ref h12, .ref h13])), (h2, .inr (11, [.ref h14])), (h14, .inr (10, [.int 1, .int 20, .ref h15, .int 0]))] sz) := by
  refine vx_ofW (cc := cX11_ways) (maxL := 4) (ret := (some .int)) (by decide) rfl ?_
  intro p e s m args below meth c s₁ B hml hno hv
  obtain ⟨rfl, hsz, hP, hD0, hE⟩ := hv
  have hx := B.exec
  have hb := B.bytes
  have hr := B.returns
  have hts := atoms_spec (ws := w9_X11_ways_4) B.pre
  have hown : s.vm.findClass RX11 = some m.cls := findClass_of_methodNamed B.named
  have hlocks := B.notSynchronized
  subst hsz
  have hD := hD0.self (sz := s.heap.size)
  generalize hAe : va_A [(h0, .inr (12, [.ref h1, .int 0, .ref h2, .ref h3, .ref h4, .ref h5, .ref h6, .ref h7, .int (-1), .ref h8, .ref h9, .int 250, .ref h10, .int 0, .ref h11, .ref h12, .ref h13])), (h2, .inr (11, [.ref h14])), (h14, .inr (10, [.int 1, .int 20, .ref h15, .int 0]))] s.heap.size = A at hD hE ⊢
  have hA : ∀ q : Nat, s.heap.size ≤ q → A q := fun q h => by rw [← hAe]; exact Or.inr h
  have hK := hE.1
  have hS : va_S A s.heap s.heap [] := va_S.rf
  replace hP : va_P g.1 vwCl [(h0, .inr (12, [.ref h1, .int 0, .ref h2, .ref h3, .ref h4, .ref h5, .ref h6, .ref h7, .int (-1), .ref h8, .ref h9, .int 250, .ref h10, .int 0, .ref h11, .ref h12, .ref h13])), (h2, .inr (11, [.ref h14])), (h14, .inr (10, [.int 1, .int 20, .ref h15, .int 0]))] s.heap := hP
  have hl := lv_entry ([.ref h0, .int v0, .int v1, .int v2]) (n := 4) (Nat.le_of_ble_eq_true rfl)
  rw [lg_entry_eq]
  generalize (lg_sl ([.ref h0, .int v0, .int v1, .int v2]) ++ List.replicate (4 - (lg_sl ([.ref h0, .int v0, .int v1, .int v2])).length) Slot.unset).toArray = ls at hl ⊢
  replace hl : lv_has ls 4 [(0, .ref h0), (1, .int v0), (2, .int v1), (3, .int v2)] := hl
  have hH0 : s.heap.size ≤ s.heap.size := Nat.le_refl _
  refine lv_aload_n hx hb dX11_ways_0 rfl (lv_at hl 0 rfl) ?_
  refine lv_iload_n hx hb dX11_ways_1 rfl (lv_at hl 1 rfl) ?_
  have hPc := hP.sub (ws' := [(h0, .inr (12, [.ref h1, .int 0, .ref h2, .ref h3, .ref h4, .ref h5, .ref h6, .ref h7, .int (-1), .ref h8, .ref h9, .int 250, .ref h10, .int 0, .ref h11, .ref h12, .ref h13]))]) [0] rfl
  have hDc := hD.sub (ws' := [(h0, .inr (12, [.ref h1, .int 0, .ref h2, .ref h3, .ref h4, .ref h5, .ref h6, .ref h7, .int (-1), .ref h8, .ref h9, .int 250, .ref h10, .int 0, .ref h11, .ref h12, .ref h13]))]) [0] (by decide) rfl
  have hFc := va_free (wc := [(h0, .inr (12, [.ref h1, .int 0, .ref h2, .ref h3, .ref h4, .ref h5, .ref h6, .ref h7, .int (-1), .ref h8, .ref h9, .int 250, .ref h10, .int 0, .ref h11, .ref h12, .ref h13]))]) hD hS hA [0] rfl
  refine va_callv (va_runV (As := [.int v0]) (rest := []) ⟨hx, hb, hml, hown, hts⟩ (c9_X11_needPattern_7 l g h0 h1 h2 h3 h4 h5 h6 h7 h8 h9 h10 h11 h12 h13 _ v0 (by omega)) (cwV 1 hts g9_X11_ways_4_0 rfl rfl rfl (by decide +kernel) ⟨Nat.le_of_ble_eq_true rfl, Nat.le_of_ble_eq_true rfl⟩) (mPreV (g := g) (wc := [(h0, .inr (12, [.ref h1, .int 0, .ref h2, .ref h3, .ref h4, .ref h5, .ref h6, .ref h7, .int (-1), .ref h8, .ref h9, .int 250, .ref h10, .int 0, .ref h11, .ref h12, .ref h13]))]) (C := RX11) (ci := 12) (q0 := 0) hE hS hPc hDc hFc rfl rfl) rfl rfl hl.1 rfl (lv_room (Nat.le_of_ble_eq_true rfl)) dX11_ways_2 ⟨Nat.le_of_ble_eq_true rfl, Nat.le_of_ble_eq_true rfl⟩) hS (fun q _ h => hFc q h) hFc (fun u t H1 locs ht hvm hw hB hz1 hk1 hS => ?_)
  obtain ⟨hP1, hD1⟩ := hB
  rw [ht] at hP1
  obtain ⟨hP, hD⟩ := va_join (wr := [(h2, .inr (11, [.ref h14])), (h14, .inr (10, [.int 1, .int 20, .ref h15, .int 0]))]) (w1 := [(h0, .inr (12, [.ref h1, .int 0, .ref h2, .ref h3, .ref h4, .ref h5, .ref h6, .ref h7, .int (-1), .ref h8, .ref h9, .int 250, .ref h10, .int 0, .ref h11, .ref h12, .ref h13]))]) hP hD [0] [1, 2] rfl rfl (by decide) (by decide) hk1 hFc hP1 hD1
  clear hP1 hD1 hPc hDc hFc hk1 hz1 hvm ht
  generalize H1 = H at hP hS ⊢
  have hP : va_P g.1 vwCl [(h2, .inr (11, [.ref h14])), (h14, .inr (10, [.int 1, .int 20, .ref h15, .int 0])), (h0, .inr (12, [.ref h1, .int 0, .ref h2, .ref h3, .ref h4, .ref h5, .ref h6, .ref h7, .int (-1), .ref h8, .ref h9, .int 250, .ref h10, .int 0, .ref h11, .ref h12, .ref h13]))] H := hP
  have hD : va_D A [(h2, .inr (11, [.ref h14])), (h14, .inr (10, [.int 1, .int 20, .ref h15, .int 0])), (h0, .inr (12, [.ref h1, .int 0, .ref h2, .ref h3, .ref h4, .ref h5, .ref h6, .ref h7, .int (-1), .ref h8, .ref h9, .int 250, .ref h10, .int 0, .ref h11, .ref h12, .ref h13]))] := hD
  refine lv_aload_n hx hb dX11_ways_5 rfl (lv_at hl 0 rfl) ?_
  refine lv_iload_n hx hb dX11_ways_6 rfl (lv_at hl 2 rfl) ?_
  have hPc := hP.sub (ws' := [(h2, .inr (11, [.ref h14])), (h14, .inr (10, [.int 1, .int 20, .ref h15, .int 0])), (h0, .inr (12, [.ref h1, .int 0, .ref h2, .ref h3, .ref h4, .ref h5, .ref h6, .ref h7, .int (-1), .ref h8, .ref h9, .int 250, .ref h10, .int 0, .ref h11, .ref h12, .ref h13]))]) [0, 1, 2] rfl
  have hDc := hD.sub (ws' := [(h2, .inr (11, [.ref h14])), (h14, .inr (10, [.int 1, .int 20, .ref h15, .int 0])), (h0, .inr (12, [.ref h1, .int 0, .ref h2, .ref h3, .ref h4, .ref h5, .ref h6, .ref h7, .int (-1), .ref h8, .ref h9, .int 250, .ref h10, .int 0, .ref h11, .ref h12, .ref h13]))]) [0, 1, 2] (by decide) rfl
  have hFc := va_free (wc := [(h2, .inr (11, [.ref h14])), (h14, .inr (10, [.int 1, .int 20, .ref h15, .int 0])), (h0, .inr (12, [.ref h1, .int 0, .ref h2, .ref h3, .ref h4, .ref h5, .ref h6, .ref h7, .int (-1), .ref h8, .ref h9, .int 250, .ref h10, .int 0, .ref h11, .ref h12, .ref h13]))]) hD hS hA [0, 1, 2] rfl
  refine vx_callv (vx_runV (As := [.int v1]) (rest := []) ⟨hx, hb, hml, hown, hts⟩ (c9_X11_needPlace_2 l hlt g h0 h2 h14 h15 h1 h3 h4 h5 h6 h7 h8 h9 h10 h11 h12 h13 _ v1 (by omega)) (cwV 1 hts g9_X11_ways_4_1 rfl rfl rfl (by decide +kernel) ⟨Nat.le_of_ble_eq_true rfl, Nat.le_of_ble_eq_true rfl⟩) (mPreV (g := g) (wc := [(h2, .inr (11, [.ref h14])), (h14, .inr (10, [.int 1, .int 20, .ref h15, .int 0])), (h0, .inr (12, [.ref h1, .int 0, .ref h2, .ref h3, .ref h4, .ref h5, .ref h6, .ref h7, .int (-1), .ref h8, .ref h9, .int 250, .ref h10, .int 0, .ref h11, .ref h12, .ref h13]))]) (C := RX11) (ci := 12) (q0 := 2) hE hS hPc hDc hFc rfl rfl) rfl rfl hl.1 rfl (lv_room (Nat.le_of_ble_eq_true rfl)) dX11_ways_7 ⟨Nat.le_of_ble_eq_true rfl, Nat.le_of_ble_eq_true rfl⟩) hS (fun q _ h => hFc q h) hFc (fun q _ h => hFc q h) (fun E9 ce q9 u t H locs ht hvm hw hB hz1 hk1 hS hc1 hc2 hc3 => ?_) (fun u t H1 locs ht hvm hw hB hz1 hk1 hS => hw.elim)
  replace hB : E9 = "java/lang/IndexOutOfBoundsException" := hB
  subst hB
  exact vx_out (fun z hz => (hno z hz).elim) hlocks hc1 hc2 hc3 (fun t ht hW => ⟨(), trivial, rfl, by subst hAe; exact hS.F ht⟩) (by subst hAe; exact hS.2.2) (Nat.le_of_ble_eq_true rfl) (Nat.le_of_ble_eq_true rfl)
def w9_L_ways_4 : List Cond := [.codeWith yL_ways cL_ways 6 (some .int) [(0, 12, 15, 21), (0, 12, 19, 15)], .methodLink RL 61 yX11_ways, .instanceMethod yX11_ways, .selects RX11 yX11_ways yX11_ways, .initialized RX11, .code yX11_ways cX11_ways 4 (some .int), .methodLink RX11 124 yX11_needPattern, .instanceMethod yX11_needPattern, .selects RX11 yX11_needPattern yX11_needPattern, .code yX11_needPattern cX11_needPattern 2 none, .methodLink RX11 180 yX11_needPlace, .instanceMethod yX11_needPlace, .selects RX11 yX11_needPlace yX11_needPlace, .code yX11_needPlace cX11_needPlace 2 none, .fieldLink RX11 16 "Regexloom" "text" "LRegexloom$Text;", .methodLink RX11 146 yX10_size, .instanceMethod yX10_size, .selects RX10 yX10_size yX10_size, .initialized RX10, .code yX10_size cX10_size 1 (some .int), .fieldLink RX10 14 "Regexloom$Text" "codes" "LRegexloom$Table;", .methodLink RX10 20 yX9_size, .instanceMethod yX9_size, .selects RX9 yX9_size yX9_size, .initialized RX9, .code yX9_size cX9_size 1 (some .int), .fieldLink RX9 28 "Regexloom$Table" "size" "I", .initialized "java/lang/Throwable", .superclass "java/lang/Throwable" "java/lang/Object", .instanceMethod Bundle.tFill, .codeSync Bundle.tFill LibCode.Throwable.Fill.code 1 (some (.object "java/lang/Throwable")), .instanceMethod Bundle.tFill0, .native Bundle.tFill0, .instanceMethod Bundle.tInit0, .code Bundle.tInit0 LibCode.Throwable.Init0.code 1 none, .instanceMethod Bundle.oInit, .code Bundle.oInit ⟨#[0xb1]⟩ 1 none, .methodLink "java/lang/Throwable" 1 Bundle.oInit, .methodLink "java/lang/Throwable" 27 Bundle.tFill, .methodLink "java/lang/Throwable" 202 Bundle.tFill0, .fieldLink "java/lang/Throwable" 7 "java/lang/Throwable" "cause" "Ljava/lang/Throwable;", .lays "java/lang/Throwable" "java/lang/Throwable" "cause" "Ljava/lang/Throwable;", .fieldLink "java/lang/Throwable" 17 "java/lang/Throwable" "stackTrace" "[Ljava/lang/StackTraceElement;", .lays "java/lang/Throwable" "java/lang/Throwable" "stackTrace" "[Ljava/lang/StackTraceElement;", .fieldLink "java/lang/Throwable" 24 "java/lang/Throwable" "suppressedExceptions" "Ljava/util/List;", .lays "java/lang/Throwable" "java/lang/Throwable" "suppressedExceptions" "Ljava/util/List;", .fieldLink "java/lang/Throwable" 13 "java/lang/Throwable" "UNASSIGNED_STACK" "[Ljava/lang/StackTraceElement;", .fieldLink "java/lang/Throwable" 20 "java/lang/Throwable" "SUPPRESSED_SENTINEL" "Ljava/util/List;", .lays "java/lang/Throwable" "java/lang/Throwable" "detailMessage" "Ljava/lang/String;", .instanceMethod (Bundle.initS "java/lang/Throwable"), .code (Bundle.initS "java/lang/Throwable") LibCode.Throwable.InitS.code 2 none, .fieldLink "java/lang/Throwable" 31 "java/lang/Throwable" "detailMessage" "Ljava/lang/String;", .instanceMethod (Bundle.initS "java/lang/IndexOutOfBoundsException"), .code (Bundle.initS "java/lang/IndexOutOfBoundsException") Bundle.six 2 none, .methodLink "java/lang/IndexOutOfBoundsException" 7 (Bundle.initS "java/lang/RuntimeException"), .instanceMethod (Bundle.initS "java/lang/RuntimeException"), .code (Bundle.initS "java/lang/RuntimeException") Bundle.six 2 none, .methodLink "java/lang/RuntimeException" 7 (Bundle.initS "java/lang/Exception"), .instanceMethod (Bundle.initS "java/lang/Exception"), .code (Bundle.initS "java/lang/Exception") Bundle.six 2 none, .methodLink "java/lang/Exception" 7 (Bundle.initS "java/lang/Throwable"), .methodLink RX11 224 (Bundle.initS "java/lang/IndexOutOfBoundsException"), .instantiable "java/lang/IndexOutOfBoundsException" 6, .selects "java/lang/IndexOutOfBoundsException" Bundle.tFill0 Bundle.tFill0, .selects "java/lang/IndexOutOfBoundsException" Bundle.tFill Bundle.tFill, .lays "java/lang/IndexOutOfBoundsException" "java/lang/Throwable" "cause" "Ljava/lang/Throwable;", .lays "java/lang/IndexOutOfBoundsException" "java/lang/Throwable" "stackTrace" "[Ljava/lang/StackTraceElement;", .lays "java/lang/IndexOutOfBoundsException" "java/lang/Throwable" "suppressedExceptions" "Ljava/util/List;", .lays "java/lang/IndexOutOfBoundsException" "java/lang/Throwable" "detailMessage" "Ljava/lang/String;", .fieldLink "java/lang/Throwable" 198 "java/lang/Throwable" "backtrace" "Ljava/lang/Object;", .lays "java/lang/Throwable" "java/lang/Throwable" "backtrace" "Ljava/lang/Object;", .lays "java/lang/IndexOutOfBoundsException" "java/lang/Throwable" "backtrace" "Ljava/lang/Object;", .classLink RX11 220 "java/lang/IndexOutOfBoundsException", .initialized "java/lang/IndexOutOfBoundsException", .classLink RL 21 "java/lang/IndexOutOfBoundsException"] ++ (u_ws RX11 TX11 17 ++ u_ws RX10 TX10 1 ++ u_ws RX9 TX9 4)
set_option maxRecDepth 20000 in
theorem in9_L_ways_4_RX11 : ∀ w ∈ u_ws RX11 TX11 17, w ∈ w9_L_ways_4 := by decide +kernel
set_option maxRecDepth 20000 in
theorem in9_L_ways_4_RX10 : ∀ w ∈ u_ws RX10 TX10 1, w ∈ w9_L_ways_4 := by decide +kernel
set_option maxRecDepth 20000 in
theorem in9_L_ways_4_RX9 : ∀ w ∈ u_ws RX9 TX9 4, w ∈ w9_L_ways_4 := by decide +kernel
set_option maxRecDepth 20000 in
theorem g9_L_ways_4_0 : GoodIn w9_L_ways_4 (wsV RL 61 RX11 yX11_ways w9_X11_ways_4) := goodIn_r _ [1, 2, 3, 4, 5, 6, 7, 8, 4, 9, 10, 11, 12, 13, 14, 15, 16, 17, 18, 19, 20, 21, 22, 23, 24, 25, 26, 27, 28, 29, 30, 31, 32, 33, 34, 35, 36, 37, 38, 39, 40, 41, 42, 43, 44, 45, 46, 47, 48, 49, 50, 51, 52, 53, 54, 55, 56, 57, 58, 59, 60, 61, 62, 63, 64, 65, 66, 67, 68, 69, 70, 71, 72, 73, 75, 76, 77, 78, 79, 80, 81, 82, 83, 84, 85, 86, 87, 88, 89, 90, 91, 92, 93, 94, 95, 96] (by decide +kernel) (by decide +kernel)
set_option maxHeartbeats 4000000 in
set_option maxRecDepth 100000 in
theorem c9_L_ways_4 (l : Launch) (hlt : l.stackTraces = false) (g : G9) (h0 h1 h2 h3 h4 h5 h6 h7 h8 h9 h10 h11 h12 h13 h14 h15 h16 sz : Nat) (v0 v1 v2 : Int32) (k_v0 : 0 ≤ v0.toInt ∧ v0.toInt ≤ 3) (k_v1 : 1 ≤ v1.toInt ∧ v1.toInt ≤ 2147483647) (k_v2 : (-2147483648) ≤ v2.toInt ∧ v2.toInt ≤ 2147483647) : Met l yL_ways w9_L_ways_4 ({ frames := 8, cells := 1, slots := 6, locals := 126 }) (mP g [(h0, .inr (12, [.ref h2, .int 0, .ref h3, .ref h4, .ref h5, .ref h6, .ref h7, .ref h8, .int (-1), .ref h9, .ref h10, .int 250, .ref h11, .int 0, .ref h12, .ref h13, .ref h14])), (h3, .inr (11, [.ref h15])), (h15, .inr (10, [.int 1, .int 20, .ref h16, .int 0]))] sz [.ref h0, .int v0, .int v1, .int v2, .ref h1]) (va_Qi (fun (r : Int32) (_ : Unit) => r = 1) (fun (_ : Unit) (t : State) => mB g [(h0, .inr (12, [.ref h2, .int 0, .ref h3, .ref h4, .ref h5, .ref h6, .ref h7, .ref h8, .int (-1), .ref h9, .ref h10, .int 250, .ref h11, .int 0, .ref h12, .ref h13, .ref h14])), (h3, .inr (11, [.ref h15])), (h15, .inr (10, [.int 1, .int 20, .ref h16, .int 0]))] sz [] t) (va_A [(h0, .inr (12, [.ref h2, .int 0, .ref h3, .ref h4, .ref h5, .ref h6, .ref h7, .ref h8, .int (-1), .ref h9, .ref h10, .int 250, .ref h11, .int 0, .ref h12, .ref h13, .ref h14])), (h3, .inr (11, [.ref h15])), (h15, .inr (10, [.int 1, .int 20, .ref h16, .int 0]))] sz)) 1 6 (va_A [(h0, .inr (12, [.ref h2, .int 0, .ref h3, .ref h4, .ref h5, .ref h6, .ref h7, .ref h8, .int (-1), .ref h9, .ref h10, .int 250, .ref h11, .int 0, .ref h12, .ref h13, .ref h14])), (h3, .inr (11, [.ref h15])), (h15, .inr (10, [.int 1, .int 20, .ref h16, .int 0]))] sz) := by
  refine va_MetW (cc := cL_ways) (maxL := 6) (ret := (some .int)) (by decide) rfl ?_
  intro p e s m args below meth c s₁ B hml hv
  obtain ⟨rfl, hsz, hP, hD0, hE⟩ := hv
  have hx := B.exec
  have hb := B.bytes
  have hr := B.returns
  have hts := atoms_spec (ws := w9_L_ways_4) B.pre
  have hown : s.vm.findClass RL = some m.cls := findClass_of_methodNamed B.named
  have hlocks := B.notSynchronized
  have htab := vx_table (x := yL_ways) B (hts (.codeWith yL_ways cL_ways 6 (some .int) [(0, 12, 15, 21), (0, 12, 19, 15)]) (List.mem_of_getElem? (i := 0) rfl))
  subst hsz
  have hD := hD0.self (sz := s.heap.size)
  generalize hAe : va_A [(h0, .inr (12, [.ref h2, .int 0, .ref h3, .ref h4, .ref h5, .ref h6, .ref h7, .ref h8, .int (-1), .ref h9, .ref h10, .int 250, .ref h11, .int 0, .ref h12, .ref h13, .ref h14])), (h3, .inr (11, [.ref h15])), (h15, .inr (10, [.int 1, .int 20, .ref h16, .int 0]))] s.heap.size = A at hD hE ⊢
  have hA : ∀ q : Nat, s.heap.size ≤ q → A q := fun q h => by rw [← hAe]; exact Or.inr h
  have hK := hE.1
  have hS : va_S A s.heap s.heap [] := va_S.rf
  replace hP : va_P g.1 vwCl [(h0, .inr (12, [.ref h2, .int 0, .ref h3, .ref h4, .ref h5, .ref h6, .ref h7, .ref h8, .int (-1), .ref h9, .ref h10, .int 250, .ref h11, .int 0, .ref h12, .ref h13, .ref h14])), (h3, .inr (11, [.ref h15])), (h15, .inr (10, [.int 1, .int 20, .ref h16, .int 0]))] s.heap := hP
  have hl := lv_entry ([.ref h0, .int v0, .int v1, .int v2, .ref h1]) (n := 6) (Nat.le_of_ble_eq_true rfl)
  rw [lg_entry_eq]
  generalize (lg_sl ([.ref h0, .int v0, .int v1, .int v2, .ref h1]) ++ List.replicate (6 - (lg_sl ([.ref h0, .int v0, .int v1, .int v2, .ref h1])).length) Slot.unset).toArray = ls at hl ⊢
  replace hl : lv_has ls 6 [(0, .ref h0), (1, .int v0), (2, .int v1), (3, .int v2), (4, .ref h1)] := hl
  have hH0 : s.heap.size ≤ s.heap.size := Nat.le_refl _
  refine lv_aload hx hb dL_ways_0 (lv_at hl 4 rfl) ?_
  refine lv_iconst (v := 0) hx hb dL_ways_2 (by decide) ?_
  refine lv_aload_n hx hb dL_ways_3 rfl (lv_at hl 0 rfl) ?_
  refine lv_iload_n hx hb dL_ways_4 rfl (lv_at hl 1 rfl) ?_
  refine lv_iload_n hx hb dL_ways_5 rfl (lv_at hl 2 rfl) ?_
  refine lv_iload_n hx hb dL_ways_6 rfl (lv_at hl 3 rfl) ?_
  have hPc := hP.sub (ws' := [(h0, .inr (12, [.ref h2, .int 0, .ref h3, .ref h4, .ref h5, .ref h6, .ref h7, .ref h8, .int (-1), .ref h9, .ref h10, .int 250, .ref h11, .int 0, .ref h12, .ref h13, .ref h14])), (h3, .inr (11, [.ref h15])), (h15, .inr (10, [.int 1, .int 20, .ref h16, .int 0]))]) [0, 1, 2] rfl
  have hDc := hD.sub (ws' := [(h0, .inr (12, [.ref h2, .int 0, .ref h3, .ref h4, .ref h5, .ref h6, .ref h7, .ref h8, .int (-1), .ref h9, .ref h10, .int 250, .ref h11, .int 0, .ref h12, .ref h13, .ref h14])), (h3, .inr (11, [.ref h15])), (h15, .inr (10, [.int 1, .int 20, .ref h16, .int 0]))]) [0, 1, 2] (by decide) rfl
  have hFc := va_free (wc := [(h0, .inr (12, [.ref h2, .int 0, .ref h3, .ref h4, .ref h5, .ref h6, .ref h7, .ref h8, .int (-1), .ref h9, .ref h10, .int 250, .ref h11, .int 0, .ref h12, .ref h13, .ref h14])), (h3, .inr (11, [.ref h15])), (h15, .inr (10, [.int 1, .int 20, .ref h16, .int 0]))]) hD hS hA [0, 1, 2] rfl
  refine vx_callv (vx_runV (As := [.int v0, .int v1, .int v2]) (rest := [.int 0, .ref h1]) ⟨hx, hb, hml, hown, hts⟩ (c9_X11_ways_4 l hlt g h0 h2 h3 h4 h5 h6 h7 h8 h9 h10 h11 h12 h13 h14 h15 h16 _ v0 v1 v2 (by omega) (by omega) (by omega)) (cwV 3 hts g9_L_ways_4_0 rfl rfl rfl (by decide +kernel) ⟨Nat.le_of_ble_eq_true rfl, Nat.le_of_ble_eq_true rfl⟩) (mPreV (g := g) (wc := [(h0, .inr (12, [.ref h2, .int 0, .ref h3, .ref h4, .ref h5, .ref h6, .ref h7, .ref h8, .int (-1), .ref h9, .ref h10, .int 250, .ref h11, .int 0, .ref h12, .ref h13, .ref h14])), (h3, .inr (11, [.ref h15])), (h15, .inr (10, [.int 1, .int 20, .ref h16, .int 0]))]) (C := RX11) (ci := 12) (q0 := 0) hE hS hPc hDc hFc rfl rfl) rfl rfl hl.1 rfl (lv_room (Nat.le_of_ble_eq_true rfl)) dL_ways_7 ⟨Nat.le_of_ble_eq_true rfl, Nat.le_of_ble_eq_true rfl⟩) hS (fun q _ h => hFc q h) hFc (fun q _ h => hFc q h) (fun E9 ce q9 u t H locs ht hvm hw hB hz1 hk1 hS hc1 hc2 hc3 => ?_) (fun u t H1 locs ht hvm hw hB hz1 hk1 hS => hw.elim)
  replace hB : E9 = "java/lang/IndexOutOfBoundsException" := hB
  subst hB
  obtain ⟨hP, hD⟩ := va_join (wr := []) (w1 := []) hP hD [0, 1, 2] [] rfl rfl (by decide) (by decide) hk1 hFc (fun k q h => by simp at h) ⟨fun i j p q h => by simp at h, fun k q h => by simp at h⟩
  have hP : va_P g.1 vwCl [] H := hP
  have hD : va_D A [] := hD
  refine vx_catch (own := RL) (name := "java/lang/IndexOutOfBoundsException") hown [] ⟨0, 12, 15, 21⟩ [⟨0, 12, 19, 15⟩] (by rw [htab]; rfl) (fun z hz => absurd hz List.not_mem_nil) (by decide) (by decide) (hts (.classLink RL 21 "java/lang/IndexOutOfBoundsException") (List.mem_of_getElem? (i := 74) rfl)) (va_Nw.use rfl (hE.cast ("java/lang/IndexOutOfBoundsException", "java/lang/IndexOutOfBoundsException") (by decide))) hc1 hc2 hc3 ?_
  refine lv_astore (lv' := [(5, .ref q9), (0, .ref h0), (1, .int v0), (2, .int v1), (3, .int v2), (4, .ref h1)]) hx hb dL_ways_15 hl (by decide) rfl (fun ls hl => ?_)
  refine lv_iconst (v := 1) hx hb dL_ways_17 (by decide) ?_
  have hP9 := hP.sub (ws' := []) [] rfl
  have hD9 := hD.sub (ws' := []) [] (by decide) rfl
  subst hAe
  exact W.iret (v := 1) hx hb hr (fun t ht hW => ⟨⟨1, (), rfl, rfl, by rw [ht]; exact hP9, hD9⟩, hS.F ht⟩) hS.2.2 dL_ways_18
def w9_X21_ways_4 : List Cond := [.code yX21_ways cX21_ways 7 (some .int), .methodLink RX21 160 yX21_in, .static yX21_in, .initialized RX21, .code yX21_in cX21_in 3 (some .boolean), .fieldLink RX21 196 "RegexloomModel" "length" "I", .methodLink RX21 154 yX21_refused, .instanceMethod yX21_refused, .selects RX21 yX21_refused yX21_refused, .code yX21_refused cX21_refused 2 (some .boolean), .fieldLink RX21 144 "RegexloomModel" "refusal" "I"] ++ (u_ws RX21 TX21 32)
set_option maxRecDepth 20000 in
theorem in9_X21_ways_4_RX21 : ∀ w ∈ u_ws RX21 TX21 32, w ∈ w9_X21_ways_4 := by decide +kernel
set_option maxRecDepth 20000 in
theorem g9_X21_ways_4_0 : GoodIn w9_X21_ways_4 (va_wsS RX21 160 yX21_in w9_X21_in_7) := goodIn_r _ [1, 2, 3, 4] (by decide +kernel) (by decide +kernel)
set_option maxRecDepth 20000 in
theorem g9_X21_ways_4_1 : GoodIn w9_X21_ways_4 (va_wsS RX21 160 yX21_in w9_X21_in_12) := goodIn_r _ [1, 2, 3, 4] (by decide +kernel) (by decide +kernel)
set_option maxRecDepth 20000 in
theorem g9_X21_ways_4_2 : GoodIn w9_X21_ways_4 (wsV RX21 154 RX21 yX21_refused w9_X21_refused_2) := goodIn_r _ [6, 7, 8, 3, 9, 10, 11, 12, 13, 14, 15, 16, 17, 18, 19, 20, 21, 22, 23, 24, 25, 26, 27, 28, 29, 30, 31, 32, 33, 34, 35, 36, 37, 38, 39, 40, 41, 42] (by decide +kernel) (by decide +kernel)
set_option maxHeartbeats 4000000 in
set_option maxRecDepth 100000 in
theorem c9_X21_ways_4 (l : Launch) (g : G9) (h0 h1 h2 h3 h4 h5 h6 h7 h8 h9 h10 h11 h12 h13 h14 h15 h16 sz : Nat) (v0 v1 v2 : Int32) (k_v0 : 0 ≤ v0.toInt ∧ v0.toInt ≤ 3) (k_v1 : 1 ≤ v1.toInt ∧ v1.toInt ≤ 2147483647) (k_v2 : (-2147483648) ≤ v2.toInt ∧ v2.toInt ≤ 2147483647) : Met l yX21_ways w9_X21_ways_4 ({ frames := 1, cells := 0, slots := 0, locals := 22 }) (mP g [(h0, .inr (22, [.int 0, .ref h1, .int 0, .ref h2, .int 0, .ref h3, .int 250, .ref h4, .int 0, .ref h5, .ref h6, .ref h7, .int 0, .ref h8, .ref h9, .ref h10, .int 0, .null, .int 0, .null, .int 0, .int 0, .int 0, .ref h11, .int 0, .ref h12, .ref h13, .ref h14, .int 0, .ref h15, .ref h16, .int 0]))] sz [.ref h0, .int v0, .int v1, .int v2]) (va_Qi (fun (r : Int32) (_ : Unit) => r = 0) (fun (_ : Unit) (t : State) => mB g [(h0, .inr (22, [.int 0, .ref h1, .int 0, .ref h2, .int 0, .ref h3, .int 250, .ref h4, .int 0, .ref h5, .ref h6, .ref h7, .int 0, .ref h8, .ref h9, .ref h10, .int 0, .null, .int 0, .null, .int 0, .int 0, .int 0, .ref h11, .int 0, .ref h12, .ref h13, .ref h14, .int 0, .ref h15, .ref h16, .int 0]))] sz [(h0, .inr (22, [.int 1, .ref h1, .int 0, .ref h2, .int 0, .ref h3, .int 250, .ref h4, .int 0, .ref h5, .ref h6, .ref h7, .int 0, .ref h8, .ref h9, .ref h10, .int 0, .null, .int 0, .null, .int 0, .int 0, .int 0, .ref h11, .int 0, .ref h12, .ref h13, .ref h14, .int 0, .ref h15, .ref h16, .int 0]))] t) (va_A [(h0, .inr (22, [.int 0, .ref h1, .int 0, .ref h2, .int 0, .ref h3, .int 250, .ref h4, .int 0, .ref h5, .ref h6, .ref h7, .int 0, .ref h8, .ref h9, .ref h10, .int 0, .null, .int 0, .null, .int 0, .int 0, .int 0, .ref h11, .int 0, .ref h12, .ref h13, .ref h14, .int 0, .ref h15, .ref h16, .int 0]))] sz)) 0 0 (va_A [(h0, .inr (22, [.int 0, .ref h1, .int 0, .ref h2, .int 0, .ref h3, .int 250, .ref h4, .int 0, .ref h5, .ref h6, .ref h7, .int 0, .ref h8, .ref h9, .ref h10, .int 0, .null, .int 0, .null, .int 0, .int 0, .int 0, .ref h11, .int 0, .ref h12, .ref h13, .ref h14, .int 0, .ref h15, .ref h16, .int 0]))] sz) := by
  refine Met.ofW (cc := cX21_ways) (maxL := 7) (ret := (some .int)) (by decide) rfl ?_
  intro p e s m args below meth c s₁ B hml hv
  obtain ⟨rfl, hsz, hP, hD0, hE⟩ := hv
  have hx := B.exec
  have hb := B.bytes
  have hr := B.returns
  have hts := atoms_spec (ws := w9_X21_ways_4) B.pre
  have hown : s.vm.findClass RX21 = some m.cls := findClass_of_methodNamed B.named
  have hlocks := B.notSynchronized
  subst hsz
  have hD := hD0.self (sz := s.heap.size)
  generalize hAe : va_A [(h0, .inr (22, [.int 0, .ref h1, .int 0, .ref h2, .int 0, .ref h3, .int 250, .ref h4, .int 0, .ref h5, .ref h6, .ref h7, .int 0, .ref h8, .ref h9, .ref h10, .int 0, .null, .int 0, .null, .int 0, .int 0, .int 0, .ref h11, .int 0, .ref h12, .ref h13, .ref h14, .int 0, .ref h15, .ref h16, .int 0]))] s.heap.size = A at hD hE ⊢
  have hA : ∀ q : Nat, s.heap.size ≤ q → A q := fun q h => by rw [← hAe]; exact Or.inr h
  have hK := hE.1
  have hS : va_S A s.heap s.heap [] := va_S.rf
  replace hP : va_P g.1 vwCl [(h0, .inr (22, [.int 0, .ref h1, .int 0, .ref h2, .int 0, .ref h3, .int 250, .ref h4, .int 0, .ref h5, .ref h6, .ref h7, .int 0, .ref h8, .ref h9, .ref h10, .int 0, .null, .int 0, .null, .int 0, .int 0, .int 0, .ref h11, .int 0, .ref h12, .ref h13, .ref h14, .int 0, .ref h15, .ref h16, .int 0]))] s.heap := hP
  have hl := lv_entry ([.ref h0, .int v0, .int v1, .int v2]) (n := 7) (Nat.le_of_ble_eq_true rfl)
  rw [lg_entry_eq]
  generalize (lg_sl ([.ref h0, .int v0, .int v1, .int v2]) ++ List.replicate (7 - (lg_sl ([.ref h0, .int v0, .int v1, .int v2])).length) Slot.unset).toArray = ls at hl ⊢
  replace hl : lv_has ls 7 [(0, .ref h0), (1, .int v0), (2, .int v1), (3, .int v2)] := hl
  have hH0 : s.heap.size ≤ s.heap.size := Nat.le_refl _
  refine lv_iload_n hx hb dX21_ways_0 rfl (lv_at hl 1 rfl) ?_
  refine lv_iconst (v := 0) hx hb dX21_ways_1 (by decide) ?_
  refine lv_iconst (v := 3) hx hb dX21_ways_2 (by decide) ?_
  have hPc := hP.sub (ws' := []) [] rfl
  have hDc := hD.sub (ws' := []) [] (by decide) rfl
  have hFc := va_free (wc := []) hD hS hA [] rfl
  refine va_calli (va_runS (As := [.int v0, .int 0, .int 3]) (rest := []) ⟨hx, hb, hml, hown, hts⟩ (c9_X21_in_7 l g _ v0 (by omega)) (va_cwS 3 hts g9_X21_ways_4_0 rfl rfl rfl (by decide +kernel) ⟨Nat.le_of_ble_eq_true rfl, Nat.le_of_ble_eq_true rfl⟩) (mPreS (g := g) (wc := []) hE hS hPc hDc hFc) rfl rfl hl.1 rfl (lv_room (Nat.le_of_ble_eq_true rfl)) dX21_ways_3 ⟨Nat.le_of_ble_eq_true rfl, Nat.le_of_ble_eq_true rfl⟩) hS (fun q _ h => hFc q h) hFc (fun r_1 u t H1 locs ht hvm hw hB hz1 hk1 hS => ?_)
  replace hw : 1 = r_1 := Eq.symm hw
  subst hw
  obtain ⟨hP1, hD1⟩ := hB
  rw [ht] at hP1
  obtain ⟨hP, hD⟩ := va_join (wr := [(h0, .inr (22, [.int 0, .ref h1, .int 0, .ref h2, .int 0, .ref h3, .int 250, .ref h4, .int 0, .ref h5, .ref h6, .ref h7, .int 0, .ref h8, .ref h9, .ref h10, .int 0, .null, .int 0, .null, .int 0, .int 0, .int 0, .ref h11, .int 0, .ref h12, .ref h13, .ref h14, .int 0, .ref h15, .ref h16, .int 0]))]) (w1 := []) hP hD [] [0] rfl rfl (by decide) (by decide) hk1 hFc hP1 hD1
  clear hP1 hD1 hPc hDc hFc hk1 hz1 hvm ht
  generalize H1 = H at hP hS ⊢
  have hP : va_P g.1 vwCl [(h0, .inr (22, [.int 0, .ref h1, .int 0, .ref h2, .int 0, .ref h3, .int 250, .ref h4, .int 0, .ref h5, .ref h6, .ref h7, .int 0, .ref h8, .ref h9, .ref h10, .int 0, .null, .int 0, .null, .int 0, .int 0, .int 0, .ref h11, .int 0, .ref h12, .ref h13, .ref h14, .int 0, .ref h15, .ref h16, .int 0]))] H := hP
  have hD : va_D A [(h0, .inr (22, [.int 0, .ref h1, .int 0, .ref h2, .int 0, .ref h3, .int 250, .ref h4, .int 0, .ref h5, .ref h6, .ref h7, .int 0, .ref h8, .ref h9, .ref h10, .int 0, .null, .int 0, .null, .int 0, .int 0, .int 0, .ref h11, .int 0, .ref h12, .ref h13, .ref h14, .int 0, .ref h15, .ref h16, .int 0]))] := hD
  refine lv_if_eq (tgt := 37) hx hb dX21_ways_6 (by decide) (fun c9 => absurd c9 (by decide)) (fun _ => ?_)
  refine lv_iload_n hx hb dX21_ways_9 rfl (lv_at hl 2 rfl) ?_
  refine lv_iconst (v := 0) hx hb dX21_ways_10 (by decide) ?_
  refine lv_aload_n hx hb dX21_ways_11 rfl (lv_at hl 0 rfl) ?_
  refine va_get (D := g.1) (ci := 22) (v := .int 0) (C := RX21) (T := TX21) (N := 32) hx hb hts in9_X21_ways_4_RX21 hown hK hP 0 rfl rfl 4 (by decide) (hts (.fieldLink RX21 196 "RegexloomModel" "length" "I") (List.mem_of_getElem? (i := 5) rfl)) (fun _ h9 => h9) rfl dX21_ways_12 ?_
  have hPc := hP.sub (ws' := []) [] rfl
  have hDc := hD.sub (ws' := []) [] (by decide) rfl
  have hFc := va_free (wc := []) hD hS hA [] rfl
  refine va_calli (va_runS (As := [.int v1, .int 0, .int 0]) (rest := []) ⟨hx, hb, hml, hown, hts⟩ (c9_X21_in_12 l g _ v1 (by omega)) (va_cwS 3 hts g9_X21_ways_4_1 rfl rfl rfl (by decide +kernel) ⟨Nat.le_of_ble_eq_true rfl, Nat.le_of_ble_eq_true rfl⟩) (mPreS (g := g) (wc := []) hE hS hPc hDc hFc) rfl rfl hl.1 rfl (lv_room (Nat.le_of_ble_eq_true rfl)) dX21_ways_15 ⟨Nat.le_of_ble_eq_true rfl, Nat.le_of_ble_eq_true rfl⟩) hS (fun q _ h => hFc q h) hFc (fun r_2 u t H1 locs ht hvm hw hB hz1 hk1 hS => ?_)
  replace hw : 0 = r_2 := Eq.symm hw
  subst hw
  obtain ⟨hP1, hD1⟩ := hB
  rw [ht] at hP1
  obtain ⟨hP, hD⟩ := va_join (wr := [(h0, .inr (22, [.int 0, .ref h1, .int 0, .ref h2, .int 0, .ref h3, .int 250, .ref h4, .int 0, .ref h5, .ref h6, .ref h7, .int 0, .ref h8, .ref h9, .ref h10, .int 0, .null, .int 0, .null, .int 0, .int 0, .int 0, .ref h11, .int 0, .ref h12, .ref h13, .ref h14, .int 0, .ref h15, .ref h16, .int 0]))]) (w1 := []) hP hD [] [0] rfl rfl (by decide) (by decide) hk1 hFc hP1 hD1
  clear hP1 hD1 hPc hDc hFc hk1 hz1 hvm ht
  generalize H1 = H at hP hS ⊢
  have hP : va_P g.1 vwCl [(h0, .inr (22, [.int 0, .ref h1, .int 0, .ref h2, .int 0, .ref h3, .int 250, .ref h4, .int 0, .ref h5, .ref h6, .ref h7, .int 0, .ref h8, .ref h9, .ref h10, .int 0, .null, .int 0, .null, .int 0, .int 0, .int 0, .ref h11, .int 0, .ref h12, .ref h13, .ref h14, .int 0, .ref h15, .ref h16, .int 0]))] H := hP
  have hD : va_D A [(h0, .inr (22, [.int 0, .ref h1, .int 0, .ref h2, .int 0, .ref h3, .int 250, .ref h4, .int 0, .ref h5, .ref h6, .ref h7, .int 0, .ref h8, .ref h9, .ref h10, .int 0, .null, .int 0, .null, .int 0, .int 0, .int 0, .ref h11, .int 0, .ref h12, .ref h13, .ref h14, .int 0, .ref h15, .ref h16, .int 0]))] := hD
  refine lv_if_eq (tgt := 37) hx hb dX21_ways_18 (by decide) (fun _ => ?_) (fun c9 => absurd (by decide) c9)
  refine lv_iconst (v := 0) hx hb dX21_ways_37 (by decide) ?_
  refine lv_istore (lv' := [(4, .int 0), (0, .ref h0), (1, .int v0), (2, .int v1), (3, .int v2)]) hx hb dX21_ways_38 hl (by decide) rfl (fun ls hl => ?_)
  refine lv_iload hx hb dX21_ways_40 (lv_at hl 0 rfl) ?_
  refine lv_if_ne (tgt := 49) hx hb dX21_ways_42 (by decide) (fun c9 => absurd (by decide) c9) (fun _ => ?_)
  refine lv_iconst (v := 1) hx hb dX21_ways_45 (by decide) ?_
  refine lv_goto (tgt := 75) hx hb dX21_ways_46 (by decide) ?_
  refine lv_istore (lv' := [(5, .int 1), (4, .int 0), (0, .ref h0), (1, .int v0), (2, .int v1), (3, .int v2)]) hx hb dX21_ways_75 hl (by decide) rfl (fun ls hl => ?_)
  refine lv_aload_n hx hb dX21_ways_77 rfl (lv_at hl 2 rfl) ?_
  refine lv_iload hx hb dX21_ways_78 (lv_at hl 0 rfl) ?_
  have hPc := hP.sub (ws' := [(h0, .inr (22, [.int 0, .ref h1, .int 0, .ref h2, .int 0, .ref h3, .int 250, .ref h4, .int 0, .ref h5, .ref h6, .ref h7, .int 0, .ref h8, .ref h9, .ref h10, .int 0, .null, .int 0, .null, .int 0, .int 0, .int 0, .ref h11, .int 0, .ref h12, .ref h13, .ref h14, .int 0, .ref h15, .ref h16, .int 0]))]) [0] rfl
  have hDc := hD.sub (ws' := [(h0, .inr (22, [.int 0, .ref h1, .int 0, .ref h2, .int 0, .ref h3, .int 250, .ref h4, .int 0, .ref h5, .ref h6, .ref h7, .int 0, .ref h8, .ref h9, .ref h10, .int 0, .null, .int 0, .null, .int 0, .int 0, .int 0, .ref h11, .int 0, .ref h12, .ref h13, .ref h14, .int 0, .ref h15, .ref h16, .int 0]))]) [0] (by decide) rfl
  have hFc := va_free (wc := [(h0, .inr (22, [.int 0, .ref h1, .int 0, .ref h2, .int 0, .ref h3, .int 250, .ref h4, .int 0, .ref h5, .ref h6, .ref h7, .int 0, .ref h8, .ref h9, .ref h10, .int 0, .null, .int 0, .null, .int 0, .int 0, .int 0, .ref h11, .int 0, .ref h12, .ref h13, .ref h14, .int 0, .ref h15, .ref h16, .int 0]))]) hD hS hA [0] rfl
  refine va_calli (va_runV (As := [.int 1]) (rest := []) ⟨hx, hb, hml, hown, hts⟩ (c9_X21_refused_2 l g h0 h1 h2 h3 h4 h5 h6 h7 h8 h9 h10 h11 h12 h13 h14 h15 h16 _) (cwV 1 hts g9_X21_ways_4_2 rfl rfl rfl (by decide +kernel) ⟨Nat.le_of_ble_eq_true rfl, Nat.le_of_ble_eq_true rfl⟩) (mPreV (g := g) (wc := [(h0, .inr (22, [.int 0, .ref h1, .int 0, .ref h2, .int 0, .ref h3, .int 250, .ref h4, .int 0, .ref h5, .ref h6, .ref h7, .int 0, .ref h8, .ref h9, .ref h10, .int 0, .null, .int 0, .null, .int 0, .int 0, .int 0, .ref h11, .int 0, .ref h12, .ref h13, .ref h14, .int 0, .ref h15, .ref h16, .int 0]))]) (C := RX21) (ci := 22) (q0 := 0) hE hS hPc hDc hFc rfl rfl) rfl rfl hl.1 rfl (lv_room (Nat.le_of_ble_eq_true rfl)) dX21_ways_80 ⟨Nat.le_of_ble_eq_true rfl, Nat.le_of_ble_eq_true rfl⟩) hS (fun q _ h => hFc q h) hFc (fun r_3 u t H1 locs ht hvm hw hB hz1 hk1 hS => ?_)
  replace hw : 1 = r_3 := Eq.symm hw
  subst hw
  obtain ⟨hP1, hD1⟩ := hB
  rw [ht] at hP1
  obtain ⟨hP, hD⟩ := va_join (wr := []) (w1 := [(h0, .inr (22, [.int 1, .ref h1, .int 0, .ref h2, .int 0, .ref h3, .int 250, .ref h4, .int 0, .ref h5, .ref h6, .ref h7, .int 0, .ref h8, .ref h9, .ref h10, .int 0, .null, .int 0, .null, .int 0, .int 0, .int 0, .ref h11, .int 0, .ref h12, .ref h13, .ref h14, .int 0, .ref h15, .ref h16, .int 0]))]) hP hD [0] [] rfl rfl (by decide) (by decide) hk1 hFc hP1 hD1
  clear hP1 hD1 hPc hDc hFc hk1 hz1 hvm ht
  generalize H1 = H at hP hS ⊢
  have hP : va_P g.1 vwCl [(h0, .inr (22, [.int 1, .ref h1, .int 0, .ref h2, .int 0, .ref h3, .int 250, .ref h4, .int 0, .ref h5, .ref h6, .ref h7, .int 0, .ref h8, .ref h9, .ref h10, .int 0, .null, .int 0, .null, .int 0, .int 0, .int 0, .ref h11, .int 0, .ref h12, .ref h13, .ref h14, .int 0, .ref h15, .ref h16, .int 0]))] H := hP
  have hD : va_D A [(h0, .inr (22, [.int 1, .ref h1, .int 0, .ref h2, .int 0, .ref h3, .int 250, .ref h4, .int 0, .ref h5, .ref h6, .ref h7, .int 0, .ref h8, .ref h9, .ref h10, .int 0, .null, .int 0, .null, .int 0, .int 0, .int 0, .ref h11, .int 0, .ref h12, .ref h13, .ref h14, .int 0, .ref h15, .ref h16, .int 0]))] := hD
  refine lv_if_eq (tgt := 88) hx hb dX21_ways_83 (by decide) (fun c9 => absurd c9 (by decide)) (fun _ => ?_)
  refine lv_iconst (v := 0) hx hb dX21_ways_86 (by decide) ?_
  have hP9 := hP.sub (ws' := [(h0, .inr (22, [.int 1, .ref h1, .int 0, .ref h2, .int 0, .ref h3, .int 250, .ref h4, .int 0, .ref h5, .ref h6, .ref h7, .int 0, .ref h8, .ref h9, .ref h10, .int 0, .null, .int 0, .null, .int 0, .int 0, .int 0, .ref h11, .int 0, .ref h12, .ref h13, .ref h14, .int 0, .ref h15, .ref h16, .int 0]))]) [0] rfl
  have hD9 := hD.sub (ws' := [(h0, .inr (22, [.int 1, .ref h1, .int 0, .ref h2, .int 0, .ref h3, .int 250, .ref h4, .int 0, .ref h5, .ref h6, .ref h7, .int 0, .ref h8, .ref h9, .ref h10, .int 0, .null, .int 0, .null, .int 0, .int 0, .int 0, .ref h11, .int 0, .ref h12, .ref h13, .ref h14, .int 0, .ref h15, .ref h16, .int 0]))]) [0] (by decide) rfl
  subst hAe
  exact W.iret (v := 0) hx hb hr (fun t ht hW => ⟨⟨0, (), rfl, rfl, by rw [ht]; exact hP9, hD9⟩, hS.F ht⟩) hS.2.2 dX21_ways_87
def w9_X11_ways_5 : List Cond := [.code yX11_ways cX11_ways 4 (some .int), .methodLink RX11 124 yX11_needPattern, .instanceMethod yX11_needPattern, .selects RX11 yX11_needPattern yX11_needPattern, .initialized RX11, .code yX11_needPattern cX11_needPattern 2 none, .methodLink RX11 180 yX11_needPlace, .instanceMethod yX11_needPlace, .selects RX11 yX11_needPlace yX11_needPlace, .code yX11_needPlace cX11_needPlace 2 none, .fieldLink RX11 16 "Regexloom" "text" "LRegexloom$Text;", .methodLink RX11 146 yX10_size, .instanceMethod yX10_size, .selects RX10 yX10_size yX10_size, .initialized RX10, .code yX10_size cX10_size 1 (some .int), .fieldLink RX10 14 "Regexloom$Text" "codes" "LRegexloom$Table;", .methodLink RX10 20 yX9_size, .instanceMethod yX9_size, .selects RX9 yX9_size yX9_size, .initialized RX9, .code yX9_size cX9_size 1 (some .int), .fieldLink RX9 28 "Regexloom$Table" "size" "I", .initialized "java/lang/Throwable", .superclass "java/lang/Throwable" "java/lang/Object", .instanceMethod Bundle.tFill, .codeSync Bundle.tFill LibCode.Throwable.Fill.code 1 (some (.object "java/lang/Throwable")), .instanceMethod Bundle.tFill0, .native Bundle.tFill0, .instanceMethod Bundle.tInit0, .code Bundle.tInit0 LibCode.Throwable.Init0.code 1 none, .instanceMethod Bundle.oInit, .code Bundle.oInit ⟨#[0xb1]⟩ 1 none, .methodLink "java/lang/Throwable" 1 Bundle.oInit, .methodLink "java/lang/Throwable" 27 Bundle.tFill, .methodLink "java/lang/Throwable" 202 Bundle.tFill0, .fieldLink "java/lang/Throwable" 7 "java/lang/Throwable" "cause" "Ljava/lang/Throwable;", .lays "java/lang/Throwable" "java/lang/Throwable" "cause" "Ljava/lang/Throwable;", .fieldLink "java/lang/Throwable" 17 "java/lang/Throwable" "stackTrace" "[Ljava/lang/StackTraceElement;", .lays "java/lang/Throwable" "java/lang/Throwable" "stackTrace" "[Ljava/lang/StackTraceElement;", .fieldLink "java/lang/Throwable" 24 "java/lang/Throwable" "suppressedExceptions" "Ljava/util/List;", .lays "java/lang/Throwable" "java/lang/Throwable" "suppressedExceptions" "Ljava/util/List;", .fieldLink "java/lang/Throwable" 13 "java/lang/Throwable" "UNASSIGNED_STACK" "[Ljava/lang/StackTraceElement;", .fieldLink "java/lang/Throwable" 20 "java/lang/Throwable" "SUPPRESSED_SENTINEL" "Ljava/util/List;", .lays "java/lang/Throwable" "java/lang/Throwable" "detailMessage" "Ljava/lang/String;", .instanceMethod (Bundle.initS "java/lang/Throwable"), .code (Bundle.initS "java/lang/Throwable") LibCode.Throwable.InitS.code 2 none, .fieldLink "java/lang/Throwable" 31 "java/lang/Throwable" "detailMessage" "Ljava/lang/String;", .instanceMethod (Bundle.initS "java/lang/IndexOutOfBoundsException"), .code (Bundle.initS "java/lang/IndexOutOfBoundsException") Bundle.six 2 none, .methodLink "java/lang/IndexOutOfBoundsException" 7 (Bundle.initS "java/lang/RuntimeException"), .instanceMethod (Bundle.initS "java/lang/RuntimeException"), .code (Bundle.initS "java/lang/RuntimeException") Bundle.six 2 none, .methodLink "java/lang/RuntimeException" 7 (Bundle.initS "java/lang/Exception"), .instanceMethod (Bundle.initS "java/lang/Exception"), .code (Bundle.initS "java/lang/Exception") Bundle.six 2 none, .methodLink "java/lang/Exception" 7 (Bundle.initS "java/lang/Throwable"), .methodLink RX11 224 (Bundle.initS "java/lang/IndexOutOfBoundsException"), .instantiable "java/lang/IndexOutOfBoundsException" 6, .selects "java/lang/IndexOutOfBoundsException" Bundle.tFill0 Bundle.tFill0, .selects "java/lang/IndexOutOfBoundsException" Bundle.tFill Bundle.tFill, .lays "java/lang/IndexOutOfBoundsException" "java/lang/Throwable" "cause" "Ljava/lang/Throwable;", .lays "java/lang/IndexOutOfBoundsException" "java/lang/Throwable" "stackTrace" "[Ljava/lang/StackTraceElement;", .lays "java/lang/IndexOutOfBoundsException" "java/lang/Throwable" "suppressedExceptions" "Ljava/util/List;", .lays "java/lang/IndexOutOfBoundsException" "java/lang/Throwable" "detailMessage" "Ljava/lang/String;", .fieldLink "java/lang/Throwable" 198 "java/lang/Throwable" "backtrace" "Ljava/lang/Object;", .lays "java/lang/Throwable" "java/lang/Throwable" "backtrace" "Ljava/lang/Object;", .lays "java/lang/IndexOutOfBoundsException" "java/lang/Throwable" "backtrace" "Ljava/lang/Object;", .classLink RX11 220 "java/lang/IndexOutOfBoundsException", .initialized "java/lang/IndexOutOfBoundsException"] ++ (u_ws RX11 TX11 17 ++ u_ws RX10 TX10 1 ++ u_ws RX9 TX9 4)
set_option maxRecDepth 20000 in
theorem in9_X11_ways_5_RX11 : ∀ w ∈ u_ws RX11 TX11 17, w ∈ w9_X11_ways_5 := by decide +kernel
set_option maxRecDepth 20000 in
theorem in9_X11_ways_5_RX10 : ∀ w ∈ u_ws RX10 TX10 1, w ∈ w9_X11_ways_5 := by decide +kernel
set_option maxRecDepth 20000 in
theorem in9_X11_ways_5_RX9 : ∀ w ∈ u_ws RX9 TX9 4, w ∈ w9_X11_ways_5 := by decide +kernel
set_option maxRecDepth 20000 in
theorem g9_X11_ways_5_0 : GoodIn w9_X11_ways_5 (wsV RX11 124 RX11 yX11_needPattern w9_X11_needPattern_7) := goodIn_r _ [1, 2, 3, 4, 5] (by decide +kernel) (by decide +kernel)
set_option maxRecDepth 20000 in
theorem g9_X11_ways_5_1 : GoodIn w9_X11_ways_5 (wsV RX11 180 RX11 yX11_needPlace w9_X11_needPlace_3) := goodIn_r _ [6, 7, 8, 4, 9, 10, 11, 12, 13, 14, 15, 16, 17, 18, 19, 20, 21, 22, 70, 71, 72, 73, 74, 75, 76, 77, 78, 79, 80, 81, 82, 83, 84, 85, 86, 87, 88, 89, 90, 91] (by decide +kernel) (by decide +kernel)
set_option maxRecDepth 20000 in
theorem g9_X11_ways_5_2 : GoodIn w9_X11_ways_5 (wsV RX11 180 RX11 yX11_needPlace w9_X11_needPlace_1) := goodIn_r _ [6, 7, 8, 4, 9, 23, 24, 25, 26, 27, 28, 29, 30, 31, 32, 33, 34, 35, 36, 37, 38, 39, 40, 41, 42, 43, 44, 45, 46, 47, 48, 49, 50, 51, 52, 53, 54, 55, 56, 57, 58, 59, 60, 61, 62, 63, 64, 65, 66, 67, 68, 69] (by decide +kernel) (by decide +kernel)
set_option maxHeartbeats 4000000 in
set_option maxRecDepth 100000 in
theorem c9_X11_ways_5 (l : Launch) (hlt : l.stackTraces = false) (g : G9) (h0 h1 h2 h3 h4 h5 h6 h7 h8 h9 h10 h11 h12 h13 h14 h15 sz : Nat) (v0 v1 : Int32) (k_v0 : 0 ≤ v0.toInt ∧ v0.toInt ≤ 3) (k_v1 : (-2147483648) ≤ v1.toInt ∧ v1.toInt ≤ (-1)) : vx_Met l yX11_ways w9_X11_ways_5 ({ frames := 7, cells := 1, slots := 6, locals := 103 }) (mP g [(h0, .inr (12, [.ref h1, .int 0, .ref h2, .ref h3, .ref h4, .ref h5, .ref h6, .ref h7, .int (-1), .ref h8, .ref h9, .int 250, .ref h10, .int 0, .ref h11, .ref h12, .ref h13])), (h2, .inr (11, [.ref h14])), (h14, .inr (10, [.int 1, .int 20, .ref h15, .int 0]))] sz [.ref h0, .int v0, .int 0, .int v1]) (va_Qv (fun _ : Unit => False) (fun _ _ => True) (va_A [(h0, .inr (12, [.ref h1, .int 0, .ref h2, .ref h3, .ref h4, .ref h5, .ref h6, .ref h7, .int (-1), .ref h8, .ref h9, .int 250, .ref h10, .int 0, .ref h11, .ref h12, .ref h13])), (h2, .inr (11, [.ref h14])), (h14, .inr (10, [.int 1, .int 20, .ref h15, .int 0]))] sz)) (mT g [(h0, .inr (12, [.ref h1, .int 0, .ref h2, .ref h3, .ref h4, .ref h5, .ref h6, .ref h7, .int (-1), .ref h8, .ref h9, .int 250, .ref h10, .int 0, .ref h11, .ref h12, .ref h13])), (h2, .inr (11, [.ref h14])), (h14, .inr (10, [.int 1, .int 20, .ref h15, .int 0]))] sz "java/lang/IndexOutOfBoundsException") 1 6 (va_A [(h0, .inr (12, [.ref h1, .int 0, .ref h2, .ref h3, .ref h4, .ref h5, .ref h6, .ref h7, .int (-1), .ref h8, .ref h9, .int 250, .ref h10, .int 0, .ref h11, .ref h12, .ref h13])), (h2, .inr (11, [.ref h14])), (h14, .inr (10, [.int 1, .int 20, .ref h15, .int 0]))] sz) := by
  refine vx_ofW (cc := cX11_ways) (maxL := 4) (ret := (some .int)) (by decide) rfl ?_
  intro p e s m args below meth c s₁ B hml hno hv
  obtain ⟨rfl, hsz, hP, hD0, hE⟩ := hv
  have hx := B.exec
  have hb := B.bytes
  have hr := B.returns
  have hts := atoms_spec (ws := w9_X11_ways_5) B.pre
  have hown : s.vm.findClass RX11 = some m.cls := findClass_of_methodNamed B.named
  have hlocks := B.notSynchronized
  subst hsz
  have hD := hD0.self (sz := s.heap.size)
  generalize hAe : va_A [(h0, .inr (12, [.ref h1, .int 0, .ref h2, .ref h3, .ref h4, .ref h5, .ref h6, .ref h7, .int (-1), .ref h8, .ref h9, .int 250, .ref h10, .int 0, .ref h11, .ref h12, .ref h13])), (h2, .inr (11, [.ref h14])), (h14, .inr (10, [.int 1, .int 20, .ref h15, .int 0]))] s.heap.size = A at hD hE ⊢
  have hA : ∀ q : Nat, s.heap.size ≤ q → A q := fun q h => by rw [← hAe]; exact Or.inr h
  have hK := hE.1
  have hS : va_S A s.heap s.heap [] := va_S.rf
  replace hP : va_P g.1 vwCl [(h0, .inr (12, [.ref h1, .int 0, .ref h2, .ref h3, .ref h4, .ref h5, .ref h6, .ref h7, .int (-1), .ref h8, .ref h9, .int 250, .ref h10, .int 0, .ref h11, .ref h12, .ref h13])), (h2, .inr (11, [.ref h14])), (h14, .inr (10, [.int 1, .int 20, .ref h15, .int 0]))] s.heap := hP
  have hl := lv_entry ([.ref h0, .int v0, .int 0, .int v1]) (n := 4) (Nat.le_of_ble_eq_true rfl)
  rw [lg_entry_eq]
  generalize (lg_sl ([.ref h0, .int v0, .int 0, .int v1]) ++ List.replicate (4 - (lg_sl ([.ref h0, .int v0, .int 0, .int v1])).length) Slot.unset).toArray = ls at hl ⊢
  replace hl : lv_has ls 4 [(0, .ref h0), (1, .int v0), (2, .int 0), (3, .int v1)] := hl
  have hH0 : s.heap.size ≤ s.heap.size := Nat.le_refl _
  refine lv_aload_n hx hb dX11_ways_0 rfl (lv_at hl 0 rfl) ?_
  refine lv_iload_n hx hb dX11_ways_1 rfl (lv_at hl 1 rfl) ?_
  have hPc := hP.sub (ws' := [(h0, .inr (12, [.ref h1, .int 0, .ref h2, .ref h3, .ref h4, .ref h5, .ref h6, .ref h7, .int (-1), .ref h8, .ref h9, .int 250, .ref h10, .int 0, .ref h11, .ref h12, .ref h13]))]) [0] rfl
  have hDc := hD.sub (ws' := [(h0, .inr (12, [.ref h1, .int 0, .ref h2, .ref h3, .ref h4, .ref h5, .ref h6, .ref h7, .int (-1), .ref h8, .ref h9, .int 250, .ref h10, .int 0, .ref h11, .ref h12, .ref h13]))]) [0] (by decide) rfl
  have hFc := va_free (wc := [(h0, .inr (12, [.ref h1, .int 0, .ref h2, .ref h3, .ref h4, .ref h5, .ref h6, .ref h7, .int (-1), .ref h8, .ref h9, .int 250, .ref h10, .int 0, .ref h11, .ref h12, .ref h13]))]) hD hS hA [0] rfl
  refine va_callv (va_runV (As := [.int v0]) (rest := []) ⟨hx, hb, hml, hown, hts⟩ (c9_X11_needPattern_7 l g h0 h1 h2 h3 h4 h5 h6 h7 h8 h9 h10 h11 h12 h13 _ v0 (by omega)) (cwV 1 hts g9_X11_ways_5_0 rfl rfl rfl (by decide +kernel) ⟨Nat.le_of_ble_eq_true rfl, Nat.le_of_ble_eq_true rfl⟩) (mPreV (g := g) (wc := [(h0, .inr (12, [.ref h1, .int 0, .ref h2, .ref h3, .ref h4, .ref h5, .ref h6, .ref h7, .int (-1), .ref h8, .ref h9, .int 250, .ref h10, .int 0, .ref h11, .ref h12, .ref h13]))]) (C := RX11) (ci := 12) (q0 := 0) hE hS hPc hDc hFc rfl rfl) rfl rfl hl.1 rfl (lv_room (Nat.le_of_ble_eq_true rfl)) dX11_ways_2 ⟨Nat.le_of_ble_eq_true rfl, Nat.le_of_ble_eq_true rfl⟩) hS (fun q _ h => hFc q h) hFc (fun u t H1 locs ht hvm hw hB hz1 hk1 hS => ?_)
  obtain ⟨hP1, hD1⟩ := hB
  rw [ht] at hP1
  obtain ⟨hP, hD⟩ := va_join (wr := [(h2, .inr (11, [.ref h14])), (h14, .inr (10, [.int 1, .int 20, .ref h15, .int 0]))]) (w1 := [(h0, .inr (12, [.ref h1, .int 0, .ref h2, .ref h3, .ref h4, .ref h5, .ref h6, .ref h7, .int (-1), .ref h8, .ref h9, .int 250, .ref h10, .int 0, .ref h11, .ref h12, .ref h13]))]) hP hD [0] [1, 2] rfl rfl (by decide) (by decide) hk1 hFc hP1 hD1
  clear hP1 hD1 hPc hDc hFc hk1 hz1 hvm ht
  generalize H1 = H at hP hS ⊢
  have hP : va_P g.1 vwCl [(h2, .inr (11, [.ref h14])), (h14, .inr (10, [.int 1, .int 20, .ref h15, .int 0])), (h0, .inr (12, [.ref h1, .int 0, .ref h2, .ref h3, .ref h4, .ref h5, .ref h6, .ref h7, .int (-1), .ref h8, .ref h9, .int 250, .ref h10, .int 0, .ref h11, .ref h12, .ref h13]))] H := hP
  have hD : va_D A [(h2, .inr (11, [.ref h14])), (h14, .inr (10, [.int 1, .int 20, .ref h15, .int 0])), (h0, .inr (12, [.ref h1, .int 0, .ref h2, .ref h3, .ref h4, .ref h5, .ref h6, .ref h7, .int (-1), .ref h8, .ref h9, .int 250, .ref h10, .int 0, .ref h11, .ref h12, .ref h13]))] := hD
  refine lv_aload_n hx hb dX11_ways_5 rfl (lv_at hl 0 rfl) ?_
  refine lv_iload_n hx hb dX11_ways_6 rfl (lv_at hl 2 rfl) ?_
  have hPc := hP.sub (ws' := [(h2, .inr (11, [.ref h14])), (h14, .inr (10, [.int 1, .int 20, .ref h15, .int 0])), (h0, .inr (12, [.ref h1, .int 0, .ref h2, .ref h3, .ref h4, .ref h5, .ref h6, .ref h7, .int (-1), .ref h8, .ref h9, .int 250, .ref h10, .int 0, .ref h11, .ref h12, .ref h13]))]) [0, 1, 2] rfl
  have hDc := hD.sub (ws' := [(h2, .inr (11, [.ref h14])), (h14, .inr (10, [.int 1, .int 20, .ref h15, .int 0])), (h0, .inr (12, [.ref h1, .int 0, .ref h2, .ref h3, .ref h4, .ref h5, .ref h6, .ref h7, .int (-1), .ref h8, .ref h9, .int 250, .ref h10, .int 0, .ref h11, .ref h12, .ref h13]))]) [0, 1, 2] (by decide) rfl
  have hFc := va_free (wc := [(h2, .inr (11, [.ref h14])), (h14, .inr (10, [.int 1, .int 20, .ref h15, .int 0])), (h0, .inr (12, [.ref h1, .int 0, .ref h2, .ref h3, .ref h4, .ref h5, .ref h6, .ref h7, .int (-1), .ref h8, .ref h9, .int 250, .ref h10, .int 0, .ref h11, .ref h12, .ref h13]))]) hD hS hA [0, 1, 2] rfl
  refine va_callv (va_runV (As := [.int 0]) (rest := []) ⟨hx, hb, hml, hown, hts⟩ (c9_X11_needPlace_3 l g h0 h2 h14 h15 h1 h3 h4 h5 h6 h7 h8 h9 h10 h11 h12 h13 _) (cwV 1 hts g9_X11_ways_5_1 rfl rfl rfl (by decide +kernel) ⟨Nat.le_of_ble_eq_true rfl, Nat.le_of_ble_eq_true rfl⟩) (mPreV (g := g) (wc := [(h2, .inr (11, [.ref h14])), (h14, .inr (10, [.int 1, .int 20, .ref h15, .int 0])), (h0, .inr (12, [.ref h1, .int 0, .ref h2, .ref h3, .ref h4, .ref h5, .ref h6, .ref h7, .int (-1), .ref h8, .ref h9, .int 250, .ref h10, .int 0, .ref h11, .ref h12, .ref h13]))]) (C := RX11) (ci := 12) (q0 := 2) hE hS hPc hDc hFc rfl rfl) rfl rfl hl.1 rfl (lv_room (Nat.le_of_ble_eq_true rfl)) dX11_ways_7 ⟨Nat.le_of_ble_eq_true rfl, Nat.le_of_ble_eq_true rfl⟩) hS (fun q _ h => hFc q h) hFc (fun u t H1 locs ht hvm hw hB hz1 hk1 hS => ?_)
  obtain ⟨hP1, hD1⟩ := hB
  rw [ht] at hP1
  obtain ⟨hP, hD⟩ := va_join (wr := []) (w1 := [(h2, .inr (11, [.ref h14])), (h14, .inr (10, [.int 1, .int 20, .ref h15, .int 0])), (h0, .inr (12, [.ref h1, .int 0, .ref h2, .ref h3, .ref h4, .ref h5, .ref h6, .ref h7, .int (-1), .ref h8, .ref h9, .int 250, .ref h10, .int 0, .ref h11, .ref h12, .ref h13]))]) hP hD [0, 1, 2] [] rfl rfl (by decide) (by decide) hk1 hFc hP1 hD1
  clear hP1 hD1 hPc hDc hFc hk1 hz1 hvm ht
  generalize H1 = H at hP hS ⊢
  have hP : va_P g.1 vwCl [(h2, .inr (11, [.ref h14])), (h14, .inr (10, [.int 1, .int 20, .ref h15, .int 0])), (h0, .inr (12, [.ref h1, .int 0, .ref h2, .ref h3, .ref h4, .ref h5, .ref h6, .ref h7, .int (-1), .ref h8, .ref h9, .int 250, .ref h10, .int 0, .ref h11, .ref h12, .ref h13]))] H := hP
  have hD : va_D A [(h2, .inr (11, [.ref h14])), (h14, .inr (10, [.int 1, .int 20, .ref h15, .int 0])), (h0, .inr (12, [.ref h1, .int 0, .ref h2, .ref h3, .ref h4, .ref h5, .ref h6, .ref h7, .int (-1), .ref h8, .ref h9, .int 250, .ref h10, .int 0, .ref h11, .ref h12, .ref h13]))] := hD
  refine lv_aload_n hx hb dX11_ways_10 rfl (lv_at hl 0 rfl) ?_
  refine lv_iload_n hx hb dX11_ways_11 rfl (lv_at hl 3 rfl) ?_
  have hPc := hP.sub (ws' := [(h0, .inr (12, [.ref h1, .int 0, .ref h2, .ref h3, .ref h4, .ref h5, .ref h6, .ref h7, .int (-1), .ref h8, .ref h9, .int 250, .ref h10, .int 0, .ref h11, .ref h12, .ref h13]))]) [2] rfl
  have hDc := hD.sub (ws' := [(h0, .inr (12, [.ref h1, .int 0, .ref h2, .ref h3, .ref h4, .ref h5, .ref h6, .ref h7, .int (-1), .ref h8, .ref h9, .int 250, .ref h10, .int 0, .ref h11, .ref h12, .ref h13]))]) [2] (by decide) rfl
  have hFc := va_free (wc := [(h0, .inr (12, [.ref h1, .int 0, .ref h2, .ref h3, .ref h4, .ref h5, .ref h6, .ref h7, .int (-1), .ref h8, .ref h9, .int 250, .ref h10, .int 0, .ref h11, .ref h12, .ref h13]))]) hD hS hA [2] rfl
  refine vx_callv (vx_runV (As := [.int v1]) (rest := []) ⟨hx, hb, hml, hown, hts⟩ (c9_X11_needPlace_1 l hlt g h0 h1 h2 h3 h4 h5 h6 h7 h8 h9 h10 h11 h12 h13 _ v1 (by omega)) (cwV 1 hts g9_X11_ways_5_2 rfl rfl rfl (by decide +kernel) ⟨Nat.le_of_ble_eq_true rfl, Nat.le_of_ble_eq_true rfl⟩) (mPreV (g := g) (wc := [(h0, .inr (12, [.ref h1, .int 0, .ref h2, .ref h3, .ref h4, .ref h5, .ref h6, .ref h7, .int (-1), .ref h8, .ref h9, .int 250, .ref h10, .int 0, .ref h11, .ref h12, .ref h13]))]) (C := RX11) (ci := 12) (q0 := 0) hE hS hPc hDc hFc rfl rfl) rfl rfl hl.1 rfl (lv_room (Nat.le_of_ble_eq_true rfl)) dX11_ways_12 ⟨Nat.le_of_ble_eq_true rfl, Nat.le_of_ble_eq_true rfl⟩) hS (fun q _ h => hFc q h) hFc (fun q _ h => hFc q h) (fun E9 ce q9 u t H locs ht hvm hw hB hz1 hk1 hS hc1 hc2 hc3 => ?_) (fun u t H1 locs ht hvm hw hB hz1 hk1 hS => hw.elim)
  replace hB : E9 = "java/lang/IndexOutOfBoundsException" := hB
  subst hB
  exact vx_out (fun z hz => (hno z hz).elim) hlocks hc1 hc2 hc3 (fun t ht hW => ⟨(), trivial, rfl, by subst hAe; exact hS.F ht⟩) (by subst hAe; exact hS.2.2) (Nat.le_of_ble_eq_true rfl) (Nat.le_of_ble_eq_true rfl)
def w9_L_ways_5 : List Cond := [.codeWith yL_ways cL_ways 6 (some .int) [(0, 12, 15, 21), (0, 12, 19, 15)], .methodLink RL 61 yX11_ways, .instanceMethod yX11_ways, .selects RX11 yX11_ways yX11_ways, .initialized RX11, .code yX11_ways cX11_ways 4 (some .int), .methodLink RX11 124 yX11_needPattern, .instanceMethod yX11_needPattern, .selects RX11 yX11_needPattern yX11_needPattern, .code yX11_needPattern cX11_needPattern 2 none, .methodLink RX11 180 yX11_needPlace, .instanceMethod yX11_needPlace, .selects RX11 yX11_needPlace yX11_needPlace, .code yX11_needPlace cX11_needPlace 2 none, .fieldLink RX11 16 "Regexloom" "text" "LRegexloom$Text;", .methodLink RX11 146 yX10_size, .instanceMethod yX10_size, .selects RX10 yX10_size yX10_size, .initialized RX10, .code yX10_size cX10_size 1 (some .int), .fieldLink RX10 14 "Regexloom$Text" "codes" "LRegexloom$Table;", .methodLink RX10 20 yX9_size, .instanceMethod yX9_size, .selects RX9 yX9_size yX9_size, .initialized RX9, .code yX9_size cX9_size 1 (some .int), .fieldLink RX9 28 "Regexloom$Table" "size" "I", .initialized "java/lang/Throwable", .superclass "java/lang/Throwable" "java/lang/Object", .instanceMethod Bundle.tFill, .codeSync Bundle.tFill LibCode.Throwable.Fill.code 1 (some (.object "java/lang/Throwable")), .instanceMethod Bundle.tFill0, .native Bundle.tFill0, .instanceMethod Bundle.tInit0, .code Bundle.tInit0 LibCode.Throwable.Init0.code 1 none, .instanceMethod Bundle.oInit, .code Bundle.oInit ⟨#[0xb1]⟩ 1 none, .methodLink "java/lang/Throwable" 1 Bundle.oInit, .methodLink "java/lang/Throwable" 27 Bundle.tFill, .methodLink "java/lang/Throwable" 202 Bundle.tFill0, .fieldLink "java/lang/Throwable" 7 "java/lang/Throwable" "cause" "Ljava/lang/Throwable;", .lays "java/lang/Throwable" "java/lang/Throwable" "cause" "Ljava/lang/Throwable;", .fieldLink "java/lang/Throwable" 17 "java/lang/Throwable" "stackTrace" "[Ljava/lang/StackTraceElement;", .lays "java/lang/Throwable" "java/lang/Throwable" "stackTrace" "[Ljava/lang/StackTraceElement;", .fieldLink "java/lang/Throwable" 24 "java/lang/Throwable" "suppressedExceptions" "Ljava/util/List;", .lays "java/lang/Throwable" "java/lang/Throwable" "suppressedExceptions" "Ljava/util/List;", .fieldLink "java/lang/Throwable" 13 "java/lang/Throwable" "UNASSIGNED_STACK" "[Ljava/lang/StackTraceElement;", .fieldLink "java/lang/Throwable" 20 "java/lang/Throwable" "SUPPRESSED_SENTINEL" "Ljava/util/List;", .lays "java/lang/Throwable" "java/lang/Throwable" "detailMessage" "Ljava/lang/String;", .instanceMethod (Bundle.initS "java/lang/Throwable"), .code (Bundle.initS "java/lang/Throwable") LibCode.Throwable.InitS.code 2 none, .fieldLink "java/lang/Throwable" 31 "java/lang/Throwable" "detailMessage" "Ljava/lang/String;", .instanceMethod (Bundle.initS "java/lang/IndexOutOfBoundsException"), .code (Bundle.initS "java/lang/IndexOutOfBoundsException") Bundle.six 2 none, .methodLink "java/lang/IndexOutOfBoundsException" 7 (Bundle.initS "java/lang/RuntimeException"), .instanceMethod (Bundle.initS "java/lang/RuntimeException"), .code (Bundle.initS "java/lang/RuntimeException") Bundle.six 2 none, .methodLink "java/lang/RuntimeException" 7 (Bundle.initS "java/lang/Exception"), .instanceMethod (Bundle.initS "java/lang/Exception"), .code (Bundle.initS "java/lang/Exception") Bundle.six 2 none, .methodLink "java/lang/Exception" 7 (Bundle.initS "java/lang/Throwable"), .methodLink RX11 224 (Bundle.initS "java/lang/IndexOutOfBoundsException"), .instantiable "java/lang/IndexOutOfBoundsException" 6, .selects "java/lang/IndexOutOfBoundsException" Bundle.tFill0 Bundle.tFill0, .selects "java/lang/IndexOutOfBoundsException" Bundle.tFill Bundle.tFill, .lays "java/lang/IndexOutOfBoundsException" "java/lang/Throwable" "cause" "Ljava/lang/Throwable;", .lays "java/lang/IndexOutOfBoundsException" "java/lang/Throwable" "stackTrace" "[Ljava/lang/StackTraceElement;", .lays "java/lang/IndexOutOfBoundsException" "java/lang/Throwable" "suppressedExceptions" "Ljava/util/List;", .lays "java/lang/IndexOutOfBoundsException" "java/lang/Throwable" "detailMessage" "Ljava/lang/String;", .fieldLink "java/lang/Throwable" 198 "java/lang/Throwable" "backtrace" "Ljava/lang/Object;", .lays "java/lang/Throwable" "java/lang/Throwable" "backtrace" "Ljava/lang/Object;", .lays "java/lang/IndexOutOfBoundsException" "java/lang/Throwable" "backtrace" "Ljava/lang/Object;", .classLink RX11 220 "java/lang/IndexOutOfBoundsException", .initialized "java/lang/IndexOutOfBoundsException", .classLink RL 21 "java/lang/IndexOutOfBoundsException"] ++ (u_ws RX11 TX11 17 ++ u_ws RX10 TX10 1 ++ u_ws RX9 TX9 4)
set_option maxRecDepth 20000 in
theorem in9_L_ways_5_RX11 : ∀ w ∈ u_ws RX11 TX11 17, w ∈ w9_L_ways_5 := by decide +kernel
set_option maxRecDepth 20000 in
theorem in9_L_ways_5_RX10 : ∀ w ∈ u_ws RX10 TX10 1, w ∈ w9_L_ways_5 := by decide +kernel
set_option maxRecDepth 20000 in
theorem in9_L_ways_5_RX9 : ∀ w ∈ u_ws RX9 TX9 4, w ∈ w9_L_ways_5 := by decide +kernel
set_option maxRecDepth 20000 in
theorem g9_L_ways_5_0 : GoodIn w9_L_ways_5 (wsV RL 61 RX11 yX11_ways w9_X11_ways_5) := goodIn_r _ [1, 2, 3, 4, 5, 6, 7, 8, 4, 9, 10, 11, 12, 13, 14, 15, 16, 17, 18, 19, 20, 21, 22, 23, 24, 25, 26, 27, 28, 29, 30, 31, 32, 33, 34, 35, 36, 37, 38, 39, 40, 41, 42, 43, 44, 45, 46, 47, 48, 49, 50, 51, 52, 53, 54, 55, 56, 57, 58, 59, 60, 61, 62, 63, 64, 65, 66, 67, 68, 69, 70, 71, 72, 73, 75, 76, 77, 78, 79, 80, 81, 82, 83, 84, 85, 86, 87, 88, 89, 90, 91, 92, 93, 94, 95, 96] (by decide +kernel) (by decide +kernel)
set_option maxHeartbeats 4000000 in
set_option maxRecDepth 100000 in
theorem c9_L_ways_5 (l : Launch) (hlt : l.stackTraces = false) (g : G9) (h0 h1 h2 h3 h4 h5 h6 h7 h8 h9 h10 h11 h12 h13 h14 h15 h16 sz : Nat) (v0 v1 : Int32) (k_v0 : 0 ≤ v0.toInt ∧ v0.toInt ≤ 3) (k_v1 : (-2147483648) ≤ v1.toInt ∧ v1.toInt ≤ (-1)) : Met l yL_ways w9_L_ways_5 ({ frames := 8, cells := 1, slots := 6, locals := 126 }) (mP g [(h0, .inr (12, [.ref h2, .int 0, .ref h3, .ref h4, .ref h5, .ref h6, .ref h7, .ref h8, .int (-1), .ref h9, .ref h10, .int 250, .ref h11, .int 0, .ref h12, .ref h13, .ref h14])), (h3, .inr (11, [.ref h15])), (h15, .inr (10, [.int 1, .int 20, .ref h16, .int 0]))] sz [.ref h0, .int v0, .int 0, .int v1, .ref h1]) (va_Qi (fun (r : Int32) (_ : Unit) => r = 1) (fun (_ : Unit) (t : State) => mB g [(h0, .inr (12, [.ref h2, .int 0, .ref h3, .ref h4, .ref h5, .ref h6, .ref h7, .ref h8, .int (-1), .ref h9, .ref h10, .int 250, .ref h11, .int 0, .ref h12, .ref h13, .ref h14])), (h3, .inr (11, [.ref h15])), (h15, .inr (10, [.int 1, .int 20, .ref h16, .int 0]))] sz [] t) (va_A [(h0, .inr (12, [.ref h2, .int 0, .ref h3, .ref h4, .ref h5, .ref h6, .ref h7, .ref h8, .int (-1), .ref h9, .ref h10, .int 250, .ref h11, .int 0, .ref h12, .ref h13, .ref h14])), (h3, .inr (11, [.ref h15])), (h15, .inr (10, [.int 1, .int 20, .ref h16, .int 0]))] sz)) 1 6 (va_A [(h0, .inr (12, [.ref h2, .int 0, .ref h3, .ref h4, .ref h5, .ref h6, .ref h7, .ref h8, .int (-1), .ref h9, .ref h10, .int 250, .ref h11, .int 0, .ref h12, .ref h13, .ref h14])), (h3, .inr (11, [.ref h15])), (h15, .inr (10, [.int 1, .int 20, .ref h16, .int 0]))] sz) := by
  refine va_MetW (cc := cL_ways) (maxL := 6) (ret := (some .int)) (by decide) rfl ?_
  intro p e s m args below meth c s₁ B hml hv
  obtain ⟨rfl, hsz, hP, hD0, hE⟩ := hv
  have hx := B.exec
  have hb := B.bytes
  have hr := B.returns
  have hts := atoms_spec (ws := w9_L_ways_5) B.pre
  have hown : s.vm.findClass RL = some m.cls := findClass_of_methodNamed B.named
  have hlocks := B.notSynchronized
  have htab := vx_table (x := yL_ways) B (hts (.codeWith yL_ways cL_ways 6 (some .int) [(0, 12, 15, 21), (0, 12, 19, 15)]) (List.mem_of_getElem? (i := 0) rfl))
  subst hsz
  have hD := hD0.self (sz := s.heap.size)
  generalize hAe : va_A [(h0, .inr (12, [.ref h2, .int 0, .ref h3, .ref h4, .ref h5, .ref h6, .ref h7, .ref h8, .int (-1), .ref h9, .ref h10, .int 250, .ref h11, .int 0, .ref h12, .ref h13, .ref h14])), (h3, .inr (11, [.ref h15])), (h15, .inr (10, [.int 1, .int 20, .ref h16, .int 0]))] s.heap.size = A at hD hE ⊢
  have hA : ∀ q : Nat, s.heap.size ≤ q → A q := fun q h => by rw [← hAe]; exact Or.inr h
  have hK := hE.1
  have hS : va_S A s.heap s.heap [] := va_S.rf
  replace hP : va_P g.1 vwCl [(h0, .inr (12, [.ref h2, .int 0, .ref h3, .ref h4, .ref h5, .ref h6, .ref h7, .ref h8, .int (-1), .ref h9, .ref h10, .int 250, .ref h11, .int 0, .ref h12, .ref h13, .ref h14])), (h3, .inr (11, [.ref h15])), (h15, .inr (10, [.int 1, .int 20, .ref h16, .int 0]))] s.heap := hP
  have hl := lv_entry ([.ref h0, .int v0, .int 0, .int v1, .ref h1]) (n := 6) (Nat.le_of_ble_eq_true rfl)
  rw [lg_entry_eq]
  generalize (lg_sl ([.ref h0, .int v0, .int 0, .int v1, .ref h1]) ++ List.replicate (6 - (lg_sl ([.ref h0, .int v0, .int 0, .int v1, .ref h1])).length) Slot.unset).toArray = ls at hl ⊢
  replace hl : lv_has ls 6 [(0, .ref h0), (1, .int v0), (2, .int 0), (3, .int v1), (4, .ref h1)] := hl
  have hH0 : s.heap.size ≤ s.heap.size := Nat.le_refl _
  refine lv_aload hx hb dL_ways_0 (lv_at hl 4 rfl) ?_
  refine lv_iconst (v := 0) hx hb dL_ways_2 (by decide) ?_
  refine lv_aload_n hx hb dL_ways_3 rfl (lv_at hl 0 rfl) ?_
  refine lv_iload_n hx hb dL_ways_4 rfl (lv_at hl 1 rfl) ?_
  refine lv_iload_n hx hb dL_ways_5 rfl (lv_at hl 2 rfl) ?_
  refine lv_iload_n hx hb dL_ways_6 rfl (lv_at hl 3 rfl) ?_
  have hPc := hP.sub (ws' := [(h0, .inr (12, [.ref h2, .int 0, .ref h3, .ref h4, .ref h5, .ref h6, .ref h7, .ref h8, .int (-1), .ref h9, .ref h10, .int 250, .ref h11, .int 0, .ref h12, .ref h13, .ref h14])), (h3, .inr (11, [.ref h15])), (h15, .inr (10, [.int 1, .int 20, .ref h16, .int 0]))]) [0, 1, 2] rfl
  have hDc := hD.sub (ws' := [(h0, .inr (12, [.ref h2, .int 0, .ref h3, .ref h4, .ref h5, .ref h6, .ref h7, .ref h8, .int (-1), .ref h9, .ref h10, .int 250, .ref h11, .int 0, .ref h12, .ref h13, .ref h14])), (h3, .inr (11, [.ref h15])), (h15, .inr (10, [.int 1, .int 20, .ref h16, .int 0]))]) [0, 1, 2] (by decide) rfl
  have hFc := va_free (wc := [(h0, .inr (12, [.ref h2, .int 0, .ref h3, .ref h4, .ref h5, .ref h6, .ref h7, .ref h8, .int (-1), .ref h9, .ref h10, .int 250, .ref h11, .int 0, .ref h12, .ref h13, .ref h14])), (h3, .inr (11, [.ref h15])), (h15, .inr (10, [.int 1, .int 20, .ref h16, .int 0]))]) hD hS hA [0, 1, 2] rfl
  refine vx_callv (vx_runV (As := [.int v0, .int 0, .int v1]) (rest := [.int 0, .ref h1]) ⟨hx, hb, hml, hown, hts⟩ (c9_X11_ways_5 l hlt g h0 h2 h3 h4 h5 h6 h7 h8 h9 h10 h11 h12 h13 h14 h15 h16 _ v0 v1 (by omega) (by omega)) (cwV 3 hts g9_L_ways_5_0 rfl rfl rfl (by decide +kernel) ⟨Nat.le_of_ble_eq_true rfl, Nat.le_of_ble_eq_true rfl⟩) (mPreV (g := g) (wc := [(h0, .inr (12, [.ref h2, .int 0, .ref h3, .ref h4, .ref h5, .ref h6, .ref h7, .ref h8, .int (-1), .ref h9, .ref h10, .int 250, .ref h11, .int 0, .ref h12, .ref h13, .ref h14])), (h3, .inr (11, [.ref h15])), (h15, .inr (10, [.int 1, .int 20, .ref h16, .int 0]))]) (C := RX11) (ci := 12) (q0 := 0) hE hS hPc hDc hFc rfl rfl) rfl rfl hl.1 rfl (lv_room (Nat.le_of_ble_eq_true rfl)) dL_ways_7 ⟨Nat.le_of_ble_eq_true rfl, Nat.le_of_ble_eq_true rfl⟩) hS (fun q _ h => hFc q h) hFc (fun q _ h => hFc q h) (fun E9 ce q9 u t H locs ht hvm hw hB hz1 hk1 hS hc1 hc2 hc3 => ?_) (fun u t H1 locs ht hvm hw hB hz1 hk1 hS => hw.elim)
  replace hB : E9 = "java/lang/IndexOutOfBoundsException" := hB
  subst hB
  obtain ⟨hP, hD⟩ := va_join (wr := []) (w1 := []) hP hD [0, 1, 2] [] rfl rfl (by decide) (by decide) hk1 hFc (fun k q h => by simp at h) ⟨fun i j p q h => by simp at h, fun k q h => by simp at h⟩
  have hP : va_P g.1 vwCl [] H := hP
  have hD : va_D A [] := hD
  refine vx_catch (own := RL) (name := "java/lang/IndexOutOfBoundsException") hown [] ⟨0, 12, 15, 21⟩ [⟨0, 12, 19, 15⟩] (by rw [htab]; rfl) (fun z hz => absurd hz List.not_mem_nil) (by decide) (by decide) (hts (.classLink RL 21 "java/lang/IndexOutOfBoundsException") (List.mem_of_getElem? (i := 74) rfl)) (va_Nw.use rfl (hE.cast ("java/lang/IndexOutOfBoundsException", "java/lang/IndexOutOfBoundsException") (by decide))) hc1 hc2 hc3 ?_
  refine lv_astore (lv' := [(5, .ref q9), (0, .ref h0), (1, .int v0), (2, .int 0), (3, .int v1), (4, .ref h1)]) hx hb dL_ways_15 hl (by decide) rfl (fun ls hl => ?_)
  refine lv_iconst (v := 1) hx hb dL_ways_17 (by decide) ?_
  have hP9 := hP.sub (ws' := []) [] rfl
  have hD9 := hD.sub (ws' := []) [] (by decide) rfl
  subst hAe
  exact W.iret (v := 1) hx hb hr (fun t ht hW => ⟨⟨1, (), rfl, rfl, by rw [ht]; exact hP9, hD9⟩, hS.F ht⟩) hS.2.2 dL_ways_18
def w9_X21_ways_5 : List Cond := [.code yX21_ways cX21_ways 7 (some .int), .methodLink RX21 160 yX21_in, .static yX21_in, .initialized RX21, .code yX21_in cX21_in 3 (some .boolean), .fieldLink RX21 196 "RegexloomModel" "length" "I", .methodLink RX21 154 yX21_refused, .instanceMethod yX21_refused, .selects RX21 yX21_refused yX21_refused, .code yX21_refused cX21_refused 2 (some .boolean), .fieldLink RX21 144 "RegexloomModel" "refusal" "I"] ++ (u_ws RX21 TX21 32)
set_option maxRecDepth 20000 in
theorem in9_X21_ways_5_RX21 : ∀ w ∈ u_ws RX21 TX21 32, w ∈ w9_X21_ways_5 := by decide +kernel
set_option maxRecDepth 20000 in
theorem g9_X21_ways_5_0 : GoodIn w9_X21_ways_5 (va_wsS RX21 160 yX21_in w9_X21_in_7) := goodIn_r _ [1, 2, 3, 4] (by decide +kernel) (by decide +kernel)
set_option maxRecDepth 20000 in
theorem g9_X21_ways_5_1 : GoodIn w9_X21_ways_5 (va_wsS RX21 160 yX21_in w9_X21_in_13) := goodIn_r _ [1, 2, 3, 4] (by decide +kernel) (by decide +kernel)
set_option maxRecDepth 20000 in
theorem g9_X21_ways_5_2 : GoodIn w9_X21_ways_5 (va_wsS RX21 160 yX21_in w9_X21_in_11) := goodIn_r _ [1, 2, 3, 4] (by decide +kernel) (by decide +kernel)
set_option maxRecDepth 20000 in
theorem g9_X21_ways_5_3 : GoodIn w9_X21_ways_5 (wsV RX21 154 RX21 yX21_refused w9_X21_refused_2) := goodIn_r _ [6, 7, 8, 3, 9, 10, 11, 12, 13, 14, 15, 16, 17, 18, 19, 20, 21, 22, 23, 24, 25, 26, 27, 28, 29, 30, 31, 32, 33, 34, 35, 36, 37, 38, 39, 40, 41, 42] (by decide +kernel) (by decide +kernel)
set_option maxHeartbeats 4000000 in
set_option maxRecDepth 100000 in
theorem c9_X21_ways_5 (l : Launch) (g : G9) (h0 h1 h2 h3 h4 h5 h6 h7 h8 h9 h10 h11 h12 h13 h14 h15 h16 sz : Nat) (v0 v1 : Int32) (k_v0 : 0 ≤ v0.toInt ∧ v0.toInt ≤ 3) (k_v1 : (-2147483648) ≤ v1.toInt ∧ v1.toInt ≤ (-1)) : Met l yX21_ways w9_X21_ways_5 ({ frames := 1, cells := 0, slots := 0, locals := 22 }) (mP g [(h0, .inr (22, [.int 0, .ref h1, .int 0, .ref h2, .int 0, .ref h3, .int 250, .ref h4, .int 0, .ref h5, .ref h6, .ref h7, .int 0, .ref h8, .ref h9, .ref h10, .int 0, .null, .int 0, .null, .int 0, .int 0, .int 0, .ref h11, .int 0, .ref h12, .ref h13, .ref h14, .int 0, .ref h15, .ref h16, .int 0]))] sz [.ref h0, .int v0, .int 0, .int v1]) (va_Qi (fun (r : Int32) (_ : Unit) => r = 0) (fun (_ : Unit) (t : State) => mB g [(h0, .inr (22, [.int 0, .ref h1, .int 0, .ref h2, .int 0, .ref h3, .int 250, .ref h4, .int 0, .ref h5, .ref h6, .ref h7, .int 0, .ref h8, .ref h9, .ref h10, .int 0, .null, .int 0, .null, .int 0, .int 0, .int 0, .ref h11, .int 0, .ref h12, .ref h13, .ref h14, .int 0, .ref h15, .ref h16, .int 0]))] sz [(h0, .inr (22, [.int 1, .ref h1, .int 0, .ref h2, .int 0, .ref h3, .int 250, .ref h4, .int 0, .ref h5, .ref h6, .ref h7, .int 0, .ref h8, .ref h9, .ref h10, .int 0, .null, .int 0, .null, .int 0, .int 0, .int 0, .ref h11, .int 0, .ref h12, .ref h13, .ref h14, .int 0, .ref h15, .ref h16, .int 0]))] t) (va_A [(h0, .inr (22, [.int 0, .ref h1, .int 0, .ref h2, .int 0, .ref h3, .int 250, .ref h4, .int 0, .ref h5, .ref h6, .ref h7, .int 0, .ref h8, .ref h9, .ref h10, .int 0, .null, .int 0, .null, .int 0, .int 0, .int 0, .ref h11, .int 0, .ref h12, .ref h13, .ref h14, .int 0, .ref h15, .ref h16, .int 0]))] sz)) 0 0 (va_A [(h0, .inr (22, [.int 0, .ref h1, .int 0, .ref h2, .int 0, .ref h3, .int 250, .ref h4, .int 0, .ref h5, .ref h6, .ref h7, .int 0, .ref h8, .ref h9, .ref h10, .int 0, .null, .int 0, .null, .int 0, .int 0, .int 0, .ref h11, .int 0, .ref h12, .ref h13, .ref h14, .int 0, .ref h15, .ref h16, .int 0]))] sz) := by
  refine Met.ofW (cc := cX21_ways) (maxL := 7) (ret := (some .int)) (by decide) rfl ?_
  intro p e s m args below meth c s₁ B hml hv
  obtain ⟨rfl, hsz, hP, hD0, hE⟩ := hv
  have hx := B.exec
  have hb := B.bytes
  have hr := B.returns
  have hts := atoms_spec (ws := w9_X21_ways_5) B.pre
  have hown : s.vm.findClass RX21 = some m.cls := findClass_of_methodNamed B.named
  have hlocks := B.notSynchronized
  subst hsz
  have hD := hD0.self (sz := s.heap.size)
  generalize hAe : va_A [(h0, .inr (22, [.int 0, .ref h1, .int 0, .ref h2, .int 0, .ref h3, .int 250, .ref h4, .int 0, .ref h5, .ref h6, .ref h7, .int 0, .ref h8, .ref h9, .ref h10, .int 0, .null, .int 0, .null, .int 0, .int 0, .int 0, .ref h11, .int 0, .ref h12, .ref h13, .ref h14, .int 0, .ref h15, .ref h16, .int 0]))] s.heap.size = A at hD hE ⊢
  have hA : ∀ q : Nat, s.heap.size ≤ q → A q := fun q h => by rw [← hAe]; exact Or.inr h
  have hK := hE.1
  have hS : va_S A s.heap s.heap [] := va_S.rf
  replace hP : va_P g.1 vwCl [(h0, .inr (22, [.int 0, .ref h1, .int 0, .ref h2, .int 0, .ref h3, .int 250, .ref h4, .int 0, .ref h5, .ref h6, .ref h7, .int 0, .ref h8, .ref h9, .ref h10, .int 0, .null, .int 0, .null, .int 0, .int 0, .int 0, .ref h11, .int 0, .ref h12, .ref h13, .ref h14, .int 0, .ref h15, .ref h16, .int 0]))] s.heap := hP
  have hl := lv_entry ([.ref h0, .int v0, .int 0, .int v1]) (n := 7) (Nat.le_of_ble_eq_true rfl)
  rw [lg_entry_eq]
  generalize (lg_sl ([.ref h0, .int v0, .int 0, .int v1]) ++ List.replicate (7 - (lg_sl ([.ref h0, .int v0, .int 0, .int v1])).length) Slot.unset).toArray = ls at hl ⊢
  replace hl : lv_has ls 7 [(0, .ref h0), (1, .int v0), (2, .int 0), (3, .int v1)] := hl
  have hH0 : s.heap.size ≤ s.heap.size := Nat.le_refl _
  refine lv_iload_n hx hb dX21_ways_0 rfl (lv_at hl 1 rfl) ?_
  refine lv_iconst (v := 0) hx hb dX21_ways_1 (by decide) ?_
  refine lv_iconst (v := 3) hx hb dX21_ways_2 (by decide) ?_
  have hPc := hP.sub (ws' := []) [] rfl
  have hDc := hD.sub (ws' := []) [] (by decide) rfl
  have hFc := va_free (wc := []) hD hS hA [] rfl
  refine va_calli (va_runS (As := [.int v0, .int 0, .int 3]) (rest := []) ⟨hx, hb, hml, hown, hts⟩ (c9_X21_in_7 l g _ v0 (by omega)) (va_cwS 3 hts g9_X21_ways_5_0 rfl rfl rfl (by decide +kernel) ⟨Nat.le_of_ble_eq_true rfl, Nat.le_of_ble_eq_true rfl⟩) (mPreS (g := g) (wc := []) hE hS hPc hDc hFc) rfl rfl hl.1 rfl (lv_room (Nat.le_of_ble_eq_true rfl)) dX21_ways_3 ⟨Nat.le_of_ble_eq_true rfl, Nat.le_of_ble_eq_true rfl⟩) hS (fun q _ h => hFc q h) hFc (fun r_1 u t H1 locs ht hvm hw hB hz1 hk1 hS => ?_)
  replace hw : 1 = r_1 := Eq.symm hw
  subst hw
  obtain ⟨hP1, hD1⟩ := hB
  rw [ht] at hP1
  obtain ⟨hP, hD⟩ := va_join (wr := [(h0, .inr (22, [.int 0, .ref h1, .int 0, .ref h2, .int 0, .ref h3, .int 250, .ref h4, .int 0, .ref h5, .ref h6, .ref h7, .int 0, .ref h8, .ref h9, .ref h10, .int 0, .null, .int 0, .null, .int 0, .int 0, .int 0, .ref h11, .int 0, .ref h12, .ref h13, .ref h14, .int 0, .ref h15, .ref h16, .int 0]))]) (w1 := []) hP hD [] [0] rfl rfl (by decide) (by decide) hk1 hFc hP1 hD1
  clear hP1 hD1 hPc hDc hFc hk1 hz1 hvm ht
  generalize H1 = H at hP hS ⊢
  have hP : va_P g.1 vwCl [(h0, .inr (22, [.int 0, .ref h1, .int 0, .ref h2, .int 0, .ref h3, .int 250, .ref h4, .int 0, .ref h5, .ref h6, .ref h7, .int 0, .ref h8, .ref h9, .ref h10, .int 0, .null, .int 0, .null, .int 0, .int 0, .int 0, .ref h11, .int 0, .ref h12, .ref h13, .ref h14, .int 0, .ref h15, .ref h16, .int 0]))] H := hP
  have hD : va_D A [(h0, .inr (22, [.int 0, .ref h1, .int 0, .ref h2, .int 0, .ref h3, .int 250, .ref h4, .int 0, .ref h5, .ref h6, .ref h7, .int 0, .ref h8, .ref h9, .ref h10, .int 0, .null, .int 0, .null, .int 0, .int 0, .int 0, .ref h11, .int 0, .ref h12, .ref h13, .ref h14, .int 0, .ref h15, .ref h16, .int 0]))] := hD
  refine lv_if_eq (tgt := 37) hx hb dX21_ways_6 (by decide) (fun c9 => absurd c9 (by decide)) (fun _ => ?_)
  refine lv_iload_n hx hb dX21_ways_9 rfl (lv_at hl 2 rfl) ?_
  refine lv_iconst (v := 0) hx hb dX21_ways_10 (by decide) ?_
  refine lv_aload_n hx hb dX21_ways_11 rfl (lv_at hl 0 rfl) ?_
  refine va_get (D := g.1) (ci := 22) (v := .int 0) (C := RX21) (T := TX21) (N := 32) hx hb hts in9_X21_ways_5_RX21 hown hK hP 0 rfl rfl 4 (by decide) (hts (.fieldLink RX21 196 "RegexloomModel" "length" "I") (List.mem_of_getElem? (i := 5) rfl)) (fun _ h9 => h9) rfl dX21_ways_12 ?_
  have hPc := hP.sub (ws' := []) [] rfl
  have hDc := hD.sub (ws' := []) [] (by decide) rfl
  have hFc := va_free (wc := []) hD hS hA [] rfl
  refine va_calli (va_runS (As := [.int 0, .int 0, .int 0]) (rest := []) ⟨hx, hb, hml, hown, hts⟩ (c9_X21_in_13 l g _) (va_cwS 3 hts g9_X21_ways_5_1 rfl rfl rfl (by decide +kernel) ⟨Nat.le_of_ble_eq_true rfl, Nat.le_of_ble_eq_true rfl⟩) (mPreS (g := g) (wc := []) hE hS hPc hDc hFc) rfl rfl hl.1 rfl (lv_room (Nat.le_of_ble_eq_true rfl)) dX21_ways_15 ⟨Nat.le_of_ble_eq_true rfl, Nat.le_of_ble_eq_true rfl⟩) hS (fun q _ h => hFc q h) hFc (fun r_2 u t H1 locs ht hvm hw hB hz1 hk1 hS => ?_)
  replace hw : 1 = r_2 := Eq.symm hw
  subst hw
  obtain ⟨hP1, hD1⟩ := hB
  rw [ht] at hP1
  obtain ⟨hP, hD⟩ := va_join (wr := [(h0, .inr (22, [.int 0, .ref h1, .int 0, .ref h2, .int 0, .ref h3, .int 250, .ref h4, .int 0, .ref h5, .ref h6, .ref h7, .int 0, .ref h8, .ref h9, .ref h10, .int 0, .null, .int 0, .null, .int 0, .int 0, .int 0, .ref h11, .int 0, .ref h12, .ref h13, .ref h14, .int 0, .ref h15, .ref h16, .int 0]))]) (w1 := []) hP hD [] [0] rfl rfl (by decide) (by decide) hk1 hFc hP1 hD1
  clear hP1 hD1 hPc hDc hFc hk1 hz1 hvm ht
  generalize H1 = H at hP hS ⊢
  have hP : va_P g.1 vwCl [(h0, .inr (22, [.int 0, .ref h1, .int 0, .ref h2, .int 0, .ref h3, .int 250, .ref h4, .int 0, .ref h5, .ref h6, .ref h7, .int 0, .ref h8, .ref h9, .ref h10, .int 0, .null, .int 0, .null, .int 0, .int 0, .int 0, .ref h11, .int 0, .ref h12, .ref h13, .ref h14, .int 0, .ref h15, .ref h16, .int 0]))] H := hP
  have hD : va_D A [(h0, .inr (22, [.int 0, .ref h1, .int 0, .ref h2, .int 0, .ref h3, .int 250, .ref h4, .int 0, .ref h5, .ref h6, .ref h7, .int 0, .ref h8, .ref h9, .ref h10, .int 0, .null, .int 0, .null, .int 0, .int 0, .int 0, .ref h11, .int 0, .ref h12, .ref h13, .ref h14, .int 0, .ref h15, .ref h16, .int 0]))] := hD
  refine lv_if_eq (tgt := 37) hx hb dX21_ways_18 (by decide) (fun c9 => absurd c9 (by decide)) (fun _ => ?_)
  refine lv_iload_n hx hb dX21_ways_21 rfl (lv_at hl 3 rfl) ?_
  refine lv_iconst (v := 0) hx hb dX21_ways_22 (by decide) ?_
  refine lv_aload_n hx hb dX21_ways_23 rfl (lv_at hl 0 rfl) ?_
  refine va_get (D := g.1) (ci := 22) (v := .int 0) (C := RX21) (T := TX21) (N := 32) hx hb hts in9_X21_ways_5_RX21 hown hK hP 0 rfl rfl 4 (by decide) (hts (.fieldLink RX21 196 "RegexloomModel" "length" "I") (List.mem_of_getElem? (i := 5) rfl)) (fun _ h9 => h9) rfl dX21_ways_24 ?_
  have hPc := hP.sub (ws' := []) [] rfl
  have hDc := hD.sub (ws' := []) [] (by decide) rfl
  have hFc := va_free (wc := []) hD hS hA [] rfl
  refine va_calli (va_runS (As := [.int v1, .int 0, .int 0]) (rest := []) ⟨hx, hb, hml, hown, hts⟩ (c9_X21_in_11 l g _ v1 (by omega)) (va_cwS 3 hts g9_X21_ways_5_2 rfl rfl rfl (by decide +kernel) ⟨Nat.le_of_ble_eq_true rfl, Nat.le_of_ble_eq_true rfl⟩) (mPreS (g := g) (wc := []) hE hS hPc hDc hFc) rfl rfl hl.1 rfl (lv_room (Nat.le_of_ble_eq_true rfl)) dX21_ways_27 ⟨Nat.le_of_ble_eq_true rfl, Nat.le_of_ble_eq_true rfl⟩) hS (fun q _ h => hFc q h) hFc (fun r_3 u t H1 locs ht hvm hw hB hz1 hk1 hS => ?_)
  replace hw : 0 = r_3 := Eq.symm hw
  subst hw
  obtain ⟨hP1, hD1⟩ := hB
  rw [ht] at hP1
  obtain ⟨hP, hD⟩ := va_join (wr := [(h0, .inr (22, [.int 0, .ref h1, .int 0, .ref h2, .int 0, .ref h3, .int 250, .ref h4, .int 0, .ref h5, .ref h6, .ref h7, .int 0, .ref h8, .ref h9, .ref h10, .int 0, .null, .int 0, .null, .int 0, .int 0, .int 0, .ref h11, .int 0, .ref h12, .ref h13, .ref h14, .int 0, .ref h15, .ref h16, .int 0]))]) (w1 := []) hP hD [] [0] rfl rfl (by decide) (by decide) hk1 hFc hP1 hD1
  clear hP1 hD1 hPc hDc hFc hk1 hz1 hvm ht
  generalize H1 = H at hP hS ⊢
  have hP : va_P g.1 vwCl [(h0, .inr (22, [.int 0, .ref h1, .int 0, .ref h2, .int 0, .ref h3, .int 250, .ref h4, .int 0, .ref h5, .ref h6, .ref h7, .int 0, .ref h8, .ref h9, .ref h10, .int 0, .null, .int 0, .null, .int 0, .int 0, .int 0, .ref h11, .int 0, .ref h12, .ref h13, .ref h14, .int 0, .ref h15, .ref h16, .int 0]))] H := hP
  have hD : va_D A [(h0, .inr (22, [.int 0, .ref h1, .int 0, .ref h2, .int 0, .ref h3, .int 250, .ref h4, .int 0, .ref h5, .ref h6, .ref h7, .int 0, .ref h8, .ref h9, .ref h10, .int 0, .null, .int 0, .null, .int 0, .int 0, .int 0, .ref h11, .int 0, .ref h12, .ref h13, .ref h14, .int 0, .ref h15, .ref h16, .int 0]))] := hD
  refine lv_if_eq (tgt := 37) hx hb dX21_ways_30 (by decide) (fun _ => ?_) (fun c9 => absurd (by decide) c9)
  refine lv_iconst (v := 0) hx hb dX21_ways_37 (by decide) ?_
  refine lv_istore (lv' := [(4, .int 0), (0, .ref h0), (1, .int v0), (2, .int 0), (3, .int v1)]) hx hb dX21_ways_38 hl (by decide) rfl (fun ls hl => ?_)
  refine lv_iload hx hb dX21_ways_40 (lv_at hl 0 rfl) ?_
  refine lv_if_ne (tgt := 49) hx hb dX21_ways_42 (by decide) (fun c9 => absurd (by decide) c9) (fun _ => ?_)
  refine lv_iconst (v := 1) hx hb dX21_ways_45 (by decide) ?_
  refine lv_goto (tgt := 75) hx hb dX21_ways_46 (by decide) ?_
  refine lv_istore (lv' := [(5, .int 1), (4, .int 0), (0, .ref h0), (1, .int v0), (2, .int 0), (3, .int v1)]) hx hb dX21_ways_75 hl (by decide) rfl (fun ls hl => ?_)
  refine lv_aload_n hx hb dX21_ways_77 rfl (lv_at hl 2 rfl) ?_
  refine lv_iload hx hb dX21_ways_78 (lv_at hl 0 rfl) ?_
  have hPc := hP.sub (ws' := [(h0, .inr (22, [.int 0, .ref h1, .int 0, .ref h2, .int 0, .ref h3, .int 250, .ref h4, .int 0, .ref h5, .ref h6, .ref h7, .int 0, .ref h8, .ref h9, .ref h10, .int 0, .null, .int 0, .null, .int 0, .int 0, .int 0, .ref h11, .int 0, .ref h12, .ref h13, .ref h14, .int 0, .ref h15, .ref h16, .int 0]))]) [0] rfl
  have hDc := hD.sub (ws' := [(h0, .inr (22, [.int 0, .ref h1, .int 0, .ref h2, .int 0, .ref h3, .int 250, .ref h4, .int 0, .ref h5, .ref h6, .ref h7, .int 0, .ref h8, .ref h9, .ref h10, .int 0, .null, .int 0, .null, .int 0, .int 0, .int 0, .ref h11, .int 0, .ref h12, .ref h13, .ref h14, .int 0, .ref h15, .ref h16, .int 0]))]) [0] (by decide) rfl
  have hFc := va_free (wc := [(h0, .inr (22, [.int 0, .ref h1, .int 0, .ref h2, .int 0, .ref h3, .int 250, .ref h4, .int 0, .ref h5, .ref h6, .ref h7, .int 0, .ref h8, .ref h9, .ref h10, .int 0, .null, .int 0, .null, .int 0, .int 0, .int 0, .ref h11, .int 0, .ref h12, .ref h13, .ref h14, .int 0, .ref h15, .ref h16, .int 0]))]) hD hS hA [0] rfl
  refine va_calli (va_runV (As := [.int 1]) (rest := []) ⟨hx, hb, hml, hown, hts⟩ (c9_X21_refused_2 l g h0 h1 h2 h3 h4 h5 h6 h7 h8 h9 h10 h11 h12 h13 h14 h15 h16 _) (cwV 1 hts g9_X21_ways_5_3 rfl rfl rfl (by decide +kernel) ⟨Nat.le_of_ble_eq_true rfl, Nat.le_of_ble_eq_true rfl⟩) (mPreV (g := g) (wc := [(h0, .inr (22, [.int 0, .ref h1, .int 0, .ref h2, .int 0, .ref h3, .int 250, .ref h4, .int 0, .ref h5, .ref h6, .ref h7, .int 0, .ref h8, .ref h9, .ref h10, .int 0, .null, .int 0, .null, .int 0, .int 0, .int 0, .ref h11, .int 0, .ref h12, .ref h13, .ref h14, .int 0, .ref h15, .ref h16, .int 0]))]) (C := RX21) (ci := 22) (q0 := 0) hE hS hPc hDc hFc rfl rfl) rfl rfl hl.1 rfl (lv_room (Nat.le_of_ble_eq_true rfl)) dX21_ways_80 ⟨Nat.le_of_ble_eq_true rfl, Nat.le_of_ble_eq_true rfl⟩) hS (fun q _ h => hFc q h) hFc (fun r_4 u t H1 locs ht hvm hw hB hz1 hk1 hS => ?_)
  replace hw : 1 = r_4 := Eq.symm hw
  subst hw
  obtain ⟨hP1, hD1⟩ := hB
  rw [ht] at hP1
  obtain ⟨hP, hD⟩ := va_join (wr := []) (w1 := [(h0, .inr (22, [.int 1, .ref h1, .int 0, .ref h2, .int 0, .ref h3, .int 250, .ref h4, .int 0, .ref h5, .ref h6, .ref h7, .int 0, .ref h8, .ref h9, .ref h10, .int 0, .null, .int 0, .null, .int 0, .int 0, .int 0, .ref h11, .int 0, .ref h12, .ref h13, .ref h14, .int 0, .ref h15, .ref h16, .int 0]))]) hP hD [0] [] rfl rfl (by decide) (by decide) hk1 hFc hP1 hD1
  clear hP1 hD1 hPc hDc hFc hk1 hz1 hvm ht
  generalize H1 = H at hP hS ⊢
  have hP : va_P g.1 vwCl [(h0, .inr (22, [.int 1, .ref h1, .int 0, .ref h2, .int 0, .ref h3, .int 250, .ref h4, .int 0, .ref h5, .ref h6, .ref h7, .int 0, .ref h8, .ref h9, .ref h10, .int 0, .null, .int 0, .null, .int 0, .int 0, .int 0, .ref h11, .int 0, .ref h12, .ref h13, .ref h14, .int 0, .ref h15, .ref h16, .int 0]))] H := hP
  have hD : va_D A [(h0, .inr (22, [.int 1, .ref h1, .int 0, .ref h2, .int 0, .ref h3, .int 250, .ref h4, .int 0, .ref h5, .ref h6, .ref h7, .int 0, .ref h8, .ref h9, .ref h10, .int 0, .null, .int 0, .null, .int 0, .int 0, .int 0, .ref h11, .int 0, .ref h12, .ref h13, .ref h14, .int 0, .ref h15, .ref h16, .int 0]))] := hD
  refine lv_if_eq (tgt := 88) hx hb dX21_ways_83 (by decide) (fun c9 => absurd c9 (by decide)) (fun _ => ?_)
  refine lv_iconst (v := 0) hx hb dX21_ways_86 (by decide) ?_
  have hP9 := hP.sub (ws' := [(h0, .inr (22, [.int 1, .ref h1, .int 0, .ref h2, .int 0, .ref h3, .int 250, .ref h4, .int 0, .ref h5, .ref h6, .ref h7, .int 0, .ref h8, .ref h9, .ref h10, .int 0, .null, .int 0, .null, .int 0, .int 0, .int 0, .ref h11, .int 0, .ref h12, .ref h13, .ref h14, .int 0, .ref h15, .ref h16, .int 0]))]) [0] rfl
  have hD9 := hD.sub (ws' := [(h0, .inr (22, [.int 1, .ref h1, .int 0, .ref h2, .int 0, .ref h3, .int 250, .ref h4, .int 0, .ref h5, .ref h6, .ref h7, .int 0, .ref h8, .ref h9, .ref h10, .int 0, .null, .int 0, .null, .int 0, .int 0, .int 0, .ref h11, .int 0, .ref h12, .ref h13, .ref h14, .int 0, .ref h15, .ref h16, .int 0]))]) [0] (by decide) rfl
  subst hAe
  exact W.iret (v := 0) hx hb hr (fun t ht hW => ⟨⟨0, (), rfl, rfl, by rw [ht]; exact hP9, hD9⟩, hS.F ht⟩) hS.2.2 dX21_ways_87
def w9_X11_ways_6 : List Cond := [.code yX11_ways cX11_ways 4 (some .int), .methodLink RX11 124 yX11_needPattern, .instanceMethod yX11_needPattern, .selects RX11 yX11_needPattern yX11_needPattern, .initialized RX11, .code yX11_needPattern cX11_needPattern 2 none, .methodLink RX11 180 yX11_needPlace, .instanceMethod yX11_needPlace, .selects RX11 yX11_needPlace yX11_needPlace, .code yX11_needPlace cX11_needPlace 2 none, .fieldLink RX11 16 "Regexloom" "text" "LRegexloom$Text;", .methodLink RX11 146 yX10_size, .instanceMethod yX10_size, .selects RX10 yX10_size yX10_size, .initialized RX10, .code yX10_size cX10_size 1 (some .int), .fieldLink RX10 14 "Regexloom$Text" "codes" "LRegexloom$Table;", .methodLink RX10 20 yX9_size, .instanceMethod yX9_size, .selects RX9 yX9_size yX9_size, .initialized RX9, .code yX9_size cX9_size 1 (some .int), .fieldLink RX9 28 "Regexloom$Table" "size" "I", .initialized "java/lang/Throwable", .superclass "java/lang/Throwable" "java/lang/Object", .instanceMethod Bundle.tFill, .codeSync Bundle.tFill LibCode.Throwable.Fill.code 1 (some (.object "java/lang/Throwable")), .instanceMethod Bundle.tFill0, .native Bundle.tFill0, .instanceMethod Bundle.tInit0, .code Bundle.tInit0 LibCode.Throwable.Init0.code 1 none, .instanceMethod Bundle.oInit, .code Bundle.oInit ⟨#[0xb1]⟩ 1 none, .methodLink "java/lang/Throwable" 1 Bundle.oInit, .methodLink "java/lang/Throwable" 27 Bundle.tFill, .methodLink "java/lang/Throwable" 202 Bundle.tFill0, .fieldLink "java/lang/Throwable" 7 "java/lang/Throwable" "cause" "Ljava/lang/Throwable;", .lays "java/lang/Throwable" "java/lang/Throwable" "cause" "Ljava/lang/Throwable;", .fieldLink "java/lang/Throwable" 17 "java/lang/Throwable" "stackTrace" "[Ljava/lang/StackTraceElement;", .lays "java/lang/Throwable" "java/lang/Throwable" "stackTrace" "[Ljava/lang/StackTraceElement;", .fieldLink "java/lang/Throwable" 24 "java/lang/Throwable" "suppressedExceptions" "Ljava/util/List;", .lays "java/lang/Throwable" "java/lang/Throwable" "suppressedExceptions" "Ljava/util/List;", .fieldLink "java/lang/Throwable" 13 "java/lang/Throwable" "UNASSIGNED_STACK" "[Ljava/lang/StackTraceElement;", .fieldLink "java/lang/Throwable" 20 "java/lang/Throwable" "SUPPRESSED_SENTINEL" "Ljava/util/List;", .lays "java/lang/Throwable" "java/lang/Throwable" "detailMessage" "Ljava/lang/String;", .instanceMethod (Bundle.initS "java/lang/Throwable"), .code (Bundle.initS "java/lang/Throwable") LibCode.Throwable.InitS.code 2 none, .fieldLink "java/lang/Throwable" 31 "java/lang/Throwable" "detailMessage" "Ljava/lang/String;", .instanceMethod (Bundle.initS "java/lang/IndexOutOfBoundsException"), .code (Bundle.initS "java/lang/IndexOutOfBoundsException") Bundle.six 2 none, .methodLink "java/lang/IndexOutOfBoundsException" 7 (Bundle.initS "java/lang/RuntimeException"), .instanceMethod (Bundle.initS "java/lang/RuntimeException"), .code (Bundle.initS "java/lang/RuntimeException") Bundle.six 2 none, .methodLink "java/lang/RuntimeException" 7 (Bundle.initS "java/lang/Exception"), .instanceMethod (Bundle.initS "java/lang/Exception"), .code (Bundle.initS "java/lang/Exception") Bundle.six 2 none, .methodLink "java/lang/Exception" 7 (Bundle.initS "java/lang/Throwable"), .methodLink RX11 224 (Bundle.initS "java/lang/IndexOutOfBoundsException"), .instantiable "java/lang/IndexOutOfBoundsException" 6, .selects "java/lang/IndexOutOfBoundsException" Bundle.tFill0 Bundle.tFill0, .selects "java/lang/IndexOutOfBoundsException" Bundle.tFill Bundle.tFill, .lays "java/lang/IndexOutOfBoundsException" "java/lang/Throwable" "cause" "Ljava/lang/Throwable;", .lays "java/lang/IndexOutOfBoundsException" "java/lang/Throwable" "stackTrace" "[Ljava/lang/StackTraceElement;", .lays "java/lang/IndexOutOfBoundsException" "java/lang/Throwable" "suppressedExceptions" "Ljava/util/List;", .lays "java/lang/IndexOutOfBoundsException" "java/lang/Throwable" "detailMessage" "Ljava/lang/String;", .fieldLink "java/lang/Throwable" 198 "java/lang/Throwable" "backtrace" "Ljava/lang/Object;", .lays "java/lang/Throwable" "java/lang/Throwable" "backtrace" "Ljava/lang/Object;", .lays "java/lang/IndexOutOfBoundsException" "java/lang/Throwable" "backtrace" "Ljava/lang/Object;", .classLink RX11 220 "java/lang/IndexOutOfBoundsException", .initialized "java/lang/IndexOutOfBoundsException"] ++ (u_ws RX11 TX11 17 ++ u_ws RX10 TX10 1 ++ u_ws RX9 TX9 4)
set_option maxRecDepth 20000 in
theorem in9_X11_ways_6_RX11 : ∀ w ∈ u_ws RX11 TX11 17, w ∈ w9_X11_ways_6 := by decide +kernel
set_option maxRecDepth 20000 in
theorem in9_X11_ways_6_RX10 : ∀ w ∈ u_ws RX10 TX10 1, w ∈ w9_X11_ways_6 := by decide +kernel
set_option maxRecDepth 20000 in
theorem in9_X11_ways_6_RX9 : ∀ w ∈ u_ws RX9 TX9 4, w ∈ w9_X11_ways_6 := by decide +kernel
set_option maxRecDepth 20000 in
theorem g9_X11_ways_6_0 : GoodIn w9_X11_ways_6 (wsV RX11 124 RX11 yX11_needPattern w9_X11_needPattern_7) := goodIn_r _ [1, 2, 3, 4, 5] (by decide +kernel) (by decide +kernel)
set_option maxRecDepth 20000 in
theorem g9_X11_ways_6_1 : GoodIn w9_X11_ways_6 (wsV RX11 180 RX11 yX11_needPlace w9_X11_needPlace_3) := goodIn_r _ [6, 7, 8, 4, 9, 10, 11, 12, 13, 14, 15, 16, 17, 18, 19, 20, 21, 22, 70, 71, 72, 73, 74, 75, 76, 77, 78, 79, 80, 81, 82, 83, 84, 85, 86, 87, 88, 89, 90, 91] (by decide +kernel) (by decide +kernel)
set_option maxRecDepth 20000 in
theorem g9_X11_ways_6_2 : GoodIn w9_X11_ways_6 (wsV RX11 180 RX11 yX11_needPlace w9_X11_needPlace_2) := goodIn_r _ [6, 7, 8, 4, 9, 10, 11, 12, 13, 14, 15, 16, 17, 18, 19, 20, 21, 22, 23, 24, 25, 26, 27, 28, 29, 30, 31, 32, 33, 34, 35, 36, 37, 38, 39, 40, 41, 42, 43, 44, 45, 46, 47, 48, 49, 50, 51, 52, 53, 54, 55, 56, 57, 58, 59, 60, 61, 62, 63, 64, 65, 66, 67, 68, 69, 70, 71, 72, 73, 74, 75, 76, 77, 78, 79, 80, 81, 82, 83, 84, 85, 86, 87, 88, 89, 90, 91] (by decide +kernel) (by decide +kernel)
set_option maxHeartbeats 4000000 in
set_option maxRecDepth 100000 in
theorem c9_X11_ways_6 (l : Launch) (hlt : l.stackTraces = false) (g : G9) (h0 h1 h2 h3 h4 h5 h6 h7 h8 h9 h10 h11 h12 h13 h14 h15 sz : Nat) (v0 v1 : Int32) (k_v0 : 0 ≤ v0.toInt ∧ v0.toInt ≤ 3) (k_v1 : 1 ≤ v1.toInt ∧ v1.toInt ≤ 2147483647) : vx_Met l yX11_ways w9_X11_ways_6 ({ frames := 7, cells := 1, slots := 6, locals := 103 }) (mP g [(h0, .inr (12, [.ref h1, .int 0, .ref h2, .ref h3, .ref h4, .ref h5, .ref h6, .ref h7, .int (-1), .ref h8, .ref h9, .int 250, .ref h10, .int 0, .ref h11, .ref h12, .ref h13])), (h2, .inr (11, [.ref h14])), (h14, .inr (10, [.int 1, .int 20, .ref h15, .int 0]))] sz [.ref h0, .int v0, .int 0, .int v1]) (va_Qv (fun _ : Unit => False) (fun _ _ => True) (va_A [(h0, .inr (12, [.ref h1, .int 0, .ref h2, .ref h3, .ref h4, .ref h5, .ref h6, .ref h7, .int (-1), .ref h8, .ref h9, .int 250, .ref h10, .int 0, .ref h11, .ref h12, .ref h13])), (h2, .inr (11, [.ref h14])), (h14, .inr (10, [.int 1, .int 20, .ref h15, .int 0]))] sz)) (mT g [(h0, .inr (12, [.ref h1, .int 0, .ref h2, .ref h3, .ref h4, .ref h5, .ref h6, .ref h7, .int (-1), .ref h8, .ref h9, .int 250, .ref h10, .int 0, .ref h11, .ref h12, .ref h13])), (h2, .inr (11, [.ref h14])), (h14, .inr (10, [.int 1, .int 20, .ref h15, .int 0]))] sz "java/lang/IndexOutOfBoundsException") 1 6 (va_A [(h0, .inr (12, [.ref h1, .int 0, .ref h2, .ref h3, .ref h4, .ref h5, .ref h6, .ref h7, .int (-1), .ref h8, .ref h9, .int 250, .ref h10, .int 0, .ref h11, .ref h12, .ref h13])), (h2, .inr (11, [.ref h14])), (h14, .inr (10, [.int 1, .int 20, .ref h15, .int 0]))] sz) := by
  refine vx_ofW (cc := cX11_ways) (maxL := 4) (ret := (some .int)) (by decide) rfl ?_
  intro p e s m args below meth c s₁ B hml hno hv
  obtain ⟨rfl, hsz, hP, hD0, hE⟩ := hv
  have hx := B.exec
  have hb := B.bytes
  have hr := B.returns
  have hts := atoms_spec (ws := w9_X11_ways_6) B.pre
  have hown : s.vm.findClass RX11 = some m.cls := findClass_of_methodNamed B.named
  have hlocks := B.notSynchronized
  subst hsz
  have hD := hD0.self (sz := s.heap.size)
  generalize hAe : va_A [(h0, .inr (12, [.ref h1, .int 0, .ref h2, .ref h3, .ref h4, .ref h5, .ref h6, .ref h7, .int (-1), .ref h8, .ref h9, .int 250, .ref h10, .int 0, .ref h11, .ref h12, .ref h13])), (h2, .inr (11, [.ref h14])), (h14, .inr (10, [.int 1, .int 20, .ref h15, .int 0]))] s.heap.size = A at hD hE ⊢
  have hA : ∀ q : Nat, s.heap.size ≤ q → A q := fun q h => by rw [← hAe]; exact Or.inr h
  have hK := hE.1
  have hS : va_S A s.heap s.heap [] := va_S.rf
  replace hP : va_P g.1 vwCl [(h0, .inr (12, [.ref h1, .int 0, .ref h2, .ref h3, .ref h4, .ref h5, .ref h6, .ref h7, .int (-1), .ref h8, .ref h9, .int 250, .ref h10, .int 0, .ref h11, .ref h12, .ref h13])), (h2, .inr (11, [.ref h14])), (h14, .inr (10, [.int 1, .int 20, .ref h15, .int 0]))] s.heap := hP
  have hl := lv_entry ([.ref h0, .int v0, .int 0, .int v1]) (n := 4) (Nat.le_of_ble_eq_true rfl)
  rw [lg_entry_eq]
  generalize (lg_sl ([.ref h0, .int v0, .int 0, .int v1]) ++ List.replicate (4 - (lg_sl ([.ref h0, .int v0, .int 0, .int v1])).length) Slot.unset).toArray = ls at hl ⊢
  replace hl : lv_has ls 4 [(0, .ref h0), (1, .int v0), (2, .int 0), (3, .int v1)] := hl
  have hH0 : s.heap.size ≤ s.heap.size := Nat.le_refl _
  refine lv_aload_n hx hb dX11_ways_0 rfl (lv_at hl 0 rfl) ?_
  refine lv_iload_n hx hb dX11_ways_1 rfl (lv_at hl 1 rfl) ?_
  have hPc := hP.sub (ws' := [(h0, .inr (12, [.ref h1, .int 0, .ref h2, .ref h3, .ref h4, .ref h5, .ref h6, .ref h7, .int (-1), .ref h8, .ref h9, .int 250, .ref h10, .int 0, .ref h11, .ref h12, .ref h13]))]) [0] rfl
  have hDc := hD.sub (ws' := [(h0, .inr (12, [.ref h1, .int 0, .ref h2, .ref h3, .ref h4, .ref h5, .ref h6, .ref h7, .int (-1), .ref h8, .ref h9, .int 250, .ref h10, .int 0, .ref h11, .ref h12, .ref h13]))]) [0] (by decide) rfl
  have hFc := va_free (wc := [(h0, .inr (12, [.ref h1, .int 0, .ref h2, .ref h3, .ref h4, .ref h5, .ref h6, .ref h7, .int (-1), .ref h8, .ref h9, .int 250, .ref h10, .int 0, .ref h11, .ref h12, .ref h13]))]) hD hS hA [0] rfl
  refine va_callv (va_runV (As := [.int v0]) (rest := []) ⟨hx, hb, hml, hown, hts⟩ (c9_X11_needPattern_7 l g h0 h1 h2 h3 h4 h5 h6 h7 h8 h9 h10 h11 h12 h13 _ v0 (by omega)) (cwV 1 hts g9_X11_ways_6_0 rfl rfl rfl (by decide +kernel) ⟨Nat.le_of_ble_eq_true rfl, Nat.le_of_ble_eq_true rfl⟩) (mPreV (g := g) (wc := [(h0, .inr (12, [.ref h1, .int 0, .ref h2, .ref h3, .ref h4, .ref h5, .ref h6, .ref h7, .int (-1), .ref h8, .ref h9, .int 250, .ref h10, .int 0, .ref h11, .ref h12, .ref h13]))]) (C := RX11) (ci := 12) (q0 := 0) hE hS hPc hDc hFc rfl rfl) rfl rfl hl.1 rfl (lv_room (Nat.le_of_ble_eq_true rfl)) dX11_ways_2 ⟨Nat.le_of_ble_eq_true rfl, Nat.le_of_ble_eq_true rfl⟩) hS (fun q _ h => hFc q h) hFc (fun u t H1 locs ht hvm hw hB hz1 hk1 hS => ?_)
  obtain ⟨hP1, hD1⟩ := hB
  rw [ht] at hP1
  obtain ⟨hP, hD⟩ := va_join (wr := [(h2, .inr (11, [.ref h14])), (h14, .inr (10, [.int 1, .int 20, .ref h15, .int 0]))]) (w1 := [(h0, .inr (12, [.ref h1, .int 0, .ref h2, .ref h3, .ref h4, .ref h5, .ref h6, .ref h7, .int (-1), .ref h8, .ref h9, .int 250, .ref h10, .int 0, .ref h11, .ref h12, .ref h13]))]) hP hD [0] [1, 2] rfl rfl (by decide) (by decide) hk1 hFc hP1 hD1
  clear hP1 hD1 hPc hDc hFc hk1 hz1 hvm ht
  generalize H1 = H at hP hS ⊢
  have hP : va_P g.1 vwCl [(h2, .inr (11, [.ref h14])), (h14, .inr (10, [.int 1, .int 20, .ref h15, .int 0])), (h0, .inr (12, [.ref h1, .int 0, .ref h2, .ref h3, .ref h4, .ref h5, .ref h6, .ref h7, .int (-1), .ref h8, .ref h9, .int 250, .ref h10, .int 0, .ref h11, .ref h12, .ref h13]))] H := hP
  have hD : va_D A [(h2, .inr (11, [.ref h14])), (h14, .inr (10, [.int 1, .int 20, .ref h15, .int 0])), (h0, .inr (12, [.ref h1, .int 0, .ref h2, .ref h3, .ref h4, .ref h5, .ref h6, .ref h7, .int (-1), .ref h8, .ref h9, .int 250, .ref h10, .int 0, .ref h11, .ref h12, .ref h13]))] := hD
  refine lv_aload_n hx hb dX11_ways_5 rfl (lv_at hl 0 rfl) ?_
  refine lv_iload_n hx hb dX11_ways_6 rfl (lv_at hl 2 rfl) ?_
  have hPc := hP.sub (ws' := [(h2, .inr (11, [.ref h14])), (h14, .inr (10, [.int 1, .int 20, .ref h15, .int 0])), (h0, .inr (12, [.ref h1, .int 0, .ref h2, .ref h3, .ref h4, .ref h5, .ref h6, .ref h7, .int (-1), .ref h8, .ref h9, .int 250, .ref h10, .int 0, .ref h11, .ref h12, .ref h13]))]) [0, 1, 2] rfl
  have hDc := hD.sub (ws' := [(h2, .inr (11, [.ref h14])), (h14, .inr (10, [.int 1, .int 20, .ref h15, .int 0])), (h0, .inr (12, [.ref h1, .int 0, .ref h2, .ref h3, .ref h4, .ref h5, .ref h6, .ref h7, .int (-1), .ref h8, .ref h9, .int 250, .ref h10, .int 0, .ref h11, .ref h12, .ref h13]))]) [0, 1, 2] (by decide) rfl
  have hFc := va_free (wc := [(h2, .inr (11, [.ref h14])), (h14, .inr (10, [.int 1, .int 20, .ref h15, .int 0])), (h0, .inr (12, [.ref h1, .int 0, .ref h2, .ref h3, .ref h4, .ref h5, .ref h6, .ref h7, .int (-1), .ref h8, .ref h9, .int 250, .ref h10, .int 0, .ref h11, .ref h12, .ref h13]))]) hD hS hA [0, 1, 2] rfl
  refine va_callv (va_runV (As := [.int 0]) (rest := []) ⟨hx, hb, hml, hown, hts⟩ (c9_X11_needPlace_3 l g h0 h2 h14 h15 h1 h3 h4 h5 h6 h7 h8 h9 h10 h11 h12 h13 _) (cwV 1 hts g9_X11_ways_6_1 rfl rfl rfl (by decide +kernel) ⟨Nat.le_of_ble_eq_true rfl, Nat.le_of_ble_eq_true rfl⟩) (mPreV (g := g) (wc := [(h2, .inr (11, [.ref h14])), (h14, .inr (10, [.int 1, .int 20, .ref h15, .int 0])), (h0, .inr (12, [.ref h1, .int 0, .ref h2, .ref h3, .ref h4, .ref h5, .ref h6, .ref h7, .int (-1), .ref h8, .ref h9, .int 250, .ref h10, .int 0, .ref h11, .ref h12, .ref h13]))]) (C := RX11) (ci := 12) (q0 := 2) hE hS hPc hDc hFc rfl rfl) rfl rfl hl.1 rfl (lv_room (Nat.le_of_ble_eq_true rfl)) dX11_ways_7 ⟨Nat.le_of_ble_eq_true rfl, Nat.le_of_ble_eq_true rfl⟩) hS (fun q _ h => hFc q h) hFc (fun u t H1 locs ht hvm hw hB hz1 hk1 hS => ?_)
  obtain ⟨hP1, hD1⟩ := hB
  rw [ht] at hP1
  obtain ⟨hP, hD⟩ := va_join (wr := []) (w1 := [(h2, .inr (11, [.ref h14])), (h14, .inr (10, [.int 1, .int 20, .ref h15, .int 0])), (h0, .inr (12, [.ref h1, .int 0, .ref h2, .ref h3, .ref h4, .ref h5, .ref h6, .ref h7, .int (-1), .ref h8, .ref h9, .int 250, .ref h10, .int 0, .ref h11, .ref h12, .ref h13]))]) hP hD [0, 1, 2] [] rfl rfl (by decide) (by decide) hk1 hFc hP1 hD1
  clear hP1 hD1 hPc hDc hFc hk1 hz1 hvm ht
  generalize H1 = H at hP hS ⊢
  have hP : va_P g.1 vwCl [(h2, .inr (11, [.ref h14])), (h14, .inr (10, [.int 1, .int 20, .ref h15, .int 0])), (h0, .inr (12, [.ref h1, .int 0, .ref h2, .ref h3, .ref h4, .ref h5, .ref h6, .ref h7, .int (-1), .ref h8, .ref h9, .int 250, .ref h10, .int 0, .ref h11, .ref h12, .ref h13]))] H := hP
  have hD : va_D A [(h2, .inr (11, [.ref h14])), (h14, .inr (10, [.int 1, .int 20, .ref h15, .int 0])), (h0, .inr (12, [.ref h1, .int 0, .ref h2, .ref h3, .ref h4, .ref h5, .ref h6, .ref h7, .int (-1), .ref h8, .ref h9, .int 250, .ref h10, .int 0, .ref h11, .ref h12, .ref h13]))] := hD
  refine lv_aload_n hx hb dX11_ways_10 rfl (lv_at hl 0 rfl) ?_
  refine lv_iload_n hx hb dX11_ways_11 rfl (lv_at hl 3 rfl) ?_
  have hPc := hP.sub (ws' := [(h2, .inr (11, [.ref h14])), (h14, .inr (10, [.int 1, .int 20, .ref h15, .int 0])), (h0, .inr (12, [.ref h1, .int 0, .ref h2, .ref h3, .ref h4, .ref h5, .ref h6, .ref h7, .int (-1), .ref h8, .ref h9, .int 250, .ref h10, .int 0, .ref h11, .ref h12, .ref h13]))]) [0, 1, 2] rfl
  have hDc := hD.sub (ws' := [(h2, .inr (11, [.ref h14])), (h14, .inr (10, [.int 1, .int 20, .ref h15, .int 0])), (h0, .inr (12, [.ref h1, .int 0, .ref h2, .ref h3, .ref h4, .ref h5, .ref h6, .ref h7, .int (-1), .ref h8, .ref h9, .int 250, .ref h10, .int 0, .ref h11, .ref h12, .ref h13]))]) [0, 1, 2] (by decide) rfl
  have hFc := va_free (wc := [(h2, .inr (11, [.ref h14])), (h14, .inr (10, [.int 1, .int 20, .ref h15, .int 0])), (h0, .inr (12, [.ref h1, .int 0, .ref h2, .ref h3, .ref h4, .ref h5, .ref h6, .ref h7, .int (-1), .ref h8, .ref h9, .int 250, .ref h10, .int 0, .ref h11, .ref h12, .ref h13]))]) hD hS hA [0, 1, 2] rfl
  refine vx_callv (vx_runV (As := [.int v1]) (rest := []) ⟨hx, hb, hml, hown, hts⟩ (c9_X11_needPlace_2 l hlt g h0 h2 h14 h15 h1 h3 h4 h5 h6 h7 h8 h9 h10 h11 h12 h13 _ v1 (by omega)) (cwV 1 hts g9_X11_ways_6_2 rfl rfl rfl (by decide +kernel) ⟨Nat.le_of_ble_eq_true rfl, Nat.le_of_ble_eq_true rfl⟩) (mPreV (g := g) (wc := [(h2, .inr (11, [.ref h14])), (h14, .inr (10, [.int 1, .int 20, .ref h15, .int 0])), (h0, .inr (12, [.ref h1, .int 0, .ref h2, .ref h3, .ref h4, .ref h5, .ref h6, .ref h7, .int (-1), .ref h8, .ref h9, .int 250, .ref h10, .int 0, .ref h11, .ref h12, .ref h13]))]) (C := RX11) (ci := 12) (q0 := 2) hE hS hPc hDc hFc rfl rfl) rfl rfl hl.1 rfl (lv_room (Nat.le_of_ble_eq_true rfl)) dX11_ways_12 ⟨Nat.le_of_ble_eq_true rfl, Nat.le_of_ble_eq_true rfl⟩) hS (fun q _ h => hFc q h) hFc (fun q _ h => hFc q h) (fun E9 ce q9 u t H locs ht hvm hw hB hz1 hk1 hS hc1 hc2 hc3 => ?_) (fun u t H1 locs ht hvm hw hB hz1 hk1 hS => hw.elim)
  replace hB : E9 = "java/lang/IndexOutOfBoundsException" := hB
  subst hB
  exact vx_out (fun z hz => (hno z hz).elim) hlocks hc1 hc2 hc3 (fun t ht hW => ⟨(), trivial, rfl, by subst hAe; exact hS.F ht⟩) (by subst hAe; exact hS.2.2) (Nat.le_of_ble_eq_true rfl) (Nat.le_of_ble_eq_true rfl)
def w9_L_ways_6 : List Cond := [.codeWith yL_ways cL_ways 6 (some .int) [(0, 12, 15, 21), (0, 12, 19, 15)], .methodLink RL 61 yX11_ways, .instanceMethod yX11_ways, .selects RX11 yX11_ways yX11_ways, .initialized RX11, .code yX11_ways cX11_ways 4 (some .int), .methodLink RX11 124 yX11_needPattern, .instanceMethod yX11_needPattern, .selects RX11 yX11_needPattern yX11_needPattern, .code yX11_needPattern cX11_needPattern 2 none, .methodLink RX11 180 yX11_needPlace, .instanceMethod yX11_needPlace, .selects RX11 yX11_needPlace yX11_needPlace, .code yX11_needPlace cX11_needPlace 2 none, .fieldLink RX11 16 "Regexloom" "text" "LRegexloom$Text;", .methodLink RX11 146 yX10_size, .instanceMethod yX10_size, .selects RX10 yX10_size yX10_size, .initialized RX10, .code yX10_size cX10_size 1 (some .int), .fieldLink RX10 14 "Regexloom$Text" "codes" "LRegexloom$Table;", .methodLink RX10 20 yX9_size, .instanceMethod yX9_size, .selects RX9 yX9_size yX9_size, .initialized RX9, .code yX9_size cX9_size 1 (some .int), .fieldLink RX9 28 "Regexloom$Table" "size" "I", .initialized "java/lang/Throwable", .superclass "java/lang/Throwable" "java/lang/Object", .instanceMethod Bundle.tFill, .codeSync Bundle.tFill LibCode.Throwable.Fill.code 1 (some (.object "java/lang/Throwable")), .instanceMethod Bundle.tFill0, .native Bundle.tFill0, .instanceMethod Bundle.tInit0, .code Bundle.tInit0 LibCode.Throwable.Init0.code 1 none, .instanceMethod Bundle.oInit, .code Bundle.oInit ⟨#[0xb1]⟩ 1 none, .methodLink "java/lang/Throwable" 1 Bundle.oInit, .methodLink "java/lang/Throwable" 27 Bundle.tFill, .methodLink "java/lang/Throwable" 202 Bundle.tFill0, .fieldLink "java/lang/Throwable" 7 "java/lang/Throwable" "cause" "Ljava/lang/Throwable;", .lays "java/lang/Throwable" "java/lang/Throwable" "cause" "Ljava/lang/Throwable;", .fieldLink "java/lang/Throwable" 17 "java/lang/Throwable" "stackTrace" "[Ljava/lang/StackTraceElement;", .lays "java/lang/Throwable" "java/lang/Throwable" "stackTrace" "[Ljava/lang/StackTraceElement;", .fieldLink "java/lang/Throwable" 24 "java/lang/Throwable" "suppressedExceptions" "Ljava/util/List;", .lays "java/lang/Throwable" "java/lang/Throwable" "suppressedExceptions" "Ljava/util/List;", .fieldLink "java/lang/Throwable" 13 "java/lang/Throwable" "UNASSIGNED_STACK" "[Ljava/lang/StackTraceElement;", .fieldLink "java/lang/Throwable" 20 "java/lang/Throwable" "SUPPRESSED_SENTINEL" "Ljava/util/List;", .lays "java/lang/Throwable" "java/lang/Throwable" "detailMessage" "Ljava/lang/String;", .instanceMethod (Bundle.initS "java/lang/Throwable"), .code (Bundle.initS "java/lang/Throwable") LibCode.Throwable.InitS.code 2 none, .fieldLink "java/lang/Throwable" 31 "java/lang/Throwable" "detailMessage" "Ljava/lang/String;", .instanceMethod (Bundle.initS "java/lang/IndexOutOfBoundsException"), .code (Bundle.initS "java/lang/IndexOutOfBoundsException") Bundle.six 2 none, .methodLink "java/lang/IndexOutOfBoundsException" 7 (Bundle.initS "java/lang/RuntimeException"), .instanceMethod (Bundle.initS "java/lang/RuntimeException"), .code (Bundle.initS "java/lang/RuntimeException") Bundle.six 2 none, .methodLink "java/lang/RuntimeException" 7 (Bundle.initS "java/lang/Exception"), .instanceMethod (Bundle.initS "java/lang/Exception"), .code (Bundle.initS "java/lang/Exception") Bundle.six 2 none, .methodLink "java/lang/Exception" 7 (Bundle.initS "java/lang/Throwable"), .methodLink RX11 224 (Bundle.initS "java/lang/IndexOutOfBoundsException"), .instantiable "java/lang/IndexOutOfBoundsException" 6, .selects "java/lang/IndexOutOfBoundsException" Bundle.tFill0 Bundle.tFill0, .selects "java/lang/IndexOutOfBoundsException" Bundle.tFill Bundle.tFill, .lays "java/lang/IndexOutOfBoundsException" "java/lang/Throwable" "cause" "Ljava/lang/Throwable;", .lays "java/lang/IndexOutOfBoundsException" "java/lang/Throwable" "stackTrace" "[Ljava/lang/StackTraceElement;", .lays "java/lang/IndexOutOfBoundsException" "java/lang/Throwable" "suppressedExceptions" "Ljava/util/List;", .lays "java/lang/IndexOutOfBoundsException" "java/lang/Throwable" "detailMessage" "Ljava/lang/String;", .fieldLink "java/lang/Throwable" 198 "java/lang/Throwable" "backtrace" "Ljava/lang/Object;", .lays "java/lang/Throwable" "java/lang/Throwable" "backtrace" "Ljava/lang/Object;", .lays "java/lang/IndexOutOfBoundsException" "java/lang/Throwable" "backtrace" "Ljava/lang/Object;", .classLink RX11 220 "java/lang/IndexOutOfBoundsException", .initialized "java/lang/IndexOutOfBoundsException", .classLink RL 21 "java/lang/IndexOutOfBoundsException"] ++ (u_ws RX11 TX11 17 ++ u_ws RX10 TX10 1 ++ u_ws RX9 TX9 4)
set_option maxRecDepth 20000 in
theorem in9_L_ways_6_RX11 : ∀ w ∈ u_ws RX11 TX11 17, w ∈ w9_L_ways_6 := by decide +kernel
set_option maxRecDepth 20000 in
theorem in9_L_ways_6_RX10 : ∀ w ∈ u_ws RX10 TX10 1, w ∈ w9_L_ways_6 := by decide +kernel
set_option maxRecDepth 20000 in
theorem in9_L_ways_6_RX9 : ∀ w ∈ u_ws RX9 TX9 4, w ∈ w9_L_ways_6 := by decide +kernel
set_option maxRecDepth 20000 in
theorem g9_L_ways_6_0 : GoodIn w9_L_ways_6 (wsV RL 61 RX11 yX11_ways w9_X11_ways_6) := goodIn_r _ [1, 2, 3, 4, 5, 6, 7, 8, 4, 9, 10, 11, 12, 13, 14, 15, 16, 17, 18, 19, 20, 21, 22, 23, 24, 25, 26, 27, 28, 29, 30, 31, 32, 33, 34, 35, 36, 37, 38, 39, 40, 41, 42, 43, 44, 45, 46, 47, 48, 49, 50, 51, 52, 53, 54, 55, 56, 57, 58, 59, 60, 61, 62, 63, 64, 65, 66, 67, 68, 69, 70, 71, 72, 73, 75, 76, 77, 78, 79, 80, 81, 82, 83, 84, 85, 86, 87, 88, 89, 90, 91, 92, 93, 94, 95, 96] (by decide +kernel) (by decide +kernel)
set_option maxHeartbeats 4000000 in
set_option maxRecDepth 100000 in
theorem c9_L_ways_6 (l : Launch) (hlt : l.stackTraces = false) (g : G9) (h0 h1 h2 h3 h4 h5 h6 h7 h8 h9 h10 h11 h12 h13 h14 h15 h16 sz : Nat) (v0 v1 : Int32) (k_v0 : 0 ≤ v0.toInt ∧ v0.toInt ≤ 3) (k_v1 : 1 ≤ v1.toInt ∧ v1.toInt ≤ 2147483647) : Met l yL_ways w9_L_ways_6 ({ frames := 8, cells := 1, slots := 6, locals := 126 }) (mP g [(h0, .inr (12, [.ref h2, .int 0, .ref h3, .ref h4, .ref h5, .ref h6, .ref h7, .ref h8, .int (-1), .ref h9, .ref h10, .int 250, .ref h11, .int 0, .ref h12, .ref h13, .ref h14])), (h3, .inr (11, [.ref h15])), (h15, .inr (10, [.int 1, .int 20, .ref h16, .int 0]))] sz [.ref h0, .int v0, .int 0, .int v1, .ref h1]) (va_Qi (fun (r : Int32) (_ : Unit) => r = 1) (fun (_ : Unit) (t : State) => mB g [(h0, .inr (12, [.ref h2, .int 0, .ref h3, .ref h4, .ref h5, .ref h6, .ref h7, .ref h8, .int (-1), .ref h9, .ref h10, .int 250, .ref h11, .int 0, .ref h12, .ref h13, .ref h14])), (h3, .inr (11, [.ref h15])), (h15, .inr (10, [.int 1, .int 20, .ref h16, .int 0]))] sz [] t) (va_A [(h0, .inr (12, [.ref h2, .int 0, .ref h3, .ref h4, .ref h5, .ref h6, .ref h7, .ref h8, .int (-1), .ref h9, .ref h10, .int 250, .ref h11, .int 0, .ref h12, .ref h13, .ref h14])), (h3, .inr (11, [.ref h15])), (h15, .inr (10, [.int 1, .int 20, .ref h16, .int 0]))] sz)) 1 6 (va_A [(h0, .inr (12, [.ref h2, .int 0, .ref h3, .ref h4, .ref h5, .ref h6, .ref h7, .ref h8, .int (-1), .ref h9, .ref h10, .int 250, .ref h11, .int 0, .ref h12, .ref h13, .ref h14])), (h3, .inr (11, [.ref h15])), (h15, .inr (10, [.int 1, .int 20, .ref h16, .int 0]))] sz) := by
  refine va_MetW (cc := cL_ways) (maxL := 6) (ret := (some .int)) (by decide) rfl ?_
  intro p e s m args below meth c s₁ B hml hv
  obtain ⟨rfl, hsz, hP, hD0, hE⟩ := hv
  have hx := B.exec
  have hb := B.bytes
  have hr := B.returns
  have hts := atoms_spec (ws := w9_L_ways_6) B.pre
  have hown : s.vm.findClass RL = some m.cls := findClass_of_methodNamed B.named
  have hlocks := B.notSynchronized
  have htab := vx_table (x := yL_ways) B (hts (.codeWith yL_ways cL_ways 6 (some .int) [(0, 12, 15, 21), (0, 12, 19, 15)]) (List.mem_of_getElem? (i := 0) rfl))
  subst hsz
  have hD := hD0.self (sz := s.heap.size)
  generalize hAe : va_A [(h0, .inr (12, [.ref h2, .int 0, .ref h3, .ref h4, .ref h5, .ref h6, .ref h7, .ref h8, .int (-1), .ref h9, .ref h10, .int 250, .ref h11, .int 0, .ref h12, .ref h13, .ref h14])), (h3, .inr (11, [.ref h15])), (h15, .inr (10, [.int 1, .int 20, .ref h16, .int 0]))] s.heap.size = A at hD hE ⊢
  have hA : ∀ q : Nat, s.heap.size ≤ q → A q := fun q h => by rw [← hAe]; exact Or.inr h
  have hK := hE.1
  have hS : va_S A s.heap s.heap [] := va_S.rf
  replace hP : va_P g.1 vwCl [(h0, .inr (12, [.ref h2, .int 0, .ref h3, .ref h4, .ref h5, .ref h6, .ref h7, .ref h8, .int (-1), .ref h9, .ref h10, .int 250, .ref h11, .int 0, .ref h12, .ref h13, .ref h14])), (h3, .inr (11, [.ref h15])), (h15, .inr (10, [.int 1, .int 20, .ref h16, .int 0]))] s.heap := hP
  have hl := lv_entry ([.ref h0, .int v0, .int 0, .int v1, .ref h1]) (n := 6) (Nat.le_of_ble_eq_true rfl)
  rw [lg_entry_eq]
  generalize (lg_sl ([.ref h0, .int v0, .int 0, .int v1, .ref h1]) ++ List.replicate (6 - (lg_sl ([.ref h0, .int v0, .int 0, .int v1, .ref h1])).length) Slot.unset).toArray = ls at hl ⊢
  replace hl : lv_has ls 6 [(0, .ref h0), (1, .int v0), (2, .int 0), (3, .int v1), (4, .ref h1)] := hl
  have hH0 : s.heap.size ≤ s.heap.size := Nat.le_refl _
  refine lv_aload hx hb dL_ways_0 (lv_at hl 4 rfl) ?_
  refine lv_iconst (v := 0) hx hb dL_ways_2 (by decide) ?_
  refine lv_aload_n hx hb dL_ways_3 rfl (lv_at hl 0 rfl) ?_
  refine lv_iload_n hx hb dL_ways_4 rfl (lv_at hl 1 rfl) ?_
  refine lv_iload_n hx hb dL_ways_5 rfl (lv_at hl 2 rfl) ?_
  refine lv_iload_n hx hb dL_ways_6 rfl (lv_at hl 3 rfl) ?_
  have hPc := hP.sub (ws' := [(h0, .inr (12, [.ref h2, .int 0, .ref h3, .ref h4, .ref h5, .ref h6, .ref h7, .ref h8, .int (-1), .ref h9, .ref h10, .int 250, .ref h11, .int 0, .ref h12, .ref h13, .ref h14])), (h3, .inr (11, [.ref h15])), (h15, .inr (10, [.int 1, .int 20, .ref h16, .int 0]))]) [0, 1, 2] rfl
  have hDc := hD.sub (ws' := [(h0, .inr (12, [.ref h2, .int 0, .ref h3, .ref h4, .ref h5, .ref h6, .ref h7, .ref h8, .int (-1), .ref h9, .ref h10, .int 250, .ref h11, .int 0, .ref h12, .ref h13, .ref h14])), (h3, .inr (11, [.ref h15])), (h15, .inr (10, [.int 1, .int 20, .ref h16, .int 0]))]) [0, 1, 2] (by decide) rfl
  have hFc := va_free (wc := [(h0, .inr (12, [.ref h2, .int 0, .ref h3, .ref h4, .ref h5, .ref h6, .ref h7, .ref h8, .int (-1), .ref h9, .ref h10, .int 250, .ref h11, .int 0, .ref h12, .ref h13, .ref h14])), (h3, .inr (11, [.ref h15])), (h15, .inr (10, [.int 1, .int 20, .ref h16, .int 0]))]) hD hS hA [0, 1, 2] rfl
  refine vx_callv (vx_runV (As := [.int v0, .int 0, .int v1]) (rest := [.int 0, .ref h1]) ⟨hx, hb, hml, hown, hts⟩ (c9_X11_ways_6 l hlt g h0 h2 h3 h4 h5 h6 h7 h8 h9 h10 h11 h12 h13 h14 h15 h16 _ v0 v1 (by omega) (by omega)) (cwV 3 hts g9_L_ways_6_0 rfl rfl rfl (by decide +kernel) ⟨Nat.le_of_ble_eq_true rfl, Nat.le_of_ble_eq_true rfl⟩) (mPreV (g := g) (wc := [(h0, .inr (12, [.ref h2, .int 0, .ref h3, .ref h4, .ref h5, .ref h6, .ref h7, .ref h8, .int (-1), .ref h9, .ref h10, .int 250, .ref h11, .int 0, .ref h12, .ref h13, .ref h14])), (h3, .inr (11, [.ref h15])), (h15, .inr (10, [.int 1, .int 20, .ref h16, .int 0]))]) (C := RX11) (ci := 12) (q0 := 0) hE hS hPc hDc hFc rfl rfl) rfl rfl hl.1 rfl (lv_room (Nat.le_of_ble_eq_true rfl)) dL_ways_7 ⟨Nat.le_of_ble_eq_true rfl, Nat.le_of_ble_eq_true rfl⟩) hS (fun q _ h => hFc q h) hFc (fun q _ h => hFc q h) (fun E9 ce q9 u t H locs ht hvm hw hB hz1 hk1 hS hc1 hc2 hc3 => ?_) (fun u t H1 locs ht hvm hw hB hz1 hk1 hS => hw.elim)
  replace hB : E9 = "java/lang/IndexOutOfBoundsException" := hB
  subst hB
  obtain ⟨hP, hD⟩ := va_join (wr := []) (w1 := []) hP hD [0, 1, 2] [] rfl rfl (by decide) (by decide) hk1 hFc (fun k q h => by simp at h) ⟨fun i j p q h => by simp at h, fun k q h => by simp at h⟩
  have hP : va_P g.1 vwCl [] H := hP
  have hD : va_D A [] := hD
  refine vx_catch (own := RL) (name := "java/lang/IndexOutOfBoundsException") hown [] ⟨0, 12, 15, 21⟩ [⟨0, 12, 19, 15⟩] (by rw [htab]; rfl) (fun z hz => absurd hz List.not_mem_nil) (by decide) (by decide) (hts (.classLink RL 21 "java/lang/IndexOutOfBoundsException") (List.mem_of_getElem? (i := 74) rfl)) (va_Nw.use rfl (hE.cast ("java/lang/IndexOutOfBoundsException", "java/lang/IndexOutOfBoundsException") (by decide))) hc1 hc2 hc3 ?_
  refine lv_astore (lv' := [(5, .ref q9), (0, .ref h0), (1, .int v0), (2, .int 0), (3, .int v1), (4, .ref h1)]) hx hb dL_ways_15 hl (by decide) rfl (fun ls hl => ?_)
  refine lv_iconst (v := 1) hx hb dL_ways_17 (by decide) ?_
  have hP9 := hP.sub (ws' := []) [] rfl
  have hD9 := hD.sub (ws' := []) [] (by decide) rfl
  subst hAe
  exact W.iret (v := 1) hx hb hr (fun t ht hW => ⟨⟨1, (), rfl, rfl, by rw [ht]; exact hP9, hD9⟩, hS.F ht⟩) hS.2.2 dL_ways_18
def w9_X21_ways_6 : List Cond := [.code yX21_ways cX21_ways 7 (some .int), .methodLink RX21 160 yX21_in, .static yX21_in, .initialized RX21, .code yX21_in cX21_in 3 (some .boolean), .fieldLink RX21 196 "RegexloomModel" "length" "I", .methodLink RX21 154 yX21_refused, .instanceMethod yX21_refused, .selects RX21 yX21_refused yX21_refused, .code yX21_refused cX21_refused 2 (some .boolean), .fieldLink RX21 144 "RegexloomModel" "refusal" "I"] ++ (u_ws RX21 TX21 32)
set_option maxRecDepth 20000 in
theorem in9_X21_ways_6_RX21 : ∀ w ∈ u_ws RX21 TX21 32, w ∈ w9_X21_ways_6 := by decide +kernel
set_option maxRecDepth 20000 in
theorem g9_X21_ways_6_0 : GoodIn w9_X21_ways_6 (va_wsS RX21 160 yX21_in w9_X21_in_7) := goodIn_r _ [1, 2, 3, 4] (by decide +kernel) (by decide +kernel)
set_option maxRecDepth 20000 in
theorem g9_X21_ways_6_1 : GoodIn w9_X21_ways_6 (va_wsS RX21 160 yX21_in w9_X21_in_13) := goodIn_r _ [1, 2, 3, 4] (by decide +kernel) (by decide +kernel)
set_option maxRecDepth 20000 in
theorem g9_X21_ways_6_2 : GoodIn w9_X21_ways_6 (va_wsS RX21 160 yX21_in w9_X21_in_12) := goodIn_r _ [1, 2, 3, 4] (by decide +kernel) (by decide +kernel)
set_option maxRecDepth 20000 in
theorem g9_X21_ways_6_3 : GoodIn w9_X21_ways_6 (wsV RX21 154 RX21 yX21_refused w9_X21_refused_2) := goodIn_r _ [6, 7, 8, 3, 9, 10, 11, 12, 13, 14, 15, 16, 17, 18, 19, 20, 21, 22, 23, 24, 25, 26, 27, 28, 29, 30, 31, 32, 33, 34, 35, 36, 37, 38, 39, 40, 41, 42] (by decide +kernel) (by decide +kernel)
set_option maxHeartbeats 4000000 in
set_option maxRecDepth 100000 in
theorem c9_X21_ways_6 (l : Launch) (g : G9) (h0 h1 h2 h3 h4 h5 h6 h7 h8 h9 h10 h11 h12 h13 h14 h15 h16 sz : Nat) (v0 v1 : Int32) (k_v0 : 0 ≤ v0.toInt ∧ v0.toInt ≤ 3) (k_v1 : 1 ≤ v1.toInt ∧ v1.toInt ≤ 2147483647) : Met l yX21_ways w9_X21_ways_6 ({ frames := 1, cells := 0, slots := 0, locals := 22 }) (mP g [(h0, .inr (22, [.int 0, .ref h1, .int 0, .ref h2, .int 0, .ref h3, .int 250, .ref h4, .int 0, .ref h5, .ref h6, .ref h7, .int 0, .ref h8, .ref h9, .ref h10, .int 0, .null, .int 0, .null, .int 0, .int 0, .int 0, .ref h11, .int 0, .ref h12, .ref h13, .ref h14, .int 0, .ref h15, .ref h16, .int 0]))] sz [.ref h0, .int v0, .int 0, .int v1]) (va_Qi (fun (r : Int32) (_ : Unit) => r = 0) (fun (_ : Unit) (t : State) => mB g [(h0, .inr (22, [.int 0, .ref h1, .int 0, .ref h2, .int 0, .ref h3, .int 250, .ref h4, .int 0, .ref h5, .ref h6, .ref h7, .int 0, .ref h8, .ref h9, .ref h10, .int 0, .null, .int 0, .null, .int 0, .int 0, .int 0, .ref h11, .int 0, .ref h12, .ref h13, .ref h14, .int 0, .ref h15, .ref h16, .int 0]))] sz [(h0, .inr (22, [.int 1, .ref h1, .int 0, .ref h2, .int 0, .ref h3, .int 250, .ref h4, .int 0, .ref h5, .ref h6, .ref h7, .int 0, .ref h8, .ref h9, .ref h10, .int 0, .null, .int 0, .null, .int 0, .int 0, .int 0, .ref h11, .int 0, .ref h12, .ref h13, .ref h14, .int 0, .ref h15, .ref h16, .int 0]))] t) (va_A [(h0, .inr (22, [.int 0, .ref h1, .int 0, .ref h2, .int 0, .ref h3, .int 250, .ref h4, .int 0, .ref h5, .ref h6, .ref h7, .int 0, .ref h8, .ref h9, .ref h10, .int 0, .null, .int 0, .null, .int 0, .int 0, .int 0, .ref h11, .int 0, .ref h12, .ref h13, .ref h14, .int 0, .ref h15, .ref h16, .int 0]))] sz)) 0 0 (va_A [(h0, .inr (22, [.int 0, .ref h1, .int 0, .ref h2, .int 0, .ref h3, .int 250, .ref h4, .int 0, .ref h5, .ref h6, .ref h7, .int 0, .ref h8, .ref h9, .ref h10, .int 0, .null, .int 0, .null, .int 0, .int 0, .int 0, .ref h11, .int 0, .ref h12, .ref h13, .ref h14, .int 0, .ref h15, .ref h16, .int 0]))] sz) := by
  refine Met.ofW (cc := cX21_ways) (maxL := 7) (ret := (some .int)) (by decide) rfl ?_
  intro p e s m args below meth c s₁ B hml hv
  obtain ⟨rfl, hsz, hP, hD0, hE⟩ := hv
  have hx := B.exec
  have hb := B.bytes
  have hr := B.returns
  have hts := atoms_spec (ws := w9_X21_ways_6) B.pre
  have hown : s.vm.findClass RX21 = some m.cls := findClass_of_methodNamed B.named
  have hlocks := B.notSynchronized
  subst hsz
  have hD := hD0.self (sz := s.heap.size)
  generalize hAe : va_A [(h0, .inr (22, [.int 0, .ref h1, .int 0, .ref h2, .int 0, .ref h3, .int 250, .ref h4, .int 0, .ref h5, .ref h6, .ref h7, .int 0, .ref h8, .ref h9, .ref h10, .int 0, .null, .int 0, .null, .int 0, .int 0, .int 0, .ref h11, .int 0, .ref h12, .ref h13, .ref h14, .int 0, .ref h15, .ref h16, .int 0]))] s.heap.size = A at hD hE ⊢
  have hA : ∀ q : Nat, s.heap.size ≤ q → A q := fun q h => by rw [← hAe]; exact Or.inr h
  have hK := hE.1
  have hS : va_S A s.heap s.heap [] := va_S.rf
  replace hP : va_P g.1 vwCl [(h0, .inr (22, [.int 0, .ref h1, .int 0, .ref h2, .int 0, .ref h3, .int 250, .ref h4, .int 0, .ref h5, .ref h6, .ref h7, .int 0, .ref h8, .ref h9, .ref h10, .int 0, .null, .int 0, .null, .int 0, .int 0, .int 0, .ref h11, .int 0, .ref h12, .ref h13, .ref h14, .int 0, .ref h15, .ref h16, .int 0]))] s.heap := hP
  have hl := lv_entry ([.ref h0, .int v0, .int 0, .int v1]) (n := 7) (Nat.le_of_ble_eq_true rfl)
  rw [lg_entry_eq]
  generalize (lg_sl ([.ref h0, .int v0, .int 0, .int v1]) ++ List.replicate (7 - (lg_sl ([.ref h0, .int v0, .int 0, .int v1])).length) Slot.unset).toArray = ls at hl ⊢
  replace hl : lv_has ls 7 [(0, .ref h0), (1, .int v0), (2, .int 0), (3, .int v1)] := hl
  have hH0 : s.heap.size ≤ s.heap.size := Nat.le_refl _
  refine lv_iload_n hx hb dX21_ways_0 rfl (lv_at hl 1 rfl) ?_
  refine lv_iconst (v := 0) hx hb dX21_ways_1 (by decide) ?_
  refine lv_iconst (v := 3) hx hb dX21_ways_2 (by decide) ?_
  have hPc := hP.sub (ws' := []) [] rfl
  have hDc := hD.sub (ws' := []) [] (by decide) rfl
  have hFc := va_free (wc := []) hD hS hA [] rfl
  refine va_calli (va_runS (As := [.int v0, .int 0, .int 3]) (rest := []) ⟨hx, hb, hml, hown, hts⟩ (c9_X21_in_7 l g _ v0 (by omega)) (va_cwS 3 hts g9_X21_ways_6_0 rfl rfl rfl (by decide +kernel) ⟨Nat.le_of_ble_eq_true rfl, Nat.le_of_ble_eq_true rfl⟩) (mPreS (g := g) (wc := []) hE hS hPc hDc hFc) rfl rfl hl.1 rfl (lv_room (Nat.le_of_ble_eq_true rfl)) dX21_ways_3 ⟨Nat.le_of_ble_eq_true rfl, Nat.le_of_ble_eq_true rfl⟩) hS (fun q _ h => hFc q h) hFc (fun r_1 u t H1 locs ht hvm hw hB hz1 hk1 hS => ?_)
  replace hw : 1 = r_1 := Eq.symm hw
  subst hw
  obtain ⟨hP1, hD1⟩ := hB
  rw [ht] at hP1
  obtain ⟨hP, hD⟩ := va_join (wr := [(h0, .inr (22, [.int 0, .ref h1, .int 0, .ref h2, .int 0, .ref h3, .int 250, .ref h4, .int 0, .ref h5, .ref h6, .ref h7, .int 0, .ref h8, .ref h9, .ref h10, .int 0, .null, .int 0, .null, .int 0, .int 0, .int 0, .ref h11, .int 0, .ref h12, .ref h13, .ref h14, .int 0, .ref h15, .ref h16, .int 0]))]) (w1 := []) hP hD [] [0] rfl rfl (by decide) (by decide) hk1 hFc hP1 hD1
  clear hP1 hD1 hPc hDc hFc hk1 hz1 hvm ht
  generalize H1 = H at hP hS ⊢
  have hP : va_P g.1 vwCl [(h0, .inr (22, [.int 0, .ref h1, .int 0, .ref h2, .int 0, .ref h3, .int 250, .ref h4, .int 0, .ref h5, .ref h6, .ref h7, .int 0, .ref h8, .ref h9, .ref h10, .int 0, .null, .int 0, .null, .int 0, .int 0, .int 0, .ref h11, .int 0, .ref h12, .ref h13, .ref h14, .int 0, .ref h15, .ref h16, .int 0]))] H := hP
  have hD : va_D A [(h0, .inr (22, [.int 0, .ref h1, .int 0, .ref h2, .int 0, .ref h3, .int 250, .ref h4, .int 0, .ref h5, .ref h6, .ref h7, .int 0, .ref h8, .ref h9, .ref h10, .int 0, .null, .int 0, .null, .int 0, .int 0, .int 0, .ref h11, .int 0, .ref h12, .ref h13, .ref h14, .int 0, .ref h15, .ref h16, .int 0]))] := hD
  refine lv_if_eq (tgt := 37) hx hb dX21_ways_6 (by decide) (fun c9 => absurd c9 (by decide)) (fun _ => ?_)
  refine lv_iload_n hx hb dX21_ways_9 rfl (lv_at hl 2 rfl) ?_
  refine lv_iconst (v := 0) hx hb dX21_ways_10 (by decide) ?_
  refine lv_aload_n hx hb dX21_ways_11 rfl (lv_at hl 0 rfl) ?_
  refine va_get (D := g.1) (ci := 22) (v := .int 0) (C := RX21) (T := TX21) (N := 32) hx hb hts in9_X21_ways_6_RX21 hown hK hP 0 rfl rfl 4 (by decide) (hts (.fieldLink RX21 196 "RegexloomModel" "length" "I") (List.mem_of_getElem? (i := 5) rfl)) (fun _ h9 => h9) rfl dX21_ways_12 ?_
  have hPc := hP.sub (ws' := []) [] rfl
  have hDc := hD.sub (ws' := []) [] (by decide) rfl
  have hFc := va_free (wc := []) hD hS hA [] rfl
  refine va_calli (va_runS (As := [.int 0, .int 0, .int 0]) (rest := []) ⟨hx, hb, hml, hown, hts⟩ (c9_X21_in_13 l g _) (va_cwS 3 hts g9_X21_ways_6_1 rfl rfl rfl (by decide +kernel) ⟨Nat.le_of_ble_eq_true rfl, Nat.le_of_ble_eq_true rfl⟩) (mPreS (g := g) (wc := []) hE hS hPc hDc hFc) rfl rfl hl.1 rfl (lv_room (Nat.le_of_ble_eq_true rfl)) dX21_ways_15 ⟨Nat.le_of_ble_eq_true rfl, Nat.le_of_ble_eq_true rfl⟩) hS (fun q _ h => hFc q h) hFc (fun r_2 u t H1 locs ht hvm hw hB hz1 hk1 hS => ?_)
  replace hw : 1 = r_2 := Eq.symm hw
  subst hw
  obtain ⟨hP1, hD1⟩ := hB
  rw [ht] at hP1
  obtain ⟨hP, hD⟩ := va_join (wr := [(h0, .inr (22, [.int 0, .ref h1, .int 0, .ref h2, .int 0, .ref h3, .int 250, .ref h4, .int 0, .ref h5, .ref h6, .ref h7, .int 0, .ref h8, .ref h9, .ref h10, .int 0, .null, .int 0, .null, .int 0, .int 0, .int 0, .ref h11, .int 0, .ref h12, .ref h13, .ref h14, .int 0, .ref h15, .ref h16, .int 0]))]) (w1 := []) hP hD [] [0] rfl rfl (by decide) (by decide) hk1 hFc hP1 hD1
  clear hP1 hD1 hPc hDc hFc hk1 hz1 hvm ht
  generalize H1 = H at hP hS ⊢
  have hP : va_P g.1 vwCl [(h0, .inr (22, [.int 0, .ref h1, .int 0, .ref h2, .int 0, .ref h3, .int 250, .ref h4, .int 0, .ref h5, .ref h6, .ref h7, .int 0, .ref h8, .ref h9, .ref h10, .int 0, .null, .int 0, .null, .int 0, .int 0, .int 0, .ref h11, .int 0, .ref h12, .ref h13, .ref h14, .int 0, .ref h15, .ref h16, .int 0]))] H := hP
  have hD : va_D A [(h0, .inr (22, [.int 0, .ref h1, .int 0, .ref h2, .int 0, .ref h3, .int 250, .ref h4, .int 0, .ref h5, .ref h6, .ref h7, .int 0, .ref h8, .ref h9, .ref h10, .int 0, .null, .int 0, .null, .int 0, .int 0, .int 0, .ref h11, .int 0, .ref h12, .ref h13, .ref h14, .int 0, .ref h15, .ref h16, .int 0]))] := hD
  refine lv_if_eq (tgt := 37) hx hb dX21_ways_18 (by decide) (fun c9 => absurd c9 (by decide)) (fun _ => ?_)
  refine lv_iload_n hx hb dX21_ways_21 rfl (lv_at hl 3 rfl) ?_
  refine lv_iconst (v := 0) hx hb dX21_ways_22 (by decide) ?_
  refine lv_aload_n hx hb dX21_ways_23 rfl (lv_at hl 0 rfl) ?_
  refine va_get (D := g.1) (ci := 22) (v := .int 0) (C := RX21) (T := TX21) (N := 32) hx hb hts in9_X21_ways_6_RX21 hown hK hP 0 rfl rfl 4 (by decide) (hts (.fieldLink RX21 196 "RegexloomModel" "length" "I") (List.mem_of_getElem? (i := 5) rfl)) (fun _ h9 => h9) rfl dX21_ways_24 ?_
  have hPc := hP.sub (ws' := []) [] rfl
  have hDc := hD.sub (ws' := []) [] (by decide) rfl
  have hFc := va_free (wc := []) hD hS hA [] rfl
  refine va_calli (va_runS (As := [.int v1, .int 0, .int 0]) (rest := []) ⟨hx, hb, hml, hown, hts⟩ (c9_X21_in_12 l g _ v1 (by omega)) (va_cwS 3 hts g9_X21_ways_6_2 rfl rfl rfl (by decide +kernel) ⟨Nat.le_of_ble_eq_true rfl, Nat.le_of_ble_eq_true rfl⟩) (mPreS (g := g) (wc := []) hE hS hPc hDc hFc) rfl rfl hl.1 rfl (lv_room (Nat.le_of_ble_eq_true rfl)) dX21_ways_27 ⟨Nat.le_of_ble_eq_true rfl, Nat.le_of_ble_eq_true rfl⟩) hS (fun q _ h => hFc q h) hFc (fun r_3 u t H1 locs ht hvm hw hB hz1 hk1 hS => ?_)
  replace hw : 0 = r_3 := Eq.symm hw
  subst hw
  obtain ⟨hP1, hD1⟩ := hB
  rw [ht] at hP1
  obtain ⟨hP, hD⟩ := va_join (wr := [(h0, .inr (22, [.int 0, .ref h1, .int 0, .ref h2, .int 0, .ref h3, .int 250, .ref h4, .int 0, .ref h5, .ref h6, .ref h7, .int 0, .ref h8, .ref h9, .ref h10, .int 0, .null, .int 0, .null, .int 0, .int 0, .int 0, .ref h11, .int 0, .ref h12, .ref h13, .ref h14, .int 0, .ref h15, .ref h16, .int 0]))]) (w1 := []) hP hD [] [0] rfl rfl (by decide) (by decide) hk1 hFc hP1 hD1
  clear hP1 hD1 hPc hDc hFc hk1 hz1 hvm ht
  generalize H1 = H at hP hS ⊢
  have hP : va_P g.1 vwCl [(h0, .inr (22, [.int 0, .ref h1, .int 0, .ref h2, .int 0, .ref h3, .int 250, .ref h4, .int 0, .ref h5, .ref h6, .ref h7, .int 0, .ref h8, .ref h9, .ref h10, .int 0, .null, .int 0, .null, .int 0, .int 0, .int 0, .ref h11, .int 0, .ref h12, .ref h13, .ref h14, .int 0, .ref h15, .ref h16, .int 0]))] H := hP
  have hD : va_D A [(h0, .inr (22, [.int 0, .ref h1, .int 0, .ref h2, .int 0, .ref h3, .int 250, .ref h4, .int 0, .ref h5, .ref h6, .ref h7, .int 0, .ref h8, .ref h9, .ref h10, .int 0, .null, .int 0, .null, .int 0, .int 0, .int 0, .ref h11, .int 0, .ref h12, .ref h13, .ref h14, .int 0, .ref h15, .ref h16, .int 0]))] := hD
  refine lv_if_eq (tgt := 37) hx hb dX21_ways_30 (by decide) (fun _ => ?_) (fun c9 => absurd (by decide) c9)
  refine lv_iconst (v := 0) hx hb dX21_ways_37 (by decide) ?_
  refine lv_istore (lv' := [(4, .int 0), (0, .ref h0), (1, .int v0), (2, .int 0), (3, .int v1)]) hx hb dX21_ways_38 hl (by decide) rfl (fun ls hl => ?_)
  refine lv_iload hx hb dX21_ways_40 (lv_at hl 0 rfl) ?_
  refine lv_if_ne (tgt := 49) hx hb dX21_ways_42 (by decide) (fun c9 => absurd (by decide) c9) (fun _ => ?_)
  refine lv_iconst (v := 1) hx hb dX21_ways_45 (by decide) ?_
  refine lv_goto (tgt := 75) hx hb dX21_ways_46 (by decide) ?_
  refine lv_istore (lv' := [(5, .int 1), (4, .int 0), (0, .ref h0), (1, .int v0), (2, .int 0), (3, .int v1)]) hx hb dX21_ways_75 hl (by decide) rfl (fun ls hl => ?_)
  refine lv_aload_n hx hb dX21_ways_77 rfl (lv_at hl 2 rfl) ?_
  refine lv_iload hx hb dX21_ways_78 (lv_at hl 0 rfl) ?_
  have hPc := hP.sub (ws' := [(h0, .inr (22, [.int 0, .ref h1, .int 0, .ref h2, .int 0, .ref h3, .int 250, .ref h4, .int 0, .ref h5, .ref h6, .ref h7, .int 0, .ref h8, .ref h9, .ref h10, .int 0, .null, .int 0, .null, .int 0, .int 0, .int 0, .ref h11, .int 0, .ref h12, .ref h13, .ref h14, .int 0, .ref h15, .ref h16, .int 0]))]) [0] rfl
  have hDc := hD.sub (ws' := [(h0, .inr (22, [.int 0, .ref h1, .int 0, .ref h2, .int 0, .ref h3, .int 250, .ref h4, .int 0, .ref h5, .ref h6, .ref h7, .int 0, .ref h8, .ref h9, .ref h10, .int 0, .null, .int 0, .null, .int 0, .int 0, .int 0, .ref h11, .int 0, .ref h12, .ref h13, .ref h14, .int 0, .ref h15, .ref h16, .int 0]))]) [0] (by decide) rfl
  have hFc := va_free (wc := [(h0, .inr (22, [.int 0, .ref h1, .int 0, .ref h2, .int 0, .ref h3, .int 250, .ref h4, .int 0, .ref h5, .ref h6, .ref h7, .int 0, .ref h8, .ref h9, .ref h10, .int 0, .null, .int 0, .null, .int 0, .int 0, .int 0, .ref h11, .int 0, .ref h12, .ref h13, .ref h14, .int 0, .ref h15, .ref h16, .int 0]))]) hD hS hA [0] rfl
  refine va_calli (va_runV (As := [.int 1]) (rest := []) ⟨hx, hb, hml, hown, hts⟩ (c9_X21_refused_2 l g h0 h1 h2 h3 h4 h5 h6 h7 h8 h9 h10 h11 h12 h13 h14 h15 h16 _) (cwV 1 hts g9_X21_ways_6_3 rfl rfl rfl (by decide +kernel) ⟨Nat.le_of_ble_eq_true rfl, Nat.le_of_ble_eq_true rfl⟩) (mPreV (g := g) (wc := [(h0, .inr (22, [.int 0, .ref h1, .int 0, .ref h2, .int 0, .ref h3, .int 250, .ref h4, .int 0, .ref h5, .ref h6, .ref h7, .int 0, .ref h8, .ref h9, .ref h10, .int 0, .null, .int 0, .null, .int 0, .int 0, .int 0, .ref h11, .int 0, .ref h12, .ref h13, .ref h14, .int 0, .ref h15, .ref h16, .int 0]))]) (C := RX21) (ci := 22) (q0 := 0) hE hS hPc hDc hFc rfl rfl) rfl rfl hl.1 rfl (lv_room (Nat.le_of_ble_eq_true rfl)) dX21_ways_80 ⟨Nat.le_of_ble_eq_true rfl, Nat.le_of_ble_eq_true rfl⟩) hS (fun q _ h => hFc q h) hFc (fun r_4 u t H1 locs ht hvm hw hB hz1 hk1 hS => ?_)
  replace hw : 1 = r_4 := Eq.symm hw
  subst hw
  obtain ⟨hP1, hD1⟩ := hB
  rw [ht] at hP1
  obtain ⟨hP, hD⟩ := va_join (wr := []) (w1 := [(h0, .inr (22, [.int 1, .ref h1, .int 0, .ref h2, .int 0, .ref h3, .int 250, .ref h4, .int 0, .ref h5, .ref h6, .ref h7, .int 0, .ref h8, .ref h9, .ref h10, .int 0, .null, .int 0, .null, .int 0, .int 0, .int 0, .ref h11, .int 0, .ref h12, .ref h13, .ref h14, .int 0, .ref h15, .ref h16, .int 0]))]) hP hD [0] [] rfl rfl (by decide) (by decide) hk1 hFc hP1 hD1
  clear hP1 hD1 hPc hDc hFc hk1 hz1 hvm ht
  generalize H1 = H at hP hS ⊢
  have hP : va_P g.1 vwCl [(h0, .inr (22, [.int 1, .ref h1, .int 0, .ref h2, .int 0, .ref h3, .int 250, .ref h4, .int 0, .ref h5, .ref h6, .ref h7, .int 0, .ref h8, .ref h9, .ref h10, .int 0, .null, .int 0, .null, .int 0, .int 0, .int 0, .ref h11, .int 0, .ref h12, .ref h13, .ref h14, .int 0, .ref h15, .ref h16, .int 0]))] H := hP
  have hD : va_D A [(h0, .inr (22, [.int 1, .ref h1, .int 0, .ref h2, .int 0, .ref h3, .int 250, .ref h4, .int 0, .ref h5, .ref h6, .ref h7, .int 0, .ref h8, .ref h9, .ref h10, .int 0, .null, .int 0, .null, .int 0, .int 0, .int 0, .ref h11, .int 0, .ref h12, .ref h13, .ref h14, .int 0, .ref h15, .ref h16, .int 0]))] := hD
  refine lv_if_eq (tgt := 88) hx hb dX21_ways_83 (by decide) (fun c9 => absurd c9 (by decide)) (fun _ => ?_)
  refine lv_iconst (v := 0) hx hb dX21_ways_86 (by decide) ?_
  have hP9 := hP.sub (ws' := [(h0, .inr (22, [.int 1, .ref h1, .int 0, .ref h2, .int 0, .ref h3, .int 250, .ref h4, .int 0, .ref h5, .ref h6, .ref h7, .int 0, .ref h8, .ref h9, .ref h10, .int 0, .null, .int 0, .null, .int 0, .int 0, .int 0, .ref h11, .int 0, .ref h12, .ref h13, .ref h14, .int 0, .ref h15, .ref h16, .int 0]))]) [0] rfl
  have hD9 := hD.sub (ws' := [(h0, .inr (22, [.int 1, .ref h1, .int 0, .ref h2, .int 0, .ref h3, .int 250, .ref h4, .int 0, .ref h5, .ref h6, .ref h7, .int 0, .ref h8, .ref h9, .ref h10, .int 0, .null, .int 0, .null, .int 0, .int 0, .int 0, .ref h11, .int 0, .ref h12, .ref h13, .ref h14, .int 0, .ref h15, .ref h16, .int 0]))]) [0] (by decide) rfl
  subst hAe
  exact W.iret (v := 0) hx hb hr (fun t ht hW => ⟨⟨0, (), rfl, rfl, by rw [ht]; exact hP9, hD9⟩, hS.F ht⟩) hS.2.2 dX21_ways_87
def w9_X11_ways_7 : List Cond := [.code yX11_ways cX11_ways 4 (some .int), .methodLink RX11 124 yX11_needPattern, .instanceMethod yX11_needPattern, .selects RX11 yX11_needPattern yX11_needPattern, .initialized RX11, .code yX11_needPattern cX11_needPattern 2 none, .methodLink RX11 180 yX11_needPlace, .instanceMethod yX11_needPlace, .selects RX11 yX11_needPlace yX11_needPlace, .code yX11_needPlace cX11_needPlace 2 none, .fieldLink RX11 16 "Regexloom" "text" "LRegexloom$Text;", .methodLink RX11 146 yX10_size, .instanceMethod yX10_size, .selects RX10 yX10_size yX10_size, .initialized RX10, .code yX10_size cX10_size 1 (some .int), .fieldLink RX10 14 "Regexloom$Text" "codes" "LRegexloom$Table;", .methodLink RX10 20 yX9_size, .instanceMethod yX9_size, .selects RX9 yX9_size yX9_size, .initialized RX9, .code yX9_size cX9_size 1 (some .int), .fieldLink RX9 28 "Regexloom$Table" "size" "I", .methodLink RX11 206 yX11_needPlain, .instanceMethod yX11_needPlain, .selects RX11 yX11_needPlain yX11_needPlain, .code yX11_needPlain cX11_needPlain 2 none, .methodLink RX11 168 yX11_toldOne, .instanceMethod yX11_toldOne, .selects RX11 yX11_toldOne yX11_toldOne, .code yX11_toldOne cX11_toldOne 2 (some (.object "Regexloom$Pattern")), .fieldLink RX11 22 "Regexloom" "patterns" "[LRegexloom$Pattern;", .fieldLink RX11 133 "Regexloom$Pattern" "isTold" "Z", .initialized "java/lang/Throwable", .superclass "java/lang/Throwable" "java/lang/Object", .instanceMethod Bundle.tFill, .codeSync Bundle.tFill LibCode.Throwable.Fill.code 1 (some (.object "java/lang/Throwable")), .instanceMethod Bundle.tFill0, .native Bundle.tFill0, .instanceMethod Bundle.tInit0, .code Bundle.tInit0 LibCode.Throwable.Init0.code 1 none, .instanceMethod Bundle.oInit, .code Bundle.oInit ⟨#[0xb1]⟩ 1 none, .methodLink "java/lang/Throwable" 1 Bundle.oInit, .methodLink "java/lang/Throwable" 27 Bundle.tFill, .methodLink "java/lang/Throwable" 202 Bundle.tFill0, .fieldLink "java/lang/Throwable" 7 "java/lang/Throwable" "cause" "Ljava/lang/Throwable;", .lays "java/lang/Throwable" "java/lang/Throwable" "cause" "Ljava/lang/Throwable;", .fieldLink "java/lang/Throwable" 17 "java/lang/Throwable" "stackTrace" "[Ljava/lang/StackTraceElement;", .lays "java/lang/Throwable" "java/lang/Throwable" "stackTrace" "[Ljava/lang/StackTraceElement;", .fieldLink "java/lang/Throwable" 24 "java/lang/Throwable" "suppressedExceptions" "Ljava/util/List;", .lays "java/lang/Throwable" "java/lang/Throwable" "suppressedExceptions" "Ljava/util/List;", .fieldLink "java/lang/Throwable" 13 "java/lang/Throwable" "UNASSIGNED_STACK" "[Ljava/lang/StackTraceElement;", .fieldLink "java/lang/Throwable" 20 "java/lang/Throwable" "SUPPRESSED_SENTINEL" "Ljava/util/List;", .lays "java/lang/Throwable" "java/lang/Throwable" "detailMessage" "Ljava/lang/String;", .instanceMethod (Bundle.initS "java/lang/Throwable"), .code (Bundle.initS "java/lang/Throwable") LibCode.Throwable.InitS.code 2 none, .fieldLink "java/lang/Throwable" 31 "java/lang/Throwable" "detailMessage" "Ljava/lang/String;", .instanceMethod (Bundle.initS "java/lang/IllegalStateException"), .code (Bundle.initS "java/lang/IllegalStateException") Bundle.six 2 none, .methodLink "java/lang/IllegalStateException" 7 (Bundle.initS "java/lang/RuntimeException"), .instanceMethod (Bundle.initS "java/lang/RuntimeException"), .code (Bundle.initS "java/lang/RuntimeException") Bundle.six 2 none, .methodLink "java/lang/RuntimeException" 7 (Bundle.initS "java/lang/Exception"), .instanceMethod (Bundle.initS "java/lang/Exception"), .code (Bundle.initS "java/lang/Exception") Bundle.six 2 none, .methodLink "java/lang/Exception" 7 (Bundle.initS "java/lang/Throwable"), .methodLink RX11 123 (Bundle.initS "java/lang/IllegalStateException"), .instantiable "java/lang/IllegalStateException" 6, .selects "java/lang/IllegalStateException" Bundle.tFill0 Bundle.tFill0, .selects "java/lang/IllegalStateException" Bundle.tFill Bundle.tFill, .lays "java/lang/IllegalStateException" "java/lang/Throwable" "cause" "Ljava/lang/Throwable;", .lays "java/lang/IllegalStateException" "java/lang/Throwable" "stackTrace" "[Ljava/lang/StackTraceElement;", .lays "java/lang/IllegalStateException" "java/lang/Throwable" "suppressedExceptions" "Ljava/util/List;", .lays "java/lang/IllegalStateException" "java/lang/Throwable" "detailMessage" "Ljava/lang/String;", .fieldLink "java/lang/Throwable" 198 "java/lang/Throwable" "backtrace" "Ljava/lang/Object;", .lays "java/lang/Throwable" "java/lang/Throwable" "backtrace" "Ljava/lang/Object;", .lays "java/lang/IllegalStateException" "java/lang/Throwable" "backtrace" "Ljava/lang/Object;", .classLink RX11 119 "java/lang/IllegalStateException", .initialized "java/lang/IllegalStateException"] ++ (u_ws RX11 TX11 17 ++ u_ws RX10 TX10 1 ++ u_ws RX9 TX9 4 ++ u_ws RX3 TX3 8)
set_option maxRecDepth 20000 in
theorem in9_X11_ways_7_RX11 : ∀ w ∈ u_ws RX11 TX11 17, w ∈ w9_X11_ways_7 := by decide +kernel
set_option maxRecDepth 20000 in
theorem in9_X11_ways_7_RX10 : ∀ w ∈ u_ws RX10 TX10 1, w ∈ w9_X11_ways_7 := by decide +kernel
set_option maxRecDepth 20000 in
theorem in9_X11_ways_7_RX9 : ∀ w ∈ u_ws RX9 TX9 4, w ∈ w9_X11_ways_7 := by decide +kernel
set_option maxRecDepth 20000 in
theorem in9_X11_ways_7_RX3 : ∀ w ∈ u_ws RX3 TX3 8, w ∈ w9_X11_ways_7 := by decide +kernel
set_option maxRecDepth 20000 in
theorem g9_X11_ways_7_0 : GoodIn w9_X11_ways_7 (wsV RX11 124 RX11 yX11_needPattern w9_X11_needPattern_7) := goodIn_r _ [1, 2, 3, 4, 5] (by decide +kernel) (by decide +kernel)
set_option maxRecDepth 20000 in
theorem g9_X11_ways_7_1 : GoodIn w9_X11_ways_7 (wsV RX11 180 RX11 yX11_needPlace w9_X11_needPlace_3) := goodIn_r _ [6, 7, 8, 4, 9, 10, 11, 12, 13, 14, 15, 16, 17, 18, 19, 20, 21, 22, 80, 81, 82, 83, 84, 85, 86, 87, 88, 89, 90, 91, 92, 93, 94, 95, 96, 97, 98, 99, 100, 101] (by decide +kernel) (by decide +kernel)
set_option maxRecDepth 20000 in
theorem g9_X11_ways_7_2 : GoodIn w9_X11_ways_7 (wsV RX11 180 RX11 yX11_needPlace w9_X11_needPlace_3) := goodIn_r _ [6, 7, 8, 4, 9, 10, 11, 12, 13, 14, 15, 16, 17, 18, 19, 20, 21, 22, 80, 81, 82, 83, 84, 85, 86, 87, 88, 89, 90, 91, 92, 93, 94, 95, 96, 97, 98, 99, 100, 101] (by decide +kernel) (by decide +kernel)
set_option maxRecDepth 20000 in
theorem g9_X11_ways_7_3 : GoodIn w9_X11_ways_7 (wsV RX11 206 RX11 yX11_needPlain w9_X11_needPlain_1) := goodIn_r _ [23, 24, 25, 4, 26, 27, 28, 29, 4, 30, 31, 32, 33, 34, 35, 36, 37, 38, 39, 40, 41, 42, 43, 44, 45, 46, 47, 48, 49, 50, 51, 52, 53, 54, 55, 56, 57, 58, 59, 60, 61, 62, 63, 64, 65, 66, 67, 68, 69, 70, 71, 72, 73, 74, 75, 76, 77, 78, 79, 80, 81, 82, 83, 84, 85, 86, 87, 88, 89, 90, 91, 92, 93, 94, 95, 96, 102, 103, 104, 105, 106, 107, 108, 109] (by decide +kernel) (by decide +kernel)
set_option maxHeartbeats 4000000 in
set_option maxRecDepth 100000 in
theorem c9_X11_ways_7 (l : Launch) (hlt : l.stackTraces = false) (g : G9) (h0 h1 h2 h3 h4 h5 h6 h7 h8 h9 h10 h11 h12 h13 h14 h15 h16 h17 h18 h19 h20 h21 h22 h23 h24 h25 h26 h27 h28 h29 h30 h31 sz : Nat) (v0 : Int32) (k_v0 : 0 ≤ v0.toInt ∧ v0.toInt ≤ 3) : vx_Met l yX11_ways w9_X11_ways_7 ({ frames := 8, cells := 1, slots := 6, locals := 124 }) (mP g [(h0, .inr (12, [.ref h1, .int 0, .ref h2, .ref h3, .ref h4, .ref h5, .ref h6, .ref h7, .int (-1), .ref h8, .ref h9, .int 250, .ref h10, .int 0, .ref h11, .ref h12, .ref h13])), (h2, .inr (11, [.ref h14])), (h14, .inr (10, [.int 1, .int 20, .ref h15, .int 0])), (h3, .inl (g.2.1 3, 4, .inr (.inr (.inr (.inr (va_up (va_up (va_up (va_up (fun _ => none) 0 (some h16)) 1 (some h17)) 2 (some h18)) 3 (some h19))))))), (h16, .inr (6, [.ref h20, .ref h21, .ref h22, .int 0, .int 0, .int 0, .int 0, .int 0])), (h17, .inr (6, [.ref h23, .ref h24, .ref h25, .int 0, .int 0, .int 0, .int 0, .int 0])), (h18, .inr (6, [.ref h26, .ref h27, .ref h28, .int 0, .int 0, .int 0, .int 0, .int 0])), (h19, .inr (6, [.ref h29, .ref h30, .ref h31, .int 0, .int 0, .int 0, .int 0, .int 0]))] sz [.ref h0, .int v0, .int 0, .int 0]) (va_Qv (fun _ : Unit => False) (fun _ _ => True) (va_A [(h0, .inr (12, [.ref h1, .int 0, .ref h2, .ref h3, .ref h4, .ref h5, .ref h6, .ref h7, .int (-1), .ref h8, .ref h9, .int 250, .ref h10, .int 0, .ref h11, .ref h12, .ref h13])), (h2, .inr (11, [.ref h14])), (h14, .inr (10, [.int 1, .int 20, .ref h15, .int 0])), (h3, .inl (g.2.1 3, 4, .inr (.inr (.inr (.inr (va_up (va_up (va_up (va_up (fun _ => none) 0 (some h16)) 1 (some h17)) 2 (some h18)) 3 (some h19))))))), (h16, .inr (6, [.ref h20, .ref h21, .ref h22, .int 0, .int 0, .int 0, .int 0, .int 0])), (h17, .inr (6, [.ref h23, .ref h24, .ref h25, .int 0, .int 0, .int 0, .int 0, .int 0])), (h18, .inr (6, [.ref h26, .ref h27, .ref h28, .int 0, .int 0, .int 0, .int 0, .int 0])), (h19, .inr (6, [.ref h29, .ref h30, .ref h31, .int 0, .int 0, .int 0, .int 0, .int 0]))] sz)) (mT g [(h0, .inr (12, [.ref h1, .int 0, .ref h2, .ref h3, .ref h4, .ref h5, .ref h6, .ref h7, .int (-1), .ref h8, .ref h9, .int 250, .ref h10, .int 0, .ref h11, .ref h12, .ref h13])), (h2, .inr (11, [.ref h14])), (h14, .inr (10, [.int 1, .int 20, .ref h15, .int 0])), (h3, .inl (g.2.1 3, 4, .inr (.inr (.inr (.inr (va_up (va_up (va_up (va_up (fun _ => none) 0 (some h16)) 1 (some h17)) 2 (some h18)) 3 (some h19))))))), (h16, .inr (6, [.ref h20, .ref h21, .ref h22, .int 0, .int 0, .int 0, .int 0, .int 0])), (h17, .inr (6, [.ref h23, .ref h24, .ref h25, .int 0, .int 0, .int 0, .int 0, .int 0])), (h18, .inr (6, [.ref h26, .ref h27, .ref h28, .int 0, .int 0, .int 0, .int 0, .int 0])), (h19, .inr (6, [.ref h29, .ref h30, .ref h31, .int 0, .int 0, .int 0, .int 0, .int 0]))] sz "java/lang/IllegalStateException") 1 6 (va_A [(h0, .inr (12, [.ref h1, .int 0, .ref h2, .ref h3, .ref h4, .ref h5, .ref h6, .ref h7, .int (-1), .ref h8, .ref h9, .int 250, .ref h10, .int 0, .ref h11, .ref h12, .ref h13])), (h2, .inr (11, [.ref h14])), (h14, .inr (10, [.int 1, .int 20, .ref h15, .int 0])), (h3, .inl (g.2.1 3, 4, .inr (.inr (.inr (.inr (va_up (va_up (va_up (va_up (fun _ => none) 0 (some h16)) 1 (some h17)) 2 (some h18)) 3 (some h19))))))), (h16, .inr (6, [.ref h20, .ref h21, .ref h22, .int 0, .int 0, .int 0, .int 0, .int 0])), (h17, .inr (6, [.ref h23, .ref h24, .ref h25, .int 0, .int 0, .int 0, .int 0, .int 0])), (h18, .inr (6, [.ref h26, .ref h27, .ref h28, .int 0, .int 0, .int 0, .int 0, .int 0])), (h19, .inr (6, [.ref h29, .ref h30, .ref h31, .int 0, .int 0, .int 0, .int 0, .int 0]))] sz) := by
  refine vx_ofW (cc := cX11_ways) (maxL := 4) (ret := (some .int)) (by decide) rfl ?_
  intro p e s m args below meth c s₁ B hml hno hv
  obtain ⟨rfl, hsz, hP, hD0, hE⟩ := hv
  have hx := B.exec
  have hb := B.bytes
  have hr := B.returns
  have hts := atoms_spec (ws := w9_X11_ways_7) B.pre
  have hown : s.vm.findClass RX11 = some m.cls := findClass_of_methodNamed B.named
  have hlocks := B.notSynchronized
  subst hsz
  have hD := hD0.self (sz := s.heap.size)
  generalize hAe : va_A [(h0, .inr (12, [.ref h1, .int 0, .ref h2, .ref h3, .ref h4, .ref h5, .ref h6, .ref h7, .int (-1), .ref h8, .ref h9, .int 250, .ref h10, .int 0, .ref h11, .ref h12, .ref h13])), (h2, .inr (11, [.ref h14])), (h14, .inr (10, [.int 1, .int 20, .ref h15, .int 0])), (h3, .inl (g.2.1 3, 4, .inr (.inr (.inr (.inr (va_up (va_up (va_up (va_up (fun _ => none) 0 (some h16)) 1 (some h17)) 2 (some h18)) 3 (some h19))))))), (h16, .inr (6, [.ref h20, .ref h21, .ref h22, .int 0, .int 0, .int 0, .int 0, .int 0])), (h17, .inr (6, [.ref h23, .ref h24, .ref h25, .int 0, .int 0, .int 0, .int 0, .int 0])), (h18, .inr (6, [.ref h26, .ref h27, .ref h28, .int 0, .int 0, .int 0, .int 0, .int 0])), (h19, .inr (6, [.ref h29, .ref h30, .ref h31, .int 0, .int 0, .int 0, .int 0, .int 0]))] s.heap.size = A at hD hE ⊢
  have hA : ∀ q : Nat, s.heap.size ≤ q → A q := fun q h => by rw [← hAe]; exact Or.inr h
  have hK := hE.1
  have hS : va_S A s.heap s.heap [] := va_S.rf
  replace hP : va_P g.1 vwCl [(h0, .inr (12, [.ref h1, .int 0, .ref h2, .ref h3, .ref h4, .ref h5, .ref h6, .ref h7, .int (-1), .ref h8, .ref h9, .int 250, .ref h10, .int 0, .ref h11, .ref h12, .ref h13])), (h2, .inr (11, [.ref h14])), (h14, .inr (10, [.int 1, .int 20, .ref h15, .int 0])), (h3, .inl (g.2.1 3, 4, .inr (.inr (.inr (.inr (va_up (va_up (va_up (va_up (fun _ => none) 0 (some h16)) 1 (some h17)) 2 (some h18)) 3 (some h19))))))), (h16, .inr (6, [.ref h20, .ref h21, .ref h22, .int 0, .int 0, .int 0, .int 0, .int 0])), (h17, .inr (6, [.ref h23, .ref h24, .ref h25, .int 0, .int 0, .int 0, .int 0, .int 0])), (h18, .inr (6, [.ref h26, .ref h27, .ref h28, .int 0, .int 0, .int 0, .int 0, .int 0])), (h19, .inr (6, [.ref h29, .ref h30, .ref h31, .int 0, .int 0, .int 0, .int 0, .int 0]))] s.heap := hP
  have hl := lv_entry ([.ref h0, .int v0, .int 0, .int 0]) (n := 4) (Nat.le_of_ble_eq_true rfl)
  rw [lg_entry_eq]
  generalize (lg_sl ([.ref h0, .int v0, .int 0, .int 0]) ++ List.replicate (4 - (lg_sl ([.ref h0, .int v0, .int 0, .int 0])).length) Slot.unset).toArray = ls at hl ⊢
  replace hl : lv_has ls 4 [(0, .ref h0), (1, .int v0), (2, .int 0), (3, .int 0)] := hl
  have hH0 : s.heap.size ≤ s.heap.size := Nat.le_refl _
  refine lv_aload_n hx hb dX11_ways_0 rfl (lv_at hl 0 rfl) ?_
  refine lv_iload_n hx hb dX11_ways_1 rfl (lv_at hl 1 rfl) ?_
  have hPc := hP.sub (ws' := [(h0, .inr (12, [.ref h1, .int 0, .ref h2, .ref h3, .ref h4, .ref h5, .ref h6, .ref h7, .int (-1), .ref h8, .ref h9, .int 250, .ref h10, .int 0, .ref h11, .ref h12, .ref h13]))]) [0] rfl
  have hDc := hD.sub (ws' := [(h0, .inr (12, [.ref h1, .int 0, .ref h2, .ref h3, .ref h4, .ref h5, .ref h6, .ref h7, .int (-1), .ref h8, .ref h9, .int 250, .ref h10, .int 0, .ref h11, .ref h12, .ref h13]))]) [0] (by decide) rfl
  have hFc := va_free (wc := [(h0, .inr (12, [.ref h1, .int 0, .ref h2, .ref h3, .ref h4, .ref h5, .ref h6, .ref h7, .int (-1), .ref h8, .ref h9, .int 250, .ref h10, .int 0, .ref h11, .ref h12, .ref h13]))]) hD hS hA [0] rfl
  refine va_callv (va_runV (As := [.int v0]) (rest := []) ⟨hx, hb, hml, hown, hts⟩ (c9_X11_needPattern_7 l g h0 h1 h2 h3 h4 h5 h6 h7 h8 h9 h10 h11 h12 h13 _ v0 (by omega)) (cwV 1 hts g9_X11_ways_7_0 rfl rfl rfl (by decide +kernel) ⟨Nat.le_of_ble_eq_true rfl, Nat.le_of_ble_eq_true rfl⟩) (mPreV (g := g) (wc := [(h0, .inr (12, [.ref h1, .int 0, .ref h2, .ref h3, .ref h4, .ref h5, .ref h6, .ref h7, .int (-1), .ref h8, .ref h9, .int 250, .ref h10, .int 0, .ref h11, .ref h12, .ref h13]))]) (C := RX11) (ci := 12) (q0 := 0) hE hS hPc hDc hFc rfl rfl) rfl rfl hl.1 rfl (lv_room (Nat.le_of_ble_eq_true rfl)) dX11_ways_2 ⟨Nat.le_of_ble_eq_true rfl, Nat.le_of_ble_eq_true rfl⟩) hS (fun q _ h => hFc q h) hFc (fun u t H1 locs ht hvm hw hB hz1 hk1 hS => ?_)
  obtain ⟨hP1, hD1⟩ := hB
  rw [ht] at hP1
  obtain ⟨hP, hD⟩ := va_join (wr := [(h2, .inr (11, [.ref h14])), (h14, .inr (10, [.int 1, .int 20, .ref h15, .int 0])), (h3, .inl (g.2.1 3, 4, .inr (.inr (.inr (.inr (va_up (va_up (va_up (va_up (fun _ => none) 0 (some h16)) 1 (some h17)) 2 (some h18)) 3 (some h19))))))), (h16, .inr (6, [.ref h20, .ref h21, .ref h22, .int 0, .int 0, .int 0, .int 0, .int 0])), (h17, .inr (6, [.ref h23, .ref h24, .ref h25, .int 0, .int 0, .int 0, .int 0, .int 0])), (h18, .inr (6, [.ref h26, .ref h27, .ref h28, .int 0, .int 0, .int 0, .int 0, .int 0])), (h19, .inr (6, [.ref h29, .ref h30, .ref h31, .int 0, .int 0, .int 0, .int 0, .int 0]))]) (w1 := [(h0, .inr (12, [.ref h1, .int 0, .ref h2, .ref h3, .ref h4, .ref h5, .ref h6, .ref h7, .int (-1), .ref h8, .ref h9, .int 250, .ref h10, .int 0, .ref h11, .ref h12, .ref h13]))]) hP hD [0] [1, 2, 3, 4, 5, 6, 7] rfl rfl (by decide) (by decide) hk1 hFc hP1 hD1
  clear hP1 hD1 hPc hDc hFc hk1 hz1 hvm ht
  generalize H1 = H at hP hS ⊢
  have hP : va_P g.1 vwCl [(h2, .inr (11, [.ref h14])), (h14, .inr (10, [.int 1, .int 20, .ref h15, .int 0])), (h3, .inl (g.2.1 3, 4, .inr (.inr (.inr (.inr (va_up (va_up (va_up (va_up (fun _ => none) 0 (some h16)) 1 (some h17)) 2 (some h18)) 3 (some h19))))))), (h16, .inr (6, [.ref h20, .ref h21, .ref h22, .int 0, .int 0, .int 0, .int 0, .int 0])), (h17, .inr (6, [.ref h23, .ref h24, .ref h25, .int 0, .int 0, .int 0, .int 0, .int 0])), (h18, .inr (6, [.ref h26, .ref h27, .ref h28, .int 0, .int 0, .int 0, .int 0, .int 0])), (h19, .inr (6, [.ref h29, .ref h30, .ref h31, .int 0, .int 0, .int 0, .int 0, .int 0])), (h0, .inr (12, [.ref h1, .int 0, .ref h2, .ref h3, .ref h4, .ref h5, .ref h6, .ref h7, .int (-1), .ref h8, .ref h9, .int 250, .ref h10, .int 0, .ref h11, .ref h12, .ref h13]))] H := hP
  have hD : va_D A [(h2, .inr (11, [.ref h14])), (h14, .inr (10, [.int 1, .int 20, .ref h15, .int 0])), (h3, .inl (g.2.1 3, 4, .inr (.inr (.inr (.inr (va_up (va_up (va_up (va_up (fun _ => none) 0 (some h16)) 1 (some h17)) 2 (some h18)) 3 (some h19))))))), (h16, .inr (6, [.ref h20, .ref h21, .ref h22, .int 0, .int 0, .int 0, .int 0, .int 0])), (h17, .inr (6, [.ref h23, .ref h24, .ref h25, .int 0, .int 0, .int 0, .int 0, .int 0])), (h18, .inr (6, [.ref h26, .ref h27, .ref h28, .int 0, .int 0, .int 0, .int 0, .int 0])), (h19, .inr (6, [.ref h29, .ref h30, .ref h31, .int 0, .int 0, .int 0, .int 0, .int 0])), (h0, .inr (12, [.ref h1, .int 0, .ref h2, .ref h3, .ref h4, .ref h5, .ref h6, .ref h7, .int (-1), .ref h8, .ref h9, .int 250, .ref h10, .int 0, .ref h11, .ref h12, .ref h13]))] := hD
  refine lv_aload_n hx hb dX11_ways_5 rfl (lv_at hl 0 rfl) ?_
  refine lv_iload_n hx hb dX11_ways_6 rfl (lv_at hl 2 rfl) ?_
  have hPc := hP.sub (ws' := [(h2, .inr (11, [.ref h14])), (h14, .inr (10, [.int 1, .int 20, .ref h15, .int 0])), (h0, .inr (12, [.ref h1, .int 0, .ref h2, .ref h3, .ref h4, .ref h5, .ref h6, .ref h7, .int (-1), .ref h8, .ref h9, .int 250, .ref h10, .int 0, .ref h11, .ref h12, .ref h13]))]) [0, 1, 7] rfl
  have hDc := hD.sub (ws' := [(h2, .inr (11, [.ref h14])), (h14, .inr (10, [.int 1, .int 20, .ref h15, .int 0])), (h0, .inr (12, [.ref h1, .int 0, .ref h2, .ref h3, .ref h4, .ref h5, .ref h6, .ref h7, .int (-1), .ref h8, .ref h9, .int 250, .ref h10, .int 0, .ref h11, .ref h12, .ref h13]))]) [0, 1, 7] (by decide) rfl
  have hFc := va_free (wc := [(h2, .inr (11, [.ref h14])), (h14, .inr (10, [.int 1, .int 20, .ref h15, .int 0])), (h0, .inr (12, [.ref h1, .int 0, .ref h2, .ref h3, .ref h4, .ref h5, .ref h6, .ref h7, .int (-1), .ref h8, .ref h9, .int 250, .ref h10, .int 0, .ref h11, .ref h12, .ref h13]))]) hD hS hA [0, 1, 7] rfl
  refine va_callv (va_runV (As := [.int 0]) (rest := []) ⟨hx, hb, hml, hown, hts⟩ (c9_X11_needPlace_3 l g h0 h2 h14 h15 h1 h3 h4 h5 h6 h7 h8 h9 h10 h11 h12 h13 _) (cwV 1 hts g9_X11_ways_7_1 rfl rfl rfl (by decide +kernel) ⟨Nat.le_of_ble_eq_true rfl, Nat.le_of_ble_eq_true rfl⟩) (mPreV (g := g) (wc := [(h2, .inr (11, [.ref h14])), (h14, .inr (10, [.int 1, .int 20, .ref h15, .int 0])), (h0, .inr (12, [.ref h1, .int 0, .ref h2, .ref h3, .ref h4, .ref h5, .ref h6, .ref h7, .int (-1), .ref h8, .ref h9, .int 250, .ref h10, .int 0, .ref h11, .ref h12, .ref h13]))]) (C := RX11) (ci := 12) (q0 := 2) hE hS hPc hDc hFc rfl rfl) rfl rfl hl.1 rfl (lv_room (Nat.le_of_ble_eq_true rfl)) dX11_ways_7 ⟨Nat.le_of_ble_eq_true rfl, Nat.le_of_ble_eq_true rfl⟩) hS (fun q _ h => hFc q h) hFc (fun u t H1 locs ht hvm hw hB hz1 hk1 hS => ?_)
  obtain ⟨hP1, hD1⟩ := hB
  rw [ht] at hP1
  obtain ⟨hP, hD⟩ := va_join (wr := [(h3, .inl (g.2.1 3, 4, .inr (.inr (.inr (.inr (va_up (va_up (va_up (va_up (fun _ => none) 0 (some h16)) 1 (some h17)) 2 (some h18)) 3 (some h19))))))), (h16, .inr (6, [.ref h20, .ref h21, .ref h22, .int 0, .int 0, .int 0, .int 0, .int 0])), (h17, .inr (6, [.ref h23, .ref h24, .ref h25, .int 0, .int 0, .int 0, .int 0, .int 0])), (h18, .inr (6, [.ref h26, .ref h27, .ref h28, .int 0, .int 0, .int 0, .int 0, .int 0])), (h19, .inr (6, [.ref h29, .ref h30, .ref h31, .int 0, .int 0, .int 0, .int 0, .int 0]))]) (w1 := [(h2, .inr (11, [.ref h14])), (h14, .inr (10, [.int 1, .int 20, .ref h15, .int 0])), (h0, .inr (12, [.ref h1, .int 0, .ref h2, .ref h3, .ref h4, .ref h5, .ref h6, .ref h7, .int (-1), .ref h8, .ref h9, .int 250, .ref h10, .int 0, .ref h11, .ref h12, .ref h13]))]) hP hD [0, 1, 7] [2, 3, 4, 5, 6] rfl rfl (by decide) (by decide) hk1 hFc hP1 hD1
  clear hP1 hD1 hPc hDc hFc hk1 hz1 hvm ht
  generalize H1 = H at hP hS ⊢
  have hP : va_P g.1 vwCl [(h3, .inl (g.2.1 3, 4, .inr (.inr (.inr (.inr (va_up (va_up (va_up (va_up (fun _ => none) 0 (some h16)) 1 (some h17)) 2 (some h18)) 3 (some h19))))))), (h16, .inr (6, [.ref h20, .ref h21, .ref h22, .int 0, .int 0, .int 0, .int 0, .int 0])), (h17, .inr (6, [.ref h23, .ref h24, .ref h25, .int 0, .int 0, .int 0, .int 0, .int 0])), (h18, .inr (6, [.ref h26, .ref h27, .ref h28, .int 0, .int 0, .int 0, .int 0, .int 0])), (h19, .inr (6, [.ref h29, .ref h30, .ref h31, .int 0, .int 0, .int 0, .int 0, .int 0])), (h2, .inr (11, [.ref h14])), (h14, .inr (10, [.int 1, .int 20, .ref h15, .int 0])), (h0, .inr (12, [.ref h1, .int 0, .ref h2, .ref h3, .ref h4, .ref h5, .ref h6, .ref h7, .int (-1), .ref h8, .ref h9, .int 250, .ref h10, .int 0, .ref h11, .ref h12, .ref h13]))] H := hP
  have hD : va_D A [(h3, .inl (g.2.1 3, 4, .inr (.inr (.inr (.inr (va_up (va_up (va_up (va_up (fun _ => none) 0 (some h16)) 1 (some h17)) 2 (some h18)) 3 (some h19))))))), (h16, .inr (6, [.ref h20, .ref h21, .ref h22, .int 0, .int 0, .int 0, .int 0, .int 0])), (h17, .inr (6, [.ref h23, .ref h24, .ref h25, .int 0, .int 0, .int 0, .int 0, .int 0])), (h18, .inr (6, [.ref h26, .ref h27, .ref h28, .int 0, .int 0, .int 0, .int 0, .int 0])), (h19, .inr (6, [.ref h29, .ref h30, .ref h31, .int 0, .int 0, .int 0, .int 0, .int 0])), (h2, .inr (11, [.ref h14])), (h14, .inr (10, [.int 1, .int 20, .ref h15, .int 0])), (h0, .inr (12, [.ref h1, .int 0, .ref h2, .ref h3, .ref h4, .ref h5, .ref h6, .ref h7, .int (-1), .ref h8, .ref h9, .int 250, .ref h10, .int 0, .ref h11, .ref h12, .ref h13]))] := hD
  refine lv_aload_n hx hb dX11_ways_10 rfl (lv_at hl 0 rfl) ?_
  refine lv_iload_n hx hb dX11_ways_11 rfl (lv_at hl 3 rfl) ?_
  have hPc := hP.sub (ws' := [(h2, .inr (11, [.ref h14])), (h14, .inr (10, [.int 1, .int 20, .ref h15, .int 0])), (h0, .inr (12, [.ref h1, .int 0, .ref h2, .ref h3, .ref h4, .ref h5, .ref h6, .ref h7, .int (-1), .ref h8, .ref h9, .int 250, .ref h10, .int 0, .ref h11, .ref h12, .ref h13]))]) [5, 6, 7] rfl
  have hDc := hD.sub (ws' := [(h2, .inr (11, [.ref h14])), (h14, .inr (10, [.int 1, .int 20, .ref h15, .int 0])), (h0, .inr (12, [.ref h1, .int 0, .ref h2, .ref h3, .ref h4, .ref h5, .ref h6, .ref h7, .int (-1), .ref h8, .ref h9, .int 250, .ref h10, .int 0, .ref h11, .ref h12, .ref h13]))]) [5, 6, 7] (by decide) rfl
  have hFc := va_free (wc := [(h2, .inr (11, [.ref h14])), (h14, .inr (10, [.int 1, .int 20, .ref h15, .int 0])), (h0, .inr (12, [.ref h1, .int 0, .ref h2, .ref h3, .ref h4, .ref h5, .ref h6, .ref h7, .int (-1), .ref h8, .ref h9, .int 250, .ref h10, .int 0, .ref h11, .ref h12, .ref h13]))]) hD hS hA [5, 6, 7] rfl
  refine va_callv (va_runV (As := [.int 0]) (rest := []) ⟨hx, hb, hml, hown, hts⟩ (c9_X11_needPlace_3 l g h0 h2 h14 h15 h1 h3 h4 h5 h6 h7 h8 h9 h10 h11 h12 h13 _) (cwV 1 hts g9_X11_ways_7_2 rfl rfl rfl (by decide +kernel) ⟨Nat.le_of_ble_eq_true rfl, Nat.le_of_ble_eq_true rfl⟩) (mPreV (g := g) (wc := [(h2, .inr (11, [.ref h14])), (h14, .inr (10, [.int 1, .int 20, .ref h15, .int 0])), (h0, .inr (12, [.ref h1, .int 0, .ref h2, .ref h3, .ref h4, .ref h5, .ref h6, .ref h7, .int (-1), .ref h8, .ref h9, .int 250, .ref h10, .int 0, .ref h11, .ref h12, .ref h13]))]) (C := RX11) (ci := 12) (q0 := 2) hE hS hPc hDc hFc rfl rfl) rfl rfl hl.1 rfl (lv_room (Nat.le_of_ble_eq_true rfl)) dX11_ways_12 ⟨Nat.le_of_ble_eq_true rfl, Nat.le_of_ble_eq_true rfl⟩) hS (fun q _ h => hFc q h) hFc (fun u t H1 locs ht hvm hw hB hz1 hk1 hS => ?_)
  obtain ⟨hP1, hD1⟩ := hB
  rw [ht] at hP1
  obtain ⟨hP, hD⟩ := va_join (wr := [(h3, .inl (g.2.1 3, 4, .inr (.inr (.inr (.inr (va_up (va_up (va_up (va_up (fun _ => none) 0 (some h16)) 1 (some h17)) 2 (some h18)) 3 (some h19))))))), (h16, .inr (6, [.ref h20, .ref h21, .ref h22, .int 0, .int 0, .int 0, .int 0, .int 0])), (h17, .inr (6, [.ref h23, .ref h24, .ref h25, .int 0, .int 0, .int 0, .int 0, .int 0])), (h18, .inr (6, [.ref h26, .ref h27, .ref h28, .int 0, .int 0, .int 0, .int 0, .int 0])), (h19, .inr (6, [.ref h29, .ref h30, .ref h31, .int 0, .int 0, .int 0, .int 0, .int 0]))]) (w1 := [(h2, .inr (11, [.ref h14])), (h14, .inr (10, [.int 1, .int 20, .ref h15, .int 0])), (h0, .inr (12, [.ref h1, .int 0, .ref h2, .ref h3, .ref h4, .ref h5, .ref h6, .ref h7, .int (-1), .ref h8, .ref h9, .int 250, .ref h10, .int 0, .ref h11, .ref h12, .ref h13]))]) hP hD [5, 6, 7] [0, 1, 2, 3, 4] rfl rfl (by decide) (by decide) hk1 hFc hP1 hD1
  clear hP1 hD1 hPc hDc hFc hk1 hz1 hvm ht
  generalize H1 = H at hP hS ⊢
  have hP : va_P g.1 vwCl [(h3, .inl (g.2.1 3, 4, .inr (.inr (.inr (.inr (va_up (va_up (va_up (va_up (fun _ => none) 0 (some h16)) 1 (some h17)) 2 (some h18)) 3 (some h19))))))), (h16, .inr (6, [.ref h20, .ref h21, .ref h22, .int 0, .int 0, .int 0, .int 0, .int 0])), (h17, .inr (6, [.ref h23, .ref h24, .ref h25, .int 0, .int 0, .int 0, .int 0, .int 0])), (h18, .inr (6, [.ref h26, .ref h27, .ref h28, .int 0, .int 0, .int 0, .int 0, .int 0])), (h19, .inr (6, [.ref h29, .ref h30, .ref h31, .int 0, .int 0, .int 0, .int 0, .int 0])), (h2, .inr (11, [.ref h14])), (h14, .inr (10, [.int 1, .int 20, .ref h15, .int 0])), (h0, .inr (12, [.ref h1, .int 0, .ref h2, .ref h3, .ref h4, .ref h5, .ref h6, .ref h7, .int (-1), .ref h8, .ref h9, .int 250, .ref h10, .int 0, .ref h11, .ref h12, .ref h13]))] H := hP
  have hD : va_D A [(h3, .inl (g.2.1 3, 4, .inr (.inr (.inr (.inr (va_up (va_up (va_up (va_up (fun _ => none) 0 (some h16)) 1 (some h17)) 2 (some h18)) 3 (some h19))))))), (h16, .inr (6, [.ref h20, .ref h21, .ref h22, .int 0, .int 0, .int 0, .int 0, .int 0])), (h17, .inr (6, [.ref h23, .ref h24, .ref h25, .int 0, .int 0, .int 0, .int 0, .int 0])), (h18, .inr (6, [.ref h26, .ref h27, .ref h28, .int 0, .int 0, .int 0, .int 0, .int 0])), (h19, .inr (6, [.ref h29, .ref h30, .ref h31, .int 0, .int 0, .int 0, .int 0, .int 0])), (h2, .inr (11, [.ref h14])), (h14, .inr (10, [.int 1, .int 20, .ref h15, .int 0])), (h0, .inr (12, [.ref h1, .int 0, .ref h2, .ref h3, .ref h4, .ref h5, .ref h6, .ref h7, .int (-1), .ref h8, .ref h9, .int 250, .ref h10, .int 0, .ref h11, .ref h12, .ref h13]))] := hD
  refine lv_aload_n hx hb dX11_ways_15 rfl (lv_at hl 0 rfl) ?_
  refine lv_iload_n hx hb dX11_ways_16 rfl (lv_at hl 1 rfl) ?_
  have hPc := hP.sub (ws' := [(h3, .inl (g.2.1 3, 4, .inr (.inr (.inr (.inr (va_up (va_up (va_up (va_up (fun _ => none) 0 (some h16)) 1 (some h17)) 2 (some h18)) 3 (some h19))))))), (h16, .inr (6, [.ref h20, .ref h21, .ref h22, .int 0, .int 0, .int 0, .int 0, .int 0])), (h17, .inr (6, [.ref h23, .ref h24, .ref h25, .int 0, .int 0, .int 0, .int 0, .int 0])), (h18, .inr (6, [.ref h26, .ref h27, .ref h28, .int 0, .int 0, .int 0, .int 0, .int 0])), (h19, .inr (6, [.ref h29, .ref h30, .ref h31, .int 0, .int 0, .int 0, .int 0, .int 0])), (h0, .inr (12, [.ref h1, .int 0, .ref h2, .ref h3, .ref h4, .ref h5, .ref h6, .ref h7, .int (-1), .ref h8, .ref h9, .int 250, .ref h10, .int 0, .ref h11, .ref h12, .ref h13]))]) [0, 1, 2, 3, 4, 7] rfl
  have hDc := hD.sub (ws' := [(h3, .inl (g.2.1 3, 4, .inr (.inr (.inr (.inr (va_up (va_up (va_up (va_up (fun _ => none) 0 (some h16)) 1 (some h17)) 2 (some h18)) 3 (some h19))))))), (h16, .inr (6, [.ref h20, .ref h21, .ref h22, .int 0, .int 0, .int 0, .int 0, .int 0])), (h17, .inr (6, [.ref h23, .ref h24, .ref h25, .int 0, .int 0, .int 0, .int 0, .int 0])), (h18, .inr (6, [.ref h26, .ref h27, .ref h28, .int 0, .int 0, .int 0, .int 0, .int 0])), (h19, .inr (6, [.ref h29, .ref h30, .ref h31, .int 0, .int 0, .int 0, .int 0, .int 0])), (h0, .inr (12, [.ref h1, .int 0, .ref h2, .ref h3, .ref h4, .ref h5, .ref h6, .ref h7, .int (-1), .ref h8, .ref h9, .int 250, .ref h10, .int 0, .ref h11, .ref h12, .ref h13]))]) [0, 1, 2, 3, 4, 7] (by decide) rfl
  have hFc := va_free (wc := [(h3, .inl (g.2.1 3, 4, .inr (.inr (.inr (.inr (va_up (va_up (va_up (va_up (fun _ => none) 0 (some h16)) 1 (some h17)) 2 (some h18)) 3 (some h19))))))), (h16, .inr (6, [.ref h20, .ref h21, .ref h22, .int 0, .int 0, .int 0, .int 0, .int 0])), (h17, .inr (6, [.ref h23, .ref h24, .ref h25, .int 0, .int 0, .int 0, .int 0, .int 0])), (h18, .inr (6, [.ref h26, .ref h27, .ref h28, .int 0, .int 0, .int 0, .int 0, .int 0])), (h19, .inr (6, [.ref h29, .ref h30, .ref h31, .int 0, .int 0, .int 0, .int 0, .int 0])), (h0, .inr (12, [.ref h1, .int 0, .ref h2, .ref h3, .ref h4, .ref h5, .ref h6, .ref h7, .int (-1), .ref h8, .ref h9, .int 250, .ref h10, .int 0, .ref h11, .ref h12, .ref h13]))]) hD hS hA [0, 1, 2, 3, 4, 7] rfl
  refine vx_callv (vx_runV (As := [.int v0]) (rest := []) ⟨hx, hb, hml, hown, hts⟩ (c9_X11_needPlain_1 l hlt g h0 h3 h16 h17 h18 h19 h20 h21 h22 h23 h24 h25 h26 h27 h28 h29 h30 h31 h1 h2 h4 h5 h6 h7 h8 h9 h10 h11 h12 h13 _ v0 (by omega)) (cwV 1 hts g9_X11_ways_7_3 rfl rfl rfl (by decide +kernel) ⟨Nat.le_of_ble_eq_true rfl, Nat.le_of_ble_eq_true rfl⟩) (mPreV (g := g) (wc := [(h3, .inl (g.2.1 3, 4, .inr (.inr (.inr (.inr (va_up (va_up (va_up (va_up (fun _ => none) 0 (some h16)) 1 (some h17)) 2 (some h18)) 3 (some h19))))))), (h16, .inr (6, [.ref h20, .ref h21, .ref h22, .int 0, .int 0, .int 0, .int 0, .int 0])), (h17, .inr (6, [.ref h23, .ref h24, .ref h25, .int 0, .int 0, .int 0, .int 0, .int 0])), (h18, .inr (6, [.ref h26, .ref h27, .ref h28, .int 0, .int 0, .int 0, .int 0, .int 0])), (h19, .inr (6, [.ref h29, .ref h30, .ref h31, .int 0, .int 0, .int 0, .int 0, .int 0])), (h0, .inr (12, [.ref h1, .int 0, .ref h2, .ref h3, .ref h4, .ref h5, .ref h6, .ref h7, .int (-1), .ref h8, .ref h9, .int 250, .ref h10, .int 0, .ref h11, .ref h12, .ref h13]))]) (C := RX11) (ci := 12) (q0 := 5) hE hS hPc hDc hFc rfl rfl) rfl rfl hl.1 rfl (lv_room (Nat.le_of_ble_eq_true rfl)) dX11_ways_17 ⟨Nat.le_of_ble_eq_true rfl, Nat.le_of_ble_eq_true rfl⟩) hS (fun q _ h => hFc q h) hFc (fun q _ h => hFc q h) (fun E9 ce q9 u t H locs ht hvm hw hB hz1 hk1 hS hc1 hc2 hc3 => ?_) (fun u t H1 locs ht hvm hw hB hz1 hk1 hS => hw.elim)
  replace hB : E9 = "java/lang/IllegalStateException" := hB
  subst hB
  exact vx_out (fun z hz => (hno z hz).elim) hlocks hc1 hc2 hc3 (fun t ht hW => ⟨(), trivial, rfl, by subst hAe; exact hS.F ht⟩) (by subst hAe; exact hS.2.2) (Nat.le_of_ble_eq_true rfl) (Nat.le_of_ble_eq_true rfl)
def w9_L_ways_7 : List Cond := [.codeWith yL_ways cL_ways 6 (some .int) [(0, 12, 15, 21), (0, 12, 19, 15)], .methodLink RL 61 yX11_ways, .instanceMethod yX11_ways, .selects RX11 yX11_ways yX11_ways, .initialized RX11, .code yX11_ways cX11_ways 4 (some .int), .methodLink RX11 124 yX11_needPattern, .instanceMethod yX11_needPattern, .selects RX11 yX11_needPattern yX11_needPattern, .code yX11_needPattern cX11_needPattern 2 none, .methodLink RX11 180 yX11_needPlace, .instanceMethod yX11_needPlace, .selects RX11 yX11_needPlace yX11_needPlace, .code yX11_needPlace cX11_needPlace 2 none, .fieldLink RX11 16 "Regexloom" "text" "LRegexloom$Text;", .methodLink RX11 146 yX10_size, .instanceMethod yX10_size, .selects RX10 yX10_size yX10_size, .initialized RX10, .code yX10_size cX10_size 1 (some .int), .fieldLink RX10 14 "Regexloom$Text" "codes" "LRegexloom$Table;", .methodLink RX10 20 yX9_size, .instanceMethod yX9_size, .selects RX9 yX9_size yX9_size, .initialized RX9, .code yX9_size cX9_size 1 (some .int), .fieldLink RX9 28 "Regexloom$Table" "size" "I", .methodLink RX11 206 yX11_needPlain, .instanceMethod yX11_needPlain, .selects RX11 yX11_needPlain yX11_needPlain, .code yX11_needPlain cX11_needPlain 2 none, .methodLink RX11 168 yX11_toldOne, .instanceMethod yX11_toldOne, .selects RX11 yX11_toldOne yX11_toldOne, .code yX11_toldOne cX11_toldOne 2 (some (.object "Regexloom$Pattern")), .fieldLink RX11 22 "Regexloom" "patterns" "[LRegexloom$Pattern;", .fieldLink RX11 133 "Regexloom$Pattern" "isTold" "Z", .initialized "java/lang/Throwable", .superclass "java/lang/Throwable" "java/lang/Object", .instanceMethod Bundle.tFill, .codeSync Bundle.tFill LibCode.Throwable.Fill.code 1 (some (.object "java/lang/Throwable")), .instanceMethod Bundle.tFill0, .native Bundle.tFill0, .instanceMethod Bundle.tInit0, .code Bundle.tInit0 LibCode.Throwable.Init0.code 1 none, .instanceMethod Bundle.oInit, .code Bundle.oInit ⟨#[0xb1]⟩ 1 none, .methodLink "java/lang/Throwable" 1 Bundle.oInit, .methodLink "java/lang/Throwable" 27 Bundle.tFill, .methodLink "java/lang/Throwable" 202 Bundle.tFill0, .fieldLink "java/lang/Throwable" 7 "java/lang/Throwable" "cause" "Ljava/lang/Throwable;", .lays "java/lang/Throwable" "java/lang/Throwable" "cause" "Ljava/lang/Throwable;", .fieldLink "java/lang/Throwable" 17 "java/lang/Throwable" "stackTrace" "[Ljava/lang/StackTraceElement;", .lays "java/lang/Throwable" "java/lang/Throwable" "stackTrace" "[Ljava/lang/StackTraceElement;", .fieldLink "java/lang/Throwable" 24 "java/lang/Throwable" "suppressedExceptions" "Ljava/util/List;", .lays "java/lang/Throwable" "java/lang/Throwable" "suppressedExceptions" "Ljava/util/List;", .fieldLink "java/lang/Throwable" 13 "java/lang/Throwable" "UNASSIGNED_STACK" "[Ljava/lang/StackTraceElement;", .fieldLink "java/lang/Throwable" 20 "java/lang/Throwable" "SUPPRESSED_SENTINEL" "Ljava/util/List;", .lays "java/lang/Throwable" "java/lang/Throwable" "detailMessage" "Ljava/lang/String;", .instanceMethod (Bundle.initS "java/lang/Throwable"), .code (Bundle.initS "java/lang/Throwable") LibCode.Throwable.InitS.code 2 none, .fieldLink "java/lang/Throwable" 31 "java/lang/Throwable" "detailMessage" "Ljava/lang/String;", .instanceMethod (Bundle.initS "java/lang/IllegalStateException"), .code (Bundle.initS "java/lang/IllegalStateException") Bundle.six 2 none, .methodLink "java/lang/IllegalStateException" 7 (Bundle.initS "java/lang/RuntimeException"), .instanceMethod (Bundle.initS "java/lang/RuntimeException"), .code (Bundle.initS "java/lang/RuntimeException") Bundle.six 2 none, .methodLink "java/lang/RuntimeException" 7 (Bundle.initS "java/lang/Exception"), .instanceMethod (Bundle.initS "java/lang/Exception"), .code (Bundle.initS "java/lang/Exception") Bundle.six 2 none, .methodLink "java/lang/Exception" 7 (Bundle.initS "java/lang/Throwable"), .methodLink RX11 123 (Bundle.initS "java/lang/IllegalStateException"), .instantiable "java/lang/IllegalStateException" 6, .selects "java/lang/IllegalStateException" Bundle.tFill0 Bundle.tFill0, .selects "java/lang/IllegalStateException" Bundle.tFill Bundle.tFill, .lays "java/lang/IllegalStateException" "java/lang/Throwable" "cause" "Ljava/lang/Throwable;", .lays "java/lang/IllegalStateException" "java/lang/Throwable" "stackTrace" "[Ljava/lang/StackTraceElement;", .lays "java/lang/IllegalStateException" "java/lang/Throwable" "suppressedExceptions" "Ljava/util/List;", .lays "java/lang/IllegalStateException" "java/lang/Throwable" "detailMessage" "Ljava/lang/String;", .fieldLink "java/lang/Throwable" 198 "java/lang/Throwable" "backtrace" "Ljava/lang/Object;", .lays "java/lang/Throwable" "java/lang/Throwable" "backtrace" "Ljava/lang/Object;", .lays "java/lang/IllegalStateException" "java/lang/Throwable" "backtrace" "Ljava/lang/Object;", .classLink RX11 119 "java/lang/IllegalStateException", .initialized "java/lang/IllegalStateException", .classLink RL 21 "java/lang/IndexOutOfBoundsException", .classLink RL 15 "java/lang/IllegalStateException"] ++ (u_ws RX11 TX11 17 ++ u_ws RX10 TX10 1 ++ u_ws RX9 TX9 4 ++ u_ws RX3 TX3 8)
set_option maxRecDepth 20000 in
theorem in9_L_ways_7_RX11 : ∀ w ∈ u_ws RX11 TX11 17, w ∈ w9_L_ways_7 := by decide +kernel
set_option maxRecDepth 20000 in
theorem in9_L_ways_7_RX10 : ∀ w ∈ u_ws RX10 TX10 1, w ∈ w9_L_ways_7 := by decide +kernel
set_option maxRecDepth 20000 in
theorem in9_L_ways_7_RX9 : ∀ w ∈ u_ws RX9 TX9 4, w ∈ w9_L_ways_7 := by decide +kernel
set_option maxRecDepth 20000 in
theorem in9_L_ways_7_RX3 : ∀ w ∈ u_ws RX3 TX3 8, w ∈ w9_L_ways_7 := by decide +kernel
set_option maxRecDepth 20000 in
theorem g9_L_ways_7_0 : GoodIn w9_L_ways_7 (wsV RL 61 RX11 yX11_ways w9_X11_ways_7) := goodIn_r _ [1, 2, 3, 4, 5, 6, 7, 8, 4, 9, 10, 11, 12, 13, 14, 15, 16, 17, 18, 19, 20, 21, 22, 23, 24, 25, 26, 27, 28, 29, 30, 31, 32, 33, 34, 35, 36, 37, 38, 39, 40, 41, 42, 43, 44, 45, 46, 47, 48, 49, 50, 51, 52, 53, 54, 55, 56, 57, 58, 59, 60, 61, 62, 63, 64, 65, 66, 67, 68, 69, 70, 71, 72, 73, 74, 75, 76, 77, 78, 79, 80, 81, 82, 83, 86, 87, 88, 89, 90, 91, 92, 93, 94, 95, 96, 97, 98, 99, 100, 101, 102, 103, 104, 105, 106, 107, 108, 109, 110, 111, 112, 113, 114, 115] (by decide +kernel) (by decide +kernel)
set_option maxHeartbeats 4000000 in
set_option maxRecDepth 100000 in
theorem c9_L_ways_7 (l : Launch) (hlt : l.stackTraces = false) (g : G9) (h0 h1 h2 h3 h4 h5 h6 h7 h8 h9 h10 h11 h12 h13 h14 h15 h16 h17 h18 h19 h20 h21 h22 h23 h24 h25 h26 h27 h28 h29 h30 h31 h32 sz : Nat) (v0 : Int32) (k_v0 : 0 ≤ v0.toInt ∧ v0.toInt ≤ 3) : Met l yL_ways w9_L_ways_7 ({ frames := 9, cells := 1, slots := 6, locals := 147 }) (mP g [(h0, .inr (12, [.ref h2, .int 0, .ref h3, .ref h4, .ref h5, .ref h6, .ref h7, .ref h8, .int (-1), .ref h9, .ref h10, .int 250, .ref h11, .int 0, .ref h12, .ref h13, .ref h14])), (h3, .inr (11, [.ref h15])), (h15, .inr (10, [.int 1, .int 20, .ref h16, .int 0])), (h4, .inl (g.2.1 3, 4, .inr (.inr (.inr (.inr (va_up (va_up (va_up (va_up (fun _ => none) 0 (some h17)) 1 (some h18)) 2 (some h19)) 3 (some h20))))))), (h17, .inr (6, [.ref h21, .ref h22, .ref h23, .int 0, .int 0, .int 0, .int 0, .int 0])), (h18, .inr (6, [.ref h24, .ref h25, .ref h26, .int 0, .int 0, .int 0, .int 0, .int 0])), (h19, .inr (6, [.ref h27, .ref h28, .ref h29, .int 0, .int 0, .int 0, .int 0, .int 0])), (h20, .inr (6, [.ref h30, .ref h31, .ref h32, .int 0, .int 0, .int 0, .int 0, .int 0]))] sz [.ref h0, .int v0, .int 0, .int 0, .ref h1]) (va_Qi (fun (r : Int32) (_ : Unit) => r = 2) (fun (_ : Unit) (t : State) => mB g [(h0, .inr (12, [.ref h2, .int 0, .ref h3, .ref h4, .ref h5, .ref h6, .ref h7, .ref h8, .int (-1), .ref h9, .ref h10, .int 250, .ref h11, .int 0, .ref h12, .ref h13, .ref h14])), (h3, .inr (11, [.ref h15])), (h15, .inr (10, [.int 1, .int 20, .ref h16, .int 0])), (h4, .inl (g.2.1 3, 4, .inr (.inr (.inr (.inr (va_up (va_up (va_up (va_up (fun _ => none) 0 (some h17)) 1 (some h18)) 2 (some h19)) 3 (some h20))))))), (h17, .inr (6, [.ref h21, .ref h22, .ref h23, .int 0, .int 0, .int 0, .int 0, .int 0])), (h18, .inr (6, [.ref h24, .ref h25, .ref h26, .int 0, .int 0, .int 0, .int 0, .int 0])), (h19, .inr (6, [.ref h27, .ref h28, .ref h29, .int 0, .int 0, .int 0, .int 0, .int 0])), (h20, .inr (6, [.ref h30, .ref h31, .ref h32, .int 0, .int 0, .int 0, .int 0, .int 0]))] sz [] t) (va_A [(h0, .inr (12, [.ref h2, .int 0, .ref h3, .ref h4, .ref h5, .ref h6, .ref h7, .ref h8, .int (-1), .ref h9, .ref h10, .int 250, .ref h11, .int 0, .ref h12, .ref h13, .ref h14])), (h3, .inr (11, [.ref h15])), (h15, .inr (10, [.int 1, .int 20, .ref h16, .int 0])), (h4, .inl (g.2.1 3, 4, .inr (.inr (.inr (.inr (va_up (va_up (va_up (va_up (fun _ => none) 0 (some h17)) 1 (some h18)) 2 (some h19)) 3 (some h20))))))), (h17, .inr (6, [.ref h21, .ref h22, .ref h23, .int 0, .int 0, .int 0, .int 0, .int 0])), (h18, .inr (6, [.ref h24, .ref h25, .ref h26, .int 0, .int 0, .int 0, .int 0, .int 0])), (h19, .inr (6, [.ref h27, .ref h28, .ref h29, .int 0, .int 0, .int 0, .int 0, .int 0])), (h20, .inr (6, [.ref h30, .ref h31, .ref h32, .int 0, .int 0, .int 0, .int 0, .int 0]))] sz)) 1 6 (va_A [(h0, .inr (12, [.ref h2, .int 0, .ref h3, .ref h4, .ref h5, .ref h6, .ref h7, .ref h8, .int (-1), .ref h9, .ref h10, .int 250, .ref h11, .int 0, .ref h12, .ref h13, .ref h14])), (h3, .inr (11, [.ref h15])), (h15, .inr (10, [.int 1, .int 20, .ref h16, .int 0])), (h4, .inl (g.2.1 3, 4, .inr (.inr (.inr (.inr (va_up (va_up (va_up (va_up (fun _ => none) 0 (some h17)) 1 (some h18)) 2 (some h19)) 3 (some h20))))))), (h17, .inr (6, [.ref h21, .ref h22, .ref h23, .int 0, .int 0, .int 0, .int 0, .int 0])), (h18, .inr (6, [.ref h24, .ref h25, .ref h26, .int 0, .int 0, .int 0, .int 0, .int 0])), (h19, .inr (6, [.ref h27, .ref h28, .ref h29, .int 0, .int 0, .int 0, .int 0, .int 0])), (h20, .inr (6, [.ref h30, .ref h31, .ref h32, .int 0, .int 0, .int 0, .int 0, .int 0]))] sz) := by
  refine va_MetW (cc := cL_ways) (maxL := 6) (ret := (some .int)) (by decide) rfl ?_
  intro p e s m args below meth c s₁ B hml hv
  obtain ⟨rfl, hsz, hP, hD0, hE⟩ := hv
  have hx := B.exec
  have hb := B.bytes
  have hr := B.returns
  have hts := atoms_spec (ws := w9_L_ways_7) B.pre
  have hown : s.vm.findClass RL = some m.cls := findClass_of_methodNamed B.named
  have hlocks := B.notSynchronized
  have htab := vx_table (x := yL_ways) B (hts (.codeWith yL_ways cL_ways 6 (some .int) [(0, 12, 15, 21), (0, 12, 19, 15)]) (List.mem_of_getElem? (i := 0) rfl))
  subst hsz
  have hD := hD0.self (sz := s.heap.size)
  generalize hAe : va_A [(h0, .inr (12, [.ref h2, .int 0, .ref h3, .ref h4, .ref h5, .ref h6, .ref h7, .ref h8, .int (-1), .ref h9, .ref h10, .int 250, .ref h11, .int 0, .ref h12, .ref h13, .ref h14])), (h3, .inr (11, [.ref h15])), (h15, .inr (10, [.int 1, .int 20, .ref h16, .int 0])), (h4, .inl (g.2.1 3, 4, .inr (.inr (.inr (.inr (va_up (va_up (va_up (va_up (fun _ => none) 0 (some h17)) 1 (some h18)) 2 (some h19)) 3 (some h20))))))), (h17, .inr (6, [.ref h21, .ref h22, .ref h23, .int 0, .int 0, .int 0, .int 0, .int 0])), (h18, .inr (6, [.ref h24, .ref h25, .ref h26, .int 0, .int 0, .int 0, .int 0, .int 0])), (h19, .inr (6, [.ref h27, .ref h28, .ref h29, .int 0, .int 0, .int 0, .int 0, .int 0])), (h20, .inr (6, [.ref h30, .ref h31, .ref h32, .int 0, .int 0, .int 0, .int 0, .int 0]))] s.heap.size = A at hD hE ⊢
  have hA : ∀ q : Nat, s.heap.size ≤ q → A q := fun q h => by rw [← hAe]; exact Or.inr h
  have hK := hE.1
  have hS : va_S A s.heap s.heap [] := va_S.rf
  replace hP : va_P g.1 vwCl [(h0, .inr (12, [.ref h2, .int 0, .ref h3, .ref h4, .ref h5, .ref h6, .ref h7, .ref h8, .int (-1), .ref h9, .ref h10, .int 250, .ref h11, .int 0, .ref h12, .ref h13, .ref h14])), (h3, .inr (11, [.ref h15])), (h15, .inr (10, [.int 1, .int 20, .ref h16, .int 0])), (h4, .inl (g.2.1 3, 4, .inr (.inr (.inr (.inr (va_up (va_up (va_up (va_up (fun _ => none) 0 (some h17)) 1 (some h18)) 2 (some h19)) 3 (some h20))))))), (h17, .inr (6, [.ref h21, .ref h22, .ref h23, .int 0, .int 0, .int 0, .int 0, .int 0])), (h18, .inr (6, [.ref h24, .ref h25, .ref h26, .int 0, .int 0, .int 0, .int 0, .int 0])), (h19, .inr (6, [.ref h27, .ref h28, .ref h29, .int 0, .int 0, .int 0, .int 0, .int 0])), (h20, .inr (6, [.ref h30, .ref h31, .ref h32, .int 0, .int 0, .int 0, .int 0, .int 0]))] s.heap := hP
  have hl := lv_entry ([.ref h0, .int v0, .int 0, .int 0, .ref h1]) (n := 6) (Nat.le_of_ble_eq_true rfl)
  rw [lg_entry_eq]
  generalize (lg_sl ([.ref h0, .int v0, .int 0, .int 0, .ref h1]) ++ List.replicate (6 - (lg_sl ([.ref h0, .int v0, .int 0, .int 0, .ref h1])).length) Slot.unset).toArray = ls at hl ⊢
  replace hl : lv_has ls 6 [(0, .ref h0), (1, .int v0), (2, .int 0), (3, .int 0), (4, .ref h1)] := hl
  have hH0 : s.heap.size ≤ s.heap.size := Nat.le_refl _
  refine lv_aload hx hb dL_ways_0 (lv_at hl 4 rfl) ?_
  refine lv_iconst (v := 0) hx hb dL_ways_2 (by decide) ?_
  refine lv_aload_n hx hb dL_ways_3 rfl (lv_at hl 0 rfl) ?_
  refine lv_iload_n hx hb dL_ways_4 rfl (lv_at hl 1 rfl) ?_
  refine lv_iload_n hx hb dL_ways_5 rfl (lv_at hl 2 rfl) ?_
  refine lv_iload_n hx hb dL_ways_6 rfl (lv_at hl 3 rfl) ?_
  have hPc := hP.sub (ws' := [(h0, .inr (12, [.ref h2, .int 0, .ref h3, .ref h4, .ref h5, .ref h6, .ref h7, .ref h8, .int (-1), .ref h9, .ref h10, .int 250, .ref h11, .int 0, .ref h12, .ref h13, .ref h14])), (h3, .inr (11, [.ref h15])), (h15, .inr (10, [.int 1, .int 20, .ref h16, .int 0])), (h4, .inl (g.2.1 3, 4, .inr (.inr (.inr (.inr (va_up (va_up (va_up (va_up (fun _ => none) 0 (some h17)) 1 (some h18)) 2 (some h19)) 3 (some h20))))))), (h17, .inr (6, [.ref h21, .ref h22, .ref h23, .int 0, .int 0, .int 0, .int 0, .int 0])), (h18, .inr (6, [.ref h24, .ref h25, .ref h26, .int 0, .int 0, .int 0, .int 0, .int 0])), (h19, .inr (6, [.ref h27, .ref h28, .ref h29, .int 0, .int 0, .int 0, .int 0, .int 0])), (h20, .inr (6, [.ref h30, .ref h31, .ref h32, .int 0, .int 0, .int 0, .int 0, .int 0]))]) [0, 1, 2, 3, 4, 5, 6, 7] rfl
  have hDc := hD.sub (ws' := [(h0, .inr (12, [.ref h2, .int 0, .ref h3, .ref h4, .ref h5, .ref h6, .ref h7, .ref h8, .int (-1), .ref h9, .ref h10, .int 250, .ref h11, .int 0, .ref h12, .ref h13, .ref h14])), (h3, .inr (11, [.ref h15])), (h15, .inr (10, [.int 1, .int 20, .ref h16, .int 0])), (h4, .inl (g.2.1 3, 4, .inr (.inr (.inr (.inr (va_up (va_up (va_up (va_up (fun _ => none) 0 (some h17)) 1 (some h18)) 2 (some h19)) 3 (some h20))))))), (h17, .inr (6, [.ref h21, .ref h22, .ref h23, .int 0, .int 0, .int 0, .int 0, .int 0])), (h18, .inr (6, [.ref h24, .ref h25, .ref h26, .int 0, .int 0, .int 0, .int 0, .int 0])), (h19, .inr (6, [.ref h27, .ref h28, .ref h29, .int 0, .int 0, .int 0, .int 0, .int 0])), (h20, .inr (6, [.ref h30, .ref h31, .ref h32, .int 0, .int 0, .int 0, .int 0, .int 0]))]) [0, 1, 2, 3, 4, 5, 6, 7] (by decide) rfl
  have hFc := va_free (wc := [(h0, .inr (12, [.ref h2, .int 0, .ref h3, .ref h4, .ref h5, .ref h6, .ref h7, .ref h8, .int (-1), .ref h9, .ref h10, .int 250, .ref h11, .int 0, .ref h12, .ref h13, .ref h14])), (h3, .inr (11, [.ref h15])), (h15, .inr (10, [.int 1, .int 20, .ref h16, .int 0])), (h4, .inl (g.2.1 3, 4, .inr (.inr (.inr (.inr (va_up (va_up (va_up (va_up (fun _ => none) 0 (some h17)) 1 (some h18)) 2 (some h19)) 3 (some h20))))))), (h17, .inr (6, [.ref h21, .ref h22, .ref h23, .int 0, .int 0, .int 0, .int 0, .int 0])), (h18, .inr (6, [.ref h24, .ref h25, .ref h26, .int 0, .int 0, .int 0, .int 0, .int 0])), (h19, .inr (6, [.ref h27, .ref h28, .ref h29, .int 0, .int 0, .int 0, .int 0, .int 0])), (h20, .inr (6, [.ref h30, .ref h31, .ref h32, .int 0, .int 0, .int 0, .int 0, .int 0]))]) hD hS hA [0, 1, 2, 3, 4, 5, 6, 7] rfl
  refine vx_callv (vx_runV (As := [.int v0, .int 0, .int 0]) (rest := [.int 0, .ref h1]) ⟨hx, hb, hml, hown, hts⟩ (c9_X11_ways_7 l hlt g h0 h2 h3 h4 h5 h6 h7 h8 h9 h10 h11 h12 h13 h14 h15 h16 h17 h18 h19 h20 h21 h22 h23 h24 h25 h26 h27 h28 h29 h30 h31 h32 _ v0 (by omega)) (cwV 3 hts g9_L_ways_7_0 rfl rfl rfl (by decide +kernel) ⟨Nat.le_of_ble_eq_true rfl, Nat.le_of_ble_eq_true rfl⟩) (mPreV (g := g) (wc := [(h0, .inr (12, [.ref h2, .int 0, .ref h3, .ref h4, .ref h5, .ref h6, .ref h7, .ref h8, .int (-1), .ref h9, .ref h10, .int 250, .ref h11, .int 0, .ref h12, .ref h13, .ref h14])), (h3, .inr (11, [.ref h15])), (h15, .inr (10, [.int 1, .int 20, .ref h16, .int 0])), (h4, .inl (g.2.1 3, 4, .inr (.inr (.inr (.inr (va_up (va_up (va_up (va_up (fun _ => none) 0 (some h17)) 1 (some h18)) 2 (some h19)) 3 (some h20))))))), (h17, .inr (6, [.ref h21, .ref h22, .ref h23, .int 0, .int 0, .int 0, .int 0, .int 0])), (h18, .inr (6, [.ref h24, .ref h25, .ref h26, .int 0, .int 0, .int 0, .int 0, .int 0])), (h19, .inr (6, [.ref h27, .ref h28, .ref h29, .int 0, .int 0, .int 0, .int 0, .int 0])), (h20, .inr (6, [.ref h30, .ref h31, .ref h32, .int 0, .int 0, .int 0, .int 0, .int 0]))]) (C := RX11) (ci := 12) (q0 := 0) hE hS hPc hDc hFc rfl rfl) rfl rfl hl.1 rfl (lv_room (Nat.le_of_ble_eq_true rfl)) dL_ways_7 ⟨Nat.le_of_ble_eq_true rfl, Nat.le_of_ble_eq_true rfl⟩) hS (fun q _ h => hFc q h) hFc (fun q _ h => hFc q h) (fun E9 ce q9 u t H locs ht hvm hw hB hz1 hk1 hS hc1 hc2 hc3 => ?_) (fun u t H1 locs ht hvm hw hB hz1 hk1 hS => hw.elim)
  replace hB : E9 = "java/lang/IllegalStateException" := hB
  subst hB
  obtain ⟨hP, hD⟩ := va_join (wr := []) (w1 := []) hP hD [0, 1, 2, 3, 4, 5, 6, 7] [] rfl rfl (by decide) (by decide) hk1 hFc (fun k q h => by simp at h) ⟨fun i j p q h => by simp at h, fun k q h => by simp at h⟩
  have hP : va_P g.1 vwCl [] H := hP
  have hD : va_D A [] := hD
  refine vx_catch (own := RL) (name := "java/lang/IllegalStateException") hown [⟨0, 12, 15, 21⟩] ⟨0, 12, 19, 15⟩ [] (by rw [htab]; rfl) (fun z hz => by rcases List.mem_singleton.mp hz with rfl; exact Or.inr ⟨by decide, "java/lang/IndexOutOfBoundsException", (hts (.classLink RL 21 "java/lang/IndexOutOfBoundsException") (List.mem_of_getElem? (i := 84) rfl)), hE.nc ("java/lang/IllegalStateException", "java/lang/IndexOutOfBoundsException") (by decide)⟩) (by decide) (by decide) (hts (.classLink RL 15 "java/lang/IllegalStateException") (List.mem_of_getElem? (i := 85) rfl)) (va_Nw.use rfl (hE.cast ("java/lang/IllegalStateException", "java/lang/IllegalStateException") (by decide))) hc1 hc2 hc3 ?_
  refine lv_astore (lv' := [(5, .ref q9), (0, .ref h0), (1, .int v0), (2, .int 0), (3, .int 0), (4, .ref h1)]) hx hb dL_ways_19 hl (by decide) rfl (fun ls hl => ?_)
  refine lv_iconst (v := 2) hx hb dL_ways_21 (by decide) ?_
  have hP9 := hP.sub (ws' := []) [] rfl
  have hD9 := hD.sub (ws' := []) [] (by decide) rfl
  subst hAe
  exact W.iret (v := 2) hx hb hr (fun t ht hW => ⟨⟨2, (), rfl, rfl, by rw [ht]; exact hP9, hD9⟩, hS.F ht⟩) hS.2.2 dL_ways_22
def w9_X21_ways_7 : List Cond := [.code yX21_ways cX21_ways 7 (some .int), .methodLink RX21 160 yX21_in, .static yX21_in, .initialized RX21, .code yX21_in cX21_in 3 (some .boolean), .fieldLink RX21 196 "RegexloomModel" "length" "I", .fieldLink RX21 90 "RegexloomModel" "patterns" "[LRegexloomModel$Pattern;", .methodLink RX21 154 yX21_refused, .instanceMethod yX21_refused, .selects RX21 yX21_refused yX21_refused, .code yX21_refused cX21_refused 2 (some .boolean), .fieldLink RX21 144 "RegexloomModel" "refusal" "I"] ++ (u_ws RX21 TX21 32)
set_option maxRecDepth 20000 in
theorem in9_X21_ways_7_RX21 : ∀ w ∈ u_ws RX21 TX21 32, w ∈ w9_X21_ways_7 := by decide +kernel
set_option maxRecDepth 20000 in
theorem g9_X21_ways_7_0 : GoodIn w9_X21_ways_7 (va_wsS RX21 160 yX21_in w9_X21_in_7) := goodIn_r _ [1, 2, 3, 4] (by decide +kernel) (by decide +kernel)
set_option maxRecDepth 20000 in
theorem g9_X21_ways_7_1 : GoodIn w9_X21_ways_7 (va_wsS RX21 160 yX21_in w9_X21_in_13) := goodIn_r _ [1, 2, 3, 4] (by decide +kernel) (by decide +kernel)
set_option maxRecDepth 20000 in
theorem g9_X21_ways_7_2 : GoodIn w9_X21_ways_7 (va_wsS RX21 160 yX21_in w9_X21_in_13) := goodIn_r _ [1, 2, 3, 4] (by decide +kernel) (by decide +kernel)
set_option maxRecDepth 20000 in
theorem g9_X21_ways_7_3 : GoodIn w9_X21_ways_7 (wsV RX21 154 RX21 yX21_refused w9_X21_refused_3) := goodIn_r _ [7, 8, 9, 3, 10, 11, 12, 13, 14, 15, 16, 17, 18, 19, 20, 21, 22, 23, 24, 25, 26, 27, 28, 29, 30, 31, 32, 33, 34, 35, 36, 37, 38, 39, 40, 41, 42, 43] (by decide +kernel) (by decide +kernel)
set_option maxRecDepth 20000 in
theorem g9_X21_ways_7_4 : GoodIn w9_X21_ways_7 (wsV RX21 154 RX21 yX21_refused w9_X21_refused_3) := goodIn_r _ [7, 8, 9, 3, 10, 11, 12, 13, 14, 15, 16, 17, 18, 19, 20, 21, 22, 23, 24, 25, 26, 27, 28, 29, 30, 31, 32, 33, 34, 35, 36, 37, 38, 39, 40, 41, 42, 43] (by decide +kernel) (by decide +kernel)
set_option maxRecDepth 20000 in
theorem g9_X21_ways_7_5 : GoodIn w9_X21_ways_7 (wsV RX21 154 RX21 yX21_refused w9_X21_refused_3) := goodIn_r _ [7, 8, 9, 3, 10, 11, 12, 13, 14, 15, 16, 17, 18, 19, 20, 21, 22, 23, 24, 25, 26, 27, 28, 29, 30, 31, 32, 33, 34, 35, 36, 37, 38, 39, 40, 41, 42, 43] (by decide +kernel) (by decide +kernel)
set_option maxRecDepth 20000 in
theorem g9_X21_ways_7_6 : GoodIn w9_X21_ways_7 (wsV RX21 154 RX21 yX21_refused w9_X21_refused_3) := goodIn_r _ [7, 8, 9, 3, 10, 11, 12, 13, 14, 15, 16, 17, 18, 19, 20, 21, 22, 23, 24, 25, 26, 27, 28, 29, 30, 31, 32, 33, 34, 35, 36, 37, 38, 39, 40, 41, 42, 43] (by decide +kernel) (by decide +kernel)
set_option maxHeartbeats 4000000 in
set_option maxRecDepth 100000 in
theorem c9_X21_ways_7 (l : Launch) (g : G9) (h0 h1 h2 h3 h4 h5 h6 h7 h8 h9 h10 h11 h12 h13 h14 h15 h16 sz : Nat) (v0 : Int32) (k_v0 : 0 ≤ v0.toInt ∧ v0.toInt ≤ 3) : Met l yX21_ways w9_X21_ways_7 ({ frames := 1, cells := 0, slots := 0, locals := 22 }) (mP g [(h0, .inr (22, [.int 0, .ref h1, .int 0, .ref h2, .int 0, .ref h3, .int 250, .ref h4, .int 0, .ref h5, .ref h6, .ref h7, .int 0, .ref h8, .ref h9, .ref h10, .int 0, .null, .int 0, .null, .int 0, .int 0, .int 0, .ref h11, .int 0, .ref h12, .ref h13, .ref h14, .int 0, .ref h15, .ref h16, .int 0])), (h3, .inl (g.2.1 4, 4, .inr (.inr (.inr (.inr (fun _ => none))))))] sz [.ref h0, .int v0, .int 0, .int 0]) (va_Qi (fun (r : Int32) (_ : Unit) => r = 0) (fun (_ : Unit) (t : State) => mB g [(h0, .inr (22, [.int 0, .ref h1, .int 0, .ref h2, .int 0, .ref h3, .int 250, .ref h4, .int 0, .ref h5, .ref h6, .ref h7, .int 0, .ref h8, .ref h9, .ref h10, .int 0, .null, .int 0, .null, .int 0, .int 0, .int 0, .ref h11, .int 0, .ref h12, .ref h13, .ref h14, .int 0, .ref h15, .ref h16, .int 0])), (h3, .inl (g.2.1 4, 4, .inr (.inr (.inr (.inr (fun _ => none))))))] sz [(h0, .inr (22, [.int 2, .ref h1, .int 0, .ref h2, .int 0, .ref h3, .int 250, .ref h4, .int 0, .ref h5, .ref h6, .ref h7, .int 0, .ref h8, .ref h9, .ref h10, .int 0, .null, .int 0, .null, .int 0, .int 0, .int 0, .ref h11, .int 0, .ref h12, .ref h13, .ref h14, .int 0, .ref h15, .ref h16, .int 0])), (h3, .inl (g.2.1 4, 4, .inr (.inr (.inr (.inr (fun _ => none))))))] t) (va_A [(h0, .inr (22, [.int 0, .ref h1, .int 0, .ref h2, .int 0, .ref h3, .int 250, .ref h4, .int 0, .ref h5, .ref h6, .ref h7, .int 0, .ref h8, .ref h9, .ref h10, .int 0, .null, .int 0, .null, .int 0, .int 0, .int 0, .ref h11, .int 0, .ref h12, .ref h13, .ref h14, .int 0, .ref h15, .ref h16, .int 0])), (h3, .inl (g.2.1 4, 4, .inr (.inr (.inr (.inr (fun _ => none))))))] sz)) 0 0 (va_A [(h0, .inr (22, [.int 0, .ref h1, .int 0, .ref h2, .int 0, .ref h3, .int 250, .ref h4, .int 0, .ref h5, .ref h6, .ref h7, .int 0, .ref h8, .ref h9, .ref h10, .int 0, .null, .int 0, .null, .int 0, .int 0, .int 0, .ref h11, .int 0, .ref h12, .ref h13, .ref h14, .int 0, .ref h15, .ref h16, .int 0])), (h3, .inl (g.2.1 4, 4, .inr (.inr (.inr (.inr (fun _ => none))))))] sz) := by
  refine Met.ofW (cc := cX21_ways) (maxL := 7) (ret := (some .int)) (by decide) rfl ?_
  intro p e s m args below meth c s₁ B hml hv
  obtain ⟨rfl, hsz, hP, hD0, hE⟩ := hv
  have hx := B.exec
  have hb := B.bytes
  have hr := B.returns
  have hts := atoms_spec (ws := w9_X21_ways_7) B.pre
  have hown : s.vm.findClass RX21 = some m.cls := findClass_of_methodNamed B.named
  have hlocks := B.notSynchronized
  subst hsz
  have hD := hD0.self (sz := s.heap.size)
  generalize hAe : va_A [(h0, .inr (22, [.int 0, .ref h1, .int 0, .ref h2, .int 0, .ref h3, .int 250, .ref h4, .int 0, .ref h5, .ref h6, .ref h7, .int 0, .ref h8, .ref h9, .ref h10, .int 0, .null, .int 0, .null, .int 0, .int 0, .int 0, .ref h11, .int 0, .ref h12, .ref h13, .ref h14, .int 0, .ref h15, .ref h16, .int 0])), (h3, .inl (g.2.1 4, 4, .inr (.inr (.inr (.inr (fun _ => none))))))] s.heap.size = A at hD hE ⊢
  have hA : ∀ q : Nat, s.heap.size ≤ q → A q := fun q h => by rw [← hAe]; exact Or.inr h
  have hK := hE.1
  have hS : va_S A s.heap s.heap [] := va_S.rf
  replace hP : va_P g.1 vwCl [(h0, .inr (22, [.int 0, .ref h1, .int 0, .ref h2, .int 0, .ref h3, .int 250, .ref h4, .int 0, .ref h5, .ref h6, .ref h7, .int 0, .ref h8, .ref h9, .ref h10, .int 0, .null, .int 0, .null, .int 0, .int 0, .int 0, .ref h11, .int 0, .ref h12, .ref h13, .ref h14, .int 0, .ref h15, .ref h16, .int 0])), (h3, .inl (g.2.1 4, 4, .inr (.inr (.inr (.inr (fun _ => none))))))] s.heap := hP
  have hl := lv_entry ([.ref h0, .int v0, .int 0, .int 0]) (n := 7) (Nat.le_of_ble_eq_true rfl)
  rw [lg_entry_eq]
  generalize (lg_sl ([.ref h0, .int v0, .int 0, .int 0]) ++ List.replicate (7 - (lg_sl ([.ref h0, .int v0, .int 0, .int 0])).length) Slot.unset).toArray = ls at hl ⊢
  replace hl : lv_has ls 7 [(0, .ref h0), (1, .int v0), (2, .int 0), (3, .int 0)] := hl
  have hH0 : s.heap.size ≤ s.heap.size := Nat.le_refl _
  refine lv_iload_n hx hb dX21_ways_0 rfl (lv_at hl 1 rfl) ?_
  refine lv_iconst (v := 0) hx hb dX21_ways_1 (by decide) ?_
  refine lv_iconst (v := 3) hx hb dX21_ways_2 (by decide) ?_
  have hPc := hP.sub (ws' := []) [] rfl
  have hDc := hD.sub (ws' := []) [] (by decide) rfl
  have hFc := va_free (wc := []) hD hS hA [] rfl
  refine va_calli (va_runS (As := [.int v0, .int 0, .int 3]) (rest := []) ⟨hx, hb, hml, hown, hts⟩ (c9_X21_in_7 l g _ v0 (by omega)) (va_cwS 3 hts g9_X21_ways_7_0 rfl rfl rfl (by decide +kernel) ⟨Nat.le_of_ble_eq_true rfl, Nat.le_of_ble_eq_true rfl⟩) (mPreS (g := g) (wc := []) hE hS hPc hDc hFc) rfl rfl hl.1 rfl (lv_room (Nat.le_of_ble_eq_true rfl)) dX21_ways_3 ⟨Nat.le_of_ble_eq_true rfl, Nat.le_of_ble_eq_true rfl⟩) hS (fun q _ h => hFc q h) hFc (fun r_1 u t H1 locs ht hvm hw hB hz1 hk1 hS => ?_)
  replace hw : 1 = r_1 := Eq.symm hw
  subst hw
  obtain ⟨hP1, hD1⟩ := hB
  rw [ht] at hP1
  obtain ⟨hP, hD⟩ := va_join (wr := [(h0, .inr (22, [.int 0, .ref h1, .int 0, .ref h2, .int 0, .ref h3, .int 250, .ref h4, .int 0, .ref h5, .ref h6, .ref h7, .int 0, .ref h8, .ref h9, .ref h10, .int 0, .null, .int 0, .null, .int 0, .int 0, .int 0, .ref h11, .int 0, .ref h12, .ref h13, .ref h14, .int 0, .ref h15, .ref h16, .int 0])), (h3, .inl (g.2.1 4, 4, .inr (.inr (.inr (.inr (fun _ => none))))))]) (w1 := []) hP hD [] [0, 1] rfl rfl (by decide) (by decide) hk1 hFc hP1 hD1
  clear hP1 hD1 hPc hDc hFc hk1 hz1 hvm ht
  generalize H1 = H at hP hS ⊢
  have hP : va_P g.1 vwCl [(h0, .inr (22, [.int 0, .ref h1, .int 0, .ref h2, .int 0, .ref h3, .int 250, .ref h4, .int 0, .ref h5, .ref h6, .ref h7, .int 0, .ref h8, .ref h9, .ref h10, .int 0, .null, .int 0, .null, .int 0, .int 0, .int 0, .ref h11, .int 0, .ref h12, .ref h13, .ref h14, .int 0, .ref h15, .ref h16, .int 0])), (h3, .inl (g.2.1 4, 4, .inr (.inr (.inr (.inr (fun _ => none))))))] H := hP
  have hD : va_D A [(h0, .inr (22, [.int 0, .ref h1, .int 0, .ref h2, .int 0, .ref h3, .int 250, .ref h4, .int 0, .ref h5, .ref h6, .ref h7, .int 0, .ref h8, .ref h9, .ref h10, .int 0, .null, .int 0, .null, .int 0, .int 0, .int 0, .ref h11, .int 0, .ref h12, .ref h13, .ref h14, .int 0, .ref h15, .ref h16, .int 0])), (h3, .inl (g.2.1 4, 4, .inr (.inr (.inr (.inr (fun _ => none))))))] := hD
  refine lv_if_eq (tgt := 37) hx hb dX21_ways_6 (by decide) (fun c9 => absurd c9 (by decide)) (fun _ => ?_)
  refine lv_iload_n hx hb dX21_ways_9 rfl (lv_at hl 2 rfl) ?_
  refine lv_iconst (v := 0) hx hb dX21_ways_10 (by decide) ?_
  refine lv_aload_n hx hb dX21_ways_11 rfl (lv_at hl 0 rfl) ?_
  refine va_get (D := g.1) (ci := 22) (v := .int 0) (C := RX21) (T := TX21) (N := 32) hx hb hts in9_X21_ways_7_RX21 hown hK hP 0 rfl rfl 4 (by decide) (hts (.fieldLink RX21 196 "RegexloomModel" "length" "I") (List.mem_of_getElem? (i := 5) rfl)) (fun _ h9 => h9) rfl dX21_ways_12 ?_
  have hPc := hP.sub (ws' := []) [] rfl
  have hDc := hD.sub (ws' := []) [] (by decide) rfl
  have hFc := va_free (wc := []) hD hS hA [] rfl
  refine va_calli (va_runS (As := [.int 0, .int 0, .int 0]) (rest := []) ⟨hx, hb, hml, hown, hts⟩ (c9_X21_in_13 l g _) (va_cwS 3 hts g9_X21_ways_7_1 rfl rfl rfl (by decide +kernel) ⟨Nat.le_of_ble_eq_true rfl, Nat.le_of_ble_eq_true rfl⟩) (mPreS (g := g) (wc := []) hE hS hPc hDc hFc) rfl rfl hl.1 rfl (lv_room (Nat.le_of_ble_eq_true rfl)) dX21_ways_15 ⟨Nat.le_of_ble_eq_true rfl, Nat.le_of_ble_eq_true rfl⟩) hS (fun q _ h => hFc q h) hFc (fun r_2 u t H1 locs ht hvm hw hB hz1 hk1 hS => ?_)
  replace hw : 1 = r_2 := Eq.symm hw
  subst hw
  obtain ⟨hP1, hD1⟩ := hB
  rw [ht] at hP1
  obtain ⟨hP, hD⟩ := va_join (wr := [(h0, .inr (22, [.int 0, .ref h1, .int 0, .ref h2, .int 0, .ref h3, .int 250, .ref h4, .int 0, .ref h5, .ref h6, .ref h7, .int 0, .ref h8, .ref h9, .ref h10, .int 0, .null, .int 0, .null, .int 0, .int 0, .int 0, .ref h11, .int 0, .ref h12, .ref h13, .ref h14, .int 0, .ref h15, .ref h16, .int 0])), (h3, .inl (g.2.1 4, 4, .inr (.inr (.inr (.inr (fun _ => none))))))]) (w1 := []) hP hD [] [0, 1] rfl rfl (by decide) (by decide) hk1 hFc hP1 hD1
  clear hP1 hD1 hPc hDc hFc hk1 hz1 hvm ht
  generalize H1 = H at hP hS ⊢
  have hP : va_P g.1 vwCl [(h0, .inr (22, [.int 0, .ref h1, .int 0, .ref h2, .int 0, .ref h3, .int 250, .ref h4, .int 0, .ref h5, .ref h6, .ref h7, .int 0, .ref h8, .ref h9, .ref h10, .int 0, .null, .int 0, .null, .int 0, .int 0, .int 0, .ref h11, .int 0, .ref h12, .ref h13, .ref h14, .int 0, .ref h15, .ref h16, .int 0])), (h3, .inl (g.2.1 4, 4, .inr (.inr (.inr (.inr (fun _ => none))))))] H := hP
  have hD : va_D A [(h0, .inr (22, [.int 0, .ref h1, .int 0, .ref h2, .int 0, .ref h3, .int 250, .ref h4, .int 0, .ref h5, .ref h6, .ref h7, .int 0, .ref h8, .ref h9, .ref h10, .int 0, .null, .int 0, .null, .int 0, .int 0, .int 0, .ref h11, .int 0, .ref h12, .ref h13, .ref h14, .int 0, .ref h15, .ref h16, .int 0])), (h3, .inl (g.2.1 4, 4, .inr (.inr (.inr (.inr (fun _ => none))))))] := hD
  refine lv_if_eq (tgt := 37) hx hb dX21_ways_18 (by decide) (fun c9 => absurd c9 (by decide)) (fun _ => ?_)
  refine lv_iload_n hx hb dX21_ways_21 rfl (lv_at hl 3 rfl) ?_
  refine lv_iconst (v := 0) hx hb dX21_ways_22 (by decide) ?_
  refine lv_aload_n hx hb dX21_ways_23 rfl (lv_at hl 0 rfl) ?_
  refine va_get (D := g.1) (ci := 22) (v := .int 0) (C := RX21) (T := TX21) (N := 32) hx hb hts in9_X21_ways_7_RX21 hown hK hP 0 rfl rfl 4 (by decide) (hts (.fieldLink RX21 196 "RegexloomModel" "length" "I") (List.mem_of_getElem? (i := 5) rfl)) (fun _ h9 => h9) rfl dX21_ways_24 ?_
  have hPc := hP.sub (ws' := []) [] rfl
  have hDc := hD.sub (ws' := []) [] (by decide) rfl
  have hFc := va_free (wc := []) hD hS hA [] rfl
  refine va_calli (va_runS (As := [.int 0, .int 0, .int 0]) (rest := []) ⟨hx, hb, hml, hown, hts⟩ (c9_X21_in_13 l g _) (va_cwS 3 hts g9_X21_ways_7_2 rfl rfl rfl (by decide +kernel) ⟨Nat.le_of_ble_eq_true rfl, Nat.le_of_ble_eq_true rfl⟩) (mPreS (g := g) (wc := []) hE hS hPc hDc hFc) rfl rfl hl.1 rfl (lv_room (Nat.le_of_ble_eq_true rfl)) dX21_ways_27 ⟨Nat.le_of_ble_eq_true rfl, Nat.le_of_ble_eq_true rfl⟩) hS (fun q _ h => hFc q h) hFc (fun r_3 u t H1 locs ht hvm hw hB hz1 hk1 hS => ?_)
  replace hw : 1 = r_3 := Eq.symm hw
  subst hw
  obtain ⟨hP1, hD1⟩ := hB
  rw [ht] at hP1
  obtain ⟨hP, hD⟩ := va_join (wr := [(h0, .inr (22, [.int 0, .ref h1, .int 0, .ref h2, .int 0, .ref h3, .int 250, .ref h4, .int 0, .ref h5, .ref h6, .ref h7, .int 0, .ref h8, .ref h9, .ref h10, .int 0, .null, .int 0, .null, .int 0, .int 0, .int 0, .ref h11, .int 0, .ref h12, .ref h13, .ref h14, .int 0, .ref h15, .ref h16, .int 0])), (h3, .inl (g.2.1 4, 4, .inr (.inr (.inr (.inr (fun _ => none))))))]) (w1 := []) hP hD [] [0, 1] rfl rfl (by decide) (by decide) hk1 hFc hP1 hD1
  clear hP1 hD1 hPc hDc hFc hk1 hz1 hvm ht
  generalize H1 = H at hP hS ⊢
  have hP : va_P g.1 vwCl [(h0, .inr (22, [.int 0, .ref h1, .int 0, .ref h2, .int 0, .ref h3, .int 250, .ref h4, .int 0, .ref h5, .ref h6, .ref h7, .int 0, .ref h8, .ref h9, .ref h10, .int 0, .null, .int 0, .null, .int 0, .int 0, .int 0, .ref h11, .int 0, .ref h12, .ref h13, .ref h14, .int 0, .ref h15, .ref h16, .int 0])), (h3, .inl (g.2.1 4, 4, .inr (.inr (.inr (.inr (fun _ => none))))))] H := hP
  have hD : va_D A [(h0, .inr (22, [.int 0, .ref h1, .int 0, .ref h2, .int 0, .ref h3, .int 250, .ref h4, .int 0, .ref h5, .ref h6, .ref h7, .int 0, .ref h8, .ref h9, .ref h10, .int 0, .null, .int 0, .null, .int 0, .int 0, .int 0, .ref h11, .int 0, .ref h12, .ref h13, .ref h14, .int 0, .ref h15, .ref h16, .int 0])), (h3, .inl (g.2.1 4, 4, .inr (.inr (.inr (.inr (fun _ => none))))))] := hD
  refine lv_if_eq (tgt := 37) hx hb dX21_ways_30 (by decide) (fun c9 => absurd c9 (by decide)) (fun _ => ?_)
  refine lv_iconst (v := 1) hx hb dX21_ways_33 (by decide) ?_
  refine lv_goto (tgt := 38) hx hb dX21_ways_34 (by decide) ?_
  refine lv_istore (lv' := [(4, .int 1), (0, .ref h0), (1, .int v0), (2, .int 0), (3, .int 0)]) hx hb dX21_ways_38 hl (by decide) rfl (fun ls hl => ?_)
  refine lv_iload hx hb dX21_ways_40 (lv_at hl 0 rfl) ?_
  refine lv_if_ne (tgt := 49) hx hb dX21_ways_42 (by decide) (fun _ => ?_) (fun c9 => absurd c9 (by decide))
  refine lv_aload_n hx hb dX21_ways_49 rfl (lv_at hl 1 rfl) ?_
  refine va_get (D := g.1) (ci := 22) (v := .ref h3) (C := RX21) (T := TX21) (N := 32) hx hb hts in9_X21_ways_7_RX21 hown hK hP 0 rfl rfl 5 (by decide) (hts (.fieldLink RX21 90 "RegexloomModel" "patterns" "[LRegexloomModel$Pattern;") (List.mem_of_getElem? (i := 6) rfl)) (fun _ h9 => h9) rfl dX21_ways_50 ?_
  refine lv_iload_n hx hb dX21_ways_53 rfl (lv_at hl 2 rfl) ?_
  rcases (show v0 = 0 ∨ v0 = 1 ∨ v0 = 2 ∨ v0 = 3 from by simp only [← Int32.toInt_inj, show (0 : Int32).toInt = 0 from by decide, show (1 : Int32).toInt = 1 from by decide, show (2 : Int32).toInt = 2 from by decide, show (3 : Int32).toInt = 3 from by decide]; omega) with rfl | rfl | rfl | rfl
  · refine va_aldq hx hb hK hP 1 4 rfl rfl (vp_in_nI (n := 0) (by decide) (by decide)) dX21_ways_54 ?_
    refine e_topv (y := .null) (by rfl) ?_
    refine lv_ifnullN hx hb dX21_ways_55 (tgt := 70) (by decide) ?_
    refine lv_iconst (v := 2) hx hb dX21_ways_70 (by decide) ?_
    refine lv_goto (tgt := 75) hx hb dX21_ways_71 (by decide) ?_
    refine lv_istore (lv' := [(5, .int 2), (4, .int 1), (0, .ref h0), (1, .int 0), (2, .int 0), (3, .int 0)]) hx hb dX21_ways_75 hl (by decide) rfl (fun ls hl => ?_)
    refine lv_aload_n hx hb dX21_ways_77 rfl (lv_at hl 2 rfl) ?_
    refine lv_iload hx hb dX21_ways_78 (lv_at hl 0 rfl) ?_
    have hPc := hP.sub (ws' := [(h0, .inr (22, [.int 0, .ref h1, .int 0, .ref h2, .int 0, .ref h3, .int 250, .ref h4, .int 0, .ref h5, .ref h6, .ref h7, .int 0, .ref h8, .ref h9, .ref h10, .int 0, .null, .int 0, .null, .int 0, .int 0, .int 0, .ref h11, .int 0, .ref h12, .ref h13, .ref h14, .int 0, .ref h15, .ref h16, .int 0]))]) [0] rfl
    have hDc := hD.sub (ws' := [(h0, .inr (22, [.int 0, .ref h1, .int 0, .ref h2, .int 0, .ref h3, .int 250, .ref h4, .int 0, .ref h5, .ref h6, .ref h7, .int 0, .ref h8, .ref h9, .ref h10, .int 0, .null, .int 0, .null, .int 0, .int 0, .int 0, .ref h11, .int 0, .ref h12, .ref h13, .ref h14, .int 0, .ref h15, .ref h16, .int 0]))]) [0] (by decide) rfl
    have hFc := va_free (wc := [(h0, .inr (22, [.int 0, .ref h1, .int 0, .ref h2, .int 0, .ref h3, .int 250, .ref h4, .int 0, .ref h5, .ref h6, .ref h7, .int 0, .ref h8, .ref h9, .ref h10, .int 0, .null, .int 0, .null, .int 0, .int 0, .int 0, .ref h11, .int 0, .ref h12, .ref h13, .ref h14, .int 0, .ref h15, .ref h16, .int 0]))]) hD hS hA [0] rfl
    refine va_calli (va_runV (As := [.int 2]) (rest := []) ⟨hx, hb, hml, hown, hts⟩ (c9_X21_refused_3 l g h0 h1 h2 h3 h4 h5 h6 h7 h8 h9 h10 h11 h12 h13 h14 h15 h16 _) (cwV 1 hts g9_X21_ways_7_3 rfl rfl rfl (by decide +kernel) ⟨Nat.le_of_ble_eq_true rfl, Nat.le_of_ble_eq_true rfl⟩) (mPreV (g := g) (wc := [(h0, .inr (22, [.int 0, .ref h1, .int 0, .ref h2, .int 0, .ref h3, .int 250, .ref h4, .int 0, .ref h5, .ref h6, .ref h7, .int 0, .ref h8, .ref h9, .ref h10, .int 0, .null, .int 0, .null, .int 0, .int 0, .int 0, .ref h11, .int 0, .ref h12, .ref h13, .ref h14, .int 0, .ref h15, .ref h16, .int 0]))]) (C := RX21) (ci := 22) (q0 := 0) hE hS hPc hDc hFc rfl rfl) rfl rfl hl.1 rfl (lv_room (Nat.le_of_ble_eq_true rfl)) dX21_ways_80 ⟨Nat.le_of_ble_eq_true rfl, Nat.le_of_ble_eq_true rfl⟩) hS (fun q _ h => hFc q h) hFc (fun r_4 u t H1 locs ht hvm hw hB hz1 hk1 hS => ?_)
    replace hw : 1 = r_4 := Eq.symm hw
    subst hw
    obtain ⟨hP1, hD1⟩ := hB
    rw [ht] at hP1
    obtain ⟨hP, hD⟩ := va_join (wr := [(h3, .inl (g.2.1 4, 4, .inr (.inr (.inr (.inr (fun _ => none))))))]) (w1 := [(h0, .inr (22, [.int 2, .ref h1, .int 0, .ref h2, .int 0, .ref h3, .int 250, .ref h4, .int 0, .ref h5, .ref h6, .ref h7, .int 0, .ref h8, .ref h9, .ref h10, .int 0, .null, .int 0, .null, .int 0, .int 0, .int 0, .ref h11, .int 0, .ref h12, .ref h13, .ref h14, .int 0, .ref h15, .ref h16, .int 0]))]) hP hD [0] [1] rfl rfl (by decide) (by decide) hk1 hFc hP1 hD1
    clear hP1 hD1 hPc hDc hFc hk1 hz1 hvm ht
    generalize H1 = H at hP hS ⊢
    have hP : va_P g.1 vwCl [(h3, .inl (g.2.1 4, 4, .inr (.inr (.inr (.inr (fun _ => none)))))), (h0, .inr (22, [.int 2, .ref h1, .int 0, .ref h2, .int 0, .ref h3, .int 250, .ref h4, .int 0, .ref h5, .ref h6, .ref h7, .int 0, .ref h8, .ref h9, .ref h10, .int 0, .null, .int 0, .null, .int 0, .int 0, .int 0, .ref h11, .int 0, .ref h12, .ref h13, .ref h14, .int 0, .ref h15, .ref h16, .int 0]))] H := hP
    have hD : va_D A [(h3, .inl (g.2.1 4, 4, .inr (.inr (.inr (.inr (fun _ => none)))))), (h0, .inr (22, [.int 2, .ref h1, .int 0, .ref h2, .int 0, .ref h3, .int 250, .ref h4, .int 0, .ref h5, .ref h6, .ref h7, .int 0, .ref h8, .ref h9, .ref h10, .int 0, .null, .int 0, .null, .int 0, .int 0, .int 0, .ref h11, .int 0, .ref h12, .ref h13, .ref h14, .int 0, .ref h15, .ref h16, .int 0]))] := hD
    refine lv_if_eq (tgt := 88) hx hb dX21_ways_83 (by decide) (fun c9 => absurd c9 (by decide)) (fun _ => ?_)
    refine lv_iconst (v := 0) hx hb dX21_ways_86 (by decide) ?_
    have hP9 := hP.sub (ws' := [(h0, .inr (22, [.int 2, .ref h1, .int 0, .ref h2, .int 0, .ref h3, .int 250, .ref h4, .int 0, .ref h5, .ref h6, .ref h7, .int 0, .ref h8, .ref h9, .ref h10, .int 0, .null, .int 0, .null, .int 0, .int 0, .int 0, .ref h11, .int 0, .ref h12, .ref h13, .ref h14, .int 0, .ref h15, .ref h16, .int 0])), (h3, .inl (g.2.1 4, 4, .inr (.inr (.inr (.inr (fun _ => none))))))]) [1, 0] rfl
    have hD9 := hD.sub (ws' := [(h0, .inr (22, [.int 2, .ref h1, .int 0, .ref h2, .int 0, .ref h3, .int 250, .ref h4, .int 0, .ref h5, .ref h6, .ref h7, .int 0, .ref h8, .ref h9, .ref h10, .int 0, .null, .int 0, .null, .int 0, .int 0, .int 0, .ref h11, .int 0, .ref h12, .ref h13, .ref h14, .int 0, .ref h15, .ref h16, .int 0])), (h3, .inl (g.2.1 4, 4, .inr (.inr (.inr (.inr (fun _ => none))))))]) [1, 0] (by decide) rfl
    subst hAe
    exact W.iret (v := 0) hx hb hr (fun t ht hW => ⟨⟨0, (), rfl, rfl, by rw [ht]; exact hP9, hD9⟩, hS.F ht⟩) hS.2.2 dX21_ways_87
  · refine va_aldq hx hb hK hP 1 4 rfl rfl (vp_in_nI (n := 1) (by decide) (by decide)) dX21_ways_54 ?_
    refine e_topv (y := .null) (by rfl) ?_
    refine lv_ifnullN hx hb dX21_ways_55 (tgt := 70) (by decide) ?_
    refine lv_iconst (v := 2) hx hb dX21_ways_70 (by decide) ?_
    refine lv_goto (tgt := 75) hx hb dX21_ways_71 (by decide) ?_
    refine lv_istore (lv' := [(5, .int 2), (4, .int 1), (0, .ref h0), (1, .int 1), (2, .int 0), (3, .int 0)]) hx hb dX21_ways_75 hl (by decide) rfl (fun ls hl => ?_)
    refine lv_aload_n hx hb dX21_ways_77 rfl (lv_at hl 2 rfl) ?_
    refine lv_iload hx hb dX21_ways_78 (lv_at hl 0 rfl) ?_
    have hPc := hP.sub (ws' := [(h0, .inr (22, [.int 0, .ref h1, .int 0, .ref h2, .int 0, .ref h3, .int 250, .ref h4, .int 0, .ref h5, .ref h6, .ref h7, .int 0, .ref h8, .ref h9, .ref h10, .int 0, .null, .int 0, .null, .int 0, .int 0, .int 0, .ref h11, .int 0, .ref h12, .ref h13, .ref h14, .int 0, .ref h15, .ref h16, .int 0]))]) [0] rfl
    have hDc := hD.sub (ws' := [(h0, .inr (22, [.int 0, .ref h1, .int 0, .ref h2, .int 0, .ref h3, .int 250, .ref h4, .int 0, .ref h5, .ref h6, .ref h7, .int 0, .ref h8, .ref h9, .ref h10, .int 0, .null, .int 0, .null, .int 0, .int 0, .int 0, .ref h11, .int 0, .ref h12, .ref h13, .ref h14, .int 0, .ref h15, .ref h16, .int 0]))]) [0] (by decide) rfl
    have hFc := va_free (wc := [(h0, .inr (22, [.int 0, .ref h1, .int 0, .ref h2, .int 0, .ref h3, .int 250, .ref h4, .int 0, .ref h5, .ref h6, .ref h7, .int 0, .ref h8, .ref h9, .ref h10, .int 0, .null, .int 0, .null, .int 0, .int 0, .int 0, .ref h11, .int 0, .ref h12, .ref h13, .ref h14, .int 0, .ref h15, .ref h16, .int 0]))]) hD hS hA [0] rfl
    refine va_calli (va_runV (As := [.int 2]) (rest := []) ⟨hx, hb, hml, hown, hts⟩ (c9_X21_refused_3 l g h0 h1 h2 h3 h4 h5 h6 h7 h8 h9 h10 h11 h12 h13 h14 h15 h16 _) (cwV 1 hts g9_X21_ways_7_4 rfl rfl rfl (by decide +kernel) ⟨Nat.le_of_ble_eq_true rfl, Nat.le_of_ble_eq_true rfl⟩) (mPreV (g := g) (wc := [(h0, .inr (22, [.int 0, .ref h1, .int 0, .ref h2, .int 0, .ref h3, .int 250, .ref h4, .int 0, .ref h5, .ref h6, .ref h7, .int 0, .ref h8, .ref h9, .ref h10, .int 0, .null, .int 0, .null, .int 0, .int 0, .int 0, .ref h11, .int 0, .ref h12, .ref h13, .ref h14, .int 0, .ref h15, .ref h16, .int 0]))]) (C := RX21) (ci := 22) (q0 := 0) hE hS hPc hDc hFc rfl rfl) rfl rfl hl.1 rfl (lv_room (Nat.le_of_ble_eq_true rfl)) dX21_ways_80 ⟨Nat.le_of_ble_eq_true rfl, Nat.le_of_ble_eq_true rfl⟩) hS (fun q _ h => hFc q h) hFc (fun r_5 u t H1 locs ht hvm hw hB hz1 hk1 hS => ?_)
    replace hw : 1 = r_5 := Eq.symm hw
    subst hw
    obtain ⟨hP1, hD1⟩ := hB
    rw [ht] at hP1
    obtain ⟨hP, hD⟩ := va_join (wr := [(h3, .inl (g.2.1 4, 4, .inr (.inr (.inr (.inr (fun _ => none))))))]) (w1 := [(h0, .inr (22, [.int 2, .ref h1, .int 0, .ref h2, .int 0, .ref h3, .int 250, .ref h4, .int 0, .ref h5, .ref h6, .ref h7, .int 0, .ref h8, .ref h9, .ref h10, .int 0, .null, .int 0, .null, .int 0, .int 0, .int 0, .ref h11, .int 0, .ref h12, .ref h13, .ref h14, .int 0, .ref h15, .ref h16, .int 0]))]) hP hD [0] [1] rfl rfl (by decide) (by decide) hk1 hFc hP1 hD1
    clear hP1 hD1 hPc hDc hFc hk1 hz1 hvm ht
    generalize H1 = H at hP hS ⊢
    have hP : va_P g.1 vwCl [(h3, .inl (g.2.1 4, 4, .inr (.inr (.inr (.inr (fun _ => none)))))), (h0, .inr (22, [.int 2, .ref h1, .int 0, .ref h2, .int 0, .ref h3, .int 250, .ref h4, .int 0, .ref h5, .ref h6, .ref h7, .int 0, .ref h8, .ref h9, .ref h10, .int 0, .null, .int 0, .null, .int 0, .int 0, .int 0, .ref h11, .int 0, .ref h12, .ref h13, .ref h14, .int 0, .ref h15, .ref h16, .int 0]))] H := hP
    have hD : va_D A [(h3, .inl (g.2.1 4, 4, .inr (.inr (.inr (.inr (fun _ => none)))))), (h0, .inr (22, [.int 2, .ref h1, .int 0, .ref h2, .int 0, .ref h3, .int 250, .ref h4, .int 0, .ref h5, .ref h6, .ref h7, .int 0, .ref h8, .ref h9, .ref h10, .int 0, .null, .int 0, .null, .int 0, .int 0, .int 0, .ref h11, .int 0, .ref h12, .ref h13, .ref h14, .int 0, .ref h15, .ref h16, .int 0]))] := hD
    refine lv_if_eq (tgt := 88) hx hb dX21_ways_83 (by decide) (fun c9 => absurd c9 (by decide)) (fun _ => ?_)
    refine lv_iconst (v := 0) hx hb dX21_ways_86 (by decide) ?_
    have hP9 := hP.sub (ws' := [(h0, .inr (22, [.int 2, .ref h1, .int 0, .ref h2, .int 0, .ref h3, .int 250, .ref h4, .int 0, .ref h5, .ref h6, .ref h7, .int 0, .ref h8, .ref h9, .ref h10, .int 0, .null, .int 0, .null, .int 0, .int 0, .int 0, .ref h11, .int 0, .ref h12, .ref h13, .ref h14, .int 0, .ref h15, .ref h16, .int 0])), (h3, .inl (g.2.1 4, 4, .inr (.inr (.inr (.inr (fun _ => none))))))]) [1, 0] rfl
    have hD9 := hD.sub (ws' := [(h0, .inr (22, [.int 2, .ref h1, .int 0, .ref h2, .int 0, .ref h3, .int 250, .ref h4, .int 0, .ref h5, .ref h6, .ref h7, .int 0, .ref h8, .ref h9, .ref h10, .int 0, .null, .int 0, .null, .int 0, .int 0, .int 0, .ref h11, .int 0, .ref h12, .ref h13, .ref h14, .int 0, .ref h15, .ref h16, .int 0])), (h3, .inl (g.2.1 4, 4, .inr (.inr (.inr (.inr (fun _ => none))))))]) [1, 0] (by decide) rfl
    subst hAe
    exact W.iret (v := 0) hx hb hr (fun t ht hW => ⟨⟨0, (), rfl, rfl, by rw [ht]; exact hP9, hD9⟩, hS.F ht⟩) hS.2.2 dX21_ways_87
  · refine va_aldq hx hb hK hP 1 4 rfl rfl (vp_in_nI (n := 2) (by decide) (by decide)) dX21_ways_54 ?_
    refine e_topv (y := .null) (by rfl) ?_
    refine lv_ifnullN hx hb dX21_ways_55 (tgt := 70) (by decide) ?_
    refine lv_iconst (v := 2) hx hb dX21_ways_70 (by decide) ?_
    refine lv_goto (tgt := 75) hx hb dX21_ways_71 (by decide) ?_
    refine lv_istore (lv' := [(5, .int 2), (4, .int 1), (0, .ref h0), (1, .int 2), (2, .int 0), (3, .int 0)]) hx hb dX21_ways_75 hl (by decide) rfl (fun ls hl => ?_)
    refine lv_aload_n hx hb dX21_ways_77 rfl (lv_at hl 2 rfl) ?_
    refine lv_iload hx hb dX21_ways_78 (lv_at hl 0 rfl) ?_
    have hPc := hP.sub (ws' := [(h0, .inr (22, [.int 0, .ref h1, .int 0, .ref h2, .int 0, .ref h3, .int 250, .ref h4, .int 0, .ref h5, .ref h6, .ref h7, .int 0, .ref h8, .ref h9, .ref h10, .int 0, .null, .int 0, .null, .int 0, .int 0, .int 0, .ref h11, .int 0, .ref h12, .ref h13, .ref h14, .int 0, .ref h15, .ref h16, .int 0]))]) [0] rfl
    have hDc := hD.sub (ws' := [(h0, .inr (22, [.int 0, .ref h1, .int 0, .ref h2, .int 0, .ref h3, .int 250, .ref h4, .int 0, .ref h5, .ref h6, .ref h7, .int 0, .ref h8, .ref h9, .ref h10, .int 0, .null, .int 0, .null, .int 0, .int 0, .int 0, .ref h11, .int 0, .ref h12, .ref h13, .ref h14, .int 0, .ref h15, .ref h16, .int 0]))]) [0] (by decide) rfl
    have hFc := va_free (wc := [(h0, .inr (22, [.int 0, .ref h1, .int 0, .ref h2, .int 0, .ref h3, .int 250, .ref h4, .int 0, .ref h5, .ref h6, .ref h7, .int 0, .ref h8, .ref h9, .ref h10, .int 0, .null, .int 0, .null, .int 0, .int 0, .int 0, .ref h11, .int 0, .ref h12, .ref h13, .ref h14, .int 0, .ref h15, .ref h16, .int 0]))]) hD hS hA [0] rfl
    refine va_calli (va_runV (As := [.int 2]) (rest := []) ⟨hx, hb, hml, hown, hts⟩ (c9_X21_refused_3 l g h0 h1 h2 h3 h4 h5 h6 h7 h8 h9 h10 h11 h12 h13 h14 h15 h16 _) (cwV 1 hts g9_X21_ways_7_5 rfl rfl rfl (by decide +kernel) ⟨Nat.le_of_ble_eq_true rfl, Nat.le_of_ble_eq_true rfl⟩) (mPreV (g := g) (wc := [(h0, .inr (22, [.int 0, .ref h1, .int 0, .ref h2, .int 0, .ref h3, .int 250, .ref h4, .int 0, .ref h5, .ref h6, .ref h7, .int 0, .ref h8, .ref h9, .ref h10, .int 0, .null, .int 0, .null, .int 0, .int 0, .int 0, .ref h11, .int 0, .ref h12, .ref h13, .ref h14, .int 0, .ref h15, .ref h16, .int 0]))]) (C := RX21) (ci := 22) (q0 := 0) hE hS hPc hDc hFc rfl rfl) rfl rfl hl.1 rfl (lv_room (Nat.le_of_ble_eq_true rfl)) dX21_ways_80 ⟨Nat.le_of_ble_eq_true rfl, Nat.le_of_ble_eq_true rfl⟩) hS (fun q _ h => hFc q h) hFc (fun r_6 u t H1 locs ht hvm hw hB hz1 hk1 hS => ?_)
    replace hw : 1 = r_6 := Eq.symm hw
    subst hw
    obtain ⟨hP1, hD1⟩ := hB
    rw [ht] at hP1
    obtain ⟨hP, hD⟩ := va_join (wr := [(h3, .inl (g.2.1 4, 4, .inr (.inr (.inr (.inr (fun _ => none))))))]) (w1 := [(h0, .inr (22, [.int 2, .ref h1, .int 0, .ref h2, .int 0, .ref h3, .int 250, .ref h4, .int 0, .ref h5, .ref h6, .ref h7, .int 0, .ref h8, .ref h9, .ref h10, .int 0, .null, .int 0, .null, .int 0, .int 0, .int 0, .ref h11, .int 0, .ref h12, .ref h13, .ref h14, .int 0, .ref h15, .ref h16, .int 0]))]) hP hD [0] [1] rfl rfl (by decide) (by decide) hk1 hFc hP1 hD1
    clear hP1 hD1 hPc hDc hFc hk1 hz1 hvm ht
    generalize H1 = H at hP hS ⊢
    have hP : va_P g.1 vwCl [(h3, .inl (g.2.1 4, 4, .inr (.inr (.inr (.inr (fun _ => none)))))), (h0, .inr (22, [.int 2, .ref h1, .int 0, .ref h2, .int 0, .ref h3, .int 250, .ref h4, .int 0, .ref h5, .ref h6, .ref h7, .int 0, .ref h8, .ref h9, .ref h10, .int 0, .null, .int 0, .null, .int 0, .int 0, .int 0, .ref h11, .int 0, .ref h12, .ref h13, .ref h14, .int 0, .ref h15, .ref h16, .int 0]))] H := hP
    have hD : va_D A [(h3, .inl (g.2.1 4, 4, .inr (.inr (.inr (.inr (fun _ => none)))))), (h0, .inr (22, [.int 2, .ref h1, .int 0, .ref h2, .int 0, .ref h3, .int 250, .ref h4, .int 0, .ref h5, .ref h6, .ref h7, .int 0, .ref h8, .ref h9, .ref h10, .int 0, .null, .int 0, .null, .int 0, .int 0, .int 0, .ref h11, .int 0, .ref h12, .ref h13, .ref h14, .int 0, .ref h15, .ref h16, .int 0]))] := hD
    refine lv_if_eq (tgt := 88) hx hb dX21_ways_83 (by decide) (fun c9 => absurd c9 (by decide)) (fun _ => ?_)
    refine lv_iconst (v := 0) hx hb dX21_ways_86 (by decide) ?_
    have hP9 := hP.sub (ws' := [(h0, .inr (22, [.int 2, .ref h1, .int 0, .ref h2, .int 0, .ref h3, .int 250, .ref h4, .int 0, .ref h5, .ref h6, .ref h7, .int 0, .ref h8, .ref h9, .ref h10, .int 0, .null, .int 0, .null, .int 0, .int 0, .int 0, .ref h11, .int 0, .ref h12, .ref h13, .ref h14, .int 0, .ref h15, .ref h16, .int 0])), (h3, .inl (g.2.1 4, 4, .inr (.inr (.inr (.inr (fun _ => none))))))]) [1, 0] rfl
    have hD9 := hD.sub (ws' := [(h0, .inr (22, [.int 2, .ref h1, .int 0, .ref h2, .int 0, .ref h3, .int 250, .ref h4, .int 0, .ref h5, .ref h6, .ref h7, .int 0, .ref h8, .ref h9, .ref h10, .int 0, .null, .int 0, .null, .int 0, .int 0, .int 0, .ref h11, .int 0, .ref h12, .ref h13, .ref h14, .int 0, .ref h15, .ref h16, .int 0])), (h3, .inl (g.2.1 4, 4, .inr (.inr (.inr (.inr (fun _ => none))))))]) [1, 0] (by decide) rfl
    subst hAe
    exact W.iret (v := 0) hx hb hr (fun t ht hW => ⟨⟨0, (), rfl, rfl, by rw [ht]; exact hP9, hD9⟩, hS.F ht⟩) hS.2.2 dX21_ways_87
  · refine va_aldq hx hb hK hP 1 4 rfl rfl (vp_in_nI (n := 3) (by decide) (by decide)) dX21_ways_54 ?_
    refine e_topv (y := .null) (by rfl) ?_
    refine lv_ifnullN hx hb dX21_ways_55 (tgt := 70) (by decide) ?_
    refine lv_iconst (v := 2) hx hb dX21_ways_70 (by decide) ?_
    refine lv_goto (tgt := 75) hx hb dX21_ways_71 (by decide) ?_
    refine lv_istore (lv' := [(5, .int 2), (4, .int 1), (0, .ref h0), (1, .int 3), (2, .int 0), (3, .int 0)]) hx hb dX21_ways_75 hl (by decide) rfl (fun ls hl => ?_)
    refine lv_aload_n hx hb dX21_ways_77 rfl (lv_at hl 2 rfl) ?_
    refine lv_iload hx hb dX21_ways_78 (lv_at hl 0 rfl) ?_
    have hPc := hP.sub (ws' := [(h0, .inr (22, [.int 0, .ref h1, .int 0, .ref h2, .int 0, .ref h3, .int 250, .ref h4, .int 0, .ref h5, .ref h6, .ref h7, .int 0, .ref h8, .ref h9, .ref h10, .int 0, .null, .int 0, .null, .int 0, .int 0, .int 0, .ref h11, .int 0, .ref h12, .ref h13, .ref h14, .int 0, .ref h15, .ref h16, .int 0]))]) [0] rfl
    have hDc := hD.sub (ws' := [(h0, .inr (22, [.int 0, .ref h1, .int 0, .ref h2, .int 0, .ref h3, .int 250, .ref h4, .int 0, .ref h5, .ref h6, .ref h7, .int 0, .ref h8, .ref h9, .ref h10, .int 0, .null, .int 0, .null, .int 0, .int 0, .int 0, .ref h11, .int 0, .ref h12, .ref h13, .ref h14, .int 0, .ref h15, .ref h16, .int 0]))]) [0] (by decide) rfl
    have hFc := va_free (wc := [(h0, .inr (22, [.int 0, .ref h1, .int 0, .ref h2, .int 0, .ref h3, .int 250, .ref h4, .int 0, .ref h5, .ref h6, .ref h7, .int 0, .ref h8, .ref h9, .ref h10, .int 0, .null, .int 0, .null, .int 0, .int 0, .int 0, .ref h11, .int 0, .ref h12, .ref h13, .ref h14, .int 0, .ref h15, .ref h16, .int 0]))]) hD hS hA [0] rfl
    refine va_calli (va_runV (As := [.int 2]) (rest := []) ⟨hx, hb, hml, hown, hts⟩ (c9_X21_refused_3 l g h0 h1 h2 h3 h4 h5 h6 h7 h8 h9 h10 h11 h12 h13 h14 h15 h16 _) (cwV 1 hts g9_X21_ways_7_6 rfl rfl rfl (by decide +kernel) ⟨Nat.le_of_ble_eq_true rfl, Nat.le_of_ble_eq_true rfl⟩) (mPreV (g := g) (wc := [(h0, .inr (22, [.int 0, .ref h1, .int 0, .ref h2, .int 0, .ref h3, .int 250, .ref h4, .int 0, .ref h5, .ref h6, .ref h7, .int 0, .ref h8, .ref h9, .ref h10, .int 0, .null, .int 0, .null, .int 0, .int 0, .int 0, .ref h11, .int 0, .ref h12, .ref h13, .ref h14, .int 0, .ref h15, .ref h16, .int 0]))]) (C := RX21) (ci := 22) (q0 := 0) hE hS hPc hDc hFc rfl rfl) rfl rfl hl.1 rfl (lv_room (Nat.le_of_ble_eq_true rfl)) dX21_ways_80 ⟨Nat.le_of_ble_eq_true rfl, Nat.le_of_ble_eq_true rfl⟩) hS (fun q _ h => hFc q h) hFc (fun r_7 u t H1 locs ht hvm hw hB hz1 hk1 hS => ?_)
    replace hw : 1 = r_7 := Eq.symm hw
    subst hw
    obtain ⟨hP1, hD1⟩ := hB
    rw [ht] at hP1
    obtain ⟨hP, hD⟩ := va_join (wr := [(h3, .inl (g.2.1 4, 4, .inr (.inr (.inr (.inr (fun _ => none))))))]) (w1 := [(h0, .inr (22, [.int 2, .ref h1, .int 0, .ref h2, .int 0, .ref h3, .int 250, .ref h4, .int 0, .ref h5, .ref h6, .ref h7, .int 0, .ref h8, .ref h9, .ref h10, .int 0, .null, .int 0, .null, .int 0, .int 0, .int 0, .ref h11, .int 0, .ref h12, .ref h13, .ref h14, .int 0, .ref h15, .ref h16, .int 0]))]) hP hD [0] [1] rfl rfl (by decide) (by decide) hk1 hFc hP1 hD1
    clear hP1 hD1 hPc hDc hFc hk1 hz1 hvm ht
    generalize H1 = H at hP hS ⊢
    have hP : va_P g.1 vwCl [(h3, .inl (g.2.1 4, 4, .inr (.inr (.inr (.inr (fun _ => none)))))), (h0, .inr (22, [.int 2, .ref h1, .int 0, .ref h2, .int 0, .ref h3, .int 250, .ref h4, .int 0, .ref h5, .ref h6, .ref h7, .int 0, .ref h8, .ref h9, .ref h10, .int 0, .null, .int 0, .null, .int 0, .int 0, .int 0, .ref h11, .int 0, .ref h12, .ref h13, .ref h14, .int 0, .ref h15, .ref h16, .int 0]))] H := hP
    have hD : va_D A [(h3, .inl (g.2.1 4, 4, .inr (.inr (.inr (.inr (fun _ => none)))))), (h0, .inr (22, [.int 2, .ref h1, .int 0, .ref h2, .int 0, .ref h3, .int 250, .ref h4, .int 0, .ref h5, .ref h6, .ref h7, .int 0, .ref h8, .ref h9, .ref h10, .int 0, .null, .int 0, .null, .int 0, .int 0, .int 0, .ref h11, .int 0, .ref h12, .ref h13, .ref h14, .int 0, .ref h15, .ref h16, .int 0]))] := hD
    refine lv_if_eq (tgt := 88) hx hb dX21_ways_83 (by decide) (fun c9 => absurd c9 (by decide)) (fun _ => ?_)
    refine lv_iconst (v := 0) hx hb dX21_ways_86 (by decide) ?_
    have hP9 := hP.sub (ws' := [(h0, .inr (22, [.int 2, .ref h1, .int 0, .ref h2, .int 0, .ref h3, .int 250, .ref h4, .int 0, .ref h5, .ref h6, .ref h7, .int 0, .ref h8, .ref h9, .ref h10, .int 0, .null, .int 0, .null, .int 0, .int 0, .int 0, .ref h11, .int 0, .ref h12, .ref h13, .ref h14, .int 0, .ref h15, .ref h16, .int 0])), (h3, .inl (g.2.1 4, 4, .inr (.inr (.inr (.inr (fun _ => none))))))]) [1, 0] rfl
    have hD9 := hD.sub (ws' := [(h0, .inr (22, [.int 2, .ref h1, .int 0, .ref h2, .int 0, .ref h3, .int 250, .ref h4, .int 0, .ref h5, .ref h6, .ref h7, .int 0, .ref h8, .ref h9, .ref h10, .int 0, .null, .int 0, .null, .int 0, .int 0, .int 0, .ref h11, .int 0, .ref h12, .ref h13, .ref h14, .int 0, .ref h15, .ref h16, .int 0])), (h3, .inl (g.2.1 4, 4, .inr (.inr (.inr (.inr (fun _ => none))))))]) [1, 0] (by decide) rfl
    subst hAe
    exact W.iret (v := 0) hx hb hr (fun t ht hW => ⟨⟨0, (), rfl, rfl, by rw [ht]; exact hP9, hD9⟩, hS.F ht⟩) hS.2.2 dX21_ways_87
def w9_X11_outSign_1 : List Cond := [.code yX11_outSign cX11_outSign 2 (some .char), .initialized "java/lang/Throwable", .superclass "java/lang/Throwable" "java/lang/Object", .instanceMethod Bundle.tFill, .codeSync Bundle.tFill LibCode.Throwable.Fill.code 1 (some (.object "java/lang/Throwable")), .instanceMethod Bundle.tFill0, .native Bundle.tFill0, .instanceMethod Bundle.tInit0, .code Bundle.tInit0 LibCode.Throwable.Init0.code 1 none, .instanceMethod Bundle.oInit, .code Bundle.oInit ⟨#[0xb1]⟩ 1 none, .methodLink "java/lang/Throwable" 1 Bundle.oInit, .methodLink "java/lang/Throwable" 27 Bundle.tFill, .methodLink "java/lang/Throwable" 202 Bundle.tFill0, .fieldLink "java/lang/Throwable" 7 "java/lang/Throwable" "cause" "Ljava/lang/Throwable;", .lays "java/lang/Throwable" "java/lang/Throwable" "cause" "Ljava/lang/Throwable;", .fieldLink "java/lang/Throwable" 17 "java/lang/Throwable" "stackTrace" "[Ljava/lang/StackTraceElement;", .lays "java/lang/Throwable" "java/lang/Throwable" "stackTrace" "[Ljava/lang/StackTraceElement;", .fieldLink "java/lang/Throwable" 24 "java/lang/Throwable" "suppressedExceptions" "Ljava/util/List;", .lays "java/lang/Throwable" "java/lang/Throwable" "suppressedExceptions" "Ljava/util/List;", .fieldLink "java/lang/Throwable" 13 "java/lang/Throwable" "UNASSIGNED_STACK" "[Ljava/lang/StackTraceElement;", .fieldLink "java/lang/Throwable" 20 "java/lang/Throwable" "SUPPRESSED_SENTINEL" "Ljava/util/List;", .lays "java/lang/Throwable" "java/lang/Throwable" "detailMessage" "Ljava/lang/String;", .instanceMethod (Bundle.initS "java/lang/Throwable"), .code (Bundle.initS "java/lang/Throwable") LibCode.Throwable.InitS.code 2 none, .fieldLink "java/lang/Throwable" 31 "java/lang/Throwable" "detailMessage" "Ljava/lang/String;", .instanceMethod (Bundle.initS "java/lang/IndexOutOfBoundsException"), .code (Bundle.initS "java/lang/IndexOutOfBoundsException") Bundle.six 2 none, .methodLink "java/lang/IndexOutOfBoundsException" 7 (Bundle.initS "java/lang/RuntimeException"), .instanceMethod (Bundle.initS "java/lang/RuntimeException"), .code (Bundle.initS "java/lang/RuntimeException") Bundle.six 2 none, .methodLink "java/lang/RuntimeException" 7 (Bundle.initS "java/lang/Exception"), .instanceMethod (Bundle.initS "java/lang/Exception"), .code (Bundle.initS "java/lang/Exception") Bundle.six 2 none, .methodLink "java/lang/Exception" 7 (Bundle.initS "java/lang/Throwable"), .methodLink RX11 224 (Bundle.initS "java/lang/IndexOutOfBoundsException"), .instantiable "java/lang/IndexOutOfBoundsException" 6, .selects "java/lang/IndexOutOfBoundsException" Bundle.tFill0 Bundle.tFill0, .selects "java/lang/IndexOutOfBoundsException" Bundle.tFill Bundle.tFill, .lays "java/lang/IndexOutOfBoundsException" "java/lang/Throwable" "cause" "Ljava/lang/Throwable;", .lays "java/lang/IndexOutOfBoundsException" "java/lang/Throwable" "stackTrace" "[Ljava/lang/StackTraceElement;", .lays "java/lang/IndexOutOfBoundsException" "java/lang/Throwable" "suppressedExceptions" "Ljava/util/List;", .lays "java/lang/IndexOutOfBoundsException" "java/lang/Throwable" "detailMessage" "Ljava/lang/String;", .fieldLink "java/lang/Throwable" 198 "java/lang/Throwable" "backtrace" "Ljava/lang/Object;", .lays "java/lang/Throwable" "java/lang/Throwable" "backtrace" "Ljava/lang/Object;", .lays "java/lang/IndexOutOfBoundsException" "java/lang/Throwable" "backtrace" "Ljava/lang/Object;", .classLink RX11 220 "java/lang/IndexOutOfBoundsException", .initialized "java/lang/IndexOutOfBoundsException"]
set_option maxHeartbeats 4000000 in
set_option maxRecDepth 100000 in
theorem c9_X11_outSign_1 (l : Launch) (hlt : l.stackTraces = false) (g : G9) (h0 h1 h2 h3 h4 h5 h6 h7 h8 h9 h10 h11 h12 h13 sz : Nat) (v0 : Int32) (k_v0 : (-2147483648) ≤ v0.toInt ∧ v0.toInt ≤ (-1)) : vx_Met l yX11_outSign w9_X11_outSign_1 ({ frames := 6, cells := 1, slots := 6, locals := 82 }) (mP g [(h0, .inr (12, [.ref h1, .int 0, .ref h2, .ref h3, .ref h4, .ref h5, .ref h6, .ref h7, .int (-1), .ref h8, .ref h9, .int 250, .ref h10, .int 0, .ref h11, .ref h12, .ref h13]))] sz [.ref h0, .int v0]) (va_Qv (fun _ : Unit => False) (fun _ _ => True) (va_A [(h0, .inr (12, [.ref h1, .int 0, .ref h2, .ref h3, .ref h4, .ref h5, .ref h6, .ref h7, .int (-1), .ref h8, .ref h9, .int 250, .ref h10, .int 0, .ref h11, .ref h12, .ref h13]))] sz)) (mT g [(h0, .inr (12, [.ref h1, .int 0, .ref h2, .ref h3, .ref h4, .ref h5, .ref h6, .ref h7, .int (-1), .ref h8, .ref h9, .int 250, .ref h10, .int 0, .ref h11, .ref h12, .ref h13]))] sz "java/lang/IndexOutOfBoundsException") 1 6 (va_A [(h0, .inr (12, [.ref h1, .int 0, .ref h2, .ref h3, .ref h4, .ref h5, .ref h6, .ref h7, .int (-1), .ref h8, .ref h9, .int 250, .ref h10, .int 0, .ref h11, .ref h12, .ref h13]))] sz) := by
  refine vx_ofW (cc := cX11_outSign) (maxL := 2) (ret := (some .char)) (by decide) rfl ?_
  intro p e s m args below meth c s₁ B hml hno hv
  obtain ⟨rfl, hsz, hP, hD0, hE⟩ := hv
  have hx := B.exec
  have hb := B.bytes
  have hr := B.returns
  have hts := atoms_spec (ws := w9_X11_outSign_1) B.pre
  have hown : s.vm.findClass RX11 = some m.cls := findClass_of_methodNamed B.named
  have hlocks := B.notSynchronized
  subst hsz
  have hD := hD0.self (sz := s.heap.size)
  generalize hAe : va_A [(h0, .inr (12, [.ref h1, .int 0, .ref h2, .ref h3, .ref h4, .ref h5, .ref h6, .ref h7, .int (-1), .ref h8, .ref h9, .int 250, .ref h10, .int 0, .ref h11, .ref h12, .ref h13]))] s.heap.size = A at hD hE ⊢
  have hA : ∀ q : Nat, s.heap.size ≤ q → A q := fun q h => by rw [← hAe]; exact Or.inr h
  have hK := hE.1
  have hS : va_S A s.heap s.heap [] := va_S.rf
  replace hP : va_P g.1 vwCl [(h0, .inr (12, [.ref h1, .int 0, .ref h2, .ref h3, .ref h4, .ref h5, .ref h6, .ref h7, .int (-1), .ref h8, .ref h9, .int 250, .ref h10, .int 0, .ref h11, .ref h12, .ref h13]))] s.heap := hP
  have hl := lv_entry ([.ref h0, .int v0]) (n := 2) (Nat.le_of_ble_eq_true rfl)
  rw [lg_entry_eq]
  generalize (lg_sl ([.ref h0, .int v0]) ++ List.replicate (2 - (lg_sl ([.ref h0, .int v0])).length) Slot.unset).toArray = ls at hl ⊢
  replace hl : lv_has ls 2 [(0, .ref h0), (1, .int v0)] := hl
  have hH0 : s.heap.size ≤ s.heap.size := Nat.le_refl _
  refine lv_iload_n hx hb dX11_outSign_0 rfl (lv_at hl 1 rfl) ?_
  refine lv_if_lt (tgt := 15) hx hb dX11_outSign_1 (by decide) (fun _ => ?_) (fun c9 => absurd (by simp only [Int32.lt_iff_toInt_lt, Int32.le_iff_toInt_le, ← Int32.toInt_inj, show (0 : Int32).toInt = 0 from by decide]; omega) c9)
  obtain ⟨sa, hsa⟩ := hE.str (263, "no such sign of the out") (by decide)
  exact vx_throwSW (names := ["java/lang/RuntimeException", "java/lang/Exception"]) (A := A) hx hb hlt hown (by decide) (by decide) (hts (.classLink RX11 220 "java/lang/IndexOutOfBoundsException") (List.mem_of_getElem? (i := 46) rfl)) (hts (.initialized "java/lang/IndexOutOfBoundsException") (List.mem_of_getElem? (i := 47) rfl)) hsa (vx_hat (B := [.castable "java/lang/IndexOutOfBoundsException" "java/lang/IndexOutOfBoundsException", .declares (Bundle.initS "java/lang/RuntimeException"), .declares (Bundle.initS "java/lang/Exception"), .declares (Bundle.initS "java/lang/Throwable")]) (fun w9 hw9 => hts w9 (by revert w9; decide +kernel)) (by decide +kernel) (vx_c (va_Nw.use rfl (hE.cast ("java/lang/IndexOutOfBoundsException", "java/lang/IndexOutOfBoundsException") (by decide))) (vx_c (va_Nw.use rfl (hE.decl _ (by decide))) (vx_c (va_Nw.use rfl (hE.decl _ (by decide))) (vx_c (va_Nw.use rfl (hE.decl _ (by decide))) vx_n))))) (by decide +kernel) hE.zu hE.zn hS (by rw [hml]; exact hl.1) dX11_outSign_15 dX11_outSign_18 dX11_outSign_19 dX11_outSign_22 dX11_outSign_25 (fun z hz => (hno z hz).elim) (Nat.le_of_ble_eq_true rfl) (Nat.le_of_ble_eq_true rfl) (Nat.le_of_ble_eq_true rfl) (Nat.le_of_ble_eq_true rfl) hlocks (fun t hW hz ho => ⟨(), trivial, rfl, by subst hAe; exact ⟨Nat.le_trans hS.1 hz, fun q h1 h2 => (ho q (Nat.lt_of_lt_of_le h1 hS.1)).trans (hS.2.1 q h1 h2)⟩⟩) (fun z hz => by subst hAe; exact hS.2.2 z hz) (Nat.le_of_ble_eq_true rfl) (Nat.le_of_ble_eq_true rfl)
def w9_L_outSign_1 : List Cond := [.codeWith yL_outSign cL_outSign 4 (some .int) [(0, 9, 12, 21)], .methodLink RL 74 yX11_outSign, .instanceMethod yX11_outSign, .selects RX11 yX11_outSign yX11_outSign, .initialized RX11, .code yX11_outSign cX11_outSign 2 (some .char), .initialized "java/lang/Throwable", .superclass "java/lang/Throwable" "java/lang/Object", .instanceMethod Bundle.tFill, .codeSync Bundle.tFill LibCode.Throwable.Fill.code 1 (some (.object "java/lang/Throwable")), .instanceMethod Bundle.tFill0, .native Bundle.tFill0, .instanceMethod Bundle.tInit0, .code Bundle.tInit0 LibCode.Throwable.Init0.code 1 none, .instanceMethod Bundle.oInit, .code Bundle.oInit ⟨#[0xb1]⟩ 1 none, .methodLink "java/lang/Throwable" 1 Bundle.oInit, .methodLink "java/lang/Throwable" 27 Bundle.tFill, .methodLink "java/lang/Throwable" 202 Bundle.tFill0, .fieldLink "java/lang/Throwable" 7 "java/lang/Throwable" "cause" "Ljava/lang/Throwable;", .lays "java/lang/Throwable" "java/lang/Throwable" "cause" "Ljava/lang/Throwable;", .fieldLink "java/lang/Throwable" 17 "java/lang/Throwable" "stackTrace" "[Ljava/lang/StackTraceElement;", .lays "java/lang/Throwable" "java/lang/Throwable" "stackTrace" "[Ljava/lang/StackTraceElement;", .fieldLink "java/lang/Throwable" 24 "java/lang/Throwable" "suppressedExceptions" "Ljava/util/List;", .lays "java/lang/Throwable" "java/lang/Throwable" "suppressedExceptions" "Ljava/util/List;", .fieldLink "java/lang/Throwable" 13 "java/lang/Throwable" "UNASSIGNED_STACK" "[Ljava/lang/StackTraceElement;", .fieldLink "java/lang/Throwable" 20 "java/lang/Throwable" "SUPPRESSED_SENTINEL" "Ljava/util/List;", .lays "java/lang/Throwable" "java/lang/Throwable" "detailMessage" "Ljava/lang/String;", .instanceMethod (Bundle.initS "java/lang/Throwable"), .code (Bundle.initS "java/lang/Throwable") LibCode.Throwable.InitS.code 2 none, .fieldLink "java/lang/Throwable" 31 "java/lang/Throwable" "detailMessage" "Ljava/lang/String;", .instanceMethod (Bundle.initS "java/lang/IndexOutOfBoundsException"), .code (Bundle.initS "java/lang/IndexOutOfBoundsException") Bundle.six 2 none, .methodLink "java/lang/IndexOutOfBoundsException" 7 (Bundle.initS "java/lang/RuntimeException"), .instanceMethod (Bundle.initS "java/lang/RuntimeException"), .code (Bundle.initS "java/lang/RuntimeException") Bundle.six 2 none, .methodLink "java/lang/RuntimeException" 7 (Bundle.initS "java/lang/Exception"), .instanceMethod (Bundle.initS "java/lang/Exception"), .code (Bundle.initS "java/lang/Exception") Bundle.six 2 none, .methodLink "java/lang/Exception" 7 (Bundle.initS "java/lang/Throwable"), .methodLink RX11 224 (Bundle.initS "java/lang/IndexOutOfBoundsException"), .instantiable "java/lang/IndexOutOfBoundsException" 6, .selects "java/lang/IndexOutOfBoundsException" Bundle.tFill0 Bundle.tFill0, .selects "java/lang/IndexOutOfBoundsException" Bundle.tFill Bundle.tFill, .lays "java/lang/IndexOutOfBoundsException" "java/lang/Throwable" "cause" "Ljava/lang/Throwable;", .lays "java/lang/IndexOutOfBoundsException" "java/lang/Throwable" "stackTrace" "[Ljava/lang/StackTraceElement;", .lays "java/lang/IndexOutOfBoundsException" "java/lang/Throwable" "suppressedExceptions" "Ljava/util/List;", .lays "java/lang/IndexOutOfBoundsException" "java/lang/Throwable" "detailMessage" "Ljava/lang/String;", .fieldLink "java/lang/Throwable" 198 "java/lang/Throwable" "backtrace" "Ljava/lang/Object;", .lays "java/lang/Throwable" "java/lang/Throwable" "backtrace" "Ljava/lang/Object;", .lays "java/lang/IndexOutOfBoundsException" "java/lang/Throwable" "backtrace" "Ljava/lang/Object;", .classLink RX11 220 "java/lang/IndexOutOfBoundsException", .initialized "java/lang/IndexOutOfBoundsException", .classLink RL 21 "java/lang/IndexOutOfBoundsException"]
set_option maxRecDepth 20000 in
theorem g9_L_outSign_1_0 : GoodIn w9_L_outSign_1 (wsV RL 74 RX11 yX11_outSign w9_X11_outSign_1) := goodIn_r _ [1, 2, 3, 4, 5, 6, 7, 8, 9, 10, 11, 12, 13, 14, 15, 16, 17, 18, 19, 20, 21, 22, 23, 24, 25, 26, 27, 28, 29, 30, 31, 32, 33, 34, 35, 36, 37, 38, 39, 40, 41, 42, 43, 44, 45, 46, 47, 48, 49, 50, 51, 52] (by decide +kernel) (by decide +kernel)
set_option maxHeartbeats 4000000 in
set_option maxRecDepth 100000 in
theorem c9_L_outSign_1 (l : Launch) (hlt : l.stackTraces = false) (g : G9) (h0 h1 h2 h3 h4 h5 h6 h7 h8 h9 h10 h11 h12 h13 h14 sz : Nat) (v0 : Int32) (k_v0 : (-2147483648) ≤ v0.toInt ∧ v0.toInt ≤ (-1)) : Met l yL_outSign w9_L_outSign_1 ({ frames := 7, cells := 1, slots := 6, locals := 103 }) (mP g [(h0, .inr (12, [.ref h2, .int 0, .ref h3, .ref h4, .ref h5, .ref h6, .ref h7, .ref h8, .int (-1), .ref h9, .ref h10, .int 250, .ref h11, .int 0, .ref h12, .ref h13, .ref h14]))] sz [.ref h0, .int v0, .ref h1]) (va_Qi (fun (r : Int32) (_ : Unit) => r = 1) (fun (_ : Unit) (t : State) => mB g [(h0, .inr (12, [.ref h2, .int 0, .ref h3, .ref h4, .ref h5, .ref h6, .ref h7, .ref h8, .int (-1), .ref h9, .ref h10, .int 250, .ref h11, .int 0, .ref h12, .ref h13, .ref h14]))] sz [] t) (va_A [(h0, .inr (12, [.ref h2, .int 0, .ref h3, .ref h4, .ref h5, .ref h6, .ref h7, .ref h8, .int (-1), .ref h9, .ref h10, .int 250, .ref h11, .int 0, .ref h12, .ref h13, .ref h14]))] sz)) 1 6 (va_A [(h0, .inr (12, [.ref h2, .int 0, .ref h3, .ref h4, .ref h5, .ref h6, .ref h7, .ref h8, .int (-1), .ref h9, .ref h10, .int 250, .ref h11, .int 0, .ref h12, .ref h13, .ref h14]))] sz) := by
  refine va_MetW (cc := cL_outSign) (maxL := 4) (ret := (some .int)) (by decide) rfl ?_
  intro p e s m args below meth c s₁ B hml hv
  obtain ⟨rfl, hsz, hP, hD0, hE⟩ := hv
  have hx := B.exec
  have hb := B.bytes
  have hr := B.returns
  have hts := atoms_spec (ws := w9_L_outSign_1) B.pre
  have hown : s.vm.findClass RL = some m.cls := findClass_of_methodNamed B.named
  have hlocks := B.notSynchronized
  have htab := vx_table (x := yL_outSign) B (hts (.codeWith yL_outSign cL_outSign 4 (some .int) [(0, 9, 12, 21)]) (List.mem_of_getElem? (i := 0) rfl))
  subst hsz
  have hD := hD0.self (sz := s.heap.size)
  generalize hAe : va_A [(h0, .inr (12, [.ref h2, .int 0, .ref h3, .ref h4, .ref h5, .ref h6, .ref h7, .ref h8, .int (-1), .ref h9, .ref h10, .int 250, .ref h11, .int 0, .ref h12, .ref h13, .ref h14]))] s.heap.size = A at hD hE ⊢
  have hA : ∀ q : Nat, s.heap.size ≤ q → A q := fun q h => by rw [← hAe]; exact Or.inr h
  have hK := hE.1
  have hS : va_S A s.heap s.heap [] := va_S.rf
  replace hP : va_P g.1 vwCl [(h0, .inr (12, [.ref h2, .int 0, .ref h3, .ref h4, .ref h5, .ref h6, .ref h7, .ref h8, .int (-1), .ref h9, .ref h10, .int 250, .ref h11, .int 0, .ref h12, .ref h13, .ref h14]))] s.heap := hP
  have hl := lv_entry ([.ref h0, .int v0, .ref h1]) (n := 4) (Nat.le_of_ble_eq_true rfl)
  rw [lg_entry_eq]
  generalize (lg_sl ([.ref h0, .int v0, .ref h1]) ++ List.replicate (4 - (lg_sl ([.ref h0, .int v0, .ref h1])).length) Slot.unset).toArray = ls at hl ⊢
  replace hl : lv_has ls 4 [(0, .ref h0), (1, .int v0), (2, .ref h1)] := hl
  have hH0 : s.heap.size ≤ s.heap.size := Nat.le_refl _
  refine lv_aload_n hx hb dL_outSign_0 rfl (lv_at hl 2 rfl) ?_
  refine lv_iconst (v := 0) hx hb dL_outSign_1 (by decide) ?_
  refine lv_aload_n hx hb dL_outSign_2 rfl (lv_at hl 0 rfl) ?_
  refine lv_iload_n hx hb dL_outSign_3 rfl (lv_at hl 1 rfl) ?_
  have hPc := hP.sub (ws' := [(h0, .inr (12, [.ref h2, .int 0, .ref h3, .ref h4, .ref h5, .ref h6, .ref h7, .ref h8, .int (-1), .ref h9, .ref h10, .int 250, .ref h11, .int 0, .ref h12, .ref h13, .ref h14]))]) [0] rfl
  have hDc := hD.sub (ws' := [(h0, .inr (12, [.ref h2, .int 0, .ref h3, .ref h4, .ref h5, .ref h6, .ref h7, .ref h8, .int (-1), .ref h9, .ref h10, .int 250, .ref h11, .int 0, .ref h12, .ref h13, .ref h14]))]) [0] (by decide) rfl
  have hFc := va_free (wc := [(h0, .inr (12, [.ref h2, .int 0, .ref h3, .ref h4, .ref h5, .ref h6, .ref h7, .ref h8, .int (-1), .ref h9, .ref h10, .int 250, .ref h11, .int 0, .ref h12, .ref h13, .ref h14]))]) hD hS hA [0] rfl
  refine vx_callv (vx_runV (As := [.int v0]) (rest := [.int 0, .ref h1]) ⟨hx, hb, hml, hown, hts⟩ (c9_X11_outSign_1 l hlt g h0 h2 h3 h4 h5 h6 h7 h8 h9 h10 h11 h12 h13 h14 _ v0 (by omega)) (cwV 1 hts g9_L_outSign_1_0 rfl rfl rfl (by decide +kernel) ⟨Nat.le_of_ble_eq_true rfl, Nat.le_of_ble_eq_true rfl⟩) (mPreV (g := g) (wc := [(h0, .inr (12, [.ref h2, .int 0, .ref h3, .ref h4, .ref h5, .ref h6, .ref h7, .ref h8, .int (-1), .ref h9, .ref h10, .int 250, .ref h11, .int 0, .ref h12, .ref h13, .ref h14]))]) (C := RX11) (ci := 12) (q0 := 0) hE hS hPc hDc hFc rfl rfl) rfl rfl hl.1 rfl (lv_room (Nat.le_of_ble_eq_true rfl)) dL_outSign_4 ⟨Nat.le_of_ble_eq_true rfl, Nat.le_of_ble_eq_true rfl⟩) hS (fun q _ h => hFc q h) hFc (fun q _ h => hFc q h) (fun E9 ce q9 u t H locs ht hvm hw hB hz1 hk1 hS hc1 hc2 hc3 => ?_) (fun u t H1 locs ht hvm hw hB hz1 hk1 hS => hw.elim)
  replace hB : E9 = "java/lang/IndexOutOfBoundsException" := hB
  subst hB
  obtain ⟨hP, hD⟩ := va_join (wr := []) (w1 := []) hP hD [0] [] rfl rfl (by decide) (by decide) hk1 hFc (fun k q h => by simp at h) ⟨fun i j p q h => by simp at h, fun k q h => by simp at h⟩
  have hP : va_P g.1 vwCl [] H := hP
  have hD : va_D A [] := hD
  refine vx_catch (own := RL) (name := "java/lang/IndexOutOfBoundsException") hown [] ⟨0, 9, 12, 21⟩ [] (by rw [htab]; rfl) (fun z hz => absurd hz List.not_mem_nil) (by decide) (by decide) (hts (.classLink RL 21 "java/lang/IndexOutOfBoundsException") (List.mem_of_getElem? (i := 53) rfl)) (va_Nw.use rfl (hE.cast ("java/lang/IndexOutOfBoundsException", "java/lang/IndexOutOfBoundsException") (by decide))) hc1 hc2 hc3 ?_
  refine lv_astore_n (lv' := [(3, .ref q9), (0, .ref h0), (1, .int v0), (2, .ref h1)]) hx hb dL_outSign_12 rfl hl (by decide) rfl (fun ls hl => ?_)
  refine lv_iconst (v := 1) hx hb dL_outSign_13 (by decide) ?_
  have hP9 := hP.sub (ws' := []) [] rfl
  have hD9 := hD.sub (ws' := []) [] (by decide) rfl
  subst hAe
  exact W.iret (v := 1) hx hb hr (fun t ht hW => ⟨⟨1, (), rfl, rfl, by rw [ht]; exact hP9, hD9⟩, hS.F ht⟩) hS.2.2 dL_outSign_14
def w9_X21_outSign_1 : List Cond := [.code yX21_outSign cX21_outSign 2 (some .char), .fieldLink RX21 448 "RegexloomModel" "outLength" "I", .methodLink RX21 160 yX21_in, .static yX21_in, .initialized RX21, .code yX21_in cX21_in 3 (some .boolean), .methodLink RX21 154 yX21_refused, .instanceMethod yX21_refused, .selects RX21 yX21_refused yX21_refused, .code yX21_refused cX21_refused 2 (some .boolean), .fieldLink RX21 144 "RegexloomModel" "refusal" "I"] ++ (u_ws RX21 TX21 32)
set_option maxRecDepth 20000 in
theorem in9_X21_outSign_1_RX21 : ∀ w ∈ u_ws RX21 TX21 32, w ∈ w9_X21_outSign_1 := by decide +kernel
set_option maxRecDepth 20000 in
theorem g9_X21_outSign_1_0 : GoodIn w9_X21_outSign_1 (va_wsS RX21 160 yX21_in w9_X21_in_23) := goodIn_r _ [2, 3, 4, 5] (by decide +kernel) (by decide +kernel)
set_option maxRecDepth 20000 in
theorem g9_X21_outSign_1_1 : GoodIn w9_X21_outSign_1 (wsV RX21 154 RX21 yX21_refused w9_X21_refused_2) := goodIn_r _ [6, 7, 8, 4, 9, 10, 11, 12, 13, 14, 15, 16, 17, 18, 19, 20, 21, 22, 23, 24, 25, 26, 27, 28, 29, 30, 31, 32, 33, 34, 35, 36, 37, 38, 39, 40, 41, 42] (by decide +kernel) (by decide +kernel)
set_option maxHeartbeats 4000000 in
set_option maxRecDepth 100000 in
theorem c9_X21_outSign_1 (l : Launch) (g : G9) (h0 h1 h2 h3 h4 h5 h6 h7 h8 h9 h10 h11 h12 h13 h14 h15 h16 sz : Nat) (v0 : Int32) (k_v0 : (-2147483648) ≤ v0.toInt ∧ v0.toInt ≤ (-1)) : Met l yX21_outSign w9_X21_outSign_1 ({ frames := 1, cells := 0, slots := 0, locals := 22 }) (mP g [(h0, .inr (22, [.int 0, .ref h1, .int 0, .ref h2, .int 0, .ref h3, .int 250, .ref h4, .int 0, .ref h5, .ref h6, .ref h7, .int 0, .ref h8, .ref h9, .ref h10, .int 0, .null, .int 0, .null, .int 0, .int 0, .int 0, .ref h11, .int 0, .ref h12, .ref h13, .ref h14, .int 0, .ref h15, .ref h16, .int 0]))] sz [.ref h0, .int v0]) (va_Qi (fun (r : Int32) (_ : Unit) => r = 32) (fun (_ : Unit) (t : State) => mB g [(h0, .inr (22, [.int 0, .ref h1, .int 0, .ref h2, .int 0, .ref h3, .int 250, .ref h4, .int 0, .ref h5, .ref h6, .ref h7, .int 0, .ref h8, .ref h9, .ref h10, .int 0, .null, .int 0, .null, .int 0, .int 0, .int 0, .ref h11, .int 0, .ref h12, .ref h13, .ref h14, .int 0, .ref h15, .ref h16, .int 0]))] sz [(h0, .inr (22, [.int 1, .ref h1, .int 0, .ref h2, .int 0, .ref h3, .int 250, .ref h4, .int 0, .ref h5, .ref h6, .ref h7, .int 0, .ref h8, .ref h9, .ref h10, .int 0, .null, .int 0, .null, .int 0, .int 0, .int 0, .ref h11, .int 0, .ref h12, .ref h13, .ref h14, .int 0, .ref h15, .ref h16, .int 0]))] t) (va_A [(h0, .inr (22, [.int 0, .ref h1, .int 0, .ref h2, .int 0, .ref h3, .int 250, .ref h4, .int 0, .ref h5, .ref h6, .ref h7, .int 0, .ref h8, .ref h9, .ref h10, .int 0, .null, .int 0, .null, .int 0, .int 0, .int 0, .ref h11, .int 0, .ref h12, .ref h13, .ref h14, .int 0, .ref h15, .ref h16, .int 0]))] sz)) 0 0 (va_A [(h0, .inr (22, [.int 0, .ref h1, .int 0, .ref h2, .int 0, .ref h3, .int 250, .ref h4, .int 0, .ref h5, .ref h6, .ref h7, .int 0, .ref h8, .ref h9, .ref h10, .int 0, .null, .int 0, .null, .int 0, .int 0, .int 0, .ref h11, .int 0, .ref h12, .ref h13, .ref h14, .int 0, .ref h15, .ref h16, .int 0]))] sz) := by
  refine Met.ofW (cc := cX21_outSign) (maxL := 2) (ret := (some .char)) (by decide) rfl ?_
  intro p e s m args below meth c s₁ B hml hv
  obtain ⟨rfl, hsz, hP, hD0, hE⟩ := hv
  have hx := B.exec
  have hb := B.bytes
  have hr := B.returns
  have hts := atoms_spec (ws := w9_X21_outSign_1) B.pre
  have hown : s.vm.findClass RX21 = some m.cls := findClass_of_methodNamed B.named
  have hlocks := B.notSynchronized
  subst hsz
  have hD := hD0.self (sz := s.heap.size)
  generalize hAe : va_A [(h0, .inr (22, [.int 0, .ref h1, .int 0, .ref h2, .int 0, .ref h3, .int 250, .ref h4, .int 0, .ref h5, .ref h6, .ref h7, .int 0, .ref h8, .ref h9, .ref h10, .int 0, .null, .int 0, .null, .int 0, .int 0, .int 0, .ref h11, .int 0, .ref h12, .ref h13, .ref h14, .int 0, .ref h15, .ref h16, .int 0]))] s.heap.size = A at hD hE ⊢
  have hA : ∀ q : Nat, s.heap.size ≤ q → A q := fun q h => by rw [← hAe]; exact Or.inr h
  have hK := hE.1
  have hS : va_S A s.heap s.heap [] := va_S.rf
  replace hP : va_P g.1 vwCl [(h0, .inr (22, [.int 0, .ref h1, .int 0, .ref h2, .int 0, .ref h3, .int 250, .ref h4, .int 0, .ref h5, .ref h6, .ref h7, .int 0, .ref h8, .ref h9, .ref h10, .int 0, .null, .int 0, .null, .int 0, .int 0, .int 0, .ref h11, .int 0, .ref h12, .ref h13, .ref h14, .int 0, .ref h15, .ref h16, .int 0]))] s.heap := hP
  have hl := lv_entry ([.ref h0, .int v0]) (n := 2) (Nat.le_of_ble_eq_true rfl)
  rw [lg_entry_eq]
  generalize (lg_sl ([.ref h0, .int v0]) ++ List.replicate (2 - (lg_sl ([.ref h0, .int v0])).length) Slot.unset).toArray = ls at hl ⊢
  replace hl : lv_has ls 2 [(0, .ref h0), (1, .int v0)] := hl
  have hH0 : s.heap.size ≤ s.heap.size := Nat.le_refl _
  refine lv_aload_n hx hb dX21_outSign_0 rfl (lv_at hl 0 rfl) ?_
  refine lv_iload_n hx hb dX21_outSign_1 rfl (lv_at hl 1 rfl) ?_
  refine lv_iconst (v := 0) hx hb dX21_outSign_2 (by decide) ?_
  refine lv_aload_n hx hb dX21_outSign_3 rfl (lv_at hl 0 rfl) ?_
  refine va_get (D := g.1) (ci := 22) (v := .int 0) (C := RX21) (T := TX21) (N := 32) hx hb hts in9_X21_outSign_1_RX21 hown hK hP 0 rfl rfl 8 (by decide) (hts (.fieldLink RX21 448 "RegexloomModel" "outLength" "I") (List.mem_of_getElem? (i := 1) rfl)) (fun _ h9 => h9) rfl dX21_outSign_4 ?_
  refine lv_iconst (v := 1) hx hb dX21_outSign_7 (by decide) ?_
  refine lv_isub hx hb dX21_outSign_8 ?_
  refine e_top (y := (-1)) (by decide) ?_
  have hPc := hP.sub (ws' := []) [] rfl
  have hDc := hD.sub (ws' := []) [] (by decide) rfl
  have hFc := va_free (wc := []) hD hS hA [] rfl
  refine va_calli (va_runS (As := [.int v0, .int 0, .int (-1)]) (rest := [.ref h0]) ⟨hx, hb, hml, hown, hts⟩ (c9_X21_in_23 l g _ v0 (by omega)) (va_cwS 3 hts g9_X21_outSign_1_0 rfl rfl rfl (by decide +kernel) ⟨Nat.le_of_ble_eq_true rfl, Nat.le_of_ble_eq_true rfl⟩) (mPreS (g := g) (wc := []) hE hS hPc hDc hFc) rfl rfl hl.1 rfl (lv_room (Nat.le_of_ble_eq_true rfl)) dX21_outSign_9 ⟨Nat.le_of_ble_eq_true rfl, Nat.le_of_ble_eq_true rfl⟩) hS (fun q _ h => hFc q h) hFc (fun r_1 u t H1 locs ht hvm hw hB hz1 hk1 hS => ?_)
  replace hw : 0 = r_1 := Eq.symm hw
  subst hw
  obtain ⟨hP1, hD1⟩ := hB
  rw [ht] at hP1
  obtain ⟨hP, hD⟩ := va_join (wr := [(h0, .inr (22, [.int 0, .ref h1, .int 0, .ref h2, .int 0, .ref h3, .int 250, .ref h4, .int 0, .ref h5, .ref h6, .ref h7, .int 0, .ref h8, .ref h9, .ref h10, .int 0, .null, .int 0, .null, .int 0, .int 0, .int 0, .ref h11, .int 0, .ref h12, .ref h13, .ref h14, .int 0, .ref h15, .ref h16, .int 0]))]) (w1 := []) hP hD [] [0] rfl rfl (by decide) (by decide) hk1 hFc hP1 hD1
  clear hP1 hD1 hPc hDc hFc hk1 hz1 hvm ht
  generalize H1 = H at hP hS ⊢
  have hP : va_P g.1 vwCl [(h0, .inr (22, [.int 0, .ref h1, .int 0, .ref h2, .int 0, .ref h3, .int 250, .ref h4, .int 0, .ref h5, .ref h6, .ref h7, .int 0, .ref h8, .ref h9, .ref h10, .int 0, .null, .int 0, .null, .int 0, .int 0, .int 0, .ref h11, .int 0, .ref h12, .ref h13, .ref h14, .int 0, .ref h15, .ref h16, .int 0]))] H := hP
  have hD : va_D A [(h0, .inr (22, [.int 0, .ref h1, .int 0, .ref h2, .int 0, .ref h3, .int 250, .ref h4, .int 0, .ref h5, .ref h6, .ref h7, .int 0, .ref h8, .ref h9, .ref h10, .int 0, .null, .int 0, .null, .int 0, .int 0, .int 0, .ref h11, .int 0, .ref h12, .ref h13, .ref h14, .int 0, .ref h15, .ref h16, .int 0]))] := hD
  refine lv_if_eq (tgt := 19) hx hb dX21_outSign_12 (by decide) (fun _ => ?_) (fun c9 => absurd (by decide) c9)
  refine lv_iconst (v := 1) hx hb dX21_outSign_19 (by decide) ?_
  have hPc := hP.sub (ws' := [(h0, .inr (22, [.int 0, .ref h1, .int 0, .ref h2, .int 0, .ref h3, .int 250, .ref h4, .int 0, .ref h5, .ref h6, .ref h7, .int 0, .ref h8, .ref h9, .ref h10, .int 0, .null, .int 0, .null, .int 0, .int 0, .int 0, .ref h11, .int 0, .ref h12, .ref h13, .ref h14, .int 0, .ref h15, .ref h16, .int 0]))]) [0] rfl
  have hDc := hD.sub (ws' := [(h0, .inr (22, [.int 0, .ref h1, .int 0, .ref h2, .int 0, .ref h3, .int 250, .ref h4, .int 0, .ref h5, .ref h6, .ref h7, .int 0, .ref h8, .ref h9, .ref h10, .int 0, .null, .int 0, .null, .int 0, .int 0, .int 0, .ref h11, .int 0, .ref h12, .ref h13, .ref h14, .int 0, .ref h15, .ref h16, .int 0]))]) [0] (by decide) rfl
  have hFc := va_free (wc := [(h0, .inr (22, [.int 0, .ref h1, .int 0, .ref h2, .int 0, .ref h3, .int 250, .ref h4, .int 0, .ref h5, .ref h6, .ref h7, .int 0, .ref h8, .ref h9, .ref h10, .int 0, .null, .int 0, .null, .int 0, .int 0, .int 0, .ref h11, .int 0, .ref h12, .ref h13, .ref h14, .int 0, .ref h15, .ref h16, .int 0]))]) hD hS hA [0] rfl
  refine va_calli (va_runV (As := [.int 1]) (rest := []) ⟨hx, hb, hml, hown, hts⟩ (c9_X21_refused_2 l g h0 h1 h2 h3 h4 h5 h6 h7 h8 h9 h10 h11 h12 h13 h14 h15 h16 _) (cwV 1 hts g9_X21_outSign_1_1 rfl rfl rfl (by decide +kernel) ⟨Nat.le_of_ble_eq_true rfl, Nat.le_of_ble_eq_true rfl⟩) (mPreV (g := g) (wc := [(h0, .inr (22, [.int 0, .ref h1, .int 0, .ref h2, .int 0, .ref h3, .int 250, .ref h4, .int 0, .ref h5, .ref h6, .ref h7, .int 0, .ref h8, .ref h9, .ref h10, .int 0, .null, .int 0, .null, .int 0, .int 0, .int 0, .ref h11, .int 0, .ref h12, .ref h13, .ref h14, .int 0, .ref h15, .ref h16, .int 0]))]) (C := RX21) (ci := 22) (q0 := 0) hE hS hPc hDc hFc rfl rfl) rfl rfl hl.1 rfl (lv_room (Nat.le_of_ble_eq_true rfl)) dX21_outSign_20 ⟨Nat.le_of_ble_eq_true rfl, Nat.le_of_ble_eq_true rfl⟩) hS (fun q _ h => hFc q h) hFc (fun r_2 u t H1 locs ht hvm hw hB hz1 hk1 hS => ?_)
  replace hw : 1 = r_2 := Eq.symm hw
  subst hw
  obtain ⟨hP1, hD1⟩ := hB
  rw [ht] at hP1
  obtain ⟨hP, hD⟩ := va_join (wr := []) (w1 := [(h0, .inr (22, [.int 1, .ref h1, .int 0, .ref h2, .int 0, .ref h3, .int 250, .ref h4, .int 0, .ref h5, .ref h6, .ref h7, .int 0, .ref h8, .ref h9, .ref h10, .int 0, .null, .int 0, .null, .int 0, .int 0, .int 0, .ref h11, .int 0, .ref h12, .ref h13, .ref h14, .int 0, .ref h15, .ref h16, .int 0]))]) hP hD [0] [] rfl rfl (by decide) (by decide) hk1 hFc hP1 hD1
  clear hP1 hD1 hPc hDc hFc hk1 hz1 hvm ht
  generalize H1 = H at hP hS ⊢
  have hP : va_P g.1 vwCl [(h0, .inr (22, [.int 1, .ref h1, .int 0, .ref h2, .int 0, .ref h3, .int 250, .ref h4, .int 0, .ref h5, .ref h6, .ref h7, .int 0, .ref h8, .ref h9, .ref h10, .int 0, .null, .int 0, .null, .int 0, .int 0, .int 0, .ref h11, .int 0, .ref h12, .ref h13, .ref h14, .int 0, .ref h15, .ref h16, .int 0]))] H := hP
  have hD : va_D A [(h0, .inr (22, [.int 1, .ref h1, .int 0, .ref h2, .int 0, .ref h3, .int 250, .ref h4, .int 0, .ref h5, .ref h6, .ref h7, .int 0, .ref h8, .ref h9, .ref h10, .int 0, .null, .int 0, .null, .int 0, .int 0, .int 0, .ref h11, .int 0, .ref h12, .ref h13, .ref h14, .int 0, .ref h15, .ref h16, .int 0]))] := hD
  refine lv_if_eq (tgt := 31) hx hb dX21_outSign_23 (by decide) (fun c9 => absurd c9 (by decide)) (fun _ => ?_)
  refine lv_bipush (v := 32) hx hb dX21_outSign_26 (by decide) ?_
  refine lv_goto (tgt := 38) hx hb dX21_outSign_28 (by decide) ?_
  have hP9 := hP.sub (ws' := [(h0, .inr (22, [.int 1, .ref h1, .int 0, .ref h2, .int 0, .ref h3, .int 250, .ref h4, .int 0, .ref h5, .ref h6, .ref h7, .int 0, .ref h8, .ref h9, .ref h10, .int 0, .null, .int 0, .null, .int 0, .int 0, .int 0, .ref h11, .int 0, .ref h12, .ref h13, .ref h14, .int 0, .ref h15, .ref h16, .int 0]))]) [0] rfl
  have hD9 := hD.sub (ws' := [(h0, .inr (22, [.int 1, .ref h1, .int 0, .ref h2, .int 0, .ref h3, .int 250, .ref h4, .int 0, .ref h5, .ref h6, .ref h7, .int 0, .ref h8, .ref h9, .ref h10, .int 0, .null, .int 0, .null, .int 0, .int 0, .int 0, .ref h11, .int 0, .ref h12, .ref h13, .ref h14, .int 0, .ref h15, .ref h16, .int 0]))]) [0] (by decide) rfl
  subst hAe
  exact W.zret (v := 32) hx hb hr (by decide) (fun t ht hW => ⟨⟨32, (), rfl, rfl, by rw [ht]; exact hP9, hD9⟩, hS.F ht⟩) hS.2.2 dX21_outSign_38
def w9_X9_size_4 : List Cond := [.code yX9_size cX9_size 1 (some .int), .fieldLink RX9 28 "Regexloom$Table" "size" "I"] ++ (u_ws RX9 TX9 4)
set_option maxRecDepth 20000 in
theorem in9_X9_size_4_RX9 : ∀ w ∈ u_ws RX9 TX9 4, w ∈ w9_X9_size_4 := by decide +kernel
set_option maxHeartbeats 4000000 in
set_option maxRecDepth 100000 in
theorem c9_X9_size_4 (l : Launch) (g : G9) (h0 h1 sz : Nat) : Met l yX9_size w9_X9_size_4 ({ frames := 0, cells := 0, slots := 0, locals := 0 }) (mP g [(h0, .inr (10, [.int 1, .int 100, .ref h1, .int 0]))] sz [.ref h0]) (va_Qi (fun (r : Int32) (_ : Unit) => r = 0) (fun (_ : Unit) (t : State) => mB g [(h0, .inr (10, [.int 1, .int 100, .ref h1, .int 0]))] sz [(h0, .inr (10, [.int 1, .int 100, .ref h1, .int 0]))] t) (va_A [(h0, .inr (10, [.int 1, .int 100, .ref h1, .int 0]))] sz)) 0 0 (va_A [(h0, .inr (10, [.int 1, .int 100, .ref h1, .int 0]))] sz) := by
  refine Met.ofW (cc := cX9_size) (maxL := 1) (ret := (some .int)) (by decide) rfl ?_
  intro p e s m args below meth c s₁ B hml hv
  obtain ⟨rfl, hsz, hP, hD0, hE⟩ := hv
  have hx := B.exec
  have hb := B.bytes
  have hr := B.returns
  have hts := atoms_spec (ws := w9_X9_size_4) B.pre
  have hown : s.vm.findClass RX9 = some m.cls := findClass_of_methodNamed B.named
  have hlocks := B.notSynchronized
  subst hsz
  have hD := hD0.self (sz := s.heap.size)
  generalize hAe : va_A [(h0, .inr (10, [.int 1, .int 100, .ref h1, .int 0]))] s.heap.size = A at hD hE ⊢
  have hA : ∀ q : Nat, s.heap.size ≤ q → A q := fun q h => by rw [← hAe]; exact Or.inr h
  have hK := hE.1
  have hS : va_S A s.heap s.heap [] := va_S.rf
  replace hP : va_P g.1 vwCl [(h0, .inr (10, [.int 1, .int 100, .ref h1, .int 0]))] s.heap := hP
  have hl := lv_entry ([.ref h0]) (n := 1) (Nat.le_of_ble_eq_true rfl)
  rw [lg_entry_eq]
  generalize (lg_sl ([.ref h0]) ++ List.replicate (1 - (lg_sl ([.ref h0])).length) Slot.unset).toArray = ls at hl ⊢
  replace hl : lv_has ls 1 [(0, .ref h0)] := hl
  have hH0 : s.heap.size ≤ s.heap.size := Nat.le_refl _
  refine lv_aload_n hx hb dX9_size_0 rfl (lv_at hl 0 rfl) ?_
  refine va_get (D := g.1) (ci := 10) (v := .int 0) (C := RX9) (T := TX9) (N := 4) hx hb hts in9_X9_size_4_RX9 hown hK hP 0 rfl rfl 3 (by decide) (hts (.fieldLink RX9 28 "Regexloom$Table" "size" "I") (List.mem_of_getElem? (i := 1) rfl)) (fun _ h9 => h9) rfl dX9_size_1 ?_
  have hP9 := hP.sub (ws' := [(h0, .inr (10, [.int 1, .int 100, .ref h1, .int 0]))]) [0] rfl
  have hD9 := hD.sub (ws' := [(h0, .inr (10, [.int 1, .int 100, .ref h1, .int 0]))]) [0] (by decide) rfl
  subst hAe
  exact W.iret (v := 0) hx hb hr (fun t ht hW => ⟨⟨0, (), rfl, rfl, by rw [ht]; exact hP9, hD9⟩, hS.F ht⟩) hS.2.2 dX9_size_4
def w9_X2_size_1 : List Cond := [.code yX2_size cX2_size 1 (some .int), .fieldLink RX2 14 "Regexloom$Out" "signs" "LRegexloom$Table;", .methodLink RX2 28 yX9_size, .instanceMethod yX9_size, .selects RX9 yX9_size yX9_size, .initialized RX9, .code yX9_size cX9_size 1 (some .int), .fieldLink RX9 28 "Regexloom$Table" "size" "I"] ++ (u_ws RX2 TX2 2 ++ u_ws RX9 TX9 4)
set_option maxRecDepth 20000 in
theorem in9_X2_size_1_RX2 : ∀ w ∈ u_ws RX2 TX2 2, w ∈ w9_X2_size_1 := by decide +kernel
set_option maxRecDepth 20000 in
theorem in9_X2_size_1_RX9 : ∀ w ∈ u_ws RX9 TX9 4, w ∈ w9_X2_size_1 := by decide +kernel
set_option maxRecDepth 20000 in
theorem g9_X2_size_1_0 : GoodIn w9_X2_size_1 (wsV RX2 28 RX9 yX9_size w9_X9_size_4) := goodIn_r _ [2, 3, 4, 5, 6, 7, 10, 11, 12, 13] (by decide +kernel) (by decide +kernel)
set_option maxHeartbeats 4000000 in
set_option maxRecDepth 100000 in
theorem c9_X2_size_1 (l : Launch) (g : G9) (h0 h1 h2 sz : Nat) : Met l yX2_size w9_X2_size_1 ({ frames := 1, cells := 0, slots := 0, locals := 20 }) (mP g [(h0, .inr (5, [.ref h1, .int 0])), (h1, .inr (10, [.int 1, .int 100, .ref h2, .int 0]))] sz [.ref h0]) (va_Qi (fun (r : Int32) (_ : Unit) => r = 0) (fun (_ : Unit) (t : State) => mB g [(h0, .inr (5, [.ref h1, .int 0])), (h1, .inr (10, [.int 1, .int 100, .ref h2, .int 0]))] sz [(h0, .inr (5, [.ref h1, .int 0])), (h1, .inr (10, [.int 1, .int 100, .ref h2, .int 0]))] t) (va_A [(h0, .inr (5, [.ref h1, .int 0])), (h1, .inr (10, [.int 1, .int 100, .ref h2, .int 0]))] sz)) 0 0 (va_A [(h0, .inr (5, [.ref h1, .int 0])), (h1, .inr (10, [.int 1, .int 100, .ref h2, .int 0]))] sz) := by
  refine Met.ofW (cc := cX2_size) (maxL := 1) (ret := (some .int)) (by decide) rfl ?_
  intro p e s m args below meth c s₁ B hml hv
  obtain ⟨rfl, hsz, hP, hD0, hE⟩ := hv
  have hx := B.exec
  have hb := B.bytes
  have hr := B.returns
  have hts := atoms_spec (ws := w9_X2_size_1) B.pre
  have hown : s.vm.findClass RX2 = some m.cls := findClass_of_methodNamed B.named
  have hlocks := B.notSynchronized
  subst hsz
  have hD := hD0.self (sz := s.heap.size)
  generalize hAe : va_A [(h0, .inr (5, [.ref h1, .int 0])), (h1, .inr (10, [.int 1, .int 100, .ref h2, .int 0]))] s.heap.size = A at hD hE ⊢
  have hA : ∀ q : Nat, s.heap.size ≤ q → A q := fun q h => by rw [← hAe]; exact Or.inr h
  have hK := hE.1
  have hS : va_S A s.heap s.heap [] := va_S.rf
  replace hP : va_P g.1 vwCl [(h0, .inr (5, [.ref h1, .int 0])), (h1, .inr (10, [.int 1, .int 100, .ref h2, .int 0]))] s.heap := hP
  have hl := lv_entry ([.ref h0]) (n := 1) (Nat.le_of_ble_eq_true rfl)
  rw [lg_entry_eq]
  generalize (lg_sl ([.ref h0]) ++ List.replicate (1 - (lg_sl ([.ref h0])).length) Slot.unset).toArray = ls at hl ⊢
  replace hl : lv_has ls 1 [(0, .ref h0)] := hl
  have hH0 : s.heap.size ≤ s.heap.size := Nat.le_refl _
  refine lv_aload_n hx hb dX2_size_0 rfl (lv_at hl 0 rfl) ?_
  refine va_get (D := g.1) (ci := 5) (v := .ref h1) (C := RX2) (T := TX2) (N := 2) hx hb hts in9_X2_size_1_RX2 hown hK hP 0 rfl rfl 0 (by decide) (hts (.fieldLink RX2 14 "Regexloom$Out" "signs" "LRegexloom$Table;") (List.mem_of_getElem? (i := 1) rfl)) (fun _ h9 => h9) rfl dX2_size_1 ?_
  have hPc := hP.sub (ws' := [(h1, .inr (10, [.int 1, .int 100, .ref h2, .int 0]))]) [1] rfl
  have hDc := hD.sub (ws' := [(h1, .inr (10, [.int 1, .int 100, .ref h2, .int 0]))]) [1] (by decide) rfl
  have hFc := va_free (wc := [(h1, .inr (10, [.int 1, .int 100, .ref h2, .int 0]))]) hD hS hA [1] rfl
  refine va_calli (va_runV (As := []) (rest := []) ⟨hx, hb, hml, hown, hts⟩ (c9_X9_size_4 l g h1 h2 _) (cwV 0 hts g9_X2_size_1_0 rfl rfl rfl (by decide +kernel) ⟨Nat.le_of_ble_eq_true rfl, Nat.le_of_ble_eq_true rfl⟩) (mPreV (g := g) (wc := [(h1, .inr (10, [.int 1, .int 100, .ref h2, .int 0]))]) (C := RX9) (ci := 10) (q0 := 0) hE hS hPc hDc hFc rfl rfl) rfl rfl hl.1 rfl (lv_room (Nat.le_of_ble_eq_true rfl)) dX2_size_4 ⟨Nat.le_of_ble_eq_true rfl, Nat.le_of_ble_eq_true rfl⟩) hS (fun q _ h => hFc q h) hFc (fun r_1 u t H1 locs ht hvm hw hB hz1 hk1 hS => ?_)
  replace hw : 0 = r_1 := Eq.symm hw
  subst hw
  obtain ⟨hP1, hD1⟩ := hB
  rw [ht] at hP1
  obtain ⟨hP, hD⟩ := va_join (wr := [(h0, .inr (5, [.ref h1, .int 0]))]) (w1 := [(h1, .inr (10, [.int 1, .int 100, .ref h2, .int 0]))]) hP hD [1] [0] rfl rfl (by decide) (by decide) hk1 hFc hP1 hD1
  clear hP1 hD1 hPc hDc hFc hk1 hz1 hvm ht
  generalize H1 = H at hP hS ⊢
  have hP : va_P g.1 vwCl [(h0, .inr (5, [.ref h1, .int 0])), (h1, .inr (10, [.int 1, .int 100, .ref h2, .int 0]))] H := hP
  have hD : va_D A [(h0, .inr (5, [.ref h1, .int 0])), (h1, .inr (10, [.int 1, .int 100, .ref h2, .int 0]))] := hD
  have hP9 := hP.sub (ws' := [(h0, .inr (5, [.ref h1, .int 0])), (h1, .inr (10, [.int 1, .int 100, .ref h2, .int 0]))]) [0, 1] rfl
  have hD9 := hD.sub (ws' := [(h0, .inr (5, [.ref h1, .int 0])), (h1, .inr (10, [.int 1, .int 100, .ref h2, .int 0]))]) [0, 1] (by decide) rfl
  subst hAe
  exact W.iret (v := 0) hx hb hr (fun t ht hW => ⟨⟨0, (), rfl, rfl, by rw [ht]; exact hP9, hD9⟩, hS.F ht⟩) hS.2.2 dX2_size_7
def w9_X11_outSign_2 : List Cond := [.code yX11_outSign cX11_outSign 2 (some .char), .fieldLink RX11 88 "Regexloom" "out" "LRegexloom$Out;", .methodLink RX11 262 yX2_size, .instanceMethod yX2_size, .selects RX2 yX2_size yX2_size, .initialized RX2, .code yX2_size cX2_size 1 (some .int), .fieldLink RX2 14 "Regexloom$Out" "signs" "LRegexloom$Table;", .methodLink RX2 28 yX9_size, .instanceMethod yX9_size, .selects RX9 yX9_size yX9_size, .initialized RX9, .code yX9_size cX9_size 1 (some .int), .fieldLink RX9 28 "Regexloom$Table" "size" "I", .initialized "java/lang/Throwable", .superclass "java/lang/Throwable" "java/lang/Object", .instanceMethod Bundle.tFill, .codeSync Bundle.tFill LibCode.Throwable.Fill.code 1 (some (.object "java/lang/Throwable")), .instanceMethod Bundle.tFill0, .native Bundle.tFill0, .instanceMethod Bundle.tInit0, .code Bundle.tInit0 LibCode.Throwable.Init0.code 1 none, .instanceMethod Bundle.oInit, .code Bundle.oInit ⟨#[0xb1]⟩ 1 none, .methodLink "java/lang/Throwable" 1 Bundle.oInit, .methodLink "java/lang/Throwable" 27 Bundle.tFill, .methodLink "java/lang/Throwable" 202 Bundle.tFill0, .fieldLink "java/lang/Throwable" 7 "java/lang/Throwable" "cause" "Ljava/lang/Throwable;", .lays "java/lang/Throwable" "java/lang/Throwable" "cause" "Ljava/lang/Throwable;", .fieldLink "java/lang/Throwable" 17 "java/lang/Throwable" "stackTrace" "[Ljava/lang/StackTraceElement;", .lays "java/lang/Throwable" "java/lang/Throwable" "stackTrace" "[Ljava/lang/StackTraceElement;", .fieldLink "java/lang/Throwable" 24 "java/lang/Throwable" "suppressedExceptions" "Ljava/util/List;", .lays "java/lang/Throwable" "java/lang/Throwable" "suppressedExceptions" "Ljava/util/List;", .fieldLink "java/lang/Throwable" 13 "java/lang/Throwable" "UNASSIGNED_STACK" "[Ljava/lang/StackTraceElement;", .fieldLink "java/lang/Throwable" 20 "java/lang/Throwable" "SUPPRESSED_SENTINEL" "Ljava/util/List;", .lays "java/lang/Throwable" "java/lang/Throwable" "detailMessage" "Ljava/lang/String;", .instanceMethod (Bundle.initS "java/lang/Throwable"), .code (Bundle.initS "java/lang/Throwable") LibCode.Throwable.InitS.code 2 none, .fieldLink "java/lang/Throwable" 31 "java/lang/Throwable" "detailMessage" "Ljava/lang/String;", .instanceMethod (Bundle.initS "java/lang/IndexOutOfBoundsException"), .code (Bundle.initS "java/lang/IndexOutOfBoundsException") Bundle.six 2 none, .methodLink "java/lang/IndexOutOfBoundsException" 7 (Bundle.initS "java/lang/RuntimeException"), .instanceMethod (Bundle.initS "java/lang/RuntimeException"), .code (Bundle.initS "java/lang/RuntimeException") Bundle.six 2 none, .methodLink "java/lang/RuntimeException" 7 (Bundle.initS "java/lang/Exception"), .instanceMethod (Bundle.initS "java/lang/Exception"), .code (Bundle.initS "java/lang/Exception") Bundle.six 2 none, .methodLink "java/lang/Exception" 7 (Bundle.initS "java/lang/Throwable"), .methodLink RX11 224 (Bundle.initS "java/lang/IndexOutOfBoundsException"), .instantiable "java/lang/IndexOutOfBoundsException" 6, .selects "java/lang/IndexOutOfBoundsException" Bundle.tFill0 Bundle.tFill0, .selects "java/lang/IndexOutOfBoundsException" Bundle.tFill Bundle.tFill, .lays "java/lang/IndexOutOfBoundsException" "java/lang/Throwable" "cause" "Ljava/lang/Throwable;", .lays "java/lang/IndexOutOfBoundsException" "java/lang/Throwable" "stackTrace" "[Ljava/lang/StackTraceElement;", .lays "java/lang/IndexOutOfBoundsException" "java/lang/Throwable" "suppressedExceptions" "Ljava/util/List;", .lays "java/lang/IndexOutOfBoundsException" "java/lang/Throwable" "detailMessage" "Ljava/lang/String;", .fieldLink "java/lang/Throwable" 198 "java/lang/Throwable" "backtrace" "Ljava/lang/Object;", .lays "java/lang/Throwable" "java/lang/Throwable" "backtrace" "Ljava/lang/Object;", .lays "java/lang/IndexOutOfBoundsException" "java/lang/Throwable" "backtrace" "Ljava/lang/Object;", .classLink RX11 220 "java/lang/IndexOutOfBoundsException", .initialized "java/lang/IndexOutOfBoundsException"] ++ (u_ws RX11 TX11 17 ++ u_ws RX2 TX2 2 ++ u_ws RX9 TX9 4)
set_option maxRecDepth 20000 in
theorem in9_X11_outSign_2_RX11 : ∀ w ∈ u_ws RX11 TX11 17, w ∈ w9_X11_outSign_2 := by decide +kernel
set_option maxRecDepth 20000 in
theorem in9_X11_outSign_2_RX2 : ∀ w ∈ u_ws RX2 TX2 2, w ∈ w9_X11_outSign_2 := by decide +kernel
set_option maxRecDepth 20000 in
theorem in9_X11_outSign_2_RX9 : ∀ w ∈ u_ws RX9 TX9 4, w ∈ w9_X11_outSign_2 := by decide +kernel
set_option maxRecDepth 20000 in
theorem g9_X11_outSign_2_0 : GoodIn w9_X11_outSign_2 (wsV RX11 262 RX2 yX2_size w9_X2_size_1) := goodIn_r _ [2, 3, 4, 5, 6, 7, 8, 9, 10, 11, 12, 13, 78, 79, 80, 81, 82, 83] (by decide +kernel) (by decide +kernel)
set_option maxHeartbeats 4000000 in
set_option maxRecDepth 100000 in
theorem c9_X11_outSign_2 (l : Launch) (hlt : l.stackTraces = false) (g : G9) (h0 h1 h2 h3 h4 h5 h6 h7 h8 h9 h10 h11 h12 h13 h14 h15 sz : Nat) (v0 : Int32) (k_v0 : 0 ≤ v0.toInt ∧ v0.toInt ≤ 2147483647) : vx_Met l yX11_outSign w9_X11_outSign_2 ({ frames := 6, cells := 1, slots := 6, locals := 82 }) (mP g [(h0, .inr (12, [.ref h1, .int 0, .ref h2, .ref h3, .ref h4, .ref h5, .ref h6, .ref h7, .int (-1), .ref h8, .ref h9, .int 250, .ref h10, .int 0, .ref h11, .ref h12, .ref h13])), (h12, .inr (5, [.ref h14, .int 0])), (h14, .inr (10, [.int 1, .int 100, .ref h15, .int 0]))] sz [.ref h0, .int v0]) (va_Qv (fun _ : Unit => False) (fun _ _ => True) (va_A [(h0, .inr (12, [.ref h1, .int 0, .ref h2, .ref h3, .ref h4, .ref h5, .ref h6, .ref h7, .int (-1), .ref h8, .ref h9, .int 250, .ref h10, .int 0, .ref h11, .ref h12, .ref h13])), (h12, .inr (5, [.ref h14, .int 0])), (h14, .inr (10, [.int 1, .int 100, .ref h15, .int 0]))] sz)) (mT g [(h0, .inr (12, [.ref h1, .int 0, .ref h2, .ref h3, .ref h4, .ref h5, .ref h6, .ref h7, .int (-1), .ref h8, .ref h9, .int 250, .ref h10, .int 0, .ref h11, .ref h12, .ref h13])), (h12, .inr (5, [.ref h14, .int 0])), (h14, .inr (10, [.int 1, .int 100, .ref h15, .int 0]))] sz "java/lang/IndexOutOfBoundsException") 1 6 (va_A [(h0, .inr (12, [.ref h1, .int 0, .ref h2, .ref h3, .ref h4, .ref h5, .ref h6, .ref h7, .int (-1), .ref h8, .ref h9, .int 250, .ref h10, .int 0, .ref h11, .ref h12, .ref h13])), (h12, .inr (5, [.ref h14, .int 0])), (h14, .inr (10, [.int 1, .int 100, .ref h15, .int 0]))] sz) := by
  refine vx_ofW (cc := cX11_outSign) (maxL := 2) (ret := (some .char)) (by decide) rfl ?_
  intro p e s m args below meth c s₁ B hml hno hv
  obtain ⟨rfl, hsz, hP, hD0, hE⟩ := hv
  have hx := B.exec
  have hb := B.bytes
  have hr := B.returns
  have hts := atoms_spec (ws := w9_X11_outSign_2) B.pre
  have hown : s.vm.findClass RX11 = some m.cls := findClass_of_methodNamed B.named
  have hlocks := B.notSynchronized
  subst hsz
  have hD := hD0.self (sz := s.heap.size)
  generalize hAe : va_A [(h0, .inr (12, [.ref h1, .int 0, .ref h2, .ref h3, .ref h4, .ref h5, .ref h6, .ref h7, .int (-1), .ref h8, .ref h9, .int 250, .ref h10, .int 0, .ref h11, .ref h12, .ref h13])), (h12, .inr (5, [.ref h14, .int 0])), (h14, .inr (10, [.int 1, .int 100, .ref h15, .int 0]))] s.heap.size = A at hD hE ⊢
  have hA : ∀ q : Nat, s.heap.size ≤ q → A q := fun q h => by rw [← hAe]; exact Or.inr h
  have hK := hE.1
  have hS : va_S A s.heap s.heap [] := va_S.rf
  replace hP : va_P g.1 vwCl [(h0, .inr (12, [.ref h1, .int 0, .ref h2, .ref h3, .ref h4, .ref h5, .ref h6, .ref h7, .int (-1), .ref h8, .ref h9, .int 250, .ref h10, .int 0, .ref h11, .ref h12, .ref h13])), (h12, .inr (5, [.ref h14, .int 0])), (h14, .inr (10, [.int 1, .int 100, .ref h15, .int 0]))] s.heap := hP
  have hl := lv_entry ([.ref h0, .int v0]) (n := 2) (Nat.le_of_ble_eq_true rfl)
  rw [lg_entry_eq]
  generalize (lg_sl ([.ref h0, .int v0]) ++ List.replicate (2 - (lg_sl ([.ref h0, .int v0])).length) Slot.unset).toArray = ls at hl ⊢
  replace hl : lv_has ls 2 [(0, .ref h0), (1, .int v0)] := hl
  have hH0 : s.heap.size ≤ s.heap.size := Nat.le_refl _
  refine lv_iload_n hx hb dX11_outSign_0 rfl (lv_at hl 1 rfl) ?_
  refine lv_if_lt (tgt := 15) hx hb dX11_outSign_1 (by decide) (fun c9 => absurd c9 (by simp only [Int32.lt_iff_toInt_lt, Int32.le_iff_toInt_le, ← Int32.toInt_inj, show (0 : Int32).toInt = 0 from by decide]; omega)) (fun _ => ?_)
  refine lv_iload_n hx hb dX11_outSign_4 rfl (lv_at hl 1 rfl) ?_
  refine lv_aload_n hx hb dX11_outSign_5 rfl (lv_at hl 0 rfl) ?_
  refine va_get (D := g.1) (ci := 12) (v := .ref h12) (C := RX11) (T := TX11) (N := 17) hx hb hts in9_X11_outSign_2_RX11 hown hK hP 0 rfl rfl 15 (by decide) (hts (.fieldLink RX11 88 "Regexloom" "out" "LRegexloom$Out;") (List.mem_of_getElem? (i := 1) rfl)) (fun _ h9 => h9) rfl dX11_outSign_6 ?_
  have hPc := hP.sub (ws' := [(h12, .inr (5, [.ref h14, .int 0])), (h14, .inr (10, [.int 1, .int 100, .ref h15, .int 0]))]) [1, 2] rfl
  have hDc := hD.sub (ws' := [(h12, .inr (5, [.ref h14, .int 0])), (h14, .inr (10, [.int 1, .int 100, .ref h15, .int 0]))]) [1, 2] (by decide) rfl
  have hFc := va_free (wc := [(h12, .inr (5, [.ref h14, .int 0])), (h14, .inr (10, [.int 1, .int 100, .ref h15, .int 0]))]) hD hS hA [1, 2] rfl
  refine va_calli (va_runV (As := []) (rest := [.int v0]) ⟨hx, hb, hml, hown, hts⟩ (c9_X2_size_1 l g h12 h14 h15 _) (cwV 0 hts g9_X11_outSign_2_0 rfl rfl rfl (by decide +kernel) ⟨Nat.le_of_ble_eq_true rfl, Nat.le_of_ble_eq_true rfl⟩) (mPreV (g := g) (wc := [(h12, .inr (5, [.ref h14, .int 0])), (h14, .inr (10, [.int 1, .int 100, .ref h15, .int 0]))]) (C := RX2) (ci := 5) (q0 := 0) hE hS hPc hDc hFc rfl rfl) rfl rfl hl.1 rfl (lv_room (Nat.le_of_ble_eq_true rfl)) dX11_outSign_9 ⟨Nat.le_of_ble_eq_true rfl, Nat.le_of_ble_eq_true rfl⟩) hS (fun q _ h => hFc q h) hFc (fun r_1 u t H1 locs ht hvm hw hB hz1 hk1 hS => ?_)
  replace hw : 0 = r_1 := Eq.symm hw
  subst hw
  obtain ⟨hP1, hD1⟩ := hB
  rw [ht] at hP1
  obtain ⟨hP, hD⟩ := va_join (wr := [(h0, .inr (12, [.ref h1, .int 0, .ref h2, .ref h3, .ref h4, .ref h5, .ref h6, .ref h7, .int (-1), .ref h8, .ref h9, .int 250, .ref h10, .int 0, .ref h11, .ref h12, .ref h13]))]) (w1 := [(h12, .inr (5, [.ref h14, .int 0])), (h14, .inr (10, [.int 1, .int 100, .ref h15, .int 0]))]) hP hD [1, 2] [0] rfl rfl (by decide) (by decide) hk1 hFc hP1 hD1
  clear hP1 hD1 hPc hDc hFc hk1 hz1 hvm ht
  generalize H1 = H at hP hS ⊢
  have hP : va_P g.1 vwCl [(h0, .inr (12, [.ref h1, .int 0, .ref h2, .ref h3, .ref h4, .ref h5, .ref h6, .ref h7, .int (-1), .ref h8, .ref h9, .int 250, .ref h10, .int 0, .ref h11, .ref h12, .ref h13])), (h12, .inr (5, [.ref h14, .int 0])), (h14, .inr (10, [.int 1, .int 100, .ref h15, .int 0]))] H := hP
  have hD : va_D A [(h0, .inr (12, [.ref h1, .int 0, .ref h2, .ref h3, .ref h4, .ref h5, .ref h6, .ref h7, .int (-1), .ref h8, .ref h9, .int 250, .ref h10, .int 0, .ref h11, .ref h12, .ref h13])), (h12, .inr (5, [.ref h14, .int 0])), (h14, .inr (10, [.int 1, .int 100, .ref h15, .int 0]))] := hD
  refine lv_icmp_lt (tgt := 26) hx hb dX11_outSign_12 (by decide) (fun c9 => absurd c9 (by simp only [Int32.lt_iff_toInt_lt, Int32.le_iff_toInt_le, ← Int32.toInt_inj, show (0 : Int32).toInt = 0 from by decide]; omega)) (fun _ => ?_)
  obtain ⟨sa, hsa⟩ := hE.str (263, "no such sign of the out") (by decide)
  exact vx_throwSW (names := ["java/lang/RuntimeException", "java/lang/Exception"]) (A := A) hx hb hlt hown (by decide) (by decide) (hts (.classLink RX11 220 "java/lang/IndexOutOfBoundsException") (List.mem_of_getElem? (i := 59) rfl)) (hts (.initialized "java/lang/IndexOutOfBoundsException") (List.mem_of_getElem? (i := 60) rfl)) hsa (vx_hat (B := [.castable "java/lang/IndexOutOfBoundsException" "java/lang/IndexOutOfBoundsException", .declares (Bundle.initS "java/lang/RuntimeException"), .declares (Bundle.initS "java/lang/Exception"), .declares (Bundle.initS "java/lang/Throwable")]) (fun w9 hw9 => hts w9 (by revert w9; decide +kernel)) (by decide +kernel) (vx_c (va_Nw.use rfl (hE.cast ("java/lang/IndexOutOfBoundsException", "java/lang/IndexOutOfBoundsException") (by decide))) (vx_c (va_Nw.use rfl (hE.decl _ (by decide))) (vx_c (va_Nw.use rfl (hE.decl _ (by decide))) (vx_c (va_Nw.use rfl (hE.decl _ (by decide))) vx_n))))) (by decide +kernel) hE.zu hE.zn hS (by rw [hml]; exact hl.1) dX11_outSign_15 dX11_outSign_18 dX11_outSign_19 dX11_outSign_22 dX11_outSign_25 (fun z hz => (hno z hz).elim) (Nat.le_of_ble_eq_true rfl) (Nat.le_of_ble_eq_true rfl) (Nat.le_of_ble_eq_true rfl) (Nat.le_of_ble_eq_true rfl) hlocks (fun t hW hz ho => ⟨(), trivial, rfl, by subst hAe; exact ⟨Nat.le_trans hS.1 hz, fun q h1 h2 => (ho q (Nat.lt_of_lt_of_le h1 hS.1)).trans (hS.2.1 q h1 h2)⟩⟩) (fun z hz => by subst hAe; exact hS.2.2 z hz) (Nat.le_of_ble_eq_true rfl) (Nat.le_of_ble_eq_true rfl)
def w9_L_outSign_2 : List Cond := [.codeWith yL_outSign cL_outSign 4 (some .int) [(0, 9, 12, 21)], .methodLink RL 74 yX11_outSign, .instanceMethod yX11_outSign, .selects RX11 yX11_outSign yX11_outSign, .initialized RX11, .code yX11_outSign cX11_outSign 2 (some .char), .fieldLink RX11 88 "Regexloom" "out" "LRegexloom$Out;", .methodLink RX11 262 yX2_size, .instanceMethod yX2_size, .selects RX2 yX2_size yX2_size, .initialized RX2, .code yX2_size cX2_size 1 (some .int), .fieldLink RX2 14 "Regexloom$Out" "signs" "LRegexloom$Table;", .methodLink RX2 28 yX9_size, .instanceMethod yX9_size, .selects RX9 yX9_size yX9_size, .initialized RX9, .code yX9_size cX9_size 1 (some .int), .fieldLink RX9 28 "Regexloom$Table" "size" "I", .initialized "java/lang/Throwable", .superclass "java/lang/Throwable" "java/lang/Object", .instanceMethod Bundle.tFill, .codeSync Bundle.tFill LibCode.Throwable.Fill.code 1 (some (.object "java/lang/Throwable")), .instanceMethod Bundle.tFill0, .native Bundle.tFill0, .instanceMethod Bundle.tInit0, .code Bundle.tInit0 LibCode.Throwable.Init0.code 1 none, .instanceMethod Bundle.oInit, .code Bundle.oInit ⟨#[0xb1]⟩ 1 none, .methodLink "java/lang/Throwable" 1 Bundle.oInit, .methodLink "java/lang/Throwable" 27 Bundle.tFill, .methodLink "java/lang/Throwable" 202 Bundle.tFill0, .fieldLink "java/lang/Throwable" 7 "java/lang/Throwable" "cause" "Ljava/lang/Throwable;", .lays "java/lang/Throwable" "java/lang/Throwable" "cause" "Ljava/lang/Throwable;", .fieldLink "java/lang/Throwable" 17 "java/lang/Throwable" "stackTrace" "[Ljava/lang/StackTraceElement;", .lays "java/lang/Throwable" "java/lang/Throwable" "stackTrace" "[Ljava/lang/StackTraceElement;", .fieldLink "java/lang/Throwable" 24 "java/lang/Throwable" "suppressedExceptions" "Ljava/util/List;", .lays "java/lang/Throwable" "java/lang/Throwable" "suppressedExceptions" "Ljava/util/List;", .fieldLink "java/lang/Throwable" 13 "java/lang/Throwable" "UNASSIGNED_STACK" "[Ljava/lang/StackTraceElement;", .fieldLink "java/lang/Throwable" 20 "java/lang/Throwable" "SUPPRESSED_SENTINEL" "Ljava/util/List;", .lays "java/lang/Throwable" "java/lang/Throwable" "detailMessage" "Ljava/lang/String;", .instanceMethod (Bundle.initS "java/lang/Throwable"), .code (Bundle.initS "java/lang/Throwable") LibCode.Throwable.InitS.code 2 none, .fieldLink "java/lang/Throwable" 31 "java/lang/Throwable" "detailMessage" "Ljava/lang/String;", .instanceMethod (Bundle.initS "java/lang/IndexOutOfBoundsException"), .code (Bundle.initS "java/lang/IndexOutOfBoundsException") Bundle.six 2 none, .methodLink "java/lang/IndexOutOfBoundsException" 7 (Bundle.initS "java/lang/RuntimeException"), .instanceMethod (Bundle.initS "java/lang/RuntimeException"), .code (Bundle.initS "java/lang/RuntimeException") Bundle.six 2 none, .methodLink "java/lang/RuntimeException" 7 (Bundle.initS "java/lang/Exception"), .instanceMethod (Bundle.initS "java/lang/Exception"), .code (Bundle.initS "java/lang/Exception") Bundle.six 2 none, .methodLink "java/lang/Exception" 7 (Bundle.initS "java/lang/Throwable"), .methodLink RX11 224 (Bundle.initS "java/lang/IndexOutOfBoundsException"), .instantiable "java/lang/IndexOutOfBoundsException" 6, .selects "java/lang/IndexOutOfBoundsException" Bundle.tFill0 Bundle.tFill0, .selects "java/lang/IndexOutOfBoundsException" Bundle.tFill Bundle.tFill, .lays "java/lang/IndexOutOfBoundsException" "java/lang/Throwable" "cause" "Ljava/lang/Throwable;", .lays "java/lang/IndexOutOfBoundsException" "java/lang/Throwable" "stackTrace" "[Ljava/lang/StackTraceElement;", .lays "java/lang/IndexOutOfBoundsException" "java/lang/Throwable" "suppressedExceptions" "Ljava/util/List;", .lays "java/lang/IndexOutOfBoundsException" "java/lang/Throwable" "detailMessage" "Ljava/lang/String;", .fieldLink "java/lang/Throwable" 198 "java/lang/Throwable" "backtrace" "Ljava/lang/Object;", .lays "java/lang/Throwable" "java/lang/Throwable" "backtrace" "Ljava/lang/Object;", .lays "java/lang/IndexOutOfBoundsException" "java/lang/Throwable" "backtrace" "Ljava/lang/Object;", .classLink RX11 220 "java/lang/IndexOutOfBoundsException", .initialized "java/lang/IndexOutOfBoundsException", .classLink RL 21 "java/lang/IndexOutOfBoundsException"] ++ (u_ws RX11 TX11 17 ++ u_ws RX2 TX2 2 ++ u_ws RX9 TX9 4)
set_option maxRecDepth 20000 in
theorem in9_L_outSign_2_RX11 : ∀ w ∈ u_ws RX11 TX11 17, w ∈ w9_L_outSign_2 := by decide +kernel
set_option maxRecDepth 20000 in
theorem in9_L_outSign_2_RX2 : ∀ w ∈ u_ws RX2 TX2 2, w ∈ w9_L_outSign_2 := by decide +kernel
set_option maxRecDepth 20000 in
theorem in9_L_outSign_2_RX9 : ∀ w ∈ u_ws RX9 TX9 4, w ∈ w9_L_outSign_2 := by decide +kernel
set_option maxRecDepth 20000 in
theorem g9_L_outSign_2_0 : GoodIn w9_L_outSign_2 (wsV RL 74 RX11 yX11_outSign w9_X11_outSign_2) := goodIn_r _ [1, 2, 3, 4, 5, 6, 7, 8, 9, 10, 11, 12, 13, 14, 15, 16, 17, 18, 19, 20, 21, 22, 23, 24, 25, 26, 27, 28, 29, 30, 31, 32, 33, 34, 35, 36, 37, 38, 39, 40, 41, 42, 43, 44, 45, 46, 47, 48, 49, 50, 51, 52, 53, 54, 55, 56, 57, 58, 59, 60, 61, 62, 63, 64, 65, 67, 68, 69, 70, 71, 72, 73, 74, 75, 76, 77, 78, 79, 80, 81, 82, 83, 84, 85, 86, 87, 88, 89] (by decide +kernel) (by decide +kernel)
set_option maxHeartbeats 4000000 in
set_option maxRecDepth 100000 in
theorem c9_L_outSign_2 (l : Launch) (hlt : l.stackTraces = false) (g : G9) (h0 h1 h2 h3 h4 h5 h6 h7 h8 h9 h10 h11 h12 h13 h14 h15 h16 sz : Nat) (v0 : Int32) (k_v0 : 0 ≤ v0.toInt ∧ v0.toInt ≤ 2147483647) : Met l yL_outSign w9_L_outSign_2 ({ frames := 7, cells := 1, slots := 6, locals := 103 }) (mP g [(h0, .inr (12, [.ref h2, .int 0, .ref h3, .ref h4, .ref h5, .ref h6, .ref h7, .ref h8, .int (-1), .ref h9, .ref h10, .int 250, .ref h11, .int 0, .ref h12, .ref h13, .ref h14])), (h13, .inr (5, [.ref h15, .int 0])), (h15, .inr (10, [.int 1, .int 100, .ref h16, .int 0]))] sz [.ref h0, .int v0, .ref h1]) (va_Qi (fun (r : Int32) (_ : Unit) => r = 1) (fun (_ : Unit) (t : State) => mB g [(h0, .inr (12, [.ref h2, .int 0, .ref h3, .ref h4, .ref h5, .ref h6, .ref h7, .ref h8, .int (-1), .ref h9, .ref h10, .int 250, .ref h11, .int 0, .ref h12, .ref h13, .ref h14])), (h13, .inr (5, [.ref h15, .int 0])), (h15, .inr (10, [.int 1, .int 100, .ref h16, .int 0]))] sz [] t) (va_A [(h0, .inr (12, [.ref h2, .int 0, .ref h3, .ref h4, .ref h5, .ref h6, .ref h7, .ref h8, .int (-1), .ref h9, .ref h10, .int 250, .ref h11, .int 0, .ref h12, .ref h13, .ref h14])), (h13, .inr (5, [.ref h15, .int 0])), (h15, .inr (10, [.int 1, .int 100, .ref h16, .int 0]))] sz)) 1 6 (va_A [(h0, .inr (12, [.ref h2, .int 0, .ref h3, .ref h4, .ref h5, .ref h6, .ref h7, .ref h8, .int (-1), .ref h9, .ref h10, .int 250, .ref h11, .int 0, .ref h12, .ref h13, .ref h14])), (h13, .inr (5, [.ref h15, .int 0])), (h15, .inr (10, [.int 1, .int 100, .ref h16, .int 0]))] sz) := by
  refine va_MetW (cc := cL_outSign) (maxL := 4) (ret := (some .int)) (by decide) rfl ?_
  intro p e s m args below meth c s₁ B hml hv
  obtain ⟨rfl, hsz, hP, hD0, hE⟩ := hv
  have hx := B.exec
  have hb := B.bytes
  have hr := B.returns
  have hts := atoms_spec (ws := w9_L_outSign_2) B.pre
  have hown : s.vm.findClass RL = some m.cls := findClass_of_methodNamed B.named
  have hlocks := B.notSynchronized
  have htab := vx_table (x := yL_outSign) B (hts (.codeWith yL_outSign cL_outSign 4 (some .int) [(0, 9, 12, 21)]) (List.mem_of_getElem? (i := 0) rfl))
  subst hsz
  have hD := hD0.self (sz := s.heap.size)
  generalize hAe : va_A [(h0, .inr (12, [.ref h2, .int 0, .ref h3, .ref h4, .ref h5, .ref h6, .ref h7, .ref h8, .int (-1), .ref h9, .ref h10, .int 250, .ref h11, .int 0, .ref h12, .ref h13, .ref h14])), (h13, .inr (5, [.ref h15, .int 0])), (h15, .inr (10, [.int 1, .int 100, .ref h16, .int 0]))] s.heap.size = A at hD hE ⊢
  have hA : ∀ q : Nat, s.heap.size ≤ q → A q := fun q h => by rw [← hAe]; exact Or.inr h
  have hK := hE.1
  have hS : va_S A s.heap s.heap [] := va_S.rf
  replace hP : va_P g.1 vwCl [(h0, .inr (12, [.ref h2, .int 0, .ref h3, .ref h4, .ref h5, .ref h6, .ref h7, .ref h8, .int (-1), .ref h9, .ref h10, .int 250, .ref h11, .int 0, .ref h12, .ref h13, .ref h14])), (h13, .inr (5, [.ref h15, .int 0])), (h15, .inr (10, [.int 1, .int 100, .ref h16, .int 0]))] s.heap := hP
  have hl := lv_entry ([.ref h0, .int v0, .ref h1]) (n := 4) (Nat.le_of_ble_eq_true rfl)
  rw [lg_entry_eq]
  generalize (lg_sl ([.ref h0, .int v0, .ref h1]) ++ List.replicate (4 - (lg_sl ([.ref h0, .int v0, .ref h1])).length) Slot.unset).toArray = ls at hl ⊢
  replace hl : lv_has ls 4 [(0, .ref h0), (1, .int v0), (2, .ref h1)] := hl
  have hH0 : s.heap.size ≤ s.heap.size := Nat.le_refl _
  refine lv_aload_n hx hb dL_outSign_0 rfl (lv_at hl 2 rfl) ?_
  refine lv_iconst (v := 0) hx hb dL_outSign_1 (by decide) ?_
  refine lv_aload_n hx hb dL_outSign_2 rfl (lv_at hl 0 rfl) ?_
  refine lv_iload_n hx hb dL_outSign_3 rfl (lv_at hl 1 rfl) ?_
  have hPc := hP.sub (ws' := [(h0, .inr (12, [.ref h2, .int 0, .ref h3, .ref h4, .ref h5, .ref h6, .ref h7, .ref h8, .int (-1), .ref h9, .ref h10, .int 250, .ref h11, .int 0, .ref h12, .ref h13, .ref h14])), (h13, .inr (5, [.ref h15, .int 0])), (h15, .inr (10, [.int 1, .int 100, .ref h16, .int 0]))]) [0, 1, 2] rfl
  have hDc := hD.sub (ws' := [(h0, .inr (12, [.ref h2, .int 0, .ref h3, .ref h4, .ref h5, .ref h6, .ref h7, .ref h8, .int (-1), .ref h9, .ref h10, .int 250, .ref h11, .int 0, .ref h12, .ref h13, .ref h14])), (h13, .inr (5, [.ref h15, .int 0])), (h15, .inr (10, [.int 1, .int 100, .ref h16, .int 0]))]) [0, 1, 2] (by decide) rfl
  have hFc := va_free (wc := [(h0, .inr (12, [.ref h2, .int 0, .ref h3, .ref h4, .ref h5, .ref h6, .ref h7, .ref h8, .int (-1), .ref h9, .ref h10, .int 250, .ref h11, .int 0, .ref h12, .ref h13, .ref h14])), (h13, .inr (5, [.ref h15, .int 0])), (h15, .inr (10, [.int 1, .int 100, .ref h16, .int 0]))]) hD hS hA [0, 1, 2] rfl
  refine vx_callv (vx_runV (As := [.int v0]) (rest := [.int 0, .ref h1]) ⟨hx, hb, hml, hown, hts⟩ (c9_X11_outSign_2 l hlt g h0 h2 h3 h4 h5 h6 h7 h8 h9 h10 h11 h12 h13 h14 h15 h16 _ v0 (by omega)) (cwV 1 hts g9_L_outSign_2_0 rfl rfl rfl (by decide +kernel) ⟨Nat.le_of_ble_eq_true rfl, Nat.le_of_ble_eq_true rfl⟩) (mPreV (g := g) (wc := [(h0, .inr (12, [.ref h2, .int 0, .ref h3, .ref h4, .ref h5, .ref h6, .ref h7, .ref h8, .int (-1), .ref h9, .ref h10, .int 250, .ref h11, .int 0, .ref h12, .ref h13, .ref h14])), (h13, .inr (5, [.ref h15, .int 0])), (h15, .inr (10, [.int 1, .int 100, .ref h16, .int 0]))]) (C := RX11) (ci := 12) (q0 := 0) hE hS hPc hDc hFc rfl rfl) rfl rfl hl.1 rfl (lv_room (Nat.le_of_ble_eq_true rfl)) dL_outSign_4 ⟨Nat.le_of_ble_eq_true rfl, Nat.le_of_ble_eq_true rfl⟩) hS (fun q _ h => hFc q h) hFc (fun q _ h => hFc q h) (fun E9 ce q9 u t H locs ht hvm hw hB hz1 hk1 hS hc1 hc2 hc3 => ?_) (fun u t H1 locs ht hvm hw hB hz1 hk1 hS => hw.elim)
  replace hB : E9 = "java/lang/IndexOutOfBoundsException" := hB
  subst hB
  obtain ⟨hP, hD⟩ := va_join (wr := []) (w1 := []) hP hD [0, 1, 2] [] rfl rfl (by decide) (by decide) hk1 hFc (fun k q h => by simp at h) ⟨fun i j p q h => by simp at h, fun k q h => by simp at h⟩
  have hP : va_P g.1 vwCl [] H := hP
  have hD : va_D A [] := hD
  refine vx_catch (own := RL) (name := "java/lang/IndexOutOfBoundsException") hown [] ⟨0, 9, 12, 21⟩ [] (by rw [htab]; rfl) (fun z hz => absurd hz List.not_mem_nil) (by decide) (by decide) (hts (.classLink RL 21 "java/lang/IndexOutOfBoundsException") (List.mem_of_getElem? (i := 66) rfl)) (va_Nw.use rfl (hE.cast ("java/lang/IndexOutOfBoundsException", "java/lang/IndexOutOfBoundsException") (by decide))) hc1 hc2 hc3 ?_
  refine lv_astore_n (lv' := [(3, .ref q9), (0, .ref h0), (1, .int v0), (2, .ref h1)]) hx hb dL_outSign_12 rfl hl (by decide) rfl (fun ls hl => ?_)
  refine lv_iconst (v := 1) hx hb dL_outSign_13 (by decide) ?_
  have hP9 := hP.sub (ws' := []) [] rfl
  have hD9 := hD.sub (ws' := []) [] (by decide) rfl
  subst hAe
  exact W.iret (v := 1) hx hb hr (fun t ht hW => ⟨⟨1, (), rfl, rfl, by rw [ht]; exact hP9, hD9⟩, hS.F ht⟩) hS.2.2 dL_outSign_14
def w9_X21_outSign_2 : List Cond := [.code yX21_outSign cX21_outSign 2 (some .char), .fieldLink RX21 448 "RegexloomModel" "outLength" "I", .methodLink RX21 160 yX21_in, .static yX21_in, .initialized RX21, .code yX21_in cX21_in 3 (some .boolean), .methodLink RX21 154 yX21_refused, .instanceMethod yX21_refused, .selects RX21 yX21_refused yX21_refused, .code yX21_refused cX21_refused 2 (some .boolean), .fieldLink RX21 144 "RegexloomModel" "refusal" "I"] ++ (u_ws RX21 TX21 32)
set_option maxRecDepth 20000 in
theorem in9_X21_outSign_2_RX21 : ∀ w ∈ u_ws RX21 TX21 32, w ∈ w9_X21_outSign_2 := by decide +kernel
set_option maxRecDepth 20000 in
theorem g9_X21_outSign_2_0 : GoodIn w9_X21_outSign_2 (va_wsS RX21 160 yX21_in w9_X21_in_24) := goodIn_r _ [2, 3, 4, 5] (by decide +kernel) (by decide +kernel)
set_option maxRecDepth 20000 in
theorem g9_X21_outSign_2_1 : GoodIn w9_X21_outSign_2 (wsV RX21 154 RX21 yX21_refused w9_X21_refused_2) := goodIn_r _ [6, 7, 8, 4, 9, 10, 11, 12, 13, 14, 15, 16, 17, 18, 19, 20, 21, 22, 23, 24, 25, 26, 27, 28, 29, 30, 31, 32, 33, 34, 35, 36, 37, 38, 39, 40, 41, 42] (by decide +kernel) (by decide +kernel)
set_option maxHeartbeats 4000000 in
set_option maxRecDepth 100000 in
theorem c9_X21_outSign_2 (l : Launch) (g : G9) (h0 h1 h2 h3 h4 h5 h6 h7 h8 h9 h10 h11 h12 h13 h14 h15 h16 sz : Nat) (v0 : Int32) (k_v0 : 0 ≤ v0.toInt ∧ v0.toInt ≤ 2147483647) : Met l yX21_outSign w9_X21_outSign_2 ({ frames := 1, cells := 0, slots := 0, locals := 22 }) (mP g [(h0, .inr (22, [.int 0, .ref h1, .int 0, .ref h2, .int 0, .ref h3, .int 250, .ref h4, .int 0, .ref h5, .ref h6, .ref h7, .int 0, .ref h8, .ref h9, .ref h10, .int 0, .null, .int 0, .null, .int 0, .int 0, .int 0, .ref h11, .int 0, .ref h12, .ref h13, .ref h14, .int 0, .ref h15, .ref h16, .int 0]))] sz [.ref h0, .int v0]) (va_Qi (fun (r : Int32) (_ : Unit) => r = 32) (fun (_ : Unit) (t : State) => mB g [(h0, .inr (22, [.int 0, .ref h1, .int 0, .ref h2, .int 0, .ref h3, .int 250, .ref h4, .int 0, .ref h5, .ref h6, .ref h7, .int 0, .ref h8, .ref h9, .ref h10, .int 0, .null, .int 0, .null, .int 0, .int 0, .int 0, .ref h11, .int 0, .ref h12, .ref h13, .ref h14, .int 0, .ref h15, .ref h16, .int 0]))] sz [(h0, .inr (22, [.int 1, .ref h1, .int 0, .ref h2, .int 0, .ref h3, .int 250, .ref h4, .int 0, .ref h5, .ref h6, .ref h7, .int 0, .ref h8, .ref h9, .ref h10, .int 0, .null, .int 0, .null, .int 0, .int 0, .int 0, .ref h11, .int 0, .ref h12, .ref h13, .ref h14, .int 0, .ref h15, .ref h16, .int 0]))] t) (va_A [(h0, .inr (22, [.int 0, .ref h1, .int 0, .ref h2, .int 0, .ref h3, .int 250, .ref h4, .int 0, .ref h5, .ref h6, .ref h7, .int 0, .ref h8, .ref h9, .ref h10, .int 0, .null, .int 0, .null, .int 0, .int 0, .int 0, .ref h11, .int 0, .ref h12, .ref h13, .ref h14, .int 0, .ref h15, .ref h16, .int 0]))] sz)) 0 0 (va_A [(h0, .inr (22, [.int 0, .ref h1, .int 0, .ref h2, .int 0, .ref h3, .int 250, .ref h4, .int 0, .ref h5, .ref h6, .ref h7, .int 0, .ref h8, .ref h9, .ref h10, .int 0, .null, .int 0, .null, .int 0, .int 0, .int 0, .ref h11, .int 0, .ref h12, .ref h13, .ref h14, .int 0, .ref h15, .ref h16, .int 0]))] sz) := by
  refine Met.ofW (cc := cX21_outSign) (maxL := 2) (ret := (some .char)) (by decide) rfl ?_
  intro p e s m args below meth c s₁ B hml hv
  obtain ⟨rfl, hsz, hP, hD0, hE⟩ := hv
  have hx := B.exec
  have hb := B.bytes
  have hr := B.returns
  have hts := atoms_spec (ws := w9_X21_outSign_2) B.pre
  have hown : s.vm.findClass RX21 = some m.cls := findClass_of_methodNamed B.named
  have hlocks := B.notSynchronized
  subst hsz
  have hD := hD0.self (sz := s.heap.size)
  generalize hAe : va_A [(h0, .inr (22, [.int 0, .ref h1, .int 0, .ref h2, .int 0, .ref h3, .int 250, .ref h4, .int 0, .ref h5, .ref h6, .ref h7, .int 0, .ref h8, .ref h9, .ref h10, .int 0, .null, .int 0, .null, .int 0, .int 0, .int 0, .ref h11, .int 0, .ref h12, .ref h13, .ref h14, .int 0, .ref h15, .ref h16, .int 0]))] s.heap.size = A at hD hE ⊢
  have hA : ∀ q : Nat, s.heap.size ≤ q → A q := fun q h => by rw [← hAe]; exact Or.inr h
  have hK := hE.1
  have hS : va_S A s.heap s.heap [] := va_S.rf
  replace hP : va_P g.1 vwCl [(h0, .inr (22, [.int 0, .ref h1, .int 0, .ref h2, .int 0, .ref h3, .int 250, .ref h4, .int 0, .ref h5, .ref h6, .ref h7, .int 0, .ref h8, .ref h9, .ref h10, .int 0, .null, .int 0, .null, .int 0, .int 0, .int 0, .ref h11, .int 0, .ref h12, .ref h13, .ref h14, .int 0, .ref h15, .ref h16, .int 0]))] s.heap := hP
  have hl := lv_entry ([.ref h0, .int v0]) (n := 2) (Nat.le_of_ble_eq_true rfl)
  rw [lg_entry_eq]
  generalize (lg_sl ([.ref h0, .int v0]) ++ List.replicate (2 - (lg_sl ([.ref h0, .int v0])).length) Slot.unset).toArray = ls at hl ⊢
  replace hl : lv_has ls 2 [(0, .ref h0), (1, .int v0)] := hl
  have hH0 : s.heap.size ≤ s.heap.size := Nat.le_refl _
  refine lv_aload_n hx hb dX21_outSign_0 rfl (lv_at hl 0 rfl) ?_
  refine lv_iload_n hx hb dX21_outSign_1 rfl (lv_at hl 1 rfl) ?_
  refine lv_iconst (v := 0) hx hb dX21_outSign_2 (by decide) ?_
  refine lv_aload_n hx hb dX21_outSign_3 rfl (lv_at hl 0 rfl) ?_
  refine va_get (D := g.1) (ci := 22) (v := .int 0) (C := RX21) (T := TX21) (N := 32) hx hb hts in9_X21_outSign_2_RX21 hown hK hP 0 rfl rfl 8 (by decide) (hts (.fieldLink RX21 448 "RegexloomModel" "outLength" "I") (List.mem_of_getElem? (i := 1) rfl)) (fun _ h9 => h9) rfl dX21_outSign_4 ?_
  refine lv_iconst (v := 1) hx hb dX21_outSign_7 (by decide) ?_
  refine lv_isub hx hb dX21_outSign_8 ?_
  refine e_top (y := (-1)) (by decide) ?_
  have hPc := hP.sub (ws' := []) [] rfl
  have hDc := hD.sub (ws' := []) [] (by decide) rfl
  have hFc := va_free (wc := []) hD hS hA [] rfl
  refine va_calli (va_runS (As := [.int v0, .int 0, .int (-1)]) (rest := [.ref h0]) ⟨hx, hb, hml, hown, hts⟩ (c9_X21_in_24 l g _ v0 (by omega)) (va_cwS 3 hts g9_X21_outSign_2_0 rfl rfl rfl (by decide +kernel) ⟨Nat.le_of_ble_eq_true rfl, Nat.le_of_ble_eq_true rfl⟩) (mPreS (g := g) (wc := []) hE hS hPc hDc hFc) rfl rfl hl.1 rfl (lv_room (Nat.le_of_ble_eq_true rfl)) dX21_outSign_9 ⟨Nat.le_of_ble_eq_true rfl, Nat.le_of_ble_eq_true rfl⟩) hS (fun q _ h => hFc q h) hFc (fun r_1 u t H1 locs ht hvm hw hB hz1 hk1 hS => ?_)
  replace hw : 0 = r_1 := Eq.symm hw
  subst hw
  obtain ⟨hP1, hD1⟩ := hB
  rw [ht] at hP1
  obtain ⟨hP, hD⟩ := va_join (wr := [(h0, .inr (22, [.int 0, .ref h1, .int 0, .ref h2, .int 0, .ref h3, .int 250, .ref h4, .int 0, .ref h5, .ref h6, .ref h7, .int 0, .ref h8, .ref h9, .ref h10, .int 0, .null, .int 0, .null, .int 0, .int 0, .int 0, .ref h11, .int 0, .ref h12, .ref h13, .ref h14, .int 0, .ref h15, .ref h16, .int 0]))]) (w1 := []) hP hD [] [0] rfl rfl (by decide) (by decide) hk1 hFc hP1 hD1
  clear hP1 hD1 hPc hDc hFc hk1 hz1 hvm ht
  generalize H1 = H at hP hS ⊢
  have hP : va_P g.1 vwCl [(h0, .inr (22, [.int 0, .ref h1, .int 0, .ref h2, .int 0, .ref h3, .int 250, .ref h4, .int 0, .ref h5, .ref h6, .ref h7, .int 0, .ref h8, .ref h9, .ref h10, .int 0, .null, .int 0, .null, .int 0, .int 0, .int 0, .ref h11, .int 0, .ref h12, .ref h13, .ref h14, .int 0, .ref h15, .ref h16, .int 0]))] H := hP
  have hD : va_D A [(h0, .inr (22, [.int 0, .ref h1, .int 0, .ref h2, .int 0, .ref h3, .int 250, .ref h4, .int 0, .ref h5, .ref h6, .ref h7, .int 0, .ref h8, .ref h9, .ref h10, .int 0, .null, .int 0, .null, .int 0, .int 0, .int 0, .ref h11, .int 0, .ref h12, .ref h13, .ref h14, .int 0, .ref h15, .ref h16, .int 0]))] := hD
  refine lv_if_eq (tgt := 19) hx hb dX21_outSign_12 (by decide) (fun _ => ?_) (fun c9 => absurd (by decide) c9)
  refine lv_iconst (v := 1) hx hb dX21_outSign_19 (by decide) ?_
  have hPc := hP.sub (ws' := [(h0, .inr (22, [.int 0, .ref h1, .int 0, .ref h2, .int 0, .ref h3, .int 250, .ref h4, .int 0, .ref h5, .ref h6, .ref h7, .int 0, .ref h8, .ref h9, .ref h10, .int 0, .null, .int 0, .null, .int 0, .int 0, .int 0, .ref h11, .int 0, .ref h12, .ref h13, .ref h14, .int 0, .ref h15, .ref h16, .int 0]))]) [0] rfl
  have hDc := hD.sub (ws' := [(h0, .inr (22, [.int 0, .ref h1, .int 0, .ref h2, .int 0, .ref h3, .int 250, .ref h4, .int 0, .ref h5, .ref h6, .ref h7, .int 0, .ref h8, .ref h9, .ref h10, .int 0, .null, .int 0, .null, .int 0, .int 0, .int 0, .ref h11, .int 0, .ref h12, .ref h13, .ref h14, .int 0, .ref h15, .ref h16, .int 0]))]) [0] (by decide) rfl
  have hFc := va_free (wc := [(h0, .inr (22, [.int 0, .ref h1, .int 0, .ref h2, .int 0, .ref h3, .int 250, .ref h4, .int 0, .ref h5, .ref h6, .ref h7, .int 0, .ref h8, .ref h9, .ref h10, .int 0, .null, .int 0, .null, .int 0, .int 0, .int 0, .ref h11, .int 0, .ref h12, .ref h13, .ref h14, .int 0, .ref h15, .ref h16, .int 0]))]) hD hS hA [0] rfl
  refine va_calli (va_runV (As := [.int 1]) (rest := []) ⟨hx, hb, hml, hown, hts⟩ (c9_X21_refused_2 l g h0 h1 h2 h3 h4 h5 h6 h7 h8 h9 h10 h11 h12 h13 h14 h15 h16 _) (cwV 1 hts g9_X21_outSign_2_1 rfl rfl rfl (by decide +kernel) ⟨Nat.le_of_ble_eq_true rfl, Nat.le_of_ble_eq_true rfl⟩) (mPreV (g := g) (wc := [(h0, .inr (22, [.int 0, .ref h1, .int 0, .ref h2, .int 0, .ref h3, .int 250, .ref h4, .int 0, .ref h5, .ref h6, .ref h7, .int 0, .ref h8, .ref h9, .ref h10, .int 0, .null, .int 0, .null, .int 0, .int 0, .int 0, .ref h11, .int 0, .ref h12, .ref h13, .ref h14, .int 0, .ref h15, .ref h16, .int 0]))]) (C := RX21) (ci := 22) (q0 := 0) hE hS hPc hDc hFc rfl rfl) rfl rfl hl.1 rfl (lv_room (Nat.le_of_ble_eq_true rfl)) dX21_outSign_20 ⟨Nat.le_of_ble_eq_true rfl, Nat.le_of_ble_eq_true rfl⟩) hS (fun q _ h => hFc q h) hFc (fun r_2 u t H1 locs ht hvm hw hB hz1 hk1 hS => ?_)
  replace hw : 1 = r_2 := Eq.symm hw
  subst hw
  obtain ⟨hP1, hD1⟩ := hB
  rw [ht] at hP1
  obtain ⟨hP, hD⟩ := va_join (wr := []) (w1 := [(h0, .inr (22, [.int 1, .ref h1, .int 0, .ref h2, .int 0, .ref h3, .int 250, .ref h4, .int 0, .ref h5, .ref h6, .ref h7, .int 0, .ref h8, .ref h9, .ref h10, .int 0, .null, .int 0, .null, .int 0, .int 0, .int 0, .ref h11, .int 0, .ref h12, .ref h13, .ref h14, .int 0, .ref h15, .ref h16, .int 0]))]) hP hD [0] [] rfl rfl (by decide) (by decide) hk1 hFc hP1 hD1
  clear hP1 hD1 hPc hDc hFc hk1 hz1 hvm ht
  generalize H1 = H at hP hS ⊢
  have hP : va_P g.1 vwCl [(h0, .inr (22, [.int 1, .ref h1, .int 0, .ref h2, .int 0, .ref h3, .int 250, .ref h4, .int 0, .ref h5, .ref h6, .ref h7, .int 0, .ref h8, .ref h9, .ref h10, .int 0, .null, .int 0, .null, .int 0, .int 0, .int 0, .ref h11, .int 0, .ref h12, .ref h13, .ref h14, .int 0, .ref h15, .ref h16, .int 0]))] H := hP
  have hD : va_D A [(h0, .inr (22, [.int 1, .ref h1, .int 0, .ref h2, .int 0, .ref h3, .int 250, .ref h4, .int 0, .ref h5, .ref h6, .ref h7, .int 0, .ref h8, .ref h9, .ref h10, .int 0, .null, .int 0, .null, .int 0, .int 0, .int 0, .ref h11, .int 0, .ref h12, .ref h13, .ref h14, .int 0, .ref h15, .ref h16, .int 0]))] := hD
  refine lv_if_eq (tgt := 31) hx hb dX21_outSign_23 (by decide) (fun c9 => absurd c9 (by decide)) (fun _ => ?_)
  refine lv_bipush (v := 32) hx hb dX21_outSign_26 (by decide) ?_
  refine lv_goto (tgt := 38) hx hb dX21_outSign_28 (by decide) ?_
  have hP9 := hP.sub (ws' := [(h0, .inr (22, [.int 1, .ref h1, .int 0, .ref h2, .int 0, .ref h3, .int 250, .ref h4, .int 0, .ref h5, .ref h6, .ref h7, .int 0, .ref h8, .ref h9, .ref h10, .int 0, .null, .int 0, .null, .int 0, .int 0, .int 0, .ref h11, .int 0, .ref h12, .ref h13, .ref h14, .int 0, .ref h15, .ref h16, .int 0]))]) [0] rfl
  have hD9 := hD.sub (ws' := [(h0, .inr (22, [.int 1, .ref h1, .int 0, .ref h2, .int 0, .ref h3, .int 250, .ref h4, .int 0, .ref h5, .ref h6, .ref h7, .int 0, .ref h8, .ref h9, .ref h10, .int 0, .null, .int 0, .null, .int 0, .int 0, .int 0, .ref h11, .int 0, .ref h12, .ref h13, .ref h14, .int 0, .ref h15, .ref h16, .int 0]))]) [0] (by decide) rfl
  subst hAe
  exact W.zret (v := 32) hx hb hr (by decide) (fun t ht hW => ⟨⟨32, (), rfl, rfl, by rw [ht]; exact hP9, hD9⟩, hS.F ht⟩) hS.2.2 dX21_outSign_38
def w9_X8_codeOf_1 : List Cond := [.code yX8_codeOf cX8_codeOf 1 (some .int)]
set_option maxHeartbeats 4000000 in
set_option maxRecDepth 100000 in
theorem c9_X8_codeOf_1 (l : Launch) (g : G9) (sz : Nat) (v0 : Int32) (k_v0 : 97 ≤ v0.toInt ∧ v0.toInt ≤ 122) : Met l yX8_codeOf w9_X8_codeOf_1 ({ frames := 0, cells := 0, slots := 0, locals := 0 }) (mP g [] sz [.int v0]) (va_Qi (fun (r : Int32) (_ : Unit) => 0 ≤ r.toInt ∧ r.toInt ≤ 25) (fun (_ : Unit) (t : State) => mB g [] sz [] t) (va_A [] sz)) 0 0 (va_A [] sz) := by
  refine Met.ofW (cc := cX8_codeOf) (maxL := 1) (ret := (some .int)) (by decide) rfl ?_
  intro p e s m args below meth c s₁ B hml hv
  obtain ⟨rfl, hsz, hP, hD0, hE⟩ := hv
  have hx := B.exec
  have hb := B.bytes
  have hr := B.returns
  have hts := atoms_spec (ws := w9_X8_codeOf_1) B.pre
  have hown : s.vm.findClass RX8 = some m.cls := findClass_of_methodNamed B.named
  have hlocks := B.notSynchronized
  subst hsz
  have hD := hD0.self (sz := s.heap.size)
  generalize hAe : va_A [] s.heap.size = A at hD hE ⊢
  have hA : ∀ q : Nat, s.heap.size ≤ q → A q := fun q h => by rw [← hAe]; exact Or.inr h
  have hK := hE.1
  have hS : va_S A s.heap s.heap [] := va_S.rf
  replace hP : va_P g.1 vwCl [] s.heap := hP
  have hl := lv_entry ([.int v0]) (n := 1) (Nat.le_of_ble_eq_true rfl)
  rw [lg_entry_eq]
  generalize (lg_sl ([.int v0]) ++ List.replicate (1 - (lg_sl ([.int v0])).length) Slot.unset).toArray = ls at hl ⊢
  replace hl : lv_has ls 1 [(0, .int v0)] := hl
  have hH0 : s.heap.size ≤ s.heap.size := Nat.le_refl _
  refine lv_iload_n hx hb dX8_codeOf_0 rfl (lv_at hl 0 rfl) ?_
  refine lv_bipush (v := 97) hx hb dX8_codeOf_1 (by decide) ?_
  refine lv_icmp_lt (tgt := 17) hx hb dX8_codeOf_3 (by decide) (fun c9 => absurd c9 (by simp only [Int32.lt_iff_toInt_lt, Int32.le_iff_toInt_le, ← Int32.toInt_inj, show (97 : Int32).toInt = 97 from by decide]; omega)) (fun _ => ?_)
  refine lv_iload_n hx hb dX8_codeOf_6 rfl (lv_at hl 0 rfl) ?_
  refine lv_bipush (v := 122) hx hb dX8_codeOf_7 (by decide) ?_
  refine lv_icmp_gt (tgt := 17) hx hb dX8_codeOf_9 (by decide) (fun c9 => absurd c9 (by simp only [Int32.lt_iff_toInt_lt, Int32.le_iff_toInt_le, ← Int32.toInt_inj, show (122 : Int32).toInt = 122 from by decide]; omega)) (fun _ => ?_)
  refine lv_iload_n hx hb dX8_codeOf_12 rfl (lv_at hl 0 rfl) ?_
  refine lv_bipush (v := 97) hx hb dX8_codeOf_13 (by decide) ?_
  refine lv_isub hx hb dX8_codeOf_15 ?_
  refine lv_topi (fun y_1 e_y_1 => ?_)
  have k_y_1 : 0 ≤ y_1.toInt ∧ y_1.toInt ≤ 25 := by rw [e_y_1]; exact i9_sub (x := v0) (y := 97) (a := 97) (b := 122) (c := 97) (d := 97) k_v0 (by decide) (by decide) (by decide)
  have hP9 := hP.sub (ws' := []) [] rfl
  have hD9 := hD.sub (ws' := []) [] (by decide) rfl
  subst hAe
  exact W.iret (v := y_1) hx hb hr (fun t ht hW => ⟨⟨y_1, (), rfl, k_y_1, by rw [ht]; exact hP9, hD9⟩, hS.F ht⟩) hS.2.2 dX8_codeOf_16
def w9_X8_codeOf_2 : List Cond := [.code yX8_codeOf cX8_codeOf 1 (some .int)]
set_option maxHeartbeats 4000000 in
set_option maxRecDepth 100000 in
theorem c9_X8_codeOf_2 (l : Launch) (g : G9) (sz : Nat) (v0 : Int32) (k_v0 : 65 ≤ v0.toInt ∧ v0.toInt ≤ 90) : Met l yX8_codeOf w9_X8_codeOf_2 ({ frames := 0, cells := 0, slots := 0, locals := 0 }) (mP g [] sz [.int v0]) (va_Qi (fun (r : Int32) (_ : Unit) => 26 ≤ r.toInt ∧ r.toInt ≤ 51) (fun (_ : Unit) (t : State) => mB g [] sz [] t) (va_A [] sz)) 0 0 (va_A [] sz) := by
  refine Met.ofW (cc := cX8_codeOf) (maxL := 1) (ret := (some .int)) (by decide) rfl ?_
  intro p e s m args below meth c s₁ B hml hv
  obtain ⟨rfl, hsz, hP, hD0, hE⟩ := hv
  have hx := B.exec
  have hb := B.bytes
  have hr := B.returns
  have hts := atoms_spec (ws := w9_X8_codeOf_2) B.pre
  have hown : s.vm.findClass RX8 = some m.cls := findClass_of_methodNamed B.named
  have hlocks := B.notSynchronized
  subst hsz
  have hD := hD0.self (sz := s.heap.size)
  generalize hAe : va_A [] s.heap.size = A at hD hE ⊢
  have hA : ∀ q : Nat, s.heap.size ≤ q → A q := fun q h => by rw [← hAe]; exact Or.inr h
  have hK := hE.1
  have hS : va_S A s.heap s.heap [] := va_S.rf
  replace hP : va_P g.1 vwCl [] s.heap := hP
  have hl := lv_entry ([.int v0]) (n := 1) (Nat.le_of_ble_eq_true rfl)
  rw [lg_entry_eq]
  generalize (lg_sl ([.int v0]) ++ List.replicate (1 - (lg_sl ([.int v0])).length) Slot.unset).toArray = ls at hl ⊢
  replace hl : lv_has ls 1 [(0, .int v0)] := hl
  have hH0 : s.heap.size ≤ s.heap.size := Nat.le_refl _
  refine lv_iload_n hx hb dX8_codeOf_0 rfl (lv_at hl 0 rfl) ?_
  refine lv_bipush (v := 97) hx hb dX8_codeOf_1 (by decide) ?_
  refine lv_icmp_lt (tgt := 17) hx hb dX8_codeOf_3 (by decide) (fun _ => ?_) (fun c9 => absurd (by simp only [Int32.lt_iff_toInt_lt, Int32.le_iff_toInt_le, ← Int32.toInt_inj, show (97 : Int32).toInt = 97 from by decide]; omega) c9)
  refine lv_iload_n hx hb dX8_codeOf_17 rfl (lv_at hl 0 rfl) ?_
  refine lv_bipush (v := 65) hx hb dX8_codeOf_18 (by decide) ?_
  refine lv_icmp_lt (tgt := 37) hx hb dX8_codeOf_20 (by decide) (fun c9 => absurd c9 (by simp only [Int32.lt_iff_toInt_lt, Int32.le_iff_toInt_le, ← Int32.toInt_inj, show (65 : Int32).toInt = 65 from by decide]; omega)) (fun _ => ?_)
  refine lv_iload_n hx hb dX8_codeOf_23 rfl (lv_at hl 0 rfl) ?_
  refine lv_bipush (v := 90) hx hb dX8_codeOf_24 (by decide) ?_
  refine lv_icmp_gt (tgt := 37) hx hb dX8_codeOf_26 (by decide) (fun c9 => absurd c9 (by simp only [Int32.lt_iff_toInt_lt, Int32.le_iff_toInt_le, ← Int32.toInt_inj, show (90 : Int32).toInt = 90 from by decide]; omega)) (fun _ => ?_)
  refine lv_iload_n hx hb dX8_codeOf_29 rfl (lv_at hl 0 rfl) ?_
  refine lv_bipush (v := 65) hx hb dX8_codeOf_30 (by decide) ?_
  refine lv_isub hx hb dX8_codeOf_32 ?_
  refine lv_topi (fun y_1 e_y_1 => ?_)
  have k_y_1 : 0 ≤ y_1.toInt ∧ y_1.toInt ≤ 25 := by rw [e_y_1]; exact i9_sub (x := v0) (y := 65) (a := 65) (b := 90) (c := 65) (d := 65) k_v0 (by decide) (by decide) (by decide)
  refine lv_bipush (v := 26) hx hb dX8_codeOf_33 (by decide) ?_
  refine lv_iadd hx hb dX8_codeOf_35 ?_
  refine lv_topi (fun y_2 e_y_2 => ?_)
  have k_y_2 : 26 ≤ y_2.toInt ∧ y_2.toInt ≤ 51 := by rw [e_y_2]; exact i9_add (x := y_1) (y := 26) (a := 0) (b := 25) (c := 26) (d := 26) k_y_1 (by decide) (by decide) (by decide)
  have hP9 := hP.sub (ws' := []) [] rfl
  have hD9 := hD.sub (ws' := []) [] (by decide) rfl
  subst hAe
  exact W.iret (v := y_2) hx hb hr (fun t ht hW => ⟨⟨y_2, (), rfl, k_y_2, by rw [ht]; exact hP9, hD9⟩, hS.F ht⟩) hS.2.2 dX8_codeOf_36
def w9_X8_codeOf_3 : List Cond := [.code yX8_codeOf cX8_codeOf 1 (some .int)]
set_option maxHeartbeats 4000000 in
set_option maxRecDepth 100000 in
theorem c9_X8_codeOf_3 (l : Launch) (g : G9) (sz : Nat) (v0 : Int32) (k_v0 : 48 ≤ v0.toInt ∧ v0.toInt ≤ 57) : Met l yX8_codeOf w9_X8_codeOf_3 ({ frames := 0, cells := 0, slots := 0, locals := 0 }) (mP g [] sz [.int v0]) (va_Qi (fun (r : Int32) (_ : Unit) => 52 ≤ r.toInt ∧ r.toInt ≤ 61) (fun (_ : Unit) (t : State) => mB g [] sz [] t) (va_A [] sz)) 0 0 (va_A [] sz) := by
  refine Met.ofW (cc := cX8_codeOf) (maxL := 1) (ret := (some .int)) (by decide) rfl ?_
  intro p e s m args below meth c s₁ B hml hv
  obtain ⟨rfl, hsz, hP, hD0, hE⟩ := hv
  have hx := B.exec
  have hb := B.bytes
  have hr := B.returns
  have hts := atoms_spec (ws := w9_X8_codeOf_3) B.pre
  have hown : s.vm.findClass RX8 = some m.cls := findClass_of_methodNamed B.named
  have hlocks := B.notSynchronized
  subst hsz
  have hD := hD0.self (sz := s.heap.size)
  generalize hAe : va_A [] s.heap.size = A at hD hE ⊢
  have hA : ∀ q : Nat, s.heap.size ≤ q → A q := fun q h => by rw [← hAe]; exact Or.inr h
  have hK := hE.1
  have hS : va_S A s.heap s.heap [] := va_S.rf
  replace hP : va_P g.1 vwCl [] s.heap := hP
  have hl := lv_entry ([.int v0]) (n := 1) (Nat.le_of_ble_eq_true rfl)
  rw [lg_entry_eq]
  generalize (lg_sl ([.int v0]) ++ List.replicate (1 - (lg_sl ([.int v0])).length) Slot.unset).toArray = ls at hl ⊢
  replace hl : lv_has ls 1 [(0, .int v0)] := hl
  have hH0 : s.heap.size ≤ s.heap.size := Nat.le_refl _
  refine lv_iload_n hx hb dX8_codeOf_0 rfl (lv_at hl 0 rfl) ?_
  refine lv_bipush (v := 97) hx hb dX8_codeOf_1 (by decide) ?_
  refine lv_icmp_lt (tgt := 17) hx hb dX8_codeOf_3 (by decide) (fun _ => ?_) (fun c9 => absurd (by simp only [Int32.lt_iff_toInt_lt, Int32.le_iff_toInt_le, ← Int32.toInt_inj, show (97 : Int32).toInt = 97 from by decide]; omega) c9)
  refine lv_iload_n hx hb dX8_codeOf_17 rfl (lv_at hl 0 rfl) ?_
  refine lv_bipush (v := 65) hx hb dX8_codeOf_18 (by decide) ?_
  refine lv_icmp_lt (tgt := 37) hx hb dX8_codeOf_20 (by decide) (fun _ => ?_) (fun c9 => absurd (by simp only [Int32.lt_iff_toInt_lt, Int32.le_iff_toInt_le, ← Int32.toInt_inj, show (65 : Int32).toInt = 65 from by decide]; omega) c9)
  refine lv_iload_n hx hb dX8_codeOf_37 rfl (lv_at hl 0 rfl) ?_
  refine lv_bipush (v := 48) hx hb dX8_codeOf_38 (by decide) ?_
  refine lv_icmp_lt (tgt := 57) hx hb dX8_codeOf_40 (by decide) (fun c9 => absurd c9 (by simp only [Int32.lt_iff_toInt_lt, Int32.le_iff_toInt_le, ← Int32.toInt_inj, show (48 : Int32).toInt = 48 from by decide]; omega)) (fun _ => ?_)
  refine lv_iload_n hx hb dX8_codeOf_43 rfl (lv_at hl 0 rfl) ?_
  refine lv_bipush (v := 57) hx hb dX8_codeOf_44 (by decide) ?_
  refine lv_icmp_gt (tgt := 57) hx hb dX8_codeOf_46 (by decide) (fun c9 => absurd c9 (by simp only [Int32.lt_iff_toInt_lt, Int32.le_iff_toInt_le, ← Int32.toInt_inj, show (57 : Int32).toInt = 57 from by decide]; omega)) (fun _ => ?_)
  refine lv_iload_n hx hb dX8_codeOf_49 rfl (lv_at hl 0 rfl) ?_
  refine lv_bipush (v := 48) hx hb dX8_codeOf_50 (by decide) ?_
  refine lv_isub hx hb dX8_codeOf_52 ?_
  refine lv_topi (fun y_1 e_y_1 => ?_)
  have k_y_1 : 0 ≤ y_1.toInt ∧ y_1.toInt ≤ 9 := by rw [e_y_1]; exact i9_sub (x := v0) (y := 48) (a := 48) (b := 57) (c := 48) (d := 48) k_v0 (by decide) (by decide) (by decide)
  refine lv_bipush (v := 52) hx hb dX8_codeOf_53 (by decide) ?_
  refine lv_iadd hx hb dX8_codeOf_55 ?_
  refine lv_topi (fun y_2 e_y_2 => ?_)
  have k_y_2 : 52 ≤ y_2.toInt ∧ y_2.toInt ≤ 61 := by rw [e_y_2]; exact i9_add (x := y_1) (y := 52) (a := 0) (b := 9) (c := 52) (d := 52) k_y_1 (by decide) (by decide) (by decide)
  have hP9 := hP.sub (ws' := []) [] rfl
  have hD9 := hD.sub (ws' := []) [] (by decide) rfl
  subst hAe
  exact W.iret (v := y_2) hx hb hr (fun t ht hW => ⟨⟨y_2, (), rfl, k_y_2, by rw [ht]; exact hP9, hD9⟩, hS.F ht⟩) hS.2.2 dX8_codeOf_56
def w9_X8_codeOf_4 : List Cond := [.code yX8_codeOf cX8_codeOf 1 (some .int)]
set_option maxHeartbeats 4000000 in
set_option maxRecDepth 100000 in
theorem c9_X8_codeOf_4 (l : Launch) (g : G9) (sz : Nat) : Met l yX8_codeOf w9_X8_codeOf_4 ({ frames := 0, cells := 0, slots := 0, locals := 0 }) (mP g [] sz [.int 95]) (va_Qi (fun (r : Int32) (_ : Unit) => r = 62) (fun (_ : Unit) (t : State) => mB g [] sz [] t) (va_A [] sz)) 0 0 (va_A [] sz) := by
  refine Met.ofW (cc := cX8_codeOf) (maxL := 1) (ret := (some .int)) (by decide) rfl ?_
  intro p e s m args below meth c s₁ B hml hv
  obtain ⟨rfl, hsz, hP, hD0, hE⟩ := hv
  have hx := B.exec
  have hb := B.bytes
  have hr := B.returns
  have hts := atoms_spec (ws := w9_X8_codeOf_4) B.pre
  have hown : s.vm.findClass RX8 = some m.cls := findClass_of_methodNamed B.named
  have hlocks := B.notSynchronized
  subst hsz
  have hD := hD0.self (sz := s.heap.size)
  generalize hAe : va_A [] s.heap.size = A at hD hE ⊢
  have hA : ∀ q : Nat, s.heap.size ≤ q → A q := fun q h => by rw [← hAe]; exact Or.inr h
  have hK := hE.1
  have hS : va_S A s.heap s.heap [] := va_S.rf
  replace hP : va_P g.1 vwCl [] s.heap := hP
  have hl := lv_entry ([.int 95]) (n := 1) (Nat.le_of_ble_eq_true rfl)
  rw [lg_entry_eq]
  generalize (lg_sl ([.int 95]) ++ List.replicate (1 - (lg_sl ([.int 95])).length) Slot.unset).toArray = ls at hl ⊢
  replace hl : lv_has ls 1 [(0, .int 95)] := hl
  have hH0 : s.heap.size ≤ s.heap.size := Nat.le_refl _
  refine lv_iload_n hx hb dX8_codeOf_0 rfl (lv_at hl 0 rfl) ?_
  refine lv_bipush (v := 97) hx hb dX8_codeOf_1 (by decide) ?_
  refine lv_icmp_lt (tgt := 17) hx hb dX8_codeOf_3 (by decide) (fun _ => ?_) (fun c9 => absurd (by decide) c9)
  refine lv_iload_n hx hb dX8_codeOf_17 rfl (lv_at hl 0 rfl) ?_
  refine lv_bipush (v := 65) hx hb dX8_codeOf_18 (by decide) ?_
  refine lv_icmp_lt (tgt := 37) hx hb dX8_codeOf_20 (by decide) (fun c9 => absurd c9 (by decide)) (fun _ => ?_)
  refine lv_iload_n hx hb dX8_codeOf_23 rfl (lv_at hl 0 rfl) ?_
  refine lv_bipush (v := 90) hx hb dX8_codeOf_24 (by decide) ?_
  refine lv_icmp_gt (tgt := 37) hx hb dX8_codeOf_26 (by decide) (fun _ => ?_) (fun c9 => absurd (by decide) c9)
  refine lv_iload_n hx hb dX8_codeOf_37 rfl (lv_at hl 0 rfl) ?_
  refine lv_bipush (v := 48) hx hb dX8_codeOf_38 (by decide) ?_
  refine lv_icmp_lt (tgt := 57) hx hb dX8_codeOf_40 (by decide) (fun c9 => absurd c9 (by decide)) (fun _ => ?_)
  refine lv_iload_n hx hb dX8_codeOf_43 rfl (lv_at hl 0 rfl) ?_
  refine lv_bipush (v := 57) hx hb dX8_codeOf_44 (by decide) ?_
  refine lv_icmp_gt (tgt := 57) hx hb dX8_codeOf_46 (by decide) (fun _ => ?_) (fun c9 => absurd (by decide) c9)
  refine lv_iload_n hx hb dX8_codeOf_57 rfl (lv_at hl 0 rfl) ?_
  refine lv_bipush (v := 95) hx hb dX8_codeOf_58 (by decide) ?_
  refine lv_icmp_ne (tgt := 66) hx hb dX8_codeOf_60 (by decide) (fun c9 => absurd (by decide) c9) (fun _ => ?_)
  refine lv_bipush (v := 62) hx hb dX8_codeOf_63 (by decide) ?_
  have hP9 := hP.sub (ws' := []) [] rfl
  have hD9 := hD.sub (ws' := []) [] (by decide) rfl
  subst hAe
  exact W.iret (v := 62) hx hb hr (fun t ht hW => ⟨⟨62, (), rfl, rfl, by rw [ht]; exact hP9, hD9⟩, hS.F ht⟩) hS.2.2 dX8_codeOf_65
def w9_X8_codeOf_5 : List Cond := [.code yX8_codeOf cX8_codeOf 1 (some .int)]
set_option maxHeartbeats 4000000 in
set_option maxRecDepth 100000 in
theorem c9_X8_codeOf_5 (l : Launch) (g : G9) (sz : Nat) : Met l yX8_codeOf w9_X8_codeOf_5 ({ frames := 0, cells := 0, slots := 0, locals := 0 }) (mP g [] sz [.int 32]) (va_Qi (fun (r : Int32) (_ : Unit) => r = 63) (fun (_ : Unit) (t : State) => mB g [] sz [] t) (va_A [] sz)) 0 0 (va_A [] sz) := by
  refine Met.ofW (cc := cX8_codeOf) (maxL := 1) (ret := (some .int)) (by decide) rfl ?_
  intro p e s m args below meth c s₁ B hml hv
  obtain ⟨rfl, hsz, hP, hD0, hE⟩ := hv
  have hx := B.exec
  have hb := B.bytes
  have hr := B.returns
  have hts := atoms_spec (ws := w9_X8_codeOf_5) B.pre
  have hown : s.vm.findClass RX8 = some m.cls := findClass_of_methodNamed B.named
  have hlocks := B.notSynchronized
  subst hsz
  have hD := hD0.self (sz := s.heap.size)
  generalize hAe : va_A [] s.heap.size = A at hD hE ⊢
  have hA : ∀ q : Nat, s.heap.size ≤ q → A q := fun q h => by rw [← hAe]; exact Or.inr h
  have hK := hE.1
  have hS : va_S A s.heap s.heap [] := va_S.rf
  replace hP : va_P g.1 vwCl [] s.heap := hP
  have hl := lv_entry ([.int 32]) (n := 1) (Nat.le_of_ble_eq_true rfl)
  rw [lg_entry_eq]
  generalize (lg_sl ([.int 32]) ++ List.replicate (1 - (lg_sl ([.int 32])).length) Slot.unset).toArray = ls at hl ⊢
  replace hl : lv_has ls 1 [(0, .int 32)] := hl
  have hH0 : s.heap.size ≤ s.heap.size := Nat.le_refl _
  refine lv_iload_n hx hb dX8_codeOf_0 rfl (lv_at hl 0 rfl) ?_
  refine lv_bipush (v := 97) hx hb dX8_codeOf_1 (by decide) ?_
  refine lv_icmp_lt (tgt := 17) hx hb dX8_codeOf_3 (by decide) (fun _ => ?_) (fun c9 => absurd (by decide) c9)
  refine lv_iload_n hx hb dX8_codeOf_17 rfl (lv_at hl 0 rfl) ?_
  refine lv_bipush (v := 65) hx hb dX8_codeOf_18 (by decide) ?_
  refine lv_icmp_lt (tgt := 37) hx hb dX8_codeOf_20 (by decide) (fun _ => ?_) (fun c9 => absurd (by decide) c9)
  refine lv_iload_n hx hb dX8_codeOf_37 rfl (lv_at hl 0 rfl) ?_
  refine lv_bipush (v := 48) hx hb dX8_codeOf_38 (by decide) ?_
  refine lv_icmp_lt (tgt := 57) hx hb dX8_codeOf_40 (by decide) (fun _ => ?_) (fun c9 => absurd (by decide) c9)
  refine lv_iload_n hx hb dX8_codeOf_57 rfl (lv_at hl 0 rfl) ?_
  refine lv_bipush (v := 95) hx hb dX8_codeOf_58 (by decide) ?_
  refine lv_icmp_ne (tgt := 66) hx hb dX8_codeOf_60 (by decide) (fun _ => ?_) (fun c9 => absurd c9 (by decide))
  refine lv_iload_n hx hb dX8_codeOf_66 rfl (lv_at hl 0 rfl) ?_
  refine lv_bipush (v := 32) hx hb dX8_codeOf_67 (by decide) ?_
  refine lv_icmp_ne (tgt := 77) hx hb dX8_codeOf_69 (by decide) (fun c9 => absurd (by decide) c9) (fun _ => ?_)
  refine lv_bipush (v := 63) hx hb dX8_codeOf_72 (by decide) ?_
  refine lv_goto (tgt := 78) hx hb dX8_codeOf_74 (by decide) ?_
  have hP9 := hP.sub (ws' := []) [] rfl
  have hD9 := hD.sub (ws' := []) [] (by decide) rfl
  subst hAe
  exact W.iret (v := 63) hx hb hr (fun t ht hW => ⟨⟨63, (), rfl, rfl, by rw [ht]; exact hP9, hD9⟩, hS.F ht⟩) hS.2.2 dX8_codeOf_78
def w9_X8_codeOf_6 : List Cond := [.code yX8_codeOf cX8_codeOf 1 (some .int)]
set_option maxHeartbeats 4000000 in
set_option maxRecDepth 100000 in
theorem c9_X8_codeOf_6 (l : Launch) (g : G9) (sz : Nat) : Met l yX8_codeOf w9_X8_codeOf_6 ({ frames := 0, cells := 0, slots := 0, locals := 0 }) (mP g [] sz [.int 46]) (va_Qi (fun (r : Int32) (_ : Unit) => r = (-1)) (fun (_ : Unit) (t : State) => mB g [] sz [] t) (va_A [] sz)) 0 0 (va_A [] sz) := by
  refine Met.ofW (cc := cX8_codeOf) (maxL := 1) (ret := (some .int)) (by decide) rfl ?_
  intro p e s m args below meth c s₁ B hml hv
  obtain ⟨rfl, hsz, hP, hD0, hE⟩ := hv
  have hx := B.exec
  have hb := B.bytes
  have hr := B.returns
  have hts := atoms_spec (ws := w9_X8_codeOf_6) B.pre
  have hown : s.vm.findClass RX8 = some m.cls := findClass_of_methodNamed B.named
  have hlocks := B.notSynchronized
  subst hsz
  have hD := hD0.self (sz := s.heap.size)
  generalize hAe : va_A [] s.heap.size = A at hD hE ⊢
  have hA : ∀ q : Nat, s.heap.size ≤ q → A q := fun q h => by rw [← hAe]; exact Or.inr h
  have hK := hE.1
  have hS : va_S A s.heap s.heap [] := va_S.rf
  replace hP : va_P g.1 vwCl [] s.heap := hP
  have hl := lv_entry ([.int 46]) (n := 1) (Nat.le_of_ble_eq_true rfl)
  rw [lg_entry_eq]
  generalize (lg_sl ([.int 46]) ++ List.replicate (1 - (lg_sl ([.int 46])).length) Slot.unset).toArray = ls at hl ⊢
  replace hl : lv_has ls 1 [(0, .int 46)] := hl
  have hH0 : s.heap.size ≤ s.heap.size := Nat.le_refl _
  refine lv_iload_n hx hb dX8_codeOf_0 rfl (lv_at hl 0 rfl) ?_
  refine lv_bipush (v := 97) hx hb dX8_codeOf_1 (by decide) ?_
  refine lv_icmp_lt (tgt := 17) hx hb dX8_codeOf_3 (by decide) (fun _ => ?_) (fun c9 => absurd (by decide) c9)
  refine lv_iload_n hx hb dX8_codeOf_17 rfl (lv_at hl 0 rfl) ?_
  refine lv_bipush (v := 65) hx hb dX8_codeOf_18 (by decide) ?_
  refine lv_icmp_lt (tgt := 37) hx hb dX8_codeOf_20 (by decide) (fun _ => ?_) (fun c9 => absurd (by decide) c9)
  refine lv_iload_n hx hb dX8_codeOf_37 rfl (lv_at hl 0 rfl) ?_
  refine lv_bipush (v := 48) hx hb dX8_codeOf_38 (by decide) ?_
  refine lv_icmp_lt (tgt := 57) hx hb dX8_codeOf_40 (by decide) (fun _ => ?_) (fun c9 => absurd (by decide) c9)
  refine lv_iload_n hx hb dX8_codeOf_57 rfl (lv_at hl 0 rfl) ?_
  refine lv_bipush (v := 95) hx hb dX8_codeOf_58 (by decide) ?_
  refine lv_icmp_ne (tgt := 66) hx hb dX8_codeOf_60 (by decide) (fun _ => ?_) (fun c9 => absurd c9 (by decide))
  refine lv_iload_n hx hb dX8_codeOf_66 rfl (lv_at hl 0 rfl) ?_
  refine lv_bipush (v := 32) hx hb dX8_codeOf_67 (by decide) ?_
  refine lv_icmp_ne (tgt := 77) hx hb dX8_codeOf_69 (by decide) (fun _ => ?_) (fun c9 => absurd c9 (by decide))
  refine lv_iconst (v := (-1)) hx hb dX8_codeOf_77 (by decide) ?_
  have hP9 := hP.sub (ws' := []) [] rfl
  have hD9 := hD.sub (ws' := []) [] (by decide) rfl
  subst hAe
  exact W.iret (v := (-1)) hx hb hr (fun t ht hW => ⟨⟨(-1), (), rfl, rfl, by rw [ht]; exact hP9, hD9⟩, hS.F ht⟩) hS.2.2 dX8_codeOf_78
def w9_J0_isLatin1_aae02_1 : List Cond := [.code yJ0_isLatin1_aae02 cJ0_isLatin1_aae02 1 (some .boolean), .fieldLink RJ0 38 "java/lang/String" "COMPACT_STRINGS" "Z", .fieldLink RJ0 15 "java/lang/String" "coder" "B"]
set_option maxHeartbeats 4000000 in
set_option maxRecDepth 100000 in
theorem c9_J0_isLatin1_aae02_1 (l : Launch) (g : G9) (sz : Nat) : Met l yJ0_isLatin1_aae02 w9_J0_isLatin1_aae02_1 ({ frames := 0, cells := 0, slots := 0, locals := 0 }) (mP g [] sz [.ref (g.2.2 1)]) (va_Qi (fun (r : Int32) (_ : Unit) => r = 1) (fun (_ : Unit) (t : State) => mB g [] sz [] t) (va_A [] sz)) 0 0 (va_A [] sz) := by
  refine Met.ofW (cc := cJ0_isLatin1_aae02) (maxL := 1) (ret := (some .boolean)) (by decide) rfl ?_
  intro p e s m args below meth c s₁ B hml hv
  obtain ⟨rfl, hsz, hP, hD0, hE⟩ := hv
  have hx := B.exec
  have hb := B.bytes
  have hr := B.returns
  have hts := atoms_spec (ws := w9_J0_isLatin1_aae02_1) B.pre
  have hown : s.vm.findClass RJ0 = some m.cls := findClass_of_methodNamed B.named
  have hlocks := B.notSynchronized
  subst hsz
  have hD := hD0.self (sz := s.heap.size)
  generalize hAe : va_A [] s.heap.size = A at hD hE ⊢
  have hA : ∀ q : Nat, s.heap.size ≤ q → A q := fun q h => by rw [← hAe]; exact Or.inr h
  have hK := hE.1
  have hS : va_S A s.heap s.heap [] := va_S.rf
  replace hP : va_P g.1 vwCl [] s.heap := hP
  have hl := lv_entry ([.ref (g.2.2 1)]) (n := 1) (Nat.le_of_ble_eq_true rfl)
  rw [lg_entry_eq]
  generalize (lg_sl ([.ref (g.2.2 1)]) ++ List.replicate (1 - (lg_sl ([.ref (g.2.2 1)])).length) Slot.unset).toArray = ls at hl ⊢
  replace hl : lv_has ls 1 [(0, .ref (g.2.2 1))] := hl
  have hH0 : s.heap.size ≤ s.heap.size := Nat.le_refl _
  refine va_gets hx hb hE.zc hS hown (hts (.fieldLink RJ0 38 "java/lang/String" "COMPACT_STRINGS" "Z") (List.mem_of_getElem? (i := 1) rfl)) (fun _ h9 => h9) dJ0_isLatin1_aae02_0 ?_
  refine lv_if_eq (tgt := 17) hx hb dJ0_isLatin1_aae02_3 (by decide) (fun c9 => absurd c9 (by decide)) (fun _ => ?_)
  refine lv_aload_n hx hb dJ0_isLatin1_aae02_6 rfl (lv_at hl 0 rfl) ?_
  refine vk_getf hx hb hE.oc hS hown (hts (.fieldLink RJ0 15 "java/lang/String" "coder" "B") (List.mem_of_getElem? (i := 2) rfl)) (fun _ h9 => h9) dJ0_isLatin1_aae02_7 ?_
  refine lv_if_ne (tgt := 17) hx hb dJ0_isLatin1_aae02_10 (by decide) (fun c9 => absurd (by decide) c9) (fun _ => ?_)
  refine lv_iconst (v := 1) hx hb dJ0_isLatin1_aae02_13 (by decide) ?_
  refine lv_goto (tgt := 18) hx hb dJ0_isLatin1_aae02_14 (by decide) ?_
  have hP9 := hP.sub (ws' := []) [] rfl
  have hD9 := hD.sub (ws' := []) [] (by decide) rfl
  subst hAe
  exact W.zret (v := 1) hx hb hr (by decide) (fun t ht hW => ⟨⟨1, (), rfl, rfl, by rw [ht]; exact hP9, hD9⟩, hS.F ht⟩) hS.2.2 dJ0_isLatin1_aae02_18
def w9_J0_coder_7d493_1 : List Cond := [.code yJ0_coder_7d493 cJ0_coder_7d493 1 (some .byte), .fieldLink RJ0 38 "java/lang/String" "COMPACT_STRINGS" "Z", .fieldLink RJ0 15 "java/lang/String" "coder" "B"]
set_option maxHeartbeats 4000000 in
set_option maxRecDepth 100000 in
theorem c9_J0_coder_7d493_1 (l : Launch) (g : G9) (sz : Nat) : Met l yJ0_coder_7d493 w9_J0_coder_7d493_1 ({ frames := 0, cells := 0, slots := 0, locals := 0 }) (mP g [] sz [.ref (g.2.2 1)]) (va_Qi (fun (r : Int32) (_ : Unit) => r = 0) (fun (_ : Unit) (t : State) => mB g [] sz [] t) (va_A [] sz)) 0 0 (va_A [] sz) := by
  refine Met.ofW (cc := cJ0_coder_7d493) (maxL := 1) (ret := (some .byte)) (by decide) rfl ?_
  intro p e s m args below meth c s₁ B hml hv
  obtain ⟨rfl, hsz, hP, hD0, hE⟩ := hv
  have hx := B.exec
  have hb := B.bytes
  have hr := B.returns
  have hts := atoms_spec (ws := w9_J0_coder_7d493_1) B.pre
  have hown : s.vm.findClass RJ0 = some m.cls := findClass_of_methodNamed B.named
  have hlocks := B.notSynchronized
  subst hsz
  have hD := hD0.self (sz := s.heap.size)
  generalize hAe : va_A [] s.heap.size = A at hD hE ⊢
  have hA : ∀ q : Nat, s.heap.size ≤ q → A q := fun q h => by rw [← hAe]; exact Or.inr h
  have hK := hE.1
  have hS : va_S A s.heap s.heap [] := va_S.rf
  replace hP : va_P g.1 vwCl [] s.heap := hP
  have hl := lv_entry ([.ref (g.2.2 1)]) (n := 1) (Nat.le_of_ble_eq_true rfl)
  rw [lg_entry_eq]
  generalize (lg_sl ([.ref (g.2.2 1)]) ++ List.replicate (1 - (lg_sl ([.ref (g.2.2 1)])).length) Slot.unset).toArray = ls at hl ⊢
  replace hl : lv_has ls 1 [(0, .ref (g.2.2 1))] := hl
  have hH0 : s.heap.size ≤ s.heap.size := Nat.le_refl _
  refine va_gets hx hb hE.zc hS hown (hts (.fieldLink RJ0 38 "java/lang/String" "COMPACT_STRINGS" "Z") (List.mem_of_getElem? (i := 1) rfl)) (fun _ h9 => h9) dJ0_coder_7d493_0 ?_
  refine lv_if_eq (tgt := 13) hx hb dJ0_coder_7d493_3 (by decide) (fun c9 => absurd c9 (by decide)) (fun _ => ?_)
  refine lv_aload_n hx hb dJ0_coder_7d493_6 rfl (lv_at hl 0 rfl) ?_
  refine vk_getf hx hb hE.oc hS hown (hts (.fieldLink RJ0 15 "java/lang/String" "coder" "B") (List.mem_of_getElem? (i := 2) rfl)) (fun _ h9 => h9) dJ0_coder_7d493_7 ?_
  refine lv_goto (tgt := 14) hx hb dJ0_coder_7d493_10 (by decide) ?_
  have hP9 := hP.sub (ws' := []) [] rfl
  have hD9 := hD.sub (ws' := []) [] (by decide) rfl
  subst hAe
  exact W.zret (v := 0) hx hb hr (by decide) (fun t ht hW => ⟨⟨0, (), rfl, rfl, by rw [ht]; exact hP9, hD9⟩, hS.F ht⟩) hS.2.2 dJ0_coder_7d493_14
def w9_J0_length_8abf5_1 : List Cond := [.code yJ0_length_8abf5 cJ0_length_8abf5 1 (some .int), .fieldLink RJ0 9 "java/lang/String" "value" "[B", .methodLink RJ0 335 yJ0_coder_7d493, .instanceMethod yJ0_coder_7d493, .selects RJ0 yJ0_coder_7d493 yJ0_coder_7d493, .initialized RJ0, .code yJ0_coder_7d493 cJ0_coder_7d493 1 (some .byte), .fieldLink RJ0 38 "java/lang/String" "COMPACT_STRINGS" "Z", .fieldLink RJ0 15 "java/lang/String" "coder" "B"]
set_option maxRecDepth 20000 in
theorem g9_J0_length_8abf5_1_0 : GoodIn w9_J0_length_8abf5_1 (wsV RJ0 335 RJ0 yJ0_coder_7d493 w9_J0_coder_7d493_1) := goodIn_r _ [2, 3, 4, 5, 6, 7, 8] (by decide +kernel) (by decide +kernel)
set_option maxHeartbeats 4000000 in
set_option maxRecDepth 100000 in
theorem c9_J0_length_8abf5_1 (l : Launch) (g : G9) (sz : Nat) : Met l yJ0_length_8abf5 w9_J0_length_8abf5_1 ({ frames := 1, cells := 0, slots := 0, locals := 20 }) (mP g [] sz [.ref (g.2.2 1)]) (va_Qi (fun (r : Int32) (_ : Unit) => r = 22) (fun (_ : Unit) (t : State) => mB g [] sz [] t) (va_A [] sz)) 0 0 (va_A [] sz) := by
  refine Met.ofW (cc := cJ0_length_8abf5) (maxL := 1) (ret := (some .int)) (by decide) rfl ?_
  intro p e s m args below meth c s₁ B hml hv
  obtain ⟨rfl, hsz, hP, hD0, hE⟩ := hv
  have hx := B.exec
  have hb := B.bytes
  have hr := B.returns
  have hts := atoms_spec (ws := w9_J0_length_8abf5_1) B.pre
  have hown : s.vm.findClass RJ0 = some m.cls := findClass_of_methodNamed B.named
  have hlocks := B.notSynchronized
  subst hsz
  have hD := hD0.self (sz := s.heap.size)
  generalize hAe : va_A [] s.heap.size = A at hD hE ⊢
  have hA : ∀ q : Nat, s.heap.size ≤ q → A q := fun q h => by rw [← hAe]; exact Or.inr h
  have hK := hE.1
  have hS : va_S A s.heap s.heap [] := va_S.rf
  replace hP : va_P g.1 vwCl [] s.heap := hP
  have hl := lv_entry ([.ref (g.2.2 1)]) (n := 1) (Nat.le_of_ble_eq_true rfl)
  rw [lg_entry_eq]
  generalize (lg_sl ([.ref (g.2.2 1)]) ++ List.replicate (1 - (lg_sl ([.ref (g.2.2 1)])).length) Slot.unset).toArray = ls at hl ⊢
  replace hl : lv_has ls 1 [(0, .ref (g.2.2 1))] := hl
  have hH0 : s.heap.size ≤ s.heap.size := Nat.le_refl _
  refine lv_aload_n hx hb dJ0_length_8abf5_0 rfl (lv_at hl 0 rfl) ?_
  refine vk_getf hx hb hE.ov hS hown (hts (.fieldLink RJ0 9 "java/lang/String" "value" "[B") (List.mem_of_getElem? (i := 1) rfl)) (fun _ h9 => h9) dJ0_length_8abf5_1 ?_
  refine va_tlen (v := 22) hx hb hE.ot hS (by decide) dJ0_length_8abf5_4 ?_
  refine lv_aload_n hx hb dJ0_length_8abf5_5 rfl (lv_at hl 0 rfl) ?_
  have hPc := hP.sub (ws' := []) [] rfl
  have hDc := hD.sub (ws' := []) [] (by decide) rfl
  have hFc := va_free (wc := []) hD hS hA [] rfl
  refine va_calli (va_runV (As := []) (rest := [.int 22]) ⟨hx, hb, hml, hown, hts⟩ (c9_J0_coder_7d493_1 l g _) (cwV 0 hts g9_J0_length_8abf5_1_0 rfl rfl rfl (by decide +kernel) ⟨Nat.le_of_ble_eq_true rfl, Nat.le_of_ble_eq_true rfl⟩) (mPreT (g := g) (wc := []) (C := RJ0) hE hS hPc hDc hFc (hE.or hS)) rfl rfl hl.1 rfl (lv_room (Nat.le_of_ble_eq_true rfl)) dJ0_length_8abf5_6 ⟨Nat.le_of_ble_eq_true rfl, Nat.le_of_ble_eq_true rfl⟩) hS (fun q _ h => hFc q h) hFc (fun r_1 u t H1 locs ht hvm hw hB hz1 hk1 hS => ?_)
  replace hw : 0 = r_1 := Eq.symm hw
  subst hw
  obtain ⟨hP1, hD1⟩ := hB
  rw [ht] at hP1
  obtain ⟨hP, hD⟩ := va_join (wr := []) (w1 := []) hP hD [] [] rfl rfl (by decide) (by decide) hk1 hFc hP1 hD1
  clear hP1 hD1 hPc hDc hFc hk1 hz1 hvm ht
  generalize H1 = H at hP hS ⊢
  have hP : va_P g.1 vwCl [] H := hP
  have hD : va_D A [] := hD
  refine lv_ishr hx hb dJ0_length_8abf5_9 ?_
  refine e_top (y := 22) (by decide) ?_
  have hP9 := hP.sub (ws' := []) [] rfl
  have hD9 := hD.sub (ws' := []) [] (by decide) rfl
  subst hAe
  exact W.iret (v := 22) hx hb hr (fun t ht hW => ⟨⟨22, (), rfl, rfl, by rw [ht]; exact hP9, hD9⟩, hS.F ht⟩) hS.2.2 dJ0_length_8abf5_10
def w9_J1_canEncode_9a6ad_1 : List Cond := [.code yJ1_canEncode_9a6ad cJ1_canEncode_9a6ad 1 (some .boolean)]
set_option maxHeartbeats 4000000 in
set_option maxRecDepth 100000 in
theorem c9_J1_canEncode_9a6ad_1 (l : Launch) (g : G9) (sz : Nat) : Met l yJ1_canEncode_9a6ad w9_J1_canEncode_9a6ad_1 ({ frames := 0, cells := 0, slots := 0, locals := 0 }) (mP g [] sz [.int 46]) (va_Qi (fun (r : Int32) (_ : Unit) => r = 1) (fun (_ : Unit) (t : State) => mB g [] sz [] t) (va_A [] sz)) 0 0 (va_A [] sz) := by
  refine Met.ofW (cc := cJ1_canEncode_9a6ad) (maxL := 1) (ret := (some .boolean)) (by decide) rfl ?_
  intro p e s m args below meth c s₁ B hml hv
  obtain ⟨rfl, hsz, hP, hD0, hE⟩ := hv
  have hx := B.exec
  have hb := B.bytes
  have hr := B.returns
  have hts := atoms_spec (ws := w9_J1_canEncode_9a6ad_1) B.pre
  have hown : s.vm.findClass RJ1 = some m.cls := findClass_of_methodNamed B.named
  have hlocks := B.notSynchronized
  subst hsz
  have hD := hD0.self (sz := s.heap.size)
  generalize hAe : va_A [] s.heap.size = A at hD hE ⊢
  have hA : ∀ q : Nat, s.heap.size ≤ q → A q := fun q h => by rw [← hAe]; exact Or.inr h
  have hK := hE.1
  have hS : va_S A s.heap s.heap [] := va_S.rf
  replace hP : va_P g.1 vwCl [] s.heap := hP
  have hl := lv_entry ([.int 46]) (n := 1) (Nat.le_of_ble_eq_true rfl)
  rw [lg_entry_eq]
  generalize (lg_sl ([.int 46]) ++ List.replicate (1 - (lg_sl ([.int 46])).length) Slot.unset).toArray = ls at hl ⊢
  replace hl : lv_has ls 1 [(0, .int 46)] := hl
  have hH0 : s.heap.size ≤ s.heap.size := Nat.le_refl _
  refine lv_iload_n hx hb dJ1_canEncode_9a6ad_0 rfl (lv_at hl 0 rfl) ?_
  refine lv_if_lt (tgt := 15) hx hb dJ1_canEncode_9a6ad_1 (by decide) (fun c9 => absurd c9 (by decide)) (fun _ => ?_)
  refine lv_iload_n hx hb dJ1_canEncode_9a6ad_4 rfl (lv_at hl 0 rfl) ?_
  refine lv_sipush (v := 255) hx hb dJ1_canEncode_9a6ad_5 (by decide) ?_
  refine lv_icmp_gt (tgt := 15) hx hb dJ1_canEncode_9a6ad_8 (by decide) (fun c9 => absurd c9 (by decide)) (fun _ => ?_)
  refine lv_iconst (v := 1) hx hb dJ1_canEncode_9a6ad_11 (by decide) ?_
  refine lv_goto (tgt := 16) hx hb dJ1_canEncode_9a6ad_12 (by decide) ?_
  have hP9 := hP.sub (ws' := []) [] rfl
  have hD9 := hD.sub (ws' := []) [] (by decide) rfl
  subst hAe
  exact W.zret (v := 1) hx hb hr (by decide) (fun t ht hW => ⟨⟨1, (), rfl, rfl, by rw [ht]; exact hP9, hD9⟩, hS.F ht⟩) hS.2.2 dJ1_canEncode_9a6ad_16
def w9_J1_indexOfChar_4cfef_1 : List Cond := [.code yJ1_indexOfChar_4cfef cJ1_indexOfChar_4cfef 6 (some .int)]
set_option maxHeartbeats 4000000 in
set_option maxRecDepth 100000 in
theorem c9_J1_indexOfChar_4cfef_1 (l : Launch) (g : G9) (sz : Nat) : Met l yJ1_indexOfChar_4cfef w9_J1_indexOfChar_4cfef_1 ({ frames := 0, cells := 0, slots := 0, locals := 0 }) (mP g [] sz [.ref (g.2.2 2), .int 46, .int 0, .int 22]) (va_Qi (fun (r : Int32) (_ : Unit) => r = 0) (fun (_ : Unit) (t : State) => mB g [] sz [] t) (va_A [] sz)) 0 0 (va_A [] sz) := by
  refine Met.ofW (cc := cJ1_indexOfChar_4cfef) (maxL := 6) (ret := (some .int)) (by decide) rfl ?_
  intro p e s m args below meth c s₁ B hml hv
  obtain ⟨rfl, hsz, hP, hD0, hE⟩ := hv
  have hx := B.exec
  have hb := B.bytes
  have hr := B.returns
  have hts := atoms_spec (ws := w9_J1_indexOfChar_4cfef_1) B.pre
  have hown : s.vm.findClass RJ1 = some m.cls := findClass_of_methodNamed B.named
  have hlocks := B.notSynchronized
  subst hsz
  have hD := hD0.self (sz := s.heap.size)
  generalize hAe : va_A [] s.heap.size = A at hD hE ⊢
  have hA : ∀ q : Nat, s.heap.size ≤ q → A q := fun q h => by rw [← hAe]; exact Or.inr h
  have hK := hE.1
  have hS : va_S A s.heap s.heap [] := va_S.rf
  replace hP : va_P g.1 vwCl [] s.heap := hP
  have hl := lv_entry ([.ref (g.2.2 2), .int 46, .int 0, .int 22]) (n := 6) (Nat.le_of_ble_eq_true rfl)
  rw [lg_entry_eq]
  generalize (lg_sl ([.ref (g.2.2 2), .int 46, .int 0, .int 22]) ++ List.replicate (6 - (lg_sl ([.ref (g.2.2 2), .int 46, .int 0, .int 22])).length) Slot.unset).toArray = ls at hl ⊢
  replace hl : lv_has ls 6 [(0, .ref (g.2.2 2)), (1, .int 46), (2, .int 0), (3, .int 22)] := hl
  have hH0 : s.heap.size ≤ s.heap.size := Nat.le_refl _
  refine lv_iload_n hx hb dJ1_indexOfChar_4cfef_0 rfl (lv_at hl 1 rfl) ?_
  refine lv_i2b (v := 46) hx hb dJ1_indexOfChar_4cfef_1 (by decide) ?_
  refine lv_istore (lv' := [(4, .int 46), (0, .ref (g.2.2 2)), (1, .int 46), (2, .int 0), (3, .int 22)]) hx hb dJ1_indexOfChar_4cfef_2 hl (by decide) rfl (fun ls hl => ?_)
  refine lv_iload_n hx hb dJ1_indexOfChar_4cfef_4 rfl (lv_at hl 3 rfl) ?_
  refine lv_istore (lv' := [(5, .int 0), (4, .int 46), (0, .ref (g.2.2 2)), (1, .int 46), (2, .int 0), (3, .int 22)]) hx hb dJ1_indexOfChar_4cfef_5 hl (by decide) rfl (fun ls hl => ?_)
  refine lv_iload hx hb dJ1_indexOfChar_4cfef_7 (lv_at hl 0 rfl) ?_
  refine lv_iload_n hx hb dJ1_indexOfChar_4cfef_9 rfl (lv_at hl 5 rfl) ?_
  refine lv_icmp_ge (tgt := 31) hx hb dJ1_indexOfChar_4cfef_10 (by decide) (fun c9 => absurd c9 (by decide)) (fun _ => ?_)
  refine lv_aload_n hx hb dJ1_indexOfChar_4cfef_13 rfl (lv_at hl 2 rfl) ?_
  refine lv_iload hx hb dJ1_indexOfChar_4cfef_14 (lv_at hl 0 rfl) ?_
  refine va_tb (v := .int 46) hx hb hE.ot hS (vp_in_nI (n := 0) (by decide) (by decide)) rfl dJ1_indexOfChar_4cfef_16 ?_
  refine lv_iload hx hb dJ1_indexOfChar_4cfef_17 (lv_at hl 1 rfl) ?_
  refine lv_icmp_ne (tgt := 25) hx hb dJ1_indexOfChar_4cfef_19 (by decide) (fun c9 => absurd (by decide) c9) (fun _ => ?_)
  refine lv_iload hx hb dJ1_indexOfChar_4cfef_22 (lv_at hl 0 rfl) ?_
  have hP9 := hP.sub (ws' := []) [] rfl
  have hD9 := hD.sub (ws' := []) [] (by decide) rfl
  subst hAe
  exact W.iret (v := 0) hx hb hr (fun t ht hW => ⟨⟨0, (), rfl, rfl, by rw [ht]; exact hP9, hD9⟩, hS.F ht⟩) hS.2.2 dJ1_indexOfChar_4cfef_24
def w9_J1_indexOf_4cfef_1 : List Cond := [.code yJ1_indexOf_4cfef cJ1_indexOf_4cfef 4 (some .int), .methodLink RJ1 88 yJ1_canEncode_9a6ad, .static yJ1_canEncode_9a6ad, .initialized RJ1, .code yJ1_canEncode_9a6ad cJ1_canEncode_9a6ad 1 (some .boolean), .methodLink RJ1 92 Lib.Math.max.name, .static Lib.Math.max.name, .initialized "java/lang/Math", .code Lib.Math.max.name Lib.Math.max.code 2 (some .int), .methodLink RJ1 38 Lib.Math.min.name, .static Lib.Math.min.name, .code Lib.Math.min.name Lib.Math.min.code 2 (some .int), .methodLink RJ1 95 yJ1_indexOfChar_4cfef, .static yJ1_indexOfChar_4cfef, .code yJ1_indexOfChar_4cfef cJ1_indexOfChar_4cfef 6 (some .int)]
set_option maxRecDepth 20000 in
theorem g9_J1_indexOf_4cfef_1_0 : GoodIn w9_J1_indexOf_4cfef_1 (va_wsS RJ1 88 yJ1_canEncode_9a6ad w9_J1_canEncode_9a6ad_1) := goodIn_r _ [1, 2, 3, 4] (by decide +kernel) (by decide +kernel)
set_option maxRecDepth 20000 in
theorem g9_J1_indexOf_4cfef_1_1 : GoodIn w9_J1_indexOf_4cfef_1 (va_wsS RJ1 95 yJ1_indexOfChar_4cfef w9_J1_indexOfChar_4cfef_1) := goodIn_r _ [12, 13, 3, 14] (by decide +kernel) (by decide +kernel)
set_option maxHeartbeats 4000000 in
set_option maxRecDepth 100000 in
theorem c9_J1_indexOf_4cfef_1 (l : Launch) (g : G9) (sz : Nat) : Met l yJ1_indexOf_4cfef w9_J1_indexOf_4cfef_1 ({ frames := 1, cells := 0, slots := 0, locals := 25 }) (mP g [] sz [.ref (g.2.2 2), .int 46, .int 0, .int 22]) (va_Qi (fun (r : Int32) (_ : Unit) => r = 0) (fun (_ : Unit) (t : State) => mB g [] sz [] t) (va_A [] sz)) 0 0 (va_A [] sz) := by
  refine Met.ofW (cc := cJ1_indexOf_4cfef) (maxL := 4) (ret := (some .int)) (by decide) rfl ?_
  intro p e s m args below meth c s₁ B hml hv
  obtain ⟨rfl, hsz, hP, hD0, hE⟩ := hv
  have hx := B.exec
  have hb := B.bytes
  have hr := B.returns
  have hts := atoms_spec (ws := w9_J1_indexOf_4cfef_1) B.pre
  have hown : s.vm.findClass RJ1 = some m.cls := findClass_of_methodNamed B.named
  have hlocks := B.notSynchronized
  subst hsz
  have hD := hD0.self (sz := s.heap.size)
  generalize hAe : va_A [] s.heap.size = A at hD hE ⊢
  have hA : ∀ q : Nat, s.heap.size ≤ q → A q := fun q h => by rw [← hAe]; exact Or.inr h
  have hK := hE.1
  have hS : va_S A s.heap s.heap [] := va_S.rf
  replace hP : va_P g.1 vwCl [] s.heap := hP
  have hl := lv_entry ([.ref (g.2.2 2), .int 46, .int 0, .int 22]) (n := 4) (Nat.le_of_ble_eq_true rfl)
  rw [lg_entry_eq]
  generalize (lg_sl ([.ref (g.2.2 2), .int 46, .int 0, .int 22]) ++ List.replicate (4 - (lg_sl ([.ref (g.2.2 2), .int 46, .int 0, .int 22])).length) Slot.unset).toArray = ls at hl ⊢
  replace hl : lv_has ls 4 [(0, .ref (g.2.2 2)), (1, .int 46), (2, .int 0), (3, .int 22)] := hl
  have hH0 : s.heap.size ≤ s.heap.size := Nat.le_refl _
  refine lv_iload_n hx hb dJ1_indexOf_4cfef_0 rfl (lv_at hl 1 rfl) ?_
  have hPc := hP.sub (ws' := []) [] rfl
  have hDc := hD.sub (ws' := []) [] (by decide) rfl
  have hFc := va_free (wc := []) hD hS hA [] rfl
  refine va_calli (va_runS (As := [.int 46]) (rest := []) ⟨hx, hb, hml, hown, hts⟩ (c9_J1_canEncode_9a6ad_1 l g _) (va_cwS 1 hts g9_J1_indexOf_4cfef_1_0 rfl rfl rfl (by decide +kernel) ⟨Nat.le_of_ble_eq_true rfl, Nat.le_of_ble_eq_true rfl⟩) (mPreS (g := g) (wc := []) hE hS hPc hDc hFc) rfl rfl hl.1 rfl (lv_room (Nat.le_of_ble_eq_true rfl)) dJ1_indexOf_4cfef_1 ⟨Nat.le_of_ble_eq_true rfl, Nat.le_of_ble_eq_true rfl⟩) hS (fun q _ h => hFc q h) hFc (fun r_1 u t H1 locs ht hvm hw hB hz1 hk1 hS => ?_)
  replace hw : 1 = r_1 := Eq.symm hw
  subst hw
  obtain ⟨hP1, hD1⟩ := hB
  rw [ht] at hP1
  obtain ⟨hP, hD⟩ := va_join (wr := []) (w1 := []) hP hD [] [] rfl rfl (by decide) (by decide) hk1 hFc hP1 hD1
  clear hP1 hD1 hPc hDc hFc hk1 hz1 hvm ht
  generalize H1 = H at hP hS ⊢
  have hP : va_P g.1 vwCl [] H := hP
  have hD : va_D A [] := hD
  refine lv_if_ne (tgt := 9) hx hb dJ1_indexOf_4cfef_4 (by decide) (fun _ => ?_) (fun c9 => absurd c9 (by decide))
  refine lv_iload_n hx hb dJ1_indexOf_4cfef_9 rfl (lv_at hl 2 rfl) ?_
  refine lv_iconst (v := 0) hx hb dJ1_indexOf_4cfef_10 (by decide) ?_
  refine va_mmax hx hb (by rw [hml]; exact hl.1.symm) hown (hts (.methodLink RJ1 92 Lib.Math.max.name) (List.mem_of_getElem? (i := 5) rfl)) (hts (.static Lib.Math.max.name) (List.mem_of_getElem? (i := 6) rfl)) (hts (.initialized "java/lang/Math") (List.mem_of_getElem? (i := 7) rfl)) (hts (.code Lib.Math.max.name Lib.Math.max.code 2 (some .int)) (List.mem_of_getElem? (i := 8) rfl)) (Nat.le_of_ble_eq_true rfl) (Nat.le_of_ble_eq_true rfl) (Nat.le_of_ble_eq_true rfl) (Nat.le_of_ble_eq_true rfl) dJ1_indexOf_4cfef_11 ?_
  refine e_top (y := 0) (by decide) ?_
  refine lv_istore_n (lv' := [(2, .int 0), (0, .ref (g.2.2 2)), (1, .int 46), (3, .int 22)]) hx hb dJ1_indexOf_4cfef_14 rfl hl (by decide) rfl (fun ls hl => ?_)
  refine lv_iload_n hx hb dJ1_indexOf_4cfef_15 rfl (lv_at hl 3 rfl) ?_
  refine lv_aload_n hx hb dJ1_indexOf_4cfef_16 rfl (lv_at hl 1 rfl) ?_
  refine va_tlen (v := 22) hx hb hE.ot hS (by decide) dJ1_indexOf_4cfef_17 ?_
  refine va_mmin hx hb (by rw [hml]; exact hl.1.symm) hown (hts (.methodLink RJ1 38 Lib.Math.min.name) (List.mem_of_getElem? (i := 9) rfl)) (hts (.static Lib.Math.min.name) (List.mem_of_getElem? (i := 10) rfl)) (hts (.initialized "java/lang/Math") (List.mem_of_getElem? (i := 7) rfl)) (hts (.code Lib.Math.min.name Lib.Math.min.code 2 (some .int)) (List.mem_of_getElem? (i := 11) rfl)) (Nat.le_of_ble_eq_true rfl) (Nat.le_of_ble_eq_true rfl) (Nat.le_of_ble_eq_true rfl) (Nat.le_of_ble_eq_true rfl) dJ1_indexOf_4cfef_18 ?_
  refine e_top (y := 22) (by decide) ?_
  refine lv_istore_n (lv' := [(3, .int 22), (2, .int 0), (0, .ref (g.2.2 2)), (1, .int 46)]) hx hb dJ1_indexOf_4cfef_21 rfl hl (by decide) rfl (fun ls hl => ?_)
  refine lv_iload_n hx hb dJ1_indexOf_4cfef_22 rfl (lv_at hl 1 rfl) ?_
  refine lv_iload_n hx hb dJ1_indexOf_4cfef_23 rfl (lv_at hl 0 rfl) ?_
  refine lv_icmp_lt (tgt := 29) hx hb dJ1_indexOf_4cfef_24 (by decide) (fun _ => ?_) (fun c9 => absurd (by decide) c9)
  refine lv_aload_n hx hb dJ1_indexOf_4cfef_29 rfl (lv_at hl 2 rfl) ?_
  refine lv_iload_n hx hb dJ1_indexOf_4cfef_30 rfl (lv_at hl 3 rfl) ?_
  refine lv_iload_n hx hb dJ1_indexOf_4cfef_31 rfl (lv_at hl 1 rfl) ?_
  refine lv_iload_n hx hb dJ1_indexOf_4cfef_32 rfl (lv_at hl 0 rfl) ?_
  have hPc := hP.sub (ws' := []) [] rfl
  have hDc := hD.sub (ws' := []) [] (by decide) rfl
  have hFc := va_free (wc := []) hD hS hA [] rfl
  refine va_calli (va_runS (As := [.ref (g.2.2 2), .int 46, .int 0, .int 22]) (rest := []) ⟨hx, hb, hml, hown, hts⟩ (c9_J1_indexOfChar_4cfef_1 l g _) (va_cwS 4 hts g9_J1_indexOf_4cfef_1_1 rfl rfl rfl (by decide +kernel) ⟨Nat.le_of_ble_eq_true rfl, Nat.le_of_ble_eq_true rfl⟩) (mPreS (g := g) (wc := []) hE hS hPc hDc hFc) rfl rfl hl.1 rfl (lv_room (Nat.le_of_ble_eq_true rfl)) dJ1_indexOf_4cfef_33 ⟨Nat.le_of_ble_eq_true rfl, Nat.le_of_ble_eq_true rfl⟩) hS (fun q _ h => hFc q h) hFc (fun r_2 u t H1 locs ht hvm hw hB hz1 hk1 hS => ?_)
  replace hw : 0 = r_2 := Eq.symm hw
  subst hw
  obtain ⟨hP1, hD1⟩ := hB
  rw [ht] at hP1
  obtain ⟨hP, hD⟩ := va_join (wr := []) (w1 := []) hP hD [] [] rfl rfl (by decide) (by decide) hk1 hFc hP1 hD1
  clear hP1 hD1 hPc hDc hFc hk1 hz1 hvm ht
  generalize H1 = H at hP hS ⊢
  have hP : va_P g.1 vwCl [] H := hP
  have hD : va_D A [] := hD
  have hP9 := hP.sub (ws' := []) [] rfl
  have hD9 := hD.sub (ws' := []) [] (by decide) rfl
  subst hAe
  exact W.iret (v := 0) hx hb hr (fun t ht hW => ⟨⟨0, (), rfl, rfl, by rw [ht]; exact hP9, hD9⟩, hS.F ht⟩) hS.2.2 dJ1_indexOf_4cfef_36
def w9_J0_indexOf_7cf53_1 : List Cond := [.code yJ0_indexOf_7cf53 cJ0_indexOf_7cf53 3 (some .int), .methodLink RJ0 492 yJ0_isLatin1_aae02, .instanceMethod yJ0_isLatin1_aae02, .selects RJ0 yJ0_isLatin1_aae02 yJ0_isLatin1_aae02, .initialized RJ0, .code yJ0_isLatin1_aae02 cJ0_isLatin1_aae02 1 (some .boolean), .fieldLink RJ0 38 "java/lang/String" "COMPACT_STRINGS" "Z", .fieldLink RJ0 15 "java/lang/String" "coder" "B", .fieldLink RJ0 9 "java/lang/String" "value" "[B", .methodLink RJ0 505 yJ0_length_8abf5, .instanceMethod yJ0_length_8abf5, .selects RJ0 yJ0_length_8abf5 yJ0_length_8abf5, .code yJ0_length_8abf5 cJ0_length_8abf5 1 (some .int), .methodLink RJ0 335 yJ0_coder_7d493, .instanceMethod yJ0_coder_7d493, .selects RJ0 yJ0_coder_7d493 yJ0_coder_7d493, .code yJ0_coder_7d493 cJ0_coder_7d493 1 (some .byte), .methodLink RJ0 637 yJ1_indexOf_4cfef, .static yJ1_indexOf_4cfef, .initialized RJ1, .code yJ1_indexOf_4cfef cJ1_indexOf_4cfef 4 (some .int), .methodLink RJ1 88 yJ1_canEncode_9a6ad, .static yJ1_canEncode_9a6ad, .code yJ1_canEncode_9a6ad cJ1_canEncode_9a6ad 1 (some .boolean), .methodLink RJ1 92 Lib.Math.max.name, .static Lib.Math.max.name, .initialized "java/lang/Math", .code Lib.Math.max.name Lib.Math.max.code 2 (some .int), .methodLink RJ1 38 Lib.Math.min.name, .static Lib.Math.min.name, .code Lib.Math.min.name Lib.Math.min.code 2 (some .int), .methodLink RJ1 95 yJ1_indexOfChar_4cfef, .static yJ1_indexOfChar_4cfef, .code yJ1_indexOfChar_4cfef cJ1_indexOfChar_4cfef 6 (some .int)]
set_option maxRecDepth 20000 in
theorem g9_J0_indexOf_7cf53_1_0 : GoodIn w9_J0_indexOf_7cf53_1 (wsV RJ0 492 RJ0 yJ0_isLatin1_aae02 w9_J0_isLatin1_aae02_1) := goodIn_r _ [1, 2, 3, 4, 5, 6, 7] (by decide +kernel) (by decide +kernel)
set_option maxRecDepth 20000 in
theorem g9_J0_indexOf_7cf53_1_1 : GoodIn w9_J0_indexOf_7cf53_1 (wsV RJ0 505 RJ0 yJ0_length_8abf5 w9_J0_length_8abf5_1) := goodIn_r _ [9, 10, 11, 4, 12, 8, 13, 14, 15, 4, 16, 6, 7] (by decide +kernel) (by decide +kernel)
set_option maxRecDepth 20000 in
theorem g9_J0_indexOf_7cf53_1_2 : GoodIn w9_J0_indexOf_7cf53_1 (va_wsS RJ0 637 yJ1_indexOf_4cfef w9_J1_indexOf_4cfef_1) := goodIn_r _ [17, 18, 19, 20, 21, 22, 19, 23, 24, 25, 26, 27, 28, 29, 30, 31, 32, 33] (by decide +kernel) (by decide +kernel)
set_option maxHeartbeats 4000000 in
set_option maxRecDepth 100000 in
theorem c9_J0_indexOf_7cf53_1 (l : Launch) (g : G9) (sz : Nat) : Met l yJ0_indexOf_7cf53 w9_J0_indexOf_7cf53_1 ({ frames := 2, cells := 0, slots := 0, locals := 48 }) (mP g [] sz [.ref (g.2.2 1), .int 46, .int 0]) (va_Qi (fun (r : Int32) (_ : Unit) => r = 0) (fun (_ : Unit) (t : State) => mB g [] sz [] t) (va_A [] sz)) 0 0 (va_A [] sz) := by
  refine Met.ofW (cc := cJ0_indexOf_7cf53) (maxL := 3) (ret := (some .int)) (by decide) rfl ?_
  intro p e s m args below meth c s₁ B hml hv
  obtain ⟨rfl, hsz, hP, hD0, hE⟩ := hv
  have hx := B.exec
  have hb := B.bytes
  have hr := B.returns
  have hts := atoms_spec (ws := w9_J0_indexOf_7cf53_1) B.pre
  have hown : s.vm.findClass RJ0 = some m.cls := findClass_of_methodNamed B.named
  have hlocks := B.notSynchronized
  subst hsz
  have hD := hD0.self (sz := s.heap.size)
  generalize hAe : va_A [] s.heap.size = A at hD hE ⊢
  have hA : ∀ q : Nat, s.heap.size ≤ q → A q := fun q h => by rw [← hAe]; exact Or.inr h
  have hK := hE.1
  have hS : va_S A s.heap s.heap [] := va_S.rf
  replace hP : va_P g.1 vwCl [] s.heap := hP
  have hl := lv_entry ([.ref (g.2.2 1), .int 46, .int 0]) (n := 3) (Nat.le_of_ble_eq_true rfl)
  rw [lg_entry_eq]
  generalize (lg_sl ([.ref (g.2.2 1), .int 46, .int 0]) ++ List.replicate (3 - (lg_sl ([.ref (g.2.2 1), .int 46, .int 0])).length) Slot.unset).toArray = ls at hl ⊢
  replace hl : lv_has ls 3 [(0, .ref (g.2.2 1)), (1, .int 46), (2, .int 0)] := hl
  have hH0 : s.heap.size ≤ s.heap.size := Nat.le_refl _
  refine lv_aload_n hx hb dJ0_indexOf_7cf53_0 rfl (lv_at hl 0 rfl) ?_
  have hPc := hP.sub (ws' := []) [] rfl
  have hDc := hD.sub (ws' := []) [] (by decide) rfl
  have hFc := va_free (wc := []) hD hS hA [] rfl
  refine va_calli (va_runV (As := []) (rest := []) ⟨hx, hb, hml, hown, hts⟩ (c9_J0_isLatin1_aae02_1 l g _) (cwV 0 hts g9_J0_indexOf_7cf53_1_0 rfl rfl rfl (by decide +kernel) ⟨Nat.le_of_ble_eq_true rfl, Nat.le_of_ble_eq_true rfl⟩) (mPreT (g := g) (wc := []) (C := RJ0) hE hS hPc hDc hFc (hE.or hS)) rfl rfl hl.1 rfl (lv_room (Nat.le_of_ble_eq_true rfl)) dJ0_indexOf_7cf53_1 ⟨Nat.le_of_ble_eq_true rfl, Nat.le_of_ble_eq_true rfl⟩) hS (fun q _ h => hFc q h) hFc (fun r_1 u t H1 locs ht hvm hw hB hz1 hk1 hS => ?_)
  replace hw : 1 = r_1 := Eq.symm hw
  subst hw
  obtain ⟨hP1, hD1⟩ := hB
  rw [ht] at hP1
  obtain ⟨hP, hD⟩ := va_join (wr := []) (w1 := []) hP hD [] [] rfl rfl (by decide) (by decide) hk1 hFc hP1 hD1
  clear hP1 hD1 hPc hDc hFc hk1 hz1 hvm ht
  generalize H1 = H at hP hS ⊢
  have hP : va_P g.1 vwCl [] H := hP
  have hD : va_D A [] := hD
  refine lv_if_eq (tgt := 23) hx hb dJ0_indexOf_7cf53_4 (by decide) (fun c9 => absurd c9 (by decide)) (fun _ => ?_)
  refine lv_aload_n hx hb dJ0_indexOf_7cf53_7 rfl (lv_at hl 0 rfl) ?_
  refine vk_getf hx hb hE.ov hS hown (hts (.fieldLink RJ0 9 "java/lang/String" "value" "[B") (List.mem_of_getElem? (i := 8) rfl)) (fun _ h9 => h9) dJ0_indexOf_7cf53_8 ?_
  refine lv_iload_n hx hb dJ0_indexOf_7cf53_11 rfl (lv_at hl 1 rfl) ?_
  refine lv_iload_n hx hb dJ0_indexOf_7cf53_12 rfl (lv_at hl 2 rfl) ?_
  refine lv_aload_n hx hb dJ0_indexOf_7cf53_13 rfl (lv_at hl 0 rfl) ?_
  have hPc := hP.sub (ws' := []) [] rfl
  have hDc := hD.sub (ws' := []) [] (by decide) rfl
  have hFc := va_free (wc := []) hD hS hA [] rfl
  refine va_calli (va_runV (As := []) (rest := [.int 0, .int 46, .ref (g.2.2 2)]) ⟨hx, hb, hml, hown, hts⟩ (c9_J0_length_8abf5_1 l g _) (cwV 0 hts g9_J0_indexOf_7cf53_1_1 rfl rfl rfl (by decide +kernel) ⟨Nat.le_of_ble_eq_true rfl, Nat.le_of_ble_eq_true rfl⟩) (mPreT (g := g) (wc := []) (C := RJ0) hE hS hPc hDc hFc (hE.or hS)) rfl rfl hl.1 rfl (lv_room (Nat.le_of_ble_eq_true rfl)) dJ0_indexOf_7cf53_14 ⟨Nat.le_of_ble_eq_true rfl, Nat.le_of_ble_eq_true rfl⟩) hS (fun q _ h => hFc q h) hFc (fun r_2 u t H1 locs ht hvm hw hB hz1 hk1 hS => ?_)
  replace hw : 22 = r_2 := Eq.symm hw
  subst hw
  obtain ⟨hP1, hD1⟩ := hB
  rw [ht] at hP1
  obtain ⟨hP, hD⟩ := va_join (wr := []) (w1 := []) hP hD [] [] rfl rfl (by decide) (by decide) hk1 hFc hP1 hD1
  clear hP1 hD1 hPc hDc hFc hk1 hz1 hvm ht
  generalize H1 = H at hP hS ⊢
  have hP : va_P g.1 vwCl [] H := hP
  have hD : va_D A [] := hD
  have hPc := hP.sub (ws' := []) [] rfl
  have hDc := hD.sub (ws' := []) [] (by decide) rfl
  have hFc := va_free (wc := []) hD hS hA [] rfl
  refine va_calli (va_runS (As := [.ref (g.2.2 2), .int 46, .int 0, .int 22]) (rest := []) ⟨hx, hb, hml, hown, hts⟩ (c9_J1_indexOf_4cfef_1 l g _) (va_cwS 4 hts g9_J0_indexOf_7cf53_1_2 rfl rfl rfl (by decide +kernel) ⟨Nat.le_of_ble_eq_true rfl, Nat.le_of_ble_eq_true rfl⟩) (mPreS (g := g) (wc := []) hE hS hPc hDc hFc) rfl rfl hl.1 rfl (lv_room (Nat.le_of_ble_eq_true rfl)) dJ0_indexOf_7cf53_17 ⟨Nat.le_of_ble_eq_true rfl, Nat.le_of_ble_eq_true rfl⟩) hS (fun q _ h => hFc q h) hFc (fun r_3 u t H1 locs ht hvm hw hB hz1 hk1 hS => ?_)
  replace hw : 0 = r_3 := Eq.symm hw
  subst hw
  obtain ⟨hP1, hD1⟩ := hB
  rw [ht] at hP1
  obtain ⟨hP, hD⟩ := va_join (wr := []) (w1 := []) hP hD [] [] rfl rfl (by decide) (by decide) hk1 hFc hP1 hD1
  clear hP1 hD1 hPc hDc hFc hk1 hz1 hvm ht
  generalize H1 = H at hP hS ⊢
  have hP : va_P g.1 vwCl [] H := hP
  have hD : va_D A [] := hD
  refine lv_goto (tgt := 36) hx hb dJ0_indexOf_7cf53_20 (by decide) ?_
  have hP9 := hP.sub (ws' := []) [] rfl
  have hD9 := hD.sub (ws' := []) [] (by decide) rfl
  subst hAe
  exact W.iret (v := 0) hx hb hr (fun t ht hW => ⟨⟨0, (), rfl, rfl, by rw [ht]; exact hP9, hD9⟩, hS.F ht⟩) hS.2.2 dJ0_indexOf_7cf53_36
def w9_J0_indexOf_0f7a4_1 : List Cond := [.code yJ0_indexOf_0f7a4 cJ0_indexOf_0f7a4 2 (some .int), .methodLink RJ0 633 yJ0_indexOf_7cf53, .instanceMethod yJ0_indexOf_7cf53, .selects RJ0 yJ0_indexOf_7cf53 yJ0_indexOf_7cf53, .initialized RJ0, .code yJ0_indexOf_7cf53 cJ0_indexOf_7cf53 3 (some .int), .methodLink RJ0 492 yJ0_isLatin1_aae02, .instanceMethod yJ0_isLatin1_aae02, .selects RJ0 yJ0_isLatin1_aae02 yJ0_isLatin1_aae02, .code yJ0_isLatin1_aae02 cJ0_isLatin1_aae02 1 (some .boolean), .fieldLink RJ0 38 "java/lang/String" "COMPACT_STRINGS" "Z", .fieldLink RJ0 15 "java/lang/String" "coder" "B", .fieldLink RJ0 9 "java/lang/String" "value" "[B", .methodLink RJ0 505 yJ0_length_8abf5, .instanceMethod yJ0_length_8abf5, .selects RJ0 yJ0_length_8abf5 yJ0_length_8abf5, .code yJ0_length_8abf5 cJ0_length_8abf5 1 (some .int), .methodLink RJ0 335 yJ0_coder_7d493, .instanceMethod yJ0_coder_7d493, .selects RJ0 yJ0_coder_7d493 yJ0_coder_7d493, .code yJ0_coder_7d493 cJ0_coder_7d493 1 (some .byte), .methodLink RJ0 637 yJ1_indexOf_4cfef, .static yJ1_indexOf_4cfef, .initialized RJ1, .code yJ1_indexOf_4cfef cJ1_indexOf_4cfef 4 (some .int), .methodLink RJ1 88 yJ1_canEncode_9a6ad, .static yJ1_canEncode_9a6ad, .code yJ1_canEncode_9a6ad cJ1_canEncode_9a6ad 1 (some .boolean), .methodLink RJ1 92 Lib.Math.max.name, .static Lib.Math.max.name, .initialized "java/lang/Math", .code Lib.Math.max.name Lib.Math.max.code 2 (some .int), .methodLink RJ1 38 Lib.Math.min.name, .static Lib.Math.min.name, .code Lib.Math.min.name Lib.Math.min.code 2 (some .int), .methodLink RJ1 95 yJ1_indexOfChar_4cfef, .static yJ1_indexOfChar_4cfef, .code yJ1_indexOfChar_4cfef cJ1_indexOfChar_4cfef 6 (some .int)]
set_option maxRecDepth 20000 in
theorem g9_J0_indexOf_0f7a4_1_0 : GoodIn w9_J0_indexOf_0f7a4_1 (wsV RJ0 633 RJ0 yJ0_indexOf_7cf53 w9_J0_indexOf_7cf53_1) := goodIn_r _ [1, 2, 3, 4, 5, 6, 7, 8, 4, 9, 10, 11, 12, 13, 14, 15, 16, 17, 18, 19, 20, 21, 22, 23, 24, 25, 26, 27, 28, 29, 30, 31, 32, 33, 34, 35, 36, 37] (by decide +kernel) (by decide +kernel)
set_option maxHeartbeats 4000000 in
set_option maxRecDepth 100000 in
theorem c9_J0_indexOf_0f7a4_1 (l : Launch) (g : G9) (sz : Nat) : Met l yJ0_indexOf_0f7a4 w9_J0_indexOf_0f7a4_1 ({ frames := 3, cells := 0, slots := 0, locals := 70 }) (mP g [] sz [.ref (g.2.2 1), .int 46]) (va_Qi (fun (r : Int32) (_ : Unit) => r = 0) (fun (_ : Unit) (t : State) => mB g [] sz [] t) (va_A [] sz)) 0 0 (va_A [] sz) := by
  refine Met.ofW (cc := cJ0_indexOf_0f7a4) (maxL := 2) (ret := (some .int)) (by decide) rfl ?_
  intro p e s m args below meth c s₁ B hml hv
  obtain ⟨rfl, hsz, hP, hD0, hE⟩ := hv
  have hx := B.exec
  have hb := B.bytes
  have hr := B.returns
  have hts := atoms_spec (ws := w9_J0_indexOf_0f7a4_1) B.pre
  have hown : s.vm.findClass RJ0 = some m.cls := findClass_of_methodNamed B.named
  have hlocks := B.notSynchronized
  subst hsz
  have hD := hD0.self (sz := s.heap.size)
  generalize hAe : va_A [] s.heap.size = A at hD hE ⊢
  have hA : ∀ q : Nat, s.heap.size ≤ q → A q := fun q h => by rw [← hAe]; exact Or.inr h
  have hK := hE.1
  have hS : va_S A s.heap s.heap [] := va_S.rf
  replace hP : va_P g.1 vwCl [] s.heap := hP
  have hl := lv_entry ([.ref (g.2.2 1), .int 46]) (n := 2) (Nat.le_of_ble_eq_true rfl)
  rw [lg_entry_eq]
  generalize (lg_sl ([.ref (g.2.2 1), .int 46]) ++ List.replicate (2 - (lg_sl ([.ref (g.2.2 1), .int 46])).length) Slot.unset).toArray = ls at hl ⊢
  replace hl : lv_has ls 2 [(0, .ref (g.2.2 1)), (1, .int 46)] := hl
  have hH0 : s.heap.size ≤ s.heap.size := Nat.le_refl _
  refine lv_aload_n hx hb dJ0_indexOf_0f7a4_0 rfl (lv_at hl 0 rfl) ?_
  refine lv_iload_n hx hb dJ0_indexOf_0f7a4_1 rfl (lv_at hl 1 rfl) ?_
  refine lv_iconst (v := 0) hx hb dJ0_indexOf_0f7a4_2 (by decide) ?_
  have hPc := hP.sub (ws' := []) [] rfl
  have hDc := hD.sub (ws' := []) [] (by decide) rfl
  have hFc := va_free (wc := []) hD hS hA [] rfl
  refine va_calli (va_runV (As := [.int 46, .int 0]) (rest := []) ⟨hx, hb, hml, hown, hts⟩ (c9_J0_indexOf_7cf53_1 l g _) (cwV 2 hts g9_J0_indexOf_0f7a4_1_0 rfl rfl rfl (by decide +kernel) ⟨Nat.le_of_ble_eq_true rfl, Nat.le_of_ble_eq_true rfl⟩) (mPreT (g := g) (wc := []) (C := RJ0) hE hS hPc hDc hFc (hE.or hS)) rfl rfl hl.1 rfl (lv_room (Nat.le_of_ble_eq_true rfl)) dJ0_indexOf_0f7a4_3 ⟨Nat.le_of_ble_eq_true rfl, Nat.le_of_ble_eq_true rfl⟩) hS (fun q _ h => hFc q h) hFc (fun r_1 u t H1 locs ht hvm hw hB hz1 hk1 hS => ?_)
  replace hw : 0 = r_1 := Eq.symm hw
  subst hw
  obtain ⟨hP1, hD1⟩ := hB
  rw [ht] at hP1
  obtain ⟨hP, hD⟩ := va_join (wr := []) (w1 := []) hP hD [] [] rfl rfl (by decide) (by decide) hk1 hFc hP1 hD1
  clear hP1 hD1 hPc hDc hFc hk1 hz1 hvm ht
  generalize H1 = H at hP hS ⊢
  have hP : va_P g.1 vwCl [] H := hP
  have hD : va_D A [] := hD
  have hP9 := hP.sub (ws' := []) [] rfl
  have hD9 := hD.sub (ws' := []) [] (by decide) rfl
  subst hAe
  exact W.iret (v := 0) hx hb hr (fun t ht hW => ⟨⟨0, (), rfl, rfl, by rw [ht]; exact hP9, hD9⟩, hS.F ht⟩) hS.2.2 dJ0_indexOf_0f7a4_6
def w9_X8_codeOf_7 : List Cond := [.code yX8_codeOf cX8_codeOf 1 (some .int)]
set_option maxHeartbeats 4000000 in
set_option maxRecDepth 100000 in
theorem c9_X8_codeOf_7 (l : Launch) (g : G9) (sz : Nat) : Met l yX8_codeOf w9_X8_codeOf_7 ({ frames := 0, cells := 0, slots := 0, locals := 0 }) (mP g [] sz [.int 42]) (va_Qi (fun (r : Int32) (_ : Unit) => r = (-1)) (fun (_ : Unit) (t : State) => mB g [] sz [] t) (va_A [] sz)) 0 0 (va_A [] sz) := by
  refine Met.ofW (cc := cX8_codeOf) (maxL := 1) (ret := (some .int)) (by decide) rfl ?_
  intro p e s m args below meth c s₁ B hml hv
  obtain ⟨rfl, hsz, hP, hD0, hE⟩ := hv
  have hx := B.exec
  have hb := B.bytes
  have hr := B.returns
  have hts := atoms_spec (ws := w9_X8_codeOf_7) B.pre
  have hown : s.vm.findClass RX8 = some m.cls := findClass_of_methodNamed B.named
  have hlocks := B.notSynchronized
  subst hsz
  have hD := hD0.self (sz := s.heap.size)
  generalize hAe : va_A [] s.heap.size = A at hD hE ⊢
  have hA : ∀ q : Nat, s.heap.size ≤ q → A q := fun q h => by rw [← hAe]; exact Or.inr h
  have hK := hE.1
  have hS : va_S A s.heap s.heap [] := va_S.rf
  replace hP : va_P g.1 vwCl [] s.heap := hP
  have hl := lv_entry ([.int 42]) (n := 1) (Nat.le_of_ble_eq_true rfl)
  rw [lg_entry_eq]
  generalize (lg_sl ([.int 42]) ++ List.replicate (1 - (lg_sl ([.int 42])).length) Slot.unset).toArray = ls at hl ⊢
  replace hl : lv_has ls 1 [(0, .int 42)] := hl
  have hH0 : s.heap.size ≤ s.heap.size := Nat.le_refl _
  refine lv_iload_n hx hb dX8_codeOf_0 rfl (lv_at hl 0 rfl) ?_
  refine lv_bipush (v := 97) hx hb dX8_codeOf_1 (by decide) ?_
  refine lv_icmp_lt (tgt := 17) hx hb dX8_codeOf_3 (by decide) (fun _ => ?_) (fun c9 => absurd (by decide) c9)
  refine lv_iload_n hx hb dX8_codeOf_17 rfl (lv_at hl 0 rfl) ?_
  refine lv_bipush (v := 65) hx hb dX8_codeOf_18 (by decide) ?_
  refine lv_icmp_lt (tgt := 37) hx hb dX8_codeOf_20 (by decide) (fun _ => ?_) (fun c9 => absurd (by decide) c9)
  refine lv_iload_n hx hb dX8_codeOf_37 rfl (lv_at hl 0 rfl) ?_
  refine lv_bipush (v := 48) hx hb dX8_codeOf_38 (by decide) ?_
  refine lv_icmp_lt (tgt := 57) hx hb dX8_codeOf_40 (by decide) (fun _ => ?_) (fun c9 => absurd (by decide) c9)
  refine lv_iload_n hx hb dX8_codeOf_57 rfl (lv_at hl 0 rfl) ?_
  refine lv_bipush (v := 95) hx hb dX8_codeOf_58 (by decide) ?_
  refine lv_icmp_ne (tgt := 66) hx hb dX8_codeOf_60 (by decide) (fun _ => ?_) (fun c9 => absurd c9 (by decide))
  refine lv_iload_n hx hb dX8_codeOf_66 rfl (lv_at hl 0 rfl) ?_
  refine lv_bipush (v := 32) hx hb dX8_codeOf_67 (by decide) ?_
  refine lv_icmp_ne (tgt := 77) hx hb dX8_codeOf_69 (by decide) (fun _ => ?_) (fun c9 => absurd c9 (by decide))
  refine lv_iconst (v := (-1)) hx hb dX8_codeOf_77 (by decide) ?_
  have hP9 := hP.sub (ws' := []) [] rfl
  have hD9 := hD.sub (ws' := []) [] (by decide) rfl
  subst hAe
  exact W.iret (v := (-1)) hx hb hr (fun t ht hW => ⟨⟨(-1), (), rfl, rfl, by rw [ht]; exact hP9, hD9⟩, hS.F ht⟩) hS.2.2 dX8_codeOf_78
def w9_J1_canEncode_9a6ad_2 : List Cond := [.code yJ1_canEncode_9a6ad cJ1_canEncode_9a6ad 1 (some .boolean)]
set_option maxHeartbeats 4000000 in
set_option maxRecDepth 100000 in
theorem c9_J1_canEncode_9a6ad_2 (l : Launch) (g : G9) (sz : Nat) : Met l yJ1_canEncode_9a6ad w9_J1_canEncode_9a6ad_2 ({ frames := 0, cells := 0, slots := 0, locals := 0 }) (mP g [] sz [.int 42]) (va_Qi (fun (r : Int32) (_ : Unit) => r = 1) (fun (_ : Unit) (t : State) => mB g [] sz [] t) (va_A [] sz)) 0 0 (va_A [] sz) := by
  refine Met.ofW (cc := cJ1_canEncode_9a6ad) (maxL := 1) (ret := (some .boolean)) (by decide) rfl ?_
  intro p e s m args below meth c s₁ B hml hv
  obtain ⟨rfl, hsz, hP, hD0, hE⟩ := hv
  have hx := B.exec
  have hb := B.bytes
  have hr := B.returns
  have hts := atoms_spec (ws := w9_J1_canEncode_9a6ad_2) B.pre
  have hown : s.vm.findClass RJ1 = some m.cls := findClass_of_methodNamed B.named
  have hlocks := B.notSynchronized
  subst hsz
  have hD := hD0.self (sz := s.heap.size)
  generalize hAe : va_A [] s.heap.size = A at hD hE ⊢
  have hA : ∀ q : Nat, s.heap.size ≤ q → A q := fun q h => by rw [← hAe]; exact Or.inr h
  have hK := hE.1
  have hS : va_S A s.heap s.heap [] := va_S.rf
  replace hP : va_P g.1 vwCl [] s.heap := hP
  have hl := lv_entry ([.int 42]) (n := 1) (Nat.le_of_ble_eq_true rfl)
  rw [lg_entry_eq]
  generalize (lg_sl ([.int 42]) ++ List.replicate (1 - (lg_sl ([.int 42])).length) Slot.unset).toArray = ls at hl ⊢
  replace hl : lv_has ls 1 [(0, .int 42)] := hl
  have hH0 : s.heap.size ≤ s.heap.size := Nat.le_refl _
  refine lv_iload_n hx hb dJ1_canEncode_9a6ad_0 rfl (lv_at hl 0 rfl) ?_
  refine lv_if_lt (tgt := 15) hx hb dJ1_canEncode_9a6ad_1 (by decide) (fun c9 => absurd c9 (by decide)) (fun _ => ?_)
  refine lv_iload_n hx hb dJ1_canEncode_9a6ad_4 rfl (lv_at hl 0 rfl) ?_
  refine lv_sipush (v := 255) hx hb dJ1_canEncode_9a6ad_5 (by decide) ?_
  refine lv_icmp_gt (tgt := 15) hx hb dJ1_canEncode_9a6ad_8 (by decide) (fun c9 => absurd c9 (by decide)) (fun _ => ?_)
  refine lv_iconst (v := 1) hx hb dJ1_canEncode_9a6ad_11 (by decide) ?_
  refine lv_goto (tgt := 16) hx hb dJ1_canEncode_9a6ad_12 (by decide) ?_
  have hP9 := hP.sub (ws' := []) [] rfl
  have hD9 := hD.sub (ws' := []) [] (by decide) rfl
  subst hAe
  exact W.zret (v := 1) hx hb hr (by decide) (fun t ht hW => ⟨⟨1, (), rfl, rfl, by rw [ht]; exact hP9, hD9⟩, hS.F ht⟩) hS.2.2 dJ1_canEncode_9a6ad_16
def w9_J1_indexOfChar_4cfef_2 : List Cond := [.code yJ1_indexOfChar_4cfef cJ1_indexOfChar_4cfef 6 (some .int)]
set_option maxHeartbeats 4000000 in
set_option maxRecDepth 100000 in
theorem c9_J1_indexOfChar_4cfef_2 (l : Launch) (g : G9) (sz : Nat) : Met l yJ1_indexOfChar_4cfef w9_J1_indexOfChar_4cfef_2 ({ frames := 0, cells := 0, slots := 0, locals := 0 }) (mP g [] sz [.ref (g.2.2 2), .int 42, .int 0, .int 22]) (va_Qi (fun (r : Int32) (_ : Unit) => r = 1) (fun (_ : Unit) (t : State) => mB g [] sz [] t) (va_A [] sz)) 0 0 (va_A [] sz) := by
  refine Met.ofW (cc := cJ1_indexOfChar_4cfef) (maxL := 6) (ret := (some .int)) (by decide) rfl ?_
  intro p e s m args below meth c s₁ B hml hv
  obtain ⟨rfl, hsz, hP, hD0, hE⟩ := hv
  have hx := B.exec
  have hb := B.bytes
  have hr := B.returns
  have hts := atoms_spec (ws := w9_J1_indexOfChar_4cfef_2) B.pre
  have hown : s.vm.findClass RJ1 = some m.cls := findClass_of_methodNamed B.named
  have hlocks := B.notSynchronized
  subst hsz
  have hD := hD0.self (sz := s.heap.size)
  generalize hAe : va_A [] s.heap.size = A at hD hE ⊢
  have hA : ∀ q : Nat, s.heap.size ≤ q → A q := fun q h => by rw [← hAe]; exact Or.inr h
  have hK := hE.1
  have hS : va_S A s.heap s.heap [] := va_S.rf
  replace hP : va_P g.1 vwCl [] s.heap := hP
  have hl := lv_entry ([.ref (g.2.2 2), .int 42, .int 0, .int 22]) (n := 6) (Nat.le_of_ble_eq_true rfl)
  rw [lg_entry_eq]
  generalize (lg_sl ([.ref (g.2.2 2), .int 42, .int 0, .int 22]) ++ List.replicate (6 - (lg_sl ([.ref (g.2.2 2), .int 42, .int 0, .int 22])).length) Slot.unset).toArray = ls at hl ⊢
  replace hl : lv_has ls 6 [(0, .ref (g.2.2 2)), (1, .int 42), (2, .int 0), (3, .int 22)] := hl
  have hH0 : s.heap.size ≤ s.heap.size := Nat.le_refl _
  refine lv_iload_n hx hb dJ1_indexOfChar_4cfef_0 rfl (lv_at hl 1 rfl) ?_
  refine lv_i2b (v := 42) hx hb dJ1_indexOfChar_4cfef_1 (by decide) ?_
  refine lv_istore (lv' := [(4, .int 42), (0, .ref (g.2.2 2)), (1, .int 42), (2, .int 0), (3, .int 22)]) hx hb dJ1_indexOfChar_4cfef_2 hl (by decide) rfl (fun ls hl => ?_)
  refine lv_iload_n hx hb dJ1_indexOfChar_4cfef_4 rfl (lv_at hl 3 rfl) ?_
  refine lv_istore (lv' := [(5, .int 0), (4, .int 42), (0, .ref (g.2.2 2)), (1, .int 42), (2, .int 0), (3, .int 22)]) hx hb dJ1_indexOfChar_4cfef_5 hl (by decide) rfl (fun ls hl => ?_)
  refine lv_iload hx hb dJ1_indexOfChar_4cfef_7 (lv_at hl 0 rfl) ?_
  refine lv_iload_n hx hb dJ1_indexOfChar_4cfef_9 rfl (lv_at hl 5 rfl) ?_
  refine lv_icmp_ge (tgt := 31) hx hb dJ1_indexOfChar_4cfef_10 (by decide) (fun c9 => absurd c9 (by decide)) (fun _ => ?_)
  refine lv_aload_n hx hb dJ1_indexOfChar_4cfef_13 rfl (lv_at hl 2 rfl) ?_
  refine lv_iload hx hb dJ1_indexOfChar_4cfef_14 (lv_at hl 0 rfl) ?_
  refine va_tb (v := .int 46) hx hb hE.ot hS (vp_in_nI (n := 0) (by decide) (by decide)) rfl dJ1_indexOfChar_4cfef_16 ?_
  refine lv_iload hx hb dJ1_indexOfChar_4cfef_17 (lv_at hl 1 rfl) ?_
  refine lv_icmp_ne (tgt := 25) hx hb dJ1_indexOfChar_4cfef_19 (by decide) (fun _ => ?_) (fun c9 => absurd c9 (by decide))
  refine lv_iinc (v := 1) (lv' := [(5, .int 1), (4, .int 42), (0, .ref (g.2.2 2)), (1, .int 42), (2, .int 0), (3, .int 22)]) hx hb dJ1_indexOfChar_4cfef_25 hl (k := 0) rfl (by decide) (by decide) rfl (fun ls hl => ?_)
  refine lv_goto (tgt := 7) hx hb dJ1_indexOfChar_4cfef_28 (by decide) ?_
  refine lv_iload hx hb dJ1_indexOfChar_4cfef_7 (lv_at hl 0 rfl) ?_
  refine lv_iload_n hx hb dJ1_indexOfChar_4cfef_9 rfl (lv_at hl 5 rfl) ?_
  refine lv_icmp_ge (tgt := 31) hx hb dJ1_indexOfChar_4cfef_10 (by decide) (fun c9 => absurd c9 (by decide)) (fun _ => ?_)
  refine lv_aload_n hx hb dJ1_indexOfChar_4cfef_13 rfl (lv_at hl 2 rfl) ?_
  refine lv_iload hx hb dJ1_indexOfChar_4cfef_14 (lv_at hl 0 rfl) ?_
  refine va_tb (v := .int 42) hx hb hE.ot hS (vp_in_nI (n := 1) (by decide) (by decide)) rfl dJ1_indexOfChar_4cfef_16 ?_
  refine lv_iload hx hb dJ1_indexOfChar_4cfef_17 (lv_at hl 1 rfl) ?_
  refine lv_icmp_ne (tgt := 25) hx hb dJ1_indexOfChar_4cfef_19 (by decide) (fun c9 => absurd (by decide) c9) (fun _ => ?_)
  refine lv_iload hx hb dJ1_indexOfChar_4cfef_22 (lv_at hl 0 rfl) ?_
  have hP9 := hP.sub (ws' := []) [] rfl
  have hD9 := hD.sub (ws' := []) [] (by decide) rfl
  subst hAe
  exact W.iret (v := 1) hx hb hr (fun t ht hW => ⟨⟨1, (), rfl, rfl, by rw [ht]; exact hP9, hD9⟩, hS.F ht⟩) hS.2.2 dJ1_indexOfChar_4cfef_24
def w9_J1_indexOf_4cfef_2 : List Cond := [.code yJ1_indexOf_4cfef cJ1_indexOf_4cfef 4 (some .int), .methodLink RJ1 88 yJ1_canEncode_9a6ad, .static yJ1_canEncode_9a6ad, .initialized RJ1, .code yJ1_canEncode_9a6ad cJ1_canEncode_9a6ad 1 (some .boolean), .methodLink RJ1 92 Lib.Math.max.name, .static Lib.Math.max.name, .initialized "java/lang/Math", .code Lib.Math.max.name Lib.Math.max.code 2 (some .int), .methodLink RJ1 38 Lib.Math.min.name, .static Lib.Math.min.name, .code Lib.Math.min.name Lib.Math.min.code 2 (some .int), .methodLink RJ1 95 yJ1_indexOfChar_4cfef, .static yJ1_indexOfChar_4cfef, .code yJ1_indexOfChar_4cfef cJ1_indexOfChar_4cfef 6 (some .int)]
set_option maxRecDepth 20000 in
theorem g9_J1_indexOf_4cfef_2_0 : GoodIn w9_J1_indexOf_4cfef_2 (va_wsS RJ1 88 yJ1_canEncode_9a6ad w9_J1_canEncode_9a6ad_2) := goodIn_r _ [1, 2, 3, 4] (by decide +kernel) (by decide +kernel)
set_option maxRecDepth 20000 in
theorem g9_J1_indexOf_4cfef_2_1 : GoodIn w9_J1_indexOf_4cfef_2 (va_wsS RJ1 95 yJ1_indexOfChar_4cfef w9_J1_indexOfChar_4cfef_2) := goodIn_r _ [12, 13, 3, 14] (by decide +kernel) (by decide +kernel)
set_option maxHeartbeats 4000000 in
set_option maxRecDepth 100000 in
theorem c9_J1_indexOf_4cfef_2 (l : Launch) (g : G9) (sz : Nat) : Met l yJ1_indexOf_4cfef w9_J1_indexOf_4cfef_2 ({ frames := 1, cells := 0, slots := 0, locals := 25 }) (mP g [] sz [.ref (g.2.2 2), .int 42, .int 0, .int 22]) (va_Qi (fun (r : Int32) (_ : Unit) => r = 1) (fun (_ : Unit) (t : State) => mB g [] sz [] t) (va_A [] sz)) 0 0 (va_A [] sz) := by
  refine Met.ofW (cc := cJ1_indexOf_4cfef) (maxL := 4) (ret := (some .int)) (by decide) rfl ?_
  intro p e s m args below meth c s₁ B hml hv
  obtain ⟨rfl, hsz, hP, hD0, hE⟩ := hv
  have hx := B.exec
  have hb := B.bytes
  have hr := B.returns
  have hts := atoms_spec (ws := w9_J1_indexOf_4cfef_2) B.pre
  have hown : s.vm.findClass RJ1 = some m.cls := findClass_of_methodNamed B.named
  have hlocks := B.notSynchronized
  subst hsz
  have hD := hD0.self (sz := s.heap.size)
  generalize hAe : va_A [] s.heap.size = A at hD hE ⊢
  have hA : ∀ q : Nat, s.heap.size ≤ q → A q := fun q h => by rw [← hAe]; exact Or.inr h
  have hK := hE.1
  have hS : va_S A s.heap s.heap [] := va_S.rf
  replace hP : va_P g.1 vwCl [] s.heap := hP
  have hl := lv_entry ([.ref (g.2.2 2), .int 42, .int 0, .int 22]) (n := 4) (Nat.le_of_ble_eq_true rfl)
  rw [lg_entry_eq]
  generalize (lg_sl ([.ref (g.2.2 2), .int 42, .int 0, .int 22]) ++ List.replicate (4 - (lg_sl ([.ref (g.2.2 2), .int 42, .int 0, .int 22])).length) Slot.unset).toArray = ls at hl ⊢
  replace hl : lv_has ls 4 [(0, .ref (g.2.2 2)), (1, .int 42), (2, .int 0), (3, .int 22)] := hl
  have hH0 : s.heap.size ≤ s.heap.size := Nat.le_refl _
  refine lv_iload_n hx hb dJ1_indexOf_4cfef_0 rfl (lv_at hl 1 rfl) ?_
  have hPc := hP.sub (ws' := []) [] rfl
  have hDc := hD.sub (ws' := []) [] (by decide) rfl
  have hFc := va_free (wc := []) hD hS hA [] rfl
  refine va_calli (va_runS (As := [.int 42]) (rest := []) ⟨hx, hb, hml, hown, hts⟩ (c9_J1_canEncode_9a6ad_2 l g _) (va_cwS 1 hts g9_J1_indexOf_4cfef_2_0 rfl rfl rfl (by decide +kernel) ⟨Nat.le_of_ble_eq_true rfl, Nat.le_of_ble_eq_true rfl⟩) (mPreS (g := g) (wc := []) hE hS hPc hDc hFc) rfl rfl hl.1 rfl (lv_room (Nat.le_of_ble_eq_true rfl)) dJ1_indexOf_4cfef_1 ⟨Nat.le_of_ble_eq_true rfl, Nat.le_of_ble_eq_true rfl⟩) hS (fun q _ h => hFc q h) hFc (fun r_1 u t H1 locs ht hvm hw hB hz1 hk1 hS => ?_)
  replace hw : 1 = r_1 := Eq.symm hw
  subst hw
  obtain ⟨hP1, hD1⟩ := hB
  rw [ht] at hP1
  obtain ⟨hP, hD⟩ := va_join (wr := []) (w1 := []) hP hD [] [] rfl rfl (by decide) (by decide) hk1 hFc hP1 hD1
  clear hP1 hD1 hPc hDc hFc hk1 hz1 hvm ht
  generalize H1 = H at hP hS ⊢
  have hP : va_P g.1 vwCl [] H := hP
  have hD : va_D A [] := hD
  refine lv_if_ne (tgt := 9) hx hb dJ1_indexOf_4cfef_4 (by decide) (fun _ => ?_) (fun c9 => absurd c9 (by decide))
  refine lv_iload_n hx hb dJ1_indexOf_4cfef_9 rfl (lv_at hl 2 rfl) ?_
  refine lv_iconst (v := 0) hx hb dJ1_indexOf_4cfef_10 (by decide) ?_
  refine va_mmax hx hb (by rw [hml]; exact hl.1.symm) hown (hts (.methodLink RJ1 92 Lib.Math.max.name) (List.mem_of_getElem? (i := 5) rfl)) (hts (.static Lib.Math.max.name) (List.mem_of_getElem? (i := 6) rfl)) (hts (.initialized "java/lang/Math") (List.mem_of_getElem? (i := 7) rfl)) (hts (.code Lib.Math.max.name Lib.Math.max.code 2 (some .int)) (List.mem_of_getElem? (i := 8) rfl)) (Nat.le_of_ble_eq_true rfl) (Nat.le_of_ble_eq_true rfl) (Nat.le_of_ble_eq_true rfl) (Nat.le_of_ble_eq_true rfl) dJ1_indexOf_4cfef_11 ?_
  refine e_top (y := 0) (by decide) ?_
  refine lv_istore_n (lv' := [(2, .int 0), (0, .ref (g.2.2 2)), (1, .int 42), (3, .int 22)]) hx hb dJ1_indexOf_4cfef_14 rfl hl (by decide) rfl (fun ls hl => ?_)
  refine lv_iload_n hx hb dJ1_indexOf_4cfef_15 rfl (lv_at hl 3 rfl) ?_
  refine lv_aload_n hx hb dJ1_indexOf_4cfef_16 rfl (lv_at hl 1 rfl) ?_
  refine va_tlen (v := 22) hx hb hE.ot hS (by decide) dJ1_indexOf_4cfef_17 ?_
  refine va_mmin hx hb (by rw [hml]; exact hl.1.symm) hown (hts (.methodLink RJ1 38 Lib.Math.min.name) (List.mem_of_getElem? (i := 9) rfl)) (hts (.static Lib.Math.min.name) (List.mem_of_getElem? (i := 10) rfl)) (hts (.initialized "java/lang/Math") (List.mem_of_getElem? (i := 7) rfl)) (hts (.code Lib.Math.min.name Lib.Math.min.code 2 (some .int)) (List.mem_of_getElem? (i := 11) rfl)) (Nat.le_of_ble_eq_true rfl) (Nat.le_of_ble_eq_true rfl) (Nat.le_of_ble_eq_true rfl) (Nat.le_of_ble_eq_true rfl) dJ1_indexOf_4cfef_18 ?_
  refine e_top (y := 22) (by decide) ?_
  refine lv_istore_n (lv' := [(3, .int 22), (2, .int 0), (0, .ref (g.2.2 2)), (1, .int 42)]) hx hb dJ1_indexOf_4cfef_21 rfl hl (by decide) rfl (fun ls hl => ?_)
  refine lv_iload_n hx hb dJ1_indexOf_4cfef_22 rfl (lv_at hl 1 rfl) ?_
  refine lv_iload_n hx hb dJ1_indexOf_4cfef_23 rfl (lv_at hl 0 rfl) ?_
  refine lv_icmp_lt (tgt := 29) hx hb dJ1_indexOf_4cfef_24 (by decide) (fun _ => ?_) (fun c9 => absurd (by decide) c9)
  refine lv_aload_n hx hb dJ1_indexOf_4cfef_29 rfl (lv_at hl 2 rfl) ?_
  refine lv_iload_n hx hb dJ1_indexOf_4cfef_30 rfl (lv_at hl 3 rfl) ?_
  refine lv_iload_n hx hb dJ1_indexOf_4cfef_31 rfl (lv_at hl 1 rfl) ?_
  refine lv_iload_n hx hb dJ1_indexOf_4cfef_32 rfl (lv_at hl 0 rfl) ?_
  have hPc := hP.sub (ws' := []) [] rfl
  have hDc := hD.sub (ws' := []) [] (by decide) rfl
  have hFc := va_free (wc := []) hD hS hA [] rfl
  refine va_calli (va_runS (As := [.ref (g.2.2 2), .int 42, .int 0, .int 22]) (rest := []) ⟨hx, hb, hml, hown, hts⟩ (c9_J1_indexOfChar_4cfef_2 l g _) (va_cwS 4 hts g9_J1_indexOf_4cfef_2_1 rfl rfl rfl (by decide +kernel) ⟨Nat.le_of_ble_eq_true rfl, Nat.le_of_ble_eq_true rfl⟩) (mPreS (g := g) (wc := []) hE hS hPc hDc hFc) rfl rfl hl.1 rfl (lv_room (Nat.le_of_ble_eq_true rfl)) dJ1_indexOf_4cfef_33 ⟨Nat.le_of_ble_eq_true rfl, Nat.le_of_ble_eq_true rfl⟩) hS (fun q _ h => hFc q h) hFc (fun r_2 u t H1 locs ht hvm hw hB hz1 hk1 hS => ?_)
  replace hw : 1 = r_2 := Eq.symm hw
  subst hw
  obtain ⟨hP1, hD1⟩ := hB
  rw [ht] at hP1
  obtain ⟨hP, hD⟩ := va_join (wr := []) (w1 := []) hP hD [] [] rfl rfl (by decide) (by decide) hk1 hFc hP1 hD1
  clear hP1 hD1 hPc hDc hFc hk1 hz1 hvm ht
  generalize H1 = H at hP hS ⊢
  have hP : va_P g.1 vwCl [] H := hP
  have hD : va_D A [] := hD
  have hP9 := hP.sub (ws' := []) [] rfl
  have hD9 := hD.sub (ws' := []) [] (by decide) rfl
  subst hAe
  exact W.iret (v := 1) hx hb hr (fun t ht hW => ⟨⟨1, (), rfl, rfl, by rw [ht]; exact hP9, hD9⟩, hS.F ht⟩) hS.2.2 dJ1_indexOf_4cfef_36
def w9_J0_indexOf_7cf53_2 : List Cond := [.code yJ0_indexOf_7cf53 cJ0_indexOf_7cf53 3 (some .int), .methodLink RJ0 492 yJ0_isLatin1_aae02, .instanceMethod yJ0_isLatin1_aae02, .selects RJ0 yJ0_isLatin1_aae02 yJ0_isLatin1_aae02, .initialized RJ0, .code yJ0_isLatin1_aae02 cJ0_isLatin1_aae02 1 (some .boolean), .fieldLink RJ0 38 "java/lang/String" "COMPACT_STRINGS" "Z", .fieldLink RJ0 15 "java/lang/String" "coder" "B", .fieldLink RJ0 9 "java/lang/String" "value" "[B", .methodLink RJ0 505 yJ0_length_8abf5, .instanceMethod yJ0_length_8abf5, .selects RJ0 yJ0_length_8abf5 yJ0_length_8abf5, .code yJ0_length_8abf5 cJ0_length_8abf5 1 (some .int), .methodLink RJ0 335 yJ0_coder_7d493, .instanceMethod yJ0_coder_7d493, .selects RJ0 yJ0_coder_7d493 yJ0_coder_7d493, .code yJ0_coder_7d493 cJ0_coder_7d493 1 (some .byte), .methodLink RJ0 637 yJ1_indexOf_4cfef, .static yJ1_indexOf_4cfef, .initialized RJ1, .code yJ1_indexOf_4cfef cJ1_indexOf_4cfef 4 (some .int), .methodLink RJ1 88 yJ1_canEncode_9a6ad, .static yJ1_canEncode_9a6ad, .code yJ1_canEncode_9a6ad cJ1_canEncode_9a6ad 1 (some .boolean), .methodLink RJ1 92 Lib.Math.max.name, .static Lib.Math.max.name, .initialized "java/lang/Math", .code Lib.Math.max.name Lib.Math.max.code 2 (some .int), .methodLink RJ1 38 Lib.Math.min.name, .static Lib.Math.min.name, .code Lib.Math.min.name Lib.Math.min.code 2 (some .int), .methodLink RJ1 95 yJ1_indexOfChar_4cfef, .static yJ1_indexOfChar_4cfef, .code yJ1_indexOfChar_4cfef cJ1_indexOfChar_4cfef 6 (some .int)]
set_option maxRecDepth 20000 in
theorem g9_J0_indexOf_7cf53_2_0 : GoodIn w9_J0_indexOf_7cf53_2 (wsV RJ0 492 RJ0 yJ0_isLatin1_aae02 w9_J0_isLatin1_aae02_1) := goodIn_r _ [1, 2, 3, 4, 5, 6, 7] (by decide +kernel) (by decide +kernel)
set_option maxRecDepth 20000 in
theorem g9_J0_indexOf_7cf53_2_1 : GoodIn w9_J0_indexOf_7cf53_2 (wsV RJ0 505 RJ0 yJ0_length_8abf5 w9_J0_length_8abf5_1) := goodIn_r _ [9, 10, 11, 4, 12, 8, 13, 14, 15, 4, 16, 6, 7] (by decide +kernel) (by decide +kernel)
set_option maxRecDepth 20000 in
theorem g9_J0_indexOf_7cf53_2_2 : GoodIn w9_J0_indexOf_7cf53_2 (va_wsS RJ0 637 yJ1_indexOf_4cfef w9_J1_indexOf_4cfef_2) := goodIn_r _ [17, 18, 19, 20, 21, 22, 19, 23, 24, 25, 26, 27, 28, 29, 30, 31, 32, 33] (by decide +kernel) (by decide +kernel)
set_option maxHeartbeats 4000000 in
set_option maxRecDepth 100000 in
theorem c9_J0_indexOf_7cf53_2 (l : Launch) (g : G9) (sz : Nat) : Met l yJ0_indexOf_7cf53 w9_J0_indexOf_7cf53_2 ({ frames := 2, cells := 0, slots := 0, locals := 48 }) (mP g [] sz [.ref (g.2.2 1), .int 42, .int 0]) (va_Qi (fun (r : Int32) (_ : Unit) => r = 1) (fun (_ : Unit) (t : State) => mB g [] sz [] t) (va_A [] sz)) 0 0 (va_A [] sz) := by
  refine Met.ofW (cc := cJ0_indexOf_7cf53) (maxL := 3) (ret := (some .int)) (by decide) rfl ?_
  intro p e s m args below meth c s₁ B hml hv
  obtain ⟨rfl, hsz, hP, hD0, hE⟩ := hv
  have hx := B.exec
  have hb := B.bytes
  have hr := B.returns
  have hts := atoms_spec (ws := w9_J0_indexOf_7cf53_2) B.pre
  have hown : s.vm.findClass RJ0 = some m.cls := findClass_of_methodNamed B.named
  have hlocks := B.notSynchronized
  subst hsz
  have hD := hD0.self (sz := s.heap.size)
  generalize hAe : va_A [] s.heap.size = A at hD hE ⊢
  have hA : ∀ q : Nat, s.heap.size ≤ q → A q := fun q h => by rw [← hAe]; exact Or.inr h
  have hK := hE.1
  have hS : va_S A s.heap s.heap [] := va_S.rf
  replace hP : va_P g.1 vwCl [] s.heap := hP
  have hl := lv_entry ([.ref (g.2.2 1), .int 42, .int 0]) (n := 3) (Nat.le_of_ble_eq_true rfl)
  rw [lg_entry_eq]
  generalize (lg_sl ([.ref (g.2.2 1), .int 42, .int 0]) ++ List.replicate (3 - (lg_sl ([.ref (g.2.2 1), .int 42, .int 0])).length) Slot.unset).toArray = ls at hl ⊢
  replace hl : lv_has ls 3 [(0, .ref (g.2.2 1)), (1, .int 42), (2, .int 0)] := hl
  have hH0 : s.heap.size ≤ s.heap.size := Nat.le_refl _
  refine lv_aload_n hx hb dJ0_indexOf_7cf53_0 rfl (lv_at hl 0 rfl) ?_
  have hPc := hP.sub (ws' := []) [] rfl
  have hDc := hD.sub (ws' := []) [] (by decide) rfl
  have hFc := va_free (wc := []) hD hS hA [] rfl
  refine va_calli (va_runV (As := []) (rest := []) ⟨hx, hb, hml, hown, hts⟩ (c9_J0_isLatin1_aae02_1 l g _) (cwV 0 hts g9_J0_indexOf_7cf53_2_0 rfl rfl rfl (by decide +kernel) ⟨Nat.le_of_ble_eq_true rfl, Nat.le_of_ble_eq_true rfl⟩) (mPreT (g := g) (wc := []) (C := RJ0) hE hS hPc hDc hFc (hE.or hS)) rfl rfl hl.1 rfl (lv_room (Nat.le_of_ble_eq_true rfl)) dJ0_indexOf_7cf53_1 ⟨Nat.le_of_ble_eq_true rfl, Nat.le_of_ble_eq_true rfl⟩) hS (fun q _ h => hFc q h) hFc (fun r_1 u t H1 locs ht hvm hw hB hz1 hk1 hS => ?_)
  replace hw : 1 = r_1 := Eq.symm hw
  subst hw
  obtain ⟨hP1, hD1⟩ := hB
  rw [ht] at hP1
  obtain ⟨hP, hD⟩ := va_join (wr := []) (w1 := []) hP hD [] [] rfl rfl (by decide) (by decide) hk1 hFc hP1 hD1
  clear hP1 hD1 hPc hDc hFc hk1 hz1 hvm ht
  generalize H1 = H at hP hS ⊢
  have hP : va_P g.1 vwCl [] H := hP
  have hD : va_D A [] := hD
  refine lv_if_eq (tgt := 23) hx hb dJ0_indexOf_7cf53_4 (by decide) (fun c9 => absurd c9 (by decide)) (fun _ => ?_)
  refine lv_aload_n hx hb dJ0_indexOf_7cf53_7 rfl (lv_at hl 0 rfl) ?_
  refine vk_getf hx hb hE.ov hS hown (hts (.fieldLink RJ0 9 "java/lang/String" "value" "[B") (List.mem_of_getElem? (i := 8) rfl)) (fun _ h9 => h9) dJ0_indexOf_7cf53_8 ?_
  refine lv_iload_n hx hb dJ0_indexOf_7cf53_11 rfl (lv_at hl 1 rfl) ?_
  refine lv_iload_n hx hb dJ0_indexOf_7cf53_12 rfl (lv_at hl 2 rfl) ?_
  refine lv_aload_n hx hb dJ0_indexOf_7cf53_13 rfl (lv_at hl 0 rfl) ?_
  have hPc := hP.sub (ws' := []) [] rfl
  have hDc := hD.sub (ws' := []) [] (by decide) rfl
  have hFc := va_free (wc := []) hD hS hA [] rfl
  refine va_calli (va_runV (As := []) (rest := [.int 0, .int 42, .ref (g.2.2 2)]) ⟨hx, hb, hml, hown, hts⟩ (c9_J0_length_8abf5_1 l g _) (cwV 0 hts g9_J0_indexOf_7cf53_2_1 rfl rfl rfl (by decide +kernel) ⟨Nat.le_of_ble_eq_true rfl, Nat.le_of_ble_eq_true rfl⟩) (mPreT (g := g) (wc := []) (C := RJ0) hE hS hPc hDc hFc (hE.or hS)) rfl rfl hl.1 rfl (lv_room (Nat.le_of_ble_eq_true rfl)) dJ0_indexOf_7cf53_14 ⟨Nat.le_of_ble_eq_true rfl, Nat.le_of_ble_eq_true rfl⟩) hS (fun q _ h => hFc q h) hFc (fun r_2 u t H1 locs ht hvm hw hB hz1 hk1 hS => ?_)
  replace hw : 22 = r_2 := Eq.symm hw
  subst hw
  obtain ⟨hP1, hD1⟩ := hB
  rw [ht] at hP1
  obtain ⟨hP, hD⟩ := va_join (wr := []) (w1 := []) hP hD [] [] rfl rfl (by decide) (by decide) hk1 hFc hP1 hD1
  clear hP1 hD1 hPc hDc hFc hk1 hz1 hvm ht
  generalize H1 = H at hP hS ⊢
  have hP : va_P g.1 vwCl [] H := hP
  have hD : va_D A [] := hD
  have hPc := hP.sub (ws' := []) [] rfl
  have hDc := hD.sub (ws' := []) [] (by decide) rfl
  have hFc := va_free (wc := []) hD hS hA [] rfl
  refine va_calli (va_runS (As := [.ref (g.2.2 2), .int 42, .int 0, .int 22]) (rest := []) ⟨hx, hb, hml, hown, hts⟩ (c9_J1_indexOf_4cfef_2 l g _) (va_cwS 4 hts g9_J0_indexOf_7cf53_2_2 rfl rfl rfl (by decide +kernel) ⟨Nat.le_of_ble_eq_true rfl, Nat.le_of_ble_eq_true rfl⟩) (mPreS (g := g) (wc := []) hE hS hPc hDc hFc) rfl rfl hl.1 rfl (lv_room (Nat.le_of_ble_eq_true rfl)) dJ0_indexOf_7cf53_17 ⟨Nat.le_of_ble_eq_true rfl, Nat.le_of_ble_eq_true rfl⟩) hS (fun q _ h => hFc q h) hFc (fun r_3 u t H1 locs ht hvm hw hB hz1 hk1 hS => ?_)
  replace hw : 1 = r_3 := Eq.symm hw
  subst hw
  obtain ⟨hP1, hD1⟩ := hB
  rw [ht] at hP1
  obtain ⟨hP, hD⟩ := va_join (wr := []) (w1 := []) hP hD [] [] rfl rfl (by decide) (by decide) hk1 hFc hP1 hD1
  clear hP1 hD1 hPc hDc hFc hk1 hz1 hvm ht
  generalize H1 = H at hP hS ⊢
  have hP : va_P g.1 vwCl [] H := hP
  have hD : va_D A [] := hD
  refine lv_goto (tgt := 36) hx hb dJ0_indexOf_7cf53_20 (by decide) ?_
  have hP9 := hP.sub (ws' := []) [] rfl
  have hD9 := hD.sub (ws' := []) [] (by decide) rfl
  subst hAe
  exact W.iret (v := 1) hx hb hr (fun t ht hW => ⟨⟨1, (), rfl, rfl, by rw [ht]; exact hP9, hD9⟩, hS.F ht⟩) hS.2.2 dJ0_indexOf_7cf53_36
def w9_J0_indexOf_0f7a4_2 : List Cond := [.code yJ0_indexOf_0f7a4 cJ0_indexOf_0f7a4 2 (some .int), .methodLink RJ0 633 yJ0_indexOf_7cf53, .instanceMethod yJ0_indexOf_7cf53, .selects RJ0 yJ0_indexOf_7cf53 yJ0_indexOf_7cf53, .initialized RJ0, .code yJ0_indexOf_7cf53 cJ0_indexOf_7cf53 3 (some .int), .methodLink RJ0 492 yJ0_isLatin1_aae02, .instanceMethod yJ0_isLatin1_aae02, .selects RJ0 yJ0_isLatin1_aae02 yJ0_isLatin1_aae02, .code yJ0_isLatin1_aae02 cJ0_isLatin1_aae02 1 (some .boolean), .fieldLink RJ0 38 "java/lang/String" "COMPACT_STRINGS" "Z", .fieldLink RJ0 15 "java/lang/String" "coder" "B", .fieldLink RJ0 9 "java/lang/String" "value" "[B", .methodLink RJ0 505 yJ0_length_8abf5, .instanceMethod yJ0_length_8abf5, .selects RJ0 yJ0_length_8abf5 yJ0_length_8abf5, .code yJ0_length_8abf5 cJ0_length_8abf5 1 (some .int), .methodLink RJ0 335 yJ0_coder_7d493, .instanceMethod yJ0_coder_7d493, .selects RJ0 yJ0_coder_7d493 yJ0_coder_7d493, .code yJ0_coder_7d493 cJ0_coder_7d493 1 (some .byte), .methodLink RJ0 637 yJ1_indexOf_4cfef, .static yJ1_indexOf_4cfef, .initialized RJ1, .code yJ1_indexOf_4cfef cJ1_indexOf_4cfef 4 (some .int), .methodLink RJ1 88 yJ1_canEncode_9a6ad, .static yJ1_canEncode_9a6ad, .code yJ1_canEncode_9a6ad cJ1_canEncode_9a6ad 1 (some .boolean), .methodLink RJ1 92 Lib.Math.max.name, .static Lib.Math.max.name, .initialized "java/lang/Math", .code Lib.Math.max.name Lib.Math.max.code 2 (some .int), .methodLink RJ1 38 Lib.Math.min.name, .static Lib.Math.min.name, .code Lib.Math.min.name Lib.Math.min.code 2 (some .int), .methodLink RJ1 95 yJ1_indexOfChar_4cfef, .static yJ1_indexOfChar_4cfef, .code yJ1_indexOfChar_4cfef cJ1_indexOfChar_4cfef 6 (some .int)]
set_option maxRecDepth 20000 in
theorem g9_J0_indexOf_0f7a4_2_0 : GoodIn w9_J0_indexOf_0f7a4_2 (wsV RJ0 633 RJ0 yJ0_indexOf_7cf53 w9_J0_indexOf_7cf53_2) := goodIn_r _ [1, 2, 3, 4, 5, 6, 7, 8, 4, 9, 10, 11, 12, 13, 14, 15, 16, 17, 18, 19, 20, 21, 22, 23, 24, 25, 26, 27, 28, 29, 30, 31, 32, 33, 34, 35, 36, 37] (by decide +kernel) (by decide +kernel)
set_option maxHeartbeats 4000000 in
set_option maxRecDepth 100000 in
theorem c9_J0_indexOf_0f7a4_2 (l : Launch) (g : G9) (sz : Nat) : Met l yJ0_indexOf_0f7a4 w9_J0_indexOf_0f7a4_2 ({ frames := 3, cells := 0, slots := 0, locals := 70 }) (mP g [] sz [.ref (g.2.2 1), .int 42]) (va_Qi (fun (r : Int32) (_ : Unit) => r = 1) (fun (_ : Unit) (t : State) => mB g [] sz [] t) (va_A [] sz)) 0 0 (va_A [] sz) := by
  refine Met.ofW (cc := cJ0_indexOf_0f7a4) (maxL := 2) (ret := (some .int)) (by decide) rfl ?_
  intro p e s m args below meth c s₁ B hml hv
  obtain ⟨rfl, hsz, hP, hD0, hE⟩ := hv
  have hx := B.exec
  have hb := B.bytes
  have hr := B.returns
  have hts := atoms_spec (ws := w9_J0_indexOf_0f7a4_2) B.pre
  have hown : s.vm.findClass RJ0 = some m.cls := findClass_of_methodNamed B.named
  have hlocks := B.notSynchronized
  subst hsz
  have hD := hD0.self (sz := s.heap.size)
  generalize hAe : va_A [] s.heap.size = A at hD hE ⊢
  have hA : ∀ q : Nat, s.heap.size ≤ q → A q := fun q h => by rw [← hAe]; exact Or.inr h
  have hK := hE.1
  have hS : va_S A s.heap s.heap [] := va_S.rf
  replace hP : va_P g.1 vwCl [] s.heap := hP
  have hl := lv_entry ([.ref (g.2.2 1), .int 42]) (n := 2) (Nat.le_of_ble_eq_true rfl)
  rw [lg_entry_eq]
  generalize (lg_sl ([.ref (g.2.2 1), .int 42]) ++ List.replicate (2 - (lg_sl ([.ref (g.2.2 1), .int 42])).length) Slot.unset).toArray = ls at hl ⊢
  replace hl : lv_has ls 2 [(0, .ref (g.2.2 1)), (1, .int 42)] := hl
  have hH0 : s.heap.size ≤ s.heap.size := Nat.le_refl _
  refine lv_aload_n hx hb dJ0_indexOf_0f7a4_0 rfl (lv_at hl 0 rfl) ?_
  refine lv_iload_n hx hb dJ0_indexOf_0f7a4_1 rfl (lv_at hl 1 rfl) ?_
  refine lv_iconst (v := 0) hx hb dJ0_indexOf_0f7a4_2 (by decide) ?_
  have hPc := hP.sub (ws' := []) [] rfl
  have hDc := hD.sub (ws' := []) [] (by decide) rfl
  have hFc := va_free (wc := []) hD hS hA [] rfl
  refine va_calli (va_runV (As := [.int 42, .int 0]) (rest := []) ⟨hx, hb, hml, hown, hts⟩ (c9_J0_indexOf_7cf53_2 l g _) (cwV 2 hts g9_J0_indexOf_0f7a4_2_0 rfl rfl rfl (by decide +kernel) ⟨Nat.le_of_ble_eq_true rfl, Nat.le_of_ble_eq_true rfl⟩) (mPreT (g := g) (wc := []) (C := RJ0) hE hS hPc hDc hFc (hE.or hS)) rfl rfl hl.1 rfl (lv_room (Nat.le_of_ble_eq_true rfl)) dJ0_indexOf_0f7a4_3 ⟨Nat.le_of_ble_eq_true rfl, Nat.le_of_ble_eq_true rfl⟩) hS (fun q _ h => hFc q h) hFc (fun r_1 u t H1 locs ht hvm hw hB hz1 hk1 hS => ?_)
  replace hw : 1 = r_1 := Eq.symm hw
  subst hw
  obtain ⟨hP1, hD1⟩ := hB
  rw [ht] at hP1
  obtain ⟨hP, hD⟩ := va_join (wr := []) (w1 := []) hP hD [] [] rfl rfl (by decide) (by decide) hk1 hFc hP1 hD1
  clear hP1 hD1 hPc hDc hFc hk1 hz1 hvm ht
  generalize H1 = H at hP hS ⊢
  have hP : va_P g.1 vwCl [] H := hP
  have hD : va_D A [] := hD
  have hP9 := hP.sub (ws' := []) [] rfl
  have hD9 := hD.sub (ws' := []) [] (by decide) rfl
  subst hAe
  exact W.iret (v := 1) hx hb hr (fun t ht hW => ⟨⟨1, (), rfl, rfl, by rw [ht]; exact hP9, hD9⟩, hS.F ht⟩) hS.2.2 dJ0_indexOf_0f7a4_6
def w9_X8_codeOf_8 : List Cond := [.code yX8_codeOf cX8_codeOf 1 (some .int)]
set_option maxHeartbeats 4000000 in
set_option maxRecDepth 100000 in
theorem c9_X8_codeOf_8 (l : Launch) (g : G9) (sz : Nat) : Met l yX8_codeOf w9_X8_codeOf_8 ({ frames := 0, cells := 0, slots := 0, locals := 0 }) (mP g [] sz [.int 43]) (va_Qi (fun (r : Int32) (_ : Unit) => r = (-1)) (fun (_ : Unit) (t : State) => mB g [] sz [] t) (va_A [] sz)) 0 0 (va_A [] sz) := by
  refine Met.ofW (cc := cX8_codeOf) (maxL := 1) (ret := (some .int)) (by decide) rfl ?_
  intro p e s m args below meth c s₁ B hml hv
  obtain ⟨rfl, hsz, hP, hD0, hE⟩ := hv
  have hx := B.exec
  have hb := B.bytes
  have hr := B.returns
  have hts := atoms_spec (ws := w9_X8_codeOf_8) B.pre
  have hown : s.vm.findClass RX8 = some m.cls := findClass_of_methodNamed B.named
  have hlocks := B.notSynchronized
  subst hsz
  have hD := hD0.self (sz := s.heap.size)
  generalize hAe : va_A [] s.heap.size = A at hD hE ⊢
  have hA : ∀ q : Nat, s.heap.size ≤ q → A q := fun q h => by rw [← hAe]; exact Or.inr h
  have hK := hE.1
  have hS : va_S A s.heap s.heap [] := va_S.rf
  replace hP : va_P g.1 vwCl [] s.heap := hP
  have hl := lv_entry ([.int 43]) (n := 1) (Nat.le_of_ble_eq_true rfl)
  rw [lg_entry_eq]
  generalize (lg_sl ([.int 43]) ++ List.replicate (1 - (lg_sl ([.int 43])).length) Slot.unset).toArray = ls at hl ⊢
  replace hl : lv_has ls 1 [(0, .int 43)] := hl
  have hH0 : s.heap.size ≤ s.heap.size := Nat.le_refl _
  refine lv_iload_n hx hb dX8_codeOf_0 rfl (lv_at hl 0 rfl) ?_
  refine lv_bipush (v := 97) hx hb dX8_codeOf_1 (by decide) ?_
  refine lv_icmp_lt (tgt := 17) hx hb dX8_codeOf_3 (by decide) (fun _ => ?_) (fun c9 => absurd (by decide) c9)
  refine lv_iload_n hx hb dX8_codeOf_17 rfl (lv_at hl 0 rfl) ?_
  refine lv_bipush (v := 65) hx hb dX8_codeOf_18 (by decide) ?_
  refine lv_icmp_lt (tgt := 37) hx hb dX8_codeOf_20 (by decide) (fun _ => ?_) (fun c9 => absurd (by decide) c9)
  refine lv_iload_n hx hb dX8_codeOf_37 rfl (lv_at hl 0 rfl) ?_
  refine lv_bipush (v := 48) hx hb dX8_codeOf_38 (by decide) ?_
  refine lv_icmp_lt (tgt := 57) hx hb dX8_codeOf_40 (by decide) (fun _ => ?_) (fun c9 => absurd (by decide) c9)
  refine lv_iload_n hx hb dX8_codeOf_57 rfl (lv_at hl 0 rfl) ?_
  refine lv_bipush (v := 95) hx hb dX8_codeOf_58 (by decide) ?_
  refine lv_icmp_ne (tgt := 66) hx hb dX8_codeOf_60 (by decide) (fun _ => ?_) (fun c9 => absurd c9 (by decide))
  refine lv_iload_n hx hb dX8_codeOf_66 rfl (lv_at hl 0 rfl) ?_
  refine lv_bipush (v := 32) hx hb dX8_codeOf_67 (by decide) ?_
  refine lv_icmp_ne (tgt := 77) hx hb dX8_codeOf_69 (by decide) (fun _ => ?_) (fun c9 => absurd c9 (by decide))
  refine lv_iconst (v := (-1)) hx hb dX8_codeOf_77 (by decide) ?_
  have hP9 := hP.sub (ws' := []) [] rfl
  have hD9 := hD.sub (ws' := []) [] (by decide) rfl
  subst hAe
  exact W.iret (v := (-1)) hx hb hr (fun t ht hW => ⟨⟨(-1), (), rfl, rfl, by rw [ht]; exact hP9, hD9⟩, hS.F ht⟩) hS.2.2 dX8_codeOf_78
def w9_J1_canEncode_9a6ad_3 : List Cond := [.code yJ1_canEncode_9a6ad cJ1_canEncode_9a6ad 1 (some .boolean)]
set_option maxHeartbeats 4000000 in
set_option maxRecDepth 100000 in
theorem c9_J1_canEncode_9a6ad_3 (l : Launch) (g : G9) (sz : Nat) : Met l yJ1_canEncode_9a6ad w9_J1_canEncode_9a6ad_3 ({ frames := 0, cells := 0, slots := 0, locals := 0 }) (mP g [] sz [.int 43]) (va_Qi (fun (r : Int32) (_ : Unit) => r = 1) (fun (_ : Unit) (t : State) => mB g [] sz [] t) (va_A [] sz)) 0 0 (va_A [] sz) := by
  refine Met.ofW (cc := cJ1_canEncode_9a6ad) (maxL := 1) (ret := (some .boolean)) (by decide) rfl ?_
  intro p e s m args below meth c s₁ B hml hv
  obtain ⟨rfl, hsz, hP, hD0, hE⟩ := hv
  have hx := B.exec
  have hb := B.bytes
  have hr := B.returns
  have hts := atoms_spec (ws := w9_J1_canEncode_9a6ad_3) B.pre
  have hown : s.vm.findClass RJ1 = some m.cls := findClass_of_methodNamed B.named
  have hlocks := B.notSynchronized
  subst hsz
  have hD := hD0.self (sz := s.heap.size)
  generalize hAe : va_A [] s.heap.size = A at hD hE ⊢
  have hA : ∀ q : Nat, s.heap.size ≤ q → A q := fun q h => by rw [← hAe]; exact Or.inr h
  have hK := hE.1
  have hS : va_S A s.heap s.heap [] := va_S.rf
  replace hP : va_P g.1 vwCl [] s.heap := hP
  have hl := lv_entry ([.int 43]) (n := 1) (Nat.le_of_ble_eq_true rfl)
  rw [lg_entry_eq]
  generalize (lg_sl ([.int 43]) ++ List.replicate (1 - (lg_sl ([.int 43])).length) Slot.unset).toArray = ls at hl ⊢
  replace hl : lv_has ls 1 [(0, .int 43)] := hl
  have hH0 : s.heap.size ≤ s.heap.size := Nat.le_refl _
  refine lv_iload_n hx hb dJ1_canEncode_9a6ad_0 rfl (lv_at hl 0 rfl) ?_
  refine lv_if_lt (tgt := 15) hx hb dJ1_canEncode_9a6ad_1 (by decide) (fun c9 => absurd c9 (by decide)) (fun _ => ?_)
  refine lv_iload_n hx hb dJ1_canEncode_9a6ad_4 rfl (lv_at hl 0 rfl) ?_
  refine lv_sipush (v := 255) hx hb dJ1_canEncode_9a6ad_5 (by decide) ?_
  refine lv_icmp_gt (tgt := 15) hx hb dJ1_canEncode_9a6ad_8 (by decide) (fun c9 => absurd c9 (by decide)) (fun _ => ?_)
  refine lv_iconst (v := 1) hx hb dJ1_canEncode_9a6ad_11 (by decide) ?_
  refine lv_goto (tgt := 16) hx hb dJ1_canEncode_9a6ad_12 (by decide) ?_
  have hP9 := hP.sub (ws' := []) [] rfl
  have hD9 := hD.sub (ws' := []) [] (by decide) rfl
  subst hAe
  exact W.zret (v := 1) hx hb hr (by decide) (fun t ht hW => ⟨⟨1, (), rfl, rfl, by rw [ht]; exact hP9, hD9⟩, hS.F ht⟩) hS.2.2 dJ1_canEncode_9a6ad_16
def w9_J1_indexOfChar_4cfef_3 : List Cond := [.code yJ1_indexOfChar_4cfef cJ1_indexOfChar_4cfef 6 (some .int)]
set_option maxHeartbeats 4000000 in
set_option maxRecDepth 100000 in
theorem c9_J1_indexOfChar_4cfef_3 (l : Launch) (g : G9) (sz : Nat) : Met l yJ1_indexOfChar_4cfef w9_J1_indexOfChar_4cfef_3 ({ frames := 0, cells := 0, slots := 0, locals := 0 }) (mP g [] sz [.ref (g.2.2 2), .int 43, .int 0, .int 22]) (va_Qi (fun (r : Int32) (_ : Unit) => r = 2) (fun (_ : Unit) (t : State) => mB g [] sz [] t) (va_A [] sz)) 0 0 (va_A [] sz) := by
  refine Met.ofW (cc := cJ1_indexOfChar_4cfef) (maxL := 6) (ret := (some .int)) (by decide) rfl ?_
  intro p e s m args below meth c s₁ B hml hv
  obtain ⟨rfl, hsz, hP, hD0, hE⟩ := hv
  have hx := B.exec
  have hb := B.bytes
  have hr := B.returns
  have hts := atoms_spec (ws := w9_J1_indexOfChar_4cfef_3) B.pre
  have hown : s.vm.findClass RJ1 = some m.cls := findClass_of_methodNamed B.named
  have hlocks := B.notSynchronized
  subst hsz
  have hD := hD0.self (sz := s.heap.size)
  generalize hAe : va_A [] s.heap.size = A at hD hE ⊢
  have hA : ∀ q : Nat, s.heap.size ≤ q → A q := fun q h => by rw [← hAe]; exact Or.inr h
  have hK := hE.1
  have hS : va_S A s.heap s.heap [] := va_S.rf
  replace hP : va_P g.1 vwCl [] s.heap := hP
  have hl := lv_entry ([.ref (g.2.2 2), .int 43, .int 0, .int 22]) (n := 6) (Nat.le_of_ble_eq_true rfl)
  rw [lg_entry_eq]
  generalize (lg_sl ([.ref (g.2.2 2), .int 43, .int 0, .int 22]) ++ List.replicate (6 - (lg_sl ([.ref (g.2.2 2), .int 43, .int 0, .int 22])).length) Slot.unset).toArray = ls at hl ⊢
  replace hl : lv_has ls 6 [(0, .ref (g.2.2 2)), (1, .int 43), (2, .int 0), (3, .int 22)] := hl
  have hH0 : s.heap.size ≤ s.heap.size := Nat.le_refl _
  refine lv_iload_n hx hb dJ1_indexOfChar_4cfef_0 rfl (lv_at hl 1 rfl) ?_
  refine lv_i2b (v := 43) hx hb dJ1_indexOfChar_4cfef_1 (by decide) ?_
  refine lv_istore (lv' := [(4, .int 43), (0, .ref (g.2.2 2)), (1, .int 43), (2, .int 0), (3, .int 22)]) hx hb dJ1_indexOfChar_4cfef_2 hl (by decide) rfl (fun ls hl => ?_)
  refine lv_iload_n hx hb dJ1_indexOfChar_4cfef_4 rfl (lv_at hl 3 rfl) ?_
  refine lv_istore (lv' := [(5, .int 0), (4, .int 43), (0, .ref (g.2.2 2)), (1, .int 43), (2, .int 0), (3, .int 22)]) hx hb dJ1_indexOfChar_4cfef_5 hl (by decide) rfl (fun ls hl => ?_)
  refine lv_iload hx hb dJ1_indexOfChar_4cfef_7 (lv_at hl 0 rfl) ?_
  refine lv_iload_n hx hb dJ1_indexOfChar_4cfef_9 rfl (lv_at hl 5 rfl) ?_
  refine lv_icmp_ge (tgt := 31) hx hb dJ1_indexOfChar_4cfef_10 (by decide) (fun c9 => absurd c9 (by decide)) (fun _ => ?_)
  refine lv_aload_n hx hb dJ1_indexOfChar_4cfef_13 rfl (lv_at hl 2 rfl) ?_
  refine lv_iload hx hb dJ1_indexOfChar_4cfef_14 (lv_at hl 0 rfl) ?_
  refine va_tb (v := .int 46) hx hb hE.ot hS (vp_in_nI (n := 0) (by decide) (by decide)) rfl dJ1_indexOfChar_4cfef_16 ?_
  refine lv_iload hx hb dJ1_indexOfChar_4cfef_17 (lv_at hl 1 rfl) ?_
  refine lv_icmp_ne (tgt := 25) hx hb dJ1_indexOfChar_4cfef_19 (by decide) (fun _ => ?_) (fun c9 => absurd c9 (by decide))
  refine lv_iinc (v := 1) (lv' := [(5, .int 1), (4, .int 43), (0, .ref (g.2.2 2)), (1, .int 43), (2, .int 0), (3, .int 22)]) hx hb dJ1_indexOfChar_4cfef_25 hl (k := 0) rfl (by decide) (by decide) rfl (fun ls hl => ?_)
  refine lv_goto (tgt := 7) hx hb dJ1_indexOfChar_4cfef_28 (by decide) ?_
  refine lv_iload hx hb dJ1_indexOfChar_4cfef_7 (lv_at hl 0 rfl) ?_
  refine lv_iload_n hx hb dJ1_indexOfChar_4cfef_9 rfl (lv_at hl 5 rfl) ?_
  refine lv_icmp_ge (tgt := 31) hx hb dJ1_indexOfChar_4cfef_10 (by decide) (fun c9 => absurd c9 (by decide)) (fun _ => ?_)
  refine lv_aload_n hx hb dJ1_indexOfChar_4cfef_13 rfl (lv_at hl 2 rfl) ?_
  refine lv_iload hx hb dJ1_indexOfChar_4cfef_14 (lv_at hl 0 rfl) ?_
  refine va_tb (v := .int 42) hx hb hE.ot hS (vp_in_nI (n := 1) (by decide) (by decide)) rfl dJ1_indexOfChar_4cfef_16 ?_
  refine lv_iload hx hb dJ1_indexOfChar_4cfef_17 (lv_at hl 1 rfl) ?_
  refine lv_icmp_ne (tgt := 25) hx hb dJ1_indexOfChar_4cfef_19 (by decide) (fun _ => ?_) (fun c9 => absurd c9 (by decide))
  refine lv_iinc (v := 2) (lv' := [(5, .int 2), (4, .int 43), (0, .ref (g.2.2 2)), (1, .int 43), (2, .int 0), (3, .int 22)]) hx hb dJ1_indexOfChar_4cfef_25 hl (k := 0) rfl (by decide) (by decide) rfl (fun ls hl => ?_)
  refine lv_goto (tgt := 7) hx hb dJ1_indexOfChar_4cfef_28 (by decide) ?_
  refine lv_iload hx hb dJ1_indexOfChar_4cfef_7 (lv_at hl 0 rfl) ?_
  refine lv_iload_n hx hb dJ1_indexOfChar_4cfef_9 rfl (lv_at hl 5 rfl) ?_
  refine lv_icmp_ge (tgt := 31) hx hb dJ1_indexOfChar_4cfef_10 (by decide) (fun c9 => absurd c9 (by decide)) (fun _ => ?_)
  refine lv_aload_n hx hb dJ1_indexOfChar_4cfef_13 rfl (lv_at hl 2 rfl) ?_
  refine lv_iload hx hb dJ1_indexOfChar_4cfef_14 (lv_at hl 0 rfl) ?_
  refine va_tb (v := .int 43) hx hb hE.ot hS (vp_in_nI (n := 2) (by decide) (by decide)) rfl dJ1_indexOfChar_4cfef_16 ?_
  refine lv_iload hx hb dJ1_indexOfChar_4cfef_17 (lv_at hl 1 rfl) ?_
  refine lv_icmp_ne (tgt := 25) hx hb dJ1_indexOfChar_4cfef_19 (by decide) (fun c9 => absurd (by decide) c9) (fun _ => ?_)
  refine lv_iload hx hb dJ1_indexOfChar_4cfef_22 (lv_at hl 0 rfl) ?_
  have hP9 := hP.sub (ws' := []) [] rfl
  have hD9 := hD.sub (ws' := []) [] (by decide) rfl
  subst hAe
  exact W.iret (v := 2) hx hb hr (fun t ht hW => ⟨⟨2, (), rfl, rfl, by rw [ht]; exact hP9, hD9⟩, hS.F ht⟩) hS.2.2 dJ1_indexOfChar_4cfef_24

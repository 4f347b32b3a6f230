def w9_X21_notRegular_4 : List Cond := [.code yX21_notRegular cX21_notRegular 4 (some .int), .methodLink RX21 416 yX21_unknownPlace, .instanceMethod yX21_unknownPlace, .selects RX21 yX21_unknownPlace yX21_unknownPlace, .initialized RX21, .code yX21_unknownPlace cX21_unknownPlace 4 (some .int), .methodLink RX21 160 yX21_in, .static yX21_in, .code yX21_in cX21_in 3 (some .boolean), .fieldLink RX21 196 "RegexloomModel" "length" "I"] ++ (u_ws RX21 TX21 32)
set_option maxRecDepth 20000 in
theorem in9_X21_notRegular_4_RX21 : ∀ w ∈ u_ws RX21 TX21 32, w ∈ w9_X21_notRegular_4 := by decide +kernel
set_option maxRecDepth 20000 in
theorem g9_X21_notRegular_4_0 : GoodIn w9_X21_notRegular_4 (wsV RX21 416 RX21 yX21_unknownPlace w9_X21_unknownPlace_4) := goodIn_r _ [1, 2, 3, 4, 5, 6, 7, 4, 8, 9, 10, 11, 12, 13, 14, 15, 16, 17, 18, 19, 20, 21, 22, 23, 24, 25, 26, 27, 28, 29, 30, 31, 32, 33, 34, 35, 36, 37, 38, 39, 40, 41] (by decide +kernel) (by decide +kernel)
set_option maxHeartbeats 4000000 in
set_option maxRecDepth 100000 in
theorem c9_X21_notRegular_4 (l : Launch) (g : G9) (h0 h1 h2 h3 h4 h5 h6 h7 h8 h9 h10 h11 h12 h13 h14 h15 h16 sz : Nat) (v0 v1 : Int32) (k_v0 : 0 ≤ v0.toInt ∧ v0.toInt ≤ 3) (k_v1 : 1 ≤ v1.toInt ∧ v1.toInt ≤ 2147483647) : Met l yX21_notRegular w9_X21_notRegular_4 ({ frames := 2, cells := 0, slots := 0, locals := 45 }) (mP g [(h0, .inr (22, [.int 0, .ref h1, .int 0, .ref h2, .int 0, .ref h3, .int 250, .ref h4, .int 0, .ref h5, .ref h6, .ref h7, .int 0, .ref h8, .ref h9, .ref h10, .int 0, .null, .int 0, .null, .int 0, .int 0, .int 0, .ref h11, .int 0, .ref h12, .ref h13, .ref h14, .int 0, .ref h15, .ref h16, .int 0]))] sz [.ref h0, .int v0, .int v1]) (va_Qi (fun (r : Int32) (_ : Unit) => r = 1) (fun (_ : Unit) (t : State) => mB g [(h0, .inr (22, [.int 0, .ref h1, .int 0, .ref h2, .int 0, .ref h3, .int 250, .ref h4, .int 0, .ref h5, .ref h6, .ref h7, .int 0, .ref h8, .ref h9, .ref h10, .int 0, .null, .int 0, .null, .int 0, .int 0, .int 0, .ref h11, .int 0, .ref h12, .ref h13, .ref h14, .int 0, .ref h15, .ref h16, .int 0]))] sz [(h0, .inr (22, [.int 0, .ref h1, .int 0, .ref h2, .int 0, .ref h3, .int 250, .ref h4, .int 0, .ref h5, .ref h6, .ref h7, .int 0, .ref h8, .ref h9, .ref h10, .int 0, .null, .int 0, .null, .int 0, .int 0, .int 0, .ref h11, .int 0, .ref h12, .ref h13, .ref h14, .int 0, .ref h15, .ref h16, .int 0]))] t) (va_A [(h0, .inr (22, [.int 0, .ref h1, .int 0, .ref h2, .int 0, .ref h3, .int 250, .ref h4, .int 0, .ref h5, .ref h6, .ref h7, .int 0, .ref h8, .ref h9, .ref h10, .int 0, .null, .int 0, .null, .int 0, .int 0, .int 0, .ref h11, .int 0, .ref h12, .ref h13, .ref h14, .int 0, .ref h15, .ref h16, .int 0]))] sz)) 0 0 (va_A [(h0, .inr (22, [.int 0, .ref h1, .int 0, .ref h2, .int 0, .ref h3, .int 250, .ref h4, .int 0, .ref h5, .ref h6, .ref h7, .int 0, .ref h8, .ref h9, .ref h10, .int 0, .null, .int 0, .null, .int 0, .int 0, .int 0, .ref h11, .int 0, .ref h12, .ref h13, .ref h14, .int 0, .ref h15, .ref h16, .int 0]))] sz) := by
  refine Met.ofW (cc := cX21_notRegular) (maxL := 4) (ret := (some .int)) (by decide) rfl ?_
  intro p e s m args below meth c s₁ B hml hv
  obtain ⟨rfl, hsz, hP, hD0, hE⟩ := hv
  have hx := B.exec
  have hb := B.bytes
  have hr := B.returns
  have hts := atoms_spec (ws := w9_X21_notRegular_4) B.pre
  have hown : s.vm.findClass RX21 = some m.cls := findClass_of_methodNamed B.named
  have hlocks := B.notSynchronized
  subst hsz
  have hD := hD0.self (sz := s.heap.size)
  generalize hAe : va_A [(h0, .inr (22, [.int 0, .ref h1, .int 0, .ref h2, .int 0, .ref h3, .int 250, .ref h4, .int 0, .ref h5, .ref h6, .ref h7, .int 0, .ref h8, .ref h9, .ref h10, .int 0, .null, .int 0, .null, .int 0, .int 0, .int 0, .ref h11, .int 0, .ref h12, .ref h13, .ref h14, .int 0, .ref h15, .ref h16, .int 0]))] s.heap.size = A at hD hE ⊢
  have hA : ∀ q : Nat, s.heap.size ≤ q → A q := fun q h => by rw [← hAe]; exact Or.inr h
  have hK := hE.1
  have hS : va_S A s.heap s.heap [] := va_S.rf
  replace hP : va_P g.1 vwCl [(h0, .inr (22, [.int 0, .ref h1, .int 0, .ref h2, .int 0, .ref h3, .int 250, .ref h4, .int 0, .ref h5, .ref h6, .ref h7, .int 0, .ref h8, .ref h9, .ref h10, .int 0, .null, .int 0, .null, .int 0, .int 0, .int 0, .ref h11, .int 0, .ref h12, .ref h13, .ref h14, .int 0, .ref h15, .ref h16, .int 0]))] s.heap := hP
  have hl := lv_entry ([.ref h0, .int v0, .int v1]) (n := 4) (Nat.le_of_ble_eq_true rfl)
  rw [lg_entry_eq]
  generalize (lg_sl ([.ref h0, .int v0, .int v1]) ++ List.replicate (4 - (lg_sl ([.ref h0, .int v0, .int v1])).length) Slot.unset).toArray = ls at hl ⊢
  replace hl : lv_has ls 4 [(0, .ref h0), (1, .int v0), (2, .int v1)] := hl
  have hH0 : s.heap.size ≤ s.heap.size := Nat.le_refl _
  refine lv_aload_n hx hb dX21_notRegular_0 rfl (lv_at hl 0 rfl) ?_
  refine lv_iload_n hx hb dX21_notRegular_1 rfl (lv_at hl 1 rfl) ?_
  refine lv_iload_n hx hb dX21_notRegular_2 rfl (lv_at hl 2 rfl) ?_
  have hPc := hP.sub (ws' := [(h0, .inr (22, [.int 0, .ref h1, .int 0, .ref h2, .int 0, .ref h3, .int 250, .ref h4, .int 0, .ref h5, .ref h6, .ref h7, .int 0, .ref h8, .ref h9, .ref h10, .int 0, .null, .int 0, .null, .int 0, .int 0, .int 0, .ref h11, .int 0, .ref h12, .ref h13, .ref h14, .int 0, .ref h15, .ref h16, .int 0]))]) [0] rfl
  have hDc := hD.sub (ws' := [(h0, .inr (22, [.int 0, .ref h1, .int 0, .ref h2, .int 0, .ref h3, .int 250, .ref h4, .int 0, .ref h5, .ref h6, .ref h7, .int 0, .ref h8, .ref h9, .ref h10, .int 0, .null, .int 0, .null, .int 0, .int 0, .int 0, .ref h11, .int 0, .ref h12, .ref h13, .ref h14, .int 0, .ref h15, .ref h16, .int 0]))]) [0] (by decide) rfl
  have hFc := va_free (wc := [(h0, .inr (22, [.int 0, .ref h1, .int 0, .ref h2, .int 0, .ref h3, .int 250, .ref h4, .int 0, .ref h5, .ref h6, .ref h7, .int 0, .ref h8, .ref h9, .ref h10, .int 0, .null, .int 0, .null, .int 0, .int 0, .int 0, .ref h11, .int 0, .ref h12, .ref h13, .ref h14, .int 0, .ref h15, .ref h16, .int 0]))]) hD hS hA [0] rfl
  refine va_calli (va_runV (As := [.int v0, .int v1]) (rest := []) ⟨hx, hb, hml, hown, hts⟩ (c9_X21_unknownPlace_4 l g h0 h1 h2 h3 h4 h5 h6 h7 h8 h9 h10 h11 h12 h13 h14 h15 h16 _ v0 v1 (by omega) (by omega)) (cwV 2 hts g9_X21_notRegular_4_0 rfl rfl rfl (by decide +kernel) ⟨Nat.le_of_ble_eq_true rfl, Nat.le_of_ble_eq_true rfl⟩) (mPreV (g := g) (wc := [(h0, .inr (22, [.int 0, .ref h1, .int 0, .ref h2, .int 0, .ref h3, .int 250, .ref h4, .int 0, .ref h5, .ref h6, .ref h7, .int 0, .ref h8, .ref h9, .ref h10, .int 0, .null, .int 0, .null, .int 0, .int 0, .int 0, .ref h11, .int 0, .ref h12, .ref h13, .ref h14, .int 0, .ref h15, .ref h16, .int 0]))]) (C := RX21) (ci := 22) (q0 := 0) hE hS hPc hDc hFc rfl rfl) rfl rfl hl.1 rfl (lv_room (Nat.le_of_ble_eq_true rfl)) dX21_notRegular_3 ⟨Nat.le_of_ble_eq_true rfl, Nat.le_of_ble_eq_true rfl⟩) hS (fun q _ h => hFc q h) hFc (fun r_1 u t H1 locs ht hvm hw hB hz1 hk1 hS => ?_)
  replace hw : 1 = r_1 := Eq.symm hw
  subst hw
  obtain ⟨hP1, hD1⟩ := hB
  rw [ht] at hP1
  obtain ⟨hP, hD⟩ := va_join (wr := []) (w1 := [(h0, .inr (22, [.int 0, .ref h1, .int 0, .ref h2, .int 0, .ref h3, .int 250, .ref h4, .int 0, .ref h5, .ref h6, .ref h7, .int 0, .ref h8, .ref h9, .ref h10, .int 0, .null, .int 0, .null, .int 0, .int 0, .int 0, .ref h11, .int 0, .ref h12, .ref h13, .ref h14, .int 0, .ref h15, .ref h16, .int 0]))]) hP hD [0] [] rfl rfl (by decide) (by decide) hk1 hFc hP1 hD1
  clear hP1 hD1 hPc hDc hFc hk1 hz1 hvm ht
  generalize H1 = H at hP hS ⊢
  have hP : va_P g.1 vwCl [(h0, .inr (22, [.int 0, .ref h1, .int 0, .ref h2, .int 0, .ref h3, .int 250, .ref h4, .int 0, .ref h5, .ref h6, .ref h7, .int 0, .ref h8, .ref h9, .ref h10, .int 0, .null, .int 0, .null, .int 0, .int 0, .int 0, .ref h11, .int 0, .ref h12, .ref h13, .ref h14, .int 0, .ref h15, .ref h16, .int 0]))] H := hP
  have hD : va_D A [(h0, .inr (22, [.int 0, .ref h1, .int 0, .ref h2, .int 0, .ref h3, .int 250, .ref h4, .int 0, .ref h5, .ref h6, .ref h7, .int 0, .ref h8, .ref h9, .ref h10, .int 0, .null, .int 0, .null, .int 0, .int 0, .int 0, .ref h11, .int 0, .ref h12, .ref h13, .ref h14, .int 0, .ref h15, .ref h16, .int 0]))] := hD
  refine lv_istore_n (lv' := [(3, .int 1), (0, .ref h0), (1, .int v0), (2, .int v1)]) hx hb dX21_notRegular_6 rfl hl (by decide) rfl (fun ls hl => ?_)
  refine lv_iload_n hx hb dX21_notRegular_7 rfl (lv_at hl 0 rfl) ?_
  refine lv_if_ne (tgt := 27) hx hb dX21_notRegular_8 (by decide) (fun _ => ?_) (fun c9 => absurd c9 (by decide))
  refine lv_iload_n hx hb dX21_notRegular_27 rfl (lv_at hl 0 rfl) ?_
  have hP9 := hP.sub (ws' := [(h0, .inr (22, [.int 0, .ref h1, .int 0, .ref h2, .int 0, .ref h3, .int 250, .ref h4, .int 0, .ref h5, .ref h6, .ref h7, .int 0, .ref h8, .ref h9, .ref h10, .int 0, .null, .int 0, .null, .int 0, .int 0, .int 0, .ref h11, .int 0, .ref h12, .ref h13, .ref h14, .int 0, .ref h15, .ref h16, .int 0]))]) [0] rfl
  have hD9 := hD.sub (ws' := [(h0, .inr (22, [.int 0, .ref h1, .int 0, .ref h2, .int 0, .ref h3, .int 250, .ref h4, .int 0, .ref h5, .ref h6, .ref h7, .int 0, .ref h8, .ref h9, .ref h10, .int 0, .null, .int 0, .null, .int 0, .int 0, .int 0, .ref h11, .int 0, .ref h12, .ref h13, .ref h14, .int 0, .ref h15, .ref h16, .int 0]))]) [0] (by decide) rfl
  subst hAe
  exact W.iret (v := 1) hx hb hr (fun t ht hW => ⟨⟨1, (), rfl, rfl, by rw [ht]; exact hP9, hD9⟩, hS.F ht⟩) hS.2.2 dX21_notRegular_28
def w9_X21_longest_4 : List Cond := [.code yX21_longest cX21_longest 10 (some .int), .methodLink RX21 550 yX21_notRegular, .instanceMethod yX21_notRegular, .selects RX21 yX21_notRegular yX21_notRegular, .initialized RX21, .code yX21_notRegular cX21_notRegular 4 (some .int), .methodLink RX21 416 yX21_unknownPlace, .instanceMethod yX21_unknownPlace, .selects RX21 yX21_unknownPlace yX21_unknownPlace, .code yX21_unknownPlace cX21_unknownPlace 4 (some .int), .methodLink RX21 160 yX21_in, .static yX21_in, .code yX21_in cX21_in 3 (some .boolean), .fieldLink RX21 196 "RegexloomModel" "length" "I", .methodLink RX21 154 yX21_refused, .instanceMethod yX21_refused, .selects RX21 yX21_refused yX21_refused, .code yX21_refused cX21_refused 2 (some .boolean), .fieldLink RX21 144 "RegexloomModel" "refusal" "I"] ++ (u_ws RX21 TX21 32)
set_option maxRecDepth 20000 in
theorem in9_X21_longest_4_RX21 : ∀ w ∈ u_ws RX21 TX21 32, w ∈ w9_X21_longest_4 := by decide +kernel
set_option maxRecDepth 20000 in
theorem g9_X21_longest_4_0 : GoodIn w9_X21_longest_4 (wsV RX21 550 RX21 yX21_notRegular w9_X21_notRegular_4) := goodIn_r _ [1, 2, 3, 4, 5, 6, 7, 8, 4, 9, 10, 11, 12, 13, 19, 20, 21, 22, 23, 24, 25, 26, 27, 28, 29, 30, 31, 32, 33, 34, 35, 36, 37, 38, 39, 40, 41, 42, 43, 44, 45, 46, 47, 48, 49, 50] (by decide +kernel) (by decide +kernel)
set_option maxRecDepth 20000 in
theorem g9_X21_longest_4_1 : GoodIn w9_X21_longest_4 (wsV RX21 154 RX21 yX21_refused w9_X21_refused_2) := goodIn_r _ [14, 15, 16, 4, 17, 18, 19, 20, 21, 22, 23, 24, 25, 26, 27, 28, 29, 30, 31, 32, 33, 34, 35, 36, 37, 38, 39, 40, 41, 42, 43, 44, 45, 46, 47, 48, 49, 50] (by decide +kernel) (by decide +kernel)
set_option maxHeartbeats 4000000 in
set_option maxRecDepth 100000 in
theorem c9_X21_longest_4 (l : Launch) (g : G9) (h0 h1 h2 h3 h4 h5 h6 h7 h8 h9 h10 h11 h12 h13 h14 h15 h16 sz : Nat) (v0 v1 : Int32) (k_v0 : 0 ≤ v0.toInt ∧ v0.toInt ≤ 3) (k_v1 : 1 ≤ v1.toInt ∧ v1.toInt ≤ 2147483647) : Met l yX21_longest w9_X21_longest_4 ({ frames := 3, cells := 0, slots := 0, locals := 68 }) (mP g [(h0, .inr (22, [.int 0, .ref h1, .int 0, .ref h2, .int 0, .ref h3, .int 250, .ref h4, .int 0, .ref h5, .ref h6, .ref h7, .int 0, .ref h8, .ref h9, .ref h10, .int 0, .null, .int 0, .null, .int 0, .int 0, .int 0, .ref h11, .int 0, .ref h12, .ref h13, .ref h14, .int 0, .ref h15, .ref h16, .int 0]))] sz [.ref h0, .int v0, .int v1]) (va_Qi (fun (r : Int32) (_ : Unit) => r = 0) (fun (_ : Unit) (t : State) => mB g [(h0, .inr (22, [.int 0, .ref h1, .int 0, .ref h2, .int 0, .ref h3, .int 250, .ref h4, .int 0, .ref h5, .ref h6, .ref h7, .int 0, .ref h8, .ref h9, .ref h10, .int 0, .null, .int 0, .null, .int 0, .int 0, .int 0, .ref h11, .int 0, .ref h12, .ref h13, .ref h14, .int 0, .ref h15, .ref h16, .int 0]))] sz [(h0, .inr (22, [.int 1, .ref h1, .int 0, .ref h2, .int 0, .ref h3, .int 250, .ref h4, .int 0, .ref h5, .ref h6, .ref h7, .int 0, .ref h8, .ref h9, .ref h10, .int 0, .null, .int 0, .null, .int 0, .int 0, .int 0, .ref h11, .int 0, .ref h12, .ref h13, .ref h14, .int 0, .ref h15, .ref h16, .int 0]))] t) (va_A [(h0, .inr (22, [.int 0, .ref h1, .int 0, .ref h2, .int 0, .ref h3, .int 250, .ref h4, .int 0, .ref h5, .ref h6, .ref h7, .int 0, .ref h8, .ref h9, .ref h10, .int 0, .null, .int 0, .null, .int 0, .int 0, .int 0, .ref h11, .int 0, .ref h12, .ref h13, .ref h14, .int 0, .ref h15, .ref h16, .int 0]))] sz)) 0 0 (va_A [(h0, .inr (22, [.int 0, .ref h1, .int 0, .ref h2, .int 0, .ref h3, .int 250, .ref h4, .int 0, .ref h5, .ref h6, .ref h7, .int 0, .ref h8, .ref h9, .ref h10, .int 0, .null, .int 0, .null, .int 0, .int 0, .int 0, .ref h11, .int 0, .ref h12, .ref h13, .ref h14, .int 0, .ref h15, .ref h16, .int 0]))] sz) := by
  refine Met.ofW (cc := cX21_longest) (maxL := 10) (ret := (some .int)) (by decide) rfl ?_
  intro p e s m args below meth c s₁ B hml hv
  obtain ⟨rfl, hsz, hP, hD0, hE⟩ := hv
  have hx := B.exec
  have hb := B.bytes
  have hr := B.returns
  have hts := atoms_spec (ws := w9_X21_longest_4) B.pre
  have hown : s.vm.findClass RX21 = some m.cls := findClass_of_methodNamed B.named
  have hlocks := B.notSynchronized
  subst hsz
  have hD := hD0.self (sz := s.heap.size)
  generalize hAe : va_A [(h0, .inr (22, [.int 0, .ref h1, .int 0, .ref h2, .int 0, .ref h3, .int 250, .ref h4, .int 0, .ref h5, .ref h6, .ref h7, .int 0, .ref h8, .ref h9, .ref h10, .int 0, .null, .int 0, .null, .int 0, .int 0, .int 0, .ref h11, .int 0, .ref h12, .ref h13, .ref h14, .int 0, .ref h15, .ref h16, .int 0]))] s.heap.size = A at hD hE ⊢
  have hA : ∀ q : Nat, s.heap.size ≤ q → A q := fun q h => by rw [← hAe]; exact Or.inr h
  have hK := hE.1
  have hS : va_S A s.heap s.heap [] := va_S.rf
  replace hP : va_P g.1 vwCl [(h0, .inr (22, [.int 0, .ref h1, .int 0, .ref h2, .int 0, .ref h3, .int 250, .ref h4, .int 0, .ref h5, .ref h6, .ref h7, .int 0, .ref h8, .ref h9, .ref h10, .int 0, .null, .int 0, .null, .int 0, .int 0, .int 0, .ref h11, .int 0, .ref h12, .ref h13, .ref h14, .int 0, .ref h15, .ref h16, .int 0]))] s.heap := hP
  have hl := lv_entry ([.ref h0, .int v0, .int v1]) (n := 10) (Nat.le_of_ble_eq_true rfl)
  rw [lg_entry_eq]
  generalize (lg_sl ([.ref h0, .int v0, .int v1]) ++ List.replicate (10 - (lg_sl ([.ref h0, .int v0, .int v1])).length) Slot.unset).toArray = ls at hl ⊢
  replace hl : lv_has ls 10 [(0, .ref h0), (1, .int v0), (2, .int v1)] := hl
  have hH0 : s.heap.size ≤ s.heap.size := Nat.le_refl _
  refine lv_aload_n hx hb dX21_longest_0 rfl (lv_at hl 0 rfl) ?_
  refine lv_aload_n hx hb dX21_longest_1 rfl (lv_at hl 0 rfl) ?_
  refine lv_iload_n hx hb dX21_longest_2 rfl (lv_at hl 1 rfl) ?_
  refine lv_iload_n hx hb dX21_longest_3 rfl (lv_at hl 2 rfl) ?_
  have hPc := hP.sub (ws' := [(h0, .inr (22, [.int 0, .ref h1, .int 0, .ref h2, .int 0, .ref h3, .int 250, .ref h4, .int 0, .ref h5, .ref h6, .ref h7, .int 0, .ref h8, .ref h9, .ref h10, .int 0, .null, .int 0, .null, .int 0, .int 0, .int 0, .ref h11, .int 0, .ref h12, .ref h13, .ref h14, .int 0, .ref h15, .ref h16, .int 0]))]) [0] rfl
  have hDc := hD.sub (ws' := [(h0, .inr (22, [.int 0, .ref h1, .int 0, .ref h2, .int 0, .ref h3, .int 250, .ref h4, .int 0, .ref h5, .ref h6, .ref h7, .int 0, .ref h8, .ref h9, .ref h10, .int 0, .null, .int 0, .null, .int 0, .int 0, .int 0, .ref h11, .int 0, .ref h12, .ref h13, .ref h14, .int 0, .ref h15, .ref h16, .int 0]))]) [0] (by decide) rfl
  have hFc := va_free (wc := [(h0, .inr (22, [.int 0, .ref h1, .int 0, .ref h2, .int 0, .ref h3, .int 250, .ref h4, .int 0, .ref h5, .ref h6, .ref h7, .int 0, .ref h8, .ref h9, .ref h10, .int 0, .null, .int 0, .null, .int 0, .int 0, .int 0, .ref h11, .int 0, .ref h12, .ref h13, .ref h14, .int 0, .ref h15, .ref h16, .int 0]))]) hD hS hA [0] rfl
  refine va_calli (va_runV (As := [.int v0, .int v1]) (rest := [.ref h0]) ⟨hx, hb, hml, hown, hts⟩ (c9_X21_notRegular_4 l g h0 h1 h2 h3 h4 h5 h6 h7 h8 h9 h10 h11 h12 h13 h14 h15 h16 _ v0 v1 (by omega) (by omega)) (cwV 2 hts g9_X21_longest_4_0 rfl rfl rfl (by decide +kernel) ⟨Nat.le_of_ble_eq_true rfl, Nat.le_of_ble_eq_true rfl⟩) (mPreV (g := g) (wc := [(h0, .inr (22, [.int 0, .ref h1, .int 0, .ref h2, .int 0, .ref h3, .int 250, .ref h4, .int 0, .ref h5, .ref h6, .ref h7, .int 0, .ref h8, .ref h9, .ref h10, .int 0, .null, .int 0, .null, .int 0, .int 0, .int 0, .ref h11, .int 0, .ref h12, .ref h13, .ref h14, .int 0, .ref h15, .ref h16, .int 0]))]) (C := RX21) (ci := 22) (q0 := 0) hE hS hPc hDc hFc rfl rfl) rfl rfl hl.1 rfl (lv_room (Nat.le_of_ble_eq_true rfl)) dX21_longest_4 ⟨Nat.le_of_ble_eq_true rfl, Nat.le_of_ble_eq_true rfl⟩) hS (fun q _ h => hFc q h) hFc (fun r_1 u t H1 locs ht hvm hw hB hz1 hk1 hS => ?_)
  replace hw : 1 = r_1 := Eq.symm hw
  subst hw
  obtain ⟨hP1, hD1⟩ := hB
  rw [ht] at hP1
  obtain ⟨hP, hD⟩ := va_join (wr := []) (w1 := [(h0, .inr (22, [.int 0, .ref h1, .int 0, .ref h2, .int 0, .ref h3, .int 250, .ref h4, .int 0, .ref h5, .ref h6, .ref h7, .int 0, .ref h8, .ref h9, .ref h10, .int 0, .null, .int 0, .null, .int 0, .int 0, .int 0, .ref h11, .int 0, .ref h12, .ref h13, .ref h14, .int 0, .ref h15, .ref h16, .int 0]))]) hP hD [0] [] rfl rfl (by decide) (by decide) hk1 hFc hP1 hD1
  clear hP1 hD1 hPc hDc hFc hk1 hz1 hvm ht
  generalize H1 = H at hP hS ⊢
  have hP : va_P g.1 vwCl [(h0, .inr (22, [.int 0, .ref h1, .int 0, .ref h2, .int 0, .ref h3, .int 250, .ref h4, .int 0, .ref h5, .ref h6, .ref h7, .int 0, .ref h8, .ref h9, .ref h10, .int 0, .null, .int 0, .null, .int 0, .int 0, .int 0, .ref h11, .int 0, .ref h12, .ref h13, .ref h14, .int 0, .ref h15, .ref h16, .int 0]))] H := hP
  have hD : va_D A [(h0, .inr (22, [.int 0, .ref h1, .int 0, .ref h2, .int 0, .ref h3, .int 250, .ref h4, .int 0, .ref h5, .ref h6, .ref h7, .int 0, .ref h8, .ref h9, .ref h10, .int 0, .null, .int 0, .null, .int 0, .int 0, .int 0, .ref h11, .int 0, .ref h12, .ref h13, .ref h14, .int 0, .ref h15, .ref h16, .int 0]))] := hD
  have hPc := hP.sub (ws' := [(h0, .inr (22, [.int 0, .ref h1, .int 0, .ref h2, .int 0, .ref h3, .int 250, .ref h4, .int 0, .ref h5, .ref h6, .ref h7, .int 0, .ref h8, .ref h9, .ref h10, .int 0, .null, .int 0, .null, .int 0, .int 0, .int 0, .ref h11, .int 0, .ref h12, .ref h13, .ref h14, .int 0, .ref h15, .ref h16, .int 0]))]) [0] rfl
  have hDc := hD.sub (ws' := [(h0, .inr (22, [.int 0, .ref h1, .int 0, .ref h2, .int 0, .ref h3, .int 250, .ref h4, .int 0, .ref h5, .ref h6, .ref h7, .int 0, .ref h8, .ref h9, .ref h10, .int 0, .null, .int 0, .null, .int 0, .int 0, .int 0, .ref h11, .int 0, .ref h12, .ref h13, .ref h14, .int 0, .ref h15, .ref h16, .int 0]))]) [0] (by decide) rfl
  have hFc := va_free (wc := [(h0, .inr (22, [.int 0, .ref h1, .int 0, .ref h2, .int 0, .ref h3, .int 250, .ref h4, .int 0, .ref h5, .ref h6, .ref h7, .int 0, .ref h8, .ref h9, .ref h10, .int 0, .null, .int 0, .null, .int 0, .int 0, .int 0, .ref h11, .int 0, .ref h12, .ref h13, .ref h14, .int 0, .ref h15, .ref h16, .int 0]))]) hD hS hA [0] rfl
  refine va_calli (va_runV (As := [.int 1]) (rest := []) ⟨hx, hb, hml, hown, hts⟩ (c9_X21_refused_2 l g h0 h1 h2 h3 h4 h5 h6 h7 h8 h9 h10 h11 h12 h13 h14 h15 h16 _) (cwV 1 hts g9_X21_longest_4_1 rfl rfl rfl (by decide +kernel) ⟨Nat.le_of_ble_eq_true rfl, Nat.le_of_ble_eq_true rfl⟩) (mPreV (g := g) (wc := [(h0, .inr (22, [.int 0, .ref h1, .int 0, .ref h2, .int 0, .ref h3, .int 250, .ref h4, .int 0, .ref h5, .ref h6, .ref h7, .int 0, .ref h8, .ref h9, .ref h10, .int 0, .null, .int 0, .null, .int 0, .int 0, .int 0, .ref h11, .int 0, .ref h12, .ref h13, .ref h14, .int 0, .ref h15, .ref h16, .int 0]))]) (C := RX21) (ci := 22) (q0 := 0) hE hS hPc hDc hFc rfl rfl) rfl rfl hl.1 rfl (lv_room (Nat.le_of_ble_eq_true rfl)) dX21_longest_7 ⟨Nat.le_of_ble_eq_true rfl, Nat.le_of_ble_eq_true rfl⟩) hS (fun q _ h => hFc q h) hFc (fun r_2 u t H1 locs ht hvm hw hB hz1 hk1 hS => ?_)
  replace hw : 1 = r_2 := Eq.symm hw
  subst hw
  obtain ⟨hP1, hD1⟩ := hB
  rw [ht] at hP1
  obtain ⟨hP, hD⟩ := va_join (wr := []) (w1 := [(h0, .inr (22, [.int 1, .ref h1, .int 0, .ref h2, .int 0, .ref h3, .int 250, .ref h4, .int 0, .ref h5, .ref h6, .ref h7, .int 0, .ref h8, .ref h9, .ref h10, .int 0, .null, .int 0, .null, .int 0, .int 0, .int 0, .ref h11, .int 0, .ref h12, .ref h13, .ref h14, .int 0, .ref h15, .ref h16, .int 0]))]) hP hD [0] [] rfl rfl (by decide) (by decide) hk1 hFc hP1 hD1
  clear hP1 hD1 hPc hDc hFc hk1 hz1 hvm ht
  generalize H1 = H at hP hS ⊢
  have hP : va_P g.1 vwCl [(h0, .inr (22, [.int 1, .ref h1, .int 0, .ref h2, .int 0, .ref h3, .int 250, .ref h4, .int 0, .ref h5, .ref h6, .ref h7, .int 0, .ref h8, .ref h9, .ref h10, .int 0, .null, .int 0, .null, .int 0, .int 0, .int 0, .ref h11, .int 0, .ref h12, .ref h13, .ref h14, .int 0, .ref h15, .ref h16, .int 0]))] H := hP
  have hD : va_D A [(h0, .inr (22, [.int 1, .ref h1, .int 0, .ref h2, .int 0, .ref h3, .int 250, .ref h4, .int 0, .ref h5, .ref h6, .ref h7, .int 0, .ref h8, .ref h9, .ref h10, .int 0, .null, .int 0, .null, .int 0, .int 0, .int 0, .ref h11, .int 0, .ref h12, .ref h13, .ref h14, .int 0, .ref h15, .ref h16, .int 0]))] := hD
  refine lv_if_eq (tgt := 15) hx hb dX21_longest_10 (by decide) (fun c9 => absurd c9 (by decide)) (fun _ => ?_)
  refine lv_iconst (v := 0) hx hb dX21_longest_13 (by decide) ?_
  have hP9 := hP.sub (ws' := [(h0, .inr (22, [.int 1, .ref h1, .int 0, .ref h2, .int 0, .ref h3, .int 250, .ref h4, .int 0, .ref h5, .ref h6, .ref h7, .int 0, .ref h8, .ref h9, .ref h10, .int 0, .null, .int 0, .null, .int 0, .int 0, .int 0, .ref h11, .int 0, .ref h12, .ref h13, .ref h14, .int 0, .ref h15, .ref h16, .int 0]))]) [0] rfl
  have hD9 := hD.sub (ws' := [(h0, .inr (22, [.int 1, .ref h1, .int 0, .ref h2, .int 0, .ref h3, .int 250, .ref h4, .int 0, .ref h5, .ref h6, .ref h7, .int 0, .ref h8, .ref h9, .ref h10, .int 0, .null, .int 0, .null, .int 0, .int 0, .int 0, .ref h11, .int 0, .ref h12, .ref h13, .ref h14, .int 0, .ref h15, .ref h16, .int 0]))]) [0] (by decide) rfl
  subst hAe
  exact W.iret (v := 0) hx hb hr (fun t ht hW => ⟨⟨0, (), rfl, rfl, by rw [ht]; exact hP9, hD9⟩, hS.F ht⟩) hS.2.2 dX21_longest_14
def w9_X11_needRegular_1 : List Cond := [.code yX11_needRegular cX11_needRegular 2 none, .methodLink RX11 168 yX11_toldOne, .instanceMethod yX11_toldOne, .selects RX11 yX11_toldOne yX11_toldOne, .initialized RX11, .code yX11_toldOne cX11_toldOne 2 (some (.object "Regexloom$Pattern")), .fieldLink RX11 22 "Regexloom" "patterns" "[LRegexloom$Pattern;", .fieldLink RX11 133 "Regexloom$Pattern" "isTold" "Z", .initialized "java/lang/Throwable", .superclass "java/lang/Throwable" "java/lang/Object", .instanceMethod Bundle.tFill, .codeSync Bundle.tFill LibCode.Throwable.Fill.code 1 (some (.object "java/lang/Throwable")), .instanceMethod Bundle.tFill0, .native Bundle.tFill0, .instanceMethod Bundle.tInit0, .code Bundle.tInit0 LibCode.Throwable.Init0.code 1 none, .instanceMethod Bundle.oInit, .code Bundle.oInit ⟨#[0xb1]⟩ 1 none, .methodLink "java/lang/Throwable" 1 Bundle.oInit, .methodLink "java/lang/Throwable" 27 Bundle.tFill, .methodLink "java/lang/Throwable" 202 Bundle.tFill0, .fieldLink "java/lang/Throwable" 7 "java/lang/Throwable" "cause" "Ljava/lang/Throwable;", .lays "java/lang/Throwable" "java/lang/Throwable" "cause" "Ljava/lang/Throwable;", .fieldLink "java/lang/Throwable" 17 "java/lang/Throwable" "stackTrace" "[Ljava/lang/StackTraceElement;", .lays "java/lang/Throwable" "java/lang/Throwable" "stackTrace" "[Ljava/lang/StackTraceElement;", .fieldLink "java/lang/Throwable" 24 "java/lang/Throwable" "suppressedExceptions" "Ljava/util/List;", .lays "java/lang/Throwable" "java/lang/Throwable" "suppressedExceptions" "Ljava/util/List;", .fieldLink "java/lang/Throwable" 13 "java/lang/Throwable" "UNASSIGNED_STACK" "[Ljava/lang/StackTraceElement;", .fieldLink "java/lang/Throwable" 20 "java/lang/Throwable" "SUPPRESSED_SENTINEL" "Ljava/util/List;", .lays "java/lang/Throwable" "java/lang/Throwable" "detailMessage" "Ljava/lang/String;", .instanceMethod (Bundle.initS "java/lang/Throwable"), .code (Bundle.initS "java/lang/Throwable") LibCode.Throwable.InitS.code 2 none, .fieldLink "java/lang/Throwable" 31 "java/lang/Throwable" "detailMessage" "Ljava/lang/String;", .instanceMethod (Bundle.initS "java/lang/IllegalStateException"), .code (Bundle.initS "java/lang/IllegalStateException") Bundle.six 2 none, .methodLink "java/lang/IllegalStateException" 7 (Bundle.initS "java/lang/RuntimeException"), .instanceMethod (Bundle.initS "java/lang/RuntimeException"), .code (Bundle.initS "java/lang/RuntimeException") Bundle.six 2 none, .methodLink "java/lang/RuntimeException" 7 (Bundle.initS "java/lang/Exception"), .instanceMethod (Bundle.initS "java/lang/Exception"), .code (Bundle.initS "java/lang/Exception") Bundle.six 2 none, .methodLink "java/lang/Exception" 7 (Bundle.initS "java/lang/Throwable"), .methodLink RX11 123 (Bundle.initS "java/lang/IllegalStateException"), .instantiable "java/lang/IllegalStateException" 6, .selects "java/lang/IllegalStateException" Bundle.tFill0 Bundle.tFill0, .selects "java/lang/IllegalStateException" Bundle.tFill Bundle.tFill, .lays "java/lang/IllegalStateException" "java/lang/Throwable" "cause" "Ljava/lang/Throwable;", .lays "java/lang/IllegalStateException" "java/lang/Throwable" "stackTrace" "[Ljava/lang/StackTraceElement;", .lays "java/lang/IllegalStateException" "java/lang/Throwable" "suppressedExceptions" "Ljava/util/List;", .lays "java/lang/IllegalStateException" "java/lang/Throwable" "detailMessage" "Ljava/lang/String;", .fieldLink "java/lang/Throwable" 198 "java/lang/Throwable" "backtrace" "Ljava/lang/Object;", .lays "java/lang/Throwable" "java/lang/Throwable" "backtrace" "Ljava/lang/Object;", .lays "java/lang/IllegalStateException" "java/lang/Throwable" "backtrace" "Ljava/lang/Object;", .classLink RX11 119 "java/lang/IllegalStateException", .initialized "java/lang/IllegalStateException"] ++ (u_ws RX11 TX11 17 ++ u_ws RX3 TX3 8)
set_option maxRecDepth 20000 in
theorem in9_X11_needRegular_1_RX11 : ∀ w ∈ u_ws RX11 TX11 17, w ∈ w9_X11_needRegular_1 := by decide +kernel
set_option maxRecDepth 20000 in
theorem in9_X11_needRegular_1_RX3 : ∀ w ∈ u_ws RX3 TX3 8, w ∈ w9_X11_needRegular_1 := by decide +kernel
set_option maxRecDepth 20000 in
theorem g9_X11_needRegular_1_0 : GoodIn w9_X11_needRegular_1 (wsV RX11 168 RX11 yX11_toldOne w9_X11_toldOne_1) := goodIn_r _ [1, 2, 3, 4, 5, 6, 7, 8, 9, 10, 11, 12, 13, 14, 15, 16, 17, 18, 19, 20, 21, 22, 23, 24, 25, 26, 27, 28, 29, 30, 31, 32, 33, 34, 35, 36, 37, 38, 39, 40, 41, 42, 43, 44, 45, 46, 47, 48, 49, 50, 51, 52, 53, 54, 55, 56, 57, 58, 59, 60, 61, 62, 63, 64, 65, 66, 67, 68, 69, 70, 71, 72, 73, 74, 75, 76, 77, 78, 79] (by decide +kernel) (by decide +kernel)
set_option maxHeartbeats 4000000 in
set_option maxRecDepth 100000 in
theorem c9_X11_needRegular_1 (l : Launch) (hlt : l.stackTraces = false) (g : G9) (h0 h1 h2 h3 h4 h5 h6 h7 h8 h9 h10 h11 h12 h13 h14 h15 h16 h17 h18 h19 h20 h21 h22 h23 h24 h25 h26 h27 h28 h29 sz : Nat) (v0 : Int32) (k_v0 : 0 ≤ v0.toInt ∧ v0.toInt ≤ 3) : vx_Met l yX11_needRegular w9_X11_needRegular_1 ({ frames := 7, cells := 1, slots := 6, locals := 103 }) (mP g [(h1, .inl (g.2.1 3, 4, .inr (.inr (.inr (.inr (va_up (va_up (va_up (va_up (fun _ => none) 0 (some h2)) 1 (some h3)) 2 (some h4)) 3 (some h5))))))), (h2, .inr (6, [.ref h6, .ref h7, .ref h8, .int 0, .int 0, .int 0, .int 0, .int 0])), (h3, .inr (6, [.ref h9, .ref h10, .ref h11, .int 0, .int 0, .int 0, .int 0, .int 0])), (h4, .inr (6, [.ref h12, .ref h13, .ref h14, .int 0, .int 0, .int 0, .int 0, .int 0])), (h5, .inr (6, [.ref h15, .ref h16, .ref h17, .int 0, .int 0, .int 0, .int 0, .int 0])), (h0, .inr (12, [.ref h18, .int 0, .ref h19, .ref h1, .ref h20, .ref h21, .ref h22, .ref h23, .int (-1), .ref h24, .ref h25, .int 250, .ref h26, .int 0, .ref h27, .ref h28, .ref h29]))] sz [.ref h0, .int v0]) (va_Qv (fun _ : Unit => False) (fun _ _ => True) (va_A [(h1, .inl (g.2.1 3, 4, .inr (.inr (.inr (.inr (va_up (va_up (va_up (va_up (fun _ => none) 0 (some h2)) 1 (some h3)) 2 (some h4)) 3 (some h5))))))), (h2, .inr (6, [.ref h6, .ref h7, .ref h8, .int 0, .int 0, .int 0, .int 0, .int 0])), (h3, .inr (6, [.ref h9, .ref h10, .ref h11, .int 0, .int 0, .int 0, .int 0, .int 0])), (h4, .inr (6, [.ref h12, .ref h13, .ref h14, .int 0, .int 0, .int 0, .int 0, .int 0])), (h5, .inr (6, [.ref h15, .ref h16, .ref h17, .int 0, .int 0, .int 0, .int 0, .int 0])), (h0, .inr (12, [.ref h18, .int 0, .ref h19, .ref h1, .ref h20, .ref h21, .ref h22, .ref h23, .int (-1), .ref h24, .ref h25, .int 250, .ref h26, .int 0, .ref h27, .ref h28, .ref h29]))] sz)) (mT g [(h1, .inl (g.2.1 3, 4, .inr (.inr (.inr (.inr (va_up (va_up (va_up (va_up (fun _ => none) 0 (some h2)) 1 (some h3)) 2 (some h4)) 3 (some h5))))))), (h2, .inr (6, [.ref h6, .ref h7, .ref h8, .int 0, .int 0, .int 0, .int 0, .int 0])), (h3, .inr (6, [.ref h9, .ref h10, .ref h11, .int 0, .int 0, .int 0, .int 0, .int 0])), (h4, .inr (6, [.ref h12, .ref h13, .ref h14, .int 0, .int 0, .int 0, .int 0, .int 0])), (h5, .inr (6, [.ref h15, .ref h16, .ref h17, .int 0, .int 0, .int 0, .int 0, .int 0])), (h0, .inr (12, [.ref h18, .int 0, .ref h19, .ref h1, .ref h20, .ref h21, .ref h22, .ref h23, .int (-1), .ref h24, .ref h25, .int 250, .ref h26, .int 0, .ref h27, .ref h28, .ref h29]))] sz "java/lang/IllegalStateException") 1 6 (va_A [(h1, .inl (g.2.1 3, 4, .inr (.inr (.inr (.inr (va_up (va_up (va_up (va_up (fun _ => none) 0 (some h2)) 1 (some h3)) 2 (some h4)) 3 (some h5))))))), (h2, .inr (6, [.ref h6, .ref h7, .ref h8, .int 0, .int 0, .int 0, .int 0, .int 0])), (h3, .inr (6, [.ref h9, .ref h10, .ref h11, .int 0, .int 0, .int 0, .int 0, .int 0])), (h4, .inr (6, [.ref h12, .ref h13, .ref h14, .int 0, .int 0, .int 0, .int 0, .int 0])), (h5, .inr (6, [.ref h15, .ref h16, .ref h17, .int 0, .int 0, .int 0, .int 0, .int 0])), (h0, .inr (12, [.ref h18, .int 0, .ref h19, .ref h1, .ref h20, .ref h21, .ref h22, .ref h23, .int (-1), .ref h24, .ref h25, .int 250, .ref h26, .int 0, .ref h27, .ref h28, .ref h29]))] sz) := by
  refine vx_ofW (cc := cX11_needRegular) (maxL := 2) (ret := none) (by decide) rfl ?_
  intro p e s m args below meth c s₁ B hml hno hv
  obtain ⟨rfl, hsz, hP, hD0, hE⟩ := hv
  have hx := B.exec
  have hb := B.bytes
  have hr := B.returns
  have hts := atoms_spec (ws := w9_X11_needRegular_1) B.pre
  have hown : s.vm.findClass RX11 = some m.cls := findClass_of_methodNamed B.named
  have hlocks := B.notSynchronized
  subst hsz
  have hD := hD0.self (sz := s.heap.size)
  generalize hAe : va_A [(h1, .inl (g.2.1 3, 4, .inr (.inr (.inr (.inr (va_up (va_up (va_up (va_up (fun _ => none) 0 (some h2)) 1 (some h3)) 2 (some h4)) 3 (some h5))))))), (h2, .inr (6, [.ref h6, .ref h7, .ref h8, .int 0, .int 0, .int 0, .int 0, .int 0])), (h3, .inr (6, [.ref h9, .ref h10, .ref h11, .int 0, .int 0, .int 0, .int 0, .int 0])), (h4, .inr (6, [.ref h12, .ref h13, .ref h14, .int 0, .int 0, .int 0, .int 0, .int 0])), (h5, .inr (6, [.ref h15, .ref h16, .ref h17, .int 0, .int 0, .int 0, .int 0, .int 0])), (h0, .inr (12, [.ref h18, .int 0, .ref h19, .ref h1, .ref h20, .ref h21, .ref h22, .ref h23, .int (-1), .ref h24, .ref h25, .int 250, .ref h26, .int 0, .ref h27, .ref h28, .ref h29]))] s.heap.size = A at hD hE ⊢
  have hA : ∀ q : Nat, s.heap.size ≤ q → A q := fun q h => by rw [← hAe]; exact Or.inr h
  have hK := hE.1
  have hS : va_S A s.heap s.heap [] := va_S.rf
  replace hP : va_P g.1 vwCl [(h1, .inl (g.2.1 3, 4, .inr (.inr (.inr (.inr (va_up (va_up (va_up (va_up (fun _ => none) 0 (some h2)) 1 (some h3)) 2 (some h4)) 3 (some h5))))))), (h2, .inr (6, [.ref h6, .ref h7, .ref h8, .int 0, .int 0, .int 0, .int 0, .int 0])), (h3, .inr (6, [.ref h9, .ref h10, .ref h11, .int 0, .int 0, .int 0, .int 0, .int 0])), (h4, .inr (6, [.ref h12, .ref h13, .ref h14, .int 0, .int 0, .int 0, .int 0, .int 0])), (h5, .inr (6, [.ref h15, .ref h16, .ref h17, .int 0, .int 0, .int 0, .int 0, .int 0])), (h0, .inr (12, [.ref h18, .int 0, .ref h19, .ref h1, .ref h20, .ref h21, .ref h22, .ref h23, .int (-1), .ref h24, .ref h25, .int 250, .ref h26, .int 0, .ref h27, .ref h28, .ref h29]))] s.heap := hP
  have hl := lv_entry ([.ref h0, .int v0]) (n := 2) (Nat.le_of_ble_eq_true rfl)
  rw [lg_entry_eq]
  generalize (lg_sl ([.ref h0, .int v0]) ++ List.replicate (2 - (lg_sl ([.ref h0, .int v0])).length) Slot.unset).toArray = ls at hl ⊢
  replace hl : lv_has ls 2 [(0, .ref h0), (1, .int v0)] := hl
  have hH0 : s.heap.size ≤ s.heap.size := Nat.le_refl _
  refine lv_aload_n hx hb dX11_needRegular_0 rfl (lv_at hl 0 rfl) ?_
  refine lv_iload_n hx hb dX11_needRegular_1 rfl (lv_at hl 1 rfl) ?_
  have hPc := hP.sub (ws' := [(h1, .inl (g.2.1 3, 4, .inr (.inr (.inr (.inr (va_up (va_up (va_up (va_up (fun _ => none) 0 (some h2)) 1 (some h3)) 2 (some h4)) 3 (some h5))))))), (h2, .inr (6, [.ref h6, .ref h7, .ref h8, .int 0, .int 0, .int 0, .int 0, .int 0])), (h3, .inr (6, [.ref h9, .ref h10, .ref h11, .int 0, .int 0, .int 0, .int 0, .int 0])), (h4, .inr (6, [.ref h12, .ref h13, .ref h14, .int 0, .int 0, .int 0, .int 0, .int 0])), (h5, .inr (6, [.ref h15, .ref h16, .ref h17, .int 0, .int 0, .int 0, .int 0, .int 0])), (h0, .inr (12, [.ref h18, .int 0, .ref h19, .ref h1, .ref h20, .ref h21, .ref h22, .ref h23, .int (-1), .ref h24, .ref h25, .int 250, .ref h26, .int 0, .ref h27, .ref h28, .ref h29]))]) [0, 1, 2, 3, 4, 5] rfl
  have hDc := hD.sub (ws' := [(h1, .inl (g.2.1 3, 4, .inr (.inr (.inr (.inr (va_up (va_up (va_up (va_up (fun _ => none) 0 (some h2)) 1 (some h3)) 2 (some h4)) 3 (some h5))))))), (h2, .inr (6, [.ref h6, .ref h7, .ref h8, .int 0, .int 0, .int 0, .int 0, .int 0])), (h3, .inr (6, [.ref h9, .ref h10, .ref h11, .int 0, .int 0, .int 0, .int 0, .int 0])), (h4, .inr (6, [.ref h12, .ref h13, .ref h14, .int 0, .int 0, .int 0, .int 0, .int 0])), (h5, .inr (6, [.ref h15, .ref h16, .ref h17, .int 0, .int 0, .int 0, .int 0, .int 0])), (h0, .inr (12, [.ref h18, .int 0, .ref h19, .ref h1, .ref h20, .ref h21, .ref h22, .ref h23, .int (-1), .ref h24, .ref h25, .int 250, .ref h26, .int 0, .ref h27, .ref h28, .ref h29]))]) [0, 1, 2, 3, 4, 5] (by decide) rfl
  have hFc := va_free (wc := [(h1, .inl (g.2.1 3, 4, .inr (.inr (.inr (.inr (va_up (va_up (va_up (va_up (fun _ => none) 0 (some h2)) 1 (some h3)) 2 (some h4)) 3 (some h5))))))), (h2, .inr (6, [.ref h6, .ref h7, .ref h8, .int 0, .int 0, .int 0, .int 0, .int 0])), (h3, .inr (6, [.ref h9, .ref h10, .ref h11, .int 0, .int 0, .int 0, .int 0, .int 0])), (h4, .inr (6, [.ref h12, .ref h13, .ref h14, .int 0, .int 0, .int 0, .int 0, .int 0])), (h5, .inr (6, [.ref h15, .ref h16, .ref h17, .int 0, .int 0, .int 0, .int 0, .int 0])), (h0, .inr (12, [.ref h18, .int 0, .ref h19, .ref h1, .ref h20, .ref h21, .ref h22, .ref h23, .int (-1), .ref h24, .ref h25, .int 250, .ref h26, .int 0, .ref h27, .ref h28, .ref h29]))]) hD hS hA [0, 1, 2, 3, 4, 5] rfl
  refine vx_callv (vx_runV (As := [.int v0]) (rest := []) ⟨hx, hb, hml, hown, hts⟩ (c9_X11_toldOne_1 l hlt g h0 h1 h2 h3 h4 h5 h6 h7 h8 h9 h10 h11 h12 h13 h14 h15 h16 h17 h18 h19 h20 h21 h22 h23 h24 h25 h26 h27 h28 h29 _ v0 (by omega)) (cwV 1 hts g9_X11_needRegular_1_0 rfl rfl rfl (by decide +kernel) ⟨Nat.le_of_ble_eq_true rfl, Nat.le_of_ble_eq_true rfl⟩) (mPreV (g := g) (wc := [(h1, .inl (g.2.1 3, 4, .inr (.inr (.inr (.inr (va_up (va_up (va_up (va_up (fun _ => none) 0 (some h2)) 1 (some h3)) 2 (some h4)) 3 (some h5))))))), (h2, .inr (6, [.ref h6, .ref h7, .ref h8, .int 0, .int 0, .int 0, .int 0, .int 0])), (h3, .inr (6, [.ref h9, .ref h10, .ref h11, .int 0, .int 0, .int 0, .int 0, .int 0])), (h4, .inr (6, [.ref h12, .ref h13, .ref h14, .int 0, .int 0, .int 0, .int 0, .int 0])), (h5, .inr (6, [.ref h15, .ref h16, .ref h17, .int 0, .int 0, .int 0, .int 0, .int 0])), (h0, .inr (12, [.ref h18, .int 0, .ref h19, .ref h1, .ref h20, .ref h21, .ref h22, .ref h23, .int (-1), .ref h24, .ref h25, .int 250, .ref h26, .int 0, .ref h27, .ref h28, .ref h29]))]) (C := RX11) (ci := 12) (q0 := 5) hE hS hPc hDc hFc rfl rfl) rfl rfl hl.1 rfl (lv_room (Nat.le_of_ble_eq_true rfl)) dX11_needRegular_2 ⟨Nat.le_of_ble_eq_true rfl, Nat.le_of_ble_eq_true rfl⟩) hS (fun q _ h => hFc q h) hFc (fun q _ h => hFc q h) (fun E9 ce q9 u t H locs ht hvm hw hB hz1 hk1 hS hc1 hc2 hc3 => ?_) (fun u t H1 locs ht hvm hw hB hz1 hk1 hS => hw.elim)
  replace hB : E9 = "java/lang/IllegalStateException" := hB
  subst hB
  exact vx_out (fun z hz => (hno z hz).elim) hlocks hc1 hc2 hc3 (fun t ht hW => ⟨(), trivial, rfl, by subst hAe; exact hS.F ht⟩) (by subst hAe; exact hS.2.2) (Nat.le_of_ble_eq_true rfl) (Nat.le_of_ble_eq_true rfl)
def w9_X11_longest_5 : List Cond := [.code yX11_longest cX11_longest 3 (some .int), .methodLink RX11 124 yX11_needPattern, .instanceMethod yX11_needPattern, .selects RX11 yX11_needPattern yX11_needPattern, .initialized RX11, .code yX11_needPattern cX11_needPattern 2 none, .methodLink RX11 180 yX11_needPlace, .instanceMethod yX11_needPlace, .selects RX11 yX11_needPlace yX11_needPlace, .code yX11_needPlace cX11_needPlace 2 none, .fieldLink RX11 16 "Regexloom" "text" "LRegexloom$Text;", .methodLink RX11 146 yX10_size, .instanceMethod yX10_size, .selects RX10 yX10_size yX10_size, .initialized RX10, .code yX10_size cX10_size 1 (some .int), .fieldLink RX10 14 "Regexloom$Text" "codes" "LRegexloom$Table;", .methodLink RX10 20 yX9_size, .instanceMethod yX9_size, .selects RX9 yX9_size yX9_size, .initialized RX9, .code yX9_size cX9_size 1 (some .int), .fieldLink RX9 28 "Regexloom$Table" "size" "I", .methodLink RX11 228 yX11_needRegular, .instanceMethod yX11_needRegular, .selects RX11 yX11_needRegular yX11_needRegular, .code yX11_needRegular cX11_needRegular 2 none, .methodLink RX11 168 yX11_toldOne, .instanceMethod yX11_toldOne, .selects RX11 yX11_toldOne yX11_toldOne, .code yX11_toldOne cX11_toldOne 2 (some (.object "Regexloom$Pattern")), .fieldLink RX11 22 "Regexloom" "patterns" "[LRegexloom$Pattern;", .fieldLink RX11 133 "Regexloom$Pattern" "isTold" "Z", .initialized "java/lang/Throwable", .superclass "java/lang/Throwable" "java/lang/Object", .instanceMethod Bundle.tFill, .codeSync Bundle.tFill LibCode.Throwable.Fill.code 1 (some (.object "java/lang/Throwable")), .instanceMethod Bundle.tFill0, .native Bundle.tFill0, .instanceMethod Bundle.tInit0, .code Bundle.tInit0 LibCode.Throwable.Init0.code 1 none, .instanceMethod Bundle.oInit, .code Bundle.oInit ⟨#[0xb1]⟩ 1 none, .methodLink "java/lang/Throwable" 1 Bundle.oInit, .methodLink "java/lang/Throwable" 27 Bundle.tFill, .methodLink "java/lang/Throwable" 202 Bundle.tFill0, .fieldLink "java/lang/Throwable" 7 "java/lang/Throwable" "cause" "Ljava/lang/Throwable;", .lays "java/lang/Throwable" "java/lang/Throwable" "cause" "Ljava/lang/Throwable;", .fieldLink "java/lang/Throwable" 17 "java/lang/Throwable" "stackTrace" "[Ljava/lang/StackTraceElement;", .lays "java/lang/Throwable" "java/lang/Throwable" "stackTrace" "[Ljava/lang/StackTraceElement;", .fieldLink "java/lang/Throwable" 24 "java/lang/Throwable" "suppressedExceptions" "Ljava/util/List;", .lays "java/lang/Throwable" "java/lang/Throwable" "suppressedExceptions" "Ljava/util/List;", .fieldLink "java/lang/Throwable" 13 "java/lang/Throwable" "UNASSIGNED_STACK" "[Ljava/lang/StackTraceElement;", .fieldLink "java/lang/Throwable" 20 "java/lang/Throwable" "SUPPRESSED_SENTINEL" "Ljava/util/List;", .lays "java/lang/Throwable" "java/lang/Throwable" "detailMessage" "Ljava/lang/String;", .instanceMethod (Bundle.initS "java/lang/Throwable"), .code (Bundle.initS "java/lang/Throwable") LibCode.Throwable.InitS.code 2 none, .fieldLink "java/lang/Throwable" 31 "java/lang/Throwable" "detailMessage" "Ljava/lang/String;", .instanceMethod (Bundle.initS "java/lang/IllegalStateException"), .code (Bundle.initS "java/lang/IllegalStateException") Bundle.six 2 none, .methodLink "java/lang/IllegalStateException" 7 (Bundle.initS "java/lang/RuntimeException"), .instanceMethod (Bundle.initS "java/lang/RuntimeException"), .code (Bundle.initS "java/lang/RuntimeException") Bundle.six 2 none, .methodLink "java/lang/RuntimeException" 7 (Bundle.initS "java/lang/Exception"), .instanceMethod (Bundle.initS "java/lang/Exception"), .code (Bundle.initS "java/lang/Exception") Bundle.six 2 none, .methodLink "java/lang/Exception" 7 (Bundle.initS "java/lang/Throwable"), .methodLink RX11 123 (Bundle.initS "java/lang/IllegalStateException"), .instantiable "java/lang/IllegalStateException" 6, .selects "java/lang/IllegalStateException" Bundle.tFill0 Bundle.tFill0, .selects "java/lang/IllegalStateException" Bundle.tFill Bundle.tFill, .lays "java/lang/IllegalStateException" "java/lang/Throwable" "cause" "Ljava/lang/Throwable;", .lays "java/lang/IllegalStateException" "java/lang/Throwable" "stackTrace" "[Ljava/lang/StackTraceElement;", .lays "java/lang/IllegalStateException" "java/lang/Throwable" "suppressedExceptions" "Ljava/util/List;", .lays "java/lang/IllegalStateException" "java/lang/Throwable" "detailMessage" "Ljava/lang/String;", .fieldLink "java/lang/Throwable" 198 "java/lang/Throwable" "backtrace" "Ljava/lang/Object;", .lays "java/lang/Throwable" "java/lang/Throwable" "backtrace" "Ljava/lang/Object;", .lays "java/lang/IllegalStateException" "java/lang/Throwable" "backtrace" "Ljava/lang/Object;", .classLink RX11 119 "java/lang/IllegalStateException", .initialized "java/lang/IllegalStateException"] ++ (u_ws RX11 TX11 17 ++ u_ws RX10 TX10 1 ++ u_ws RX9 TX9 4 ++ u_ws RX3 TX3 8)
set_option maxRecDepth 20000 in
theorem in9_X11_longest_5_RX11 : ∀ w ∈ u_ws RX11 TX11 17, w ∈ w9_X11_longest_5 := by decide +kernel
set_option maxRecDepth 20000 in
theorem in9_X11_longest_5_RX10 : ∀ w ∈ u_ws RX10 TX10 1, w ∈ w9_X11_longest_5 := by decide +kernel
set_option maxRecDepth 20000 in
theorem in9_X11_longest_5_RX9 : ∀ w ∈ u_ws RX9 TX9 4, w ∈ w9_X11_longest_5 := by decide +kernel
set_option maxRecDepth 20000 in
theorem in9_X11_longest_5_RX3 : ∀ w ∈ u_ws RX3 TX3 8, w ∈ w9_X11_longest_5 := by decide +kernel
set_option maxRecDepth 20000 in
theorem g9_X11_longest_5_0 : GoodIn w9_X11_longest_5 (wsV RX11 124 RX11 yX11_needPattern w9_X11_needPattern_7) := goodIn_r _ [1, 2, 3, 4, 5] (by decide +kernel) (by decide +kernel)
set_option maxRecDepth 20000 in
theorem g9_X11_longest_5_1 : GoodIn w9_X11_longest_5 (wsV RX11 180 RX11 yX11_needPlace w9_X11_needPlace_3) := goodIn_r _ [6, 7, 8, 4, 9, 10, 11, 12, 13, 14, 15, 16, 17, 18, 19, 20, 21, 22, 80, 81, 82, 83, 84, 85, 86, 87, 88, 89, 90, 91, 92, 93, 94, 95, 96, 97, 98, 99, 100, 101] (by decide +kernel) (by decide +kernel)
set_option maxRecDepth 20000 in
theorem g9_X11_longest_5_2 : GoodIn w9_X11_longest_5 (wsV RX11 228 RX11 yX11_needRegular w9_X11_needRegular_1) := goodIn_r _ [23, 24, 25, 4, 26, 27, 28, 29, 4, 30, 31, 32, 33, 34, 35, 36, 37, 38, 39, 40, 41, 42, 43, 44, 45, 46, 47, 48, 49, 50, 51, 52, 53, 54, 55, 56, 57, 58, 59, 60, 61, 62, 63, 64, 65, 66, 67, 68, 69, 70, 71, 72, 73, 74, 75, 76, 77, 78, 79, 80, 81, 82, 83, 84, 85, 86, 87, 88, 89, 90, 91, 92, 93, 94, 95, 96, 102, 103, 104, 105, 106, 107, 108, 109] (by decide +kernel) (by decide +kernel)
set_option maxHeartbeats 4000000 in
set_option maxRecDepth 100000 in
theorem c9_X11_longest_5 (l : Launch) (hlt : l.stackTraces = false) (g : G9) (h0 h1 h2 h3 h4 h5 h6 h7 h8 h9 h10 h11 h12 h13 h14 h15 h16 h17 h18 h19 h20 h21 h22 h23 h24 h25 h26 h27 h28 h29 h30 h31 sz : Nat) (v0 : Int32) (k_v0 : 0 ≤ v0.toInt ∧ v0.toInt ≤ 3) : vx_Met l yX11_longest w9_X11_longest_5 ({ frames := 8, cells := 1, slots := 6, locals := 124 }) (mP g [(h0, .inr (12, [.ref h1, .int 0, .ref h2, .ref h3, .ref h4, .ref h5, .ref h6, .ref h7, .int (-1), .ref h8, .ref h9, .int 250, .ref h10, .int 0, .ref h11, .ref h12, .ref h13])), (h2, .inr (11, [.ref h14])), (h14, .inr (10, [.int 1, .int 20, .ref h15, .int 0])), (h3, .inl (g.2.1 3, 4, .inr (.inr (.inr (.inr (va_up (va_up (va_up (va_up (fun _ => none) 0 (some h16)) 1 (some h17)) 2 (some h18)) 3 (some h19))))))), (h16, .inr (6, [.ref h20, .ref h21, .ref h22, .int 0, .int 0, .int 0, .int 0, .int 0])), (h17, .inr (6, [.ref h23, .ref h24, .ref h25, .int 0, .int 0, .int 0, .int 0, .int 0])), (h18, .inr (6, [.ref h26, .ref h27, .ref h28, .int 0, .int 0, .int 0, .int 0, .int 0])), (h19, .inr (6, [.ref h29, .ref h30, .ref h31, .int 0, .int 0, .int 0, .int 0, .int 0]))] sz [.ref h0, .int v0, .int 0]) (va_Qv (fun _ : Unit => False) (fun _ _ => True) (va_A [(h0, .inr (12, [.ref h1, .int 0, .ref h2, .ref h3, .ref h4, .ref h5, .ref h6, .ref h7, .int (-1), .ref h8, .ref h9, .int 250, .ref h10, .int 0, .ref h11, .ref h12, .ref h13])), (h2, .inr (11, [.ref h14])), (h14, .inr (10, [.int 1, .int 20, .ref h15, .int 0])), (h3, .inl (g.2.1 3, 4, .inr (.inr (.inr (.inr (va_up (va_up (va_up (va_up (fun _ => none) 0 (some h16)) 1 (some h17)) 2 (some h18)) 3 (some h19))))))), (h16, .inr (6, [.ref h20, .ref h21, .ref h22, .int 0, .int 0, .int 0, .int 0, .int 0])), (h17, .inr (6, [.ref h23, .ref h24, .ref h25, .int 0, .int 0, .int 0, .int 0, .int 0])), (h18, .inr (6, [.ref h26, .ref h27, .ref h28, .int 0, .int 0, .int 0, .int 0, .int 0])), (h19, .inr (6, [.ref h29, .ref h30, .ref h31, .int 0, .int 0, .int 0, .int 0, .int 0]))] sz)) (mT g [(h0, .inr (12, [.ref h1, .int 0, .ref h2, .ref h3, .ref h4, .ref h5, .ref h6, .ref h7, .int (-1), .ref h8, .ref h9, .int 250, .ref h10, .int 0, .ref h11, .ref h12, .ref h13])), (h2, .inr (11, [.ref h14])), (h14, .inr (10, [.int 1, .int 20, .ref h15, .int 0])), (h3, .inl (g.2.1 3, 4, .inr (.inr (.inr (.inr (va_up (va_up (va_up (va_up (fun _ => none) 0 (some h16)) 1 (some h17)) 2 (some h18)) 3 (some h19))))))), (h16, .inr (6, [.ref h20, .ref h21, .ref h22, .int 0, .int 0, .int 0, .int 0, .int 0])), (h17, .inr (6, [.ref h23, .ref h24, .ref h25, .int 0, .int 0, .int 0, .int 0, .int 0])), (h18, .inr (6, [.ref h26, .ref h27, .ref h28, .int 0, .int 0, .int 0, .int 0, .int 0])), (h19, .inr (6, [.ref h29, .ref h30, .ref h31, .int 0, .int 0, .int 0, .int 0, .int 0]))] sz "java/lang/IllegalStateException") 1 6 (va_A [(h0, .inr (12, [.ref h1, .int 0, .ref h2, .ref h3, .ref h4, .ref h5, .ref h6, .ref h7, .int (-1), .ref h8, .ref h9, .int 250, .ref h10, .int 0, .ref h11, .ref h12, .ref h13])), (h2, .inr (11, [.ref h14])), (h14, .inr (10, [.int 1, .int 20, .ref h15, .int 0])), (h3, .inl (g.2.1 3, 4, .inr (.inr (.inr (.inr (va_up (va_up (va_up (va_up (fun _ => none) 0 (some h16)) 1 (some h17)) 2 (some h18)) 3 (some h19))))))), (h16, .inr (6, [.ref h20, .ref h21, .ref h22, .int 0, .int 0, .int 0, .int 0, .int 0])), (h17, .inr (6, [.ref h23, .ref h24, .ref h25, .int 0, .int 0, .int 0, .int 0, .int 0])), (h18, .inr (6, [.ref h26, .ref h27, .ref h28, .int 0, .int 0, .int 0, .int 0, .int 0])), (h19, .inr (6, [.ref h29, .ref h30, .ref h31, .int 0, .int 0, .int 0, .int 0, .int 0]))] sz) := by
  refine vx_ofW (cc := cX11_longest) (maxL := 3) (ret := (some .int)) (by decide) rfl ?_
  intro p e s m args below meth c s₁ B hml hno hv
  obtain ⟨rfl, hsz, hP, hD0, hE⟩ := hv
  have hx := B.exec
  have hb := B.bytes
  have hr := B.returns
  have hts := atoms_spec (ws := w9_X11_longest_5) B.pre
  have hown : s.vm.findClass RX11 = some m.cls := findClass_of_methodNamed B.named
  have hlocks := B.notSynchronized
  subst hsz
  have hD := hD0.self (sz := s.heap.size)
  generalize hAe : va_A [(h0, .inr (12, [.ref h1, .int 0, .ref h2, .ref h3, .ref h4, .ref h5, .ref h6, .ref h7, .int (-1), .ref h8, .ref h9, .int 250, .ref h10, .int 0, .ref h11, .ref h12, .ref h13])), (h2, .inr (11, [.ref h14])), (h14, .inr (10, [.int 1, .int 20, .ref h15, .int 0])), (h3, .inl (g.2.1 3, 4, .inr (.inr (.inr (.inr (va_up (va_up (va_up (va_up (fun _ => none) 0 (some h16)) 1 (some h17)) 2 (some h18)) 3 (some h19))))))), (h16, .inr (6, [.ref h20, .ref h21, .ref h22, .int 0, .int 0, .int 0, .int 0, .int 0])), (h17, .inr (6, [.ref h23, .ref h24, .ref h25, .int 0, .int 0, .int 0, .int 0, .int 0])), (h18, .inr (6, [.ref h26, .ref h27, .ref h28, .int 0, .int 0, .int 0, .int 0, .int 0])), (h19, .inr (6, [.ref h29, .ref h30, .ref h31, .int 0, .int 0, .int 0, .int 0, .int 0]))] s.heap.size = A at hD hE ⊢
  have hA : ∀ q : Nat, s.heap.size ≤ q → A q := fun q h => by rw [← hAe]; exact Or.inr h
  have hK := hE.1
  have hS : va_S A s.heap s.heap [] := va_S.rf
  replace hP : va_P g.1 vwCl [(h0, .inr (12, [.ref h1, .int 0, .ref h2, .ref h3, .ref h4, .ref h5, .ref h6, .ref h7, .int (-1), .ref h8, .ref h9, .int 250, .ref h10, .int 0, .ref h11, .ref h12, .ref h13])), (h2, .inr (11, [.ref h14])), (h14, .inr (10, [.int 1, .int 20, .ref h15, .int 0])), (h3, .inl (g.2.1 3, 4, .inr (.inr (.inr (.inr (va_up (va_up (va_up (va_up (fun _ => none) 0 (some h16)) 1 (some h17)) 2 (some h18)) 3 (some h19))))))), (h16, .inr (6, [.ref h20, .ref h21, .ref h22, .int 0, .int 0, .int 0, .int 0, .int 0])), (h17, .inr (6, [.ref h23, .ref h24, .ref h25, .int 0, .int 0, .int 0, .int 0, .int 0])), (h18, .inr (6, [.ref h26, .ref h27, .ref h28, .int 0, .int 0, .int 0, .int 0, .int 0])), (h19, .inr (6, [.ref h29, .ref h30, .ref h31, .int 0, .int 0, .int 0, .int 0, .int 0]))] s.heap := hP
  have hl := lv_entry ([.ref h0, .int v0, .int 0]) (n := 3) (Nat.le_of_ble_eq_true rfl)
  rw [lg_entry_eq]
  generalize (lg_sl ([.ref h0, .int v0, .int 0]) ++ List.replicate (3 - (lg_sl ([.ref h0, .int v0, .int 0])).length) Slot.unset).toArray = ls at hl ⊢
  replace hl : lv_has ls 3 [(0, .ref h0), (1, .int v0), (2, .int 0)] := hl
  have hH0 : s.heap.size ≤ s.heap.size := Nat.le_refl _
  refine lv_aload_n hx hb dX11_longest_0 rfl (lv_at hl 0 rfl) ?_
  refine lv_iload_n hx hb dX11_longest_1 rfl (lv_at hl 1 rfl) ?_
  have hPc := hP.sub (ws' := [(h0, .inr (12, [.ref h1, .int 0, .ref h2, .ref h3, .ref h4, .ref h5, .ref h6, .ref h7, .int (-1), .ref h8, .ref h9, .int 250, .ref h10, .int 0, .ref h11, .ref h12, .ref h13]))]) [0] rfl
  have hDc := hD.sub (ws' := [(h0, .inr (12, [.ref h1, .int 0, .ref h2, .ref h3, .ref h4, .ref h5, .ref h6, .ref h7, .int (-1), .ref h8, .ref h9, .int 250, .ref h10, .int 0, .ref h11, .ref h12, .ref h13]))]) [0] (by decide) rfl
  have hFc := va_free (wc := [(h0, .inr (12, [.ref h1, .int 0, .ref h2, .ref h3, .ref h4, .ref h5, .ref h6, .ref h7, .int (-1), .ref h8, .ref h9, .int 250, .ref h10, .int 0, .ref h11, .ref h12, .ref h13]))]) hD hS hA [0] rfl
  refine va_callv (va_runV (As := [.int v0]) (rest := []) ⟨hx, hb, hml, hown, hts⟩ (c9_X11_needPattern_7 l g h0 h1 h2 h3 h4 h5 h6 h7 h8 h9 h10 h11 h12 h13 _ v0 (by omega)) (cwV 1 hts g9_X11_longest_5_0 rfl rfl rfl (by decide +kernel) ⟨Nat.le_of_ble_eq_true rfl, Nat.le_of_ble_eq_true rfl⟩) (mPreV (g := g) (wc := [(h0, .inr (12, [.ref h1, .int 0, .ref h2, .ref h3, .ref h4, .ref h5, .ref h6, .ref h7, .int (-1), .ref h8, .ref h9, .int 250, .ref h10, .int 0, .ref h11, .ref h12, .ref h13]))]) (C := RX11) (ci := 12) (q0 := 0) hE hS hPc hDc hFc rfl rfl) rfl rfl hl.1 rfl (lv_room (Nat.le_of_ble_eq_true rfl)) dX11_longest_2 ⟨Nat.le_of_ble_eq_true rfl, Nat.le_of_ble_eq_true rfl⟩) hS (fun q _ h => hFc q h) hFc (fun u t H1 locs ht hvm hw hB hz1 hk1 hS => ?_)
  obtain ⟨hP1, hD1⟩ := hB
  rw [ht] at hP1
  obtain ⟨hP, hD⟩ := va_join (wr := [(h2, .inr (11, [.ref h14])), (h14, .inr (10, [.int 1, .int 20, .ref h15, .int 0])), (h3, .inl (g.2.1 3, 4, .inr (.inr (.inr (.inr (va_up (va_up (va_up (va_up (fun _ => none) 0 (some h16)) 1 (some h17)) 2 (some h18)) 3 (some h19))))))), (h16, .inr (6, [.ref h20, .ref h21, .ref h22, .int 0, .int 0, .int 0, .int 0, .int 0])), (h17, .inr (6, [.ref h23, .ref h24, .ref h25, .int 0, .int 0, .int 0, .int 0, .int 0])), (h18, .inr (6, [.ref h26, .ref h27, .ref h28, .int 0, .int 0, .int 0, .int 0, .int 0])), (h19, .inr (6, [.ref h29, .ref h30, .ref h31, .int 0, .int 0, .int 0, .int 0, .int 0]))]) (w1 := [(h0, .inr (12, [.ref h1, .int 0, .ref h2, .ref h3, .ref h4, .ref h5, .ref h6, .ref h7, .int (-1), .ref h8, .ref h9, .int 250, .ref h10, .int 0, .ref h11, .ref h12, .ref h13]))]) hP hD [0] [1, 2, 3, 4, 5, 6, 7] rfl rfl (by decide) (by decide) hk1 hFc hP1 hD1
  clear hP1 hD1 hPc hDc hFc hk1 hz1 hvm ht
  generalize H1 = H at hP hS ⊢
  have hP : va_P g.1 vwCl [(h2, .inr (11, [.ref h14])), (h14, .inr (10, [.int 1, .int 20, .ref h15, .int 0])), (h3, .inl (g.2.1 3, 4, .inr (.inr (.inr (.inr (va_up (va_up (va_up (va_up (fun _ => none) 0 (some h16)) 1 (some h17)) 2 (some h18)) 3 (some h19))))))), (h16, .inr (6, [.ref h20, .ref h21, .ref h22, .int 0, .int 0, .int 0, .int 0, .int 0])), (h17, .inr (6, [.ref h23, .ref h24, .ref h25, .int 0, .int 0, .int 0, .int 0, .int 0])), (h18, .inr (6, [.ref h26, .ref h27, .ref h28, .int 0, .int 0, .int 0, .int 0, .int 0])), (h19, .inr (6, [.ref h29, .ref h30, .ref h31, .int 0, .int 0, .int 0, .int 0, .int 0])), (h0, .inr (12, [.ref h1, .int 0, .ref h2, .ref h3, .ref h4, .ref h5, .ref h6, .ref h7, .int (-1), .ref h8, .ref h9, .int 250, .ref h10, .int 0, .ref h11, .ref h12, .ref h13]))] H := hP
  have hD : va_D A [(h2, .inr (11, [.ref h14])), (h14, .inr (10, [.int 1, .int 20, .ref h15, .int 0])), (h3, .inl (g.2.1 3, 4, .inr (.inr (.inr (.inr (va_up (va_up (va_up (va_up (fun _ => none) 0 (some h16)) 1 (some h17)) 2 (some h18)) 3 (some h19))))))), (h16, .inr (6, [.ref h20, .ref h21, .ref h22, .int 0, .int 0, .int 0, .int 0, .int 0])), (h17, .inr (6, [.ref h23, .ref h24, .ref h25, .int 0, .int 0, .int 0, .int 0, .int 0])), (h18, .inr (6, [.ref h26, .ref h27, .ref h28, .int 0, .int 0, .int 0, .int 0, .int 0])), (h19, .inr (6, [.ref h29, .ref h30, .ref h31, .int 0, .int 0, .int 0, .int 0, .int 0])), (h0, .inr (12, [.ref h1, .int 0, .ref h2, .ref h3, .ref h4, .ref h5, .ref h6, .ref h7, .int (-1), .ref h8, .ref h9, .int 250, .ref h10, .int 0, .ref h11, .ref h12, .ref h13]))] := hD
  refine lv_aload_n hx hb dX11_longest_5 rfl (lv_at hl 0 rfl) ?_
  refine lv_iload_n hx hb dX11_longest_6 rfl (lv_at hl 2 rfl) ?_
  have hPc := hP.sub (ws' := [(h2, .inr (11, [.ref h14])), (h14, .inr (10, [.int 1, .int 20, .ref h15, .int 0])), (h0, .inr (12, [.ref h1, .int 0, .ref h2, .ref h3, .ref h4, .ref h5, .ref h6, .ref h7, .int (-1), .ref h8, .ref h9, .int 250, .ref h10, .int 0, .ref h11, .ref h12, .ref h13]))]) [0, 1, 7] rfl
  have hDc := hD.sub (ws' := [(h2, .inr (11, [.ref h14])), (h14, .inr (10, [.int 1, .int 20, .ref h15, .int 0])), (h0, .inr (12, [.ref h1, .int 0, .ref h2, .ref h3, .ref h4, .ref h5, .ref h6, .ref h7, .int (-1), .ref h8, .ref h9, .int 250, .ref h10, .int 0, .ref h11, .ref h12, .ref h13]))]) [0, 1, 7] (by decide) rfl
  have hFc := va_free (wc := [(h2, .inr (11, [.ref h14])), (h14, .inr (10, [.int 1, .int 20, .ref h15, .int 0])), (h0, .inr (12, [.ref h1, .int 0, .ref h2, .ref h3, .ref h4, .ref h5, .ref h6, .ref h7, .int (-1), .ref h8, .ref h9, .int 250, .ref h10, .int 0, .ref h11, .ref h12, .ref h13]))]) hD hS hA [0, 1, 7] rfl
  refine va_callv (va_runV (As := [.int 0]) (rest := []) ⟨hx, hb, hml, hown, hts⟩ (c9_X11_needPlace_3 l g h0 h2 h14 h15 h1 h3 h4 h5 h6 h7 h8 h9 h10 h11 h12 h13 _) (cwV 1 hts g9_X11_longest_5_1 rfl rfl rfl (by decide +kernel) ⟨Nat.le_of_ble_eq_true rfl, Nat.le_of_ble_eq_true rfl⟩) (mPreV (g := g) (wc := [(h2, .inr (11, [.ref h14])), (h14, .inr (10, [.int 1, .int 20, .ref h15, .int 0])), (h0, .inr (12, [.ref h1, .int 0, .ref h2, .ref h3, .ref h4, .ref h5, .ref h6, .ref h7, .int (-1), .ref h8, .ref h9, .int 250, .ref h10, .int 0, .ref h11, .ref h12, .ref h13]))]) (C := RX11) (ci := 12) (q0 := 2) hE hS hPc hDc hFc rfl rfl) rfl rfl hl.1 rfl (lv_room (Nat.le_of_ble_eq_true rfl)) dX11_longest_7 ⟨Nat.le_of_ble_eq_true rfl, Nat.le_of_ble_eq_true rfl⟩) hS (fun q _ h => hFc q h) hFc (fun u t H1 locs ht hvm hw hB hz1 hk1 hS => ?_)
  obtain ⟨hP1, hD1⟩ := hB
  rw [ht] at hP1
  obtain ⟨hP, hD⟩ := va_join (wr := [(h3, .inl (g.2.1 3, 4, .inr (.inr (.inr (.inr (va_up (va_up (va_up (va_up (fun _ => none) 0 (some h16)) 1 (some h17)) 2 (some h18)) 3 (some h19))))))), (h16, .inr (6, [.ref h20, .ref h21, .ref h22, .int 0, .int 0, .int 0, .int 0, .int 0])), (h17, .inr (6, [.ref h23, .ref h24, .ref h25, .int 0, .int 0, .int 0, .int 0, .int 0])), (h18, .inr (6, [.ref h26, .ref h27, .ref h28, .int 0, .int 0, .int 0, .int 0, .int 0])), (h19, .inr (6, [.ref h29, .ref h30, .ref h31, .int 0, .int 0, .int 0, .int 0, .int 0]))]) (w1 := [(h2, .inr (11, [.ref h14])), (h14, .inr (10, [.int 1, .int 20, .ref h15, .int 0])), (h0, .inr (12, [.ref h1, .int 0, .ref h2, .ref h3, .ref h4, .ref h5, .ref h6, .ref h7, .int (-1), .ref h8, .ref h9, .int 250, .ref h10, .int 0, .ref h11, .ref h12, .ref h13]))]) hP hD [0, 1, 7] [2, 3, 4, 5, 6] rfl rfl (by decide) (by decide) hk1 hFc hP1 hD1
  clear hP1 hD1 hPc hDc hFc hk1 hz1 hvm ht
  generalize H1 = H at hP hS ⊢
  have hP : va_P g.1 vwCl [(h3, .inl (g.2.1 3, 4, .inr (.inr (.inr (.inr (va_up (va_up (va_up (va_up (fun _ => none) 0 (some h16)) 1 (some h17)) 2 (some h18)) 3 (some h19))))))), (h16, .inr (6, [.ref h20, .ref h21, .ref h22, .int 0, .int 0, .int 0, .int 0, .int 0])), (h17, .inr (6, [.ref h23, .ref h24, .ref h25, .int 0, .int 0, .int 0, .int 0, .int 0])), (h18, .inr (6, [.ref h26, .ref h27, .ref h28, .int 0, .int 0, .int 0, .int 0, .int 0])), (h19, .inr (6, [.ref h29, .ref h30, .ref h31, .int 0, .int 0, .int 0, .int 0, .int 0])), (h2, .inr (11, [.ref h14])), (h14, .inr (10, [.int 1, .int 20, .ref h15, .int 0])), (h0, .inr (12, [.ref h1, .int 0, .ref h2, .ref h3, .ref h4, .ref h5, .ref h6, .ref h7, .int (-1), .ref h8, .ref h9, .int 250, .ref h10, .int 0, .ref h11, .ref h12, .ref h13]))] H := hP
  have hD : va_D A [(h3, .inl (g.2.1 3, 4, .inr (.inr (.inr (.inr (va_up (va_up (va_up (va_up (fun _ => none) 0 (some h16)) 1 (some h17)) 2 (some h18)) 3 (some h19))))))), (h16, .inr (6, [.ref h20, .ref h21, .ref h22, .int 0, .int 0, .int 0, .int 0, .int 0])), (h17, .inr (6, [.ref h23, .ref h24, .ref h25, .int 0, .int 0, .int 0, .int 0, .int 0])), (h18, .inr (6, [.ref h26, .ref h27, .ref h28, .int 0, .int 0, .int 0, .int 0, .int 0])), (h19, .inr (6, [.ref h29, .ref h30, .ref h31, .int 0, .int 0, .int 0, .int 0, .int 0])), (h2, .inr (11, [.ref h14])), (h14, .inr (10, [.int 1, .int 20, .ref h15, .int 0])), (h0, .inr (12, [.ref h1, .int 0, .ref h2, .ref h3, .ref h4, .ref h5, .ref h6, .ref h7, .int (-1), .ref h8, .ref h9, .int 250, .ref h10, .int 0, .ref h11, .ref h12, .ref h13]))] := hD
  refine lv_aload_n hx hb dX11_longest_10 rfl (lv_at hl 0 rfl) ?_
  refine lv_iload_n hx hb dX11_longest_11 rfl (lv_at hl 1 rfl) ?_
  have hPc := hP.sub (ws' := [(h3, .inl (g.2.1 3, 4, .inr (.inr (.inr (.inr (va_up (va_up (va_up (va_up (fun _ => none) 0 (some h16)) 1 (some h17)) 2 (some h18)) 3 (some h19))))))), (h16, .inr (6, [.ref h20, .ref h21, .ref h22, .int 0, .int 0, .int 0, .int 0, .int 0])), (h17, .inr (6, [.ref h23, .ref h24, .ref h25, .int 0, .int 0, .int 0, .int 0, .int 0])), (h18, .inr (6, [.ref h26, .ref h27, .ref h28, .int 0, .int 0, .int 0, .int 0, .int 0])), (h19, .inr (6, [.ref h29, .ref h30, .ref h31, .int 0, .int 0, .int 0, .int 0, .int 0])), (h0, .inr (12, [.ref h1, .int 0, .ref h2, .ref h3, .ref h4, .ref h5, .ref h6, .ref h7, .int (-1), .ref h8, .ref h9, .int 250, .ref h10, .int 0, .ref h11, .ref h12, .ref h13]))]) [0, 1, 2, 3, 4, 7] rfl
  have hDc := hD.sub (ws' := [(h3, .inl (g.2.1 3, 4, .inr (.inr (.inr (.inr (va_up (va_up (va_up (va_up (fun _ => none) 0 (some h16)) 1 (some h17)) 2 (some h18)) 3 (some h19))))))), (h16, .inr (6, [.ref h20, .ref h21, .ref h22, .int 0, .int 0, .int 0, .int 0, .int 0])), (h17, .inr (6, [.ref h23, .ref h24, .ref h25, .int 0, .int 0, .int 0, .int 0, .int 0])), (h18, .inr (6, [.ref h26, .ref h27, .ref h28, .int 0, .int 0, .int 0, .int 0, .int 0])), (h19, .inr (6, [.ref h29, .ref h30, .ref h31, .int 0, .int 0, .int 0, .int 0, .int 0])), (h0, .inr (12, [.ref h1, .int 0, .ref h2, .ref h3, .ref h4, .ref h5, .ref h6, .ref h7, .int (-1), .ref h8, .ref h9, .int 250, .ref h10, .int 0, .ref h11, .ref h12, .ref h13]))]) [0, 1, 2, 3, 4, 7] (by decide) rfl
  have hFc := va_free (wc := [(h3, .inl (g.2.1 3, 4, .inr (.inr (.inr (.inr (va_up (va_up (va_up (va_up (fun _ => none) 0 (some h16)) 1 (some h17)) 2 (some h18)) 3 (some h19))))))), (h16, .inr (6, [.ref h20, .ref h21, .ref h22, .int 0, .int 0, .int 0, .int 0, .int 0])), (h17, .inr (6, [.ref h23, .ref h24, .ref h25, .int 0, .int 0, .int 0, .int 0, .int 0])), (h18, .inr (6, [.ref h26, .ref h27, .ref h28, .int 0, .int 0, .int 0, .int 0, .int 0])), (h19, .inr (6, [.ref h29, .ref h30, .ref h31, .int 0, .int 0, .int 0, .int 0, .int 0])), (h0, .inr (12, [.ref h1, .int 0, .ref h2, .ref h3, .ref h4, .ref h5, .ref h6, .ref h7, .int (-1), .ref h8, .ref h9, .int 250, .ref h10, .int 0, .ref h11, .ref h12, .ref h13]))]) hD hS hA [0, 1, 2, 3, 4, 7] rfl
  refine vx_callv (vx_runV (As := [.int v0]) (rest := []) ⟨hx, hb, hml, hown, hts⟩ (c9_X11_needRegular_1 l hlt g h0 h3 h16 h17 h18 h19 h20 h21 h22 h23 h24 h25 h26 h27 h28 h29 h30 h31 h1 h2 h4 h5 h6 h7 h8 h9 h10 h11 h12 h13 _ v0 (by omega)) (cwV 1 hts g9_X11_longest_5_2 rfl rfl rfl (by decide +kernel) ⟨Nat.le_of_ble_eq_true rfl, Nat.le_of_ble_eq_true rfl⟩) (mPreV (g := g) (wc := [(h3, .inl (g.2.1 3, 4, .inr (.inr (.inr (.inr (va_up (va_up (va_up (va_up (fun _ => none) 0 (some h16)) 1 (some h17)) 2 (some h18)) 3 (some h19))))))), (h16, .inr (6, [.ref h20, .ref h21, .ref h22, .int 0, .int 0, .int 0, .int 0, .int 0])), (h17, .inr (6, [.ref h23, .ref h24, .ref h25, .int 0, .int 0, .int 0, .int 0, .int 0])), (h18, .inr (6, [.ref h26, .ref h27, .ref h28, .int 0, .int 0, .int 0, .int 0, .int 0])), (h19, .inr (6, [.ref h29, .ref h30, .ref h31, .int 0, .int 0, .int 0, .int 0, .int 0])), (h0, .inr (12, [.ref h1, .int 0, .ref h2, .ref h3, .ref h4, .ref h5, .ref h6, .ref h7, .int (-1), .ref h8, .ref h9, .int 250, .ref h10, .int 0, .ref h11, .ref h12, .ref h13]))]) (C := RX11) (ci := 12) (q0 := 5) hE hS hPc hDc hFc rfl rfl) rfl rfl hl.1 rfl (lv_room (Nat.le_of_ble_eq_true rfl)) dX11_longest_12 ⟨Nat.le_of_ble_eq_true rfl, Nat.le_of_ble_eq_true rfl⟩) hS (fun q _ h => hFc q h) hFc (fun q _ h => hFc q h) (fun E9 ce q9 u t H locs ht hvm hw hB hz1 hk1 hS hc1 hc2 hc3 => ?_) (fun u t H1 locs ht hvm hw hB hz1 hk1 hS => hw.elim)
  replace hB : E9 = "java/lang/IllegalStateException" := hB
  subst hB
  exact vx_out (fun z hz => (hno z hz).elim) hlocks hc1 hc2 hc3 (fun t ht hW => ⟨(), trivial, rfl, by subst hAe; exact hS.F ht⟩) (by subst hAe; exact hS.2.2) (Nat.le_of_ble_eq_true rfl) (Nat.le_of_ble_eq_true rfl)
def w9_L_longest_5 : List Cond := [.codeWith yL_longest cL_longest 5 (some .int) [(0, 10, 13, 21), (0, 10, 17, 15)], .methodLink RL 51 yX11_longest, .instanceMethod yX11_longest, .selects RX11 yX11_longest yX11_longest, .initialized RX11, .code yX11_longest cX11_longest 3 (some .int), .methodLink RX11 124 yX11_needPattern, .instanceMethod yX11_needPattern, .selects RX11 yX11_needPattern yX11_needPattern, .code yX11_needPattern cX11_needPattern 2 none, .methodLink RX11 180 yX11_needPlace, .instanceMethod yX11_needPlace, .selects RX11 yX11_needPlace yX11_needPlace, .code yX11_needPlace cX11_needPlace 2 none, .fieldLink RX11 16 "Regexloom" "text" "LRegexloom$Text;", .methodLink RX11 146 yX10_size, .instanceMethod yX10_size, .selects RX10 yX10_size yX10_size, .initialized RX10, .code yX10_size cX10_size 1 (some .int), .fieldLink RX10 14 "Regexloom$Text" "codes" "LRegexloom$Table;", .methodLink RX10 20 yX9_size, .instanceMethod yX9_size, .selects RX9 yX9_size yX9_size, .initialized RX9, .code yX9_size cX9_size 1 (some .int), .fieldLink RX9 28 "Regexloom$Table" "size" "I", .methodLink RX11 228 yX11_needRegular, .instanceMethod yX11_needRegular, .selects RX11 yX11_needRegular yX11_needRegular, .code yX11_needRegular cX11_needRegular 2 none, .methodLink RX11 168 yX11_toldOne, .instanceMethod yX11_toldOne, .selects RX11 yX11_toldOne yX11_toldOne, .code yX11_toldOne cX11_toldOne 2 (some (.object "Regexloom$Pattern")), .fieldLink RX11 22 "Regexloom" "patterns" "[LRegexloom$Pattern;", .fieldLink RX11 133 "Regexloom$Pattern" "isTold" "Z", .initialized "java/lang/Throwable", .superclass "java/lang/Throwable" "java/lang/Object", .instanceMethod Bundle.tFill, .codeSync Bundle.tFill LibCode.Throwable.Fill.code 1 (some (.object "java/lang/Throwable")), .instanceMethod Bundle.tFill0, .native Bundle.tFill0, .instanceMethod Bundle.tInit0, .code Bundle.tInit0 LibCode.Throwable.Init0.code 1 none, .instanceMethod Bundle.oInit, .code Bundle.oInit ⟨#[0xb1]⟩ 1 none, .methodLink "java/lang/Throwable" 1 Bundle.oInit, .methodLink "java/lang/Throwable" 27 Bundle.tFill, .methodLink "java/lang/Throwable" 202 Bundle.tFill0, .fieldLink "java/lang/Throwable" 7 "java/lang/Throwable" "cause" "Ljava/lang/Throwable;", .lays "java/lang/Throwable" "java/lang/Throwable" "cause" "Ljava/lang/Throwable;", .fieldLink "java/lang/Throwable" 17 "java/lang/Throwable" "stackTrace" "[Ljava/lang/StackTraceElement;", .lays "java/lang/Throwable" "java/lang/Throwable" "stackTrace" "[Ljava/lang/StackTraceElement;", .fieldLink "java/lang/Throwable" 24 "java/lang/Throwable" "suppressedExceptions" "Ljava/util/List;", .lays "java/lang/Throwable" "java/lang/Throwable" "suppressedExceptions" "Ljava/util/List;", .fieldLink "java/lang/Throwable" 13 "java/lang/Throwable" "UNASSIGNED_STACK" "[Ljava/lang/StackTraceElement;", .fieldLink "java/lang/Throwable" 20 "java/lang/Throwable" "SUPPRESSED_SENTINEL" "Ljava/util/List;", .lays "java/lang/Throwable" "java/lang/Throwable" "detailMessage" "Ljava/lang/String;", .instanceMethod (Bundle.initS "java/lang/Throwable"), .code (Bundle.initS "java/lang/Throwable") LibCode.Throwable.InitS.code 2 none, .fieldLink "java/lang/Throwable" 31 "java/lang/Throwable" "detailMessage" "Ljava/lang/String;", .instanceMethod (Bundle.initS "java/lang/IllegalStateException"), .code (Bundle.initS "java/lang/IllegalStateException") Bundle.six 2 none, .methodLink "java/lang/IllegalStateException" 7 (Bundle.initS "java/lang/RuntimeException"), .instanceMethod (Bundle.initS "java/lang/RuntimeException"), .code (Bundle.initS "java/lang/RuntimeException") Bundle.six 2 none, .methodLink "java/lang/RuntimeException" 7 (Bundle.initS "java/lang/Exception"), .instanceMethod (Bundle.initS "java/lang/Exception"), .code (Bundle.initS "java/lang/Exception") Bundle.six 2 none, .methodLink "java/lang/Exception" 7 (Bundle.initS "java/lang/Throwable"), .methodLink RX11 123 (Bundle.initS "java/lang/IllegalStateException"), .instantiable "java/lang/IllegalStateException" 6, .selects "java/lang/IllegalStateException" Bundle.tFill0 Bundle.tFill0, .selects "java/lang/IllegalStateException" Bundle.tFill Bundle.tFill, .lays "java/lang/IllegalStateException" "java/lang/Throwable" "cause" "Ljava/lang/Throwable;", .lays "java/lang/IllegalStateException" "java/lang/Throwable" "stackTrace" "[Ljava/lang/StackTraceElement;", .lays "java/lang/IllegalStateException" "java/lang/Throwable" "suppressedExceptions" "Ljava/util/List;", .lays "java/lang/IllegalStateException" "java/lang/Throwable" "detailMessage" "Ljava/lang/String;", .fieldLink "java/lang/Throwable" 198 "java/lang/Throwable" "backtrace" "Ljava/lang/Object;", .lays "java/lang/Throwable" "java/lang/Throwable" "backtrace" "Ljava/lang/Object;", .lays "java/lang/IllegalStateException" "java/lang/Throwable" "backtrace" "Ljava/lang/Object;", .classLink RX11 119 "java/lang/IllegalStateException", .initialized "java/lang/IllegalStateException", .classLink RL 21 "java/lang/IndexOutOfBoundsException", .classLink RL 15 "java/lang/IllegalStateException"] ++ (u_ws RX11 TX11 17 ++ u_ws RX10 TX10 1 ++ u_ws RX9 TX9 4 ++ u_ws RX3 TX3 8)
set_option maxRecDepth 20000 in
theorem in9_L_longest_5_RX11 : ∀ w ∈ u_ws RX11 TX11 17, w ∈ w9_L_longest_5 := by decide +kernel
set_option maxRecDepth 20000 in
theorem in9_L_longest_5_RX10 : ∀ w ∈ u_ws RX10 TX10 1, w ∈ w9_L_longest_5 := by decide +kernel
set_option maxRecDepth 20000 in
theorem in9_L_longest_5_RX9 : ∀ w ∈ u_ws RX9 TX9 4, w ∈ w9_L_longest_5 := by decide +kernel
set_option maxRecDepth 20000 in
theorem in9_L_longest_5_RX3 : ∀ w ∈ u_ws RX3 TX3 8, w ∈ w9_L_longest_5 := by decide +kernel
set_option maxRecDepth 20000 in
theorem g9_L_longest_5_0 : GoodIn w9_L_longest_5 (wsV RL 51 RX11 yX11_longest w9_X11_longest_5) := goodIn_r _ [1, 2, 3, 4, 5, 6, 7, 8, 4, 9, 10, 11, 12, 13, 14, 15, 16, 17, 18, 19, 20, 21, 22, 23, 24, 25, 26, 27, 28, 29, 30, 31, 32, 33, 34, 35, 36, 37, 38, 39, 40, 41, 42, 43, 44, 45, 46, 47, 48, 49, 50, 51, 52, 53, 54, 55, 56, 57, 58, 59, 60, 61, 62, 63, 64, 65, 66, 67, 68, 69, 70, 71, 72, 73, 74, 75, 76, 77, 78, 79, 80, 81, 82, 83, 86, 87, 88, 89, 90, 91, 92, 93, 94, 95, 96, 97, 98, 99, 100, 101, 102, 103, 104, 105, 106, 107, 108, 109, 110, 111, 112, 113, 114, 115] (by decide +kernel) (by decide +kernel)
set_option maxHeartbeats 4000000 in
set_option maxRecDepth 100000 in
theorem c9_L_longest_5 (l : Launch) (hlt : l.stackTraces = false) (g : G9) (h0 h1 h2 h3 h4 h5 h6 h7 h8 h9 h10 h11 h12 h13 h14 h15 h16 h17 h18 h19 h20 h21 h22 h23 h24 h25 h26 h27 h28 h29 h30 h31 h32 sz : Nat) (v0 : Int32) (k_v0 : 0 ≤ v0.toInt ∧ v0.toInt ≤ 3) : Met l yL_longest w9_L_longest_5 ({ frames := 9, cells := 1, slots := 6, locals := 146 }) (mP g [(h0, .inr (12, [.ref h2, .int 0, .ref h3, .ref h4, .ref h5, .ref h6, .ref h7, .ref h8, .int (-1), .ref h9, .ref h10, .int 250, .ref h11, .int 0, .ref h12, .ref h13, .ref h14])), (h3, .inr (11, [.ref h15])), (h15, .inr (10, [.int 1, .int 20, .ref h16, .int 0])), (h4, .inl (g.2.1 3, 4, .inr (.inr (.inr (.inr (va_up (va_up (va_up (va_up (fun _ => none) 0 (some h17)) 1 (some h18)) 2 (some h19)) 3 (some h20))))))), (h17, .inr (6, [.ref h21, .ref h22, .ref h23, .int 0, .int 0, .int 0, .int 0, .int 0])), (h18, .inr (6, [.ref h24, .ref h25, .ref h26, .int 0, .int 0, .int 0, .int 0, .int 0])), (h19, .inr (6, [.ref h27, .ref h28, .ref h29, .int 0, .int 0, .int 0, .int 0, .int 0])), (h20, .inr (6, [.ref h30, .ref h31, .ref h32, .int 0, .int 0, .int 0, .int 0, .int 0]))] sz [.ref h0, .int v0, .int 0, .ref h1]) (va_Qi (fun (r : Int32) (_ : Unit) => r = 2) (fun (_ : Unit) (t : State) => mB g [(h0, .inr (12, [.ref h2, .int 0, .ref h3, .ref h4, .ref h5, .ref h6, .ref h7, .ref h8, .int (-1), .ref h9, .ref h10, .int 250, .ref h11, .int 0, .ref h12, .ref h13, .ref h14])), (h3, .inr (11, [.ref h15])), (h15, .inr (10, [.int 1, .int 20, .ref h16, .int 0])), (h4, .inl (g.2.1 3, 4, .inr (.inr (.inr (.inr (va_up (va_up (va_up (va_up (fun _ => none) 0 (some h17)) 1 (some h18)) 2 (some h19)) 3 (some h20))))))), (h17, .inr (6, [.ref h21, .ref h22, .ref h23, .int 0, .int 0, .int 0, .int 0, .int 0])), (h18, .inr (6, [.ref h24, .ref h25, .ref h26, .int 0, .int 0, .int 0, .int 0, .int 0])), (h19, .inr (6, [.ref h27, .ref h28, .ref h29, .int 0, .int 0, .int 0, .int 0, .int 0])), (h20, .inr (6, [.ref h30, .ref h31, .ref h32, .int 0, .int 0, .int 0, .int 0, .int 0]))] sz [] t) (va_A [(h0, .inr (12, [.ref h2, .int 0, .ref h3, .ref h4, .ref h5, .ref h6, .ref h7, .ref h8, .int (-1), .ref h9, .ref h10, .int 250, .ref h11, .int 0, .ref h12, .ref h13, .ref h14])), (h3, .inr (11, [.ref h15])), (h15, .inr (10, [.int 1, .int 20, .ref h16, .int 0])), (h4, .inl (g.2.1 3, 4, .inr (.inr (.inr (.inr (va_up (va_up (va_up (va_up (fun _ => none) 0 (some h17)) 1 (some h18)) 2 (some h19)) 3 (some h20))))))), (h17, .inr (6, [.ref h21, .ref h22, .ref h23, .int 0, .int 0, .int 0, .int 0, .int 0])), (h18, .inr (6, [.ref h24, .ref h25, .ref h26, .int 0, .int 0, .int 0, .int 0, .int 0])), (h19, .inr (6, [.ref h27, .ref h28, .ref h29, .int 0, .int 0, .int 0, .int 0, .int 0])), (h20, .inr (6, [.ref h30, .ref h31, .ref h32, .int 0, .int 0, .int 0, .int 0, .int 0]))] sz)) 1 6 (va_A [(h0, .inr (12, [.ref h2, .int 0, .ref h3, .ref h4, .ref h5, .ref h6, .ref h7, .ref h8, .int (-1), .ref h9, .ref h10, .int 250, .ref h11, .int 0, .ref h12, .ref h13, .ref h14])), (h3, .inr (11, [.ref h15])), (h15, .inr (10, [.int 1, .int 20, .ref h16, .int 0])), (h4, .inl (g.2.1 3, 4, .inr (.inr (.inr (.inr (va_up (va_up (va_up (va_up (fun _ => none) 0 (some h17)) 1 (some h18)) 2 (some h19)) 3 (some h20))))))), (h17, .inr (6, [.ref h21, .ref h22, .ref h23, .int 0, .int 0, .int 0, .int 0, .int 0])), (h18, .inr (6, [.ref h24, .ref h25, .ref h26, .int 0, .int 0, .int 0, .int 0, .int 0])), (h19, .inr (6, [.ref h27, .ref h28, .ref h29, .int 0, .int 0, .int 0, .int 0, .int 0])), (h20, .inr (6, [.ref h30, .ref h31, .ref h32, .int 0, .int 0, .int 0, .int 0, .int 0]))] sz) := by
  refine va_MetW (cc := cL_longest) (maxL := 5) (ret := (some .int)) (by decide) rfl ?_
  intro p e s m args below meth c s₁ B hml hv
  obtain ⟨rfl, hsz, hP, hD0, hE⟩ := hv
  have hx := B.exec
  have hb := B.bytes
  have hr := B.returns
  have hts := atoms_spec (ws := w9_L_longest_5) B.pre
  have hown : s.vm.findClass RL = some m.cls := findClass_of_methodNamed B.named
  have hlocks := B.notSynchronized
  have htab := vx_table (x := yL_longest) B (hts (.codeWith yL_longest cL_longest 5 (some .int) [(0, 10, 13, 21), (0, 10, 17, 15)]) (List.mem_of_getElem? (i := 0) rfl))
  subst hsz
  have hD := hD0.self (sz := s.heap.size)
  generalize hAe : va_A [(h0, .inr (12, [.ref h2, .int 0, .ref h3, .ref h4, .ref h5, .ref h6, .ref h7, .ref h8, .int (-1), .ref h9, .ref h10, .int 250, .ref h11, .int 0, .ref h12, .ref h13, .ref h14])), (h3, .inr (11, [.ref h15])), (h15, .inr (10, [.int 1, .int 20, .ref h16, .int 0])), (h4, .inl (g.2.1 3, 4, .inr (.inr (.inr (.inr (va_up (va_up (va_up (va_up (fun _ => none) 0 (some h17)) 1 (some h18)) 2 (some h19)) 3 (some h20))))))), (h17, .inr (6, [.ref h21, .ref h22, .ref h23, .int 0, .int 0, .int 0, .int 0, .int 0])), (h18, .inr (6, [.ref h24, .ref h25, .ref h26, .int 0, .int 0, .int 0, .int 0, .int 0])), (h19, .inr (6, [.ref h27, .ref h28, .ref h29, .int 0, .int 0, .int 0, .int 0, .int 0])), (h20, .inr (6, [.ref h30, .ref h31, .ref h32, .int 0, .int 0, .int 0, .int 0, .int 0]))] s.heap.size = A at hD hE ⊢
  have hA : ∀ q : Nat, s.heap.size ≤ q → A q := fun q h => by rw [← hAe]; exact Or.inr h
  have hK := hE.1
  have hS : va_S A s.heap s.heap [] := va_S.rf
  replace hP : va_P g.1 vwCl [(h0, .inr (12, [.ref h2, .int 0, .ref h3, .ref h4, .ref h5, .ref h6, .ref h7, .ref h8, .int (-1), .ref h9, .ref h10, .int 250, .ref h11, .int 0, .ref h12, .ref h13, .ref h14])), (h3, .inr (11, [.ref h15])), (h15, .inr (10, [.int 1, .int 20, .ref h16, .int 0])), (h4, .inl (g.2.1 3, 4, .inr (.inr (.inr (.inr (va_up (va_up (va_up (va_up (fun _ => none) 0 (some h17)) 1 (some h18)) 2 (some h19)) 3 (some h20))))))), (h17, .inr (6, [.ref h21, .ref h22, .ref h23, .int 0, .int 0, .int 0, .int 0, .int 0])), (h18, .inr (6, [.ref h24, .ref h25, .ref h26, .int 0, .int 0, .int 0, .int 0, .int 0])), (h19, .inr (6, [.ref h27, .ref h28, .ref h29, .int 0, .int 0, .int 0, .int 0, .int 0])), (h20, .inr (6, [.ref h30, .ref h31, .ref h32, .int 0, .int 0, .int 0, .int 0, .int 0]))] s.heap := hP
  have hl := lv_entry ([.ref h0, .int v0, .int 0, .ref h1]) (n := 5) (Nat.le_of_ble_eq_true rfl)
  rw [lg_entry_eq]
  generalize (lg_sl ([.ref h0, .int v0, .int 0, .ref h1]) ++ List.replicate (5 - (lg_sl ([.ref h0, .int v0, .int 0, .ref h1])).length) Slot.unset).toArray = ls at hl ⊢
  replace hl : lv_has ls 5 [(0, .ref h0), (1, .int v0), (2, .int 0), (3, .ref h1)] := hl
  have hH0 : s.heap.size ≤ s.heap.size := Nat.le_refl _
  refine lv_aload_n hx hb dL_longest_0 rfl (lv_at hl 3 rfl) ?_
  refine lv_iconst (v := 0) hx hb dL_longest_1 (by decide) ?_
  refine lv_aload_n hx hb dL_longest_2 rfl (lv_at hl 0 rfl) ?_
  refine lv_iload_n hx hb dL_longest_3 rfl (lv_at hl 1 rfl) ?_
  refine lv_iload_n hx hb dL_longest_4 rfl (lv_at hl 2 rfl) ?_
  have hPc := hP.sub (ws' := [(h0, .inr (12, [.ref h2, .int 0, .ref h3, .ref h4, .ref h5, .ref h6, .ref h7, .ref h8, .int (-1), .ref h9, .ref h10, .int 250, .ref h11, .int 0, .ref h12, .ref h13, .ref h14])), (h3, .inr (11, [.ref h15])), (h15, .inr (10, [.int 1, .int 20, .ref h16, .int 0])), (h4, .inl (g.2.1 3, 4, .inr (.inr (.inr (.inr (va_up (va_up (va_up (va_up (fun _ => none) 0 (some h17)) 1 (some h18)) 2 (some h19)) 3 (some h20))))))), (h17, .inr (6, [.ref h21, .ref h22, .ref h23, .int 0, .int 0, .int 0, .int 0, .int 0])), (h18, .inr (6, [.ref h24, .ref h25, .ref h26, .int 0, .int 0, .int 0, .int 0, .int 0])), (h19, .inr (6, [.ref h27, .ref h28, .ref h29, .int 0, .int 0, .int 0, .int 0, .int 0])), (h20, .inr (6, [.ref h30, .ref h31, .ref h32, .int 0, .int 0, .int 0, .int 0, .int 0]))]) [0, 1, 2, 3, 4, 5, 6, 7] rfl
  have hDc := hD.sub (ws' := [(h0, .inr (12, [.ref h2, .int 0, .ref h3, .ref h4, .ref h5, .ref h6, .ref h7, .ref h8, .int (-1), .ref h9, .ref h10, .int 250, .ref h11, .int 0, .ref h12, .ref h13, .ref h14])), (h3, .inr (11, [.ref h15])), (h15, .inr (10, [.int 1, .int 20, .ref h16, .int 0])), (h4, .inl (g.2.1 3, 4, .inr (.inr (.inr (.inr (va_up (va_up (va_up (va_up (fun _ => none) 0 (some h17)) 1 (some h18)) 2 (some h19)) 3 (some h20))))))), (h17, .inr (6, [.ref h21, .ref h22, .ref h23, .int 0, .int 0, .int 0, .int 0, .int 0])), (h18, .inr (6, [.ref h24, .ref h25, .ref h26, .int 0, .int 0, .int 0, .int 0, .int 0])), (h19, .inr (6, [.ref h27, .ref h28, .ref h29, .int 0, .int 0, .int 0, .int 0, .int 0])), (h20, .inr (6, [.ref h30, .ref h31, .ref h32, .int 0, .int 0, .int 0, .int 0, .int 0]))]) [0, 1, 2, 3, 4, 5, 6, 7] (by decide) rfl
  have hFc := va_free (wc := [(h0, .inr (12, [.ref h2, .int 0, .ref h3, .ref h4, .ref h5, .ref h6, .ref h7, .ref h8, .int (-1), .ref h9, .ref h10, .int 250, .ref h11, .int 0, .ref h12, .ref h13, .ref h14])), (h3, .inr (11, [.ref h15])), (h15, .inr (10, [.int 1, .int 20, .ref h16, .int 0])), (h4, .inl (g.2.1 3, 4, .inr (.inr (.inr (.inr (va_up (va_up (va_up (va_up (fun _ => none) 0 (some h17)) 1 (some h18)) 2 (some h19)) 3 (some h20))))))), (h17, .inr (6, [.ref h21, .ref h22, .ref h23, .int 0, .int 0, .int 0, .int 0, .int 0])), (h18, .inr (6, [.ref h24, .ref h25, .ref h26, .int 0, .int 0, .int 0, .int 0, .int 0])), (h19, .inr (6, [.ref h27, .ref h28, .ref h29, .int 0, .int 0, .int 0, .int 0, .int 0])), (h20, .inr (6, [.ref h30, .ref h31, .ref h32, .int 0, .int 0, .int 0, .int 0, .int 0]))]) hD hS hA [0, 1, 2, 3, 4, 5, 6, 7] rfl
  refine vx_callv (vx_runV (As := [.int v0, .int 0]) (rest := [.int 0, .ref h1]) ⟨hx, hb, hml, hown, hts⟩ (c9_X11_longest_5 l hlt g h0 h2 h3 h4 h5 h6 h7 h8 h9 h10 h11 h12 h13 h14 h15 h16 h17 h18 h19 h20 h21 h22 h23 h24 h25 h26 h27 h28 h29 h30 h31 h32 _ v0 (by omega)) (cwV 2 hts g9_L_longest_5_0 rfl rfl rfl (by decide +kernel) ⟨Nat.le_of_ble_eq_true rfl, Nat.le_of_ble_eq_true rfl⟩) (mPreV (g := g) (wc := [(h0, .inr (12, [.ref h2, .int 0, .ref h3, .ref h4, .ref h5, .ref h6, .ref h7, .ref h8, .int (-1), .ref h9, .ref h10, .int 250, .ref h11, .int 0, .ref h12, .ref h13, .ref h14])), (h3, .inr (11, [.ref h15])), (h15, .inr (10, [.int 1, .int 20, .ref h16, .int 0])), (h4, .inl (g.2.1 3, 4, .inr (.inr (.inr (.inr (va_up (va_up (va_up (va_up (fun _ => none) 0 (some h17)) 1 (some h18)) 2 (some h19)) 3 (some h20))))))), (h17, .inr (6, [.ref h21, .ref h22, .ref h23, .int 0, .int 0, .int 0, .int 0, .int 0])), (h18, .inr (6, [.ref h24, .ref h25, .ref h26, .int 0, .int 0, .int 0, .int 0, .int 0])), (h19, .inr (6, [.ref h27, .ref h28, .ref h29, .int 0, .int 0, .int 0, .int 0, .int 0])), (h20, .inr (6, [.ref h30, .ref h31, .ref h32, .int 0, .int 0, .int 0, .int 0, .int 0]))]) (C := RX11) (ci := 12) (q0 := 0) hE hS hPc hDc hFc rfl rfl) rfl rfl hl.1 rfl (lv_room (Nat.le_of_ble_eq_true rfl)) dL_longest_5 ⟨Nat.le_of_ble_eq_true rfl, Nat.le_of_ble_eq_true rfl⟩) hS (fun q _ h => hFc q h) hFc (fun q _ h => hFc q h) (fun E9 ce q9 u t H locs ht hvm hw hB hz1 hk1 hS hc1 hc2 hc3 => ?_) (fun u t H1 locs ht hvm hw hB hz1 hk1 hS => hw.elim)
  replace hB : E9 = "java/lang/IllegalStateException" := hB
  subst hB
  obtain ⟨hP, hD⟩ := va_join (wr := []) (w1 := []) hP hD [0, 1, 2, 3, 4, 5, 6, 7] [] rfl rfl (by decide) (by decide) hk1 hFc (fun k q h => by simp at h) ⟨fun i j p q h => by simp at h, fun k q h => by simp at h⟩
  have hP : va_P g.1 vwCl [] H := hP
  have hD : va_D A [] := hD
  refine vx_catch (own := RL) (name := "java/lang/IllegalStateException") hown [⟨0, 10, 13, 21⟩] ⟨0, 10, 17, 15⟩ [] (by rw [htab]; rfl) (fun z hz => by rcases List.mem_singleton.mp hz with rfl; exact Or.inr ⟨by decide, "java/lang/IndexOutOfBoundsException", (hts (.classLink RL 21 "java/lang/IndexOutOfBoundsException") (List.mem_of_getElem? (i := 84) rfl)), hE.nc ("java/lang/IllegalStateException", "java/lang/IndexOutOfBoundsException") (by decide)⟩) (by decide) (by decide) (hts (.classLink RL 15 "java/lang/IllegalStateException") (List.mem_of_getElem? (i := 85) rfl)) (va_Nw.use rfl (hE.cast ("java/lang/IllegalStateException", "java/lang/IllegalStateException") (by decide))) hc1 hc2 hc3 ?_
  refine lv_astore (lv' := [(4, .ref q9), (0, .ref h0), (1, .int v0), (2, .int 0), (3, .ref h1)]) hx hb dL_longest_17 hl (by decide) rfl (fun ls hl => ?_)
  refine lv_iconst (v := 2) hx hb dL_longest_19 (by decide) ?_
  have hP9 := hP.sub (ws' := []) [] rfl
  have hD9 := hD.sub (ws' := []) [] (by decide) rfl
  subst hAe
  exact W.iret (v := 2) hx hb hr (fun t ht hW => ⟨⟨2, (), rfl, rfl, by rw [ht]; exact hP9, hD9⟩, hS.F ht⟩) hS.2.2 dL_longest_20
def w9_X21_notRegular_5 : List Cond := [.code yX21_notRegular cX21_notRegular 4 (some .int), .methodLink RX21 416 yX21_unknownPlace, .instanceMethod yX21_unknownPlace, .selects RX21 yX21_unknownPlace yX21_unknownPlace, .initialized RX21, .code yX21_unknownPlace cX21_unknownPlace 4 (some .int), .methodLink RX21 160 yX21_in, .static yX21_in, .code yX21_in cX21_in 3 (some .boolean), .fieldLink RX21 196 "RegexloomModel" "length" "I", .fieldLink RX21 90 "RegexloomModel" "patterns" "[LRegexloomModel$Pattern;"] ++ (u_ws RX21 TX21 32)
set_option maxRecDepth 20000 in
theorem in9_X21_notRegular_5_RX21 : ∀ w ∈ u_ws RX21 TX21 32, w ∈ w9_X21_notRegular_5 := by decide +kernel
set_option maxRecDepth 20000 in
theorem g9_X21_notRegular_5_0 : GoodIn w9_X21_notRegular_5 (wsV RX21 416 RX21 yX21_unknownPlace w9_X21_unknownPlace_5) := goodIn_r _ [1, 2, 3, 4, 5, 6, 7, 4, 8, 9, 10, 11, 12, 13, 14, 15, 16, 17, 18, 19, 20, 21, 22, 23, 24, 25, 26, 27, 28, 29, 30, 31, 32, 33, 34, 35, 36, 37, 38, 39, 40, 41, 42] (by decide +kernel) (by decide +kernel)
set_option maxHeartbeats 4000000 in
set_option maxRecDepth 100000 in
theorem c9_X21_notRegular_5 (l : Launch) (g : G9) (h0 h1 h2 h3 h4 h5 h6 h7 h8 h9 h10 h11 h12 h13 h14 h15 h16 sz : Nat) (v0 : Int32) (k_v0 : 0 ≤ v0.toInt ∧ v0.toInt ≤ 3) : Met l yX21_notRegular w9_X21_notRegular_5 ({ frames := 2, cells := 0, slots := 0, locals := 45 }) (mP g [(h0, .inr (22, [.int 0, .ref h1, .int 0, .ref h2, .int 0, .ref h3, .int 250, .ref h4, .int 0, .ref h5, .ref h6, .ref h7, .int 0, .ref h8, .ref h9, .ref h10, .int 0, .null, .int 0, .null, .int 0, .int 0, .int 0, .ref h11, .int 0, .ref h12, .ref h13, .ref h14, .int 0, .ref h15, .ref h16, .int 0])), (h3, .inl (g.2.1 4, 4, .inr (.inr (.inr (.inr (fun _ => none))))))] sz [.ref h0, .int v0, .int 0]) (va_Qi (fun (r : Int32) (_ : Unit) => r = 2) (fun (_ : Unit) (t : State) => mB g [(h0, .inr (22, [.int 0, .ref h1, .int 0, .ref h2, .int 0, .ref h3, .int 250, .ref h4, .int 0, .ref h5, .ref h6, .ref h7, .int 0, .ref h8, .ref h9, .ref h10, .int 0, .null, .int 0, .null, .int 0, .int 0, .int 0, .ref h11, .int 0, .ref h12, .ref h13, .ref h14, .int 0, .ref h15, .ref h16, .int 0])), (h3, .inl (g.2.1 4, 4, .inr (.inr (.inr (.inr (fun _ => none))))))] sz [(h0, .inr (22, [.int 0, .ref h1, .int 0, .ref h2, .int 0, .ref h3, .int 250, .ref h4, .int 0, .ref h5, .ref h6, .ref h7, .int 0, .ref h8, .ref h9, .ref h10, .int 0, .null, .int 0, .null, .int 0, .int 0, .int 0, .ref h11, .int 0, .ref h12, .ref h13, .ref h14, .int 0, .ref h15, .ref h16, .int 0])), (h3, .inl (g.2.1 4, 4, .inr (.inr (.inr (.inr (fun _ => none))))))] t) (va_A [(h0, .inr (22, [.int 0, .ref h1, .int 0, .ref h2, .int 0, .ref h3, .int 250, .ref h4, .int 0, .ref h5, .ref h6, .ref h7, .int 0, .ref h8, .ref h9, .ref h10, .int 0, .null, .int 0, .null, .int 0, .int 0, .int 0, .ref h11, .int 0, .ref h12, .ref h13, .ref h14, .int 0, .ref h15, .ref h16, .int 0])), (h3, .inl (g.2.1 4, 4, .inr (.inr (.inr (.inr (fun _ => none))))))] sz)) 0 0 (va_A [(h0, .inr (22, [.int 0, .ref h1, .int 0, .ref h2, .int 0, .ref h3, .int 250, .ref h4, .int 0, .ref h5, .ref h6, .ref h7, .int 0, .ref h8, .ref h9, .ref h10, .int 0, .null, .int 0, .null, .int 0, .int 0, .int 0, .ref h11, .int 0, .ref h12, .ref h13, .ref h14, .int 0, .ref h15, .ref h16, .int 0])), (h3, .inl (g.2.1 4, 4, .inr (.inr (.inr (.inr (fun _ => none))))))] sz) := by
  refine Met.ofW (cc := cX21_notRegular) (maxL := 4) (ret := (some .int)) (by decide) rfl ?_
  intro p e s m args below meth c s₁ B hml hv
  obtain ⟨rfl, hsz, hP, hD0, hE⟩ := hv
  have hx := B.exec
  have hb := B.bytes
  have hr := B.returns
  have hts := atoms_spec (ws := w9_X21_notRegular_5) B.pre
  have hown : s.vm.findClass RX21 = some m.cls := findClass_of_methodNamed B.named
  have hlocks := B.notSynchronized
  subst hsz
  have hD := hD0.self (sz := s.heap.size)
  generalize hAe : va_A [(h0, .inr (22, [.int 0, .ref h1, .int 0, .ref h2, .int 0, .ref h3, .int 250, .ref h4, .int 0, .ref h5, .ref h6, .ref h7, .int 0, .ref h8, .ref h9, .ref h10, .int 0, .null, .int 0, .null, .int 0, .int 0, .int 0, .ref h11, .int 0, .ref h12, .ref h13, .ref h14, .int 0, .ref h15, .ref h16, .int 0])), (h3, .inl (g.2.1 4, 4, .inr (.inr (.inr (.inr (fun _ => none))))))] s.heap.size = A at hD hE ⊢
  have hA : ∀ q : Nat, s.heap.size ≤ q → A q := fun q h => by rw [← hAe]; exact Or.inr h
  have hK := hE.1
  have hS : va_S A s.heap s.heap [] := va_S.rf
  replace hP : va_P g.1 vwCl [(h0, .inr (22, [.int 0, .ref h1, .int 0, .ref h2, .int 0, .ref h3, .int 250, .ref h4, .int 0, .ref h5, .ref h6, .ref h7, .int 0, .ref h8, .ref h9, .ref h10, .int 0, .null, .int 0, .null, .int 0, .int 0, .int 0, .ref h11, .int 0, .ref h12, .ref h13, .ref h14, .int 0, .ref h15, .ref h16, .int 0])), (h3, .inl (g.2.1 4, 4, .inr (.inr (.inr (.inr (fun _ => none))))))] s.heap := hP
  have hl := lv_entry ([.ref h0, .int v0, .int 0]) (n := 4) (Nat.le_of_ble_eq_true rfl)
  rw [lg_entry_eq]
  generalize (lg_sl ([.ref h0, .int v0, .int 0]) ++ List.replicate (4 - (lg_sl ([.ref h0, .int v0, .int 0])).length) Slot.unset).toArray = ls at hl ⊢
  replace hl : lv_has ls 4 [(0, .ref h0), (1, .int v0), (2, .int 0)] := hl
  have hH0 : s.heap.size ≤ s.heap.size := Nat.le_refl _
  refine lv_aload_n hx hb dX21_notRegular_0 rfl (lv_at hl 0 rfl) ?_
  refine lv_iload_n hx hb dX21_notRegular_1 rfl (lv_at hl 1 rfl) ?_
  refine lv_iload_n hx hb dX21_notRegular_2 rfl (lv_at hl 2 rfl) ?_
  have hPc := hP.sub (ws' := [(h0, .inr (22, [.int 0, .ref h1, .int 0, .ref h2, .int 0, .ref h3, .int 250, .ref h4, .int 0, .ref h5, .ref h6, .ref h7, .int 0, .ref h8, .ref h9, .ref h10, .int 0, .null, .int 0, .null, .int 0, .int 0, .int 0, .ref h11, .int 0, .ref h12, .ref h13, .ref h14, .int 0, .ref h15, .ref h16, .int 0])), (h3, .inl (g.2.1 4, 4, .inr (.inr (.inr (.inr (fun _ => none))))))]) [0, 1] rfl
  have hDc := hD.sub (ws' := [(h0, .inr (22, [.int 0, .ref h1, .int 0, .ref h2, .int 0, .ref h3, .int 250, .ref h4, .int 0, .ref h5, .ref h6, .ref h7, .int 0, .ref h8, .ref h9, .ref h10, .int 0, .null, .int 0, .null, .int 0, .int 0, .int 0, .ref h11, .int 0, .ref h12, .ref h13, .ref h14, .int 0, .ref h15, .ref h16, .int 0])), (h3, .inl (g.2.1 4, 4, .inr (.inr (.inr (.inr (fun _ => none))))))]) [0, 1] (by decide) rfl
  have hFc := va_free (wc := [(h0, .inr (22, [.int 0, .ref h1, .int 0, .ref h2, .int 0, .ref h3, .int 250, .ref h4, .int 0, .ref h5, .ref h6, .ref h7, .int 0, .ref h8, .ref h9, .ref h10, .int 0, .null, .int 0, .null, .int 0, .int 0, .int 0, .ref h11, .int 0, .ref h12, .ref h13, .ref h14, .int 0, .ref h15, .ref h16, .int 0])), (h3, .inl (g.2.1 4, 4, .inr (.inr (.inr (.inr (fun _ => none))))))]) hD hS hA [0, 1] rfl
  refine va_calli (va_runV (As := [.int v0, .int 0]) (rest := []) ⟨hx, hb, hml, hown, hts⟩ (c9_X21_unknownPlace_5 l g h0 h1 h2 h3 h4 h5 h6 h7 h8 h9 h10 h11 h12 h13 h14 h15 h16 _ v0 (by omega)) (cwV 2 hts g9_X21_notRegular_5_0 rfl rfl rfl (by decide +kernel) ⟨Nat.le_of_ble_eq_true rfl, Nat.le_of_ble_eq_true rfl⟩) (mPreV (g := g) (wc := [(h0, .inr (22, [.int 0, .ref h1, .int 0, .ref h2, .int 0, .ref h3, .int 250, .ref h4, .int 0, .ref h5, .ref h6, .ref h7, .int 0, .ref h8, .ref h9, .ref h10, .int 0, .null, .int 0, .null, .int 0, .int 0, .int 0, .ref h11, .int 0, .ref h12, .ref h13, .ref h14, .int 0, .ref h15, .ref h16, .int 0])), (h3, .inl (g.2.1 4, 4, .inr (.inr (.inr (.inr (fun _ => none))))))]) (C := RX21) (ci := 22) (q0 := 0) hE hS hPc hDc hFc rfl rfl) rfl rfl hl.1 rfl (lv_room (Nat.le_of_ble_eq_true rfl)) dX21_notRegular_3 ⟨Nat.le_of_ble_eq_true rfl, Nat.le_of_ble_eq_true rfl⟩) hS (fun q _ h => hFc q h) hFc (fun r_1 u t H1 locs ht hvm hw hB hz1 hk1 hS => ?_)
  replace hw : 2 = r_1 := Eq.symm hw
  subst hw
  obtain ⟨hP1, hD1⟩ := hB
  rw [ht] at hP1
  obtain ⟨hP, hD⟩ := va_join (wr := []) (w1 := [(h0, .inr (22, [.int 0, .ref h1, .int 0, .ref h2, .int 0, .ref h3, .int 250, .ref h4, .int 0, .ref h5, .ref h6, .ref h7, .int 0, .ref h8, .ref h9, .ref h10, .int 0, .null, .int 0, .null, .int 0, .int 0, .int 0, .ref h11, .int 0, .ref h12, .ref h13, .ref h14, .int 0, .ref h15, .ref h16, .int 0])), (h3, .inl (g.2.1 4, 4, .inr (.inr (.inr (.inr (fun _ => none))))))]) hP hD [0, 1] [] rfl rfl (by decide) (by decide) hk1 hFc hP1 hD1
  clear hP1 hD1 hPc hDc hFc hk1 hz1 hvm ht
  generalize H1 = H at hP hS ⊢
  have hP : va_P g.1 vwCl [(h0, .inr (22, [.int 0, .ref h1, .int 0, .ref h2, .int 0, .ref h3, .int 250, .ref h4, .int 0, .ref h5, .ref h6, .ref h7, .int 0, .ref h8, .ref h9, .ref h10, .int 0, .null, .int 0, .null, .int 0, .int 0, .int 0, .ref h11, .int 0, .ref h12, .ref h13, .ref h14, .int 0, .ref h15, .ref h16, .int 0])), (h3, .inl (g.2.1 4, 4, .inr (.inr (.inr (.inr (fun _ => none))))))] H := hP
  have hD : va_D A [(h0, .inr (22, [.int 0, .ref h1, .int 0, .ref h2, .int 0, .ref h3, .int 250, .ref h4, .int 0, .ref h5, .ref h6, .ref h7, .int 0, .ref h8, .ref h9, .ref h10, .int 0, .null, .int 0, .null, .int 0, .int 0, .int 0, .ref h11, .int 0, .ref h12, .ref h13, .ref h14, .int 0, .ref h15, .ref h16, .int 0])), (h3, .inl (g.2.1 4, 4, .inr (.inr (.inr (.inr (fun _ => none))))))] := hD
  refine lv_istore_n (lv' := [(3, .int 2), (0, .ref h0), (1, .int v0), (2, .int 0)]) hx hb dX21_notRegular_6 rfl hl (by decide) rfl (fun ls hl => ?_)
  refine lv_iload_n hx hb dX21_notRegular_7 rfl (lv_at hl 0 rfl) ?_
  refine lv_if_ne (tgt := 27) hx hb dX21_notRegular_8 (by decide) (fun _ => ?_) (fun c9 => absurd c9 (by decide))
  refine lv_iload_n hx hb dX21_notRegular_27 rfl (lv_at hl 0 rfl) ?_
  have hP9 := hP.sub (ws' := [(h0, .inr (22, [.int 0, .ref h1, .int 0, .ref h2, .int 0, .ref h3, .int 250, .ref h4, .int 0, .ref h5, .ref h6, .ref h7, .int 0, .ref h8, .ref h9, .ref h10, .int 0, .null, .int 0, .null, .int 0, .int 0, .int 0, .ref h11, .int 0, .ref h12, .ref h13, .ref h14, .int 0, .ref h15, .ref h16, .int 0])), (h3, .inl (g.2.1 4, 4, .inr (.inr (.inr (.inr (fun _ => none))))))]) [0, 1] rfl
  have hD9 := hD.sub (ws' := [(h0, .inr (22, [.int 0, .ref h1, .int 0, .ref h2, .int 0, .ref h3, .int 250, .ref h4, .int 0, .ref h5, .ref h6, .ref h7, .int 0, .ref h8, .ref h9, .ref h10, .int 0, .null, .int 0, .null, .int 0, .int 0, .int 0, .ref h11, .int 0, .ref h12, .ref h13, .ref h14, .int 0, .ref h15, .ref h16, .int 0])), (h3, .inl (g.2.1 4, 4, .inr (.inr (.inr (.inr (fun _ => none))))))]) [0, 1] (by decide) rfl
  subst hAe
  exact W.iret (v := 2) hx hb hr (fun t ht hW => ⟨⟨2, (), rfl, rfl, by rw [ht]; exact hP9, hD9⟩, hS.F ht⟩) hS.2.2 dX21_notRegular_28
def w9_X21_longest_5 : List Cond := [.code yX21_longest cX21_longest 10 (some .int), .methodLink RX21 550 yX21_notRegular, .instanceMethod yX21_notRegular, .selects RX21 yX21_notRegular yX21_notRegular, .initialized RX21, .code yX21_notRegular cX21_notRegular 4 (some .int), .methodLink RX21 416 yX21_unknownPlace, .instanceMethod yX21_unknownPlace, .selects RX21 yX21_unknownPlace yX21_unknownPlace, .code yX21_unknownPlace cX21_unknownPlace 4 (some .int), .methodLink RX21 160 yX21_in, .static yX21_in, .code yX21_in cX21_in 3 (some .boolean), .fieldLink RX21 196 "RegexloomModel" "length" "I", .fieldLink RX21 90 "RegexloomModel" "patterns" "[LRegexloomModel$Pattern;", .methodLink RX21 154 yX21_refused, .instanceMethod yX21_refused, .selects RX21 yX21_refused yX21_refused, .code yX21_refused cX21_refused 2 (some .boolean), .fieldLink RX21 144 "RegexloomModel" "refusal" "I"] ++ (u_ws RX21 TX21 32)
set_option maxRecDepth 20000 in
theorem in9_X21_longest_5_RX21 : ∀ w ∈ u_ws RX21 TX21 32, w ∈ w9_X21_longest_5 := by decide +kernel
set_option maxRecDepth 20000 in
theorem g9_X21_longest_5_0 : GoodIn w9_X21_longest_5 (wsV RX21 550 RX21 yX21_notRegular w9_X21_notRegular_5) := goodIn_r _ [1, 2, 3, 4, 5, 6, 7, 8, 4, 9, 10, 11, 12, 13, 14, 20, 21, 22, 23, 24, 25, 26, 27, 28, 29, 30, 31, 32, 33, 34, 35, 36, 37, 38, 39, 40, 41, 42, 43, 44, 45, 46, 47, 48, 49, 50, 51] (by decide +kernel) (by decide +kernel)
set_option maxRecDepth 20000 in
theorem g9_X21_longest_5_1 : GoodIn w9_X21_longest_5 (wsV RX21 154 RX21 yX21_refused w9_X21_refused_3) := goodIn_r _ [15, 16, 17, 4, 18, 19, 20, 21, 22, 23, 24, 25, 26, 27, 28, 29, 30, 31, 32, 33, 34, 35, 36, 37, 38, 39, 40, 41, 42, 43, 44, 45, 46, 47, 48, 49, 50, 51] (by decide +kernel) (by decide +kernel)
set_option maxHeartbeats 4000000 in
set_option maxRecDepth 100000 in
theorem c9_X21_longest_5 (l : Launch) (g : G9) (h0 h1 h2 h3 h4 h5 h6 h7 h8 h9 h10 h11 h12 h13 h14 h15 h16 sz : Nat) (v0 : Int32) (k_v0 : 0 ≤ v0.toInt ∧ v0.toInt ≤ 3) : Met l yX21_longest w9_X21_longest_5 ({ frames := 3, cells := 0, slots := 0, locals := 68 }) (mP g [(h0, .inr (22, [.int 0, .ref h1, .int 0, .ref h2, .int 0, .ref h3, .int 250, .ref h4, .int 0, .ref h5, .ref h6, .ref h7, .int 0, .ref h8, .ref h9, .ref h10, .int 0, .null, .int 0, .null, .int 0, .int 0, .int 0, .ref h11, .int 0, .ref h12, .ref h13, .ref h14, .int 0, .ref h15, .ref h16, .int 0])), (h3, .inl (g.2.1 4, 4, .inr (.inr (.inr (.inr (fun _ => none))))))] sz [.ref h0, .int v0, .int 0]) (va_Qi (fun (r : Int32) (_ : Unit) => r = 0) (fun (_ : Unit) (t : State) => mB g [(h0, .inr (22, [.int 0, .ref h1, .int 0, .ref h2, .int 0, .ref h3, .int 250, .ref h4, .int 0, .ref h5, .ref h6, .ref h7, .int 0, .ref h8, .ref h9, .ref h10, .int 0, .null, .int 0, .null, .int 0, .int 0, .int 0, .ref h11, .int 0, .ref h12, .ref h13, .ref h14, .int 0, .ref h15, .ref h16, .int 0])), (h3, .inl (g.2.1 4, 4, .inr (.inr (.inr (.inr (fun _ => none))))))] sz [(h0, .inr (22, [.int 2, .ref h1, .int 0, .ref h2, .int 0, .ref h3, .int 250, .ref h4, .int 0, .ref h5, .ref h6, .ref h7, .int 0, .ref h8, .ref h9, .ref h10, .int 0, .null, .int 0, .null, .int 0, .int 0, .int 0, .ref h11, .int 0, .ref h12, .ref h13, .ref h14, .int 0, .ref h15, .ref h16, .int 0])), (h3, .inl (g.2.1 4, 4, .inr (.inr (.inr (.inr (fun _ => none))))))] t) (va_A [(h0, .inr (22, [.int 0, .ref h1, .int 0, .ref h2, .int 0, .ref h3, .int 250, .ref h4, .int 0, .ref h5, .ref h6, .ref h7, .int 0, .ref h8, .ref h9, .ref h10, .int 0, .null, .int 0, .null, .int 0, .int 0, .int 0, .ref h11, .int 0, .ref h12, .ref h13, .ref h14, .int 0, .ref h15, .ref h16, .int 0])), (h3, .inl (g.2.1 4, 4, .inr (.inr (.inr (.inr (fun _ => none))))))] sz)) 0 0 (va_A [(h0, .inr (22, [.int 0, .ref h1, .int 0, .ref h2, .int 0, .ref h3, .int 250, .ref h4, .int 0, .ref h5, .ref h6, .ref h7, .int 0, .ref h8, .ref h9, .ref h10, .int 0, .null, .int 0, .null, .int 0, .int 0, .int 0, .ref h11, .int 0, .ref h12, .ref h13, .ref h14, .int 0, .ref h15, .ref h16, .int 0])), (h3, .inl (g.2.1 4, 4, .inr (.inr (.inr (.inr (fun _ => none))))))] sz) := by
  refine Met.ofW (cc := cX21_longest) (maxL := 10) (ret := (some .int)) (by decide) rfl ?_
  intro p e s m args below meth c s₁ B hml hv
  obtain ⟨rfl, hsz, hP, hD0, hE⟩ := hv
  have hx := B.exec
  have hb := B.bytes
  have hr := B.returns
  have hts := atoms_spec (ws := w9_X21_longest_5) B.pre
  have hown : s.vm.findClass RX21 = some m.cls := findClass_of_methodNamed B.named
  have hlocks := B.notSynchronized
  subst hsz
  have hD := hD0.self (sz := s.heap.size)
  generalize hAe : va_A [(h0, .inr (22, [.int 0, .ref h1, .int 0, .ref h2, .int 0, .ref h3, .int 250, .ref h4, .int 0, .ref h5, .ref h6, .ref h7, .int 0, .ref h8, .ref h9, .ref h10, .int 0, .null, .int 0, .null, .int 0, .int 0, .int 0, .ref h11, .int 0, .ref h12, .ref h13, .ref h14, .int 0, .ref h15, .ref h16, .int 0])), (h3, .inl (g.2.1 4, 4, .inr (.inr (.inr (.inr (fun _ => none))))))] s.heap.size = A at hD hE ⊢
  have hA : ∀ q : Nat, s.heap.size ≤ q → A q := fun q h => by rw [← hAe]; exact Or.inr h
  have hK := hE.1
  have hS : va_S A s.heap s.heap [] := va_S.rf
  replace hP : va_P g.1 vwCl [(h0, .inr (22, [.int 0, .ref h1, .int 0, .ref h2, .int 0, .ref h3, .int 250, .ref h4, .int 0, .ref h5, .ref h6, .ref h7, .int 0, .ref h8, .ref h9, .ref h10, .int 0, .null, .int 0, .null, .int 0, .int 0, .int 0, .ref h11, .int 0, .ref h12, .ref h13, .ref h14, .int 0, .ref h15, .ref h16, .int 0])), (h3, .inl (g.2.1 4, 4, .inr (.inr (.inr (.inr (fun _ => none))))))] s.heap := hP
  have hl := lv_entry ([.ref h0, .int v0, .int 0]) (n := 10) (Nat.le_of_ble_eq_true rfl)
  rw [lg_entry_eq]
  generalize (lg_sl ([.ref h0, .int v0, .int 0]) ++ List.replicate (10 - (lg_sl ([.ref h0, .int v0, .int 0])).length) Slot.unset).toArray = ls at hl ⊢
  replace hl : lv_has ls 10 [(0, .ref h0), (1, .int v0), (2, .int 0)] := hl
  have hH0 : s.heap.size ≤ s.heap.size := Nat.le_refl _
  refine lv_aload_n hx hb dX21_longest_0 rfl (lv_at hl 0 rfl) ?_
  refine lv_aload_n hx hb dX21_longest_1 rfl (lv_at hl 0 rfl) ?_
  refine lv_iload_n hx hb dX21_longest_2 rfl (lv_at hl 1 rfl) ?_
  refine lv_iload_n hx hb dX21_longest_3 rfl (lv_at hl 2 rfl) ?_
  have hPc := hP.sub (ws' := [(h0, .inr (22, [.int 0, .ref h1, .int 0, .ref h2, .int 0, .ref h3, .int 250, .ref h4, .int 0, .ref h5, .ref h6, .ref h7, .int 0, .ref h8, .ref h9, .ref h10, .int 0, .null, .int 0, .null, .int 0, .int 0, .int 0, .ref h11, .int 0, .ref h12, .ref h13, .ref h14, .int 0, .ref h15, .ref h16, .int 0])), (h3, .inl (g.2.1 4, 4, .inr (.inr (.inr (.inr (fun _ => none))))))]) [0, 1] rfl
  have hDc := hD.sub (ws' := [(h0, .inr (22, [.int 0, .ref h1, .int 0, .ref h2, .int 0, .ref h3, .int 250, .ref h4, .int 0, .ref h5, .ref h6, .ref h7, .int 0, .ref h8, .ref h9, .ref h10, .int 0, .null, .int 0, .null, .int 0, .int 0, .int 0, .ref h11, .int 0, .ref h12, .ref h13, .ref h14, .int 0, .ref h15, .ref h16, .int 0])), (h3, .inl (g.2.1 4, 4, .inr (.inr (.inr (.inr (fun _ => none))))))]) [0, 1] (by decide) rfl
  have hFc := va_free (wc := [(h0, .inr (22, [.int 0, .ref h1, .int 0, .ref h2, .int 0, .ref h3, .int 250, .ref h4, .int 0, .ref h5, .ref h6, .ref h7, .int 0, .ref h8, .ref h9, .ref h10, .int 0, .null, .int 0, .null, .int 0, .int 0, .int 0, .ref h11, .int 0, .ref h12, .ref h13, .ref h14, .int 0, .ref h15, .ref h16, .int 0])), (h3, .inl (g.2.1 4, 4, .inr (.inr (.inr (.inr (fun _ => none))))))]) hD hS hA [0, 1] rfl
  refine va_calli (va_runV (As := [.int v0, .int 0]) (rest := [.ref h0]) ⟨hx, hb, hml, hown, hts⟩ (c9_X21_notRegular_5 l g h0 h1 h2 h3 h4 h5 h6 h7 h8 h9 h10 h11 h12 h13 h14 h15 h16 _ v0 (by omega)) (cwV 2 hts g9_X21_longest_5_0 rfl rfl rfl (by decide +kernel) ⟨Nat.le_of_ble_eq_true rfl, Nat.le_of_ble_eq_true rfl⟩) (mPreV (g := g) (wc := [(h0, .inr (22, [.int 0, .ref h1, .int 0, .ref h2, .int 0, .ref h3, .int 250, .ref h4, .int 0, .ref h5, .ref h6, .ref h7, .int 0, .ref h8, .ref h9, .ref h10, .int 0, .null, .int 0, .null, .int 0, .int 0, .int 0, .ref h11, .int 0, .ref h12, .ref h13, .ref h14, .int 0, .ref h15, .ref h16, .int 0])), (h3, .inl (g.2.1 4, 4, .inr (.inr (.inr (.inr (fun _ => none))))))]) (C := RX21) (ci := 22) (q0 := 0) hE hS hPc hDc hFc rfl rfl) rfl rfl hl.1 rfl (lv_room (Nat.le_of_ble_eq_true rfl)) dX21_longest_4 ⟨Nat.le_of_ble_eq_true rfl, Nat.le_of_ble_eq_true rfl⟩) hS (fun q _ h => hFc q h) hFc (fun r_1 u t H1 locs ht hvm hw hB hz1 hk1 hS => ?_)
  replace hw : 2 = r_1 := Eq.symm hw
  subst hw
  obtain ⟨hP1, hD1⟩ := hB
  rw [ht] at hP1
  obtain ⟨hP, hD⟩ := va_join (wr := []) (w1 := [(h0, .inr (22, [.int 0, .ref h1, .int 0, .ref h2, .int 0, .ref h3, .int 250, .ref h4, .int 0, .ref h5, .ref h6, .ref h7, .int 0, .ref h8, .ref h9, .ref h10, .int 0, .null, .int 0, .null, .int 0, .int 0, .int 0, .ref h11, .int 0, .ref h12, .ref h13, .ref h14, .int 0, .ref h15, .ref h16, .int 0])), (h3, .inl (g.2.1 4, 4, .inr (.inr (.inr (.inr (fun _ => none))))))]) hP hD [0, 1] [] rfl rfl (by decide) (by decide) hk1 hFc hP1 hD1
  clear hP1 hD1 hPc hDc hFc hk1 hz1 hvm ht
  generalize H1 = H at hP hS ⊢
  have hP : va_P g.1 vwCl [(h0, .inr (22, [.int 0, .ref h1, .int 0, .ref h2, .int 0, .ref h3, .int 250, .ref h4, .int 0, .ref h5, .ref h6, .ref h7, .int 0, .ref h8, .ref h9, .ref h10, .int 0, .null, .int 0, .null, .int 0, .int 0, .int 0, .ref h11, .int 0, .ref h12, .ref h13, .ref h14, .int 0, .ref h15, .ref h16, .int 0])), (h3, .inl (g.2.1 4, 4, .inr (.inr (.inr (.inr (fun _ => none))))))] H := hP
  have hD : va_D A [(h0, .inr (22, [.int 0, .ref h1, .int 0, .ref h2, .int 0, .ref h3, .int 250, .ref h4, .int 0, .ref h5, .ref h6, .ref h7, .int 0, .ref h8, .ref h9, .ref h10, .int 0, .null, .int 0, .null, .int 0, .int 0, .int 0, .ref h11, .int 0, .ref h12, .ref h13, .ref h14, .int 0, .ref h15, .ref h16, .int 0])), (h3, .inl (g.2.1 4, 4, .inr (.inr (.inr (.inr (fun _ => none))))))] := hD
  have hPc := hP.sub (ws' := [(h0, .inr (22, [.int 0, .ref h1, .int 0, .ref h2, .int 0, .ref h3, .int 250, .ref h4, .int 0, .ref h5, .ref h6, .ref h7, .int 0, .ref h8, .ref h9, .ref h10, .int 0, .null, .int 0, .null, .int 0, .int 0, .int 0, .ref h11, .int 0, .ref h12, .ref h13, .ref h14, .int 0, .ref h15, .ref h16, .int 0]))]) [0] rfl
  have hDc := hD.sub (ws' := [(h0, .inr (22, [.int 0, .ref h1, .int 0, .ref h2, .int 0, .ref h3, .int 250, .ref h4, .int 0, .ref h5, .ref h6, .ref h7, .int 0, .ref h8, .ref h9, .ref h10, .int 0, .null, .int 0, .null, .int 0, .int 0, .int 0, .ref h11, .int 0, .ref h12, .ref h13, .ref h14, .int 0, .ref h15, .ref h16, .int 0]))]) [0] (by decide) rfl
  have hFc := va_free (wc := [(h0, .inr (22, [.int 0, .ref h1, .int 0, .ref h2, .int 0, .ref h3, .int 250, .ref h4, .int 0, .ref h5, .ref h6, .ref h7, .int 0, .ref h8, .ref h9, .ref h10, .int 0, .null, .int 0, .null, .int 0, .int 0, .int 0, .ref h11, .int 0, .ref h12, .ref h13, .ref h14, .int 0, .ref h15, .ref h16, .int 0]))]) hD hS hA [0] rfl
  refine va_calli (va_runV (As := [.int 2]) (rest := []) ⟨hx, hb, hml, hown, hts⟩ (c9_X21_refused_3 l g h0 h1 h2 h3 h4 h5 h6 h7 h8 h9 h10 h11 h12 h13 h14 h15 h16 _) (cwV 1 hts g9_X21_longest_5_1 rfl rfl rfl (by decide +kernel) ⟨Nat.le_of_ble_eq_true rfl, Nat.le_of_ble_eq_true rfl⟩) (mPreV (g := g) (wc := [(h0, .inr (22, [.int 0, .ref h1, .int 0, .ref h2, .int 0, .ref h3, .int 250, .ref h4, .int 0, .ref h5, .ref h6, .ref h7, .int 0, .ref h8, .ref h9, .ref h10, .int 0, .null, .int 0, .null, .int 0, .int 0, .int 0, .ref h11, .int 0, .ref h12, .ref h13, .ref h14, .int 0, .ref h15, .ref h16, .int 0]))]) (C := RX21) (ci := 22) (q0 := 0) hE hS hPc hDc hFc rfl rfl) rfl rfl hl.1 rfl (lv_room (Nat.le_of_ble_eq_true rfl)) dX21_longest_7 ⟨Nat.le_of_ble_eq_true rfl, Nat.le_of_ble_eq_true rfl⟩) hS (fun q _ h => hFc q h) hFc (fun r_2 u t H1 locs ht hvm hw hB hz1 hk1 hS => ?_)
  replace hw : 1 = r_2 := Eq.symm hw
  subst hw
  obtain ⟨hP1, hD1⟩ := hB
  rw [ht] at hP1
  obtain ⟨hP, hD⟩ := va_join (wr := [(h3, .inl (g.2.1 4, 4, .inr (.inr (.inr (.inr (fun _ => none))))))]) (w1 := [(h0, .inr (22, [.int 2, .ref h1, .int 0, .ref h2, .int 0, .ref h3, .int 250, .ref h4, .int 0, .ref h5, .ref h6, .ref h7, .int 0, .ref h8, .ref h9, .ref h10, .int 0, .null, .int 0, .null, .int 0, .int 0, .int 0, .ref h11, .int 0, .ref h12, .ref h13, .ref h14, .int 0, .ref h15, .ref h16, .int 0]))]) hP hD [0] [1] rfl rfl (by decide) (by decide) hk1 hFc hP1 hD1
  clear hP1 hD1 hPc hDc hFc hk1 hz1 hvm ht
  generalize H1 = H at hP hS ⊢
  have hP : va_P g.1 vwCl [(h3, .inl (g.2.1 4, 4, .inr (.inr (.inr (.inr (fun _ => none)))))), (h0, .inr (22, [.int 2, .ref h1, .int 0, .ref h2, .int 0, .ref h3, .int 250, .ref h4, .int 0, .ref h5, .ref h6, .ref h7, .int 0, .ref h8, .ref h9, .ref h10, .int 0, .null, .int 0, .null, .int 0, .int 0, .int 0, .ref h11, .int 0, .ref h12, .ref h13, .ref h14, .int 0, .ref h15, .ref h16, .int 0]))] H := hP
  have hD : va_D A [(h3, .inl (g.2.1 4, 4, .inr (.inr (.inr (.inr (fun _ => none)))))), (h0, .inr (22, [.int 2, .ref h1, .int 0, .ref h2, .int 0, .ref h3, .int 250, .ref h4, .int 0, .ref h5, .ref h6, .ref h7, .int 0, .ref h8, .ref h9, .ref h10, .int 0, .null, .int 0, .null, .int 0, .int 0, .int 0, .ref h11, .int 0, .ref h12, .ref h13, .ref h14, .int 0, .ref h15, .ref h16, .int 0]))] := hD
  refine lv_if_eq (tgt := 15) hx hb dX21_longest_10 (by decide) (fun c9 => absurd c9 (by decide)) (fun _ => ?_)
  refine lv_iconst (v := 0) hx hb dX21_longest_13 (by decide) ?_
  have hP9 := hP.sub (ws' := [(h0, .inr (22, [.int 2, .ref h1, .int 0, .ref h2, .int 0, .ref h3, .int 250, .ref h4, .int 0, .ref h5, .ref h6, .ref h7, .int 0, .ref h8, .ref h9, .ref h10, .int 0, .null, .int 0, .null, .int 0, .int 0, .int 0, .ref h11, .int 0, .ref h12, .ref h13, .ref h14, .int 0, .ref h15, .ref h16, .int 0])), (h3, .inl (g.2.1 4, 4, .inr (.inr (.inr (.inr (fun _ => none))))))]) [1, 0] rfl
  have hD9 := hD.sub (ws' := [(h0, .inr (22, [.int 2, .ref h1, .int 0, .ref h2, .int 0, .ref h3, .int 250, .ref h4, .int 0, .ref h5, .ref h6, .ref h7, .int 0, .ref h8, .ref h9, .ref h10, .int 0, .null, .int 0, .null, .int 0, .int 0, .int 0, .ref h11, .int 0, .ref h12, .ref h13, .ref h14, .int 0, .ref h15, .ref h16, .int 0])), (h3, .inl (g.2.1 4, 4, .inr (.inr (.inr (.inr (fun _ => none))))))]) [1, 0] (by decide) rfl
  subst hAe
  exact W.iret (v := 0) hx hb hr (fun t ht hW => ⟨⟨0, (), rfl, rfl, by rw [ht]; exact hP9, hD9⟩, hS.F ht⟩) hS.2.2 dX21_longest_14
def w9_X11_canStill_1 : List Cond := [.code yX11_canStill cX11_canStill 3 (some .boolean), .methodLink RX11 124 yX11_needPattern, .instanceMethod yX11_needPattern, .selects RX11 yX11_needPattern yX11_needPattern, .initialized RX11, .code yX11_needPattern cX11_needPattern 2 none, .initialized "java/lang/Throwable", .superclass "java/lang/Throwable" "java/lang/Object", .instanceMethod Bundle.tFill, .codeSync Bundle.tFill LibCode.Throwable.Fill.code 1 (some (.object "java/lang/Throwable")), .instanceMethod Bundle.tFill0, .native Bundle.tFill0, .instanceMethod Bundle.tInit0, .code Bundle.tInit0 LibCode.Throwable.Init0.code 1 none, .instanceMethod Bundle.oInit, .code Bundle.oInit ⟨#[0xb1]⟩ 1 none, .methodLink "java/lang/Throwable" 1 Bundle.oInit, .methodLink "java/lang/Throwable" 27 Bundle.tFill, .methodLink "java/lang/Throwable" 202 Bundle.tFill0, .fieldLink "java/lang/Throwable" 7 "java/lang/Throwable" "cause" "Ljava/lang/Throwable;", .lays "java/lang/Throwable" "java/lang/Throwable" "cause" "Ljava/lang/Throwable;", .fieldLink "java/lang/Throwable" 17 "java/lang/Throwable" "stackTrace" "[Ljava/lang/StackTraceElement;", .lays "java/lang/Throwable" "java/lang/Throwable" "stackTrace" "[Ljava/lang/StackTraceElement;", .fieldLink "java/lang/Throwable" 24 "java/lang/Throwable" "suppressedExceptions" "Ljava/util/List;", .lays "java/lang/Throwable" "java/lang/Throwable" "suppressedExceptions" "Ljava/util/List;", .fieldLink "java/lang/Throwable" 13 "java/lang/Throwable" "UNASSIGNED_STACK" "[Ljava/lang/StackTraceElement;", .fieldLink "java/lang/Throwable" 20 "java/lang/Throwable" "SUPPRESSED_SENTINEL" "Ljava/util/List;", .lays "java/lang/Throwable" "java/lang/Throwable" "detailMessage" "Ljava/lang/String;", .instanceMethod (Bundle.initS "java/lang/Throwable"), .code (Bundle.initS "java/lang/Throwable") LibCode.Throwable.InitS.code 2 none, .fieldLink "java/lang/Throwable" 31 "java/lang/Throwable" "detailMessage" "Ljava/lang/String;", .instanceMethod (Bundle.initS "java/lang/IndexOutOfBoundsException"), .code (Bundle.initS "java/lang/IndexOutOfBoundsException") Bundle.six 2 none, .methodLink "java/lang/IndexOutOfBoundsException" 7 (Bundle.initS "java/lang/RuntimeException"), .instanceMethod (Bundle.initS "java/lang/RuntimeException"), .code (Bundle.initS "java/lang/RuntimeException") Bundle.six 2 none, .methodLink "java/lang/RuntimeException" 7 (Bundle.initS "java/lang/Exception"), .instanceMethod (Bundle.initS "java/lang/Exception"), .code (Bundle.initS "java/lang/Exception") Bundle.six 2 none, .methodLink "java/lang/Exception" 7 (Bundle.initS "java/lang/Throwable"), .methodLink RX11 224 (Bundle.initS "java/lang/IndexOutOfBoundsException"), .instantiable "java/lang/IndexOutOfBoundsException" 6, .selects "java/lang/IndexOutOfBoundsException" Bundle.tFill0 Bundle.tFill0, .selects "java/lang/IndexOutOfBoundsException" Bundle.tFill Bundle.tFill, .lays "java/lang/IndexOutOfBoundsException" "java/lang/Throwable" "cause" "Ljava/lang/Throwable;", .lays "java/lang/IndexOutOfBoundsException" "java/lang/Throwable" "stackTrace" "[Ljava/lang/StackTraceElement;", .lays "java/lang/IndexOutOfBoundsException" "java/lang/Throwable" "suppressedExceptions" "Ljava/util/List;", .lays "java/lang/IndexOutOfBoundsException" "java/lang/Throwable" "detailMessage" "Ljava/lang/String;", .fieldLink "java/lang/Throwable" 198 "java/lang/Throwable" "backtrace" "Ljava/lang/Object;", .lays "java/lang/Throwable" "java/lang/Throwable" "backtrace" "Ljava/lang/Object;", .lays "java/lang/IndexOutOfBoundsException" "java/lang/Throwable" "backtrace" "Ljava/lang/Object;", .classLink RX11 220 "java/lang/IndexOutOfBoundsException", .initialized "java/lang/IndexOutOfBoundsException"]
set_option maxRecDepth 20000 in
theorem g9_X11_canStill_1_0 : GoodIn w9_X11_canStill_1 (wsV RX11 124 RX11 yX11_needPattern w9_X11_needPattern_1) := goodIn_r _ [1, 2, 3, 4, 5, 6, 7, 8, 9, 10, 11, 12, 13, 14, 15, 16, 17, 18, 19, 20, 21, 22, 23, 24, 25, 26, 27, 28, 29, 30, 31, 32, 33, 34, 35, 36, 37, 38, 39, 40, 41, 42, 43, 44, 45, 46, 47, 48, 49, 50, 51, 52] (by decide +kernel) (by decide +kernel)
set_option maxHeartbeats 4000000 in
set_option maxRecDepth 100000 in
theorem c9_X11_canStill_1 (l : Launch) (hlt : l.stackTraces = false) (g : G9) (h0 h1 h2 h3 h4 h5 h6 h7 h8 h9 h10 h11 h12 h13 sz : Nat) (v0 v1 : Int32) (k_v0 : (-2147483648) ≤ v0.toInt ∧ v0.toInt ≤ (-1)) (k_v1 : (-2147483648) ≤ v1.toInt ∧ v1.toInt ≤ 2147483647) : vx_Met l yX11_canStill w9_X11_canStill_1 ({ frames := 7, cells := 1, slots := 6, locals := 103 }) (mP g [(h0, .inr (12, [.ref h1, .int 0, .ref h2, .ref h3, .ref h4, .ref h5, .ref h6, .ref h7, .int (-1), .ref h8, .ref h9, .int 250, .ref h10, .int 0, .ref h11, .ref h12, .ref h13]))] sz [.ref h0, .int v0, .int v1]) (va_Qv (fun _ : Unit => False) (fun _ _ => True) (va_A [(h0, .inr (12, [.ref h1, .int 0, .ref h2, .ref h3, .ref h4, .ref h5, .ref h6, .ref h7, .int (-1), .ref h8, .ref h9, .int 250, .ref h10, .int 0, .ref h11, .ref h12, .ref h13]))] sz)) (mT g [(h0, .inr (12, [.ref h1, .int 0, .ref h2, .ref h3, .ref h4, .ref h5, .ref h6, .ref h7, .int (-1), .ref h8, .ref h9, .int 250, .ref h10, .int 0, .ref h11, .ref h12, .ref h13]))] sz "java/lang/IndexOutOfBoundsException") 1 6 (va_A [(h0, .inr (12, [.ref h1, .int 0, .ref h2, .ref h3, .ref h4, .ref h5, .ref h6, .ref h7, .int (-1), .ref h8, .ref h9, .int 250, .ref h10, .int 0, .ref h11, .ref h12, .ref h13]))] sz) := by
  refine vx_ofW (cc := cX11_canStill) (maxL := 3) (ret := (some .boolean)) (by decide) rfl ?_
  intro p e s m args below meth c s₁ B hml hno hv
  obtain ⟨rfl, hsz, hP, hD0, hE⟩ := hv
  have hx := B.exec
  have hb := B.bytes
  have hr := B.returns
  have hts := atoms_spec (ws := w9_X11_canStill_1) B.pre
  have hown : s.vm.findClass RX11 = some m.cls := findClass_of_methodNamed B.named
  have hlocks := B.notSynchronized
  subst hsz
  have hD := hD0.self (sz := s.heap.size)
  generalize hAe : va_A [(h0, .inr (12, [.ref h1, .int 0, .ref h2, .ref h3, .ref h4, .ref h5, .ref h6, .ref h7, .int (-1), .ref h8, .ref h9, .int 250, .ref h10, .int 0, .ref h11, .ref h12, .ref h13]))] s.heap.size = A at hD hE ⊢
  have hA : ∀ q : Nat, s.heap.size ≤ q → A q := fun q h => by rw [← hAe]; exact Or.inr h
  have hK := hE.1
  have hS : va_S A s.heap s.heap [] := va_S.rf
  replace hP : va_P g.1 vwCl [(h0, .inr (12, [.ref h1, .int 0, .ref h2, .ref h3, .ref h4, .ref h5, .ref h6, .ref h7, .int (-1), .ref h8, .ref h9, .int 250, .ref h10, .int 0, .ref h11, .ref h12, .ref h13]))] s.heap := hP
  have hl := lv_entry ([.ref h0, .int v0, .int v1]) (n := 3) (Nat.le_of_ble_eq_true rfl)
  rw [lg_entry_eq]
  generalize (lg_sl ([.ref h0, .int v0, .int v1]) ++ List.replicate (3 - (lg_sl ([.ref h0, .int v0, .int v1])).length) Slot.unset).toArray = ls at hl ⊢
  replace hl : lv_has ls 3 [(0, .ref h0), (1, .int v0), (2, .int v1)] := hl
  have hH0 : s.heap.size ≤ s.heap.size := Nat.le_refl _
  refine lv_aload_n hx hb dX11_canStill_0 rfl (lv_at hl 0 rfl) ?_
  refine lv_iload_n hx hb dX11_canStill_1 rfl (lv_at hl 1 rfl) ?_
  have hPc := hP.sub (ws' := [(h0, .inr (12, [.ref h1, .int 0, .ref h2, .ref h3, .ref h4, .ref h5, .ref h6, .ref h7, .int (-1), .ref h8, .ref h9, .int 250, .ref h10, .int 0, .ref h11, .ref h12, .ref h13]))]) [0] rfl
  have hDc := hD.sub (ws' := [(h0, .inr (12, [.ref h1, .int 0, .ref h2, .ref h3, .ref h4, .ref h5, .ref h6, .ref h7, .int (-1), .ref h8, .ref h9, .int 250, .ref h10, .int 0, .ref h11, .ref h12, .ref h13]))]) [0] (by decide) rfl
  have hFc := va_free (wc := [(h0, .inr (12, [.ref h1, .int 0, .ref h2, .ref h3, .ref h4, .ref h5, .ref h6, .ref h7, .int (-1), .ref h8, .ref h9, .int 250, .ref h10, .int 0, .ref h11, .ref h12, .ref h13]))]) hD hS hA [0] rfl
  refine vx_callv (vx_runV (As := [.int v0]) (rest := []) ⟨hx, hb, hml, hown, hts⟩ (c9_X11_needPattern_1 l hlt g h0 h1 h2 h3 h4 h5 h6 h7 h8 h9 h10 h11 h12 h13 _ v0 (by omega)) (cwV 1 hts g9_X11_canStill_1_0 rfl rfl rfl (by decide +kernel) ⟨Nat.le_of_ble_eq_true rfl, Nat.le_of_ble_eq_true rfl⟩) (mPreV (g := g) (wc := [(h0, .inr (12, [.ref h1, .int 0, .ref h2, .ref h3, .ref h4, .ref h5, .ref h6, .ref h7, .int (-1), .ref h8, .ref h9, .int 250, .ref h10, .int 0, .ref h11, .ref h12, .ref h13]))]) (C := RX11) (ci := 12) (q0 := 0) hE hS hPc hDc hFc rfl rfl) rfl rfl hl.1 rfl (lv_room (Nat.le_of_ble_eq_true rfl)) dX11_canStill_2 ⟨Nat.le_of_ble_eq_true rfl, Nat.le_of_ble_eq_true rfl⟩) hS (fun q _ h => hFc q h) hFc (fun q _ h => hFc q h) (fun E9 ce q9 u t H locs ht hvm hw hB hz1 hk1 hS hc1 hc2 hc3 => ?_) (fun u t H1 locs ht hvm hw hB hz1 hk1 hS => hw.elim)
  replace hB : E9 = "java/lang/IndexOutOfBoundsException" := hB
  subst hB
  exact vx_out (fun z hz => (hno z hz).elim) hlocks hc1 hc2 hc3 (fun t ht hW => ⟨(), trivial, rfl, by subst hAe; exact hS.F ht⟩) (by subst hAe; exact hS.2.2) (Nat.le_of_ble_eq_true rfl) (Nat.le_of_ble_eq_true rfl)
def w9_L_canStill_1 : List Cond := [.codeWith yL_canStill cL_canStill 5 (some .int) [(0, 17, 20, 21), (0, 17, 24, 15)], .methodLink RL 54 yX11_canStill, .instanceMethod yX11_canStill, .selects RX11 yX11_canStill yX11_canStill, .initialized RX11, .code yX11_canStill cX11_canStill 3 (some .boolean), .methodLink RX11 124 yX11_needPattern, .instanceMethod yX11_needPattern, .selects RX11 yX11_needPattern yX11_needPattern, .code yX11_needPattern cX11_needPattern 2 none, .initialized "java/lang/Throwable", .superclass "java/lang/Throwable" "java/lang/Object", .instanceMethod Bundle.tFill, .codeSync Bundle.tFill LibCode.Throwable.Fill.code 1 (some (.object "java/lang/Throwable")), .instanceMethod Bundle.tFill0, .native Bundle.tFill0, .instanceMethod Bundle.tInit0, .code Bundle.tInit0 LibCode.Throwable.Init0.code 1 none, .instanceMethod Bundle.oInit, .code Bundle.oInit ⟨#[0xb1]⟩ 1 none, .methodLink "java/lang/Throwable" 1 Bundle.oInit, .methodLink "java/lang/Throwable" 27 Bundle.tFill, .methodLink "java/lang/Throwable" 202 Bundle.tFill0, .fieldLink "java/lang/Throwable" 7 "java/lang/Throwable" "cause" "Ljava/lang/Throwable;", .lays "java/lang/Throwable" "java/lang/Throwable" "cause" "Ljava/lang/Throwable;", .fieldLink "java/lang/Throwable" 17 "java/lang/Throwable" "stackTrace" "[Ljava/lang/StackTraceElement;", .lays "java/lang/Throwable" "java/lang/Throwable" "stackTrace" "[Ljava/lang/StackTraceElement;", .fieldLink "java/lang/Throwable" 24 "java/lang/Throwable" "suppressedExceptions" "Ljava/util/List;", .lays "java/lang/Throwable" "java/lang/Throwable" "suppressedExceptions" "Ljava/util/List;", .fieldLink "java/lang/Throwable" 13 "java/lang/Throwable" "UNASSIGNED_STACK" "[Ljava/lang/StackTraceElement;", .fieldLink "java/lang/Throwable" 20 "java/lang/Throwable" "SUPPRESSED_SENTINEL" "Ljava/util/List;", .lays "java/lang/Throwable" "java/lang/Throwable" "detailMessage" "Ljava/lang/String;", .instanceMethod (Bundle.initS "java/lang/Throwable"), .code (Bundle.initS "java/lang/Throwable") LibCode.Throwable.InitS.code 2 none, .fieldLink "java/lang/Throwable" 31 "java/lang/Throwable" "detailMessage" "Ljava/lang/String;", .instanceMethod (Bundle.initS "java/lang/IndexOutOfBoundsException"), .code (Bundle.initS "java/lang/IndexOutOfBoundsException") Bundle.six 2 none, .methodLink "java/lang/IndexOutOfBoundsException" 7 (Bundle.initS "java/lang/RuntimeException"), .instanceMethod (Bundle.initS "java/lang/RuntimeException"), .code (Bundle.initS "java/lang/RuntimeException") Bundle.six 2 none, .methodLink "java/lang/RuntimeException" 7 (Bundle.initS "java/lang/Exception"), .instanceMethod (Bundle.initS "java/lang/Exception"), .code (Bundle.initS "java/lang/Exception") Bundle.six 2 none, .methodLink "java/lang/Exception" 7 (Bundle.initS "java/lang/Throwable"), .methodLink RX11 224 (Bundle.initS "java/lang/IndexOutOfBoundsException"), .instantiable "java/lang/IndexOutOfBoundsException" 6, .selects "java/lang/IndexOutOfBoundsException" Bundle.tFill0 Bundle.tFill0, .selects "java/lang/IndexOutOfBoundsException" Bundle.tFill Bundle.tFill, .lays "java/lang/IndexOutOfBoundsException" "java/lang/Throwable" "cause" "Ljava/lang/Throwable;", .lays "java/lang/IndexOutOfBoundsException" "java/lang/Throwable" "stackTrace" "[Ljava/lang/StackTraceElement;", .lays "java/lang/IndexOutOfBoundsException" "java/lang/Throwable" "suppressedExceptions" "Ljava/util/List;", .lays "java/lang/IndexOutOfBoundsException" "java/lang/Throwable" "detailMessage" "Ljava/lang/String;", .fieldLink "java/lang/Throwable" 198 "java/lang/Throwable" "backtrace" "Ljava/lang/Object;", .lays "java/lang/Throwable" "java/lang/Throwable" "backtrace" "Ljava/lang/Object;", .lays "java/lang/IndexOutOfBoundsException" "java/lang/Throwable" "backtrace" "Ljava/lang/Object;", .classLink RX11 220 "java/lang/IndexOutOfBoundsException", .initialized "java/lang/IndexOutOfBoundsException", .classLink RL 21 "java/lang/IndexOutOfBoundsException"]
set_option maxRecDepth 20000 in
theorem g9_L_canStill_1_0 : GoodIn w9_L_canStill_1 (wsV RL 54 RX11 yX11_canStill w9_X11_canStill_1) := goodIn_r _ [1, 2, 3, 4, 5, 6, 7, 8, 4, 9, 10, 11, 12, 13, 14, 15, 16, 17, 18, 19, 20, 21, 22, 23, 24, 25, 26, 27, 28, 29, 30, 31, 32, 33, 34, 35, 36, 37, 38, 39, 40, 41, 42, 43, 44, 45, 46, 47, 48, 49, 50, 51, 52, 53, 54, 55, 56] (by decide +kernel) (by decide +kernel)
set_option maxHeartbeats 4000000 in
set_option maxRecDepth 100000 in
theorem c9_L_canStill_1 (l : Launch) (hlt : l.stackTraces = false) (g : G9) (h0 h1 h2 h3 h4 h5 h6 h7 h8 h9 h10 h11 h12 h13 h14 sz : Nat) (v0 v1 : Int32) (k_v0 : (-2147483648) ≤ v0.toInt ∧ v0.toInt ≤ (-1)) (k_v1 : (-2147483648) ≤ v1.toInt ∧ v1.toInt ≤ 2147483647) : Met l yL_canStill w9_L_canStill_1 ({ frames := 8, cells := 1, slots := 6, locals := 125 }) (mP g [(h0, .inr (12, [.ref h2, .int 0, .ref h3, .ref h4, .ref h5, .ref h6, .ref h7, .ref h8, .int (-1), .ref h9, .ref h10, .int 250, .ref h11, .int 0, .ref h12, .ref h13, .ref h14]))] sz [.ref h0, .int v0, .int v1, .ref h1]) (va_Qi (fun (r : Int32) (_ : Unit) => r = 1) (fun (_ : Unit) (t : State) => mB g [(h0, .inr (12, [.ref h2, .int 0, .ref h3, .ref h4, .ref h5, .ref h6, .ref h7, .ref h8, .int (-1), .ref h9, .ref h10, .int 250, .ref h11, .int 0, .ref h12, .ref h13, .ref h14]))] sz [] t) (va_A [(h0, .inr (12, [.ref h2, .int 0, .ref h3, .ref h4, .ref h5, .ref h6, .ref h7, .ref h8, .int (-1), .ref h9, .ref h10, .int 250, .ref h11, .int 0, .ref h12, .ref h13, .ref h14]))] sz)) 1 6 (va_A [(h0, .inr (12, [.ref h2, .int 0, .ref h3, .ref h4, .ref h5, .ref h6, .ref h7, .ref h8, .int (-1), .ref h9, .ref h10, .int 250, .ref h11, .int 0, .ref h12, .ref h13, .ref h14]))] sz) := by
  refine va_MetW (cc := cL_canStill) (maxL := 5) (ret := (some .int)) (by decide) rfl ?_
  intro p e s m args below meth c s₁ B hml hv
  obtain ⟨rfl, hsz, hP, hD0, hE⟩ := hv
  have hx := B.exec
  have hb := B.bytes
  have hr := B.returns
  have hts := atoms_spec (ws := w9_L_canStill_1) B.pre
  have hown : s.vm.findClass RL = some m.cls := findClass_of_methodNamed B.named
  have hlocks := B.notSynchronized
  have htab := vx_table (x := yL_canStill) B (hts (.codeWith yL_canStill cL_canStill 5 (some .int) [(0, 17, 20, 21), (0, 17, 24, 15)]) (List.mem_of_getElem? (i := 0) rfl))
  subst hsz
  have hD := hD0.self (sz := s.heap.size)
  generalize hAe : va_A [(h0, .inr (12, [.ref h2, .int 0, .ref h3, .ref h4, .ref h5, .ref h6, .ref h7, .ref h8, .int (-1), .ref h9, .ref h10, .int 250, .ref h11, .int 0, .ref h12, .ref h13, .ref h14]))] s.heap.size = A at hD hE ⊢
  have hA : ∀ q : Nat, s.heap.size ≤ q → A q := fun q h => by rw [← hAe]; exact Or.inr h
  have hK := hE.1
  have hS : va_S A s.heap s.heap [] := va_S.rf
  replace hP : va_P g.1 vwCl [(h0, .inr (12, [.ref h2, .int 0, .ref h3, .ref h4, .ref h5, .ref h6, .ref h7, .ref h8, .int (-1), .ref h9, .ref h10, .int 250, .ref h11, .int 0, .ref h12, .ref h13, .ref h14]))] s.heap := hP
  have hl := lv_entry ([.ref h0, .int v0, .int v1, .ref h1]) (n := 5) (Nat.le_of_ble_eq_true rfl)
  rw [lg_entry_eq]
  generalize (lg_sl ([.ref h0, .int v0, .int v1, .ref h1]) ++ List.replicate (5 - (lg_sl ([.ref h0, .int v0, .int v1, .ref h1])).length) Slot.unset).toArray = ls at hl ⊢
  replace hl : lv_has ls 5 [(0, .ref h0), (1, .int v0), (2, .int v1), (3, .ref h1)] := hl
  have hH0 : s.heap.size ≤ s.heap.size := Nat.le_refl _
  refine lv_aload_n hx hb dL_canStill_0 rfl (lv_at hl 3 rfl) ?_
  refine lv_iconst (v := 0) hx hb dL_canStill_1 (by decide) ?_
  refine lv_aload_n hx hb dL_canStill_2 rfl (lv_at hl 0 rfl) ?_
  refine lv_iload_n hx hb dL_canStill_3 rfl (lv_at hl 1 rfl) ?_
  refine lv_iload_n hx hb dL_canStill_4 rfl (lv_at hl 2 rfl) ?_
  have hPc := hP.sub (ws' := [(h0, .inr (12, [.ref h2, .int 0, .ref h3, .ref h4, .ref h5, .ref h6, .ref h7, .ref h8, .int (-1), .ref h9, .ref h10, .int 250, .ref h11, .int 0, .ref h12, .ref h13, .ref h14]))]) [0] rfl
  have hDc := hD.sub (ws' := [(h0, .inr (12, [.ref h2, .int 0, .ref h3, .ref h4, .ref h5, .ref h6, .ref h7, .ref h8, .int (-1), .ref h9, .ref h10, .int 250, .ref h11, .int 0, .ref h12, .ref h13, .ref h14]))]) [0] (by decide) rfl
  have hFc := va_free (wc := [(h0, .inr (12, [.ref h2, .int 0, .ref h3, .ref h4, .ref h5, .ref h6, .ref h7, .ref h8, .int (-1), .ref h9, .ref h10, .int 250, .ref h11, .int 0, .ref h12, .ref h13, .ref h14]))]) hD hS hA [0] rfl
  refine vx_callv (vx_runV (As := [.int v0, .int v1]) (rest := [.int 0, .ref h1]) ⟨hx, hb, hml, hown, hts⟩ (c9_X11_canStill_1 l hlt g h0 h2 h3 h4 h5 h6 h7 h8 h9 h10 h11 h12 h13 h14 _ v0 v1 (by omega) (by omega)) (cwV 2 hts g9_L_canStill_1_0 rfl rfl rfl (by decide +kernel) ⟨Nat.le_of_ble_eq_true rfl, Nat.le_of_ble_eq_true rfl⟩) (mPreV (g := g) (wc := [(h0, .inr (12, [.ref h2, .int 0, .ref h3, .ref h4, .ref h5, .ref h6, .ref h7, .ref h8, .int (-1), .ref h9, .ref h10, .int 250, .ref h11, .int 0, .ref h12, .ref h13, .ref h14]))]) (C := RX11) (ci := 12) (q0 := 0) hE hS hPc hDc hFc rfl rfl) rfl rfl hl.1 rfl (lv_room (Nat.le_of_ble_eq_true rfl)) dL_canStill_5 ⟨Nat.le_of_ble_eq_true rfl, Nat.le_of_ble_eq_true rfl⟩) hS (fun q _ h => hFc q h) hFc (fun q _ h => hFc q h) (fun E9 ce q9 u t H locs ht hvm hw hB hz1 hk1 hS hc1 hc2 hc3 => ?_) (fun u t H1 locs ht hvm hw hB hz1 hk1 hS => hw.elim)
  replace hB : E9 = "java/lang/IndexOutOfBoundsException" := hB
  subst hB
  obtain ⟨hP, hD⟩ := va_join (wr := []) (w1 := []) hP hD [0] [] rfl rfl (by decide) (by decide) hk1 hFc (fun k q h => by simp at h) ⟨fun i j p q h => by simp at h, fun k q h => by simp at h⟩
  have hP : va_P g.1 vwCl [] H := hP
  have hD : va_D A [] := hD
  refine vx_catch (own := RL) (name := "java/lang/IndexOutOfBoundsException") hown [] ⟨0, 17, 20, 21⟩ [⟨0, 17, 24, 15⟩] (by rw [htab]; rfl) (fun z hz => absurd hz List.not_mem_nil) (by decide) (by decide) (hts (.classLink RL 21 "java/lang/IndexOutOfBoundsException") (List.mem_of_getElem? (i := 57) rfl)) (va_Nw.use rfl (hE.cast ("java/lang/IndexOutOfBoundsException", "java/lang/IndexOutOfBoundsException") (by decide))) hc1 hc2 hc3 ?_
  refine lv_astore (lv' := [(4, .ref q9), (0, .ref h0), (1, .int v0), (2, .int v1), (3, .ref h1)]) hx hb dL_canStill_20 hl (by decide) rfl (fun ls hl => ?_)
  refine lv_iconst (v := 1) hx hb dL_canStill_22 (by decide) ?_
  have hP9 := hP.sub (ws' := []) [] rfl
  have hD9 := hD.sub (ws' := []) [] (by decide) rfl
  subst hAe
  exact W.iret (v := 1) hx hb hr (fun t ht hW => ⟨⟨1, (), rfl, rfl, by rw [ht]; exact hP9, hD9⟩, hS.F ht⟩) hS.2.2 dL_canStill_23
def w9_X21_canStill_1 : List Cond := [.code yX21_canStill cX21_canStill 10 (some .boolean), .methodLink RX21 550 yX21_notRegular, .instanceMethod yX21_notRegular, .selects RX21 yX21_notRegular yX21_notRegular, .initialized RX21, .code yX21_notRegular cX21_notRegular 4 (some .int), .methodLink RX21 416 yX21_unknownPlace, .instanceMethod yX21_unknownPlace, .selects RX21 yX21_unknownPlace yX21_unknownPlace, .code yX21_unknownPlace cX21_unknownPlace 4 (some .int), .methodLink RX21 160 yX21_in, .static yX21_in, .code yX21_in cX21_in 3 (some .boolean), .methodLink RX21 154 yX21_refused, .instanceMethod yX21_refused, .selects RX21 yX21_refused yX21_refused, .code yX21_refused cX21_refused 2 (some .boolean), .fieldLink RX21 144 "RegexloomModel" "refusal" "I"] ++ (u_ws RX21 TX21 32)
set_option maxRecDepth 20000 in
theorem in9_X21_canStill_1_RX21 : ∀ w ∈ u_ws RX21 TX21 32, w ∈ w9_X21_canStill_1 := by decide +kernel
set_option maxRecDepth 20000 in
theorem g9_X21_canStill_1_0 : GoodIn w9_X21_canStill_1 (wsV RX21 550 RX21 yX21_notRegular w9_X21_notRegular_1) := goodIn_r _ [1, 2, 3, 4, 5, 6, 7, 8, 4, 9, 10, 11, 12] (by decide +kernel) (by decide +kernel)
set_option maxRecDepth 20000 in
theorem g9_X21_canStill_1_1 : GoodIn w9_X21_canStill_1 (wsV RX21 154 RX21 yX21_refused w9_X21_refused_2) := goodIn_r _ [13, 14, 15, 4, 16, 17, 18, 19, 20, 21, 22, 23, 24, 25, 26, 27, 28, 29, 30, 31, 32, 33, 34, 35, 36, 37, 38, 39, 40, 41, 42, 43, 44, 45, 46, 47, 48, 49] (by decide +kernel) (by decide +kernel)
set_option maxHeartbeats 4000000 in
set_option maxRecDepth 100000 in
theorem c9_X21_canStill_1 (l : Launch) (g : G9) (h0 h1 h2 h3 h4 h5 h6 h7 h8 h9 h10 h11 h12 h13 h14 h15 h16 sz : Nat) (v0 v1 : Int32) (k_v0 : (-2147483648) ≤ v0.toInt ∧ v0.toInt ≤ (-1)) (k_v1 : (-2147483648) ≤ v1.toInt ∧ v1.toInt ≤ 2147483647) : Met l yX21_canStill w9_X21_canStill_1 ({ frames := 3, cells := 0, slots := 0, locals := 68 }) (mP g [(h0, .inr (22, [.int 0, .ref h1, .int 0, .ref h2, .int 0, .ref h3, .int 250, .ref h4, .int 0, .ref h5, .ref h6, .ref h7, .int 0, .ref h8, .ref h9, .ref h10, .int 0, .null, .int 0, .null, .int 0, .int 0, .int 0, .ref h11, .int 0, .ref h12, .ref h13, .ref h14, .int 0, .ref h15, .ref h16, .int 0]))] sz [.ref h0, .int v0, .int v1]) (va_Qi (fun (r : Int32) (_ : Unit) => r = 0) (fun (_ : Unit) (t : State) => mB g [(h0, .inr (22, [.int 0, .ref h1, .int 0, .ref h2, .int 0, .ref h3, .int 250, .ref h4, .int 0, .ref h5, .ref h6, .ref h7, .int 0, .ref h8, .ref h9, .ref h10, .int 0, .null, .int 0, .null, .int 0, .int 0, .int 0, .ref h11, .int 0, .ref h12, .ref h13, .ref h14, .int 0, .ref h15, .ref h16, .int 0]))] sz [(h0, .inr (22, [.int 1, .ref h1, .int 0, .ref h2, .int 0, .ref h3, .int 250, .ref h4, .int 0, .ref h5, .ref h6, .ref h7, .int 0, .ref h8, .ref h9, .ref h10, .int 0, .null, .int 0, .null, .int 0, .int 0, .int 0, .ref h11, .int 0, .ref h12, .ref h13, .ref h14, .int 0, .ref h15, .ref h16, .int 0]))] t) (va_A [(h0, .inr (22, [.int 0, .ref h1, .int 0, .ref h2, .int 0, .ref h3, .int 250, .ref h4, .int 0, .ref h5, .ref h6, .ref h7, .int 0, .ref h8, .ref h9, .ref h10, .int 0, .null, .int 0, .null, .int 0, .int 0, .int 0, .ref h11, .int 0, .ref h12, .ref h13, .ref h14, .int 0, .ref h15, .ref h16, .int 0]))] sz)) 0 0 (va_A [(h0, .inr (22, [.int 0, .ref h1, .int 0, .ref h2, .int 0, .ref h3, .int 250, .ref h4, .int 0, .ref h5, .ref h6, .ref h7, .int 0, .ref h8, .ref h9, .ref h10, .int 0, .null, .int 0, .null, .int 0, .int 0, .int 0, .ref h11, .int 0, .ref h12, .ref h13, .ref h14, .int 0, .ref h15, .ref h16, .int 0]))] sz) := by
  refine Met.ofW (cc := cX21_canStill) (maxL := 10) (ret := (some .boolean)) (by decide) rfl ?_
  intro p e s m args below meth c s₁ B hml hv
  obtain ⟨rfl, hsz, hP, hD0, hE⟩ := hv
  have hx := B.exec
  have hb := B.bytes
  have hr := B.returns
  have hts := atoms_spec (ws := w9_X21_canStill_1) B.pre
  have hown : s.vm.findClass RX21 = some m.cls := findClass_of_methodNamed B.named
  have hlocks := B.notSynchronized
  subst hsz
  have hD := hD0.self (sz := s.heap.size)
  generalize hAe : va_A [(h0, .inr (22, [.int 0, .ref h1, .int 0, .ref h2, .int 0, .ref h3, .int 250, .ref h4, .int 0, .ref h5, .ref h6, .ref h7, .int 0, .ref h8, .ref h9, .ref h10, .int 0, .null, .int 0, .null, .int 0, .int 0, .int 0, .ref h11, .int 0, .ref h12, .ref h13, .ref h14, .int 0, .ref h15, .ref h16, .int 0]))] s.heap.size = A at hD hE ⊢
  have hA : ∀ q : Nat, s.heap.size ≤ q → A q := fun q h => by rw [← hAe]; exact Or.inr h
  have hK := hE.1
  have hS : va_S A s.heap s.heap [] := va_S.rf
  replace hP : va_P g.1 vwCl [(h0, .inr (22, [.int 0, .ref h1, .int 0, .ref h2, .int 0, .ref h3, .int 250, .ref h4, .int 0, .ref h5, .ref h6, .ref h7, .int 0, .ref h8, .ref h9, .ref h10, .int 0, .null, .int 0, .null, .int 0, .int 0, .int 0, .ref h11, .int 0, .ref h12, .ref h13, .ref h14, .int 0, .ref h15, .ref h16, .int 0]))] s.heap := hP
  have hl := lv_entry ([.ref h0, .int v0, .int v1]) (n := 10) (Nat.le_of_ble_eq_true rfl)
  rw [lg_entry_eq]
  generalize (lg_sl ([.ref h0, .int v0, .int v1]) ++ List.replicate (10 - (lg_sl ([.ref h0, .int v0, .int v1])).length) Slot.unset).toArray = ls at hl ⊢
  replace hl : lv_has ls 10 [(0, .ref h0), (1, .int v0), (2, .int v1)] := hl
  have hH0 : s.heap.size ≤ s.heap.size := Nat.le_refl _
  refine lv_aload_n hx hb dX21_canStill_0 rfl (lv_at hl 0 rfl) ?_
  refine lv_aload_n hx hb dX21_canStill_1 rfl (lv_at hl 0 rfl) ?_
  refine lv_iload_n hx hb dX21_canStill_2 rfl (lv_at hl 1 rfl) ?_
  refine lv_iload_n hx hb dX21_canStill_3 rfl (lv_at hl 2 rfl) ?_
  have hPc := hP.sub (ws' := [(h0, .inr (22, [.int 0, .ref h1, .int 0, .ref h2, .int 0, .ref h3, .int 250, .ref h4, .int 0, .ref h5, .ref h6, .ref h7, .int 0, .ref h8, .ref h9, .ref h10, .int 0, .null, .int 0, .null, .int 0, .int 0, .int 0, .ref h11, .int 0, .ref h12, .ref h13, .ref h14, .int 0, .ref h15, .ref h16, .int 0]))]) [0] rfl
  have hDc := hD.sub (ws' := [(h0, .inr (22, [.int 0, .ref h1, .int 0, .ref h2, .int 0, .ref h3, .int 250, .ref h4, .int 0, .ref h5, .ref h6, .ref h7, .int 0, .ref h8, .ref h9, .ref h10, .int 0, .null, .int 0, .null, .int 0, .int 0, .int 0, .ref h11, .int 0, .ref h12, .ref h13, .ref h14, .int 0, .ref h15, .ref h16, .int 0]))]) [0] (by decide) rfl
  have hFc := va_free (wc := [(h0, .inr (22, [.int 0, .ref h1, .int 0, .ref h2, .int 0, .ref h3, .int 250, .ref h4, .int 0, .ref h5, .ref h6, .ref h7, .int 0, .ref h8, .ref h9, .ref h10, .int 0, .null, .int 0, .null, .int 0, .int 0, .int 0, .ref h11, .int 0, .ref h12, .ref h13, .ref h14, .int 0, .ref h15, .ref h16, .int 0]))]) hD hS hA [0] rfl
  refine va_calli (va_runV (As := [.int v0, .int v1]) (rest := [.ref h0]) ⟨hx, hb, hml, hown, hts⟩ (c9_X21_notRegular_1 l g h0 h1 h2 h3 h4 h5 h6 h7 h8 h9 h10 h11 h12 h13 h14 h15 h16 _ v0 v1 (by omega) (by omega)) (cwV 2 hts g9_X21_canStill_1_0 rfl rfl rfl (by decide +kernel) ⟨Nat.le_of_ble_eq_true rfl, Nat.le_of_ble_eq_true rfl⟩) (mPreV (g := g) (wc := [(h0, .inr (22, [.int 0, .ref h1, .int 0, .ref h2, .int 0, .ref h3, .int 250, .ref h4, .int 0, .ref h5, .ref h6, .ref h7, .int 0, .ref h8, .ref h9, .ref h10, .int 0, .null, .int 0, .null, .int 0, .int 0, .int 0, .ref h11, .int 0, .ref h12, .ref h13, .ref h14, .int 0, .ref h15, .ref h16, .int 0]))]) (C := RX21) (ci := 22) (q0 := 0) hE hS hPc hDc hFc rfl rfl) rfl rfl hl.1 rfl (lv_room (Nat.le_of_ble_eq_true rfl)) dX21_canStill_4 ⟨Nat.le_of_ble_eq_true rfl, Nat.le_of_ble_eq_true rfl⟩) hS (fun q _ h => hFc q h) hFc (fun r_1 u t H1 locs ht hvm hw hB hz1 hk1 hS => ?_)
  replace hw : 1 = r_1 := Eq.symm hw
  subst hw
  obtain ⟨hP1, hD1⟩ := hB
  rw [ht] at hP1
  obtain ⟨hP, hD⟩ := va_join (wr := []) (w1 := [(h0, .inr (22, [.int 0, .ref h1, .int 0, .ref h2, .int 0, .ref h3, .int 250, .ref h4, .int 0, .ref h5, .ref h6, .ref h7, .int 0, .ref h8, .ref h9, .ref h10, .int 0, .null, .int 0, .null, .int 0, .int 0, .int 0, .ref h11, .int 0, .ref h12, .ref h13, .ref h14, .int 0, .ref h15, .ref h16, .int 0]))]) hP hD [0] [] rfl rfl (by decide) (by decide) hk1 hFc hP1 hD1
  clear hP1 hD1 hPc hDc hFc hk1 hz1 hvm ht
  generalize H1 = H at hP hS ⊢
  have hP : va_P g.1 vwCl [(h0, .inr (22, [.int 0, .ref h1, .int 0, .ref h2, .int 0, .ref h3, .int 250, .ref h4, .int 0, .ref h5, .ref h6, .ref h7, .int 0, .ref h8, .ref h9, .ref h10, .int 0, .null, .int 0, .null, .int 0, .int 0, .int 0, .ref h11, .int 0, .ref h12, .ref h13, .ref h14, .int 0, .ref h15, .ref h16, .int 0]))] H := hP
  have hD : va_D A [(h0, .inr (22, [.int 0, .ref h1, .int 0, .ref h2, .int 0, .ref h3, .int 250, .ref h4, .int 0, .ref h5, .ref h6, .ref h7, .int 0, .ref h8, .ref h9, .ref h10, .int 0, .null, .int 0, .null, .int 0, .int 0, .int 0, .ref h11, .int 0, .ref h12, .ref h13, .ref h14, .int 0, .ref h15, .ref h16, .int 0]))] := hD
  have hPc := hP.sub (ws' := [(h0, .inr (22, [.int 0, .ref h1, .int 0, .ref h2, .int 0, .ref h3, .int 250, .ref h4, .int 0, .ref h5, .ref h6, .ref h7, .int 0, .ref h8, .ref h9, .ref h10, .int 0, .null, .int 0, .null, .int 0, .int 0, .int 0, .ref h11, .int 0, .ref h12, .ref h13, .ref h14, .int 0, .ref h15, .ref h16, .int 0]))]) [0] rfl
  have hDc := hD.sub (ws' := [(h0, .inr (22, [.int 0, .ref h1, .int 0, .ref h2, .int 0, .ref h3, .int 250, .ref h4, .int 0, .ref h5, .ref h6, .ref h7, .int 0, .ref h8, .ref h9, .ref h10, .int 0, .null, .int 0, .null, .int 0, .int 0, .int 0, .ref h11, .int 0, .ref h12, .ref h13, .ref h14, .int 0, .ref h15, .ref h16, .int 0]))]) [0] (by decide) rfl
  have hFc := va_free (wc := [(h0, .inr (22, [.int 0, .ref h1, .int 0, .ref h2, .int 0, .ref h3, .int 250, .ref h4, .int 0, .ref h5, .ref h6, .ref h7, .int 0, .ref h8, .ref h9, .ref h10, .int 0, .null, .int 0, .null, .int 0, .int 0, .int 0, .ref h11, .int 0, .ref h12, .ref h13, .ref h14, .int 0, .ref h15, .ref h16, .int 0]))]) hD hS hA [0] rfl
  refine va_calli (va_runV (As := [.int 1]) (rest := []) ⟨hx, hb, hml, hown, hts⟩ (c9_X21_refused_2 l g h0 h1 h2 h3 h4 h5 h6 h7 h8 h9 h10 h11 h12 h13 h14 h15 h16 _) (cwV 1 hts g9_X21_canStill_1_1 rfl rfl rfl (by decide +kernel) ⟨Nat.le_of_ble_eq_true rfl, Nat.le_of_ble_eq_true rfl⟩) (mPreV (g := g) (wc := [(h0, .inr (22, [.int 0, .ref h1, .int 0, .ref h2, .int 0, .ref h3, .int 250, .ref h4, .int 0, .ref h5, .ref h6, .ref h7, .int 0, .ref h8, .ref h9, .ref h10, .int 0, .null, .int 0, .null, .int 0, .int 0, .int 0, .ref h11, .int 0, .ref h12, .ref h13, .ref h14, .int 0, .ref h15, .ref h16, .int 0]))]) (C := RX21) (ci := 22) (q0 := 0) hE hS hPc hDc hFc rfl rfl) rfl rfl hl.1 rfl (lv_room (Nat.le_of_ble_eq_true rfl)) dX21_canStill_7 ⟨Nat.le_of_ble_eq_true rfl, Nat.le_of_ble_eq_true rfl⟩) hS (fun q _ h => hFc q h) hFc (fun r_2 u t H1 locs ht hvm hw hB hz1 hk1 hS => ?_)
  replace hw : 1 = r_2 := Eq.symm hw
  subst hw
  obtain ⟨hP1, hD1⟩ := hB
  rw [ht] at hP1
  obtain ⟨hP, hD⟩ := va_join (wr := []) (w1 := [(h0, .inr (22, [.int 1, .ref h1, .int 0, .ref h2, .int 0, .ref h3, .int 250, .ref h4, .int 0, .ref h5, .ref h6, .ref h7, .int 0, .ref h8, .ref h9, .ref h10, .int 0, .null, .int 0, .null, .int 0, .int 0, .int 0, .ref h11, .int 0, .ref h12, .ref h13, .ref h14, .int 0, .ref h15, .ref h16, .int 0]))]) hP hD [0] [] rfl rfl (by decide) (by decide) hk1 hFc hP1 hD1
  clear hP1 hD1 hPc hDc hFc hk1 hz1 hvm ht
  generalize H1 = H at hP hS ⊢
  have hP : va_P g.1 vwCl [(h0, .inr (22, [.int 1, .ref h1, .int 0, .ref h2, .int 0, .ref h3, .int 250, .ref h4, .int 0, .ref h5, .ref h6, .ref h7, .int 0, .ref h8, .ref h9, .ref h10, .int 0, .null, .int 0, .null, .int 0, .int 0, .int 0, .ref h11, .int 0, .ref h12, .ref h13, .ref h14, .int 0, .ref h15, .ref h16, .int 0]))] H := hP
  have hD : va_D A [(h0, .inr (22, [.int 1, .ref h1, .int 0, .ref h2, .int 0, .ref h3, .int 250, .ref h4, .int 0, .ref h5, .ref h6, .ref h7, .int 0, .ref h8, .ref h9, .ref h10, .int 0, .null, .int 0, .null, .int 0, .int 0, .int 0, .ref h11, .int 0, .ref h12, .ref h13, .ref h14, .int 0, .ref h15, .ref h16, .int 0]))] := hD
  refine lv_if_eq (tgt := 15) hx hb dX21_canStill_10 (by decide) (fun c9 => absurd c9 (by decide)) (fun _ => ?_)
  refine lv_iconst (v := 0) hx hb dX21_canStill_13 (by decide) ?_
  have hP9 := hP.sub (ws' := [(h0, .inr (22, [.int 1, .ref h1, .int 0, .ref h2, .int 0, .ref h3, .int 250, .ref h4, .int 0, .ref h5, .ref h6, .ref h7, .int 0, .ref h8, .ref h9, .ref h10, .int 0, .null, .int 0, .null, .int 0, .int 0, .int 0, .ref h11, .int 0, .ref h12, .ref h13, .ref h14, .int 0, .ref h15, .ref h16, .int 0]))]) [0] rfl
  have hD9 := hD.sub (ws' := [(h0, .inr (22, [.int 1, .ref h1, .int 0, .ref h2, .int 0, .ref h3, .int 250, .ref h4, .int 0, .ref h5, .ref h6, .ref h7, .int 0, .ref h8, .ref h9, .ref h10, .int 0, .null, .int 0, .null, .int 0, .int 0, .int 0, .ref h11, .int 0, .ref h12, .ref h13, .ref h14, .int 0, .ref h15, .ref h16, .int 0]))]) [0] (by decide) rfl
  subst hAe
  exact W.zret (v := 0) hx hb hr (by decide) (fun t ht hW => ⟨⟨0, (), rfl, rfl, by rw [ht]; exact hP9, hD9⟩, hS.F ht⟩) hS.2.2 dX21_canStill_14
def w9_X11_canStill_2 : List Cond := [.code yX11_canStill cX11_canStill 3 (some .boolean), .methodLink RX11 124 yX11_needPattern, .instanceMethod yX11_needPattern, .selects RX11 yX11_needPattern yX11_needPattern, .initialized RX11, .code yX11_needPattern cX11_needPattern 2 none, .initialized "java/lang/Throwable", .superclass "java/lang/Throwable" "java/lang/Object", .instanceMethod Bundle.tFill, .codeSync Bundle.tFill LibCode.Throwable.Fill.code 1 (some (.object "java/lang/Throwable")), .instanceMethod Bundle.tFill0, .native Bundle.tFill0, .instanceMethod Bundle.tInit0, .code Bundle.tInit0 LibCode.Throwable.Init0.code 1 none, .instanceMethod Bundle.oInit, .code Bundle.oInit ⟨#[0xb1]⟩ 1 none, .methodLink "java/lang/Throwable" 1 Bundle.oInit, .methodLink "java/lang/Throwable" 27 Bundle.tFill, .methodLink "java/lang/Throwable" 202 Bundle.tFill0, .fieldLink "java/lang/Throwable" 7 "java/lang/Throwable" "cause" "Ljava/lang/Throwable;", .lays "java/lang/Throwable" "java/lang/Throwable" "cause" "Ljava/lang/Throwable;", .fieldLink "java/lang/Throwable" 17 "java/lang/Throwable" "stackTrace" "[Ljava/lang/StackTraceElement;", .lays "java/lang/Throwable" "java/lang/Throwable" "stackTrace" "[Ljava/lang/StackTraceElement;", .fieldLink "java/lang/Throwable" 24 "java/lang/Throwable" "suppressedExceptions" "Ljava/util/List;", .lays "java/lang/Throwable" "java/lang/Throwable" "suppressedExceptions" "Ljava/util/List;", .fieldLink "java/lang/Throwable" 13 "java/lang/Throwable" "UNASSIGNED_STACK" "[Ljava/lang/StackTraceElement;", .fieldLink "java/lang/Throwable" 20 "java/lang/Throwable" "SUPPRESSED_SENTINEL" "Ljava/util/List;", .lays "java/lang/Throwable" "java/lang/Throwable" "detailMessage" "Ljava/lang/String;", .instanceMethod (Bundle.initS "java/lang/Throwable"), .code (Bundle.initS "java/lang/Throwable") LibCode.Throwable.InitS.code 2 none, .fieldLink "java/lang/Throwable" 31 "java/lang/Throwable" "detailMessage" "Ljava/lang/String;", .instanceMethod (Bundle.initS "java/lang/IndexOutOfBoundsException"), .code (Bundle.initS "java/lang/IndexOutOfBoundsException") Bundle.six 2 none, .methodLink "java/lang/IndexOutOfBoundsException" 7 (Bundle.initS "java/lang/RuntimeException"), .instanceMethod (Bundle.initS "java/lang/RuntimeException"), .code (Bundle.initS "java/lang/RuntimeException") Bundle.six 2 none, .methodLink "java/lang/RuntimeException" 7 (Bundle.initS "java/lang/Exception"), .instanceMethod (Bundle.initS "java/lang/Exception"), .code (Bundle.initS "java/lang/Exception") Bundle.six 2 none, .methodLink "java/lang/Exception" 7 (Bundle.initS "java/lang/Throwable"), .methodLink RX11 224 (Bundle.initS "java/lang/IndexOutOfBoundsException"), .instantiable "java/lang/IndexOutOfBoundsException" 6, .selects "java/lang/IndexOutOfBoundsException" Bundle.tFill0 Bundle.tFill0, .selects "java/lang/IndexOutOfBoundsException" Bundle.tFill Bundle.tFill, .lays "java/lang/IndexOutOfBoundsException" "java/lang/Throwable" "cause" "Ljava/lang/Throwable;", .lays "java/lang/IndexOutOfBoundsException" "java/lang/Throwable" "stackTrace" "[Ljava/lang/StackTraceElement;", .lays "java/lang/IndexOutOfBoundsException" "java/lang/Throwable" "suppressedExceptions" "Ljava/util/List;", .lays "java/lang/IndexOutOfBoundsException" "java/lang/Throwable" "detailMessage" "Ljava/lang/String;", .fieldLink "java/lang/Throwable" 198 "java/lang/Throwable" "backtrace" "Ljava/lang/Object;", .lays "java/lang/Throwable" "java/lang/Throwable" "backtrace" "Ljava/lang/Object;", .lays "java/lang/IndexOutOfBoundsException" "java/lang/Throwable" "backtrace" "Ljava/lang/Object;", .classLink RX11 220 "java/lang/IndexOutOfBoundsException", .initialized "java/lang/IndexOutOfBoundsException"]
set_option maxRecDepth 20000 in
theorem g9_X11_canStill_2_0 : GoodIn w9_X11_canStill_2 (wsV RX11 124 RX11 yX11_needPattern w9_X11_needPattern_2) := goodIn_r _ [1, 2, 3, 4, 5, 6, 7, 8, 9, 10, 11, 12, 13, 14, 15, 16, 17, 18, 19, 20, 21, 22, 23, 24, 25, 26, 27, 28, 29, 30, 31, 32, 33, 34, 35, 36, 37, 38, 39, 40, 41, 42, 43, 44, 45, 46, 47, 48, 49, 50, 51, 52] (by decide +kernel) (by decide +kernel)
set_option maxHeartbeats 4000000 in
set_option maxRecDepth 100000 in
theorem c9_X11_canStill_2 (l : Launch) (hlt : l.stackTraces = false) (g : G9) (h0 h1 h2 h3 h4 h5 h6 h7 h8 h9 h10 h11 h12 h13 sz : Nat) (v0 v1 : Int32) (k_v0 : 4 ≤ v0.toInt ∧ v0.toInt ≤ 2147483647) (k_v1 : (-2147483648) ≤ v1.toInt ∧ v1.toInt ≤ 2147483647) : vx_Met l yX11_canStill w9_X11_canStill_2 ({ frames := 7, cells := 1, slots := 6, locals := 103 }) (mP g [(h0, .inr (12, [.ref h1, .int 0, .ref h2, .ref h3, .ref h4, .ref h5, .ref h6, .ref h7, .int (-1), .ref h8, .ref h9, .int 250, .ref h10, .int 0, .ref h11, .ref h12, .ref h13]))] sz [.ref h0, .int v0, .int v1]) (va_Qv (fun _ : Unit => False) (fun _ _ => True) (va_A [(h0, .inr (12, [.ref h1, .int 0, .ref h2, .ref h3, .ref h4, .ref h5, .ref h6, .ref h7, .int (-1), .ref h8, .ref h9, .int 250, .ref h10, .int 0, .ref h11, .ref h12, .ref h13]))] sz)) (mT g [(h0, .inr (12, [.ref h1, .int 0, .ref h2, .ref h3, .ref h4, .ref h5, .ref h6, .ref h7, .int (-1), .ref h8, .ref h9, .int 250, .ref h10, .int 0, .ref h11, .ref h12, .ref h13]))] sz "java/lang/IndexOutOfBoundsException") 1 6 (va_A [(h0, .inr (12, [.ref h1, .int 0, .ref h2, .ref h3, .ref h4, .ref h5, .ref h6, .ref h7, .int (-1), .ref h8, .ref h9, .int 250, .ref h10, .int 0, .ref h11, .ref h12, .ref h13]))] sz) := by
  refine vx_ofW (cc := cX11_canStill) (maxL := 3) (ret := (some .boolean)) (by decide) rfl ?_
  intro p e s m args below meth c s₁ B hml hno hv
  obtain ⟨rfl, hsz, hP, hD0, hE⟩ := hv
  have hx := B.exec
  have hb := B.bytes
  have hr := B.returns
  have hts := atoms_spec (ws := w9_X11_canStill_2) B.pre
  have hown : s.vm.findClass RX11 = some m.cls := findClass_of_methodNamed B.named
  have hlocks := B.notSynchronized
  subst hsz
  have hD := hD0.self (sz := s.heap.size)
  generalize hAe : va_A [(h0, .inr (12, [.ref h1, .int 0, .ref h2, .ref h3, .ref h4, .ref h5, .ref h6, .ref h7, .int (-1), .ref h8, .ref h9, .int 250, .ref h10, .int 0, .ref h11, .ref h12, .ref h13]))] s.heap.size = A at hD hE ⊢
  have hA : ∀ q : Nat, s.heap.size ≤ q → A q := fun q h => by rw [← hAe]; exact Or.inr h
  have hK := hE.1
  have hS : va_S A s.heap s.heap [] := va_S.rf
  replace hP : va_P g.1 vwCl [(h0, .inr (12, [.ref h1, .int 0, .ref h2, .ref h3, .ref h4, .ref h5, .ref h6, .ref h7, .int (-1), .ref h8, .ref h9, .int 250, .ref h10, .int 0, .ref h11, .ref h12, .ref h13]))] s.heap := hP
  have hl := lv_entry ([.ref h0, .int v0, .int v1]) (n := 3) (Nat.le_of_ble_eq_true rfl)
  rw [lg_entry_eq]
  generalize (lg_sl ([.ref h0, .int v0, .int v1]) ++ List.replicate (3 - (lg_sl ([.ref h0, .int v0, .int v1])).length) Slot.unset).toArray = ls at hl ⊢
  replace hl : lv_has ls 3 [(0, .ref h0), (1, .int v0), (2, .int v1)] := hl
  have hH0 : s.heap.size ≤ s.heap.size := Nat.le_refl _
  refine lv_aload_n hx hb dX11_canStill_0 rfl (lv_at hl 0 rfl) ?_
  refine lv_iload_n hx hb dX11_canStill_1 rfl (lv_at hl 1 rfl) ?_
  have hPc := hP.sub (ws' := [(h0, .inr (12, [.ref h1, .int 0, .ref h2, .ref h3, .ref h4, .ref h5, .ref h6, .ref h7, .int (-1), .ref h8, .ref h9, .int 250, .ref h10, .int 0, .ref h11, .ref h12, .ref h13]))]) [0] rfl
  have hDc := hD.sub (ws' := [(h0, .inr (12, [.ref h1, .int 0, .ref h2, .ref h3, .ref h4, .ref h5, .ref h6, .ref h7, .int (-1), .ref h8, .ref h9, .int 250, .ref h10, .int 0, .ref h11, .ref h12, .ref h13]))]) [0] (by decide) rfl
  have hFc := va_free (wc := [(h0, .inr (12, [.ref h1, .int 0, .ref h2, .ref h3, .ref h4, .ref h5, .ref h6, .ref h7, .int (-1), .ref h8, .ref h9, .int 250, .ref h10, .int 0, .ref h11, .ref h12, .ref h13]))]) hD hS hA [0] rfl
  refine vx_callv (vx_runV (As := [.int v0]) (rest := []) ⟨hx, hb, hml, hown, hts⟩ (c9_X11_needPattern_2 l hlt g h0 h1 h2 h3 h4 h5 h6 h7 h8 h9 h10 h11 h12 h13 _ v0 (by omega)) (cwV 1 hts g9_X11_canStill_2_0 rfl rfl rfl (by decide +kernel) ⟨Nat.le_of_ble_eq_true rfl, Nat.le_of_ble_eq_true rfl⟩) (mPreV (g := g) (wc := [(h0, .inr (12, [.ref h1, .int 0, .ref h2, .ref h3, .ref h4, .ref h5, .ref h6, .ref h7, .int (-1), .ref h8, .ref h9, .int 250, .ref h10, .int 0, .ref h11, .ref h12, .ref h13]))]) (C := RX11) (ci := 12) (q0 := 0) hE hS hPc hDc hFc rfl rfl) rfl rfl hl.1 rfl (lv_room (Nat.le_of_ble_eq_true rfl)) dX11_canStill_2 ⟨Nat.le_of_ble_eq_true rfl, Nat.le_of_ble_eq_true rfl⟩) hS (fun q _ h => hFc q h) hFc (fun q _ h => hFc q h) (fun E9 ce q9 u t H locs ht hvm hw hB hz1 hk1 hS hc1 hc2 hc3 => ?_) (fun u t H1 locs ht hvm hw hB hz1 hk1 hS => hw.elim)
  replace hB : E9 = "java/lang/IndexOutOfBoundsException" := hB
  subst hB
  exact vx_out (fun z hz => (hno z hz).elim) hlocks hc1 hc2 hc3 (fun t ht hW => ⟨(), trivial, rfl, by subst hAe; exact hS.F ht⟩) (by subst hAe; exact hS.2.2) (Nat.le_of_ble_eq_true rfl) (Nat.le_of_ble_eq_true rfl)
def w9_L_canStill_2 : List Cond := [.codeWith yL_canStill cL_canStill 5 (some .int) [(0, 17, 20, 21), (0, 17, 24, 15)], .methodLink RL 54 yX11_canStill, .instanceMethod yX11_canStill, .selects RX11 yX11_canStill yX11_canStill, .initialized RX11, .code yX11_canStill cX11_canStill 3 (some .boolean), .methodLink RX11 124 yX11_needPattern, .instanceMethod yX11_needPattern, .selects RX11 yX11_needPattern yX11_needPattern, .code yX11_needPattern cX11_needPattern 2 none, .initialized "java/lang/Throwable", .superclass "java/lang/Throwable" "java/lang/Object", .instanceMethod Bundle.tFill, .codeSync Bundle.tFill LibCode.Throwable.Fill.code 1 (some (.object "java/lang/Throwable")), .instanceMethod Bundle.tFill0, .native Bundle.tFill0, .instanceMethod Bundle.tInit0, .code Bundle.tInit0 LibCode.Throwable.Init0.code 1 none, .instanceMethod Bundle.oInit, .code Bundle.oInit ⟨#[0xb1]⟩ 1 none, .methodLink "java/lang/Throwable" 1 Bundle.oInit, .methodLink "java/lang/Throwable" 27 Bundle.tFill, .methodLink "java/lang/Throwable" 202 Bundle.tFill0, .fieldLink "java/lang/Throwable" 7 "java/lang/Throwable" "cause" "Ljava/lang/Throwable;", .lays "java/lang/Throwable" "java/lang/Throwable" "cause" "Ljava/lang/Throwable;", .fieldLink "java/lang/Throwable" 17 "java/lang/Throwable" "stackTrace" "[Ljava/lang/StackTraceElement;", .lays "java/lang/Throwable" "java/lang/Throwable" "stackTrace" "[Ljava/lang/StackTraceElement;", .fieldLink "java/lang/Throwable" 24 "java/lang/Throwable" "suppressedExceptions" "Ljava/util/List;", .lays "java/lang/Throwable" "java/lang/Throwable" "suppressedExceptions" "Ljava/util/List;", .fieldLink "java/lang/Throwable" 13 "java/lang/Throwable" "UNASSIGNED_STACK" "[Ljava/lang/StackTraceElement;", .fieldLink "java/lang/Throwable" 20 "java/lang/Throwable" "SUPPRESSED_SENTINEL" "Ljava/util/List;", .lays "java/lang/Throwable" "java/lang/Throwable" "detailMessage" "Ljava/lang/String;", .instanceMethod (Bundle.initS "java/lang/Throwable"), .code (Bundle.initS "java/lang/Throwable") LibCode.Throwable.InitS.code 2 none, .fieldLink "java/lang/Throwable" 31 "java/lang/Throwable" "detailMessage" "Ljava/lang/String;", .instanceMethod (Bundle.initS "java/lang/IndexOutOfBoundsException"), .code (Bundle.initS "java/lang/IndexOutOfBoundsException") Bundle.six 2 none, .methodLink "java/lang/IndexOutOfBoundsException" 7 (Bundle.initS "java/lang/RuntimeException"), .instanceMethod (Bundle.initS "java/lang/RuntimeException"), .code (Bundle.initS "java/lang/RuntimeException") Bundle.six 2 none, .methodLink "java/lang/RuntimeException" 7 (Bundle.initS "java/lang/Exception"), .instanceMethod (Bundle.initS "java/lang/Exception"), .code (Bundle.initS "java/lang/Exception") Bundle.six 2 none, .methodLink "java/lang/Exception" 7 (Bundle.initS "java/lang/Throwable"), .methodLink RX11 224 (Bundle.initS "java/lang/IndexOutOfBoundsException"), .instantiable "java/lang/IndexOutOfBoundsException" 6, .selects "java/lang/IndexOutOfBoundsException" Bundle.tFill0 Bundle.tFill0, .selects "java/lang/IndexOutOfBoundsException" Bundle.tFill Bundle.tFill, .lays "java/lang/IndexOutOfBoundsException" "java/lang/Throwable" "cause" "Ljava/lang/Throwable;", .lays "java/lang/IndexOutOfBoundsException" "java/lang/Throwable" "stackTrace" "[Ljava/lang/StackTraceElement;", .lays "java/lang/IndexOutOfBoundsException" "java/lang/Throwable" "suppressedExceptions" "Ljava/util/List;", .lays "java/lang/IndexOutOfBoundsException" "java/lang/Throwable" "detailMessage" "Ljava/lang/String;", .fieldLink "java/lang/Throwable" 198 "java/lang/Throwable" "backtrace" "Ljava/lang/Object;", .lays "java/lang/Throwable" "java/lang/Throwable" "backtrace" "Ljava/lang/Object;", .lays "java/lang/IndexOutOfBoundsException" "java/lang/Throwable" "backtrace" "Ljava/lang/Object;", .classLink RX11 220 "java/lang/IndexOutOfBoundsException", .initialized "java/lang/IndexOutOfBoundsException", .classLink RL 21 "java/lang/IndexOutOfBoundsException"]
set_option maxRecDepth 20000 in
theorem g9_L_canStill_2_0 : GoodIn w9_L_canStill_2 (wsV RL 54 RX11 yX11_canStill w9_X11_canStill_2) := goodIn_r _ [1, 2, 3, 4, 5, 6, 7, 8, 4, 9, 10, 11, 12, 13, 14, 15, 16, 17, 18, 19, 20, 21, 22, 23, 24, 25, 26, 27, 28, 29, 30, 31, 32, 33, 34, 35, 36, 37, 38, 39, 40, 41, 42, 43, 44, 45, 46, 47, 48, 49, 50, 51, 52, 53, 54, 55, 56] (by decide +kernel) (by decide +kernel)
set_option maxHeartbeats 4000000 in
set_option maxRecDepth 100000 in
theorem c9_L_canStill_2 (l : Launch) (hlt : l.stackTraces = false) (g : G9) (h0 h1 h2 h3 h4 h5 h6 h7 h8 h9 h10 h11 h12 h13 h14 sz : Nat) (v0 v1 : Int32) (k_v0 : 4 ≤ v0.toInt ∧ v0.toInt ≤ 2147483647) (k_v1 : (-2147483648) ≤ v1.toInt ∧ v1.toInt ≤ 2147483647) : Met l yL_canStill w9_L_canStill_2 ({ frames := 8, cells := 1, slots := 6, locals := 125 }) (mP g [(h0, .inr (12, [.ref h2, .int 0, .ref h3, .ref h4, .ref h5, .ref h6, .ref h7, .ref h8, .int (-1), .ref h9, .ref h10, .int 250, .ref h11, .int 0, .ref h12, .ref h13, .ref h14]))] sz [.ref h0, .int v0, .int v1, .ref h1]) (va_Qi (fun (r : Int32) (_ : Unit) => r = 1) (fun (_ : Unit) (t : State) => mB g [(h0, .inr (12, [.ref h2, .int 0, .ref h3, .ref h4, .ref h5, .ref h6, .ref h7, .ref h8, .int (-1), .ref h9, .ref h10, .int 250, .ref h11, .int 0, .ref h12, .ref h13, .ref h14]))] sz [] t) (va_A [(h0, .inr (12, [.ref h2, .int 0, .ref h3, .ref h4, .ref h5, .ref h6, .ref h7, .ref h8, .int (-1), .ref h9, .ref h10, .int 250, .ref h11, .int 0, .ref h12, .ref h13, .ref h14]))] sz)) 1 6 (va_A [(h0, .inr (12, [.ref h2, .int 0, .ref h3, .ref h4, .ref h5, .ref h6, .ref h7, .ref h8, .int (-1), .ref h9, .ref h10, .int 250, .ref h11, .int 0, .ref h12, .ref h13, .ref h14]))] sz) := by
  refine va_MetW (cc := cL_canStill) (maxL := 5) (ret := (some .int)) (by decide) rfl ?_
  intro p e s m args below meth c s₁ B hml hv
  obtain ⟨rfl, hsz, hP, hD0, hE⟩ := hv
  have hx := B.exec
  have hb := B.bytes
  have hr := B.returns
  have hts := atoms_spec (ws := w9_L_canStill_2) B.pre
  have hown : s.vm.findClass RL = some m.cls := findClass_of_methodNamed B.named
  have hlocks := B.notSynchronized
  have htab := vx_table (x := yL_canStill) B (hts (.codeWith yL_canStill cL_canStill 5 (some .int) [(0, 17, 20, 21), (0, 17, 24, 15)]) (List.mem_of_getElem? (i := 0) rfl))
  subst hsz
  have hD := hD0.self (sz := s.heap.size)
  generalize hAe : va_A [(h0, .inr (12, [.ref h2, .int 0, .ref h3, .ref h4, .ref h5, .ref h6, .ref h7, .ref h8, .int (-1), .ref h9, .ref h10, .int 250, .ref h11, .int 0, .ref h12, .ref h13, .ref h14]))] s.heap.size = A at hD hE ⊢
  have hA : ∀ q : Nat, s.heap.size ≤ q → A q := fun q h => by rw [← hAe]; exact Or.inr h
  have hK := hE.1
  have hS : va_S A s.heap s.heap [] := va_S.rf
  replace hP : va_P g.1 vwCl [(h0, .inr (12, [.ref h2, .int 0, .ref h3, .ref h4, .ref h5, .ref h6, .ref h7, .ref h8, .int (-1), .ref h9, .ref h10, .int 250, .ref h11, .int 0, .ref h12, .ref h13, .ref h14]))] s.heap := hP
  have hl := lv_entry ([.ref h0, .int v0, .int v1, .ref h1]) (n := 5) (Nat.le_of_ble_eq_true rfl)
  rw [lg_entry_eq]
  generalize (lg_sl ([.ref h0, .int v0, .int v1, .ref h1]) ++ List.replicate (5 - (lg_sl ([.ref h0, .int v0, .int v1, .ref h1])).length) Slot.unset).toArray = ls at hl ⊢
  replace hl : lv_has ls 5 [(0, .ref h0), (1, .int v0), (2, .int v1), (3, .ref h1)] := hl
  have hH0 : s.heap.size ≤ s.heap.size := Nat.le_refl _
  refine lv_aload_n hx hb dL_canStill_0 rfl (lv_at hl 3 rfl) ?_
  refine lv_iconst (v := 0) hx hb dL_canStill_1 (by decide) ?_
  refine lv_aload_n hx hb dL_canStill_2 rfl (lv_at hl 0 rfl) ?_
  refine lv_iload_n hx hb dL_canStill_3 rfl (lv_at hl 1 rfl) ?_
  refine lv_iload_n hx hb dL_canStill_4 rfl (lv_at hl 2 rfl) ?_
  have hPc := hP.sub (ws' := [(h0, .inr (12, [.ref h2, .int 0, .ref h3, .ref h4, .ref h5, .ref h6, .ref h7, .ref h8, .int (-1), .ref h9, .ref h10, .int 250, .ref h11, .int 0, .ref h12, .ref h13, .ref h14]))]) [0] rfl
  have hDc := hD.sub (ws' := [(h0, .inr (12, [.ref h2, .int 0, .ref h3, .ref h4, .ref h5, .ref h6, .ref h7, .ref h8, .int (-1), .ref h9, .ref h10, .int 250, .ref h11, .int 0, .ref h12, .ref h13, .ref h14]))]) [0] (by decide) rfl
  have hFc := va_free (wc := [(h0, .inr (12, [.ref h2, .int 0, .ref h3, .ref h4, .ref h5, .ref h6, .ref h7, .ref h8, .int (-1), .ref h9, .ref h10, .int 250, .ref h11, .int 0, .ref h12, .ref h13, .ref h14]))]) hD hS hA [0] rfl
  refine vx_callv (vx_runV (As := [.int v0, .int v1]) (rest := [.int 0, .ref h1]) ⟨hx, hb, hml, hown, hts⟩ (c9_X11_canStill_2 l hlt g h0 h2 h3 h4 h5 h6 h7 h8 h9 h10 h11 h12 h13 h14 _ v0 v1 (by omega) (by omega)) (cwV 2 hts g9_L_canStill_2_0 rfl rfl rfl (by decide +kernel) ⟨Nat.le_of_ble_eq_true rfl, Nat.le_of_ble_eq_true rfl⟩) (mPreV (g := g) (wc := [(h0, .inr (12, [.ref h2, .int 0, .ref h3, .ref h4, .ref h5, .ref h6, .ref h7, .ref h8, .int (-1), .ref h9, .ref h10, .int 250, .ref h11, .int 0, .ref h12, .ref h13, .ref h14]))]) (C := RX11) (ci := 12) (q0 := 0) hE hS hPc hDc hFc rfl rfl) rfl rfl hl.1 rfl (lv_room (Nat.le_of_ble_eq_true rfl)) dL_canStill_5 ⟨Nat.le_of_ble_eq_true rfl, Nat.le_of_ble_eq_true rfl⟩) hS (fun q _ h => hFc q h) hFc (fun q _ h => hFc q h) (fun E9 ce q9 u t H locs ht hvm hw hB hz1 hk1 hS hc1 hc2 hc3 => ?_) (fun u t H1 locs ht hvm hw hB hz1 hk1 hS => hw.elim)
  replace hB : E9 = "java/lang/IndexOutOfBoundsException" := hB
  subst hB
  obtain ⟨hP, hD⟩ := va_join (wr := []) (w1 := []) hP hD [0] [] rfl rfl (by decide) (by decide) hk1 hFc (fun k q h => by simp at h) ⟨fun i j p q h => by simp at h, fun k q h => by simp at h⟩
  have hP : va_P g.1 vwCl [] H := hP
  have hD : va_D A [] := hD
  refine vx_catch (own := RL) (name := "java/lang/IndexOutOfBoundsException") hown [] ⟨0, 17, 20, 21⟩ [⟨0, 17, 24, 15⟩] (by rw [htab]; rfl) (fun z hz => absurd hz List.not_mem_nil) (by decide) (by decide) (hts (.classLink RL 21 "java/lang/IndexOutOfBoundsException") (List.mem_of_getElem? (i := 57) rfl)) (va_Nw.use rfl (hE.cast ("java/lang/IndexOutOfBoundsException", "java/lang/IndexOutOfBoundsException") (by decide))) hc1 hc2 hc3 ?_
  refine lv_astore (lv' := [(4, .ref q9), (0, .ref h0), (1, .int v0), (2, .int v1), (3, .ref h1)]) hx hb dL_canStill_20 hl (by decide) rfl (fun ls hl => ?_)
  refine lv_iconst (v := 1) hx hb dL_canStill_22 (by decide) ?_
  have hP9 := hP.sub (ws' := []) [] rfl
  have hD9 := hD.sub (ws' := []) [] (by decide) rfl
  subst hAe
  exact W.iret (v := 1) hx hb hr (fun t ht hW => ⟨⟨1, (), rfl, rfl, by rw [ht]; exact hP9, hD9⟩, hS.F ht⟩) hS.2.2 dL_canStill_23
def w9_X21_canStill_2 : List Cond := [.code yX21_canStill cX21_canStill 10 (some .boolean), .methodLink RX21 550 yX21_notRegular, .instanceMethod yX21_notRegular, .selects RX21 yX21_notRegular yX21_notRegular, .initialized RX21, .code yX21_notRegular cX21_notRegular 4 (some .int), .methodLink RX21 416 yX21_unknownPlace, .instanceMethod yX21_unknownPlace, .selects RX21 yX21_unknownPlace yX21_unknownPlace, .code yX21_unknownPlace cX21_unknownPlace 4 (some .int), .methodLink RX21 160 yX21_in, .static yX21_in, .code yX21_in cX21_in 3 (some .boolean), .methodLink RX21 154 yX21_refused, .instanceMethod yX21_refused, .selects RX21 yX21_refused yX21_refused, .code yX21_refused cX21_refused 2 (some .boolean), .fieldLink RX21 144 "RegexloomModel" "refusal" "I"] ++ (u_ws RX21 TX21 32)
set_option maxRecDepth 20000 in
theorem in9_X21_canStill_2_RX21 : ∀ w ∈ u_ws RX21 TX21 32, w ∈ w9_X21_canStill_2 := by decide +kernel
set_option maxRecDepth 20000 in
theorem g9_X21_canStill_2_0 : GoodIn w9_X21_canStill_2 (wsV RX21 550 RX21 yX21_notRegular w9_X21_notRegular_2) := goodIn_r _ [1, 2, 3, 4, 5, 6, 7, 8, 4, 9, 10, 11, 12] (by decide +kernel) (by decide +kernel)
set_option maxRecDepth 20000 in
theorem g9_X21_canStill_2_1 : GoodIn w9_X21_canStill_2 (wsV RX21 154 RX21 yX21_refused w9_X21_refused_2) := goodIn_r _ [13, 14, 15, 4, 16, 17, 18, 19, 20, 21, 22, 23, 24, 25, 26, 27, 28, 29, 30, 31, 32, 33, 34, 35, 36, 37, 38, 39, 40, 41, 42, 43, 44, 45, 46, 47, 48, 49] (by decide +kernel) (by decide +kernel)
set_option maxHeartbeats 4000000 in
set_option maxRecDepth 100000 in
theorem c9_X21_canStill_2 (l : Launch) (g : G9) (h0 h1 h2 h3 h4 h5 h6 h7 h8 h9 h10 h11 h12 h13 h14 h15 h16 sz : Nat) (v0 v1 : Int32) (k_v0 : 4 ≤ v0.toInt ∧ v0.toInt ≤ 2147483647) (k_v1 : (-2147483648) ≤ v1.toInt ∧ v1.toInt ≤ 2147483647) : Met l yX21_canStill w9_X21_canStill_2 ({ frames := 3, cells := 0, slots := 0, locals := 68 }) (mP g [(h0, .inr (22, [.int 0, .ref h1, .int 0, .ref h2, .int 0, .ref h3, .int 250, .ref h4, .int 0, .ref h5, .ref h6, .ref h7, .int 0, .ref h8, .ref h9, .ref h10, .int 0, .null, .int 0, .null, .int 0, .int 0, .int 0, .ref h11, .int 0, .ref h12, .ref h13, .ref h14, .int 0, .ref h15, .ref h16, .int 0]))] sz [.ref h0, .int v0, .int v1]) (va_Qi (fun (r : Int32) (_ : Unit) => r = 0) (fun (_ : Unit) (t : State) => mB g [(h0, .inr (22, [.int 0, .ref h1, .int 0, .ref h2, .int 0, .ref h3, .int 250, .ref h4, .int 0, .ref h5, .ref h6, .ref h7, .int 0, .ref h8, .ref h9, .ref h10, .int 0, .null, .int 0, .null, .int 0, .int 0, .int 0, .ref h11, .int 0, .ref h12, .ref h13, .ref h14, .int 0, .ref h15, .ref h16, .int 0]))] sz [(h0, .inr (22, [.int 1, .ref h1, .int 0, .ref h2, .int 0, .ref h3, .int 250, .ref h4, .int 0, .ref h5, .ref h6, .ref h7, .int 0, .ref h8, .ref h9, .ref h10, .int 0, .null, .int 0, .null, .int 0, .int 0, .int 0, .ref h11, .int 0, .ref h12, .ref h13, .ref h14, .int 0, .ref h15, .ref h16, .int 0]))] t) (va_A [(h0, .inr (22, [.int 0, .ref h1, .int 0, .ref h2, .int 0, .ref h3, .int 250, .ref h4, .int 0, .ref h5, .ref h6, .ref h7, .int 0, .ref h8, .ref h9, .ref h10, .int 0, .null, .int 0, .null, .int 0, .int 0, .int 0, .ref h11, .int 0, .ref h12, .ref h13, .ref h14, .int 0, .ref h15, .ref h16, .int 0]))] sz)) 0 0 (va_A [(h0, .inr (22, [.int 0, .ref h1, .int 0, .ref h2, .int 0, .ref h3, .int 250, .ref h4, .int 0, .ref h5, .ref h6, .ref h7, .int 0, .ref h8, .ref h9, .ref h10, .int 0, .null, .int 0, .null, .int 0, .int 0, .int 0, .ref h11, .int 0, .ref h12, .ref h13, .ref h14, .int 0, .ref h15, .ref h16, .int 0]))] sz) := by
  refine Met.ofW (cc := cX21_canStill) (maxL := 10) (ret := (some .boolean)) (by decide) rfl ?_
  intro p e s m args below meth c s₁ B hml hv
  obtain ⟨rfl, hsz, hP, hD0, hE⟩ := hv
  have hx := B.exec
  have hb := B.bytes
  have hr := B.returns
  have hts := atoms_spec (ws := w9_X21_canStill_2) B.pre
  have hown : s.vm.findClass RX21 = some m.cls := findClass_of_methodNamed B.named
  have hlocks := B.notSynchronized
  subst hsz
  have hD := hD0.self (sz := s.heap.size)
  generalize hAe : va_A [(h0, .inr (22, [.int 0, .ref h1, .int 0, .ref h2, .int 0, .ref h3, .int 250, .ref h4, .int 0, .ref h5, .ref h6, .ref h7, .int 0, .ref h8, .ref h9, .ref h10, .int 0, .null, .int 0, .null, .int 0, .int 0, .int 0, .ref h11, .int 0, .ref h12, .ref h13, .ref h14, .int 0, .ref h15, .ref h16, .int 0]))] s.heap.size = A at hD hE ⊢
  have hA : ∀ q : Nat, s.heap.size ≤ q → A q := fun q h => by rw [← hAe]; exact Or.inr h
  have hK := hE.1
  have hS : va_S A s.heap s.heap [] := va_S.rf
  replace hP : va_P g.1 vwCl [(h0, .inr (22, [.int 0, .ref h1, .int 0, .ref h2, .int 0, .ref h3, .int 250, .ref h4, .int 0, .ref h5, .ref h6, .ref h7, .int 0, .ref h8, .ref h9, .ref h10, .int 0, .null, .int 0, .null, .int 0, .int 0, .int 0, .ref h11, .int 0, .ref h12, .ref h13, .ref h14, .int 0, .ref h15, .ref h16, .int 0]))] s.heap := hP
  have hl := lv_entry ([.ref h0, .int v0, .int v1]) (n := 10) (Nat.le_of_ble_eq_true rfl)
  rw [lg_entry_eq]
  generalize (lg_sl ([.ref h0, .int v0, .int v1]) ++ List.replicate (10 - (lg_sl ([.ref h0, .int v0, .int v1])).length) Slot.unset).toArray = ls at hl ⊢
  replace hl : lv_has ls 10 [(0, .ref h0), (1, .int v0), (2, .int v1)] := hl
  have hH0 : s.heap.size ≤ s.heap.size := Nat.le_refl _
  refine lv_aload_n hx hb dX21_canStill_0 rfl (lv_at hl 0 rfl) ?_
  refine lv_aload_n hx hb dX21_canStill_1 rfl (lv_at hl 0 rfl) ?_
  refine lv_iload_n hx hb dX21_canStill_2 rfl (lv_at hl 1 rfl) ?_
  refine lv_iload_n hx hb dX21_canStill_3 rfl (lv_at hl 2 rfl) ?_
  have hPc := hP.sub (ws' := [(h0, .inr (22, [.int 0, .ref h1, .int 0, .ref h2, .int 0, .ref h3, .int 250, .ref h4, .int 0, .ref h5, .ref h6, .ref h7, .int 0, .ref h8, .ref h9, .ref h10, .int 0, .null, .int 0, .null, .int 0, .int 0, .int 0, .ref h11, .int 0, .ref h12, .ref h13, .ref h14, .int 0, .ref h15, .ref h16, .int 0]))]) [0] rfl
  have hDc := hD.sub (ws' := [(h0, .inr (22, [.int 0, .ref h1, .int 0, .ref h2, .int 0, .ref h3, .int 250, .ref h4, .int 0, .ref h5, .ref h6, .ref h7, .int 0, .ref h8, .ref h9, .ref h10, .int 0, .null, .int 0, .null, .int 0, .int 0, .int 0, .ref h11, .int 0, .ref h12, .ref h13, .ref h14, .int 0, .ref h15, .ref h16, .int 0]))]) [0] (by decide) rfl
  have hFc := va_free (wc := [(h0, .inr (22, [.int 0, .ref h1, .int 0, .ref h2, .int 0, .ref h3, .int 250, .ref h4, .int 0, .ref h5, .ref h6, .ref h7, .int 0, .ref h8, .ref h9, .ref h10, .int 0, .null, .int 0, .null, .int 0, .int 0, .int 0, .ref h11, .int 0, .ref h12, .ref h13, .ref h14, .int 0, .ref h15, .ref h16, .int 0]))]) hD hS hA [0] rfl
  refine va_calli (va_runV (As := [.int v0, .int v1]) (rest := [.ref h0]) ⟨hx, hb, hml, hown, hts⟩ (c9_X21_notRegular_2 l g h0 h1 h2 h3 h4 h5 h6 h7 h8 h9 h10 h11 h12 h13 h14 h15 h16 _ v0 v1 (by omega) (by omega)) (cwV 2 hts g9_X21_canStill_2_0 rfl rfl rfl (by decide +kernel) ⟨Nat.le_of_ble_eq_true rfl, Nat.le_of_ble_eq_true rfl⟩) (mPreV (g := g) (wc := [(h0, .inr (22, [.int 0, .ref h1, .int 0, .ref h2, .int 0, .ref h3, .int 250, .ref h4, .int 0, .ref h5, .ref h6, .ref h7, .int 0, .ref h8, .ref h9, .ref h10, .int 0, .null, .int 0, .null, .int 0, .int 0, .int 0, .ref h11, .int 0, .ref h12, .ref h13, .ref h14, .int 0, .ref h15, .ref h16, .int 0]))]) (C := RX21) (ci := 22) (q0 := 0) hE hS hPc hDc hFc rfl rfl) rfl rfl hl.1 rfl (lv_room (Nat.le_of_ble_eq_true rfl)) dX21_canStill_4 ⟨Nat.le_of_ble_eq_true rfl, Nat.le_of_ble_eq_true rfl⟩) hS (fun q _ h => hFc q h) hFc (fun r_1 u t H1 locs ht hvm hw hB hz1 hk1 hS => ?_)
  replace hw : 1 = r_1 := Eq.symm hw
  subst hw
  obtain ⟨hP1, hD1⟩ := hB
  rw [ht] at hP1
  obtain ⟨hP, hD⟩ := va_join (wr := []) (w1 := [(h0, .inr (22, [.int 0, .ref h1, .int 0, .ref h2, .int 0, .ref h3, .int 250, .ref h4, .int 0, .ref h5, .ref h6, .ref h7, .int 0, .ref h8, .ref h9, .ref h10, .int 0, .null, .int 0, .null, .int 0, .int 0, .int 0, .ref h11, .int 0, .ref h12, .ref h13, .ref h14, .int 0, .ref h15, .ref h16, .int 0]))]) hP hD [0] [] rfl rfl (by decide) (by decide) hk1 hFc hP1 hD1
  clear hP1 hD1 hPc hDc hFc hk1 hz1 hvm ht
  generalize H1 = H at hP hS ⊢
  have hP : va_P g.1 vwCl [(h0, .inr (22, [.int 0, .ref h1, .int 0, .ref h2, .int 0, .ref h3, .int 250, .ref h4, .int 0, .ref h5, .ref h6, .ref h7, .int 0, .ref h8, .ref h9, .ref h10, .int 0, .null, .int 0, .null, .int 0, .int 0, .int 0, .ref h11, .int 0, .ref h12, .ref h13, .ref h14, .int 0, .ref h15, .ref h16, .int 0]))] H := hP
  have hD : va_D A [(h0, .inr (22, [.int 0, .ref h1, .int 0, .ref h2, .int 0, .ref h3, .int 250, .ref h4, .int 0, .ref h5, .ref h6, .ref h7, .int 0, .ref h8, .ref h9, .ref h10, .int 0, .null, .int 0, .null, .int 0, .int 0, .int 0, .ref h11, .int 0, .ref h12, .ref h13, .ref h14, .int 0, .ref h15, .ref h16, .int 0]))] := hD
  have hPc := hP.sub (ws' := [(h0, .inr (22, [.int 0, .ref h1, .int 0, .ref h2, .int 0, .ref h3, .int 250, .ref h4, .int 0, .ref h5, .ref h6, .ref h7, .int 0, .ref h8, .ref h9, .ref h10, .int 0, .null, .int 0, .null, .int 0, .int 0, .int 0, .ref h11, .int 0, .ref h12, .ref h13, .ref h14, .int 0, .ref h15, .ref h16, .int 0]))]) [0] rfl
  have hDc := hD.sub (ws' := [(h0, .inr (22, [.int 0, .ref h1, .int 0, .ref h2, .int 0, .ref h3, .int 250, .ref h4, .int 0, .ref h5, .ref h6, .ref h7, .int 0, .ref h8, .ref h9, .ref h10, .int 0, .null, .int 0, .null, .int 0, .int 0, .int 0, .ref h11, .int 0, .ref h12, .ref h13, .ref h14, .int 0, .ref h15, .ref h16, .int 0]))]) [0] (by decide) rfl
  have hFc := va_free (wc := [(h0, .inr (22, [.int 0, .ref h1, .int 0, .ref h2, .int 0, .ref h3, .int 250, .ref h4, .int 0, .ref h5, .ref h6, .ref h7, .int 0, .ref h8, .ref h9, .ref h10, .int 0, .null, .int 0, .null, .int 0, .int 0, .int 0, .ref h11, .int 0, .ref h12, .ref h13, .ref h14, .int 0, .ref h15, .ref h16, .int 0]))]) hD hS hA [0] rfl
  refine va_calli (va_runV (As := [.int 1]) (rest := []) ⟨hx, hb, hml, hown, hts⟩ (c9_X21_refused_2 l g h0 h1 h2 h3 h4 h5 h6 h7 h8 h9 h10 h11 h12 h13 h14 h15 h16 _) (cwV 1 hts g9_X21_canStill_2_1 rfl rfl rfl (by decide +kernel) ⟨Nat.le_of_ble_eq_true rfl, Nat.le_of_ble_eq_true rfl⟩) (mPreV (g := g) (wc := [(h0, .inr (22, [.int 0, .ref h1, .int 0, .ref h2, .int 0, .ref h3, .int 250, .ref h4, .int 0, .ref h5, .ref h6, .ref h7, .int 0, .ref h8, .ref h9, .ref h10, .int 0, .null, .int 0, .null, .int 0, .int 0, .int 0, .ref h11, .int 0, .ref h12, .ref h13, .ref h14, .int 0, .ref h15, .ref h16, .int 0]))]) (C := RX21) (ci := 22) (q0 := 0) hE hS hPc hDc hFc rfl rfl) rfl rfl hl.1 rfl (lv_room (Nat.le_of_ble_eq_true rfl)) dX21_canStill_7 ⟨Nat.le_of_ble_eq_true rfl, Nat.le_of_ble_eq_true rfl⟩) hS (fun q _ h => hFc q h) hFc (fun r_2 u t H1 locs ht hvm hw hB hz1 hk1 hS => ?_)
  replace hw : 1 = r_2 := Eq.symm hw
  subst hw
  obtain ⟨hP1, hD1⟩ := hB
  rw [ht] at hP1
  obtain ⟨hP, hD⟩ := va_join (wr := []) (w1 := [(h0, .inr (22, [.int 1, .ref h1, .int 0, .ref h2, .int 0, .ref h3, .int 250, .ref h4, .int 0, .ref h5, .ref h6, .ref h7, .int 0, .ref h8, .ref h9, .ref h10, .int 0, .null, .int 0, .null, .int 0, .int 0, .int 0, .ref h11, .int 0, .ref h12, .ref h13, .ref h14, .int 0, .ref h15, .ref h16, .int 0]))]) hP hD [0] [] rfl rfl (by decide) (by decide) hk1 hFc hP1 hD1
  clear hP1 hD1 hPc hDc hFc hk1 hz1 hvm ht
  generalize H1 = H at hP hS ⊢
  have hP : va_P g.1 vwCl [(h0, .inr (22, [.int 1, .ref h1, .int 0, .ref h2, .int 0, .ref h3, .int 250, .ref h4, .int 0, .ref h5, .ref h6, .ref h7, .int 0, .ref h8, .ref h9, .ref h10, .int 0, .null, .int 0, .null, .int 0, .int 0, .int 0, .ref h11, .int 0, .ref h12, .ref h13, .ref h14, .int 0, .ref h15, .ref h16, .int 0]))] H := hP
  have hD : va_D A [(h0, .inr (22, [.int 1, .ref h1, .int 0, .ref h2, .int 0, .ref h3, .int 250, .ref h4, .int 0, .ref h5, .ref h6, .ref h7, .int 0, .ref h8, .ref h9, .ref h10, .int 0, .null, .int 0, .null, .int 0, .int 0, .int 0, .ref h11, .int 0, .ref h12, .ref h13, .ref h14, .int 0, .ref h15, .ref h16, .int 0]))] := hD
  refine lv_if_eq (tgt := 15) hx hb dX21_canStill_10 (by decide) (fun c9 => absurd c9 (by decide)) (fun _ => ?_)
  refine lv_iconst (v := 0) hx hb dX21_canStill_13 (by decide) ?_
  have hP9 := hP.sub (ws' := [(h0, .inr (22, [.int 1, .ref h1, .int 0, .ref h2, .int 0, .ref h3, .int 250, .ref h4, .int 0, .ref h5, .ref h6, .ref h7, .int 0, .ref h8, .ref h9, .ref h10, .int 0, .null, .int 0, .null, .int 0, .int 0, .int 0, .ref h11, .int 0, .ref h12, .ref h13, .ref h14, .int 0, .ref h15, .ref h16, .int 0]))]) [0] rfl
  have hD9 := hD.sub (ws' := [(h0, .inr (22, [.int 1, .ref h1, .int 0, .ref h2, .int 0, .ref h3, .int 250, .ref h4, .int 0, .ref h5, .ref h6, .ref h7, .int 0, .ref h8, .ref h9, .ref h10, .int 0, .null, .int 0, .null, .int 0, .int 0, .int 0, .ref h11, .int 0, .ref h12, .ref h13, .ref h14, .int 0, .ref h15, .ref h16, .int 0]))]) [0] (by decide) rfl
  subst hAe
  exact W.zret (v := 0) hx hb hr (by decide) (fun t ht hW => ⟨⟨0, (), rfl, rfl, by rw [ht]; exact hP9, hD9⟩, hS.F ht⟩) hS.2.2 dX21_canStill_14
def w9_X11_canStill_3 : List Cond := [.code yX11_canStill cX11_canStill 3 (some .boolean), .methodLink RX11 124 yX11_needPattern, .instanceMethod yX11_needPattern, .selects RX11 yX11_needPattern yX11_needPattern, .initialized RX11, .code yX11_needPattern cX11_needPattern 2 none, .methodLink RX11 180 yX11_needPlace, .instanceMethod yX11_needPlace, .selects RX11 yX11_needPlace yX11_needPlace, .code yX11_needPlace cX11_needPlace 2 none, .initialized "java/lang/Throwable", .superclass "java/lang/Throwable" "java/lang/Object", .instanceMethod Bundle.tFill, .codeSync Bundle.tFill LibCode.Throwable.Fill.code 1 (some (.object "java/lang/Throwable")), .instanceMethod Bundle.tFill0, .native Bundle.tFill0, .instanceMethod Bundle.tInit0, .code Bundle.tInit0 LibCode.Throwable.Init0.code 1 none, .instanceMethod Bundle.oInit, .code Bundle.oInit ⟨#[0xb1]⟩ 1 none, .methodLink "java/lang/Throwable" 1 Bundle.oInit, .methodLink "java/lang/Throwable" 27 Bundle.tFill, .methodLink "java/lang/Throwable" 202 Bundle.tFill0, .fieldLink "java/lang/Throwable" 7 "java/lang/Throwable" "cause" "Ljava/lang/Throwable;", .lays "java/lang/Throwable" "java/lang/Throwable" "cause" "Ljava/lang/Throwable;", .fieldLink "java/lang/Throwable" 17 "java/lang/Throwable" "stackTrace" "[Ljava/lang/StackTraceElement;", .lays "java/lang/Throwable" "java/lang/Throwable" "stackTrace" "[Ljava/lang/StackTraceElement;", .fieldLink "java/lang/Throwable" 24 "java/lang/Throwable" "suppressedExceptions" "Ljava/util/List;", .lays "java/lang/Throwable" "java/lang/Throwable" "suppressedExceptions" "Ljava/util/List;", .fieldLink "java/lang/Throwable" 13 "java/lang/Throwable" "UNASSIGNED_STACK" "[Ljava/lang/StackTraceElement;", .fieldLink "java/lang/Throwable" 20 "java/lang/Throwable" "SUPPRESSED_SENTINEL" "Ljava/util/List;", .lays "java/lang/Throwable" "java/lang/Throwable" "detailMessage" "Ljava/lang/String;", .instanceMethod (Bundle.initS "java/lang/Throwable"), .code (Bundle.initS "java/lang/Throwable") LibCode.Throwable.InitS.code 2 none, .fieldLink "java/lang/Throwable" 31 "java/lang/Throwable" "detailMessage" "Ljava/lang/String;", .instanceMethod (Bundle.initS "java/lang/IndexOutOfBoundsException"), .code (Bundle.initS "java/lang/IndexOutOfBoundsException") Bundle.six 2 none, .methodLink "java/lang/IndexOutOfBoundsException" 7 (Bundle.initS "java/lang/RuntimeException"), .instanceMethod (Bundle.initS "java/lang/RuntimeException"), .code (Bundle.initS "java/lang/RuntimeException") Bundle.six 2 none, .methodLink "java/lang/RuntimeException" 7 (Bundle.initS "java/lang/Exception"), .instanceMethod (Bundle.initS "java/lang/Exception"), .code (Bundle.initS "java/lang/Exception") Bundle.six 2 none, .methodLink "java/lang/Exception" 7 (Bundle.initS "java/lang/Throwable"), .methodLink RX11 224 (Bundle.initS "java/lang/IndexOutOfBoundsException"), .instantiable "java/lang/IndexOutOfBoundsException" 6, .selects "java/lang/IndexOutOfBoundsException" Bundle.tFill0 Bundle.tFill0, .selects "java/lang/IndexOutOfBoundsException" Bundle.tFill Bundle.tFill, .lays "java/lang/IndexOutOfBoundsException" "java/lang/Throwable" "cause" "Ljava/lang/Throwable;", .lays "java/lang/IndexOutOfBoundsException" "java/lang/Throwable" "stackTrace" "[Ljava/lang/StackTraceElement;", .lays "java/lang/IndexOutOfBoundsException" "java/lang/Throwable" "suppressedExceptions" "Ljava/util/List;", .lays "java/lang/IndexOutOfBoundsException" "java/lang/Throwable" "detailMessage" "Ljava/lang/String;", .fieldLink "java/lang/Throwable" 198 "java/lang/Throwable" "backtrace" "Ljava/lang/Object;", .lays "java/lang/Throwable" "java/lang/Throwable" "backtrace" "Ljava/lang/Object;", .lays "java/lang/IndexOutOfBoundsException" "java/lang/Throwable" "backtrace" "Ljava/lang/Object;", .classLink RX11 220 "java/lang/IndexOutOfBoundsException", .initialized "java/lang/IndexOutOfBoundsException"]
set_option maxRecDepth 20000 in
theorem g9_X11_canStill_3_0 : GoodIn w9_X11_canStill_3 (wsV RX11 124 RX11 yX11_needPattern w9_X11_needPattern_7) := goodIn_r _ [1, 2, 3, 4, 5] (by decide +kernel) (by decide +kernel)
set_option maxRecDepth 20000 in
theorem g9_X11_canStill_3_1 : GoodIn w9_X11_canStill_3 (wsV RX11 180 RX11 yX11_needPlace w9_X11_needPlace_1) := goodIn_r _ [6, 7, 8, 4, 9, 10, 11, 12, 13, 14, 15, 16, 17, 18, 19, 20, 21, 22, 23, 24, 25, 26, 27, 28, 29, 30, 31, 32, 33, 34, 35, 36, 37, 38, 39, 40, 41, 42, 43, 44, 45, 46, 47, 48, 49, 50, 51, 52, 53, 54, 55, 56] (by decide +kernel) (by decide +kernel)
set_option maxHeartbeats 4000000 in
set_option maxRecDepth 100000 in
theorem c9_X11_canStill_3 (l : Launch) (hlt : l.stackTraces = false) (g : G9) (h0 h1 h2 h3 h4 h5 h6 h7 h8 h9 h10 h11 h12 h13 sz : Nat) (v0 v1 : Int32) (k_v0 : 0 ≤ v0.toInt ∧ v0.toInt ≤ 3) (k_v1 : (-2147483648) ≤ v1.toInt ∧ v1.toInt ≤ (-1)) : vx_Met l yX11_canStill w9_X11_canStill_3 ({ frames := 7, cells := 1, slots := 6, locals := 103 }) (mP g [(h0, .inr (12, [.ref h1, .int 0, .ref h2, .ref h3, .ref h4, .ref h5, .ref h6, .ref h7, .int (-1), .ref h8, .ref h9, .int 250, .ref h10, .int 0, .ref h11, .ref h12, .ref h13]))] sz [.ref h0, .int v0, .int v1]) (va_Qv (fun _ : Unit => False) (fun _ _ => True) (va_A [(h0, .inr (12, [.ref h1, .int 0, .ref h2, .ref h3, .ref h4, .ref h5, .ref h6, .ref h7, .int (-1), .ref h8, .ref h9, .int 250, .ref h10, .int 0, .ref h11, .ref h12, .ref h13]))] sz)) (mT g [(h0, .inr (12, [.ref h1, .int 0, .ref h2, .ref h3, .ref h4, .ref h5, .ref h6, .ref h7, .int (-1), .ref h8, .ref h9, .int 250, .ref h10, .int 0, .ref h11, .ref h12, .ref h13]))] sz "java/lang/IndexOutOfBoundsException") 1 6 (va_A [(h0, .inr (12, [.ref h1, .int 0, .ref h2, .ref h3, .ref h4, .ref h5, .ref h6, .ref h7, .int (-1), .ref h8, .ref h9, .int 250, .ref h10, .int 0, .ref h11, .ref h12, .ref h13]))] sz) := by
  refine vx_ofW (cc := cX11_canStill) (maxL := 3) (ret := (some .boolean)) (by decide) rfl ?_
  intro p e s m args below meth c s₁ B hml hno hv
  obtain ⟨rfl, hsz, hP, hD0, hE⟩ := hv
  have hx := B.exec
  have hb := B.bytes
  have hr := B.returns
  have hts := atoms_spec (ws := w9_X11_canStill_3) B.pre
  have hown : s.vm.findClass RX11 = some m.cls := findClass_of_methodNamed B.named
  have hlocks := B.notSynchronized
  subst hsz
  have hD := hD0.self (sz := s.heap.size)
  generalize hAe : va_A [(h0, .inr (12, [.ref h1, .int 0, .ref h2, .ref h3, .ref h4, .ref h5, .ref h6, .ref h7, .int (-1), .ref h8, .ref h9, .int 250, .ref h10, .int 0, .ref h11, .ref h12, .ref h13]))] s.heap.size = A at hD hE ⊢
  have hA : ∀ q : Nat, s.heap.size ≤ q → A q := fun q h => by rw [← hAe]; exact Or.inr h
  have hK := hE.1
  have hS : va_S A s.heap s.heap [] := va_S.rf
  replace hP : va_P g.1 vwCl [(h0, .inr (12, [.ref h1, .int 0, .ref h2, .ref h3, .ref h4, .ref h5, .ref h6, .ref h7, .int (-1), .ref h8, .ref h9, .int 250, .ref h10, .int 0, .ref h11, .ref h12, .ref h13]))] s.heap := hP
  have hl := lv_entry ([.ref h0, .int v0, .int v1]) (n := 3) (Nat.le_of_ble_eq_true rfl)
  rw [lg_entry_eq]
  generalize (lg_sl ([.ref h0, .int v0, .int v1]) ++ List.replicate (3 - (lg_sl ([.ref h0, .int v0, .int v1])).length) Slot.unset).toArray = ls at hl ⊢
  replace hl : lv_has ls 3 [(0, .ref h0), (1, .int v0), (2, .int v1)] := hl
  have hH0 : s.heap.size ≤ s.heap.size := Nat.le_refl _
  refine lv_aload_n hx hb dX11_canStill_0 rfl (lv_at hl 0 rfl) ?_
  refine lv_iload_n hx hb dX11_canStill_1 rfl (lv_at hl 1 rfl) ?_
  have hPc := hP.sub (ws' := [(h0, .inr (12, [.ref h1, .int 0, .ref h2, .ref h3, .ref h4, .ref h5, .ref h6, .ref h7, .int (-1), .ref h8, .ref h9, .int 250, .ref h10, .int 0, .ref h11, .ref h12, .ref h13]))]) [0] rfl
  have hDc := hD.sub (ws' := [(h0, .inr (12, [.ref h1, .int 0, .ref h2, .ref h3, .ref h4, .ref h5, .ref h6, .ref h7, .int (-1), .ref h8, .ref h9, .int 250, .ref h10, .int 0, .ref h11, .ref h12, .ref h13]))]) [0] (by decide) rfl
  have hFc := va_free (wc := [(h0, .inr (12, [.ref h1, .int 0, .ref h2, .ref h3, .ref h4, .ref h5, .ref h6, .ref h7, .int (-1), .ref h8, .ref h9, .int 250, .ref h10, .int 0, .ref h11, .ref h12, .ref h13]))]) hD hS hA [0] rfl
  refine va_callv (va_runV (As := [.int v0]) (rest := []) ⟨hx, hb, hml, hown, hts⟩ (c9_X11_needPattern_7 l g h0 h1 h2 h3 h4 h5 h6 h7 h8 h9 h10 h11 h12 h13 _ v0 (by omega)) (cwV 1 hts g9_X11_canStill_3_0 rfl rfl rfl (by decide +kernel) ⟨Nat.le_of_ble_eq_true rfl, Nat.le_of_ble_eq_true rfl⟩) (mPreV (g := g) (wc := [(h0, .inr (12, [.ref h1, .int 0, .ref h2, .ref h3, .ref h4, .ref h5, .ref h6, .ref h7, .int (-1), .ref h8, .ref h9, .int 250, .ref h10, .int 0, .ref h11, .ref h12, .ref h13]))]) (C := RX11) (ci := 12) (q0 := 0) hE hS hPc hDc hFc rfl rfl) rfl rfl hl.1 rfl (lv_room (Nat.le_of_ble_eq_true rfl)) dX11_canStill_2 ⟨Nat.le_of_ble_eq_true rfl, Nat.le_of_ble_eq_true rfl⟩) hS (fun q _ h => hFc q h) hFc (fun u t H1 locs ht hvm hw hB hz1 hk1 hS => ?_)
  obtain ⟨hP1, hD1⟩ := hB
  rw [ht] at hP1
  obtain ⟨hP, hD⟩ := va_join (wr := []) (w1 := [(h0, .inr (12, [.ref h1, .int 0, .ref h2, .ref h3, .ref h4, .ref h5, .ref h6, .ref h7, .int (-1), .ref h8, .ref h9, .int 250, .ref h10, .int 0, .ref h11, .ref h12, .ref h13]))]) hP hD [0] [] rfl rfl (by decide) (by decide) hk1 hFc hP1 hD1
  clear hP1 hD1 hPc hDc hFc hk1 hz1 hvm ht
  generalize H1 = H at hP hS ⊢
  have hP : va_P g.1 vwCl [(h0, .inr (12, [.ref h1, .int 0, .ref h2, .ref h3, .ref h4, .ref h5, .ref h6, .ref h7, .int (-1), .ref h8, .ref h9, .int 250, .ref h10, .int 0, .ref h11, .ref h12, .ref h13]))] H := hP
  have hD : va_D A [(h0, .inr (12, [.ref h1, .int 0, .ref h2, .ref h3, .ref h4, .ref h5, .ref h6, .ref h7, .int (-1), .ref h8, .ref h9, .int 250, .ref h10, .int 0, .ref h11, .ref h12, .ref h13]))] := hD
  refine lv_aload_n hx hb dX11_canStill_5 rfl (lv_at hl 0 rfl) ?_
  refine lv_iload_n hx hb dX11_canStill_6 rfl (lv_at hl 2 rfl) ?_
  have hPc := hP.sub (ws' := [(h0, .inr (12, [.ref h1, .int 0, .ref h2, .ref h3, .ref h4, .ref h5, .ref h6, .ref h7, .int (-1), .ref h8, .ref h9, .int 250, .ref h10, .int 0, .ref h11, .ref h12, .ref h13]))]) [0] rfl
  have hDc := hD.sub (ws' := [(h0, .inr (12, [.ref h1, .int 0, .ref h2, .ref h3, .ref h4, .ref h5, .ref h6, .ref h7, .int (-1), .ref h8, .ref h9, .int 250, .ref h10, .int 0, .ref h11, .ref h12, .ref h13]))]) [0] (by decide) rfl
  have hFc := va_free (wc := [(h0, .inr (12, [.ref h1, .int 0, .ref h2, .ref h3, .ref h4, .ref h5, .ref h6, .ref h7, .int (-1), .ref h8, .ref h9, .int 250, .ref h10, .int 0, .ref h11, .ref h12, .ref h13]))]) hD hS hA [0] rfl
  refine vx_callv (vx_runV (As := [.int v1]) (rest := []) ⟨hx, hb, hml, hown, hts⟩ (c9_X11_needPlace_1 l hlt g h0 h1 h2 h3 h4 h5 h6 h7 h8 h9 h10 h11 h12 h13 _ v1 (by omega)) (cwV 1 hts g9_X11_canStill_3_1 rfl rfl rfl (by decide +kernel) ⟨Nat.le_of_ble_eq_true rfl, Nat.le_of_ble_eq_true rfl⟩) (mPreV (g := g) (wc := [(h0, .inr (12, [.ref h1, .int 0, .ref h2, .ref h3, .ref h4, .ref h5, .ref h6, .ref h7, .int (-1), .ref h8, .ref h9, .int 250, .ref h10, .int 0, .ref h11, .ref h12, .ref h13]))]) (C := RX11) (ci := 12) (q0 := 0) hE hS hPc hDc hFc rfl rfl) rfl rfl hl.1 rfl (lv_room (Nat.le_of_ble_eq_true rfl)) dX11_canStill_7 ⟨Nat.le_of_ble_eq_true rfl, Nat.le_of_ble_eq_true rfl⟩) hS (fun q _ h => hFc q h) hFc (fun q _ h => hFc q h) (fun E9 ce q9 u t H locs ht hvm hw hB hz1 hk1 hS hc1 hc2 hc3 => ?_) (fun u t H1 locs ht hvm hw hB hz1 hk1 hS => hw.elim)
  replace hB : E9 = "java/lang/IndexOutOfBoundsException" := hB
  subst hB
  exact vx_out (fun z hz => (hno z hz).elim) hlocks hc1 hc2 hc3 (fun t ht hW => ⟨(), trivial, rfl, by subst hAe; exact hS.F ht⟩) (by subst hAe; exact hS.2.2) (Nat.le_of_ble_eq_true rfl) (Nat.le_of_ble_eq_true rfl)
def w9_L_canStill_3 : List Cond := [.codeWith yL_canStill cL_canStill 5 (some .int) [(0, 17, 20, 21), (0, 17, 24, 15)], .methodLink RL 54 yX11_canStill, .instanceMethod yX11_canStill, .selects RX11 yX11_canStill yX11_canStill, .initialized RX11, .code yX11_canStill cX11_canStill 3 (some .boolean), .methodLink RX11 124 yX11_needPattern, .instanceMethod yX11_needPattern, .selects RX11 yX11_needPattern yX11_needPattern, .code yX11_needPattern cX11_needPattern 2 none, .methodLink RX11 180 yX11_needPlace, .instanceMethod yX11_needPlace, .selects RX11 yX11_needPlace yX11_needPlace, .code yX11_needPlace cX11_needPlace 2 none, .initialized "java/lang/Throwable", .superclass "java/lang/Throwable" "java/lang/Object", .instanceMethod Bundle.tFill, .codeSync Bundle.tFill LibCode.Throwable.Fill.code 1 (some (.object "java/lang/Throwable")), .instanceMethod Bundle.tFill0, .native Bundle.tFill0, .instanceMethod Bundle.tInit0, .code Bundle.tInit0 LibCode.Throwable.Init0.code 1 none, .instanceMethod Bundle.oInit, .code Bundle.oInit ⟨#[0xb1]⟩ 1 none, .methodLink "java/lang/Throwable" 1 Bundle.oInit, .methodLink "java/lang/Throwable" 27 Bundle.tFill, .methodLink "java/lang/Throwable" 202 Bundle.tFill0, .fieldLink "java/lang/Throwable" 7 "java/lang/Throwable" "cause" "Ljava/lang/Throwable;", .lays "java/lang/Throwable" "java/lang/Throwable" "cause" "Ljava/lang/Throwable;", .fieldLink "java/lang/Throwable" 17 "java/lang/Throwable" "stackTrace" "[Ljava/lang/StackTraceElement;", .lays "java/lang/Throwable" "java/lang/Throwable" "stackTrace" "[Ljava/lang/StackTraceElement;", .fieldLink "java/lang/Throwable" 24 "java/lang/Throwable" "suppressedExceptions" "Ljava/util/List;", .lays "java/lang/Throwable" "java/lang/Throwable" "suppressedExceptions" "Ljava/util/List;", .fieldLink "java/lang/Throwable" 13 "java/lang/Throwable" "UNASSIGNED_STACK" "[Ljava/lang/StackTraceElement;", .fieldLink "java/lang/Throwable" 20 "java/lang/Throwable" "SUPPRESSED_SENTINEL" "Ljava/util/List;", .lays "java/lang/Throwable" "java/lang/Throwable" "detailMessage" "Ljava/lang/String;", .instanceMethod (Bundle.initS "java/lang/Throwable"), .code (Bundle.initS "java/lang/Throwable") LibCode.Throwable.InitS.code 2 none, .fieldLink "java/lang/Throwable" 31 "java/lang/Throwable" "detailMessage" "Ljava/lang/String;", .instanceMethod (Bundle.initS "java/lang/IndexOutOfBoundsException"), .code (Bundle.initS "java/lang/IndexOutOfBoundsException") Bundle.six 2 none, .methodLink "java/lang/IndexOutOfBoundsException" 7 (Bundle.initS "java/lang/RuntimeException"), .instanceMethod (Bundle.initS "java/lang/RuntimeException"), .code (Bundle.initS "java/lang/RuntimeException") Bundle.six 2 none, .methodLink "java/lang/RuntimeException" 7 (Bundle.initS "java/lang/Exception"), .instanceMethod (Bundle.initS "java/lang/Exception"), .code (Bundle.initS "java/lang/Exception") Bundle.six 2 none, .methodLink "java/lang/Exception" 7 (Bundle.initS "java/lang/Throwable"), .methodLink RX11 224 (Bundle.initS "java/lang/IndexOutOfBoundsException"), .instantiable "java/lang/IndexOutOfBoundsException" 6, .selects "java/lang/IndexOutOfBoundsException" Bundle.tFill0 Bundle.tFill0, .selects "java/lang/IndexOutOfBoundsException" Bundle.tFill Bundle.tFill, .lays "java/lang/IndexOutOfBoundsException" "java/lang/Throwable" "cause" "Ljava/lang/Throwable;", .lays "java/lang/IndexOutOfBoundsException" "java/lang/Throwable" "stackTrace" "[Ljava/lang/StackTraceElement;", .lays "java/lang/IndexOutOfBoundsException" "java/lang/Throwable" "suppressedExceptions" "Ljava/util/List;", .lays "java/lang/IndexOutOfBoundsException" "java/lang/Throwable" "detailMessage" "Ljava/lang/String;", .fieldLink "java/lang/Throwable" 198 "java/lang/Throwable" "backtrace" "Ljava/lang/Object;", .lays "java/lang/Throwable" "java/lang/Throwable" "backtrace" "Ljava/lang/Object;", .lays "java/lang/IndexOutOfBoundsException" "java/lang/Throwable" "backtrace" "Ljava/lang/Object;", .classLink RX11 220 "java/lang/IndexOutOfBoundsException", .initialized "java/lang/IndexOutOfBoundsException", .classLink RL 21 "java/lang/IndexOutOfBoundsException"]
set_option maxRecDepth 20000 in
theorem g9_L_canStill_3_0 : GoodIn w9_L_canStill_3 (wsV RL 54 RX11 yX11_canStill w9_X11_canStill_3) := goodIn_r _ [1, 2, 3, 4, 5, 6, 7, 8, 4, 9, 10, 11, 12, 13, 14, 15, 16, 17, 18, 19, 20, 21, 22, 23, 24, 25, 26, 27, 28, 29, 30, 31, 32, 33, 34, 35, 36, 37, 38, 39, 40, 41, 42, 43, 44, 45, 46, 47, 48, 49, 50, 51, 52, 53, 54, 55, 56, 57, 58, 59, 60] (by decide +kernel) (by decide +kernel)
set_option maxHeartbeats 4000000 in
set_option maxRecDepth 100000 in
theorem c9_L_canStill_3 (l : Launch) (hlt : l.stackTraces = false) (g : G9) (h0 h1 h2 h3 h4 h5 h6 h7 h8 h9 h10 h11 h12 h13 h14 sz : Nat) (v0 v1 : Int32) (k_v0 : 0 ≤ v0.toInt ∧ v0.toInt ≤ 3) (k_v1 : (-2147483648) ≤ v1.toInt ∧ v1.toInt ≤ (-1)) : Met l yL_canStill w9_L_canStill_3 ({ frames := 8, cells := 1, slots := 6, locals := 125 }) (mP g [(h0, .inr (12, [.ref h2, .int 0, .ref h3, .ref h4, .ref h5, .ref h6, .ref h7, .ref h8, .int (-1), .ref h9, .ref h10, .int 250, .ref h11, .int 0, .ref h12, .ref h13, .ref h14]))] sz [.ref h0, .int v0, .int v1, .ref h1]) (va_Qi (fun (r : Int32) (_ : Unit) => r = 1) (fun (_ : Unit) (t : State) => mB g [(h0, .inr (12, [.ref h2, .int 0, .ref h3, .ref h4, .ref h5, .ref h6, .ref h7, .ref h8, .int (-1), .ref h9, .ref h10, .int 250, .ref h11, .int 0, .ref h12, .ref h13, .ref h14]))] sz [] t) (va_A [(h0, .inr (12, [.ref h2, .int 0, .ref h3, .ref h4, .ref h5, .ref h6, .ref h7, .ref h8, .int (-1), .ref h9, .ref h10, .int 250, .ref h11, .int 0, .ref h12, .ref h13, .ref h14]))] sz)) 1 6 (va_A [(h0, .inr (12, [.ref h2, .int 0, .ref h3, .ref h4, .ref h5, .ref h6, .ref h7, .ref h8, .int (-1), .ref h9, .ref h10, .int 250, .ref h11, .int 0, .ref h12, .ref h13, .ref h14]))] sz) := by
  refine va_MetW (cc := cL_canStill) (maxL := 5) (ret := (some .int)) (by decide) rfl ?_
  intro p e s m args below meth c s₁ B hml hv
  obtain ⟨rfl, hsz, hP, hD0, hE⟩ := hv
  have hx := B.exec
  have hb := B.bytes
  have hr := B.returns
  have hts := atoms_spec (ws := w9_L_canStill_3) B.pre
  have hown : s.vm.findClass RL = some m.cls := findClass_of_methodNamed B.named
  have hlocks := B.notSynchronized
  have htab := vx_table (x := yL_canStill) B (hts (.codeWith yL_canStill cL_canStill 5 (some .int) [(0, 17, 20, 21), (0, 17, 24, 15)]) (List.mem_of_getElem? (i := 0) rfl))
  subst hsz
  have hD := hD0.self (sz := s.heap.size)
  generalize hAe : va_A [(h0, .inr (12, [.ref h2, .int 0, .ref h3, .ref h4, .ref h5, .ref h6, .ref h7, .ref h8, .int (-1), .ref h9, .ref h10, .int 250, .ref h11, .int 0, .ref h12, .ref h13, .ref h14]))] s.heap.size = A at hD hE ⊢
  have hA : ∀ q : Nat, s.heap.size ≤ q → A q := fun q h => by rw [← hAe]; exact Or.inr h
  have hK := hE.1
  have hS : va_S A s.heap s.heap [] := va_S.rf
  replace hP : va_P g.1 vwCl [(h0, .inr (12, [.ref h2, .int 0, .ref h3, .ref h4, .ref h5, .ref h6, .ref h7, .ref h8, .int (-1), .ref h9, .ref h10, .int 250, .ref h11, .int 0, .ref h12, .ref h13, .ref h14]))] s.heap := hP
  have hl := lv_entry ([.ref h0, .int v0, .int v1, .ref h1]) (n := 5) (Nat.le_of_ble_eq_true rfl)
  rw [lg_entry_eq]
  generalize (lg_sl ([.ref h0, .int v0, .int v1, .ref h1]) ++ List.replicate (5 - (lg_sl ([.ref h0, .int v0, .int v1, .ref h1])).length) Slot.unset).toArray = ls at hl ⊢
  replace hl : lv_has ls 5 [(0, .ref h0), (1, .int v0), (2, .int v1), (3, .ref h1)] := hl
  have hH0 : s.heap.size ≤ s.heap.size := Nat.le_refl _
  refine lv_aload_n hx hb dL_canStill_0 rfl (lv_at hl 3 rfl) ?_
  refine lv_iconst (v := 0) hx hb dL_canStill_1 (by decide) ?_
  refine lv_aload_n hx hb dL_canStill_2 rfl (lv_at hl 0 rfl) ?_
  refine lv_iload_n hx hb dL_canStill_3 rfl (lv_at hl 1 rfl) ?_
  refine lv_iload_n hx hb dL_canStill_4 rfl (lv_at hl 2 rfl) ?_
  have hPc := hP.sub (ws' := [(h0, .inr (12, [.ref h2, .int 0, .ref h3, .ref h4, .ref h5, .ref h6, .ref h7, .ref h8, .int (-1), .ref h9, .ref h10, .int 250, .ref h11, .int 0, .ref h12, .ref h13, .ref h14]))]) [0] rfl
  have hDc := hD.sub (ws' := [(h0, .inr (12, [.ref h2, .int 0, .ref h3, .ref h4, .ref h5, .ref h6, .ref h7, .ref h8, .int (-1), .ref h9, .ref h10, .int 250, .ref h11, .int 0, .ref h12, .ref h13, .ref h14]))]) [0] (by decide) rfl
  have hFc := va_free (wc := [(h0, .inr (12, [.ref h2, .int 0, .ref h3, .ref h4, .ref h5, .ref h6, .ref h7, .ref h8, .int (-1), .ref h9, .ref h10, .int 250, .ref h11, .int 0, .ref h12, .ref h13, .ref h14]))]) hD hS hA [0] rfl
  refine vx_callv (vx_runV (As := [.int v0, .int v1]) (rest := [.int 0, .ref h1]) ⟨hx, hb, hml, hown, hts⟩ (c9_X11_canStill_3 l hlt g h0 h2 h3 h4 h5 h6 h7 h8 h9 h10 h11 h12 h13 h14 _ v0 v1 (by omega) (by omega)) (cwV 2 hts g9_L_canStill_3_0 rfl rfl rfl (by decide +kernel) ⟨Nat.le_of_ble_eq_true rfl, Nat.le_of_ble_eq_true rfl⟩) (mPreV (g := g) (wc := [(h0, .inr (12, [.ref h2, .int 0, .ref h3, .ref h4, .ref h5, .ref h6, .ref h7, .ref h8, .int (-1), .ref h9, .ref h10, .int 250, .ref h11, .int 0, .ref h12, .ref h13, .ref h14]))]) (C := RX11) (ci := 12) (q0 := 0) hE hS hPc hDc hFc rfl rfl) rfl rfl hl.1 rfl (lv_room (Nat.le_of_ble_eq_true rfl)) dL_canStill_5 ⟨Nat.le_of_ble_eq_true rfl, Nat.le_of_ble_eq_true rfl⟩) hS (fun q _ h => hFc q h) hFc (fun q _ h => hFc q h) (fun E9 ce q9 u t H locs ht hvm hw hB hz1 hk1 hS hc1 hc2 hc3 => ?_) (fun u t H1 locs ht hvm hw hB hz1 hk1 hS => hw.elim)
  replace hB : E9 = "java/lang/IndexOutOfBoundsException" := hB
  subst hB
  obtain ⟨hP, hD⟩ := va_join (wr := []) (w1 := []) hP hD [0] [] rfl rfl (by decide) (by decide) hk1 hFc (fun k q h => by simp at h) ⟨fun i j p q h => by simp at h, fun k q h => by simp at h⟩
  have hP : va_P g.1 vwCl [] H := hP
  have hD : va_D A [] := hD
  refine vx_catch (own := RL) (name := "java/lang/IndexOutOfBoundsException") hown [] ⟨0, 17, 20, 21⟩ [⟨0, 17, 24, 15⟩] (by rw [htab]; rfl) (fun z hz => absurd hz List.not_mem_nil) (by decide) (by decide) (hts (.classLink RL 21 "java/lang/IndexOutOfBoundsException") (List.mem_of_getElem? (i := 61) rfl)) (va_Nw.use rfl (hE.cast ("java/lang/IndexOutOfBoundsException", "java/lang/IndexOutOfBoundsException") (by decide))) hc1 hc2 hc3 ?_
  refine lv_astore (lv' := [(4, .ref q9), (0, .ref h0), (1, .int v0), (2, .int v1), (3, .ref h1)]) hx hb dL_canStill_20 hl (by decide) rfl (fun ls hl => ?_)
  refine lv_iconst (v := 1) hx hb dL_canStill_22 (by decide) ?_
  have hP9 := hP.sub (ws' := []) [] rfl
  have hD9 := hD.sub (ws' := []) [] (by decide) rfl
  subst hAe
  exact W.iret (v := 1) hx hb hr (fun t ht hW => ⟨⟨1, (), rfl, rfl, by rw [ht]; exact hP9, hD9⟩, hS.F ht⟩) hS.2.2 dL_canStill_23
def w9_X21_canStill_3 : List Cond := [.code yX21_canStill cX21_canStill 10 (some .boolean), .methodLink RX21 550 yX21_notRegular, .instanceMethod yX21_notRegular, .selects RX21 yX21_notRegular yX21_notRegular, .initialized RX21, .code yX21_notRegular cX21_notRegular 4 (some .int), .methodLink RX21 416 yX21_unknownPlace, .instanceMethod yX21_unknownPlace, .selects RX21 yX21_unknownPlace yX21_unknownPlace, .code yX21_unknownPlace cX21_unknownPlace 4 (some .int), .methodLink RX21 160 yX21_in, .static yX21_in, .code yX21_in cX21_in 3 (some .boolean), .fieldLink RX21 196 "RegexloomModel" "length" "I", .methodLink RX21 154 yX21_refused, .instanceMethod yX21_refused, .selects RX21 yX21_refused yX21_refused, .code yX21_refused cX21_refused 2 (some .boolean), .fieldLink RX21 144 "RegexloomModel" "refusal" "I"] ++ (u_ws RX21 TX21 32)
set_option maxRecDepth 20000 in
theorem in9_X21_canStill_3_RX21 : ∀ w ∈ u_ws RX21 TX21 32, w ∈ w9_X21_canStill_3 := by decide +kernel
set_option maxRecDepth 20000 in
theorem g9_X21_canStill_3_0 : GoodIn w9_X21_canStill_3 (wsV RX21 550 RX21 yX21_notRegular w9_X21_notRegular_3) := goodIn_r _ [1, 2, 3, 4, 5, 6, 7, 8, 4, 9, 10, 11, 12, 13, 19, 20, 21, 22, 23, 24, 25, 26, 27, 28, 29, 30, 31, 32, 33, 34, 35, 36, 37, 38, 39, 40, 41, 42, 43, 44, 45, 46, 47, 48, 49, 50] (by decide +kernel) (by decide +kernel)
set_option maxRecDepth 20000 in
theorem g9_X21_canStill_3_1 : GoodIn w9_X21_canStill_3 (wsV RX21 154 RX21 yX21_refused w9_X21_refused_2) := goodIn_r _ [14, 15, 16, 4, 17, 18, 19, 20, 21, 22, 23, 24, 25, 26, 27, 28, 29, 30, 31, 32, 33, 34, 35, 36, 37, 38, 39, 40, 41, 42, 43, 44, 45, 46, 47, 48, 49, 50] (by decide +kernel) (by decide +kernel)
set_option maxHeartbeats 4000000 in
set_option maxRecDepth 100000 in
theorem c9_X21_canStill_3 (l : Launch) (g : G9) (h0 h1 h2 h3 h4 h5 h6 h7 h8 h9 h10 h11 h12 h13 h14 h15 h16 sz : Nat) (v0 v1 : Int32) (k_v0 : 0 ≤ v0.toInt ∧ v0.toInt ≤ 3) (k_v1 : (-2147483648) ≤ v1.toInt ∧ v1.toInt ≤ (-1)) : Met l yX21_canStill w9_X21_canStill_3 ({ frames := 3, cells := 0, slots := 0, locals := 68 }) (mP g [(h0, .inr (22, [.int 0, .ref h1, .int 0, .ref h2, .int 0, .ref h3, .int 250, .ref h4, .int 0, .ref h5, .ref h6, .ref h7, .int 0, .ref h8, .ref h9, .ref h10, .int 0, .null, .int 0, .null, .int 0, .int 0, .int 0, .ref h11, .int 0, .ref h12, .ref h13, .ref h14, .int 0, .ref h15, .ref h16, .int 0]))] sz [.ref h0, .int v0, .int v1]) (va_Qi (fun (r : Int32) (_ : Unit) => r = 0) (fun (_ : Unit) (t : State) => mB g [(h0, .inr (22, [.int 0, .ref h1, .int 0, .ref h2, .int 0, .ref h3, .int 250, .ref h4, .int 0, .ref h5, .ref h6, .ref h7, .int 0, .ref h8, .ref h9, .ref h10, .int 0, .null, .int 0, .null, .int 0, .int 0, .int 0, .ref h11, .int 0, .ref h12, .ref h13, .ref h14, .int 0, .ref h15, .ref h16, .int 0]))] sz [(h0, .inr (22, [.int 1, .ref h1, .int 0, .ref h2, .int 0, .ref h3, .int 250, .ref h4, .int 0, .ref h5, .ref h6, .ref h7, .int 0, .ref h8, .ref h9, .ref h10, .int 0, .null, .int 0, .null, .int 0, .int 0, .int 0, .ref h11, .int 0, .ref h12, .ref h13, .ref h14, .int 0, .ref h15, .ref h16, .int 0]))] t) (va_A [(h0, .inr (22, [.int 0, .ref h1, .int 0, .ref h2, .int 0, .ref h3, .int 250, .ref h4, .int 0, .ref h5, .ref h6, .ref h7, .int 0, .ref h8, .ref h9, .ref h10, .int 0, .null, .int 0, .null, .int 0, .int 0, .int 0, .ref h11, .int 0, .ref h12, .ref h13, .ref h14, .int 0, .ref h15, .ref h16, .int 0]))] sz)) 0 0 (va_A [(h0, .inr (22, [.int 0, .ref h1, .int 0, .ref h2, .int 0, .ref h3, .int 250, .ref h4, .int 0, .ref h5, .ref h6, .ref h7, .int 0, .ref h8, .ref h9, .ref h10, .int 0, .null, .int 0, .null, .int 0, .int 0, .int 0, .ref h11, .int 0, .ref h12, .ref h13, .ref h14, .int 0, .ref h15, .ref h16, .int 0]))] sz) := by
  refine Met.ofW (cc := cX21_canStill) (maxL := 10) (ret := (some .boolean)) (by decide) rfl ?_
  intro p e s m args below meth c s₁ B hml hv
  obtain ⟨rfl, hsz, hP, hD0, hE⟩ := hv
  have hx := B.exec
  have hb := B.bytes
  have hr := B.returns
  have hts := atoms_spec (ws := w9_X21_canStill_3) B.pre
  have hown : s.vm.findClass RX21 = some m.cls := findClass_of_methodNamed B.named
  have hlocks := B.notSynchronized
  subst hsz
  have hD := hD0.self (sz := s.heap.size)
  generalize hAe : va_A [(h0, .inr (22, [.int 0, .ref h1, .int 0, .ref h2, .int 0, .ref h3, .int 250, .ref h4, .int 0, .ref h5, .ref h6, .ref h7, .int 0, .ref h8, .ref h9, .ref h10, .int 0, .null, .int 0, .null, .int 0, .int 0, .int 0, .ref h11, .int 0, .ref h12, .ref h13, .ref h14, .int 0, .ref h15, .ref h16, .int 0]))] s.heap.size = A at hD hE ⊢
  have hA : ∀ q : Nat, s.heap.size ≤ q → A q := fun q h => by rw [← hAe]; exact Or.inr h
  have hK := hE.1
  have hS : va_S A s.heap s.heap [] := va_S.rf
  replace hP : va_P g.1 vwCl [(h0, .inr (22, [.int 0, .ref h1, .int 0, .ref h2, .int 0, .ref h3, .int 250, .ref h4, .int 0, .ref h5, .ref h6, .ref h7, .int 0, .ref h8, .ref h9, .ref h10, .int 0, .null, .int 0, .null, .int 0, .int 0, .int 0, .ref h11, .int 0, .ref h12, .ref h13, .ref h14, .int 0, .ref h15, .ref h16, .int 0]))] s.heap := hP
  have hl := lv_entry ([.ref h0, .int v0, .int v1]) (n := 10) (Nat.le_of_ble_eq_true rfl)
  rw [lg_entry_eq]
  generalize (lg_sl ([.ref h0, .int v0, .int v1]) ++ List.replicate (10 - (lg_sl ([.ref h0, .int v0, .int v1])).length) Slot.unset).toArray = ls at hl ⊢
  replace hl : lv_has ls 10 [(0, .ref h0), (1, .int v0), (2, .int v1)] := hl
  have hH0 : s.heap.size ≤ s.heap.size := Nat.le_refl _
  refine lv_aload_n hx hb dX21_canStill_0 rfl (lv_at hl 0 rfl) ?_
  refine lv_aload_n hx hb dX21_canStill_1 rfl (lv_at hl 0 rfl) ?_
  refine lv_iload_n hx hb dX21_canStill_2 rfl (lv_at hl 1 rfl) ?_
  refine lv_iload_n hx hb dX21_canStill_3 rfl (lv_at hl 2 rfl) ?_
  have hPc := hP.sub (ws' := [(h0, .inr (22, [.int 0, .ref h1, .int 0, .ref h2, .int 0, .ref h3, .int 250, .ref h4, .int 0, .ref h5, .ref h6, .ref h7, .int 0, .ref h8, .ref h9, .ref h10, .int 0, .null, .int 0, .null, .int 0, .int 0, .int 0, .ref h11, .int 0, .ref h12, .ref h13, .ref h14, .int 0, .ref h15, .ref h16, .int 0]))]) [0] rfl
  have hDc := hD.sub (ws' := [(h0, .inr (22, [.int 0, .ref h1, .int 0, .ref h2, .int 0, .ref h3, .int 250, .ref h4, .int 0, .ref h5, .ref h6, .ref h7, .int 0, .ref h8, .ref h9, .ref h10, .int 0, .null, .int 0, .null, .int 0, .int 0, .int 0, .ref h11, .int 0, .ref h12, .ref h13, .ref h14, .int 0, .ref h15, .ref h16, .int 0]))]) [0] (by decide) rfl
  have hFc := va_free (wc := [(h0, .inr (22, [.int 0, .ref h1, .int 0, .ref h2, .int 0, .ref h3, .int 250, .ref h4, .int 0, .ref h5, .ref h6, .ref h7, .int 0, .ref h8, .ref h9, .ref h10, .int 0, .null, .int 0, .null, .int 0, .int 0, .int 0, .ref h11, .int 0, .ref h12, .ref h13, .ref h14, .int 0, .ref h15, .ref h16, .int 0]))]) hD hS hA [0] rfl
  refine va_calli (va_runV (As := [.int v0, .int v1]) (rest := [.ref h0]) ⟨hx, hb, hml, hown, hts⟩ (c9_X21_notRegular_3 l g h0 h1 h2 h3 h4 h5 h6 h7 h8 h9 h10 h11 h12 h13 h14 h15 h16 _ v0 v1 (by omega) (by omega)) (cwV 2 hts g9_X21_canStill_3_0 rfl rfl rfl (by decide +kernel) ⟨Nat.le_of_ble_eq_true rfl, Nat.le_of_ble_eq_true rfl⟩) (mPreV (g := g) (wc := [(h0, .inr (22, [.int 0, .ref h1, .int 0, .ref h2, .int 0, .ref h3, .int 250, .ref h4, .int 0, .ref h5, .ref h6, .ref h7, .int 0, .ref h8, .ref h9, .ref h10, .int 0, .null, .int 0, .null, .int 0, .int 0, .int 0, .ref h11, .int 0, .ref h12, .ref h13, .ref h14, .int 0, .ref h15, .ref h16, .int 0]))]) (C := RX21) (ci := 22) (q0 := 0) hE hS hPc hDc hFc rfl rfl) rfl rfl hl.1 rfl (lv_room (Nat.le_of_ble_eq_true rfl)) dX21_canStill_4 ⟨Nat.le_of_ble_eq_true rfl, Nat.le_of_ble_eq_true rfl⟩) hS (fun q _ h => hFc q h) hFc (fun r_1 u t H1 locs ht hvm hw hB hz1 hk1 hS => ?_)
  replace hw : 1 = r_1 := Eq.symm hw
  subst hw
  obtain ⟨hP1, hD1⟩ := hB
  rw [ht] at hP1
  obtain ⟨hP, hD⟩ := va_join (wr := []) (w1 := [(h0, .inr (22, [.int 0, .ref h1, .int 0, .ref h2, .int 0, .ref h3, .int 250, .ref h4, .int 0, .ref h5, .ref h6, .ref h7, .int 0, .ref h8, .ref h9, .ref h10, .int 0, .null, .int 0, .null, .int 0, .int 0, .int 0, .ref h11, .int 0, .ref h12, .ref h13, .ref h14, .int 0, .ref h15, .ref h16, .int 0]))]) hP hD [0] [] rfl rfl (by decide) (by decide) hk1 hFc hP1 hD1
  clear hP1 hD1 hPc hDc hFc hk1 hz1 hvm ht
  generalize H1 = H at hP hS ⊢
  have hP : va_P g.1 vwCl [(h0, .inr (22, [.int 0, .ref h1, .int 0, .ref h2, .int 0, .ref h3, .int 250, .ref h4, .int 0, .ref h5, .ref h6, .ref h7, .int 0, .ref h8, .ref h9, .ref h10, .int 0, .null, .int 0, .null, .int 0, .int 0, .int 0, .ref h11, .int 0, .ref h12, .ref h13, .ref h14, .int 0, .ref h15, .ref h16, .int 0]))] H := hP
  have hD : va_D A [(h0, .inr (22, [.int 0, .ref h1, .int 0, .ref h2, .int 0, .ref h3, .int 250, .ref h4, .int 0, .ref h5, .ref h6, .ref h7, .int 0, .ref h8, .ref h9, .ref h10, .int 0, .null, .int 0, .null, .int 0, .int 0, .int 0, .ref h11, .int 0, .ref h12, .ref h13, .ref h14, .int 0, .ref h15, .ref h16, .int 0]))] := hD
  have hPc := hP.sub (ws' := [(h0, .inr (22, [.int 0, .ref h1, .int 0, .ref h2, .int 0, .ref h3, .int 250, .ref h4, .int 0, .ref h5, .ref h6, .ref h7, .int 0, .ref h8, .ref h9, .ref h10, .int 0, .null, .int 0, .null, .int 0, .int 0, .int 0, .ref h11, .int 0, .ref h12, .ref h13, .ref h14, .int 0, .ref h15, .ref h16, .int 0]))]) [0] rfl
  have hDc := hD.sub (ws' := [(h0, .inr (22, [.int 0, .ref h1, .int 0, .ref h2, .int 0, .ref h3, .int 250, .ref h4, .int 0, .ref h5, .ref h6, .ref h7, .int 0, .ref h8, .ref h9, .ref h10, .int 0, .null, .int 0, .null, .int 0, .int 0, .int 0, .ref h11, .int 0, .ref h12, .ref h13, .ref h14, .int 0, .ref h15, .ref h16, .int 0]))]) [0] (by decide) rfl
  have hFc := va_free (wc := [(h0, .inr (22, [.int 0, .ref h1, .int 0, .ref h2, .int 0, .ref h3, .int 250, .ref h4, .int 0, .ref h5, .ref h6, .ref h7, .int 0, .ref h8, .ref h9, .ref h10, .int 0, .null, .int 0, .null, .int 0, .int 0, .int 0, .ref h11, .int 0, .ref h12, .ref h13, .ref h14, .int 0, .ref h15, .ref h16, .int 0]))]) hD hS hA [0] rfl
  refine va_calli (va_runV (As := [.int 1]) (rest := []) ⟨hx, hb, hml, hown, hts⟩ (c9_X21_refused_2 l g h0 h1 h2 h3 h4 h5 h6 h7 h8 h9 h10 h11 h12 h13 h14 h15 h16 _) (cwV 1 hts g9_X21_canStill_3_1 rfl rfl rfl (by decide +kernel) ⟨Nat.le_of_ble_eq_true rfl, Nat.le_of_ble_eq_true rfl⟩) (mPreV (g := g) (wc := [(h0, .inr (22, [.int 0, .ref h1, .int 0, .ref h2, .int 0, .ref h3, .int 250, .ref h4, .int 0, .ref h5, .ref h6, .ref h7, .int 0, .ref h8, .ref h9, .ref h10, .int 0, .null, .int 0, .null, .int 0, .int 0, .int 0, .ref h11, .int 0, .ref h12, .ref h13, .ref h14, .int 0, .ref h15, .ref h16, .int 0]))]) (C := RX21) (ci := 22) (q0 := 0) hE hS hPc hDc hFc rfl rfl) rfl rfl hl.1 rfl (lv_room (Nat.le_of_ble_eq_true rfl)) dX21_canStill_7 ⟨Nat.le_of_ble_eq_true rfl, Nat.le_of_ble_eq_true rfl⟩) hS (fun q _ h => hFc q h) hFc (fun r_2 u t H1 locs ht hvm hw hB hz1 hk1 hS => ?_)
  replace hw : 1 = r_2 := Eq.symm hw
  subst hw
  obtain ⟨hP1, hD1⟩ := hB
  rw [ht] at hP1
  obtain ⟨hP, hD⟩ := va_join (wr := []) (w1 := [(h0, .inr (22, [.int 1, .ref h1, .int 0, .ref h2, .int 0, .ref h3, .int 250, .ref h4, .int 0, .ref h5, .ref h6, .ref h7, .int 0, .ref h8, .ref h9, .ref h10, .int 0, .null, .int 0, .null, .int 0, .int 0, .int 0, .ref h11, .int 0, .ref h12, .ref h13, .ref h14, .int 0, .ref h15, .ref h16, .int 0]))]) hP hD [0] [] rfl rfl (by decide) (by decide) hk1 hFc hP1 hD1
  clear hP1 hD1 hPc hDc hFc hk1 hz1 hvm ht
  generalize H1 = H at hP hS ⊢
  have hP : va_P g.1 vwCl [(h0, .inr (22, [.int 1, .ref h1, .int 0, .ref h2, .int 0, .ref h3, .int 250, .ref h4, .int 0, .ref h5, .ref h6, .ref h7, .int 0, .ref h8, .ref h9, .ref h10, .int 0, .null, .int 0, .null, .int 0, .int 0, .int 0, .ref h11, .int 0, .ref h12, .ref h13, .ref h14, .int 0, .ref h15, .ref h16, .int 0]))] H := hP
  have hD : va_D A [(h0, .inr (22, [.int 1, .ref h1, .int 0, .ref h2, .int 0, .ref h3, .int 250, .ref h4, .int 0, .ref h5, .ref h6, .ref h7, .int 0, .ref h8, .ref h9, .ref h10, .int 0, .null, .int 0, .null, .int 0, .int 0, .int 0, .ref h11, .int 0, .ref h12, .ref h13, .ref h14, .int 0, .ref h15, .ref h16, .int 0]))] := hD
  refine lv_if_eq (tgt := 15) hx hb dX21_canStill_10 (by decide) (fun c9 => absurd c9 (by decide)) (fun _ => ?_)
  refine lv_iconst (v := 0) hx hb dX21_canStill_13 (by decide) ?_
  have hP9 := hP.sub (ws' := [(h0, .inr (22, [.int 1, .ref h1, .int 0, .ref h2, .int 0, .ref h3, .int 250, .ref h4, .int 0, .ref h5, .ref h6, .ref h7, .int 0, .ref h8, .ref h9, .ref h10, .int 0, .null, .int 0, .null, .int 0, .int 0, .int 0, .ref h11, .int 0, .ref h12, .ref h13, .ref h14, .int 0, .ref h15, .ref h16, .int 0]))]) [0] rfl
  have hD9 := hD.sub (ws' := [(h0, .inr (22, [.int 1, .ref h1, .int 0, .ref h2, .int 0, .ref h3, .int 250, .ref h4, .int 0, .ref h5, .ref h6, .ref h7, .int 0, .ref h8, .ref h9, .ref h10, .int 0, .null, .int 0, .null, .int 0, .int 0, .int 0, .ref h11, .int 0, .ref h12, .ref h13, .ref h14, .int 0, .ref h15, .ref h16, .int 0]))]) [0] (by decide) rfl
  subst hAe
  exact W.zret (v := 0) hx hb hr (by decide) (fun t ht hW => ⟨⟨0, (), rfl, rfl, by rw [ht]; exact hP9, hD9⟩, hS.F ht⟩) hS.2.2 dX21_canStill_14
def w9_X11_canStill_4 : List Cond := [.code yX11_canStill cX11_canStill 3 (some .boolean), .methodLink RX11 124 yX11_needPattern, .instanceMethod yX11_needPattern, .selects RX11 yX11_needPattern yX11_needPattern, .initialized RX11, .code yX11_needPattern cX11_needPattern 2 none, .methodLink RX11 180 yX11_needPlace, .instanceMethod yX11_needPlace, .selects RX11 yX11_needPlace yX11_needPlace, .code yX11_needPlace cX11_needPlace 2 none, .fieldLink RX11 16 "Regexloom" "text" "LRegexloom$Text;", .methodLink RX11 146 yX10_size, .instanceMethod yX10_size, .selects RX10 yX10_size yX10_size, .initialized RX10, .code yX10_size cX10_size 1 (some .int), .fieldLink RX10 14 "Regexloom$Text" "codes" "LRegexloom$Table;", .methodLink RX10 20 yX9_size, .instanceMethod yX9_size, .selects RX9 yX9_size yX9_size, .initialized RX9, .code yX9_size cX9_size 1 (some .int), .fieldLink RX9 28 "Regexloom$Table" "size" "I", .initialized "java/lang/Throwable", .superclass "java/lang/Throwable" "java/lang/Object", .instanceMethod Bundle.tFill, .codeSync Bundle.tFill LibCode.Throwable.Fill.code 1 (some (.object "java/lang/Throwable")), .instanceMethod Bundle.tFill0, .native Bundle.tFill0, .instanceMethod Bundle.tInit0, .code Bundle.tInit0 LibCode.Throwable.Init0.code 1 none, .instanceMethod Bundle.oInit, .code Bundle.oInit ⟨#[0xb1]⟩ 1 none, .methodLink "java/lang/Throwable" 1 Bundle.oInit, .methodLink "java/lang/Throwable" 27 Bundle.tFill, .methodLink "java/lang/Throwable" 202 Bundle.tFill0, .fieldLink "java/lang/Throwable" 7 "java/lang/Throwable" "cause" "Ljava/lang/Throwable;", .lays "java/lang/Throwable" "java/lang/Throwable" "cause" "Ljava/lang/Throwable;", .fieldLink "java/lang/Throwable" 17 "java/lang/Throwable" "stackTrace" "[Ljava/lang/StackTraceElement;", .lays "java/lang/Throwable" "java/lang/Throwable" "stackTrace" "[Ljava/lang/StackTraceElement;", .fieldLink "java/lang/Throwable" 24 "java/lang/Throwable" "suppressedExceptions" "Ljava/util/List;", .lays "java/lang/Throwable" "java/lang/Throwable" "suppressedExceptions" "Ljava/util/List;", .fieldLink "java/lang/Throwable" 13 "java/lang/Throwable" "UNASSIGNED_STACK" "[Ljava/lang/StackTraceElement;", .fieldLink "java/lang/Throwable" 20 "java/lang/Throwable" "SUPPRESSED_SENTINEL" "Ljava/util/List;", .lays "java/lang/Throwable" "java/lang/Throwable" "detailMessage" "Ljava/lang/String;", .instanceMethod (Bundle.initS "java/lang/Throwable"), .code (Bundle.initS "java/lang/Throwable") LibCode.Throwable.InitS.code 2 none, .fieldLink "java/lang/Throwable" 31 "java/lang/Throwable" "detailMessage" "Ljava/lang/String;", .instanceMethod (Bundle.initS "java/lang/IndexOutOfBoundsException"), .code (Bundle.initS "java/lang/IndexOutOfBoundsException") Bundle.six 2 none, .methodLink "java/lang/IndexOutOfBoundsException" 7 (Bundle.initS "java/lang/RuntimeException"), .instanceMethod (Bundle.initS "java/lang/RuntimeException"), .code (Bundle.initS "java/lang/RuntimeException") Bundle.six 2 none, .methodLink "java/lang/RuntimeException" 7 (Bundle.initS "java/lang/Exception"), .instanceMethod (Bundle.initS "java/lang/Exception"), .code (Bundle.initS "java/lang/Exception") Bundle.six 2 none, .methodLink "java/lang/Exception" 7 (Bundle.initS "java/lang/Throwable"), .methodLink RX11 224 (Bundle.initS "java/lang/IndexOutOfBoundsException"), .instantiable "java/lang/IndexOutOfBoundsException" 6, .selects "java/lang/IndexOutOfBoundsException" Bundle.tFill0 Bundle.tFill0, .selects "java/lang/IndexOutOfBoundsException" Bundle.tFill Bundle.tFill, .lays "java/lang/IndexOutOfBoundsException" "java/lang/Throwable" "cause" "Ljava/lang/Throwable;", .lays "java/lang/IndexOutOfBoundsException" "java/lang/Throwable" "stackTrace" "[Ljava/lang/StackTraceElement;", .lays "java/lang/IndexOutOfBoundsException" "java/lang/Throwable" "suppressedExceptions" "Ljava/util/List;", .lays "java/lang/IndexOutOfBoundsException" "java/lang/Throwable" "detailMessage" "Ljava/lang/String;", .fieldLink "java/lang/Throwable" 198 "java/lang/Throwable" "backtrace" "Ljava/lang/Object;", .lays "java/lang/Throwable" "java/lang/Throwable" "backtrace" "Ljava/lang/Object;", .lays "java/lang/IndexOutOfBoundsException" "java/lang/Throwable" "backtrace" "Ljava/lang/Object;", .classLink RX11 220 "java/lang/IndexOutOfBoundsException", .initialized "java/lang/IndexOutOfBoundsException"] ++ (u_ws RX11 TX11 17 ++ u_ws RX10 TX10 1 ++ u_ws RX9 TX9 4)
set_option maxRecDepth 20000 in
theorem in9_X11_canStill_4_RX11 : ∀ w ∈ u_ws RX11 TX11 17, w ∈ w9_X11_canStill_4 := by decide +kernel
set_option maxRecDepth 20000 in
theorem in9_X11_canStill_4_RX10 : ∀ w ∈ u_ws RX10 TX10 1, w ∈ w9_X11_canStill_4 := by decide +kernel
set_option maxRecDepth 20000 in
theorem in9_X11_canStill_4_RX9 : ∀ w ∈ u_ws RX9 TX9 4, w ∈ w9_X11_canStill_4 := by decide +kernel
set_option maxRecDepth 20000 in
theorem g9_X11_canStill_4_0 : GoodIn w9_X11_canStill_4 (wsV RX11 124 RX11 yX11_needPattern w9_X11_needPattern_7) := goodIn_r _ [1, 2, 3, 4, 5] (by decide +kernel) (by decide +kernel)
set_option maxRecDepth 20000 in
theorem g9_X11_canStill_4_1 : GoodIn w9_X11_canStill_4 (wsV RX11 180 RX11 yX11_needPlace w9_X11_needPlace_2) := goodIn_r _ [6, 7, 8, 4, 9, 10, 11, 12, 13, 14, 15, 16, 17, 18, 19, 20, 21, 22, 23, 24, 25, 26, 27, 28, 29, 30, 31, 32, 33, 34, 35, 36, 37, 38, 39, 40, 41, 42, 43, 44, 45, 46, 47, 48, 49, 50, 51, 52, 53, 54, 55, 56, 57, 58, 59, 60, 61, 62, 63, 64, 65, 66, 67, 68, 69, 70, 71, 72, 73, 74, 75, 76, 77, 78, 79, 80, 81, 82, 83, 84, 85, 86, 87, 88, 89, 90, 91] (by decide +kernel) (by decide +kernel)
set_option maxHeartbeats 4000000 in
set_option maxRecDepth 100000 in
theorem c9_X11_canStill_4 (l : Launch) (hlt : l.stackTraces = false) (g : G9) (h0 h1 h2 h3 h4 h5 h6 h7 h8 h9 h10 h11 h12 h13 h14 h15 sz : Nat) (v0 v1 : Int32) (k_v0 : 0 ≤ v0.toInt ∧ v0.toInt ≤ 3) (k_v1 : 1 ≤ v1.toInt ∧ v1.toInt ≤ 2147483647) : vx_Met l yX11_canStill w9_X11_canStill_4 ({ frames := 7, cells := 1, slots := 6, locals := 103 }) (mP g [(h0, .inr (12, [.ref h1, .int 0, .ref h2, .ref h3, .ref h4, .ref h5, .ref h6, .ref h7, .int (-1), .ref h8, .ref h9, .int 250, .ref h10, .int 0, .ref h11, .ref h12, .ref h13])), (h2, .inr (11, [.ref h14])), (h14, .inr (10, [.int 1, .int 20, .ref h15, .int 0]))] sz [.ref h0, .int v0, .int v1]) (va_Qv (fun _ : Unit => False) (fun _ _ => True) (va_A [(h0, .inr (12, [.ref h1, .int 0, .ref h2, .ref h3, .ref h4, .ref h5, .ref h6, .ref h7, .int (-1), .ref h8, .ref h9, .int 250, .ref h10, .int 0, .ref h11, .ref h12, .ref h13])), (h2, .inr (11, [.ref h14])), (h14, .inr (10, [.int 1, .int 20, .ref h15, .int 0]))] sz)) (mT g [(h0, .inr (12, [.ref h1, .int 0, .ref h2, .ref h3, .ref h4, .ref h5, .ref h6, .ref h7, .int (-1), .ref h8, .ref h9, .int 250, .ref h10, .int 0, .ref h11, .ref h12, .ref h13])), (h2, .inr (11, [.ref h14])), (h14, .inr (10, [.int 1, .int 20, .ref h15, .int 0]))] sz "java/lang/IndexOutOfBoundsException") 1 6 (va_A [(h0, .inr (12, [.ref h1, .int 0, .ref h2, .ref h3, .ref h4, .ref h5, .ref h6, .ref h7, .int (-1), .ref h8, .ref h9, .int 250, .ref h10, .int 0, .ref h11, .ref h12, .ref h13])), (h2, .inr (11, [.ref h14])), (h14, .inr (10, [.int 1, .int 20, .ref h15, .int 0]))] sz) := by
  refine vx_ofW (cc := cX11_canStill) (maxL := 3) (ret := (some .boolean)) (by decide) rfl ?_
  intro p e s m args below meth c s₁ B hml hno hv
  obtain ⟨rfl, hsz, hP, hD0, hE⟩ := hv
  have hx := B.exec
  have hb := B.bytes
  have hr := B.returns
  have hts := atoms_spec (ws := w9_X11_canStill_4) B.pre
  have hown : s.vm.findClass RX11 = some m.cls := findClass_of_methodNamed B.named
  have hlocks := B.notSynchronized
  subst hsz
  have hD := hD0.self (sz := s.heap.size)
  generalize hAe : va_A [(h0, .inr (12, [.ref h1, .int 0, .ref h2, .ref h3, .ref h4, .ref h5, .ref h6, .ref h7, .int (-1), .ref h8, .ref h9, .int 250, .ref h10, .int 0, .ref h11, .ref h12, .ref h13])), (h2, .inr (11, [.ref h14])), (h14, .inr (10, [.int 1, .int 20, .ref h15, .int 0]))] s.heap.size = A at hD hE ⊢
  have hA : ∀ q : Nat, s.heap.size ≤ q → A q := fun q h => by rw [← hAe]; exact Or.inr h
  have hK := hE.1
  have hS : va_S A s.heap s.heap [] := va_S.rf
  replace hP : va_P g.1 vwCl [(h0, .inr (12, [.ref h1, .int 0, .ref h2, .ref h3, .ref h4, .ref h5, .ref h6, .ref h7, .int (-1), .ref h8, .ref h9, .int 250, .ref h10, .int 0, .ref h11, .ref h12, .ref h13])), (h2, .inr (11, [.ref h14])), (h14, .inr (10, [.int 1, .int 20, .ref h15, .int 0]))] s.heap := hP
  have hl := lv_entry ([.ref h0, .int v0, .int v1]) (n := 3) (Nat.le_of_ble_eq_true rfl)
  rw [lg_entry_eq]
  generalize (lg_sl ([.ref h0, .int v0, .int v1]) ++ List.replicate (3 - (lg_sl ([.ref h0, .int v0, .int v1])).length) Slot.unset).toArray = ls at hl ⊢
  replace hl : lv_has ls 3 [(0, .ref h0), (1, .int v0), (2, .int v1)] := hl
  have hH0 : s.heap.size ≤ s.heap.size := Nat.le_refl _
  refine lv_aload_n hx hb dX11_canStill_0 rfl (lv_at hl 0 rfl) ?_
  refine lv_iload_n hx hb dX11_canStill_1 rfl (lv_at hl 1 rfl) ?_
  have hPc := hP.sub (ws' := [(h0, .inr (12, [.ref h1, .int 0, .ref h2, .ref h3, .ref h4, .ref h5, .ref h6, .ref h7, .int (-1), .ref h8, .ref h9, .int 250, .ref h10, .int 0, .ref h11, .ref h12, .ref h13]))]) [0] rfl
  have hDc := hD.sub (ws' := [(h0, .inr (12, [.ref h1, .int 0, .ref h2, .ref h3, .ref h4, .ref h5, .ref h6, .ref h7, .int (-1), .ref h8, .ref h9, .int 250, .ref h10, .int 0, .ref h11, .ref h12, .ref h13]))]) [0] (by decide) rfl
  have hFc := va_free (wc := [(h0, .inr (12, [.ref h1, .int 0, .ref h2, .ref h3, .ref h4, .ref h5, .ref h6, .ref h7, .int (-1), .ref h8, .ref h9, .int 250, .ref h10, .int 0, .ref h11, .ref h12, .ref h13]))]) hD hS hA [0] rfl
  refine va_callv (va_runV (As := [.int v0]) (rest := []) ⟨hx, hb, hml, hown, hts⟩ (c9_X11_needPattern_7 l g h0 h1 h2 h3 h4 h5 h6 h7 h8 h9 h10 h11 h12 h13 _ v0 (by omega)) (cwV 1 hts g9_X11_canStill_4_0 rfl rfl rfl (by decide +kernel) ⟨Nat.le_of_ble_eq_true rfl, Nat.le_of_ble_eq_true rfl⟩) (mPreV (g := g) (wc := [(h0, .inr (12, [.ref h1, .int 0, .ref h2, .ref h3, .ref h4, .ref h5, .ref h6, .ref h7, .int (-1), .ref h8, .ref h9, .int 250, .ref h10, .int 0, .ref h11, .ref h12, .ref h13]))]) (C := RX11) (ci := 12) (q0 := 0) hE hS hPc hDc hFc rfl rfl) rfl rfl hl.1 rfl (lv_room (Nat.le_of_ble_eq_true rfl)) dX11_canStill_2 ⟨Nat.le_of_ble_eq_true rfl, Nat.le_of_ble_eq_true rfl⟩) hS (fun q _ h => hFc q h) hFc (fun u t H1 locs ht hvm hw hB hz1 hk1 hS => ?_)
  obtain ⟨hP1, hD1⟩ := hB
  rw [ht] at hP1
  obtain ⟨hP, hD⟩ := va_join (wr := [(h2, .inr (11, [.ref h14])), (h14, .inr (10, [.int 1, .int 20, .ref h15, .int 0]))]) (w1 := [(h0, .inr (12, [.ref h1, .int 0, .ref h2, .ref h3, .ref h4, .ref h5, .ref h6, .ref h7, .int (-1), .ref h8, .ref h9, .int 250, .ref h10, .int 0, .ref h11, .ref h12, .ref h13]))]) hP hD [0] [1, 2] rfl rfl (by decide) (by decide) hk1 hFc hP1 hD1
  clear hP1 hD1 hPc hDc hFc hk1 hz1 hvm ht
  generalize H1 = H at hP hS ⊢
  have hP : va_P g.1 vwCl [(h2, .inr (11, [.ref h14])), (h14, .inr (10, [.int 1, .int 20, .ref h15, .int 0])), (h0, .inr (12, [.ref h1, .int 0, .ref h2, .ref h3, .ref h4, .ref h5, .ref h6, .ref h7, .int (-1), .ref h8, .ref h9, .int 250, .ref h10, .int 0, .ref h11, .ref h12, .ref h13]))] H := hP
  have hD : va_D A [(h2, .inr (11, [.ref h14])), (h14, .inr (10, [.int 1, .int 20, .ref h15, .int 0])), (h0, .inr (12, [.ref h1, .int 0, .ref h2, .ref h3, .ref h4, .ref h5, .ref h6, .ref h7, .int (-1), .ref h8, .ref h9, .int 250, .ref h10, .int 0, .ref h11, .ref h12, .ref h13]))] := hD
  refine lv_aload_n hx hb dX11_canStill_5 rfl (lv_at hl 0 rfl) ?_
  refine lv_iload_n hx hb dX11_canStill_6 rfl (lv_at hl 2 rfl) ?_
  have hPc := hP.sub (ws' := [(h2, .inr (11, [.ref h14])), (h14, .inr (10, [.int 1, .int 20, .ref h15, .int 0])), (h0, .inr (12, [.ref h1, .int 0, .ref h2, .ref h3, .ref h4, .ref h5, .ref h6, .ref h7, .int (-1), .ref h8, .ref h9, .int 250, .ref h10, .int 0, .ref h11, .ref h12, .ref h13]))]) [0, 1, 2] rfl
  have hDc := hD.sub (ws' := [(h2, .inr (11, [.ref h14])), (h14, .inr (10, [.int 1, .int 20, .ref h15, .int 0])), (h0, .inr (12, [.ref h1, .int 0, .ref h2, .ref h3, .ref h4, .ref h5, .ref h6, .ref h7, .int (-1), .ref h8, .ref h9, .int 250, .ref h10, .int 0, .ref h11, .ref h12, .ref h13]))]) [0, 1, 2] (by decide) rfl
  have hFc := va_free (wc := [(h2, .inr (11, [.ref h14])), (h14, .inr (10, [.int 1, .int 20, .ref h15, .int 0])), (h0, .inr (12, [.ref h1, .int 0, .ref h2, .ref h3, .ref h4, .ref h5, .ref h6, .ref h7, .int (-1), .ref h8, .ref h9, .int 250, .ref h10, .int 0, .ref h11, .ref h12, .ref h13]))]) hD hS hA [0, 1, 2] rfl
  refine vx_callv (vx_runV (As := [.int v1]) (rest := []) ⟨hx, hb, hml, hown, hts⟩ (c9_X11_needPlace_2 l hlt g h0 h2 h14 h15 h1 h3 h4 h5 h6 h7 h8 h9 h10 h11 h12 h13 _ v1 (by omega)) (cwV 1 hts g9_X11_canStill_4_1 rfl rfl rfl (by decide +kernel) ⟨Nat.le_of_ble_eq_true rfl, Nat.le_of_ble_eq_true rfl⟩) (mPreV (g := g) (wc := [(h2, .inr (11, [.ref h14])), (h14, .inr (10, [.int 1, .int 20, .ref h15, .int 0])), (h0, .inr (12, [.ref h1, .int 0, .ref h2, .ref h3, .ref h4, .ref h5, .ref h6, .ref h7, .int (-1), .ref h8, .ref h9, .int 250, .ref h10, .int 0, .ref h11, .ref h12, .ref h13]))]) (C := RX11) (ci := 12) (q0 := 2) hE hS hPc hDc hFc rfl rfl) rfl rfl hl.1 rfl (lv_room (Nat.le_of_ble_eq_true rfl)) dX11_canStill_7 ⟨Nat.le_of_ble_eq_true rfl, Nat.le_of_ble_eq_true rfl⟩) hS (fun q _ h => hFc q h) hFc (fun q _ h => hFc q h) (fun E9 ce q9 u t H locs ht hvm hw hB hz1 hk1 hS hc1 hc2 hc3 => ?_) (fun u t H1 locs ht hvm hw hB hz1 hk1 hS => hw.elim)
  replace hB : E9 = "java/lang/IndexOutOfBoundsException" := hB
  subst hB
  exact vx_out (fun z hz => (hno z hz).elim) hlocks hc1 hc2 hc3 (fun t ht hW => ⟨(), trivial, rfl, by subst hAe; exact hS.F ht⟩) (by subst hAe; exact hS.2.2) (Nat.le_of_ble_eq_true rfl) (Nat.le_of_ble_eq_true rfl)
def w9_L_canStill_4 : List Cond := [.codeWith yL_canStill cL_canStill 5 (some .int) [(0, 17, 20, 21), (0, 17, 24, 15)], .methodLink RL 54 yX11_canStill, .instanceMethod yX11_canStill, .selects RX11 yX11_canStill yX11_canStill, .initialized RX11, .code yX11_canStill cX11_canStill 3 (some .boolean), .methodLink RX11 124 yX11_needPattern, .instanceMethod yX11_needPattern, .selects RX11 yX11_needPattern yX11_needPattern, .code yX11_needPattern cX11_needPattern 2 none, .methodLink RX11 180 yX11_needPlace, .instanceMethod yX11_needPlace, .selects RX11 yX11_needPlace yX11_needPlace, .code yX11_needPlace cX11_needPlace 2 none, .fieldLink RX11 16 "Regexloom" "text" "LRegexloom$Text;", .methodLink RX11 146 yX10_size, .instanceMethod yX10_size, .selects RX10 yX10_size yX10_size, .initialized RX10, .code yX10_size cX10_size 1 (some .int), .fieldLink RX10 14 "Regexloom$Text" "codes" "LRegexloom$Table;", .methodLink RX10 20 yX9_size, .instanceMethod yX9_size, .selects RX9 yX9_size yX9_size, .initialized RX9, .code yX9_size cX9_size 1 (some .int), .fieldLink RX9 28 "Regexloom$Table" "size" "I", .initialized "java/lang/Throwable", .superclass "java/lang/Throwable" "java/lang/Object", .instanceMethod Bundle.tFill, .codeSync Bundle.tFill LibCode.Throwable.Fill.code 1 (some (.object "java/lang/Throwable")), .instanceMethod Bundle.tFill0, .native Bundle.tFill0, .instanceMethod Bundle.tInit0, .code Bundle.tInit0 LibCode.Throwable.Init0.code 1 none, .instanceMethod Bundle.oInit, .code Bundle.oInit ⟨#[0xb1]⟩ 1 none, .methodLink "java/lang/Throwable" 1 Bundle.oInit, .methodLink "java/lang/Throwable" 27 Bundle.tFill, .methodLink "java/lang/Throwable" 202 Bundle.tFill0, .fieldLink "java/lang/Throwable" 7 "java/lang/Throwable" "cause" "Ljava/lang/Throwable;", .lays "java/lang/Throwable" "java/lang/Throwable" "cause" "Ljava/lang/Throwable;", .fieldLink "java/lang/Throwable" 17 "java/lang/Throwable" "stackTrace" "[Ljava/lang/StackTraceElement;", .lays "java/lang/Throwable" "java/lang/Throwable" "stackTrace" "[Ljava/lang/StackTraceElement;", .fieldLink "java/lang/Throwable" 24 "java/lang/Throwable" "suppressedExceptions" "Ljava/util/List;", .lays "java/lang/Throwable" "java/lang/Throwable" "suppressedExceptions" "Ljava/util/List;", .fieldLink "java/lang/Throwable" 13 "java/lang/Throwable" "UNASSIGNED_STACK" "[Ljava/lang/StackTraceElement;", .fieldLink "java/lang/Throwable" 20 "java/lang/Throwable" "SUPPRESSED_SENTINEL" "Ljava/util/List;", .lays "java/lang/Throwable" "java/lang/Throwable" "detailMessage" "Ljava/lang/String;", .instanceMethod (Bundle.initS "java/lang/Throwable"), .code (Bundle.initS "java/lang/Throwable") LibCode.Throwable.InitS.code 2 none, .fieldLink "java/lang/Throwable" 31 "java/lang/Throwable" "detailMessage" "Ljava/lang/String;", .instanceMethod (Bundle.initS "java/lang/IndexOutOfBoundsException"), .code (Bundle.initS "java/lang/IndexOutOfBoundsException") Bundle.six 2 none, .methodLink "java/lang/IndexOutOfBoundsException" 7 (Bundle.initS "java/lang/RuntimeException"), .instanceMethod (Bundle.initS "java/lang/RuntimeException"), .code (Bundle.initS "java/lang/RuntimeException") Bundle.six 2 none, .methodLink "java/lang/RuntimeException" 7 (Bundle.initS "java/lang/Exception"), .instanceMethod (Bundle.initS "java/lang/Exception"), .code (Bundle.initS "java/lang/Exception") Bundle.six 2 none, .methodLink "java/lang/Exception" 7 (Bundle.initS "java/lang/Throwable"), .methodLink RX11 224 (Bundle.initS "java/lang/IndexOutOfBoundsException"), .instantiable "java/lang/IndexOutOfBoundsException" 6, .selects "java/lang/IndexOutOfBoundsException" Bundle.tFill0 Bundle.tFill0, .selects "java/lang/IndexOutOfBoundsException" Bundle.tFill Bundle.tFill, .lays "java/lang/IndexOutOfBoundsException" "java/lang/Throwable" "cause" "Ljava/lang/Throwable;", .lays "java/lang/IndexOutOfBoundsException" "java/lang/Throwable" "stackTrace" "[Ljava/lang/StackTraceElement;", .lays "java/lang/IndexOutOfBoundsException" "java/lang/Throwable" "suppressedExceptions" "Ljava/util/List;", .lays "java/lang/IndexOutOfBoundsException" "java/lang/Throwable" "detailMessage" "Ljava/lang/String;", .fieldLink "java/lang/Throwable" 198 "java/lang/Throwable" "backtrace" "Ljava/lang/Object;", .lays "java/lang/Throwable" "java/lang/Throwable" "backtrace" "Ljava/lang/Object;", .lays "java/lang/IndexOutOfBoundsException" "java/lang/Throwable" "backtrace" "Ljava/lang/Object;", .classLink RX11 220 "java/lang/IndexOutOfBoundsException", .initialized "java/lang/IndexOutOfBoundsException", .classLink RL 21 "java/lang/IndexOutOfBoundsException"] ++ (u_ws RX11 TX11 17 ++ u_ws RX10 TX10 1 ++ u_ws RX9 TX9 4)
set_option maxRecDepth 20000 in
theorem in9_L_canStill_4_RX11 : ∀ w ∈ u_ws RX11 TX11 17, w ∈ w9_L_canStill_4 := by decide +kernel
set_option maxRecDepth 20000 in
theorem in9_L_canStill_4_RX10 : ∀ w ∈ u_ws RX10 TX10 1, w ∈ w9_L_canStill_4 := by decide +kernel
set_option maxRecDepth 20000 in
theorem in9_L_canStill_4_RX9 : ∀ w ∈ u_ws RX9 TX9 4, w ∈ w9_L_canStill_4 := by decide +kernel
set_option maxRecDepth 20000 in
theorem g9_L_canStill_4_0 : GoodIn w9_L_canStill_4 (wsV RL 54 RX11 yX11_canStill w9_X11_canStill_4) := goodIn_r _ [1, 2, 3, 4, 5, 6, 7, 8, 4, 9, 10, 11, 12, 13, 14, 15, 16, 17, 18, 19, 20, 21, 22, 23, 24, 25, 26, 27, 28, 29, 30, 31, 32, 33, 34, 35, 36, 37, 38, 39, 40, 41, 42, 43, 44, 45, 46, 47, 48, 49, 50, 51, 52, 53, 54, 55, 56, 57, 58, 59, 60, 61, 62, 63, 64, 65, 66, 67, 68, 69, 70, 71, 72, 73, 75, 76, 77, 78, 79, 80, 81, 82, 83, 84, 85, 86, 87, 88, 89, 90, 91, 92, 93, 94, 95, 96] (by decide +kernel) (by decide +kernel)
set_option maxHeartbeats 4000000 in
set_option maxRecDepth 100000 in
theorem c9_L_canStill_4 (l : Launch) (hlt : l.stackTraces = false) (g : G9) (h0 h1 h2 h3 h4 h5 h6 h7 h8 h9 h10 h11 h12 h13 h14 h15 h16 sz : Nat) (v0 v1 : Int32) (k_v0 : 0 ≤ v0.toInt ∧ v0.toInt ≤ 3) (k_v1 : 1 ≤ v1.toInt ∧ v1.toInt ≤ 2147483647) : Met l yL_canStill w9_L_canStill_4 ({ frames := 8, cells := 1, slots := 6, locals := 125 }) (mP g [(h0, .inr (12, [.ref h2, .int 0, .ref h3, .ref h4, .ref h5, .ref h6, .ref h7, .ref h8, .int (-1), .ref h9, .ref h10, .int 250, .ref h11, .int 0, .ref h12, .ref h13, .ref h14])), (h3, .inr (11, [.ref h15])), (h15, .inr (10, [.int 1, .int 20, .ref h16, .int 0]))] sz [.ref h0, .int v0, .int v1, .ref h1]) (va_Qi (fun (r : Int32) (_ : Unit) => r = 1) (fun (_ : Unit) (t : State) => mB g [(h0, .inr (12, [.ref h2, .int 0, .ref h3, .ref h4, .ref h5, .ref h6, .ref h7, .ref h8, .int (-1), .ref h9, .ref h10, .int 250, .ref h11, .int 0, .ref h12, .ref h13, .ref h14])), (h3, .inr (11, [.ref h15])), (h15, .inr (10, [.int 1, .int 20, .ref h16, .int 0]))] sz [] t) (va_A [(h0, .inr (12, [.ref h2, .int 0, .ref h3, .ref h4, .ref h5, .ref h6, .ref h7, .ref h8, .int (-1), .ref h9, .ref h10, .int 250, .ref h11, .int 0, .ref h12, .ref h13, .ref h14])), (h3, .inr (11, [.ref h15])), (h15, .inr (10, [.int 1, .int 20, .ref h16, .int 0]))] sz)) 1 6 (va_A [(h0, .inr (12, [.ref h2, .int 0, .ref h3, .ref h4, .ref h5, .ref h6, .ref h7, .ref h8, .int (-1), .ref h9, .ref h10, .int 250, .ref h11, .int 0, .ref h12, .ref h13, .ref h14])), (h3, .inr (11, [.ref h15])), (h15, .inr (10, [.int 1, .int 20, .ref h16, .int 0]))] sz) := by
  refine va_MetW (cc := cL_canStill) (maxL := 5) (ret := (some .int)) (by decide) rfl ?_
  intro p e s m args below meth c s₁ B hml hv
  obtain ⟨rfl, hsz, hP, hD0, hE⟩ := hv
  have hx := B.exec
  have hb := B.bytes
  have hr := B.returns
  have hts := atoms_spec (ws := w9_L_canStill_4) B.pre
  have hown : s.vm.findClass RL = some m.cls := findClass_of_methodNamed B.named
  have hlocks := B.notSynchronized
  have htab := vx_table (x := yL_canStill) B (hts (.codeWith yL_canStill cL_canStill 5 (some .int) [(0, 17, 20, 21), (0, 17, 24, 15)]) (List.mem_of_getElem? (i := 0) rfl))
  subst hsz
  have hD := hD0.self (sz := s.heap.size)
  generalize hAe : va_A [(h0, .inr (12, [.ref h2, .int 0, .ref h3, .ref h4, .ref h5, .ref h6, .ref h7, .ref h8, .int (-1), .ref h9, .ref h10, .int 250, .ref h11, .int 0, .ref h12, .ref h13, .ref h14])), (h3, .inr (11, [.ref h15])), (h15, .inr (10, [.int 1, .int 20, .ref h16, .int 0]))] s.heap.size = A at hD hE ⊢
  have hA : ∀ q : Nat, s.heap.size ≤ q → A q := fun q h => by rw [← hAe]; exact Or.inr h
  have hK := hE.1
  have hS : va_S A s.heap s.heap [] := va_S.rf
  replace hP : va_P g.1 vwCl [(h0, .inr (12, [.ref h2, .int 0, .ref h3, .ref h4, .ref h5, .ref h6, .ref h7, .ref h8, .int (-1), .ref h9, .ref h10, .int 250, .ref h11, .int 0, .ref h12, .ref h13, .ref h14])), (h3, .inr (11, [.ref h15])), (h15, .inr (10, [.int 1, .int 20, .ref h16, .int 0]))] s.heap := hP
  have hl := lv_entry ([.ref h0, .int v0, .int v1, .ref h1]) (n := 5) (Nat.le_of_ble_eq_true rfl)
  rw [lg_entry_eq]
  generalize (lg_sl ([.ref h0, .int v0, .int v1, .ref h1]) ++ List.replicate (5 - (lg_sl ([.ref h0, .int v0, .int v1, .ref h1])).length) Slot.unset).toArray = ls at hl ⊢
  replace hl : lv_has ls 5 [(0, .ref h0), (1, .int v0), (2, .int v1), (3, .ref h1)] := hl
  have hH0 : s.heap.size ≤ s.heap.size := Nat.le_refl _
  refine lv_aload_n hx hb dL_canStill_0 rfl (lv_at hl 3 rfl) ?_
  refine lv_iconst (v := 0) hx hb dL_canStill_1 (by decide) ?_
  refine lv_aload_n hx hb dL_canStill_2 rfl (lv_at hl 0 rfl) ?_
  refine lv_iload_n hx hb dL_canStill_3 rfl (lv_at hl 1 rfl) ?_
  refine lv_iload_n hx hb dL_canStill_4 rfl (lv_at hl 2 rfl) ?_
  have hPc := hP.sub (ws' := [(h0, .inr (12, [.ref h2, .int 0, .ref h3, .ref h4, .ref h5, .ref h6, .ref h7, .ref h8, .int (-1), .ref h9, .ref h10, .int 250, .ref h11, .int 0, .ref h12, .ref h13, .ref h14])), (h3, .inr (11, [.ref h15])), (h15, .inr (10, [.int 1, .int 20, .ref h16, .int 0]))]) [0, 1, 2] rfl
  have hDc := hD.sub (ws' := [(h0, .inr (12, [.ref h2, .int 0, .ref h3, .ref h4, .ref h5, .ref h6, .ref h7, .ref h8, .int (-1), .ref h9, .ref h10, .int 250, .ref h11, .int 0, .ref h12, .ref h13, .ref h14])), (h3, .inr (11, [.ref h15])), (h15, .inr (10, [.int 1, .int 20, .ref h16, .int 0]))]) [0, 1, 2] (by decide) rfl
  have hFc := va_free (wc := [(h0, .inr (12, [.ref h2, .int 0, .ref h3, .ref h4, .ref h5, .ref h6, .ref h7, .ref h8, .int (-1), .ref h9, .ref h10, .int 250, .ref h11, .int 0, .ref h12, .ref h13, .ref h14])), (h3, .inr (11, [.ref h15])), (h15, .inr (10, [.int 1, .int 20, .ref h16, .int 0]))]) hD hS hA [0, 1, 2] rfl
  refine vx_callv (vx_runV (As := [.int v0, .int v1]) (rest := [.int 0, .ref h1]) ⟨hx, hb, hml, hown, hts⟩ (c9_X11_canStill_4 l hlt g h0 h2 h3 h4 h5 h6 h7 h8 h9 h10 h11 h12 h13 h14 h15 h16 _ v0 v1 (by omega) (by omega)) (cwV 2 hts g9_L_canStill_4_0 rfl rfl rfl (by decide +kernel) ⟨Nat.le_of_ble_eq_true rfl, Nat.le_of_ble_eq_true rfl⟩) (mPreV (g := g) (wc := [(h0, .inr (12, [.ref h2, .int 0, .ref h3, .ref h4, .ref h5, .ref h6, .ref h7, .ref h8, .int (-1), .ref h9, .ref h10, .int 250, .ref h11, .int 0, .ref h12, .ref h13, .ref h14])), (h3, .inr (11, [.ref h15])), (h15, .inr (10, [.int 1, .int 20, .ref h16, .int 0]))]) (C := RX11) (ci := 12) (q0 := 0) hE hS hPc hDc hFc rfl rfl) rfl rfl hl.1 rfl (lv_room (Nat.le_of_ble_eq_true rfl)) dL_canStill_5 ⟨Nat.le_of_ble_eq_true rfl, Nat.le_of_ble_eq_true rfl⟩) hS (fun q _ h => hFc q h) hFc (fun q _ h => hFc q h) (fun E9 ce q9 u t H locs ht hvm hw hB hz1 hk1 hS hc1 hc2 hc3 => ?_) (fun u t H1 locs ht hvm hw hB hz1 hk1 hS => hw.elim)
  replace hB : E9 = "java/lang/IndexOutOfBoundsException" := hB
  subst hB
  obtain ⟨hP, hD⟩ := va_join (wr := []) (w1 := []) hP hD [0, 1, 2] [] rfl rfl (by decide) (by decide) hk1 hFc (fun k q h => by simp at h) ⟨fun i j p q h => by simp at h, fun k q h => by simp at h⟩
  have hP : va_P g.1 vwCl [] H := hP
  have hD : va_D A [] := hD
  refine vx_catch (own := RL) (name := "java/lang/IndexOutOfBoundsException") hown [] ⟨0, 17, 20, 21⟩ [⟨0, 17, 24, 15⟩] (by rw [htab]; rfl) (fun z hz => absurd hz List.not_mem_nil) (by decide) (by decide) (hts (.classLink RL 21 "java/lang/IndexOutOfBoundsException") (List.mem_of_getElem? (i := 74) rfl)) (va_Nw.use rfl (hE.cast ("java/lang/IndexOutOfBoundsException", "java/lang/IndexOutOfBoundsException") (by decide))) hc1 hc2 hc3 ?_
  refine lv_astore (lv' := [(4, .ref q9), (0, .ref h0), (1, .int v0), (2, .int v1), (3, .ref h1)]) hx hb dL_canStill_20 hl (by decide) rfl (fun ls hl => ?_)
  refine lv_iconst (v := 1) hx hb dL_canStill_22 (by decide) ?_
  have hP9 := hP.sub (ws' := []) [] rfl
  have hD9 := hD.sub (ws' := []) [] (by decide) rfl
  subst hAe
  exact W.iret (v := 1) hx hb hr (fun t ht hW => ⟨⟨1, (), rfl, rfl, by rw [ht]; exact hP9, hD9⟩, hS.F ht⟩) hS.2.2 dL_canStill_23
def w9_X21_canStill_4 : List Cond := [.code yX21_canStill cX21_canStill 10 (some .boolean), .methodLink RX21 550 yX21_notRegular, .instanceMethod yX21_notRegular, .selects RX21 yX21_notRegular yX21_notRegular, .initialized RX21, .code yX21_notRegular cX21_notRegular 4 (some .int), .methodLink RX21 416 yX21_unknownPlace, .instanceMethod yX21_unknownPlace, .selects RX21 yX21_unknownPlace yX21_unknownPlace, .code yX21_unknownPlace cX21_unknownPlace 4 (some .int), .methodLink RX21 160 yX21_in, .static yX21_in, .code yX21_in cX21_in 3 (some .boolean), .fieldLink RX21 196 "RegexloomModel" "length" "I", .methodLink RX21 154 yX21_refused, .instanceMethod yX21_refused, .selects RX21 yX21_refused yX21_refused, .code yX21_refused cX21_refused 2 (some .boolean), .fieldLink RX21 144 "RegexloomModel" "refusal" "I"] ++ (u_ws RX21 TX21 32)
set_option maxRecDepth 20000 in
theorem in9_X21_canStill_4_RX21 : ∀ w ∈ u_ws RX21 TX21 32, w ∈ w9_X21_canStill_4 := by decide +kernel
set_option maxRecDepth 20000 in
theorem g9_X21_canStill_4_0 : GoodIn w9_X21_canStill_4 (wsV RX21 550 RX21 yX21_notRegular w9_X21_notRegular_4) := goodIn_r _ [1, 2, 3, 4, 5, 6, 7, 8, 4, 9, 10, 11, 12, 13, 19, 20, 21, 22, 23, 24, 25, 26, 27, 28, 29, 30, 31, 32, 33, 34, 35, 36, 37, 38, 39, 40, 41, 42, 43, 44, 45, 46, 47, 48, 49, 50] (by decide +kernel) (by decide +kernel)
set_option maxRecDepth 20000 in
theorem g9_X21_canStill_4_1 : GoodIn w9_X21_canStill_4 (wsV RX21 154 RX21 yX21_refused w9_X21_refused_2) := goodIn_r _ [14, 15, 16, 4, 17, 18, 19, 20, 21, 22, 23, 24, 25, 26, 27, 28, 29, 30, 31, 32, 33, 34, 35, 36, 37, 38, 39, 40, 41, 42, 43, 44, 45, 46, 47, 48, 49, 50] (by decide +kernel) (by decide +kernel)
set_option maxHeartbeats 4000000 in
set_option maxRecDepth 100000 in
theorem c9_X21_canStill_4 (l : Launch) (g : G9) (h0 h1 h2 h3 h4 h5 h6 h7 h8 h9 h10 h11 h12 h13 h14 h15 h16 sz : Nat) (v0 v1 : Int32) (k_v0 : 0 ≤ v0.toInt ∧ v0.toInt ≤ 3) (k_v1 : 1 ≤ v1.toInt ∧ v1.toInt ≤ 2147483647) : Met l yX21_canStill w9_X21_canStill_4 ({ frames := 3, cells := 0, slots := 0, locals := 68 }) (mP g [(h0, .inr (22, [.int 0, .ref h1, .int 0, .ref h2, .int 0, .ref h3, .int 250, .ref h4, .int 0, .ref h5, .ref h6, .ref h7, .int 0, .ref h8, .ref h9, .ref h10, .int 0, .null, .int 0, .null, .int 0, .int 0, .int 0, .ref h11, .int 0, .ref h12, .ref h13, .ref h14, .int 0, .ref h15, .ref h16, .int 0]))] sz [.ref h0, .int v0, .int v1]) (va_Qi (fun (r : Int32) (_ : Unit) => r = 0) (fun (_ : Unit) (t : State) => mB g [(h0, .inr (22, [.int 0, .ref h1, .int 0, .ref h2, .int 0, .ref h3, .int 250, .ref h4, .int 0, .ref h5, .ref h6, .ref h7, .int 0, .ref h8, .ref h9, .ref h10, .int 0, .null, .int 0, .null, .int 0, .int 0, .int 0, .ref h11, .int 0, .ref h12, .ref h13, .ref h14, .int 0, .ref h15, .ref h16, .int 0]))] sz [(h0, .inr (22, [.int 1, .ref h1, .int 0, .ref h2, .int 0, .ref h3, .int 250, .ref h4, .int 0, .ref h5, .ref h6, .ref h7, .int 0, .ref h8, .ref h9, .ref h10, .int 0, .null, .int 0, .null, .int 0, .int 0, .int 0, .ref h11, .int 0, .ref h12, .ref h13, .ref h14, .int 0, .ref h15, .ref h16, .int 0]))] t) (va_A [(h0, .inr (22, [.int 0, .ref h1, .int 0, .ref h2, .int 0, .ref h3, .int 250, .ref h4, .int 0, .ref h5, .ref h6, .ref h7, .int 0, .ref h8, .ref h9, .ref h10, .int 0, .null, .int 0, .null, .int 0, .int 0, .int 0, .ref h11, .int 0, .ref h12, .ref h13, .ref h14, .int 0, .ref h15, .ref h16, .int 0]))] sz)) 0 0 (va_A [(h0, .inr (22, [.int 0, .ref h1, .int 0, .ref h2, .int 0, .ref h3, .int 250, .ref h4, .int 0, .ref h5, .ref h6, .ref h7, .int 0, .ref h8, .ref h9, .ref h10, .int 0, .null, .int 0, .null, .int 0, .int 0, .int 0, .ref h11, .int 0, .ref h12, .ref h13, .ref h14, .int 0, .ref h15, .ref h16, .int 0]))] sz) := by
  refine Met.ofW (cc := cX21_canStill) (maxL := 10) (ret := (some .boolean)) (by decide) rfl ?_
  intro p e s m args below meth c s₁ B hml hv
  obtain ⟨rfl, hsz, hP, hD0, hE⟩ := hv
  have hx := B.exec
  have hb := B.bytes
  have hr := B.returns
  have hts := atoms_spec (ws := w9_X21_canStill_4) B.pre
  have hown : s.vm.findClass RX21 = some m.cls := findClass_of_methodNamed B.named
  have hlocks := B.notSynchronized
  subst hsz
  have hD := hD0.self (sz := s.heap.size)
  generalize hAe : va_A [(h0, .inr (22, [.int 0, .ref h1, .int 0, .ref h2, .int 0, .ref h3, .int 250, .ref h4, .int 0, .ref h5, .ref h6, .ref h7, .int 0, .ref h8, .ref h9, .ref h10, .int 0, .null, .int 0, .null, .int 0, .int 0, .int 0, .ref h11, .int 0, .ref h12, .ref h13, .ref h14, .int 0, .ref h15, .ref h16, .int 0]))] s.heap.size = A at hD hE ⊢
  have hA : ∀ q : Nat, s.heap.size ≤ q → A q := fun q h => by rw [← hAe]; exact Or.inr h
  have hK := hE.1
  have hS : va_S A s.heap s.heap [] := va_S.rf
  replace hP : va_P g.1 vwCl [(h0, .inr (22, [.int 0, .ref h1, .int 0, .ref h2, .int 0, .ref h3, .int 250, .ref h4, .int 0, .ref h5, .ref h6, .ref h7, .int 0, .ref h8, .ref h9, .ref h10, .int 0, .null, .int 0, .null, .int 0, .int 0, .int 0, .ref h11, .int 0, .ref h12, .ref h13, .ref h14, .int 0, .ref h15, .ref h16, .int 0]))] s.heap := hP
  have hl := lv_entry ([.ref h0, .int v0, .int v1]) (n := 10) (Nat.le_of_ble_eq_true rfl)
  rw [lg_entry_eq]
  generalize (lg_sl ([.ref h0, .int v0, .int v1]) ++ List.replicate (10 - (lg_sl ([.ref h0, .int v0, .int v1])).length) Slot.unset).toArray = ls at hl ⊢
  replace hl : lv_has ls 10 [(0, .ref h0), (1, .int v0), (2, .int v1)] := hl
  have hH0 : s.heap.size ≤ s.heap.size := Nat.le_refl _
  refine lv_aload_n hx hb dX21_canStill_0 rfl (lv_at hl 0 rfl) ?_
  refine lv_aload_n hx hb dX21_canStill_1 rfl (lv_at hl 0 rfl) ?_
  refine lv_iload_n hx hb dX21_canStill_2 rfl (lv_at hl 1 rfl) ?_
  refine lv_iload_n hx hb dX21_canStill_3 rfl (lv_at hl 2 rfl) ?_
  have hPc := hP.sub (ws' := [(h0, .inr (22, [.int 0, .ref h1, .int 0, .ref h2, .int 0, .ref h3, .int 250, .ref h4, .int 0, .ref h5, .ref h6, .ref h7, .int 0, .ref h8, .ref h9, .ref h10, .int 0, .null, .int 0, .null, .int 0, .int 0, .int 0, .ref h11, .int 0, .ref h12, .ref h13, .ref h14, .int 0, .ref h15, .ref h16, .int 0]))]) [0] rfl
  have hDc := hD.sub (ws' := [(h0, .inr (22, [.int 0, .ref h1, .int 0, .ref h2, .int 0, .ref h3, .int 250, .ref h4, .int 0, .ref h5, .ref h6, .ref h7, .int 0, .ref h8, .ref h9, .ref h10, .int 0, .null, .int 0, .null, .int 0, .int 0, .int 0, .ref h11, .int 0, .ref h12, .ref h13, .ref h14, .int 0, .ref h15, .ref h16, .int 0]))]) [0] (by decide) rfl
  have hFc := va_free (wc := [(h0, .inr (22, [.int 0, .ref h1, .int 0, .ref h2, .int 0, .ref h3, .int 250, .ref h4, .int 0, .ref h5, .ref h6, .ref h7, .int 0, .ref h8, .ref h9, .ref h10, .int 0, .null, .int 0, .null, .int 0, .int 0, .int 0, .ref h11, .int 0, .ref h12, .ref h13, .ref h14, .int 0, .ref h15, .ref h16, .int 0]))]) hD hS hA [0] rfl
  refine va_calli (va_runV (As := [.int v0, .int v1]) (rest := [.ref h0]) ⟨hx, hb, hml, hown, hts⟩ (c9_X21_notRegular_4 l g h0 h1 h2 h3 h4 h5 h6 h7 h8 h9 h10 h11 h12 h13 h14 h15 h16 _ v0 v1 (by omega) (by omega)) (cwV 2 hts g9_X21_canStill_4_0 rfl rfl rfl (by decide +kernel) ⟨Nat.le_of_ble_eq_true rfl, Nat.le_of_ble_eq_true rfl⟩) (mPreV (g := g) (wc := [(h0, .inr (22, [.int 0, .ref h1, .int 0, .ref h2, .int 0, .ref h3, .int 250, .ref h4, .int 0, .ref h5, .ref h6, .ref h7, .int 0, .ref h8, .ref h9, .ref h10, .int 0, .null, .int 0, .null, .int 0, .int 0, .int 0, .ref h11, .int 0, .ref h12, .ref h13, .ref h14, .int 0, .ref h15, .ref h16, .int 0]))]) (C := RX21) (ci := 22) (q0 := 0) hE hS hPc hDc hFc rfl rfl) rfl rfl hl.1 rfl (lv_room (Nat.le_of_ble_eq_true rfl)) dX21_canStill_4 ⟨Nat.le_of_ble_eq_true rfl, Nat.le_of_ble_eq_true rfl⟩) hS (fun q _ h => hFc q h) hFc (fun r_1 u t H1 locs ht hvm hw hB hz1 hk1 hS => ?_)
  replace hw : 1 = r_1 := Eq.symm hw
  subst hw
  obtain ⟨hP1, hD1⟩ := hB
  rw [ht] at hP1
  obtain ⟨hP, hD⟩ := va_join (wr := []) (w1 := [(h0, .inr (22, [.int 0, .ref h1, .int 0, .ref h2, .int 0, .ref h3, .int 250, .ref h4, .int 0, .ref h5, .ref h6, .ref h7, .int 0, .ref h8, .ref h9, .ref h10, .int 0, .null, .int 0, .null, .int 0, .int 0, .int 0, .ref h11, .int 0, .ref h12, .ref h13, .ref h14, .int 0, .ref h15, .ref h16, .int 0]))]) hP hD [0] [] rfl rfl (by decide) (by decide) hk1 hFc hP1 hD1
  clear hP1 hD1 hPc hDc hFc hk1 hz1 hvm ht
  generalize H1 = H at hP hS ⊢
  have hP : va_P g.1 vwCl [(h0, .inr (22, [.int 0, .ref h1, .int 0, .ref h2, .int 0, .ref h3, .int 250, .ref h4, .int 0, .ref h5, .ref h6, .ref h7, .int 0, .ref h8, .ref h9, .ref h10, .int 0, .null, .int 0, .null, .int 0, .int 0, .int 0, .ref h11, .int 0, .ref h12, .ref h13, .ref h14, .int 0, .ref h15, .ref h16, .int 0]))] H := hP
  have hD : va_D A [(h0, .inr (22, [.int 0, .ref h1, .int 0, .ref h2, .int 0, .ref h3, .int 250, .ref h4, .int 0, .ref h5, .ref h6, .ref h7, .int 0, .ref h8, .ref h9, .ref h10, .int 0, .null, .int 0, .null, .int 0, .int 0, .int 0, .ref h11, .int 0, .ref h12, .ref h13, .ref h14, .int 0, .ref h15, .ref h16, .int 0]))] := hD
  have hPc := hP.sub (ws' := [(h0, .inr (22, [.int 0, .ref h1, .int 0, .ref h2, .int 0, .ref h3, .int 250, .ref h4, .int 0, .ref h5, .ref h6, .ref h7, .int 0, .ref h8, .ref h9, .ref h10, .int 0, .null, .int 0, .null, .int 0, .int 0, .int 0, .ref h11, .int 0, .ref h12, .ref h13, .ref h14, .int 0, .ref h15, .ref h16, .int 0]))]) [0] rfl
  have hDc := hD.sub (ws' := [(h0, .inr (22, [.int 0, .ref h1, .int 0, .ref h2, .int 0, .ref h3, .int 250, .ref h4, .int 0, .ref h5, .ref h6, .ref h7, .int 0, .ref h8, .ref h9, .ref h10, .int 0, .null, .int 0, .null, .int 0, .int 0, .int 0, .ref h11, .int 0, .ref h12, .ref h13, .ref h14, .int 0, .ref h15, .ref h16, .int 0]))]) [0] (by decide) rfl
  have hFc := va_free (wc := [(h0, .inr (22, [.int 0, .ref h1, .int 0, .ref h2, .int 0, .ref h3, .int 250, .ref h4, .int 0, .ref h5, .ref h6, .ref h7, .int 0, .ref h8, .ref h9, .ref h10, .int 0, .null, .int 0, .null, .int 0, .int 0, .int 0, .ref h11, .int 0, .ref h12, .ref h13, .ref h14, .int 0, .ref h15, .ref h16, .int 0]))]) hD hS hA [0] rfl
  refine va_calli (va_runV (As := [.int 1]) (rest := []) ⟨hx, hb, hml, hown, hts⟩ (c9_X21_refused_2 l g h0 h1 h2 h3 h4 h5 h6 h7 h8 h9 h10 h11 h12 h13 h14 h15 h16 _) (cwV 1 hts g9_X21_canStill_4_1 rfl rfl rfl (by decide +kernel) ⟨Nat.le_of_ble_eq_true rfl, Nat.le_of_ble_eq_true rfl⟩) (mPreV (g := g) (wc := [(h0, .inr (22, [.int 0, .ref h1, .int 0, .ref h2, .int 0, .ref h3, .int 250, .ref h4, .int 0, .ref h5, .ref h6, .ref h7, .int 0, .ref h8, .ref h9, .ref h10, .int 0, .null, .int 0, .null, .int 0, .int 0, .int 0, .ref h11, .int 0, .ref h12, .ref h13, .ref h14, .int 0, .ref h15, .ref h16, .int 0]))]) (C := RX21) (ci := 22) (q0 := 0) hE hS hPc hDc hFc rfl rfl) rfl rfl hl.1 rfl (lv_room (Nat.le_of_ble_eq_true rfl)) dX21_canStill_7 ⟨Nat.le_of_ble_eq_true rfl, Nat.le_of_ble_eq_true rfl⟩) hS (fun q _ h => hFc q h) hFc (fun r_2 u t H1 locs ht hvm hw hB hz1 hk1 hS => ?_)
  replace hw : 1 = r_2 := Eq.symm hw
  subst hw
  obtain ⟨hP1, hD1⟩ := hB
  rw [ht] at hP1
  obtain ⟨hP, hD⟩ := va_join (wr := []) (w1 := [(h0, .inr (22, [.int 1, .ref h1, .int 0, .ref h2, .int 0, .ref h3, .int 250, .ref h4, .int 0, .ref h5, .ref h6, .ref h7, .int 0, .ref h8, .ref h9, .ref h10, .int 0, .null, .int 0, .null, .int 0, .int 0, .int 0, .ref h11, .int 0, .ref h12, .ref h13, .ref h14, .int 0, .ref h15, .ref h16, .int 0]))]) hP hD [0] [] rfl rfl (by decide) (by decide) hk1 hFc hP1 hD1
  clear hP1 hD1 hPc hDc hFc hk1 hz1 hvm ht
  generalize H1 = H at hP hS ⊢
  have hP : va_P g.1 vwCl [(h0, .inr (22, [.int 1, .ref h1, .int 0, .ref h2, .int 0, .ref h3, .int 250, .ref h4, .int 0, .ref h5, .ref h6, .ref h7, .int 0, .ref h8, .ref h9, .ref h10, .int 0, .null, .int 0, .null, .int 0, .int 0, .int 0, .ref h11, .int 0, .ref h12, .ref h13, .ref h14, .int 0, .ref h15, .ref h16, .int 0]))] H := hP
  have hD : va_D A [(h0, .inr (22, [.int 1, .ref h1, .int 0, .ref h2, .int 0, .ref h3, .int 250, .ref h4, .int 0, .ref h5, .ref h6, .ref h7, .int 0, .ref h8, .ref h9, .ref h10, .int 0, .null, .int 0, .null, .int 0, .int 0, .int 0, .ref h11, .int 0, .ref h12, .ref h13, .ref h14, .int 0, .ref h15, .ref h16, .int 0]))] := hD
  refine lv_if_eq (tgt := 15) hx hb dX21_canStill_10 (by decide) (fun c9 => absurd c9 (by decide)) (fun _ => ?_)
  refine lv_iconst (v := 0) hx hb dX21_canStill_13 (by decide) ?_
  have hP9 := hP.sub (ws' := [(h0, .inr (22, [.int 1, .ref h1, .int 0, .ref h2, .int 0, .ref h3, .int 250, .ref h4, .int 0, .ref h5, .ref h6, .ref h7, .int 0, .ref h8, .ref h9, .ref h10, .int 0, .null, .int 0, .null, .int 0, .int 0, .int 0, .ref h11, .int 0, .ref h12, .ref h13, .ref h14, .int 0, .ref h15, .ref h16, .int 0]))]) [0] rfl
  have hD9 := hD.sub (ws' := [(h0, .inr (22, [.int 1, .ref h1, .int 0, .ref h2, .int 0, .ref h3, .int 250, .ref h4, .int 0, .ref h5, .ref h6, .ref h7, .int 0, .ref h8, .ref h9, .ref h10, .int 0, .null, .int 0, .null, .int 0, .int 0, .int 0, .ref h11, .int 0, .ref h12, .ref h13, .ref h14, .int 0, .ref h15, .ref h16, .int 0]))]) [0] (by decide) rfl
  subst hAe
  exact W.zret (v := 0) hx hb hr (by decide) (fun t ht hW => ⟨⟨0, (), rfl, rfl, by rw [ht]; exact hP9, hD9⟩, hS.F ht⟩) hS.2.2 dX21_canStill_14
def w9_X11_canStill_5 : List Cond := [.code yX11_canStill cX11_canStill 3 (some .boolean), .methodLink RX11 124 yX11_needPattern, .instanceMethod yX11_needPattern, .selects RX11 yX11_needPattern yX11_needPattern, .initialized RX11, .code yX11_needPattern cX11_needPattern 2 none, .methodLink RX11 180 yX11_needPlace, .instanceMethod yX11_needPlace, .selects RX11 yX11_needPlace yX11_needPlace, .code yX11_needPlace cX11_needPlace 2 none, .fieldLink RX11 16 "Regexloom" "text" "LRegexloom$Text;", .methodLink RX11 146 yX10_size, .instanceMethod yX10_size, .selects RX10 yX10_size yX10_size, .initialized RX10, .code yX10_size cX10_size 1 (some .int), .fieldLink RX10 14 "Regexloom$Text" "codes" "LRegexloom$Table;", .methodLink RX10 20 yX9_size, .instanceMethod yX9_size, .selects RX9 yX9_size yX9_size, .initialized RX9, .code yX9_size cX9_size 1 (some .int), .fieldLink RX9 28 "Regexloom$Table" "size" "I", .methodLink RX11 228 yX11_needRegular, .instanceMethod yX11_needRegular, .selects RX11 yX11_needRegular yX11_needRegular, .code yX11_needRegular cX11_needRegular 2 none, .methodLink RX11 168 yX11_toldOne, .instanceMethod yX11_toldOne, .selects RX11 yX11_toldOne yX11_toldOne, .code yX11_toldOne cX11_toldOne 2 (some (.object "Regexloom$Pattern")), .fieldLink RX11 22 "Regexloom" "patterns" "[LRegexloom$Pattern;", .fieldLink RX11 133 "Regexloom$Pattern" "isTold" "Z", .initialized "java/lang/Throwable", .superclass "java/lang/Throwable" "java/lang/Object", .instanceMethod Bundle.tFill, .codeSync Bundle.tFill LibCode.Throwable.Fill.code 1 (some (.object "java/lang/Throwable")), .instanceMethod Bundle.tFill0, .native Bundle.tFill0, .instanceMethod Bundle.tInit0, .code Bundle.tInit0 LibCode.Throwable.Init0.code 1 none, .instanceMethod Bundle.oInit, .code Bundle.oInit ⟨#[0xb1]⟩ 1 none, .methodLink "java/lang/Throwable" 1 Bundle.oInit, .methodLink "java/lang/Throwable" 27 Bundle.tFill, .methodLink "java/lang/Throwable" 202 Bundle.tFill0, .fieldLink "java/lang/Throwable" 7 "java/lang/Throwable" "cause" "Ljava/lang/Throwable;", .lays "java/lang/Throwable" "java/lang/Throwable" "cause" "Ljava/lang/Throwable;", .fieldLink "java/lang/Throwable" 17 "java/lang/Throwable" "stackTrace" "[Ljava/lang/StackTraceElement;", .lays "java/lang/Throwable" "java/lang/Throwable" "stackTrace" "[Ljava/lang/StackTraceElement;", .fieldLink "java/lang/Throwable" 24 "java/lang/Throwable" "suppressedExceptions" "Ljava/util/List;", .lays "java/lang/Throwable" "java/lang/Throwable" "suppressedExceptions" "Ljava/util/List;", .fieldLink "java/lang/Throwable" 13 "java/lang/Throwable" "UNASSIGNED_STACK" "[Ljava/lang/StackTraceElement;", .fieldLink "java/lang/Throwable" 20 "java/lang/Throwable" "SUPPRESSED_SENTINEL" "Ljava/util/List;", .lays "java/lang/Throwable" "java/lang/Throwable" "detailMessage" "Ljava/lang/String;", .instanceMethod (Bundle.initS "java/lang/Throwable"), .code (Bundle.initS "java/lang/Throwable") LibCode.Throwable.InitS.code 2 none, .fieldLink "java/lang/Throwable" 31 "java/lang/Throwable" "detailMessage" "Ljava/lang/String;", .instanceMethod (Bundle.initS "java/lang/IllegalStateException"), .code (Bundle.initS "java/lang/IllegalStateException") Bundle.six 2 none, .methodLink "java/lang/IllegalStateException" 7 (Bundle.initS "java/lang/RuntimeException"), .instanceMethod (Bundle.initS "java/lang/RuntimeException"), .code (Bundle.initS "java/lang/RuntimeException") Bundle.six 2 none, .methodLink "java/lang/RuntimeException" 7 (Bundle.initS "java/lang/Exception"), .instanceMethod (Bundle.initS "java/lang/Exception"), .code (Bundle.initS "java/lang/Exception") Bundle.six 2 none, .methodLink "java/lang/Exception" 7 (Bundle.initS "java/lang/Throwable"), .methodLink RX11 123 (Bundle.initS "java/lang/IllegalStateException"), .instantiable "java/lang/IllegalStateException" 6, .selects "java/lang/IllegalStateException" Bundle.tFill0 Bundle.tFill0, .selects "java/lang/IllegalStateException" Bundle.tFill Bundle.tFill, .lays "java/lang/IllegalStateException" "java/lang/Throwable" "cause" "Ljava/lang/Throwable;", .lays "java/lang/IllegalStateException" "java/lang/Throwable" "stackTrace" "[Ljava/lang/StackTraceElement;", .lays "java/lang/IllegalStateException" "java/lang/Throwable" "suppressedExceptions" "Ljava/util/List;", .lays "java/lang/IllegalStateException" "java/lang/Throwable" "detailMessage" "Ljava/lang/String;", .fieldLink "java/lang/Throwable" 198 "java/lang/Throwable" "backtrace" "Ljava/lang/Object;", .lays "java/lang/Throwable" "java/lang/Throwable" "backtrace" "Ljava/lang/Object;", .lays "java/lang/IllegalStateException" "java/lang/Throwable" "backtrace" "Ljava/lang/Object;", .classLink RX11 119 "java/lang/IllegalStateException", .initialized "java/lang/IllegalStateException"] ++ (u_ws RX11 TX11 17 ++ u_ws RX10 TX10 1 ++ u_ws RX9 TX9 4 ++ u_ws RX3 TX3 8)
set_option maxRecDepth 20000 in
theorem in9_X11_canStill_5_RX11 : ∀ w ∈ u_ws RX11 TX11 17, w ∈ w9_X11_canStill_5 := by decide +kernel
set_option maxRecDepth 20000 in
theorem in9_X11_canStill_5_RX10 : ∀ w ∈ u_ws RX10 TX10 1, w ∈ w9_X11_canStill_5 := by decide +kernel
set_option maxRecDepth 20000 in
theorem in9_X11_canStill_5_RX9 : ∀ w ∈ u_ws RX9 TX9 4, w ∈ w9_X11_canStill_5 := by decide +kernel
set_option maxRecDepth 20000 in
theorem in9_X11_canStill_5_RX3 : ∀ w ∈ u_ws RX3 TX3 8, w ∈ w9_X11_canStill_5 := by decide +kernel
set_option maxRecDepth 20000 in
theorem g9_X11_canStill_5_0 : GoodIn w9_X11_canStill_5 (wsV RX11 124 RX11 yX11_needPattern w9_X11_needPattern_7) := goodIn_r _ [1, 2, 3, 4, 5] (by decide +kernel) (by decide +kernel)
set_option maxRecDepth 20000 in
theorem g9_X11_canStill_5_1 : GoodIn w9_X11_canStill_5 (wsV RX11 180 RX11 yX11_needPlace w9_X11_needPlace_3) := goodIn_r _ [6, 7, 8, 4, 9, 10, 11, 12, 13, 14, 15, 16, 17, 18, 19, 20, 21, 22, 80, 81, 82, 83, 84, 85, 86, 87, 88, 89, 90, 91, 92, 93, 94, 95, 96, 97, 98, 99, 100, 101] (by decide +kernel) (by decide +kernel)
set_option maxRecDepth 20000 in
theorem g9_X11_canStill_5_2 : GoodIn w9_X11_canStill_5 (wsV RX11 228 RX11 yX11_needRegular w9_X11_needRegular_1) := goodIn_r _ [23, 24, 25, 4, 26, 27, 28, 29, 4, 30, 31, 32, 33, 34, 35, 36, 37, 38, 39, 40, 41, 42, 43, 44, 45, 46, 47, 48, 49, 50, 51, 52, 53, 54, 55, 56, 57, 58, 59, 60, 61, 62, 63, 64, 65, 66, 67, 68, 69, 70, 71, 72, 73, 74, 75, 76, 77, 78, 79, 80, 81, 82, 83, 84, 85, 86, 87, 88, 89, 90, 91, 92, 93, 94, 95, 96, 102, 103, 104, 105, 106, 107, 108, 109] (by decide +kernel) (by decide +kernel)
set_option maxHeartbeats 4000000 in
set_option maxRecDepth 100000 in
theorem c9_X11_canStill_5 (l : Launch) (hlt : l.stackTraces = false) (g : G9) (h0 h1 h2 h3 h4 h5 h6 h7 h8 h9 h10 h11 h12 h13 h14 h15 h16 h17 h18 h19 h20 h21 h22 h23 h24 h25 h26 h27 h28 h29 h30 h31 sz : Nat) (v0 : Int32) (k_v0 : 0 ≤ v0.toInt ∧ v0.toInt ≤ 3) : vx_Met l yX11_canStill w9_X11_canStill_5 ({ frames := 8, cells := 1, slots := 6, locals := 124 }) (mP g [(h0, .inr (12, [.ref h1, .int 0, .ref h2, .ref h3, .ref h4, .ref h5, .ref h6, .ref h7, .int (-1), .ref h8, .ref h9, .int 250, .ref h10, .int 0, .ref h11, .ref h12, .ref h13])), (h2, .inr (11, [.ref h14])), (h14, .inr (10, [.int 1, .int 20, .ref h15, .int 0])), (h3, .inl (g.2.1 3, 4, .inr (.inr (.inr (.inr (va_up (va_up (va_up (va_up (fun _ => none) 0 (some h16)) 1 (some h17)) 2 (some h18)) 3 (some h19))))))), (h16, .inr (6, [.ref h20, .ref h21, .ref h22, .int 0, .int 0, .int 0, .int 0, .int 0])), (h17, .inr (6, [.ref h23, .ref h24, .ref h25, .int 0, .int 0, .int 0, .int 0, .int 0])), (h18, .inr (6, [.ref h26, .ref h27, .ref h28, .int 0, .int 0, .int 0, .int 0, .int 0])), (h19, .inr (6, [.ref h29, .ref h30, .ref h31, .int 0, .int 0, .int 0, .int 0, .int 0]))] sz [.ref h0, .int v0, .int 0]) (va_Qv (fun _ : Unit => False) (fun _ _ => True) (va_A [(h0, .inr (12, [.ref h1, .int 0, .ref h2, .ref h3, .ref h4, .ref h5, .ref h6, .ref h7, .int (-1), .ref h8, .ref h9, .int 250, .ref h10, .int 0, .ref h11, .ref h12, .ref h13])), (h2, .inr (11, [.ref h14])), (h14, .inr (10, [.int 1, .int 20, .ref h15, .int 0])), (h3, .inl (g.2.1 3, 4, .inr (.inr (.inr (.inr (va_up (va_up (va_up (va_up (fun _ => none) 0 (some h16)) 1 (some h17)) 2 (some h18)) 3 (some h19))))))), (h16, .inr (6, [.ref h20, .ref h21, .ref h22, .int 0, .int 0, .int 0, .int 0, .int 0])), (h17, .inr (6, [.ref h23, .ref h24, .ref h25, .int 0, .int 0, .int 0, .int 0, .int 0])), (h18, .inr (6, [.ref h26, .ref h27, .ref h28, .int 0, .int 0, .int 0, .int 0, .int 0])), (h19, .inr (6, [.ref h29, .ref h30, .ref h31, .int 0, .int 0, .int 0, .int 0, .int 0]))] sz)) (mT g [(h0, .inr (12, [.ref h1, .int 0, .ref h2, .ref h3, .ref h4, .ref h5, .ref h6, .ref h7, .int (-1), .ref h8, .ref h9, .int 250, .ref h10, .int 0, .ref h11, .ref h12, .ref h13])), (h2, .inr (11, [.ref h14])), (h14, .inr (10, [.int 1, .int 20, .ref h15, .int 0])), (h3, .inl (g.2.1 3, 4, .inr (.inr (.inr (.inr (va_up (va_up (va_up (va_up (fun _ => none) 0 (some h16)) 1 (some h17)) 2 (some h18)) 3 (some h19))))))), (h16, .inr (6, [.ref h20, .ref h21, .ref h22, .int 0, .int 0, .int 0, .int 0, .int 0])), (h17, .inr (6, [.ref h23, .ref h24, .ref h25, .int 0, .int 0, .int 0, .int 0, .int 0])), (h18, .inr (6, [.ref h26, .ref h27, .ref h28, .int 0, .int 0, .int 0, .int 0, .int 0])), (h19, .inr (6, [.ref h29, .ref h30, .ref h31, .int 0, .int 0, .int 0, .int 0, .int 0]))] sz "java/lang/IllegalStateException") 1 6 (va_A [(h0, .inr (12, [.ref h1, .int 0, .ref h2, .ref h3, .ref h4, .ref h5, .ref h6, .ref h7, .int (-1), .ref h8, .ref h9, .int 250, .ref h10, .int 0, .ref h11, .ref h12, .ref h13])), (h2, .inr (11, [.ref h14])), (h14, .inr (10, [.int 1, .int 20, .ref h15, .int 0])), (h3, .inl (g.2.1 3, 4, .inr (.inr (.inr (.inr (va_up (va_up (va_up (va_up (fun _ => none) 0 (some h16)) 1 (some h17)) 2 (some h18)) 3 (some h19))))))), (h16, .inr (6, [.ref h20, .ref h21, .ref h22, .int 0, .int 0, .int 0, .int 0, .int 0])), (h17, .inr (6, [.ref h23, .ref h24, .ref h25, .int 0, .int 0, .int 0, .int 0, .int 0])), (h18, .inr (6, [.ref h26, .ref h27, .ref h28, .int 0, .int 0, .int 0, .int 0, .int 0])), (h19, .inr (6, [.ref h29, .ref h30, .ref h31, .int 0, .int 0, .int 0, .int 0, .int 0]))] sz) := by
  refine vx_ofW (cc := cX11_canStill) (maxL := 3) (ret := (some .boolean)) (by decide) rfl ?_
  intro p e s m args below meth c s₁ B hml hno hv
  obtain ⟨rfl, hsz, hP, hD0, hE⟩ := hv
  have hx := B.exec
  have hb := B.bytes
  have hr := B.returns
  have hts := atoms_spec (ws := w9_X11_canStill_5) B.pre
  have hown : s.vm.findClass RX11 = some m.cls := findClass_of_methodNamed B.named
  have hlocks := B.notSynchronized
  subst hsz
  have hD := hD0.self (sz := s.heap.size)
  generalize hAe : va_A [(h0, .inr (12, [.ref h1, .int 0, .ref h2, .ref h3, .ref h4, .ref h5, .ref h6, .ref h7, .int (-1), .ref h8, .ref h9, .int 250, .ref h10, .int 0, .ref h11, .ref h12, .ref h13])), (h2, .inr (11, [.ref h14])), (h14, .inr (10, [.int 1, .int 20, .ref h15, .int 0])), (h3, .inl (g.2.1 3, 4, .inr (.inr (.inr (.inr (va_up (va_up (va_up (va_up (fun _ => none) 0 (some h16)) 1 (some h17)) 2 (some h18)) 3 (some h19))))))), (h16, .inr (6, [.ref h20, .ref h21, .ref h22, .int 0, .int 0, .int 0, .int 0, .int 0])), (h17, .inr (6, [.ref h23, .ref h24, .ref h25, .int 0, .int 0, .int 0, .int 0, .int 0])), (h18, .inr (6, [.ref h26, .ref h27, .ref h28, .int 0, .int 0, .int 0, .int 0, .int 0])), (h19, .inr (6, [.ref h29, .ref h30, .ref h31, .int 0, .int 0, .int 0, .int 0, .int 0]))] s.heap.size = A at hD hE ⊢
  have hA : ∀ q : Nat, s.heap.size ≤ q → A q := fun q h => by rw [← hAe]; exact Or.inr h
  have hK := hE.1
  have hS : va_S A s.heap s.heap [] := va_S.rf
  replace hP : va_P g.1 vwCl [(h0, .inr (12, [.ref h1, .int 0, .ref h2, .ref h3, .ref h4, .ref h5, .ref h6, .ref h7, .int (-1), .ref h8, .ref h9, .int 250, .ref h10, .int 0, .ref h11, .ref h12, .ref h13])), (h2, .inr (11, [.ref h14])), (h14, .inr (10, [.int 1, .int 20, .ref h15, .int 0])), (h3, .inl (g.2.1 3, 4, .inr (.inr (.inr (.inr (va_up (va_up (va_up (va_up (fun _ => none) 0 (some h16)) 1 (some h17)) 2 (some h18)) 3 (some h19))))))), (h16, .inr (6, [.ref h20, .ref h21, .ref h22, .int 0, .int 0, .int 0, .int 0, .int 0])), (h17, .inr (6, [.ref h23, .ref h24, .ref h25, .int 0, .int 0, .int 0, .int 0, .int 0])), (h18, .inr (6, [.ref h26, .ref h27, .ref h28, .int 0, .int 0, .int 0, .int 0, .int 0])), (h19, .inr (6, [.ref h29, .ref h30, .ref h31, .int 0, .int 0, .int 0, .int 0, .int 0]))] s.heap := hP
  have hl := lv_entry ([.ref h0, .int v0, .int 0]) (n := 3) (Nat.le_of_ble_eq_true rfl)
  rw [lg_entry_eq]
  generalize (lg_sl ([.ref h0, .int v0, .int 0]) ++ List.replicate (3 - (lg_sl ([.ref h0, .int v0, .int 0])).length) Slot.unset).toArray = ls at hl ⊢
  replace hl : lv_has ls 3 [(0, .ref h0), (1, .int v0), (2, .int 0)] := hl
  have hH0 : s.heap.size ≤ s.heap.size := Nat.le_refl _
  refine lv_aload_n hx hb dX11_canStill_0 rfl (lv_at hl 0 rfl) ?_
  refine lv_iload_n hx hb dX11_canStill_1 rfl (lv_at hl 1 rfl) ?_
  have hPc := hP.sub (ws' := [(h0, .inr (12, [.ref h1, .int 0, .ref h2, .ref h3, .ref h4, .ref h5, .ref h6, .ref h7, .int (-1), .ref h8, .ref h9, .int 250, .ref h10, .int 0, .ref h11, .ref h12, .ref h13]))]) [0] rfl
  have hDc := hD.sub (ws' := [(h0, .inr (12, [.ref h1, .int 0, .ref h2, .ref h3, .ref h4, .ref h5, .ref h6, .ref h7, .int (-1), .ref h8, .ref h9, .int 250, .ref h10, .int 0, .ref h11, .ref h12, .ref h13]))]) [0] (by decide) rfl
  have hFc := va_free (wc := [(h0, .inr (12, [.ref h1, .int 0, .ref h2, .ref h3, .ref h4, .ref h5, .ref h6, .ref h7, .int (-1), .ref h8, .ref h9, .int 250, .ref h10, .int 0, .ref h11, .ref h12, .ref h13]))]) hD hS hA [0] rfl
  refine va_callv (va_runV (As := [.int v0]) (rest := []) ⟨hx, hb, hml, hown, hts⟩ (c9_X11_needPattern_7 l g h0 h1 h2 h3 h4 h5 h6 h7 h8 h9 h10 h11 h12 h13 _ v0 (by omega)) (cwV 1 hts g9_X11_canStill_5_0 rfl rfl rfl (by decide +kernel) ⟨Nat.le_of_ble_eq_true rfl, Nat.le_of_ble_eq_true rfl⟩) (mPreV (g := g) (wc := [(h0, .inr (12, [.ref h1, .int 0, .ref h2, .ref h3, .ref h4, .ref h5, .ref h6, .ref h7, .int (-1), .ref h8, .ref h9, .int 250, .ref h10, .int 0, .ref h11, .ref h12, .ref h13]))]) (C := RX11) (ci := 12) (q0 := 0) hE hS hPc hDc hFc rfl rfl) rfl rfl hl.1 rfl (lv_room (Nat.le_of_ble_eq_true rfl)) dX11_canStill_2 ⟨Nat.le_of_ble_eq_true rfl, Nat.le_of_ble_eq_true rfl⟩) hS (fun q _ h => hFc q h) hFc (fun u t H1 locs ht hvm hw hB hz1 hk1 hS => ?_)
  obtain ⟨hP1, hD1⟩ := hB
  rw [ht] at hP1
  obtain ⟨hP, hD⟩ := va_join (wr := [(h2, .inr (11, [.ref h14])), (h14, .inr (10, [.int 1, .int 20, .ref h15, .int 0])), (h3, .inl (g.2.1 3, 4, .inr (.inr (.inr (.inr (va_up (va_up (va_up (va_up (fun _ => none) 0 (some h16)) 1 (some h17)) 2 (some h18)) 3 (some h19))))))), (h16, .inr (6, [.ref h20, .ref h21, .ref h22, .int 0, .int 0, .int 0, .int 0, .int 0])), (h17, .inr (6, [.ref h23, .ref h24, .ref h25, .int 0, .int 0, .int 0, .int 0, .int 0])), (h18, .inr (6, [.ref h26, .ref h27, .ref h28, .int 0, .int 0, .int 0, .int 0, .int 0])), (h19, .inr (6, [.ref h29, .ref h30, .ref h31, .int 0, .int 0, .int 0, .int 0, .int 0]))]) (w1 := [(h0, .inr (12, [.ref h1, .int 0, .ref h2, .ref h3, .ref h4, .ref h5, .ref h6, .ref h7, .int (-1), .ref h8, .ref h9, .int 250, .ref h10, .int 0, .ref h11, .ref h12, .ref h13]))]) hP hD [0] [1, 2, 3, 4, 5, 6, 7] rfl rfl (by decide) (by decide) hk1 hFc hP1 hD1
  clear hP1 hD1 hPc hDc hFc hk1 hz1 hvm ht
  generalize H1 = H at hP hS ⊢
  have hP : va_P g.1 vwCl [(h2, .inr (11, [.ref h14])), (h14, .inr (10, [.int 1, .int 20, .ref h15, .int 0])), (h3, .inl (g.2.1 3, 4, .inr (.inr (.inr (.inr (va_up (va_up (va_up (va_up (fun _ => none) 0 (some h16)) 1 (some h17)) 2 (some h18)) 3 (some h19))))))), (h16, .inr (6, [.ref h20, .ref h21, .ref h22, .int 0, .int 0, .int 0, .int 0, .int 0])), (h17, .inr (6, [.ref h23, .ref h24, .ref h25, .int 0, .int 0, .int 0, .int 0, .int 0])), (h18, .inr (6, [.ref h26, .ref h27, .ref h28, .int 0, .int 0, .int 0, .int 0, .int 0])), (h19, .inr (6, [.ref h29, .ref h30, .ref h31, .int 0, .int 0, .int 0, .int 0, .int 0])), (h0, .inr (12, [.ref h1, .int 0, .ref h2, .ref h3, .ref h4, .ref h5, .ref h6, .ref h7, .int (-1), .ref h8, .ref h9, .int 250, .ref h10, .int 0, .ref h11, .ref h12, .ref h13]))] H := hP
  have hD : va_D A [(h2, .inr (11, [.ref h14])), (h14, .inr (10, [.int 1, .int 20, .ref h15, .int 0])), (h3, .inl (g.2.1 3, 4, .inr (.inr (.inr (.inr (va_up (va_up (va_up (va_up (fun _ => none) 0 (some h16)) 1 (some h17)) 2 (some h18)) 3 (some h19))))))), (h16, .inr (6, [.ref h20, .ref h21, .ref h22, .int 0, .int 0, .int 0, .int 0, .int 0])), (h17, .inr (6, [.ref h23, .ref h24, .ref h25, .int 0, .int 0, .int 0, .int 0, .int 0])), (h18, .inr (6, [.ref h26, .ref h27, .ref h28, .int 0, .int 0, .int 0, .int 0, .int 0])), (h19, .inr (6, [.ref h29, .ref h30, .ref h31, .int 0, .int 0, .int 0, .int 0, .int 0])), (h0, .inr (12, [.ref h1, .int 0, .ref h2, .ref h3, .ref h4, .ref h5, .ref h6, .ref h7, .int (-1), .ref h8, .ref h9, .int 250, .ref h10, .int 0, .ref h11, .ref h12, .ref h13]))] := hD
  refine lv_aload_n hx hb dX11_canStill_5 rfl (lv_at hl 0 rfl) ?_
  refine lv_iload_n hx hb dX11_canStill_6 rfl (lv_at hl 2 rfl) ?_
  have hPc := hP.sub (ws' := [(h2, .inr (11, [.ref h14])), (h14, .inr (10, [.int 1, .int 20, .ref h15, .int 0])), (h0, .inr (12, [.ref h1, .int 0, .ref h2, .ref h3, .ref h4, .ref h5, .ref h6, .ref h7, .int (-1), .ref h8, .ref h9, .int 250, .ref h10, .int 0, .ref h11, .ref h12, .ref h13]))]) [0, 1, 7] rfl
  have hDc := hD.sub (ws' := [(h2, .inr (11, [.ref h14])), (h14, .inr (10, [.int 1, .int 20, .ref h15, .int 0])), (h0, .inr (12, [.ref h1, .int 0, .ref h2, .ref h3, .ref h4, .ref h5, .ref h6, .ref h7, .int (-1), .ref h8, .ref h9, .int 250, .ref h10, .int 0, .ref h11, .ref h12, .ref h13]))]) [0, 1, 7] (by decide) rfl
  have hFc := va_free (wc := [(h2, .inr (11, [.ref h14])), (h14, .inr (10, [.int 1, .int 20, .ref h15, .int 0])), (h0, .inr (12, [.ref h1, .int 0, .ref h2, .ref h3, .ref h4, .ref h5, .ref h6, .ref h7, .int (-1), .ref h8, .ref h9, .int 250, .ref h10, .int 0, .ref h11, .ref h12, .ref h13]))]) hD hS hA [0, 1, 7] rfl
  refine va_callv (va_runV (As := [.int 0]) (rest := []) ⟨hx, hb, hml, hown, hts⟩ (c9_X11_needPlace_3 l g h0 h2 h14 h15 h1 h3 h4 h5 h6 h7 h8 h9 h10 h11 h12 h13 _) (cwV 1 hts g9_X11_canStill_5_1 rfl rfl rfl (by decide +kernel) ⟨Nat.le_of_ble_eq_true rfl, Nat.le_of_ble_eq_true rfl⟩) (mPreV (g := g) (wc := [(h2, .inr (11, [.ref h14])), (h14, .inr (10, [.int 1, .int 20, .ref h15, .int 0])), (h0, .inr (12, [.ref h1, .int 0, .ref h2, .ref h3, .ref h4, .ref h5, .ref h6, .ref h7, .int (-1), .ref h8, .ref h9, .int 250, .ref h10, .int 0, .ref h11, .ref h12, .ref h13]))]) (C := RX11) (ci := 12) (q0 := 2) hE hS hPc hDc hFc rfl rfl) rfl rfl hl.1 rfl (lv_room (Nat.le_of_ble_eq_true rfl)) dX11_canStill_7 ⟨Nat.le_of_ble_eq_true rfl, Nat.le_of_ble_eq_true rfl⟩) hS (fun q _ h => hFc q h) hFc (fun u t H1 locs ht hvm hw hB hz1 hk1 hS => ?_)
  obtain ⟨hP1, hD1⟩ := hB
  rw [ht] at hP1
  obtain ⟨hP, hD⟩ := va_join (wr := [(h3, .inl (g.2.1 3, 4, .inr (.inr (.inr (.inr (va_up (va_up (va_up (va_up (fun _ => none) 0 (some h16)) 1 (some h17)) 2 (some h18)) 3 (some h19))))))), (h16, .inr (6, [.ref h20, .ref h21, .ref h22, .int 0, .int 0, .int 0, .int 0, .int 0])), (h17, .inr (6, [.ref h23, .ref h24, .ref h25, .int 0, .int 0, .int 0, .int 0, .int 0])), (h18, .inr (6, [.ref h26, .ref h27, .ref h28, .int 0, .int 0, .int 0, .int 0, .int 0])), (h19, .inr (6, [.ref h29, .ref h30, .ref h31, .int 0, .int 0, .int 0, .int 0, .int 0]))]) (w1 := [(h2, .inr (11, [.ref h14])), (h14, .inr (10, [.int 1, .int 20, .ref h15, .int 0])), (h0, .inr (12, [.ref h1, .int 0, .ref h2, .ref h3, .ref h4, .ref h5, .ref h6, .ref h7, .int (-1), .ref h8, .ref h9, .int 250, .ref h10, .int 0, .ref h11, .ref h12, .ref h13]))]) hP hD [0, 1, 7] [2, 3, 4, 5, 6] rfl rfl (by decide) (by decide) hk1 hFc hP1 hD1
  clear hP1 hD1 hPc hDc hFc hk1 hz1 hvm ht
  generalize H1 = H at hP hS ⊢
  have hP : va_P g.1 vwCl [(h3, .inl (g.2.1 3, 4, .inr (.inr (.inr (.inr (va_up (va_up (va_up (va_up (fun _ => none) 0 (some h16)) 1 (some h17)) 2 (some h18)) 3 (some h19))))))), (h16, .inr (6, [.ref h20, .ref h21, .ref h22, .int 0, .int 0, .int 0, .int 0, .int 0])), (h17, .inr (6, [.ref h23, .ref h24, .ref h25, .int 0, .int 0, .int 0, .int 0, .int 0])), (h18, .inr (6, [.ref h26, .ref h27, .ref h28, .int 0, .int 0, .int 0, .int 0, .int 0])), (h19, .inr (6, [.ref h29, .ref h30, .ref h31, .int 0, .int 0, .int 0, .int 0, .int 0])), (h2, .inr (11, [.ref h14])), (h14, .inr (10, [.int 1, .int 20, .ref h15, .int 0])), (h0, .inr (12, [.ref h1, .int 0, .ref h2, .ref h3, .ref h4, .ref h5, .ref h6, .ref h7, .int (-1), .ref h8, .ref h9, .int 250, .ref h10, .int 0, .ref h11, .ref h12, .ref h13]))] H := hP
  have hD : va_D A [(h3, .inl (g.2.1 3, 4, .inr (.inr (.inr (.inr (va_up (va_up (va_up (va_up (fun _ => none) 0 (some h16)) 1 (some h17)) 2 (some h18)) 3 (some h19))))))), (h16, .inr (6, [.ref h20, .ref h21, .ref h22, .int 0, .int 0, .int 0, .int 0, .int 0])), (h17, .inr (6, [.ref h23, .ref h24, .ref h25, .int 0, .int 0, .int 0, .int 0, .int 0])), (h18, .inr (6, [.ref h26, .ref h27, .ref h28, .int 0, .int 0, .int 0, .int 0, .int 0])), (h19, .inr (6, [.ref h29, .ref h30, .ref h31, .int 0, .int 0, .int 0, .int 0, .int 0])), (h2, .inr (11, [.ref h14])), (h14, .inr (10, [.int 1, .int 20, .ref h15, .int 0])), (h0, .inr (12, [.ref h1, .int 0, .ref h2, .ref h3, .ref h4, .ref h5, .ref h6, .ref h7, .int (-1), .ref h8, .ref h9, .int 250, .ref h10, .int 0, .ref h11, .ref h12, .ref h13]))] := hD
  refine lv_aload_n hx hb dX11_canStill_10 rfl (lv_at hl 0 rfl) ?_
  refine lv_iload_n hx hb dX11_canStill_11 rfl (lv_at hl 1 rfl) ?_
  have hPc := hP.sub (ws' := [(h3, .inl (g.2.1 3, 4, .inr (.inr (.inr (.inr (va_up (va_up (va_up (va_up (fun _ => none) 0 (some h16)) 1 (some h17)) 2 (some h18)) 3 (some h19))))))), (h16, .inr (6, [.ref h20, .ref h21, .ref h22, .int 0, .int 0, .int 0, .int 0, .int 0])), (h17, .inr (6, [.ref h23, .ref h24, .ref h25, .int 0, .int 0, .int 0, .int 0, .int 0])), (h18, .inr (6, [.ref h26, .ref h27, .ref h28, .int 0, .int 0, .int 0, .int 0, .int 0])), (h19, .inr (6, [.ref h29, .ref h30, .ref h31, .int 0, .int 0, .int 0, .int 0, .int 0])), (h0, .inr (12, [.ref h1, .int 0, .ref h2, .ref h3, .ref h4, .ref h5, .ref h6, .ref h7, .int (-1), .ref h8, .ref h9, .int 250, .ref h10, .int 0, .ref h11, .ref h12, .ref h13]))]) [0, 1, 2, 3, 4, 7] rfl
  have hDc := hD.sub (ws' := [(h3, .inl (g.2.1 3, 4, .inr (.inr (.inr (.inr (va_up (va_up (va_up (va_up (fun _ => none) 0 (some h16)) 1 (some h17)) 2 (some h18)) 3 (some h19))))))), (h16, .inr (6, [.ref h20, .ref h21, .ref h22, .int 0, .int 0, .int 0, .int 0, .int 0])), (h17, .inr (6, [.ref h23, .ref h24, .ref h25, .int 0, .int 0, .int 0, .int 0, .int 0])), (h18, .inr (6, [.ref h26, .ref h27, .ref h28, .int 0, .int 0, .int 0, .int 0, .int 0])), (h19, .inr (6, [.ref h29, .ref h30, .ref h31, .int 0, .int 0, .int 0, .int 0, .int 0])), (h0, .inr (12, [.ref h1, .int 0, .ref h2, .ref h3, .ref h4, .ref h5, .ref h6, .ref h7, .int (-1), .ref h8, .ref h9, .int 250, .ref h10, .int 0, .ref h11, .ref h12, .ref h13]))]) [0, 1, 2, 3, 4, 7] (by decide) rfl
  have hFc := va_free (wc := [(h3, .inl (g.2.1 3, 4, .inr (.inr (.inr (.inr (va_up (va_up (va_up (va_up (fun _ => none) 0 (some h16)) 1 (some h17)) 2 (some h18)) 3 (some h19))))))), (h16, .inr (6, [.ref h20, .ref h21, .ref h22, .int 0, .int 0, .int 0, .int 0, .int 0])), (h17, .inr (6, [.ref h23, .ref h24, .ref h25, .int 0, .int 0, .int 0, .int 0, .int 0])), (h18, .inr (6, [.ref h26, .ref h27, .ref h28, .int 0, .int 0, .int 0, .int 0, .int 0])), (h19, .inr (6, [.ref h29, .ref h30, .ref h31, .int 0, .int 0, .int 0, .int 0, .int 0])), (h0, .inr (12, [.ref h1, .int 0, .ref h2, .ref h3, .ref h4, .ref h5, .ref h6, .ref h7, .int (-1), .ref h8, .ref h9, .int 250, .ref h10, .int 0, .ref h11, .ref h12, .ref h13]))]) hD hS hA [0, 1, 2, 3, 4, 7] rfl
  refine vx_callv (vx_runV (As := [.int v0]) (rest := []) ⟨hx, hb, hml, hown, hts⟩ (c9_X11_needRegular_1 l hlt g h0 h3 h16 h17 h18 h19 h20 h21 h22 h23 h24 h25 h26 h27 h28 h29 h30 h31 h1 h2 h4 h5 h6 h7 h8 h9 h10 h11 h12 h13 _ v0 (by omega)) (cwV 1 hts g9_X11_canStill_5_2 rfl rfl rfl (by decide +kernel) ⟨Nat.le_of_ble_eq_true rfl, Nat.le_of_ble_eq_true rfl⟩) (mPreV (g := g) (wc := [(h3, .inl (g.2.1 3, 4, .inr (.inr (.inr (.inr (va_up (va_up (va_up (va_up (fun _ => none) 0 (some h16)) 1 (some h17)) 2 (some h18)) 3 (some h19))))))), (h16, .inr (6, [.ref h20, .ref h21, .ref h22, .int 0, .int 0, .int 0, .int 0, .int 0])), (h17, .inr (6, [.ref h23, .ref h24, .ref h25, .int 0, .int 0, .int 0, .int 0, .int 0])), (h18, .inr (6, [.ref h26, .ref h27, .ref h28, .int 0, .int 0, .int 0, .int 0, .int 0])), (h19, .inr (6, [.ref h29, .ref h30, .ref h31, .int 0, .int 0, .int 0, .int 0, .int 0])), (h0, .inr (12, [.ref h1, .int 0, .ref h2, .ref h3, .ref h4, .ref h5, .ref h6, .ref h7, .int (-1), .ref h8, .ref h9, .int 250, .ref h10, .int 0, .ref h11, .ref h12, .ref h13]))]) (C := RX11) (ci := 12) (q0 := 5) hE hS hPc hDc hFc rfl rfl) rfl rfl hl.1 rfl (lv_room (Nat.le_of_ble_eq_true rfl)) dX11_canStill_12 ⟨Nat.le_of_ble_eq_true rfl, Nat.le_of_ble_eq_true rfl⟩) hS (fun q _ h => hFc q h) hFc (fun q _ h => hFc q h) (fun E9 ce q9 u t H locs ht hvm hw hB hz1 hk1 hS hc1 hc2 hc3 => ?_) (fun u t H1 locs ht hvm hw hB hz1 hk1 hS => hw.elim)
  replace hB : E9 = "java/lang/IllegalStateException" := hB
  subst hB
  exact vx_out (fun z hz => (hno z hz).elim) hlocks hc1 hc2 hc3 (fun t ht hW => ⟨(), trivial, rfl, by subst hAe; exact hS.F ht⟩) (by subst hAe; exact hS.2.2) (Nat.le_of_ble_eq_true rfl) (Nat.le_of_ble_eq_true rfl)
def w9_L_canStill_5 : List Cond := [.codeWith yL_canStill cL_canStill 5 (some .int) [(0, 17, 20, 21), (0, 17, 24, 15)], .methodLink RL 54 yX11_canStill, .instanceMethod yX11_canStill, .selects RX11 yX11_canStill yX11_canStill, .initialized RX11, .code yX11_canStill cX11_canStill 3 (some .boolean), .methodLink RX11 124 yX11_needPattern, .instanceMethod yX11_needPattern, .selects RX11 yX11_needPattern yX11_needPattern, .code yX11_needPattern cX11_needPattern 2 none, .methodLink RX11 180 yX11_needPlace, .instanceMethod yX11_needPlace, .selects RX11 yX11_needPlace yX11_needPlace, .code yX11_needPlace cX11_needPlace 2 none, .fieldLink RX11 16 "Regexloom" "text" "LRegexloom$Text;", .methodLink RX11 146 yX10_size, .instanceMethod yX10_size, .selects RX10 yX10_size yX10_size, .initialized RX10, .code yX10_size cX10_size 1 (some .int), .fieldLink RX10 14 "Regexloom$Text" "codes" "LRegexloom$Table;", .methodLink RX10 20 yX9_size, .instanceMethod yX9_size, .selects RX9 yX9_size yX9_size, .initialized RX9, .code yX9_size cX9_size 1 (some .int), .fieldLink RX9 28 "Regexloom$Table" "size" "I", .methodLink RX11 228 yX11_needRegular, .instanceMethod yX11_needRegular, .selects RX11 yX11_needRegular yX11_needRegular, .code yX11_needRegular cX11_needRegular 2 none, .methodLink RX11 168 yX11_toldOne, .instanceMethod yX11_toldOne, .selects RX11 yX11_toldOne yX11_toldOne, .code yX11_toldOne cX11_toldOne 2 (some (.object "Regexloom$Pattern")), .fieldLink RX11 22 "Regexloom" "patterns" "[LRegexloom$Pattern;", .fieldLink RX11 133 "Regexloom$Pattern" "isTold" "Z", .initialized "java/lang/Throwable", .superclass "java/lang/Throwable" "java/lang/Object", .instanceMethod Bundle.tFill, .codeSync Bundle.tFill LibCode.Throwable.Fill.code 1 (some (.object "java/lang/Throwable")), .instanceMethod Bundle.tFill0, .native Bundle.tFill0, .instanceMethod Bundle.tInit0, .code Bundle.tInit0 LibCode.Throwable.Init0.code 1 none, .instanceMethod Bundle.oInit, .code Bundle.oInit ⟨#[0xb1]⟩ 1 none, .methodLink "java/lang/Throwable" 1 Bundle.oInit, .methodLink "java/lang/Throwable" 27 Bundle.tFill, .methodLink "java/lang/Throwable" 202 Bundle.tFill0, .fieldLink "java/lang/Throwable" 7 "java/lang/Throwable" "cause" "Ljava/lang/Throwable;", .lays "java/lang/Throwable" "java/lang/Throwable" "cause" "Ljava/lang/Throwable;", .fieldLink "java/lang/Throwable" 17 "java/lang/Throwable" "stackTrace" "[Ljava/lang/StackTraceElement;", .lays "java/lang/Throwable" "java/lang/Throwable" "stackTrace" "[Ljava/lang/StackTraceElement;", .fieldLink "java/lang/Throwable" 24 "java/lang/Throwable" "suppressedExceptions" "Ljava/util/List;", .lays "java/lang/Throwable" "java/lang/Throwable" "suppressedExceptions" "Ljava/util/List;", .fieldLink "java/lang/Throwable" 13 "java/lang/Throwable" "UNASSIGNED_STACK" "[Ljava/lang/StackTraceElement;", .fieldLink "java/lang/Throwable" 20 "java/lang/Throwable" "SUPPRESSED_SENTINEL" "Ljava/util/List;", .lays "java/lang/Throwable" "java/lang/Throwable" "detailMessage" "Ljava/lang/String;", .instanceMethod (Bundle.initS "java/lang/Throwable"), .code (Bundle.initS "java/lang/Throwable") LibCode.Throwable.InitS.code 2 none, .fieldLink "java/lang/Throwable" 31 "java/lang/Throwable" "detailMessage" "Ljava/lang/String;", .instanceMethod (Bundle.initS "java/lang/IllegalStateException"), .code (Bundle.initS "java/lang/IllegalStateException") Bundle.six 2 none, .methodLink "java/lang/IllegalStateException" 7 (Bundle.initS "java/lang/RuntimeException"), .instanceMethod (Bundle.initS "java/lang/RuntimeException"), .code (Bundle.initS "java/lang/RuntimeException") Bundle.six 2 none, .methodLink "java/lang/RuntimeException" 7 (Bundle.initS "java/lang/Exception"), .instanceMethod (Bundle.initS "java/lang/Exception"), .code (Bundle.initS "java/lang/Exception") Bundle.six 2 none, .methodLink "java/lang/Exception" 7 (Bundle.initS "java/lang/Throwable"), .methodLink RX11 123 (Bundle.initS "java/lang/IllegalStateException"), .instantiable "java/lang/IllegalStateException" 6, .selects "java/lang/IllegalStateException" Bundle.tFill0 Bundle.tFill0, .selects "java/lang/IllegalStateException" Bundle.tFill Bundle.tFill, .lays "java/lang/IllegalStateException" "java/lang/Throwable" "cause" "Ljava/lang/Throwable;", .lays "java/lang/IllegalStateException" "java/lang/Throwable" "stackTrace" "[Ljava/lang/StackTraceElement;", .lays "java/lang/IllegalStateException" "java/lang/Throwable" "suppressedExceptions" "Ljava/util/List;", .lays "java/lang/IllegalStateException" "java/lang/Throwable" "detailMessage" "Ljava/lang/String;", .fieldLink "java/lang/Throwable" 198 "java/lang/Throwable" "backtrace" "Ljava/lang/Object;", .lays "java/lang/Throwable" "java/lang/Throwable" "backtrace" "Ljava/lang/Object;", .lays "java/lang/IllegalStateException" "java/lang/Throwable" "backtrace" "Ljava/lang/Object;", .classLink RX11 119 "java/lang/IllegalStateException", .initialized "java/lang/IllegalStateException", .classLink RL 21 "java/lang/IndexOutOfBoundsException", .classLink RL 15 "java/lang/IllegalStateException"] ++ (u_ws RX11 TX11 17 ++ u_ws RX10 TX10 1 ++ u_ws RX9 TX9 4 ++ u_ws RX3 TX3 8)
set_option maxRecDepth 20000 in
theorem in9_L_canStill_5_RX11 : ∀ w ∈ u_ws RX11 TX11 17, w ∈ w9_L_canStill_5 := by decide +kernel
set_option maxRecDepth 20000 in
theorem in9_L_canStill_5_RX10 : ∀ w ∈ u_ws RX10 TX10 1, w ∈ w9_L_canStill_5 := by decide +kernel
set_option maxRecDepth 20000 in
theorem in9_L_canStill_5_RX9 : ∀ w ∈ u_ws RX9 TX9 4, w ∈ w9_L_canStill_5 := by decide +kernel
set_option maxRecDepth 20000 in
theorem in9_L_canStill_5_RX3 : ∀ w ∈ u_ws RX3 TX3 8, w ∈ w9_L_canStill_5 := by decide +kernel
set_option maxRecDepth 20000 in
theorem g9_L_canStill_5_0 : GoodIn w9_L_canStill_5 (wsV RL 54 RX11 yX11_canStill w9_X11_canStill_5) := goodIn_r _ [1, 2, 3, 4, 5, 6, 7, 8, 4, 9, 10, 11, 12, 13, 14, 15, 16, 17, 18, 19, 20, 21, 22, 23, 24, 25, 26, 27, 28, 29, 30, 31, 32, 33, 34, 35, 36, 37, 38, 39, 40, 41, 42, 43, 44, 45, 46, 47, 48, 49, 50, 51, 52, 53, 54, 55, 56, 57, 58, 59, 60, 61, 62, 63, 64, 65, 66, 67, 68, 69, 70, 71, 72, 73, 74, 75, 76, 77, 78, 79, 80, 81, 82, 83, 86, 87, 88, 89, 90, 91, 92, 93, 94, 95, 96, 97, 98, 99, 100, 101, 102, 103, 104, 105, 106, 107, 108, 109, 110, 111, 112, 113, 114, 115] (by decide +kernel) (by decide +kernel)
set_option maxHeartbeats 4000000 in
set_option maxRecDepth 100000 in
theorem c9_L_canStill_5 (l : Launch) (hlt : l.stackTraces = false) (g : G9) (h0 h1 h2 h3 h4 h5 h6 h7 h8 h9 h10 h11 h12 h13 h14 h15 h16 h17 h18 h19 h20 h21 h22 h23 h24 h25 h26 h27 h28 h29 h30 h31 h32 sz : Nat) (v0 : Int32) (k_v0 : 0 ≤ v0.toInt ∧ v0.toInt ≤ 3) : Met l yL_canStill w9_L_canStill_5 ({ frames := 9, cells := 1, slots := 6, locals := 146 }) (mP g [(h0, .inr (12, [.ref h2, .int 0, .ref h3, .ref h4, .ref h5, .ref h6, .ref h7, .ref h8, .int (-1), .ref h9, .ref h10, .int 250, .ref h11, .int 0, .ref h12, .ref h13, .ref h14])), (h3, .inr (11, [.ref h15])), (h15, .inr (10, [.int 1, .int 20, .ref h16, .int 0])), (h4, .inl (g.2.1 3, 4, .inr (.inr (.inr (.inr (va_up (va_up (va_up (va_up (fun _ => none) 0 (some h17)) 1 (some h18)) 2 (some h19)) 3 (some h20))))))), (h17, .inr (6, [.ref h21, .ref h22, .ref h23, .int 0, .int 0, .int 0, .int 0, .int 0])), (h18, .inr (6, [.ref h24, .ref h25, .ref h26, .int 0, .int 0, .int 0, .int 0, .int 0])), (h19, .inr (6, [.ref h27, .ref h28, .ref h29, .int 0, .int 0, .int 0, .int 0, .int 0])), (h20, .inr (6, [.ref h30, .ref h31, .ref h32, .int 0, .int 0, .int 0, .int 0, .int 0]))] sz [.ref h0, .int v0, .int 0, .ref h1]) (va_Qi (fun (r : Int32) (_ : Unit) => r = 2) (fun (_ : Unit) (t : State) => mB g [(h0, .inr (12, [.ref h2, .int 0, .ref h3, .ref h4, .ref h5, .ref h6, .ref h7, .ref h8, .int (-1), .ref h9, .ref h10, .int 250, .ref h11, .int 0, .ref h12, .ref h13, .ref h14])), (h3, .inr (11, [.ref h15])), (h15, .inr (10, [.int 1, .int 20, .ref h16, .int 0])), (h4, .inl (g.2.1 3, 4, .inr (.inr (.inr (.inr (va_up (va_up (va_up (va_up (fun _ => none) 0 (some h17)) 1 (some h18)) 2 (some h19)) 3 (some h20))))))), (h17, .inr (6, [.ref h21, .ref h22, .ref h23, .int 0, .int 0, .int 0, .int 0, .int 0])), (h18, .inr (6, [.ref h24, .ref h25, .ref h26, .int 0, .int 0, .int 0, .int 0, .int 0])), (h19, .inr (6, [.ref h27, .ref h28, .ref h29, .int 0, .int 0, .int 0, .int 0, .int 0])), (h20, .inr (6, [.ref h30, .ref h31, .ref h32, .int 0, .int 0, .int 0, .int 0, .int 0]))] sz [] t) (va_A [(h0, .inr (12, [.ref h2, .int 0, .ref h3, .ref h4, .ref h5, .ref h6, .ref h7, .ref h8, .int (-1), .ref h9, .ref h10, .int 250, .ref h11, .int 0, .ref h12, .ref h13, .ref h14])), (h3, .inr (11, [.ref h15])), (h15, .inr (10, [.int 1, .int 20, .ref h16, .int 0])), (h4, .inl (g.2.1 3, 4, .inr (.inr (.inr (.inr (va_up (va_up (va_up (va_up (fun _ => none) 0 (some h17)) 1 (some h18)) 2 (some h19)) 3 (some h20))))))), (h17, .inr (6, [.ref h21, .ref h22, .ref h23, .int 0, .int 0, .int 0, .int 0, .int 0])), (h18, .inr (6, [.ref h24, .ref h25, .ref h26, .int 0, .int 0, .int 0, .int 0, .int 0])), (h19, .inr (6, [.ref h27, .ref h28, .ref h29, .int 0, .int 0, .int 0, .int 0, .int 0])), (h20, .inr (6, [.ref h30, .ref h31, .ref h32, .int 0, .int 0, .int 0, .int 0, .int 0]))] sz)) 1 6 (va_A [(h0, .inr (12, [.ref h2, .int 0, .ref h3, .ref h4, .ref h5, .ref h6, .ref h7, .ref h8, .int (-1), .ref h9, .ref h10, .int 250, .ref h11, .int 0, .ref h12, .ref h13, .ref h14])), (h3, .inr (11, [.ref h15])), (h15, .inr (10, [.int 1, .int 20, .ref h16, .int 0])), (h4, .inl (g.2.1 3, 4, .inr (.inr (.inr (.inr (va_up (va_up (va_up (va_up (fun _ => none) 0 (some h17)) 1 (some h18)) 2 (some h19)) 3 (some h20))))))), (h17, .inr (6, [.ref h21, .ref h22, .ref h23, .int 0, .int 0, .int 0, .int 0, .int 0])), (h18, .inr (6, [.ref h24, .ref h25, .ref h26, .int 0, .int 0, .int 0, .int 0, .int 0])), (h19, .inr (6, [.ref h27, .ref h28, .ref h29, .int 0, .int 0, .int 0, .int 0, .int 0])), (h20, .inr (6, [.ref h30, .ref h31, .ref h32, .int 0, .int 0, .int 0, .int 0, .int 0]))] sz) := by
  refine va_MetW (cc := cL_canStill) (maxL := 5) (ret := (some .int)) (by decide) rfl ?_
  intro p e s m args below meth c s₁ B hml hv
  obtain ⟨rfl, hsz, hP, hD0, hE⟩ := hv
  have hx := B.exec
  have hb := B.bytes
  have hr := B.returns
  have hts := atoms_spec (ws := w9_L_canStill_5) B.pre
  have hown : s.vm.findClass RL = some m.cls := findClass_of_methodNamed B.named
  have hlocks := B.notSynchronized
  have htab := vx_table (x := yL_canStill) B (hts (.codeWith yL_canStill cL_canStill 5 (some .int) [(0, 17, 20, 21), (0, 17, 24, 15)]) (List.mem_of_getElem? (i := 0) rfl))
  subst hsz
  have hD := hD0.self (sz := s.heap.size)
  generalize hAe : va_A [(h0, .inr (12, [.ref h2, .int 0, .ref h3, .ref h4, .ref h5, .ref h6, .ref h7, .ref h8, .int (-1), .ref h9, .ref h10, .int 250, .ref h11, .int 0, .ref h12, .ref h13, .ref h14])), (h3, .inr (11, [.ref h15])), (h15, .inr (10, [.int 1, .int 20, .ref h16, .int 0])), (h4, .inl (g.2.1 3, 4, .inr (.inr (.inr (.inr (va_up (va_up (va_up (va_up (fun _ => none) 0 (some h17)) 1 (some h18)) 2 (some h19)) 3 (some h20))))))), (h17, .inr (6, [.ref h21, .ref h22, .ref h23, .int 0, .int 0, .int 0, .int 0, .int 0])), (h18, .inr (6, [.ref h24, .ref h25, .ref h26, .int 0, .int 0, .int 0, .int 0, .int 0])), (h19, .inr (6, [.ref h27, .ref h28, .ref h29, .int 0, .int 0, .int 0, .int 0, .int 0])), (h20, .inr (6, [.ref h30, .ref h31, .ref h32, .int 0, .int 0, .int 0, .int 0, .int 0]))] s.heap.size = A at hD hE ⊢
  have hA : ∀ q : Nat, s.heap.size ≤ q → A q := fun q h => by rw [← hAe]; exact Or.inr h
  have hK := hE.1
  have hS : va_S A s.heap s.heap [] := va_S.rf
  replace hP : va_P g.1 vwCl [(h0, .inr (12, [.ref h2, .int 0, .ref h3, .ref h4, .ref h5, .ref h6, .ref h7, .ref h8, .int (-1), .ref h9, .ref h10, .int 250, .ref h11, .int 0, .ref h12, .ref h13, .ref h14])), (h3, .inr (11, [.ref h15])), (h15, .inr (10, [.int 1, .int 20, .ref h16, .int 0])), (h4, .inl (g.2.1 3, 4, .inr (.inr (.inr (.inr (va_up (va_up (va_up (va_up (fun _ => none) 0 (some h17)) 1 (some h18)) 2 (some h19)) 3 (some h20))))))), (h17, .inr (6, [.ref h21, .ref h22, .ref h23, .int 0, .int 0, .int 0, .int 0, .int 0])), (h18, .inr (6, [.ref h24, .ref h25, .ref h26, .int 0, .int 0, .int 0, .int 0, .int 0])), (h19, .inr (6, [.ref h27, .ref h28, .ref h29, .int 0, .int 0, .int 0, .int 0, .int 0])), (h20, .inr (6, [.ref h30, .ref h31, .ref h32, .int 0, .int 0, .int 0, .int 0, .int 0]))] s.heap := hP
  have hl := lv_entry ([.ref h0, .int v0, .int 0, .ref h1]) (n := 5) (Nat.le_of_ble_eq_true rfl)
  rw [lg_entry_eq]
  generalize (lg_sl ([.ref h0, .int v0, .int 0, .ref h1]) ++ List.replicate (5 - (lg_sl ([.ref h0, .int v0, .int 0, .ref h1])).length) Slot.unset).toArray = ls at hl ⊢
  replace hl : lv_has ls 5 [(0, .ref h0), (1, .int v0), (2, .int 0), (3, .ref h1)] := hl
  have hH0 : s.heap.size ≤ s.heap.size := Nat.le_refl _
  refine lv_aload_n hx hb dL_canStill_0 rfl (lv_at hl 3 rfl) ?_
  refine lv_iconst (v := 0) hx hb dL_canStill_1 (by decide) ?_
  refine lv_aload_n hx hb dL_canStill_2 rfl (lv_at hl 0 rfl) ?_
  refine lv_iload_n hx hb dL_canStill_3 rfl (lv_at hl 1 rfl) ?_
  refine lv_iload_n hx hb dL_canStill_4 rfl (lv_at hl 2 rfl) ?_
  have hPc := hP.sub (ws' := [(h0, .inr (12, [.ref h2, .int 0, .ref h3, .ref h4, .ref h5, .ref h6, .ref h7, .ref h8, .int (-1), .ref h9, .ref h10, .int 250, .ref h11, .int 0, .ref h12, .ref h13, .ref h14])), (h3, .inr (11, [.ref h15])), (h15, .inr (10, [.int 1, .int 20, .ref h16, .int 0])), (h4, .inl (g.2.1 3, 4, .inr (.inr (.inr (.inr (va_up (va_up (va_up (va_up (fun _ => none) 0 (some h17)) 1 (some h18)) 2 (some h19)) 3 (some h20))))))), (h17, .inr (6, [.ref h21, .ref h22, .ref h23, .int 0, .int 0, .int 0, .int 0, .int 0])), (h18, .inr (6, [.ref h24, .ref h25, .ref h26, .int 0, .int 0, .int 0, .int 0, .int 0])), (h19, .inr (6, [.ref h27, .ref h28, .ref h29, .int 0, .int 0, .int 0, .int 0, .int 0])), (h20, .inr (6, [.ref h30, .ref h31, .ref h32, .int 0, .int 0, .int 0, .int 0, .int 0]))]) [0, 1, 2, 3, 4, 5, 6, 7] rfl
  have hDc := hD.sub (ws' := [(h0, .inr (12, [.ref h2, .int 0, .ref h3, .ref h4, .ref h5, .ref h6, .ref h7, .ref h8, .int (-1), .ref h9, .ref h10, .int 250, .ref h11, .int 0, .ref h12, .ref h13, .ref h14])), (h3, .inr (11, [.ref h15])), (h15, .inr (10, [.int 1, .int 20, .ref h16, .int 0])), (h4, .inl (g.2.1 3, 4, .inr (.inr (.inr (.inr (va_up (va_up (va_up (va_up (fun _ => none) 0 (some h17)) 1 (some h18)) 2 (some h19)) 3 (some h20))))))), (h17, .inr (6, [.ref h21, .ref h22, .ref h23, .int 0, .int 0, .int 0, .int 0, .int 0])), (h18, .inr (6, [.ref h24, .ref h25, .ref h26, .int 0, .int 0, .int 0, .int 0, .int 0])), (h19, .inr (6, [.ref h27, .ref h28, .ref h29, .int 0, .int 0, .int 0, .int 0, .int 0])), (h20, .inr (6, [.ref h30, .ref h31, .ref h32, .int 0, .int 0, .int 0, .int 0, .int 0]))]) [0, 1, 2, 3, 4, 5, 6, 7] (by decide) rfl
  have hFc := va_free (wc := [(h0, .inr (12, [.ref h2, .int 0, .ref h3, .ref h4, .ref h5, .ref h6, .ref h7, .ref h8, .int (-1), .ref h9, .ref h10, .int 250, .ref h11, .int 0, .ref h12, .ref h13, .ref h14])), (h3, .inr (11, [.ref h15])), (h15, .inr (10, [.int 1, .int 20, .ref h16, .int 0])), (h4, .inl (g.2.1 3, 4, .inr (.inr (.inr (.inr (va_up (va_up (va_up (va_up (fun _ => none) 0 (some h17)) 1 (some h18)) 2 (some h19)) 3 (some h20))))))), (h17, .inr (6, [.ref h21, .ref h22, .ref h23, .int 0, .int 0, .int 0, .int 0, .int 0])), (h18, .inr (6, [.ref h24, .ref h25, .ref h26, .int 0, .int 0, .int 0, .int 0, .int 0])), (h19, .inr (6, [.ref h27, .ref h28, .ref h29, .int 0, .int 0, .int 0, .int 0, .int 0])), (h20, .inr (6, [.ref h30, .ref h31, .ref h32, .int 0, .int 0, .int 0, .int 0, .int 0]))]) hD hS hA [0, 1, 2, 3, 4, 5, 6, 7] rfl
  refine vx_callv (vx_runV (As := [.int v0, .int 0]) (rest := [.int 0, .ref h1]) ⟨hx, hb, hml, hown, hts⟩ (c9_X11_canStill_5 l hlt g h0 h2 h3 h4 h5 h6 h7 h8 h9 h10 h11 h12 h13 h14 h15 h16 h17 h18 h19 h20 h21 h22 h23 h24 h25 h26 h27 h28 h29 h30 h31 h32 _ v0 (by omega)) (cwV 2 hts g9_L_canStill_5_0 rfl rfl rfl (by decide +kernel) ⟨Nat.le_of_ble_eq_true rfl, Nat.le_of_ble_eq_true rfl⟩) (mPreV (g := g) (wc := [(h0, .inr (12, [.ref h2, .int 0, .ref h3, .ref h4, .ref h5, .ref h6, .ref h7, .ref h8, .int (-1), .ref h9, .ref h10, .int 250, .ref h11, .int 0, .ref h12, .ref h13, .ref h14])), (h3, .inr (11, [.ref h15])), (h15, .inr (10, [.int 1, .int 20, .ref h16, .int 0])), (h4, .inl (g.2.1 3, 4, .inr (.inr (.inr (.inr (va_up (va_up (va_up (va_up (fun _ => none) 0 (some h17)) 1 (some h18)) 2 (some h19)) 3 (some h20))))))), (h17, .inr (6, [.ref h21, .ref h22, .ref h23, .int 0, .int 0, .int 0, .int 0, .int 0])), (h18, .inr (6, [.ref h24, .ref h25, .ref h26, .int 0, .int 0, .int 0, .int 0, .int 0])), (h19, .inr (6, [.ref h27, .ref h28, .ref h29, .int 0, .int 0, .int 0, .int 0, .int 0])), (h20, .inr (6, [.ref h30, .ref h31, .ref h32, .int 0, .int 0, .int 0, .int 0, .int 0]))]) (C := RX11) (ci := 12) (q0 := 0) hE hS hPc hDc hFc rfl rfl) rfl rfl hl.1 rfl (lv_room (Nat.le_of_ble_eq_true rfl)) dL_canStill_5 ⟨Nat.le_of_ble_eq_true rfl, Nat.le_of_ble_eq_true rfl⟩) hS (fun q _ h => hFc q h) hFc (fun q _ h => hFc q h) (fun E9 ce q9 u t H locs ht hvm hw hB hz1 hk1 hS hc1 hc2 hc3 => ?_) (fun u t H1 locs ht hvm hw hB hz1 hk1 hS => hw.elim)
  replace hB : E9 = "java/lang/IllegalStateException" := hB
  subst hB
  obtain ⟨hP, hD⟩ := va_join (wr := []) (w1 := []) hP hD [0, 1, 2, 3, 4, 5, 6, 7] [] rfl rfl (by decide) (by decide) hk1 hFc (fun k q h => by simp at h) ⟨fun i j p q h => by simp at h, fun k q h => by simp at h⟩
  have hP : va_P g.1 vwCl [] H := hP
  have hD : va_D A [] := hD
  refine vx_catch (own := RL) (name := "java/lang/IllegalStateException") hown [⟨0, 17, 20, 21⟩] ⟨0, 17, 24, 15⟩ [] (by rw [htab]; rfl) (fun z hz => by rcases List.mem_singleton.mp hz with rfl; exact Or.inr ⟨by decide, "java/lang/IndexOutOfBoundsException", (hts (.classLink RL 21 "java/lang/IndexOutOfBoundsException") (List.mem_of_getElem? (i := 84) rfl)), hE.nc ("java/lang/IllegalStateException", "java/lang/IndexOutOfBoundsException") (by decide)⟩) (by decide) (by decide) (hts (.classLink RL 15 "java/lang/IllegalStateException") (List.mem_of_getElem? (i := 85) rfl)) (va_Nw.use rfl (hE.cast ("java/lang/IllegalStateException", "java/lang/IllegalStateException") (by decide))) hc1 hc2 hc3 ?_
  refine lv_astore (lv' := [(4, .ref q9), (0, .ref h0), (1, .int v0), (2, .int 0), (3, .ref h1)]) hx hb dL_canStill_24 hl (by decide) rfl (fun ls hl => ?_)
  refine lv_iconst (v := 2) hx hb dL_canStill_26 (by decide) ?_
  have hP9 := hP.sub (ws' := []) [] rfl
  have hD9 := hD.sub (ws' := []) [] (by decide) rfl
  subst hAe
  exact W.iret (v := 2) hx hb hr (fun t ht hW => ⟨⟨2, (), rfl, rfl, by rw [ht]; exact hP9, hD9⟩, hS.F ht⟩) hS.2.2 dL_canStill_27
def w9_X21_canStill_5 : List Cond := [.code yX21_canStill cX21_canStill 10 (some .boolean), .methodLink RX21 550 yX21_notRegular, .instanceMethod yX21_notRegular, .selects RX21 yX21_notRegular yX21_notRegular, .initialized RX21, .code yX21_notRegular cX21_notRegular 4 (some .int), .methodLink RX21 416 yX21_unknownPlace, .instanceMethod yX21_unknownPlace, .selects RX21 yX21_unknownPlace yX21_unknownPlace, .code yX21_unknownPlace cX21_unknownPlace 4 (some .int), .methodLink RX21 160 yX21_in, .static yX21_in, .code yX21_in cX21_in 3 (some .boolean), .fieldLink RX21 196 "RegexloomModel" "length" "I", .fieldLink RX21 90 "RegexloomModel" "patterns" "[LRegexloomModel$Pattern;", .methodLink RX21 154 yX21_refused, .instanceMethod yX21_refused, .selects RX21 yX21_refused yX21_refused, .code yX21_refused cX21_refused 2 (some .boolean), .fieldLink RX21 144 "RegexloomModel" "refusal" "I"] ++ (u_ws RX21 TX21 32)
set_option maxRecDepth 20000 in
theorem in9_X21_canStill_5_RX21 : ∀ w ∈ u_ws RX21 TX21 32, w ∈ w9_X21_canStill_5 := by decide +kernel
set_option maxRecDepth 20000 in
theorem g9_X21_canStill_5_0 : GoodIn w9_X21_canStill_5 (wsV RX21 550 RX21 yX21_notRegular w9_X21_notRegular_5) := goodIn_r _ [1, 2, 3, 4, 5, 6, 7, 8, 4, 9, 10, 11, 12, 13, 14, 20, 21, 22, 23, 24, 25, 26, 27, 28, 29, 30, 31, 32, 33, 34, 35, 36, 37, 38, 39, 40, 41, 42, 43, 44, 45, 46, 47, 48, 49, 50, 51] (by decide +kernel) (by decide +kernel)
set_option maxRecDepth 20000 in
theorem g9_X21_canStill_5_1 : GoodIn w9_X21_canStill_5 (wsV RX21 154 RX21 yX21_refused w9_X21_refused_3) := goodIn_r _ [15, 16, 17, 4, 18, 19, 20, 21, 22, 23, 24, 25, 26, 27, 28, 29, 30, 31, 32, 33, 34, 35, 36, 37, 38, 39, 40, 41, 42, 43, 44, 45, 46, 47, 48, 49, 50, 51] (by decide +kernel) (by decide +kernel)
set_option maxHeartbeats 4000000 in
set_option maxRecDepth 100000 in
theorem c9_X21_canStill_5 (l : Launch) (g : G9) (h0 h1 h2 h3 h4 h5 h6 h7 h8 h9 h10 h11 h12 h13 h14 h15 h16 sz : Nat) (v0 : Int32) (k_v0 : 0 ≤ v0.toInt ∧ v0.toInt ≤ 3) : Met l yX21_canStill w9_X21_canStill_5 ({ frames := 3, cells := 0, slots := 0, locals := 68 }) (mP g [(h0, .inr (22, [.int 0, .ref h1, .int 0, .ref h2, .int 0, .ref h3, .int 250, .ref h4, .int 0, .ref h5, .ref h6, .ref h7, .int 0, .ref h8, .ref h9, .ref h10, .int 0, .null, .int 0, .null, .int 0, .int 0, .int 0, .ref h11, .int 0, .ref h12, .ref h13, .ref h14, .int 0, .ref h15, .ref h16, .int 0])), (h3, .inl (g.2.1 4, 4, .inr (.inr (.inr (.inr (fun _ => none))))))] sz [.ref h0, .int v0, .int 0]) (va_Qi (fun (r : Int32) (_ : Unit) => r = 0) (fun (_ : Unit) (t : State) => mB g [(h0, .inr (22, [.int 0, .ref h1, .int 0, .ref h2, .int 0, .ref h3, .int 250, .ref h4, .int 0, .ref h5, .ref h6, .ref h7, .int 0, .ref h8, .ref h9, .ref h10, .int 0, .null, .int 0, .null, .int 0, .int 0, .int 0, .ref h11, .int 0, .ref h12, .ref h13, .ref h14, .int 0, .ref h15, .ref h16, .int 0])), (h3, .inl (g.2.1 4, 4, .inr (.inr (.inr (.inr (fun _ => none))))))] sz [(h0, .inr (22, [.int 2, .ref h1, .int 0, .ref h2, .int 0, .ref h3, .int 250, .ref h4, .int 0, .ref h5, .ref h6, .ref h7, .int 0, .ref h8, .ref h9, .ref h10, .int 0, .null, .int 0, .null, .int 0, .int 0, .int 0, .ref h11, .int 0, .ref h12, .ref h13, .ref h14, .int 0, .ref h15, .ref h16, .int 0])), (h3, .inl (g.2.1 4, 4, .inr (.inr (.inr (.inr (fun _ => none))))))] t) (va_A [(h0, .inr (22, [.int 0, .ref h1, .int 0, .ref h2, .int 0, .ref h3, .int 250, .ref h4, .int 0, .ref h5, .ref h6, .ref h7, .int 0, .ref h8, .ref h9, .ref h10, .int 0, .null, .int 0, .null, .int 0, .int 0, .int 0, .ref h11, .int 0, .ref h12, .ref h13, .ref h14, .int 0, .ref h15, .ref h16, .int 0])), (h3, .inl (g.2.1 4, 4, .inr (.inr (.inr (.inr (fun _ => none))))))] sz)) 0 0 (va_A [(h0, .inr (22, [.int 0, .ref h1, .int 0, .ref h2, .int 0, .ref h3, .int 250, .ref h4, .int 0, .ref h5, .ref h6, .ref h7, .int 0, .ref h8, .ref h9, .ref h10, .int 0, .null, .int 0, .null, .int 0, .int 0, .int 0, .ref h11, .int 0, .ref h12, .ref h13, .ref h14, .int 0, .ref h15, .ref h16, .int 0])), (h3, .inl (g.2.1 4, 4, .inr (.inr (.inr (.inr (fun _ => none))))))] sz) := by
  refine Met.ofW (cc := cX21_canStill) (maxL := 10) (ret := (some .boolean)) (by decide) rfl ?_
  intro p e s m args below meth c s₁ B hml hv
  obtain ⟨rfl, hsz, hP, hD0, hE⟩ := hv
  have hx := B.exec
  have hb := B.bytes
  have hr := B.returns
  have hts := atoms_spec (ws := w9_X21_canStill_5) B.pre
  have hown : s.vm.findClass RX21 = some m.cls := findClass_of_methodNamed B.named
  have hlocks := B.notSynchronized
  subst hsz
  have hD := hD0.self (sz := s.heap.size)
  generalize hAe : va_A [(h0, .inr (22, [.int 0, .ref h1, .int 0, .ref h2, .int 0, .ref h3, .int 250, .ref h4, .int 0, .ref h5, .ref h6, .ref h7, .int 0, .ref h8, .ref h9, .ref h10, .int 0, .null, .int 0, .null, .int 0, .int 0, .int 0, .ref h11, .int 0, .ref h12, .ref h13, .ref h14, .int 0, .ref h15, .ref h16, .int 0])), (h3, .inl (g.2.1 4, 4, .inr (.inr (.inr (.inr (fun _ => none))))))] s.heap.size = A at hD hE ⊢
  have hA : ∀ q : Nat, s.heap.size ≤ q → A q := fun q h => by rw [← hAe]; exact Or.inr h
  have hK := hE.1
  have hS : va_S A s.heap s.heap [] := va_S.rf
  replace hP : va_P g.1 vwCl [(h0, .inr (22, [.int 0, .ref h1, .int 0, .ref h2, .int 0, .ref h3, .int 250, .ref h4, .int 0, .ref h5, .ref h6, .ref h7, .int 0, .ref h8, .ref h9, .ref h10, .int 0, .null, .int 0, .null, .int 0, .int 0, .int 0, .ref h11, .int 0, .ref h12, .ref h13, .ref h14, .int 0, .ref h15, .ref h16, .int 0])), (h3, .inl (g.2.1 4, 4, .inr (.inr (.inr (.inr (fun _ => none))))))] s.heap := hP
  have hl := lv_entry ([.ref h0, .int v0, .int 0]) (n := 10) (Nat.le_of_ble_eq_true rfl)
  rw [lg_entry_eq]
  generalize (lg_sl ([.ref h0, .int v0, .int 0]) ++ List.replicate (10 - (lg_sl ([.ref h0, .int v0, .int 0])).length) Slot.unset).toArray = ls at hl ⊢
  replace hl : lv_has ls 10 [(0, .ref h0), (1, .int v0), (2, .int 0)] := hl
  have hH0 : s.heap.size ≤ s.heap.size := Nat.le_refl _
  refine lv_aload_n hx hb dX21_canStill_0 rfl (lv_at hl 0 rfl) ?_
  refine lv_aload_n hx hb dX21_canStill_1 rfl (lv_at hl 0 rfl) ?_
  refine lv_iload_n hx hb dX21_canStill_2 rfl (lv_at hl 1 rfl) ?_
  refine lv_iload_n hx hb dX21_canStill_3 rfl (lv_at hl 2 rfl) ?_
  have hPc := hP.sub (ws' := [(h0, .inr (22, [.int 0, .ref h1, .int 0, .ref h2, .int 0, .ref h3, .int 250, .ref h4, .int 0, .ref h5, .ref h6, .ref h7, .int 0, .ref h8, .ref h9, .ref h10, .int 0, .null, .int 0, .null, .int 0, .int 0, .int 0, .ref h11, .int 0, .ref h12, .ref h13, .ref h14, .int 0, .ref h15, .ref h16, .int 0])), (h3, .inl (g.2.1 4, 4, .inr (.inr (.inr (.inr (fun _ => none))))))]) [0, 1] rfl
  have hDc := hD.sub (ws' := [(h0, .inr (22, [.int 0, .ref h1, .int 0, .ref h2, .int 0, .ref h3, .int 250, .ref h4, .int 0, .ref h5, .ref h6, .ref h7, .int 0, .ref h8, .ref h9, .ref h10, .int 0, .null, .int 0, .null, .int 0, .int 0, .int 0, .ref h11, .int 0, .ref h12, .ref h13, .ref h14, .int 0, .ref h15, .ref h16, .int 0])), (h3, .inl (g.2.1 4, 4, .inr (.inr (.inr (.inr (fun _ => none))))))]) [0, 1] (by decide) rfl
  have hFc := va_free (wc := [(h0, .inr (22, [.int 0, .ref h1, .int 0, .ref h2, .int 0, .ref h3, .int 250, .ref h4, .int 0, .ref h5, .ref h6, .ref h7, .int 0, .ref h8, .ref h9, .ref h10, .int 0, .null, .int 0, .null, .int 0, .int 0, .int 0, .ref h11, .int 0, .ref h12, .ref h13, .ref h14, .int 0, .ref h15, .ref h16, .int 0])), (h3, .inl (g.2.1 4, 4, .inr (.inr (.inr (.inr (fun _ => none))))))]) hD hS hA [0, 1] rfl
  refine va_calli (va_runV (As := [.int v0, .int 0]) (rest := [.ref h0]) ⟨hx, hb, hml, hown, hts⟩ (c9_X21_notRegular_5 l g h0 h1 h2 h3 h4 h5 h6 h7 h8 h9 h10 h11 h12 h13 h14 h15 h16 _ v0 (by omega)) (cwV 2 hts g9_X21_canStill_5_0 rfl rfl rfl (by decide +kernel) ⟨Nat.le_of_ble_eq_true rfl, Nat.le_of_ble_eq_true rfl⟩) (mPreV (g := g) (wc := [(h0, .inr (22, [.int 0, .ref h1, .int 0, .ref h2, .int 0, .ref h3, .int 250, .ref h4, .int 0, .ref h5, .ref h6, .ref h7, .int 0, .ref h8, .ref h9, .ref h10, .int 0, .null, .int 0, .null, .int 0, .int 0, .int 0, .ref h11, .int 0, .ref h12, .ref h13, .ref h14, .int 0, .ref h15, .ref h16, .int 0])), (h3, .inl (g.2.1 4, 4, .inr (.inr (.inr (.inr (fun _ => none))))))]) (C := RX21) (ci := 22) (q0 := 0) hE hS hPc hDc hFc rfl rfl) rfl rfl hl.1 rfl (lv_room (Nat.le_of_ble_eq_true rfl)) dX21_canStill_4 ⟨Nat.le_of_ble_eq_true rfl, Nat.le_of_ble_eq_true rfl⟩) hS (fun q _ h => hFc q h) hFc (fun r_1 u t H1 locs ht hvm hw hB hz1 hk1 hS => ?_)
  replace hw : 2 = r_1 := Eq.symm hw
  subst hw
  obtain ⟨hP1, hD1⟩ := hB
  rw [ht] at hP1
  obtain ⟨hP, hD⟩ := va_join (wr := []) (w1 := [(h0, .inr (22, [.int 0, .ref h1, .int 0, .ref h2, .int 0, .ref h3, .int 250, .ref h4, .int 0, .ref h5, .ref h6, .ref h7, .int 0, .ref h8, .ref h9, .ref h10, .int 0, .null, .int 0, .null, .int 0, .int 0, .int 0, .ref h11, .int 0, .ref h12, .ref h13, .ref h14, .int 0, .ref h15, .ref h16, .int 0])), (h3, .inl (g.2.1 4, 4, .inr (.inr (.inr (.inr (fun _ => none))))))]) hP hD [0, 1] [] rfl rfl (by decide) (by decide) hk1 hFc hP1 hD1
  clear hP1 hD1 hPc hDc hFc hk1 hz1 hvm ht
  generalize H1 = H at hP hS ⊢
  have hP : va_P g.1 vwCl [(h0, .inr (22, [.int 0, .ref h1, .int 0, .ref h2, .int 0, .ref h3, .int 250, .ref h4, .int 0, .ref h5, .ref h6, .ref h7, .int 0, .ref h8, .ref h9, .ref h10, .int 0, .null, .int 0, .null, .int 0, .int 0, .int 0, .ref h11, .int 0, .ref h12, .ref h13, .ref h14, .int 0, .ref h15, .ref h16, .int 0])), (h3, .inl (g.2.1 4, 4, .inr (.inr (.inr (.inr (fun _ => none))))))] H := hP
  have hD : va_D A [(h0, .inr (22, [.int 0, .ref h1, .int 0, .ref h2, .int 0, .ref h3, .int 250, .ref h4, .int 0, .ref h5, .ref h6, .ref h7, .int 0, .ref h8, .ref h9, .ref h10, .int 0, .null, .int 0, .null, .int 0, .int 0, .int 0, .ref h11, .int 0, .ref h12, .ref h13, .ref h14, .int 0, .ref h15, .ref h16, .int 0])), (h3, .inl (g.2.1 4, 4, .inr (.inr (.inr (.inr (fun _ => none))))))] := hD
  have hPc := hP.sub (ws' := [(h0, .inr (22, [.int 0, .ref h1, .int 0, .ref h2, .int 0, .ref h3, .int 250, .ref h4, .int 0, .ref h5, .ref h6, .ref h7, .int 0, .ref h8, .ref h9, .ref h10, .int 0, .null, .int 0, .null, .int 0, .int 0, .int 0, .ref h11, .int 0, .ref h12, .ref h13, .ref h14, .int 0, .ref h15, .ref h16, .int 0]))]) [0] rfl
  have hDc := hD.sub (ws' := [(h0, .inr (22, [.int 0, .ref h1, .int 0, .ref h2, .int 0, .ref h3, .int 250, .ref h4, .int 0, .ref h5, .ref h6, .ref h7, .int 0, .ref h8, .ref h9, .ref h10, .int 0, .null, .int 0, .null, .int 0, .int 0, .int 0, .ref h11, .int 0, .ref h12, .ref h13, .ref h14, .int 0, .ref h15, .ref h16, .int 0]))]) [0] (by decide) rfl
  have hFc := va_free (wc := [(h0, .inr (22, [.int 0, .ref h1, .int 0, .ref h2, .int 0, .ref h3, .int 250, .ref h4, .int 0, .ref h5, .ref h6, .ref h7, .int 0, .ref h8, .ref h9, .ref h10, .int 0, .null, .int 0, .null, .int 0, .int 0, .int 0, .ref h11, .int 0, .ref h12, .ref h13, .ref h14, .int 0, .ref h15, .ref h16, .int 0]))]) hD hS hA [0] rfl
  refine va_calli (va_runV (As := [.int 2]) (rest := []) ⟨hx, hb, hml, hown, hts⟩ (c9_X21_refused_3 l g h0 h1 h2 h3 h4 h5 h6 h7 h8 h9 h10 h11 h12 h13 h14 h15 h16 _) (cwV 1 hts g9_X21_canStill_5_1 rfl rfl rfl (by decide +kernel) ⟨Nat.le_of_ble_eq_true rfl, Nat.le_of_ble_eq_true rfl⟩) (mPreV (g := g) (wc := [(h0, .inr (22, [.int 0, .ref h1, .int 0, .ref h2, .int 0, .ref h3, .int 250, .ref h4, .int 0, .ref h5, .ref h6, .ref h7, .int 0, .ref h8, .ref h9, .ref h10, .int 0, .null, .int 0, .null, .int 0, .int 0, .int 0, .ref h11, .int 0, .ref h12, .ref h13, .ref h14, .int 0, .ref h15, .ref h16, .int 0]))]) (C := RX21) (ci := 22) (q0 := 0) hE hS hPc hDc hFc rfl rfl) rfl rfl hl.1 rfl (lv_room (Nat.le_of_ble_eq_true rfl)) dX21_canStill_7 ⟨Nat.le_of_ble_eq_true rfl, Nat.le_of_ble_eq_true rfl⟩) hS (fun q _ h => hFc q h) hFc (fun r_2 u t H1 locs ht hvm hw hB hz1 hk1 hS => ?_)
  replace hw : 1 = r_2 := Eq.symm hw
  subst hw
  obtain ⟨hP1, hD1⟩ := hB
  rw [ht] at hP1
  obtain ⟨hP, hD⟩ := va_join (wr := [(h3, .inl (g.2.1 4, 4, .inr (.inr (.inr (.inr (fun _ => none))))))]) (w1 := [(h0, .inr (22, [.int 2, .ref h1, .int 0, .ref h2, .int 0, .ref h3, .int 250, .ref h4, .int 0, .ref h5, .ref h6, .ref h7, .int 0, .ref h8, .ref h9, .ref h10, .int 0, .null, .int 0, .null, .int 0, .int 0, .int 0, .ref h11, .int 0, .ref h12, .ref h13, .ref h14, .int 0, .ref h15, .ref h16, .int 0]))]) hP hD [0] [1] rfl rfl (by decide) (by decide) hk1 hFc hP1 hD1
  clear hP1 hD1 hPc hDc hFc hk1 hz1 hvm ht
  generalize H1 = H at hP hS ⊢
  have hP : va_P g.1 vwCl [(h3, .inl (g.2.1 4, 4, .inr (.inr (.inr (.inr (fun _ => none)))))), (h0, .inr (22, [.int 2, .ref h1, .int 0, .ref h2, .int 0, .ref h3, .int 250, .ref h4, .int 0, .ref h5, .ref h6, .ref h7, .int 0, .ref h8, .ref h9, .ref h10, .int 0, .null, .int 0, .null, .int 0, .int 0, .int 0, .ref h11, .int 0, .ref h12, .ref h13, .ref h14, .int 0, .ref h15, .ref h16, .int 0]))] H := hP
  have hD : va_D A [(h3, .inl (g.2.1 4, 4, .inr (.inr (.inr (.inr (fun _ => none)))))), (h0, .inr (22, [.int 2, .ref h1, .int 0, .ref h2, .int 0, .ref h3, .int 250, .ref h4, .int 0, .ref h5, .ref h6, .ref h7, .int 0, .ref h8, .ref h9, .ref h10, .int 0, .null, .int 0, .null, .int 0, .int 0, .int 0, .ref h11, .int 0, .ref h12, .ref h13, .ref h14, .int 0, .ref h15, .ref h16, .int 0]))] := hD
  refine lv_if_eq (tgt := 15) hx hb dX21_canStill_10 (by decide) (fun c9 => absurd c9 (by decide)) (fun _ => ?_)
  refine lv_iconst (v := 0) hx hb dX21_canStill_13 (by decide) ?_
  have hP9 := hP.sub (ws' := [(h0, .inr (22, [.int 2, .ref h1, .int 0, .ref h2, .int 0, .ref h3, .int 250, .ref h4, .int 0, .ref h5, .ref h6, .ref h7, .int 0, .ref h8, .ref h9, .ref h10, .int 0, .null, .int 0, .null, .int 0, .int 0, .int 0, .ref h11, .int 0, .ref h12, .ref h13, .ref h14, .int 0, .ref h15, .ref h16, .int 0])), (h3, .inl (g.2.1 4, 4, .inr (.inr (.inr (.inr (fun _ => none))))))]) [1, 0] rfl
  have hD9 := hD.sub (ws' := [(h0, .inr (22, [.int 2, .ref h1, .int 0, .ref h2, .int 0, .ref h3, .int 250, .ref h4, .int 0, .ref h5, .ref h6, .ref h7, .int 0, .ref h8, .ref h9, .ref h10, .int 0, .null, .int 0, .null, .int 0, .int 0, .int 0, .ref h11, .int 0, .ref h12, .ref h13, .ref h14, .int 0, .ref h15, .ref h16, .int 0])), (h3, .inl (g.2.1 4, 4, .inr (.inr (.inr (.inr (fun _ => none))))))]) [1, 0] (by decide) rfl
  subst hAe
  exact W.zret (v := 0) hx hb hr (by decide) (fun t ht hW => ⟨⟨0, (), rfl, rfl, by rw [ht]; exact hP9, hD9⟩, hS.F ht⟩) hS.2.2 dX21_canStill_14
def w9_X11_group_1 : List Cond := [.code yX11_group cX11_group 3 (some .int), .initialized "java/lang/Throwable", .superclass "java/lang/Throwable" "java/lang/Object", .instanceMethod Bundle.tFill, .codeSync Bundle.tFill LibCode.Throwable.Fill.code 1 (some (.object "java/lang/Throwable")), .instanceMethod Bundle.tFill0, .native Bundle.tFill0, .instanceMethod Bundle.tInit0, .code Bundle.tInit0 LibCode.Throwable.Init0.code 1 none, .instanceMethod Bundle.oInit, .code Bundle.oInit ⟨#[0xb1]⟩ 1 none, .methodLink "java/lang/Throwable" 1 Bundle.oInit, .methodLink "java/lang/Throwable" 27 Bundle.tFill, .methodLink "java/lang/Throwable" 202 Bundle.tFill0, .fieldLink "java/lang/Throwable" 7 "java/lang/Throwable" "cause" "Ljava/lang/Throwable;", .lays "java/lang/Throwable" "java/lang/Throwable" "cause" "Ljava/lang/Throwable;", .fieldLink "java/lang/Throwable" 17 "java/lang/Throwable" "stackTrace" "[Ljava/lang/StackTraceElement;", .lays "java/lang/Throwable" "java/lang/Throwable" "stackTrace" "[Ljava/lang/StackTraceElement;", .fieldLink "java/lang/Throwable" 24 "java/lang/Throwable" "suppressedExceptions" "Ljava/util/List;", .lays "java/lang/Throwable" "java/lang/Throwable" "suppressedExceptions" "Ljava/util/List;", .fieldLink "java/lang/Throwable" 13 "java/lang/Throwable" "UNASSIGNED_STACK" "[Ljava/lang/StackTraceElement;", .fieldLink "java/lang/Throwable" 20 "java/lang/Throwable" "SUPPRESSED_SENTINEL" "Ljava/util/List;", .lays "java/lang/Throwable" "java/lang/Throwable" "detailMessage" "Ljava/lang/String;", .instanceMethod (Bundle.initS "java/lang/Throwable"), .code (Bundle.initS "java/lang/Throwable") LibCode.Throwable.InitS.code 2 none, .fieldLink "java/lang/Throwable" 31 "java/lang/Throwable" "detailMessage" "Ljava/lang/String;", .instanceMethod (Bundle.initS "java/lang/IndexOutOfBoundsException"), .code (Bundle.initS "java/lang/IndexOutOfBoundsException") Bundle.six 2 none, .methodLink "java/lang/IndexOutOfBoundsException" 7 (Bundle.initS "java/lang/RuntimeException"), .instanceMethod (Bundle.initS "java/lang/RuntimeException"), .code (Bundle.initS "java/lang/RuntimeException") Bundle.six 2 none, .methodLink "java/lang/RuntimeException" 7 (Bundle.initS "java/lang/Exception"), .instanceMethod (Bundle.initS "java/lang/Exception"), .code (Bundle.initS "java/lang/Exception") Bundle.six 2 none, .methodLink "java/lang/Exception" 7 (Bundle.initS "java/lang/Throwable"), .methodLink RX11 224 (Bundle.initS "java/lang/IndexOutOfBoundsException"), .instantiable "java/lang/IndexOutOfBoundsException" 6, .selects "java/lang/IndexOutOfBoundsException" Bundle.tFill0 Bundle.tFill0, .selects "java/lang/IndexOutOfBoundsException" Bundle.tFill Bundle.tFill, .lays "java/lang/IndexOutOfBoundsException" "java/lang/Throwable" "cause" "Ljava/lang/Throwable;", .lays "java/lang/IndexOutOfBoundsException" "java/lang/Throwable" "stackTrace" "[Ljava/lang/StackTraceElement;", .lays "java/lang/IndexOutOfBoundsException" "java/lang/Throwable" "suppressedExceptions" "Ljava/util/List;", .lays "java/lang/IndexOutOfBoundsException" "java/lang/Throwable" "detailMessage" "Ljava/lang/String;", .fieldLink "java/lang/Throwable" 198 "java/lang/Throwable" "backtrace" "Ljava/lang/Object;", .lays "java/lang/Throwable" "java/lang/Throwable" "backtrace" "Ljava/lang/Object;", .lays "java/lang/IndexOutOfBoundsException" "java/lang/Throwable" "backtrace" "Ljava/lang/Object;", .classLink RX11 220 "java/lang/IndexOutOfBoundsException", .initialized "java/lang/IndexOutOfBoundsException"]
set_option maxHeartbeats 4000000 in
set_option maxRecDepth 100000 in
theorem c9_X11_group_1 (l : Launch) (hlt : l.stackTraces = false) (g : G9) (h0 h1 h2 h3 h4 h5 h6 h7 h8 h9 h10 h11 h12 h13 sz : Nat) (v0 : Int32) (k_v0 : (-2147483648) ≤ v0.toInt ∧ v0.toInt ≤ (-1)) : vx_Met l yX11_group w9_X11_group_1 ({ frames := 6, cells := 1, slots := 6, locals := 82 }) (mP g [(h0, .inr (12, [.ref h1, .int 0, .ref h2, .ref h3, .ref h4, .ref h5, .ref h6, .ref h7, .int (-1), .ref h8, .ref h9, .int 250, .ref h10, .int 0, .ref h11, .ref h12, .ref h13]))] sz [.ref h0, .int v0, .int 1]) (va_Qv (fun _ : Unit => False) (fun _ _ => True) (va_A [(h0, .inr (12, [.ref h1, .int 0, .ref h2, .ref h3, .ref h4, .ref h5, .ref h6, .ref h7, .int (-1), .ref h8, .ref h9, .int 250, .ref h10, .int 0, .ref h11, .ref h12, .ref h13]))] sz)) (mT g [(h0, .inr (12, [.ref h1, .int 0, .ref h2, .ref h3, .ref h4, .ref h5, .ref h6, .ref h7, .int (-1), .ref h8, .ref h9, .int 250, .ref h10, .int 0, .ref h11, .ref h12, .ref h13]))] sz "java/lang/IndexOutOfBoundsException") 1 6 (va_A [(h0, .inr (12, [.ref h1, .int 0, .ref h2, .ref h3, .ref h4, .ref h5, .ref h6, .ref h7, .int (-1), .ref h8, .ref h9, .int 250, .ref h10, .int 0, .ref h11, .ref h12, .ref h13]))] sz) := by
  refine vx_ofW (cc := cX11_group) (maxL := 3) (ret := (some .int)) (by decide) rfl ?_
  intro p e s m args below meth c s₁ B hml hno hv
  obtain ⟨rfl, hsz, hP, hD0, hE⟩ := hv
  have hx := B.exec
  have hb := B.bytes
  have hr := B.returns
  have hts := atoms_spec (ws := w9_X11_group_1) B.pre
  have hown : s.vm.findClass RX11 = some m.cls := findClass_of_methodNamed B.named
  have hlocks := B.notSynchronized
  subst hsz
  have hD := hD0.self (sz := s.heap.size)
  generalize hAe : va_A [(h0, .inr (12, [.ref h1, .int 0, .ref h2, .ref h3, .ref h4, .ref h5, .ref h6, .ref h7, .int (-1), .ref h8, .ref h9, .int 250, .ref h10, .int 0, .ref h11, .ref h12, .ref h13]))] s.heap.size = A at hD hE ⊢
  have hA : ∀ q : Nat, s.heap.size ≤ q → A q := fun q h => by rw [← hAe]; exact Or.inr h
  have hK := hE.1
  have hS : va_S A s.heap s.heap [] := va_S.rf
  replace hP : va_P g.1 vwCl [(h0, .inr (12, [.ref h1, .int 0, .ref h2, .ref h3, .ref h4, .ref h5, .ref h6, .ref h7, .int (-1), .ref h8, .ref h9, .int 250, .ref h10, .int 0, .ref h11, .ref h12, .ref h13]))] s.heap := hP
  have hl := lv_entry ([.ref h0, .int v0, .int 1]) (n := 3) (Nat.le_of_ble_eq_true rfl)
  rw [lg_entry_eq]
  generalize (lg_sl ([.ref h0, .int v0, .int 1]) ++ List.replicate (3 - (lg_sl ([.ref h0, .int v0, .int 1])).length) Slot.unset).toArray = ls at hl ⊢
  replace hl : lv_has ls 3 [(0, .ref h0), (1, .int v0), (2, .int 1)] := hl
  have hH0 : s.heap.size ≤ s.heap.size := Nat.le_refl _
  refine lv_iload_n hx hb dX11_group_0 rfl (lv_at hl 1 rfl) ?_
  refine lv_if_lt (tgt := 10) hx hb dX11_group_1 (by decide) (fun _ => ?_) (fun c9 => absurd (by simp only [Int32.lt_iff_toInt_lt, Int32.le_iff_toInt_le, ← Int32.toInt_inj, show (0 : Int32).toInt = 0 from by decide]; omega) c9)
  obtain ⟨sa, hsa⟩ := hE.str (222, "no such group") (by decide)
  exact vx_throwS (names := ["java/lang/RuntimeException", "java/lang/Exception"]) (A := A) hx hb hlt hown (by decide) (by decide) (hts (.classLink RX11 220 "java/lang/IndexOutOfBoundsException") (List.mem_of_getElem? (i := 46) rfl)) (hts (.initialized "java/lang/IndexOutOfBoundsException") (List.mem_of_getElem? (i := 47) rfl)) hsa (vx_hat (B := [.castable "java/lang/IndexOutOfBoundsException" "java/lang/IndexOutOfBoundsException", .declares (Bundle.initS "java/lang/RuntimeException"), .declares (Bundle.initS "java/lang/Exception"), .declares (Bundle.initS "java/lang/Throwable")]) (fun w9 hw9 => hts w9 (by revert w9; decide +kernel)) (by decide +kernel) (vx_c (va_Nw.use rfl (hE.cast ("java/lang/IndexOutOfBoundsException", "java/lang/IndexOutOfBoundsException") (by decide))) (vx_c (va_Nw.use rfl (hE.decl _ (by decide))) (vx_c (va_Nw.use rfl (hE.decl _ (by decide))) (vx_c (va_Nw.use rfl (hE.decl _ (by decide))) vx_n))))) (by decide +kernel) hE.zu hE.zn hS (by rw [hml]; exact hl.1) dX11_group_10 dX11_group_13 dX11_group_14 dX11_group_16 dX11_group_19 (fun z hz => (hno z hz).elim) (Nat.le_of_ble_eq_true rfl) (Nat.le_of_ble_eq_true rfl) (Nat.le_of_ble_eq_true rfl) (Nat.le_of_ble_eq_true rfl) hlocks (fun t hW hz ho => ⟨(), trivial, rfl, by subst hAe; exact ⟨Nat.le_trans hS.1 hz, fun q h1 h2 => (ho q (Nat.lt_of_lt_of_le h1 hS.1)).trans (hS.2.1 q h1 h2)⟩⟩) (fun z hz => by subst hAe; exact hS.2.2 z hz) (Nat.le_of_ble_eq_true rfl) (Nat.le_of_ble_eq_true rfl)
def w9_L_group_1 : List Cond := [.codeWith yL_group cL_group 5 (some .int) [(0, 10, 13, 21)], .methodLink RL 47 yX11_group, .instanceMethod yX11_group, .selects RX11 yX11_group yX11_group, .initialized RX11, .code yX11_group cX11_group 3 (some .int), .initialized "java/lang/Throwable", .superclass "java/lang/Throwable" "java/lang/Object", .instanceMethod Bundle.tFill, .codeSync Bundle.tFill LibCode.Throwable.Fill.code 1 (some (.object "java/lang/Throwable")), .instanceMethod Bundle.tFill0, .native Bundle.tFill0, .instanceMethod Bundle.tInit0, .code Bundle.tInit0 LibCode.Throwable.Init0.code 1 none, .instanceMethod Bundle.oInit, .code Bundle.oInit ⟨#[0xb1]⟩ 1 none, .methodLink "java/lang/Throwable" 1 Bundle.oInit, .methodLink "java/lang/Throwable" 27 Bundle.tFill, .methodLink "java/lang/Throwable" 202 Bundle.tFill0, .fieldLink "java/lang/Throwable" 7 "java/lang/Throwable" "cause" "Ljava/lang/Throwable;", .lays "java/lang/Throwable" "java/lang/Throwable" "cause" "Ljava/lang/Throwable;", .fieldLink "java/lang/Throwable" 17 "java/lang/Throwable" "stackTrace" "[Ljava/lang/StackTraceElement;", .lays "java/lang/Throwable" "java/lang/Throwable" "stackTrace" "[Ljava/lang/StackTraceElement;", .fieldLink "java/lang/Throwable" 24 "java/lang/Throwable" "suppressedExceptions" "Ljava/util/List;", .lays "java/lang/Throwable" "java/lang/Throwable" "suppressedExceptions" "Ljava/util/List;", .fieldLink "java/lang/Throwable" 13 "java/lang/Throwable" "UNASSIGNED_STACK" "[Ljava/lang/StackTraceElement;", .fieldLink "java/lang/Throwable" 20 "java/lang/Throwable" "SUPPRESSED_SENTINEL" "Ljava/util/List;", .lays "java/lang/Throwable" "java/lang/Throwable" "detailMessage" "Ljava/lang/String;", .instanceMethod (Bundle.initS "java/lang/Throwable"), .code (Bundle.initS "java/lang/Throwable") LibCode.Throwable.InitS.code 2 none, .fieldLink "java/lang/Throwable" 31 "java/lang/Throwable" "detailMessage" "Ljava/lang/String;", .instanceMethod (Bundle.initS "java/lang/IndexOutOfBoundsException"), .code (Bundle.initS "java/lang/IndexOutOfBoundsException") Bundle.six 2 none, .methodLink "java/lang/IndexOutOfBoundsException" 7 (Bundle.initS "java/lang/RuntimeException"), .instanceMethod (Bundle.initS "java/lang/RuntimeException"), .code (Bundle.initS "java/lang/RuntimeException") Bundle.six 2 none, .methodLink "java/lang/RuntimeException" 7 (Bundle.initS "java/lang/Exception"), .instanceMethod (Bundle.initS "java/lang/Exception"), .code (Bundle.initS "java/lang/Exception") Bundle.six 2 none, .methodLink "java/lang/Exception" 7 (Bundle.initS "java/lang/Throwable"), .methodLink RX11 224 (Bundle.initS "java/lang/IndexOutOfBoundsException"), .instantiable "java/lang/IndexOutOfBoundsException" 6, .selects "java/lang/IndexOutOfBoundsException" Bundle.tFill0 Bundle.tFill0, .selects "java/lang/IndexOutOfBoundsException" Bundle.tFill Bundle.tFill, .lays "java/lang/IndexOutOfBoundsException" "java/lang/Throwable" "cause" "Ljava/lang/Throwable;", .lays "java/lang/IndexOutOfBoundsException" "java/lang/Throwable" "stackTrace" "[Ljava/lang/StackTraceElement;", .lays "java/lang/IndexOutOfBoundsException" "java/lang/Throwable" "suppressedExceptions" "Ljava/util/List;", .lays "java/lang/IndexOutOfBoundsException" "java/lang/Throwable" "detailMessage" "Ljava/lang/String;", .fieldLink "java/lang/Throwable" 198 "java/lang/Throwable" "backtrace" "Ljava/lang/Object;", .lays "java/lang/Throwable" "java/lang/Throwable" "backtrace" "Ljava/lang/Object;", .lays "java/lang/IndexOutOfBoundsException" "java/lang/Throwable" "backtrace" "Ljava/lang/Object;", .classLink RX11 220 "java/lang/IndexOutOfBoundsException", .initialized "java/lang/IndexOutOfBoundsException", .classLink RL 21 "java/lang/IndexOutOfBoundsException"]
set_option maxRecDepth 20000 in
theorem g9_L_group_1_0 : GoodIn w9_L_group_1 (wsV RL 47 RX11 yX11_group w9_X11_group_1) := goodIn_r _ [1, 2, 3, 4, 5, 6, 7, 8, 9, 10, 11, 12, 13, 14, 15, 16, 17, 18, 19, 20, 21, 22, 23, 24, 25, 26, 27, 28, 29, 30, 31, 32, 33, 34, 35, 36, 37, 38, 39, 40, 41, 42, 43, 44, 45, 46, 47, 48, 49, 50, 51, 52] (by decide +kernel) (by decide +kernel)
set_option maxHeartbeats 4000000 in
set_option maxRecDepth 100000 in
theorem c9_L_group_1 (l : Launch) (hlt : l.stackTraces = false) (g : G9) (h0 h1 h2 h3 h4 h5 h6 h7 h8 h9 h10 h11 h12 h13 h14 sz : Nat) (v0 : Int32) (k_v0 : (-2147483648) ≤ v0.toInt ∧ v0.toInt ≤ (-1)) : Met l yL_group w9_L_group_1 ({ frames := 7, cells := 1, slots := 6, locals := 104 }) (mP g [(h0, .inr (12, [.ref h2, .int 0, .ref h3, .ref h4, .ref h5, .ref h6, .ref h7, .ref h8, .int (-1), .ref h9, .ref h10, .int 250, .ref h11, .int 0, .ref h12, .ref h13, .ref h14]))] sz [.ref h0, .int v0, .int 1, .ref h1]) (va_Qi (fun (r : Int32) (_ : Unit) => r = 1) (fun (_ : Unit) (t : State) => mB g [(h0, .inr (12, [.ref h2, .int 0, .ref h3, .ref h4, .ref h5, .ref h6, .ref h7, .ref h8, .int (-1), .ref h9, .ref h10, .int 250, .ref h11, .int 0, .ref h12, .ref h13, .ref h14]))] sz [] t) (va_A [(h0, .inr (12, [.ref h2, .int 0, .ref h3, .ref h4, .ref h5, .ref h6, .ref h7, .ref h8, .int (-1), .ref h9, .ref h10, .int 250, .ref h11, .int 0, .ref h12, .ref h13, .ref h14]))] sz)) 1 6 (va_A [(h0, .inr (12, [.ref h2, .int 0, .ref h3, .ref h4, .ref h5, .ref h6, .ref h7, .ref h8, .int (-1), .ref h9, .ref h10, .int 250, .ref h11, .int 0, .ref h12, .ref h13, .ref h14]))] sz) := by
  refine va_MetW (cc := cL_group) (maxL := 5) (ret := (some .int)) (by decide) rfl ?_
  intro p e s m args below meth c s₁ B hml hv
  obtain ⟨rfl, hsz, hP, hD0, hE⟩ := hv
  have hx := B.exec
  have hb := B.bytes
  have hr := B.returns
  have hts := atoms_spec (ws := w9_L_group_1) B.pre
  have hown : s.vm.findClass RL = some m.cls := findClass_of_methodNamed B.named
  have hlocks := B.notSynchronized
  have htab := vx_table (x := yL_group) B (hts (.codeWith yL_group cL_group 5 (some .int) [(0, 10, 13, 21)]) (List.mem_of_getElem? (i := 0) rfl))
  subst hsz
  have hD := hD0.self (sz := s.heap.size)
  generalize hAe : va_A [(h0, .inr (12, [.ref h2, .int 0, .ref h3, .ref h4, .ref h5, .ref h6, .ref h7, .ref h8, .int (-1), .ref h9, .ref h10, .int 250, .ref h11, .int 0, .ref h12, .ref h13, .ref h14]))] s.heap.size = A at hD hE ⊢
  have hA : ∀ q : Nat, s.heap.size ≤ q → A q := fun q h => by rw [← hAe]; exact Or.inr h
  have hK := hE.1
  have hS : va_S A s.heap s.heap [] := va_S.rf
  replace hP : va_P g.1 vwCl [(h0, .inr (12, [.ref h2, .int 0, .ref h3, .ref h4, .ref h5, .ref h6, .ref h7, .ref h8, .int (-1), .ref h9, .ref h10, .int 250, .ref h11, .int 0, .ref h12, .ref h13, .ref h14]))] s.heap := hP
  have hl := lv_entry ([.ref h0, .int v0, .int 1, .ref h1]) (n := 5) (Nat.le_of_ble_eq_true rfl)
  rw [lg_entry_eq]
  generalize (lg_sl ([.ref h0, .int v0, .int 1, .ref h1]) ++ List.replicate (5 - (lg_sl ([.ref h0, .int v0, .int 1, .ref h1])).length) Slot.unset).toArray = ls at hl ⊢
  replace hl : lv_has ls 5 [(0, .ref h0), (1, .int v0), (2, .int 1), (3, .ref h1)] := hl
  have hH0 : s.heap.size ≤ s.heap.size := Nat.le_refl _
  refine lv_aload_n hx hb dL_group_0 rfl (lv_at hl 3 rfl) ?_
  refine lv_iconst (v := 0) hx hb dL_group_1 (by decide) ?_
  refine lv_aload_n hx hb dL_group_2 rfl (lv_at hl 0 rfl) ?_
  refine lv_iload_n hx hb dL_group_3 rfl (lv_at hl 1 rfl) ?_
  refine lv_iload_n hx hb dL_group_4 rfl (lv_at hl 2 rfl) ?_
  have hPc := hP.sub (ws' := [(h0, .inr (12, [.ref h2, .int 0, .ref h3, .ref h4, .ref h5, .ref h6, .ref h7, .ref h8, .int (-1), .ref h9, .ref h10, .int 250, .ref h11, .int 0, .ref h12, .ref h13, .ref h14]))]) [0] rfl
  have hDc := hD.sub (ws' := [(h0, .inr (12, [.ref h2, .int 0, .ref h3, .ref h4, .ref h5, .ref h6, .ref h7, .ref h8, .int (-1), .ref h9, .ref h10, .int 250, .ref h11, .int 0, .ref h12, .ref h13, .ref h14]))]) [0] (by decide) rfl
  have hFc := va_free (wc := [(h0, .inr (12, [.ref h2, .int 0, .ref h3, .ref h4, .ref h5, .ref h6, .ref h7, .ref h8, .int (-1), .ref h9, .ref h10, .int 250, .ref h11, .int 0, .ref h12, .ref h13, .ref h14]))]) hD hS hA [0] rfl
  refine vx_callv (vx_runV (As := [.int v0, .int 1]) (rest := [.int 0, .ref h1]) ⟨hx, hb, hml, hown, hts⟩ (c9_X11_group_1 l hlt g h0 h2 h3 h4 h5 h6 h7 h8 h9 h10 h11 h12 h13 h14 _ v0 (by omega)) (cwV 2 hts g9_L_group_1_0 rfl rfl rfl (by decide +kernel) ⟨Nat.le_of_ble_eq_true rfl, Nat.le_of_ble_eq_true rfl⟩) (mPreV (g := g) (wc := [(h0, .inr (12, [.ref h2, .int 0, .ref h3, .ref h4, .ref h5, .ref h6, .ref h7, .ref h8, .int (-1), .ref h9, .ref h10, .int 250, .ref h11, .int 0, .ref h12, .ref h13, .ref h14]))]) (C := RX11) (ci := 12) (q0 := 0) hE hS hPc hDc hFc rfl rfl) rfl rfl hl.1 rfl (lv_room (Nat.le_of_ble_eq_true rfl)) dL_group_5 ⟨Nat.le_of_ble_eq_true rfl, Nat.le_of_ble_eq_true rfl⟩) hS (fun q _ h => hFc q h) hFc (fun q _ h => hFc q h) (fun E9 ce q9 u t H locs ht hvm hw hB hz1 hk1 hS hc1 hc2 hc3 => ?_) (fun u t H1 locs ht hvm hw hB hz1 hk1 hS => hw.elim)
  replace hB : E9 = "java/lang/IndexOutOfBoundsException" := hB
  subst hB
  obtain ⟨hP, hD⟩ := va_join (wr := []) (w1 := []) hP hD [0] [] rfl rfl (by decide) (by decide) hk1 hFc (fun k q h => by simp at h) ⟨fun i j p q h => by simp at h, fun k q h => by simp at h⟩
  have hP : va_P g.1 vwCl [] H := hP
  have hD : va_D A [] := hD
  refine vx_catch (own := RL) (name := "java/lang/IndexOutOfBoundsException") hown [] ⟨0, 10, 13, 21⟩ [] (by rw [htab]; rfl) (fun z hz => absurd hz List.not_mem_nil) (by decide) (by decide) (hts (.classLink RL 21 "java/lang/IndexOutOfBoundsException") (List.mem_of_getElem? (i := 53) rfl)) (va_Nw.use rfl (hE.cast ("java/lang/IndexOutOfBoundsException", "java/lang/IndexOutOfBoundsException") (by decide))) hc1 hc2 hc3 ?_
  refine lv_astore (lv' := [(4, .ref q9), (0, .ref h0), (1, .int v0), (2, .int 1), (3, .ref h1)]) hx hb dL_group_13 hl (by decide) rfl (fun ls hl => ?_)
  refine lv_iconst (v := 1) hx hb dL_group_15 (by decide) ?_
  have hP9 := hP.sub (ws' := []) [] rfl
  have hD9 := hD.sub (ws' := []) [] (by decide) rfl
  subst hAe
  exact W.iret (v := 1) hx hb hr (fun t ht hW => ⟨⟨1, (), rfl, rfl, by rw [ht]; exact hP9, hD9⟩, hS.F ht⟩) hS.2.2 dL_group_16
def w9_X21_in_14 : List Cond := [.code yX21_in cX21_in 3 (some .boolean)]
set_option maxHeartbeats 4000000 in
set_option maxRecDepth 100000 in
theorem c9_X21_in_14 (l : Launch) (g : G9) (sz : Nat) (v0 : Int32) (k_v0 : (-2147483648) ≤ v0.toInt ∧ v0.toInt ≤ (-1)) : Met l yX21_in w9_X21_in_14 ({ frames := 0, cells := 0, slots := 0, locals := 0 }) (mP g [] sz [.int v0, .int 0, .int 6]) (va_Qi (fun (r : Int32) (_ : Unit) => r = 0) (fun (_ : Unit) (t : State) => mB g [] sz [] t) (va_A [] sz)) 0 0 (va_A [] sz) := by
  refine Met.ofW (cc := cX21_in) (maxL := 3) (ret := (some .boolean)) (by decide) rfl ?_
  intro p e s m args below meth c s₁ B hml hv
  obtain ⟨rfl, hsz, hP, hD0, hE⟩ := hv
  have hx := B.exec
  have hb := B.bytes
  have hr := B.returns
  have hts := atoms_spec (ws := w9_X21_in_14) B.pre
  have hown : s.vm.findClass RX21 = some m.cls := findClass_of_methodNamed B.named
  have hlocks := B.notSynchronized
  subst hsz
  have hD := hD0.self (sz := s.heap.size)
  generalize hAe : va_A [] s.heap.size = A at hD hE ⊢
  have hA : ∀ q : Nat, s.heap.size ≤ q → A q := fun q h => by rw [← hAe]; exact Or.inr h
  have hK := hE.1
  have hS : va_S A s.heap s.heap [] := va_S.rf
  replace hP : va_P g.1 vwCl [] s.heap := hP
  have hl := lv_entry ([.int v0, .int 0, .int 6]) (n := 3) (Nat.le_of_ble_eq_true rfl)
  rw [lg_entry_eq]
  generalize (lg_sl ([.int v0, .int 0, .int 6]) ++ List.replicate (3 - (lg_sl ([.int v0, .int 0, .int 6])).length) Slot.unset).toArray = ls at hl ⊢
  replace hl : lv_has ls 3 [(0, .int v0), (1, .int 0), (2, .int 6)] := hl
  have hH0 : s.heap.size ≤ s.heap.size := Nat.le_refl _
  refine lv_iload_n hx hb dX21_in_0 rfl (lv_at hl 0 rfl) ?_
  refine lv_iload_n hx hb dX21_in_1 rfl (lv_at hl 1 rfl) ?_
  refine lv_icmp_lt (tgt := 14) hx hb dX21_in_2 (by decide) (fun _ => ?_) (fun c9 => absurd (by simp only [Int32.lt_iff_toInt_lt, Int32.le_iff_toInt_le, ← Int32.toInt_inj, show (0 : Int32).toInt = 0 from by decide]; omega) c9)
  refine lv_iconst (v := 0) hx hb dX21_in_14 (by decide) ?_
  have hP9 := hP.sub (ws' := []) [] rfl
  have hD9 := hD.sub (ws' := []) [] (by decide) rfl
  subst hAe
  exact W.zret (v := 0) hx hb hr (by decide) (fun t ht hW => ⟨⟨0, (), rfl, rfl, by rw [ht]; exact hP9, hD9⟩, hS.F ht⟩) hS.2.2 dX21_in_15
def w9_X21_group_1 : List Cond := [.code yX21_group cX21_group 3 (some .int), .methodLink RX21 160 yX21_in, .static yX21_in, .initialized RX21, .code yX21_in cX21_in 3 (some .boolean), .methodLink RX21 154 yX21_refused, .instanceMethod yX21_refused, .selects RX21 yX21_refused yX21_refused, .code yX21_refused cX21_refused 2 (some .boolean), .fieldLink RX21 144 "RegexloomModel" "refusal" "I"] ++ (u_ws RX21 TX21 32)
set_option maxRecDepth 20000 in
theorem in9_X21_group_1_RX21 : ∀ w ∈ u_ws RX21 TX21 32, w ∈ w9_X21_group_1 := by decide +kernel
set_option maxRecDepth 20000 in
theorem g9_X21_group_1_0 : GoodIn w9_X21_group_1 (va_wsS RX21 160 yX21_in w9_X21_in_14) := goodIn_r _ [1, 2, 3, 4] (by decide +kernel) (by decide +kernel)
set_option maxRecDepth 20000 in
theorem g9_X21_group_1_1 : GoodIn w9_X21_group_1 (wsV RX21 154 RX21 yX21_refused w9_X21_refused_2) := goodIn_r _ [5, 6, 7, 3, 8, 9, 10, 11, 12, 13, 14, 15, 16, 17, 18, 19, 20, 21, 22, 23, 24, 25, 26, 27, 28, 29, 30, 31, 32, 33, 34, 35, 36, 37, 38, 39, 40, 41] (by decide +kernel) (by decide +kernel)
set_option maxHeartbeats 4000000 in
set_option maxRecDepth 100000 in
theorem c9_X21_group_1 (l : Launch) (g : G9) (h0 h1 h2 h3 h4 h5 h6 h7 h8 h9 h10 h11 h12 h13 h14 h15 h16 sz : Nat) (v0 : Int32) (k_v0 : (-2147483648) ≤ v0.toInt ∧ v0.toInt ≤ (-1)) : Met l yX21_group w9_X21_group_1 ({ frames := 1, cells := 0, slots := 0, locals := 22 }) (mP g [(h0, .inr (22, [.int 0, .ref h1, .int 0, .ref h2, .int 0, .ref h3, .int 250, .ref h4, .int 0, .ref h5, .ref h6, .ref h7, .int 0, .ref h8, .ref h9, .ref h10, .int 0, .null, .int 0, .null, .int 0, .int 0, .int 0, .ref h11, .int 0, .ref h12, .ref h13, .ref h14, .int 0, .ref h15, .ref h16, .int 0]))] sz [.ref h0, .int v0, .int 1]) (va_Qi (fun (r : Int32) (_ : Unit) => r = 0) (fun (_ : Unit) (t : State) => mB g [(h0, .inr (22, [.int 0, .ref h1, .int 0, .ref h2, .int 0, .ref h3, .int 250, .ref h4, .int 0, .ref h5, .ref h6, .ref h7, .int 0, .ref h8, .ref h9, .ref h10, .int 0, .null, .int 0, .null, .int 0, .int 0, .int 0, .ref h11, .int 0, .ref h12, .ref h13, .ref h14, .int 0, .ref h15, .ref h16, .int 0]))] sz [(h0, .inr (22, [.int 1, .ref h1, .int 0, .ref h2, .int 0, .ref h3, .int 250, .ref h4, .int 0, .ref h5, .ref h6, .ref h7, .int 0, .ref h8, .ref h9, .ref h10, .int 0, .null, .int 0, .null, .int 0, .int 0, .int 0, .ref h11, .int 0, .ref h12, .ref h13, .ref h14, .int 0, .ref h15, .ref h16, .int 0]))] t) (va_A [(h0, .inr (22, [.int 0, .ref h1, .int 0, .ref h2, .int 0, .ref h3, .int 250, .ref h4, .int 0, .ref h5, .ref h6, .ref h7, .int 0, .ref h8, .ref h9, .ref h10, .int 0, .null, .int 0, .null, .int 0, .int 0, .int 0, .ref h11, .int 0, .ref h12, .ref h13, .ref h14, .int 0, .ref h15, .ref h16, .int 0]))] sz)) 0 0 (va_A [(h0, .inr (22, [.int 0, .ref h1, .int 0, .ref h2, .int 0, .ref h3, .int 250, .ref h4, .int 0, .ref h5, .ref h6, .ref h7, .int 0, .ref h8, .ref h9, .ref h10, .int 0, .null, .int 0, .null, .int 0, .int 0, .int 0, .ref h11, .int 0, .ref h12, .ref h13, .ref h14, .int 0, .ref h15, .ref h16, .int 0]))] sz) := by
  refine Met.ofW (cc := cX21_group) (maxL := 3) (ret := (some .int)) (by decide) rfl ?_
  intro p e s m args below meth c s₁ B hml hv
  obtain ⟨rfl, hsz, hP, hD0, hE⟩ := hv
  have hx := B.exec
  have hb := B.bytes
  have hr := B.returns
  have hts := atoms_spec (ws := w9_X21_group_1) B.pre
  have hown : s.vm.findClass RX21 = some m.cls := findClass_of_methodNamed B.named
  have hlocks := B.notSynchronized
  subst hsz
  have hD := hD0.self (sz := s.heap.size)
  generalize hAe : va_A [(h0, .inr (22, [.int 0, .ref h1, .int 0, .ref h2, .int 0, .ref h3, .int 250, .ref h4, .int 0, .ref h5, .ref h6, .ref h7, .int 0, .ref h8, .ref h9, .ref h10, .int 0, .null, .int 0, .null, .int 0, .int 0, .int 0, .ref h11, .int 0, .ref h12, .ref h13, .ref h14, .int 0, .ref h15, .ref h16, .int 0]))] s.heap.size = A at hD hE ⊢
  have hA : ∀ q : Nat, s.heap.size ≤ q → A q := fun q h => by rw [← hAe]; exact Or.inr h
  have hK := hE.1
  have hS : va_S A s.heap s.heap [] := va_S.rf
  replace hP : va_P g.1 vwCl [(h0, .inr (22, [.int 0, .ref h1, .int 0, .ref h2, .int 0, .ref h3, .int 250, .ref h4, .int 0, .ref h5, .ref h6, .ref h7, .int 0, .ref h8, .ref h9, .ref h10, .int 0, .null, .int 0, .null, .int 0, .int 0, .int 0, .ref h11, .int 0, .ref h12, .ref h13, .ref h14, .int 0, .ref h15, .ref h16, .int 0]))] s.heap := hP
  have hl := lv_entry ([.ref h0, .int v0, .int 1]) (n := 3) (Nat.le_of_ble_eq_true rfl)
  rw [lg_entry_eq]
  generalize (lg_sl ([.ref h0, .int v0, .int 1]) ++ List.replicate (3 - (lg_sl ([.ref h0, .int v0, .int 1])).length) Slot.unset).toArray = ls at hl ⊢
  replace hl : lv_has ls 3 [(0, .ref h0), (1, .int v0), (2, .int 1)] := hl
  have hH0 : s.heap.size ≤ s.heap.size := Nat.le_refl _
  refine lv_aload_n hx hb dX21_group_0 rfl (lv_at hl 0 rfl) ?_
  refine lv_iload_n hx hb dX21_group_1 rfl (lv_at hl 1 rfl) ?_
  refine lv_iconst (v := 0) hx hb dX21_group_2 (by decide) ?_
  refine lv_bipush (v := 6) hx hb dX21_group_3 (by decide) ?_
  have hPc := hP.sub (ws' := []) [] rfl
  have hDc := hD.sub (ws' := []) [] (by decide) rfl
  have hFc := va_free (wc := []) hD hS hA [] rfl
  refine va_calli (va_runS (As := [.int v0, .int 0, .int 6]) (rest := [.ref h0]) ⟨hx, hb, hml, hown, hts⟩ (c9_X21_in_14 l g _ v0 (by omega)) (va_cwS 3 hts g9_X21_group_1_0 rfl rfl rfl (by decide +kernel) ⟨Nat.le_of_ble_eq_true rfl, Nat.le_of_ble_eq_true rfl⟩) (mPreS (g := g) (wc := []) hE hS hPc hDc hFc) rfl rfl hl.1 rfl (lv_room (Nat.le_of_ble_eq_true rfl)) dX21_group_5 ⟨Nat.le_of_ble_eq_true rfl, Nat.le_of_ble_eq_true rfl⟩) hS (fun q _ h => hFc q h) hFc (fun r_1 u t H1 locs ht hvm hw hB hz1 hk1 hS => ?_)
  replace hw : 0 = r_1 := Eq.symm hw
  subst hw
  obtain ⟨hP1, hD1⟩ := hB
  rw [ht] at hP1
  obtain ⟨hP, hD⟩ := va_join (wr := [(h0, .inr (22, [.int 0, .ref h1, .int 0, .ref h2, .int 0, .ref h3, .int 250, .ref h4, .int 0, .ref h5, .ref h6, .ref h7, .int 0, .ref h8, .ref h9, .ref h10, .int 0, .null, .int 0, .null, .int 0, .int 0, .int 0, .ref h11, .int 0, .ref h12, .ref h13, .ref h14, .int 0, .ref h15, .ref h16, .int 0]))]) (w1 := []) hP hD [] [0] rfl rfl (by decide) (by decide) hk1 hFc hP1 hD1
  clear hP1 hD1 hPc hDc hFc hk1 hz1 hvm ht
  generalize H1 = H at hP hS ⊢
  have hP : va_P g.1 vwCl [(h0, .inr (22, [.int 0, .ref h1, .int 0, .ref h2, .int 0, .ref h3, .int 250, .ref h4, .int 0, .ref h5, .ref h6, .ref h7, .int 0, .ref h8, .ref h9, .ref h10, .int 0, .null, .int 0, .null, .int 0, .int 0, .int 0, .ref h11, .int 0, .ref h12, .ref h13, .ref h14, .int 0, .ref h15, .ref h16, .int 0]))] H := hP
  have hD : va_D A [(h0, .inr (22, [.int 0, .ref h1, .int 0, .ref h2, .int 0, .ref h3, .int 250, .ref h4, .int 0, .ref h5, .ref h6, .ref h7, .int 0, .ref h8, .ref h9, .ref h10, .int 0, .null, .int 0, .null, .int 0, .int 0, .int 0, .ref h11, .int 0, .ref h12, .ref h13, .ref h14, .int 0, .ref h15, .ref h16, .int 0]))] := hD
  refine lv_if_eq (tgt := 15) hx hb dX21_group_8 (by decide) (fun _ => ?_) (fun c9 => absurd (by decide) c9)
  refine lv_iconst (v := 1) hx hb dX21_group_15 (by decide) ?_
  have hPc := hP.sub (ws' := [(h0, .inr (22, [.int 0, .ref h1, .int 0, .ref h2, .int 0, .ref h3, .int 250, .ref h4, .int 0, .ref h5, .ref h6, .ref h7, .int 0, .ref h8, .ref h9, .ref h10, .int 0, .null, .int 0, .null, .int 0, .int 0, .int 0, .ref h11, .int 0, .ref h12, .ref h13, .ref h14, .int 0, .ref h15, .ref h16, .int 0]))]) [0] rfl
  have hDc := hD.sub (ws' := [(h0, .inr (22, [.int 0, .ref h1, .int 0, .ref h2, .int 0, .ref h3, .int 250, .ref h4, .int 0, .ref h5, .ref h6, .ref h7, .int 0, .ref h8, .ref h9, .ref h10, .int 0, .null, .int 0, .null, .int 0, .int 0, .int 0, .ref h11, .int 0, .ref h12, .ref h13, .ref h14, .int 0, .ref h15, .ref h16, .int 0]))]) [0] (by decide) rfl
  have hFc := va_free (wc := [(h0, .inr (22, [.int 0, .ref h1, .int 0, .ref h2, .int 0, .ref h3, .int 250, .ref h4, .int 0, .ref h5, .ref h6, .ref h7, .int 0, .ref h8, .ref h9, .ref h10, .int 0, .null, .int 0, .null, .int 0, .int 0, .int 0, .ref h11, .int 0, .ref h12, .ref h13, .ref h14, .int 0, .ref h15, .ref h16, .int 0]))]) hD hS hA [0] rfl
  refine va_calli (va_runV (As := [.int 1]) (rest := []) ⟨hx, hb, hml, hown, hts⟩ (c9_X21_refused_2 l g h0 h1 h2 h3 h4 h5 h6 h7 h8 h9 h10 h11 h12 h13 h14 h15 h16 _) (cwV 1 hts g9_X21_group_1_1 rfl rfl rfl (by decide +kernel) ⟨Nat.le_of_ble_eq_true rfl, Nat.le_of_ble_eq_true rfl⟩) (mPreV (g := g) (wc := [(h0, .inr (22, [.int 0, .ref h1, .int 0, .ref h2, .int 0, .ref h3, .int 250, .ref h4, .int 0, .ref h5, .ref h6, .ref h7, .int 0, .ref h8, .ref h9, .ref h10, .int 0, .null, .int 0, .null, .int 0, .int 0, .int 0, .ref h11, .int 0, .ref h12, .ref h13, .ref h14, .int 0, .ref h15, .ref h16, .int 0]))]) (C := RX21) (ci := 22) (q0 := 0) hE hS hPc hDc hFc rfl rfl) rfl rfl hl.1 rfl (lv_room (Nat.le_of_ble_eq_true rfl)) dX21_group_16 ⟨Nat.le_of_ble_eq_true rfl, Nat.le_of_ble_eq_true rfl⟩) hS (fun q _ h => hFc q h) hFc (fun r_2 u t H1 locs ht hvm hw hB hz1 hk1 hS => ?_)
  replace hw : 1 = r_2 := Eq.symm hw
  subst hw
  obtain ⟨hP1, hD1⟩ := hB
  rw [ht] at hP1
  obtain ⟨hP, hD⟩ := va_join (wr := []) (w1 := [(h0, .inr (22, [.int 1, .ref h1, .int 0, .ref h2, .int 0, .ref h3, .int 250, .ref h4, .int 0, .ref h5, .ref h6, .ref h7, .int 0, .ref h8, .ref h9, .ref h10, .int 0, .null, .int 0, .null, .int 0, .int 0, .int 0, .ref h11, .int 0, .ref h12, .ref h13, .ref h14, .int 0, .ref h15, .ref h16, .int 0]))]) hP hD [0] [] rfl rfl (by decide) (by decide) hk1 hFc hP1 hD1
  clear hP1 hD1 hPc hDc hFc hk1 hz1 hvm ht
  generalize H1 = H at hP hS ⊢
  have hP : va_P g.1 vwCl [(h0, .inr (22, [.int 1, .ref h1, .int 0, .ref h2, .int 0, .ref h3, .int 250, .ref h4, .int 0, .ref h5, .ref h6, .ref h7, .int 0, .ref h8, .ref h9, .ref h10, .int 0, .null, .int 0, .null, .int 0, .int 0, .int 0, .ref h11, .int 0, .ref h12, .ref h13, .ref h14, .int 0, .ref h15, .ref h16, .int 0]))] H := hP
  have hD : va_D A [(h0, .inr (22, [.int 1, .ref h1, .int 0, .ref h2, .int 0, .ref h3, .int 250, .ref h4, .int 0, .ref h5, .ref h6, .ref h7, .int 0, .ref h8, .ref h9, .ref h10, .int 0, .null, .int 0, .null, .int 0, .int 0, .int 0, .ref h11, .int 0, .ref h12, .ref h13, .ref h14, .int 0, .ref h15, .ref h16, .int 0]))] := hD
  refine lv_if_eq (tgt := 26) hx hb dX21_group_19 (by decide) (fun c9 => absurd c9 (by decide)) (fun _ => ?_)
  refine lv_iconst (v := 0) hx hb dX21_group_22 (by decide) ?_
  refine lv_goto (tgt := 44) hx hb dX21_group_23 (by decide) ?_
  have hP9 := hP.sub (ws' := [(h0, .inr (22, [.int 1, .ref h1, .int 0, .ref h2, .int 0, .ref h3, .int 250, .ref h4, .int 0, .ref h5, .ref h6, .ref h7, .int 0, .ref h8, .ref h9, .ref h10, .int 0, .null, .int 0, .null, .int 0, .int 0, .int 0, .ref h11, .int 0, .ref h12, .ref h13, .ref h14, .int 0, .ref h15, .ref h16, .int 0]))]) [0] rfl
  have hD9 := hD.sub (ws' := [(h0, .inr (22, [.int 1, .ref h1, .int 0, .ref h2, .int 0, .ref h3, .int 250, .ref h4, .int 0, .ref h5, .ref h6, .ref h7, .int 0, .ref h8, .ref h9, .ref h10, .int 0, .null, .int 0, .null, .int 0, .int 0, .int 0, .ref h11, .int 0, .ref h12, .ref h13, .ref h14, .int 0, .ref h15, .ref h16, .int 0]))]) [0] (by decide) rfl
  subst hAe
  exact W.iret (v := 0) hx hb hr (fun t ht hW => ⟨⟨0, (), rfl, rfl, by rw [ht]; exact hP9, hD9⟩, hS.F ht⟩) hS.2.2 dX21_group_44
def w9_X11_group_2 : List Cond := [.code yX11_group cX11_group 3 (some .int), .initialized "java/lang/Throwable", .superclass "java/lang/Throwable" "java/lang/Object", .instanceMethod Bundle.tFill, .codeSync Bundle.tFill LibCode.Throwable.Fill.code 1 (some (.object "java/lang/Throwable")), .instanceMethod Bundle.tFill0, .native Bundle.tFill0, .instanceMethod Bundle.tInit0, .code Bundle.tInit0 LibCode.Throwable.Init0.code 1 none, .instanceMethod Bundle.oInit, .code Bundle.oInit ⟨#[0xb1]⟩ 1 none, .methodLink "java/lang/Throwable" 1 Bundle.oInit, .methodLink "java/lang/Throwable" 27 Bundle.tFill, .methodLink "java/lang/Throwable" 202 Bundle.tFill0, .fieldLink "java/lang/Throwable" 7 "java/lang/Throwable" "cause" "Ljava/lang/Throwable;", .lays "java/lang/Throwable" "java/lang/Throwable" "cause" "Ljava/lang/Throwable;", .fieldLink "java/lang/Throwable" 17 "java/lang/Throwable" "stackTrace" "[Ljava/lang/StackTraceElement;", .lays "java/lang/Throwable" "java/lang/Throwable" "stackTrace" "[Ljava/lang/StackTraceElement;", .fieldLink "java/lang/Throwable" 24 "java/lang/Throwable" "suppressedExceptions" "Ljava/util/List;", .lays "java/lang/Throwable" "java/lang/Throwable" "suppressedExceptions" "Ljava/util/List;", .fieldLink "java/lang/Throwable" 13 "java/lang/Throwable" "UNASSIGNED_STACK" "[Ljava/lang/StackTraceElement;", .fieldLink "java/lang/Throwable" 20 "java/lang/Throwable" "SUPPRESSED_SENTINEL" "Ljava/util/List;", .lays "java/lang/Throwable" "java/lang/Throwable" "detailMessage" "Ljava/lang/String;", .instanceMethod (Bundle.initS "java/lang/Throwable"), .code (Bundle.initS "java/lang/Throwable") LibCode.Throwable.InitS.code 2 none, .fieldLink "java/lang/Throwable" 31 "java/lang/Throwable" "detailMessage" "Ljava/lang/String;", .instanceMethod (Bundle.initS "java/lang/IndexOutOfBoundsException"), .code (Bundle.initS "java/lang/IndexOutOfBoundsException") Bundle.six 2 none, .methodLink "java/lang/IndexOutOfBoundsException" 7 (Bundle.initS "java/lang/RuntimeException"), .instanceMethod (Bundle.initS "java/lang/RuntimeException"), .code (Bundle.initS "java/lang/RuntimeException") Bundle.six 2 none, .methodLink "java/lang/RuntimeException" 7 (Bundle.initS "java/lang/Exception"), .instanceMethod (Bundle.initS "java/lang/Exception"), .code (Bundle.initS "java/lang/Exception") Bundle.six 2 none, .methodLink "java/lang/Exception" 7 (Bundle.initS "java/lang/Throwable"), .methodLink RX11 224 (Bundle.initS "java/lang/IndexOutOfBoundsException"), .instantiable "java/lang/IndexOutOfBoundsException" 6, .selects "java/lang/IndexOutOfBoundsException" Bundle.tFill0 Bundle.tFill0, .selects "java/lang/IndexOutOfBoundsException" Bundle.tFill Bundle.tFill, .lays "java/lang/IndexOutOfBoundsException" "java/lang/Throwable" "cause" "Ljava/lang/Throwable;", .lays "java/lang/IndexOutOfBoundsException" "java/lang/Throwable" "stackTrace" "[Ljava/lang/StackTraceElement;", .lays "java/lang/IndexOutOfBoundsException" "java/lang/Throwable" "suppressedExceptions" "Ljava/util/List;", .lays "java/lang/IndexOutOfBoundsException" "java/lang/Throwable" "detailMessage" "Ljava/lang/String;", .fieldLink "java/lang/Throwable" 198 "java/lang/Throwable" "backtrace" "Ljava/lang/Object;", .lays "java/lang/Throwable" "java/lang/Throwable" "backtrace" "Ljava/lang/Object;", .lays "java/lang/IndexOutOfBoundsException" "java/lang/Throwable" "backtrace" "Ljava/lang/Object;", .classLink RX11 220 "java/lang/IndexOutOfBoundsException", .initialized "java/lang/IndexOutOfBoundsException"]
set_option maxHeartbeats 4000000 in
set_option maxRecDepth 100000 in
theorem c9_X11_group_2 (l : Launch) (hlt : l.stackTraces = false) (g : G9) (h0 h1 h2 h3 h4 h5 h6 h7 h8 h9 h10 h11 h12 h13 sz : Nat) (v0 : Int32) (k_v0 : 7 ≤ v0.toInt ∧ v0.toInt ≤ 2147483647) : vx_Met l yX11_group w9_X11_group_2 ({ frames := 6, cells := 1, slots := 6, locals := 82 }) (mP g [(h0, .inr (12, [.ref h1, .int 0, .ref h2, .ref h3, .ref h4, .ref h5, .ref h6, .ref h7, .int (-1), .ref h8, .ref h9, .int 250, .ref h10, .int 0, .ref h11, .ref h12, .ref h13]))] sz [.ref h0, .int v0, .int 1]) (va_Qv (fun _ : Unit => False) (fun _ _ => True) (va_A [(h0, .inr (12, [.ref h1, .int 0, .ref h2, .ref h3, .ref h4, .ref h5, .ref h6, .ref h7, .int (-1), .ref h8, .ref h9, .int 250, .ref h10, .int 0, .ref h11, .ref h12, .ref h13]))] sz)) (mT g [(h0, .inr (12, [.ref h1, .int 0, .ref h2, .ref h3, .ref h4, .ref h5, .ref h6, .ref h7, .int (-1), .ref h8, .ref h9, .int 250, .ref h10, .int 0, .ref h11, .ref h12, .ref h13]))] sz "java/lang/IndexOutOfBoundsException") 1 6 (va_A [(h0, .inr (12, [.ref h1, .int 0, .ref h2, .ref h3, .ref h4, .ref h5, .ref h6, .ref h7, .int (-1), .ref h8, .ref h9, .int 250, .ref h10, .int 0, .ref h11, .ref h12, .ref h13]))] sz) := by
  refine vx_ofW (cc := cX11_group) (maxL := 3) (ret := (some .int)) (by decide) rfl ?_
  intro p e s m args below meth c s₁ B hml hno hv
  obtain ⟨rfl, hsz, hP, hD0, hE⟩ := hv
  have hx := B.exec
  have hb := B.bytes
  have hr := B.returns
  have hts := atoms_spec (ws := w9_X11_group_2) B.pre
  have hown : s.vm.findClass RX11 = some m.cls := findClass_of_methodNamed B.named
  have hlocks := B.notSynchronized
  subst hsz
  have hD := hD0.self (sz := s.heap.size)
  generalize hAe : va_A [(h0, .inr (12, [.ref h1, .int 0, .ref h2, .ref h3, .ref h4, .ref h5, .ref h6, .ref h7, .int (-1), .ref h8, .ref h9, .int 250, .ref h10, .int 0, .ref h11, .ref h12, .ref h13]))] s.heap.size = A at hD hE ⊢
  have hA : ∀ q : Nat, s.heap.size ≤ q → A q := fun q h => by rw [← hAe]; exact Or.inr h
  have hK := hE.1
  have hS : va_S A s.heap s.heap [] := va_S.rf
  replace hP : va_P g.1 vwCl [(h0, .inr (12, [.ref h1, .int 0, .ref h2, .ref h3, .ref h4, .ref h5, .ref h6, .ref h7, .int (-1), .ref h8, .ref h9, .int 250, .ref h10, .int 0, .ref h11, .ref h12, .ref h13]))] s.heap := hP
  have hl := lv_entry ([.ref h0, .int v0, .int 1]) (n := 3) (Nat.le_of_ble_eq_true rfl)
  rw [lg_entry_eq]
  generalize (lg_sl ([.ref h0, .int v0, .int 1]) ++ List.replicate (3 - (lg_sl ([.ref h0, .int v0, .int 1])).length) Slot.unset).toArray = ls at hl ⊢
  replace hl : lv_has ls 3 [(0, .ref h0), (1, .int v0), (2, .int 1)] := hl
  have hH0 : s.heap.size ≤ s.heap.size := Nat.le_refl _
  refine lv_iload_n hx hb dX11_group_0 rfl (lv_at hl 1 rfl) ?_
  refine lv_if_lt (tgt := 10) hx hb dX11_group_1 (by decide) (fun c9 => absurd c9 (by simp only [Int32.lt_iff_toInt_lt, Int32.le_iff_toInt_le, ← Int32.toInt_inj, show (0 : Int32).toInt = 0 from by decide]; omega)) (fun _ => ?_)
  refine lv_iload_n hx hb dX11_group_4 rfl (lv_at hl 1 rfl) ?_
  refine lv_bipush (v := 6) hx hb dX11_group_5 (by decide) ?_
  refine lv_icmp_le (tgt := 20) hx hb dX11_group_7 (by decide) (fun c9 => absurd c9 (by simp only [Int32.lt_iff_toInt_lt, Int32.le_iff_toInt_le, ← Int32.toInt_inj, show (6 : Int32).toInt = 6 from by decide]; omega)) (fun _ => ?_)
  obtain ⟨sa, hsa⟩ := hE.str (222, "no such group") (by decide)
  exact vx_throwS (names := ["java/lang/RuntimeException", "java/lang/Exception"]) (A := A) hx hb hlt hown (by decide) (by decide) (hts (.classLink RX11 220 "java/lang/IndexOutOfBoundsException") (List.mem_of_getElem? (i := 46) rfl)) (hts (.initialized "java/lang/IndexOutOfBoundsException") (List.mem_of_getElem? (i := 47) rfl)) hsa (vx_hat (B := [.castable "java/lang/IndexOutOfBoundsException" "java/lang/IndexOutOfBoundsException", .declares (Bundle.initS "java/lang/RuntimeException"), .declares (Bundle.initS "java/lang/Exception"), .declares (Bundle.initS "java/lang/Throwable")]) (fun w9 hw9 => hts w9 (by revert w9; decide +kernel)) (by decide +kernel) (vx_c (va_Nw.use rfl (hE.cast ("java/lang/IndexOutOfBoundsException", "java/lang/IndexOutOfBoundsException") (by decide))) (vx_c (va_Nw.use rfl (hE.decl _ (by decide))) (vx_c (va_Nw.use rfl (hE.decl _ (by decide))) (vx_c (va_Nw.use rfl (hE.decl _ (by decide))) vx_n))))) (by decide +kernel) hE.zu hE.zn hS (by rw [hml]; exact hl.1) dX11_group_10 dX11_group_13 dX11_group_14 dX11_group_16 dX11_group_19 (fun z hz => (hno z hz).elim) (Nat.le_of_ble_eq_true rfl) (Nat.le_of_ble_eq_true rfl) (Nat.le_of_ble_eq_true rfl) (Nat.le_of_ble_eq_true rfl) hlocks (fun t hW hz ho => ⟨(), trivial, rfl, by subst hAe; exact ⟨Nat.le_trans hS.1 hz, fun q h1 h2 => (ho q (Nat.lt_of_lt_of_le h1 hS.1)).trans (hS.2.1 q h1 h2)⟩⟩) (fun z hz => by subst hAe; exact hS.2.2 z hz) (Nat.le_of_ble_eq_true rfl) (Nat.le_of_ble_eq_true rfl)
def w9_L_group_2 : List Cond := [.codeWith yL_group cL_group 5 (some .int) [(0, 10, 13, 21)], .methodLink RL 47 yX11_group, .instanceMethod yX11_group, .selects RX11 yX11_group yX11_group, .initialized RX11, .code yX11_group cX11_group 3 (some .int), .initialized "java/lang/Throwable", .superclass "java/lang/Throwable" "java/lang/Object", .instanceMethod Bundle.tFill, .codeSync Bundle.tFill LibCode.Throwable.Fill.code 1 (some (.object "java/lang/Throwable")), .instanceMethod Bundle.tFill0, .native Bundle.tFill0, .instanceMethod Bundle.tInit0, .code Bundle.tInit0 LibCode.Throwable.Init0.code 1 none, .instanceMethod Bundle.oInit, .code Bundle.oInit ⟨#[0xb1]⟩ 1 none, .methodLink "java/lang/Throwable" 1 Bundle.oInit, .methodLink "java/lang/Throwable" 27 Bundle.tFill, .methodLink "java/lang/Throwable" 202 Bundle.tFill0, .fieldLink "java/lang/Throwable" 7 "java/lang/Throwable" "cause" "Ljava/lang/Throwable;", .lays "java/lang/Throwable" "java/lang/Throwable" "cause" "Ljava/lang/Throwable;", .fieldLink "java/lang/Throwable" 17 "java/lang/Throwable" "stackTrace" "[Ljava/lang/StackTraceElement;", .lays "java/lang/Throwable" "java/lang/Throwable" "stackTrace" "[Ljava/lang/StackTraceElement;", .fieldLink "java/lang/Throwable" 24 "java/lang/Throwable" "suppressedExceptions" "Ljava/util/List;", .lays "java/lang/Throwable" "java/lang/Throwable" "suppressedExceptions" "Ljava/util/List;", .fieldLink "java/lang/Throwable" 13 "java/lang/Throwable" "UNASSIGNED_STACK" "[Ljava/lang/StackTraceElement;", .fieldLink "java/lang/Throwable" 20 "java/lang/Throwable" "SUPPRESSED_SENTINEL" "Ljava/util/List;", .lays "java/lang/Throwable" "java/lang/Throwable" "detailMessage" "Ljava/lang/String;", .instanceMethod (Bundle.initS "java/lang/Throwable"), .code (Bundle.initS "java/lang/Throwable") LibCode.Throwable.InitS.code 2 none, .fieldLink "java/lang/Throwable" 31 "java/lang/Throwable" "detailMessage" "Ljava/lang/String;", .instanceMethod (Bundle.initS "java/lang/IndexOutOfBoundsException"), .code (Bundle.initS "java/lang/IndexOutOfBoundsException") Bundle.six 2 none, .methodLink "java/lang/IndexOutOfBoundsException" 7 (Bundle.initS "java/lang/RuntimeException"), .instanceMethod (Bundle.initS "java/lang/RuntimeException"), .code (Bundle.initS "java/lang/RuntimeException") Bundle.six 2 none, .methodLink "java/lang/RuntimeException" 7 (Bundle.initS "java/lang/Exception"), .instanceMethod (Bundle.initS "java/lang/Exception"), .code (Bundle.initS "java/lang/Exception") Bundle.six 2 none, .methodLink "java/lang/Exception" 7 (Bundle.initS "java/lang/Throwable"), .methodLink RX11 224 (Bundle.initS "java/lang/IndexOutOfBoundsException"), .instantiable "java/lang/IndexOutOfBoundsException" 6, .selects "java/lang/IndexOutOfBoundsException" Bundle.tFill0 Bundle.tFill0, .selects "java/lang/IndexOutOfBoundsException" Bundle.tFill Bundle.tFill, .lays "java/lang/IndexOutOfBoundsException" "java/lang/Throwable" "cause" "Ljava/lang/Throwable;", .lays "java/lang/IndexOutOfBoundsException" "java/lang/Throwable" "stackTrace" "[Ljava/lang/StackTraceElement;", .lays "java/lang/IndexOutOfBoundsException" "java/lang/Throwable" "suppressedExceptions" "Ljava/util/List;", .lays "java/lang/IndexOutOfBoundsException" "java/lang/Throwable" "detailMessage" "Ljava/lang/String;", .fieldLink "java/lang/Throwable" 198 "java/lang/Throwable" "backtrace" "Ljava/lang/Object;", .lays "java/lang/Throwable" "java/lang/Throwable" "backtrace" "Ljava/lang/Object;", .lays "java/lang/IndexOutOfBoundsException" "java/lang/Throwable" "backtrace" "Ljava/lang/Object;", .classLink RX11 220 "java/lang/IndexOutOfBoundsException", .initialized "java/lang/IndexOutOfBoundsException", .classLink RL 21 "java/lang/IndexOutOfBoundsException"]
set_option maxRecDepth 20000 in
theorem g9_L_group_2_0 : GoodIn w9_L_group_2 (wsV RL 47 RX11 yX11_group w9_X11_group_2) := goodIn_r _ [1, 2, 3, 4, 5, 6, 7, 8, 9, 10, 11, 12, 13, 14, 15, 16, 17, 18, 19, 20, 21, 22, 23, 24, 25, 26, 27, 28, 29, 30, 31, 32, 33, 34, 35, 36, 37, 38, 39, 40, 41, 42, 43, 44, 45, 46, 47, 48, 49, 50, 51, 52] (by decide +kernel) (by decide +kernel)
set_option maxHeartbeats 4000000 in
set_option maxRecDepth 100000 in
theorem c9_L_group_2 (l : Launch) (hlt : l.stackTraces = false) (g : G9) (h0 h1 h2 h3 h4 h5 h6 h7 h8 h9 h10 h11 h12 h13 h14 sz : Nat) (v0 : Int32) (k_v0 : 7 ≤ v0.toInt ∧ v0.toInt ≤ 2147483647) : Met l yL_group w9_L_group_2 ({ frames := 7, cells := 1, slots := 6, locals := 104 }) (mP g [(h0, .inr (12, [.ref h2, .int 0, .ref h3, .ref h4, .ref h5, .ref h6, .ref h7, .ref h8, .int (-1), .ref h9, .ref h10, .int 250, .ref h11, .int 0, .ref h12, .ref h13, .ref h14]))] sz [.ref h0, .int v0, .int 1, .ref h1]) (va_Qi (fun (r : Int32) (_ : Unit) => r = 1) (fun (_ : Unit) (t : State) => mB g [(h0, .inr (12, [.ref h2, .int 0, .ref h3, .ref h4, .ref h5, .ref h6, .ref h7, .ref h8, .int (-1), .ref h9, .ref h10, .int 250, .ref h11, .int 0, .ref h12, .ref h13, .ref h14]))] sz [] t) (va_A [(h0, .inr (12, [.ref h2, .int 0, .ref h3, .ref h4, .ref h5, .ref h6, .ref h7, .ref h8, .int (-1), .ref h9, .ref h10, .int 250, .ref h11, .int 0, .ref h12, .ref h13, .ref h14]))] sz)) 1 6 (va_A [(h0, .inr (12, [.ref h2, .int 0, .ref h3, .ref h4, .ref h5, .ref h6, .ref h7, .ref h8, .int (-1), .ref h9, .ref h10, .int 250, .ref h11, .int 0, .ref h12, .ref h13, .ref h14]))] sz) := by
  refine va_MetW (cc := cL_group) (maxL := 5) (ret := (some .int)) (by decide) rfl ?_
  intro p e s m args below meth c s₁ B hml hv
  obtain ⟨rfl, hsz, hP, hD0, hE⟩ := hv
  have hx := B.exec
  have hb := B.bytes
  have hr := B.returns
  have hts := atoms_spec (ws := w9_L_group_2) B.pre
  have hown : s.vm.findClass RL = some m.cls := findClass_of_methodNamed B.named
  have hlocks := B.notSynchronized
  have htab := vx_table (x := yL_group) B (hts (.codeWith yL_group cL_group 5 (some .int) [(0, 10, 13, 21)]) (List.mem_of_getElem? (i := 0) rfl))
  subst hsz
  have hD := hD0.self (sz := s.heap.size)
  generalize hAe : va_A [(h0, .inr (12, [.ref h2, .int 0, .ref h3, .ref h4, .ref h5, .ref h6, .ref h7, .ref h8, .int (-1), .ref h9, .ref h10, .int 250, .ref h11, .int 0, .ref h12, .ref h13, .ref h14]))] s.heap.size = A at hD hE ⊢
  have hA : ∀ q : Nat, s.heap.size ≤ q → A q := fun q h => by rw [← hAe]; exact Or.inr h
  have hK := hE.1
  have hS : va_S A s.heap s.heap [] := va_S.rf
  replace hP : va_P g.1 vwCl [(h0, .inr (12, [.ref h2, .int 0, .ref h3, .ref h4, .ref h5, .ref h6, .ref h7, .ref h8, .int (-1), .ref h9, .ref h10, .int 250, .ref h11, .int 0, .ref h12, .ref h13, .ref h14]))] s.heap := hP
  have hl := lv_entry ([.ref h0, .int v0, .int 1, .ref h1]) (n := 5) (Nat.le_of_ble_eq_true rfl)
  rw [lg_entry_eq]
  generalize (lg_sl ([.ref h0, .int v0, .int 1, .ref h1]) ++ List.replicate (5 - (lg_sl ([.ref h0, .int v0, .int 1, .ref h1])).length) Slot.unset).toArray = ls at hl ⊢
  replace hl : lv_has ls 5 [(0, .ref h0), (1, .int v0), (2, .int 1), (3, .ref h1)] := hl
  have hH0 : s.heap.size ≤ s.heap.size := Nat.le_refl _
  refine lv_aload_n hx hb dL_group_0 rfl (lv_at hl 3 rfl) ?_
  refine lv_iconst (v := 0) hx hb dL_group_1 (by decide) ?_
  refine lv_aload_n hx hb dL_group_2 rfl (lv_at hl 0 rfl) ?_
  refine lv_iload_n hx hb dL_group_3 rfl (lv_at hl 1 rfl) ?_
  refine lv_iload_n hx hb dL_group_4 rfl (lv_at hl 2 rfl) ?_
  have hPc := hP.sub (ws' := [(h0, .inr (12, [.ref h2, .int 0, .ref h3, .ref h4, .ref h5, .ref h6, .ref h7, .ref h8, .int (-1), .ref h9, .ref h10, .int 250, .ref h11, .int 0, .ref h12, .ref h13, .ref h14]))]) [0] rfl
  have hDc := hD.sub (ws' := [(h0, .inr (12, [.ref h2, .int 0, .ref h3, .ref h4, .ref h5, .ref h6, .ref h7, .ref h8, .int (-1), .ref h9, .ref h10, .int 250, .ref h11, .int 0, .ref h12, .ref h13, .ref h14]))]) [0] (by decide) rfl
  have hFc := va_free (wc := [(h0, .inr (12, [.ref h2, .int 0, .ref h3, .ref h4, .ref h5, .ref h6, .ref h7, .ref h8, .int (-1), .ref h9, .ref h10, .int 250, .ref h11, .int 0, .ref h12, .ref h13, .ref h14]))]) hD hS hA [0] rfl
  refine vx_callv (vx_runV (As := [.int v0, .int 1]) (rest := [.int 0, .ref h1]) ⟨hx, hb, hml, hown, hts⟩ (c9_X11_group_2 l hlt g h0 h2 h3 h4 h5 h6 h7 h8 h9 h10 h11 h12 h13 h14 _ v0 (by omega)) (cwV 2 hts g9_L_group_2_0 rfl rfl rfl (by decide +kernel) ⟨Nat.le_of_ble_eq_true rfl, Nat.le_of_ble_eq_true rfl⟩) (mPreV (g := g) (wc := [(h0, .inr (12, [.ref h2, .int 0, .ref h3, .ref h4, .ref h5, .ref h6, .ref h7, .ref h8, .int (-1), .ref h9, .ref h10, .int 250, .ref h11, .int 0, .ref h12, .ref h13, .ref h14]))]) (C := RX11) (ci := 12) (q0 := 0) hE hS hPc hDc hFc rfl rfl) rfl rfl hl.1 rfl (lv_room (Nat.le_of_ble_eq_true rfl)) dL_group_5 ⟨Nat.le_of_ble_eq_true rfl, Nat.le_of_ble_eq_true rfl⟩) hS (fun q _ h => hFc q h) hFc (fun q _ h => hFc q h) (fun E9 ce q9 u t H locs ht hvm hw hB hz1 hk1 hS hc1 hc2 hc3 => ?_) (fun u t H1 locs ht hvm hw hB hz1 hk1 hS => hw.elim)
  replace hB : E9 = "java/lang/IndexOutOfBoundsException" := hB
  subst hB
  obtain ⟨hP, hD⟩ := va_join (wr := []) (w1 := []) hP hD [0] [] rfl rfl (by decide) (by decide) hk1 hFc (fun k q h => by simp at h) ⟨fun i j p q h => by simp at h, fun k q h => by simp at h⟩
  have hP : va_P g.1 vwCl [] H := hP
  have hD : va_D A [] := hD
  refine vx_catch (own := RL) (name := "java/lang/IndexOutOfBoundsException") hown [] ⟨0, 10, 13, 21⟩ [] (by rw [htab]; rfl) (fun z hz => absurd hz List.not_mem_nil) (by decide) (by decide) (hts (.classLink RL 21 "java/lang/IndexOutOfBoundsException") (List.mem_of_getElem? (i := 53) rfl)) (va_Nw.use rfl (hE.cast ("java/lang/IndexOutOfBoundsException", "java/lang/IndexOutOfBoundsException") (by decide))) hc1 hc2 hc3 ?_
  refine lv_astore (lv' := [(4, .ref q9), (0, .ref h0), (1, .int v0), (2, .int 1), (3, .ref h1)]) hx hb dL_group_13 hl (by decide) rfl (fun ls hl => ?_)
  refine lv_iconst (v := 1) hx hb dL_group_15 (by decide) ?_
  have hP9 := hP.sub (ws' := []) [] rfl
  have hD9 := hD.sub (ws' := []) [] (by decide) rfl
  subst hAe
  exact W.iret (v := 1) hx hb hr (fun t ht hW => ⟨⟨1, (), rfl, rfl, by rw [ht]; exact hP9, hD9⟩, hS.F ht⟩) hS.2.2 dL_group_16
def w9_X21_in_15 : List Cond := [.code yX21_in cX21_in 3 (some .boolean)]
set_option maxHeartbeats 4000000 in
set_option maxRecDepth 100000 in
theorem c9_X21_in_15 (l : Launch) (g : G9) (sz : Nat) (v0 : Int32) (k_v0 : 7 ≤ v0.toInt ∧ v0.toInt ≤ 2147483647) : Met l yX21_in w9_X21_in_15 ({ frames := 0, cells := 0, slots := 0, locals := 0 }) (mP g [] sz [.int v0, .int 0, .int 6]) (va_Qi (fun (r : Int32) (_ : Unit) => r = 0) (fun (_ : Unit) (t : State) => mB g [] sz [] t) (va_A [] sz)) 0 0 (va_A [] sz) := by
  refine Met.ofW (cc := cX21_in) (maxL := 3) (ret := (some .boolean)) (by decide) rfl ?_
  intro p e s m args below meth c s₁ B hml hv
  obtain ⟨rfl, hsz, hP, hD0, hE⟩ := hv
  have hx := B.exec
  have hb := B.bytes
  have hr := B.returns
  have hts := atoms_spec (ws := w9_X21_in_15) B.pre
  have hown : s.vm.findClass RX21 = some m.cls := findClass_of_methodNamed B.named
  have hlocks := B.notSynchronized
  subst hsz
  have hD := hD0.self (sz := s.heap.size)
  generalize hAe : va_A [] s.heap.size = A at hD hE ⊢
  have hA : ∀ q : Nat, s.heap.size ≤ q → A q := fun q h => by rw [← hAe]; exact Or.inr h
  have hK := hE.1
  have hS : va_S A s.heap s.heap [] := va_S.rf
  replace hP : va_P g.1 vwCl [] s.heap := hP
  have hl := lv_entry ([.int v0, .int 0, .int 6]) (n := 3) (Nat.le_of_ble_eq_true rfl)
  rw [lg_entry_eq]
  generalize (lg_sl ([.int v0, .int 0, .int 6]) ++ List.replicate (3 - (lg_sl ([.int v0, .int 0, .int 6])).length) Slot.unset).toArray = ls at hl ⊢
  replace hl : lv_has ls 3 [(0, .int v0), (1, .int 0), (2, .int 6)] := hl
  have hH0 : s.heap.size ≤ s.heap.size := Nat.le_refl _
  refine lv_iload_n hx hb dX21_in_0 rfl (lv_at hl 0 rfl) ?_
  refine lv_iload_n hx hb dX21_in_1 rfl (lv_at hl 1 rfl) ?_
  refine lv_icmp_lt (tgt := 14) hx hb dX21_in_2 (by decide) (fun c9 => absurd c9 (by simp only [Int32.lt_iff_toInt_lt, Int32.le_iff_toInt_le, ← Int32.toInt_inj, show (0 : Int32).toInt = 0 from by decide]; omega)) (fun _ => ?_)
  refine lv_iload_n hx hb dX21_in_5 rfl (lv_at hl 0 rfl) ?_
  refine lv_iload_n hx hb dX21_in_6 rfl (lv_at hl 2 rfl) ?_
  refine lv_icmp_gt (tgt := 14) hx hb dX21_in_7 (by decide) (fun _ => ?_) (fun c9 => absurd (by simp only [Int32.lt_iff_toInt_lt, Int32.le_iff_toInt_le, ← Int32.toInt_inj, show (6 : Int32).toInt = 6 from by decide]; omega) c9)
  refine lv_iconst (v := 0) hx hb dX21_in_14 (by decide) ?_
  have hP9 := hP.sub (ws' := []) [] rfl
  have hD9 := hD.sub (ws' := []) [] (by decide) rfl
  subst hAe
  exact W.zret (v := 0) hx hb hr (by decide) (fun t ht hW => ⟨⟨0, (), rfl, rfl, by rw [ht]; exact hP9, hD9⟩, hS.F ht⟩) hS.2.2 dX21_in_15
def w9_X21_group_2 : List Cond := [.code yX21_group cX21_group 3 (some .int), .methodLink RX21 160 yX21_in, .static yX21_in, .initialized RX21, .code yX21_in cX21_in 3 (some .boolean), .methodLink RX21 154 yX21_refused, .instanceMethod yX21_refused, .selects RX21 yX21_refused yX21_refused, .code yX21_refused cX21_refused 2 (some .boolean), .fieldLink RX21 144 "RegexloomModel" "refusal" "I"] ++ (u_ws RX21 TX21 32)
set_option maxRecDepth 20000 in
theorem in9_X21_group_2_RX21 : ∀ w ∈ u_ws RX21 TX21 32, w ∈ w9_X21_group_2 := by decide +kernel
set_option maxRecDepth 20000 in
theorem g9_X21_group_2_0 : GoodIn w9_X21_group_2 (va_wsS RX21 160 yX21_in w9_X21_in_15) := goodIn_r _ [1, 2, 3, 4] (by decide +kernel) (by decide +kernel)
set_option maxRecDepth 20000 in
theorem g9_X21_group_2_1 : GoodIn w9_X21_group_2 (wsV RX21 154 RX21 yX21_refused w9_X21_refused_2) := goodIn_r _ [5, 6, 7, 3, 8, 9, 10, 11, 12, 13, 14, 15, 16, 17, 18, 19, 20, 21, 22, 23, 24, 25, 26, 27, 28, 29, 30, 31, 32, 33, 34, 35, 36, 37, 38, 39, 40, 41] (by decide +kernel) (by decide +kernel)
set_option maxHeartbeats 4000000 in
set_option maxRecDepth 100000 in
theorem c9_X21_group_2 (l : Launch) (g : G9) (h0 h1 h2 h3 h4 h5 h6 h7 h8 h9 h10 h11 h12 h13 h14 h15 h16 sz : Nat) (v0 : Int32) (k_v0 : 7 ≤ v0.toInt ∧ v0.toInt ≤ 2147483647) : Met l yX21_group w9_X21_group_2 ({ frames := 1, cells := 0, slots := 0, locals := 22 }) (mP g [(h0, .inr (22, [.int 0, .ref h1, .int 0, .ref h2, .int 0, .ref h3, .int 250, .ref h4, .int 0, .ref h5, .ref h6, .ref h7, .int 0, .ref h8, .ref h9, .ref h10, .int 0, .null, .int 0, .null, .int 0, .int 0, .int 0, .ref h11, .int 0, .ref h12, .ref h13, .ref h14, .int 0, .ref h15, .ref h16, .int 0]))] sz [.ref h0, .int v0, .int 1]) (va_Qi (fun (r : Int32) (_ : Unit) => r = 0) (fun (_ : Unit) (t : State) => mB g [(h0, .inr (22, [.int 0, .ref h1, .int 0, .ref h2, .int 0, .ref h3, .int 250, .ref h4, .int 0, .ref h5, .ref h6, .ref h7, .int 0, .ref h8, .ref h9, .ref h10, .int 0, .null, .int 0, .null, .int 0, .int 0, .int 0, .ref h11, .int 0, .ref h12, .ref h13, .ref h14, .int 0, .ref h15, .ref h16, .int 0]))] sz [(h0, .inr (22, [.int 1, .ref h1, .int 0, .ref h2, .int 0, .ref h3, .int 250, .ref h4, .int 0, .ref h5, .ref h6, .ref h7, .int 0, .ref h8, .ref h9, .ref h10, .int 0, .null, .int 0, .null, .int 0, .int 0, .int 0, .ref h11, .int 0, .ref h12, .ref h13, .ref h14, .int 0, .ref h15, .ref h16, .int 0]))] t) (va_A [(h0, .inr (22, [.int 0, .ref h1, .int 0, .ref h2, .int 0, .ref h3, .int 250, .ref h4, .int 0, .ref h5, .ref h6, .ref h7, .int 0, .ref h8, .ref h9, .ref h10, .int 0, .null, .int 0, .null, .int 0, .int 0, .int 0, .ref h11, .int 0, .ref h12, .ref h13, .ref h14, .int 0, .ref h15, .ref h16, .int 0]))] sz)) 0 0 (va_A [(h0, .inr (22, [.int 0, .ref h1, .int 0, .ref h2, .int 0, .ref h3, .int 250, .ref h4, .int 0, .ref h5, .ref h6, .ref h7, .int 0, .ref h8, .ref h9, .ref h10, .int 0, .null, .int 0, .null, .int 0, .int 0, .int 0, .ref h11, .int 0, .ref h12, .ref h13, .ref h14, .int 0, .ref h15, .ref h16, .int 0]))] sz) := by
  refine Met.ofW (cc := cX21_group) (maxL := 3) (ret := (some .int)) (by decide) rfl ?_
  intro p e s m args below meth c s₁ B hml hv
  obtain ⟨rfl, hsz, hP, hD0, hE⟩ := hv
  have hx := B.exec
  have hb := B.bytes
  have hr := B.returns
  have hts := atoms_spec (ws := w9_X21_group_2) B.pre
  have hown : s.vm.findClass RX21 = some m.cls := findClass_of_methodNamed B.named
  have hlocks := B.notSynchronized
  subst hsz
  have hD := hD0.self (sz := s.heap.size)
  generalize hAe : va_A [(h0, .inr (22, [.int 0, .ref h1, .int 0, .ref h2, .int 0, .ref h3, .int 250, .ref h4, .int 0, .ref h5, .ref h6, .ref h7, .int 0, .ref h8, .ref h9, .ref h10, .int 0, .null, .int 0, .null, .int 0, .int 0, .int 0, .ref h11, .int 0, .ref h12, .ref h13, .ref h14, .int 0, .ref h15, .ref h16, .int 0]))] s.heap.size = A at hD hE ⊢
  have hA : ∀ q : Nat, s.heap.size ≤ q → A q := fun q h => by rw [← hAe]; exact Or.inr h
  have hK := hE.1
  have hS : va_S A s.heap s.heap [] := va_S.rf
  replace hP : va_P g.1 vwCl [(h0, .inr (22, [.int 0, .ref h1, .int 0, .ref h2, .int 0, .ref h3, .int 250, .ref h4, .int 0, .ref h5, .ref h6, .ref h7, .int 0, .ref h8, .ref h9, .ref h10, .int 0, .null, .int 0, .null, .int 0, .int 0, .int 0, .ref h11, .int 0, .ref h12, .ref h13, .ref h14, .int 0, .ref h15, .ref h16, .int 0]))] s.heap := hP
  have hl := lv_entry ([.ref h0, .int v0, .int 1]) (n := 3) (Nat.le_of_ble_eq_true rfl)
  rw [lg_entry_eq]
  generalize (lg_sl ([.ref h0, .int v0, .int 1]) ++ List.replicate (3 - (lg_sl ([.ref h0, .int v0, .int 1])).length) Slot.unset).toArray = ls at hl ⊢
  replace hl : lv_has ls 3 [(0, .ref h0), (1, .int v0), (2, .int 1)] := hl
  have hH0 : s.heap.size ≤ s.heap.size := Nat.le_refl _
  refine lv_aload_n hx hb dX21_group_0 rfl (lv_at hl 0 rfl) ?_
  refine lv_iload_n hx hb dX21_group_1 rfl (lv_at hl 1 rfl) ?_
  refine lv_iconst (v := 0) hx hb dX21_group_2 (by decide) ?_
  refine lv_bipush (v := 6) hx hb dX21_group_3 (by decide) ?_
  have hPc := hP.sub (ws' := []) [] rfl
  have hDc := hD.sub (ws' := []) [] (by decide) rfl
  have hFc := va_free (wc := []) hD hS hA [] rfl
  refine va_calli (va_runS (As := [.int v0, .int 0, .int 6]) (rest := [.ref h0]) ⟨hx, hb, hml, hown, hts⟩ (c9_X21_in_15 l g _ v0 (by omega)) (va_cwS 3 hts g9_X21_group_2_0 rfl rfl rfl (by decide +kernel) ⟨Nat.le_of_ble_eq_true rfl, Nat.le_of_ble_eq_true rfl⟩) (mPreS (g := g) (wc := []) hE hS hPc hDc hFc) rfl rfl hl.1 rfl (lv_room (Nat.le_of_ble_eq_true rfl)) dX21_group_5 ⟨Nat.le_of_ble_eq_true rfl, Nat.le_of_ble_eq_true rfl⟩) hS (fun q _ h => hFc q h) hFc (fun r_1 u t H1 locs ht hvm hw hB hz1 hk1 hS => ?_)
  replace hw : 0 = r_1 := Eq.symm hw
  subst hw
  obtain ⟨hP1, hD1⟩ := hB
  rw [ht] at hP1
  obtain ⟨hP, hD⟩ := va_join (wr := [(h0, .inr (22, [.int 0, .ref h1, .int 0, .ref h2, .int 0, .ref h3, .int 250, .ref h4, .int 0, .ref h5, .ref h6, .ref h7, .int 0, .ref h8, .ref h9, .ref h10, .int 0, .null, .int 0, .null, .int 0, .int 0, .int 0, .ref h11, .int 0, .ref h12, .ref h13, .ref h14, .int 0, .ref h15, .ref h16, .int 0]))]) (w1 := []) hP hD [] [0] rfl rfl (by decide) (by decide) hk1 hFc hP1 hD1
  clear hP1 hD1 hPc hDc hFc hk1 hz1 hvm ht
  generalize H1 = H at hP hS ⊢
  have hP : va_P g.1 vwCl [(h0, .inr (22, [.int 0, .ref h1, .int 0, .ref h2, .int 0, .ref h3, .int 250, .ref h4, .int 0, .ref h5, .ref h6, .ref h7, .int 0, .ref h8, .ref h9, .ref h10, .int 0, .null, .int 0, .null, .int 0, .int 0, .int 0, .ref h11, .int 0, .ref h12, .ref h13, .ref h14, .int 0, .ref h15, .ref h16, .int 0]))] H := hP
  have hD : va_D A [(h0, .inr (22, [.int 0, .ref h1, .int 0, .ref h2, .int 0, .ref h3, .int 250, .ref h4, .int 0, .ref h5, .ref h6, .ref h7, .int 0, .ref h8, .ref h9, .ref h10, .int 0, .null, .int 0, .null, .int 0, .int 0, .int 0, .ref h11, .int 0, .ref h12, .ref h13, .ref h14, .int 0, .ref h15, .ref h16, .int 0]))] := hD
  refine lv_if_eq (tgt := 15) hx hb dX21_group_8 (by decide) (fun _ => ?_) (fun c9 => absurd (by decide) c9)
  refine lv_iconst (v := 1) hx hb dX21_group_15 (by decide) ?_
  have hPc := hP.sub (ws' := [(h0, .inr (22, [.int 0, .ref h1, .int 0, .ref h2, .int 0, .ref h3, .int 250, .ref h4, .int 0, .ref h5, .ref h6, .ref h7, .int 0, .ref h8, .ref h9, .ref h10, .int 0, .null, .int 0, .null, .int 0, .int 0, .int 0, .ref h11, .int 0, .ref h12, .ref h13, .ref h14, .int 0, .ref h15, .ref h16, .int 0]))]) [0] rfl
  have hDc := hD.sub (ws' := [(h0, .inr (22, [.int 0, .ref h1, .int 0, .ref h2, .int 0, .ref h3, .int 250, .ref h4, .int 0, .ref h5, .ref h6, .ref h7, .int 0, .ref h8, .ref h9, .ref h10, .int 0, .null, .int 0, .null, .int 0, .int 0, .int 0, .ref h11, .int 0, .ref h12, .ref h13, .ref h14, .int 0, .ref h15, .ref h16, .int 0]))]) [0] (by decide) rfl
  have hFc := va_free (wc := [(h0, .inr (22, [.int 0, .ref h1, .int 0, .ref h2, .int 0, .ref h3, .int 250, .ref h4, .int 0, .ref h5, .ref h6, .ref h7, .int 0, .ref h8, .ref h9, .ref h10, .int 0, .null, .int 0, .null, .int 0, .int 0, .int 0, .ref h11, .int 0, .ref h12, .ref h13, .ref h14, .int 0, .ref h15, .ref h16, .int 0]))]) hD hS hA [0] rfl
  refine va_calli (va_runV (As := [.int 1]) (rest := []) ⟨hx, hb, hml, hown, hts⟩ (c9_X21_refused_2 l g h0 h1 h2 h3 h4 h5 h6 h7 h8 h9 h10 h11 h12 h13 h14 h15 h16 _) (cwV 1 hts g9_X21_group_2_1 rfl rfl rfl (by decide +kernel) ⟨Nat.le_of_ble_eq_true rfl, Nat.le_of_ble_eq_true rfl⟩) (mPreV (g := g) (wc := [(h0, .inr (22, [.int 0, .ref h1, .int 0, .ref h2, .int 0, .ref h3, .int 250, .ref h4, .int 0, .ref h5, .ref h6, .ref h7, .int 0, .ref h8, .ref h9, .ref h10, .int 0, .null, .int 0, .null, .int 0, .int 0, .int 0, .ref h11, .int 0, .ref h12, .ref h13, .ref h14, .int 0, .ref h15, .ref h16, .int 0]))]) (C := RX21) (ci := 22) (q0 := 0) hE hS hPc hDc hFc rfl rfl) rfl rfl hl.1 rfl (lv_room (Nat.le_of_ble_eq_true rfl)) dX21_group_16 ⟨Nat.le_of_ble_eq_true rfl, Nat.le_of_ble_eq_true rfl⟩) hS (fun q _ h => hFc q h) hFc (fun r_2 u t H1 locs ht hvm hw hB hz1 hk1 hS => ?_)
  replace hw : 1 = r_2 := Eq.symm hw
  subst hw
  obtain ⟨hP1, hD1⟩ := hB
  rw [ht] at hP1
  obtain ⟨hP, hD⟩ := va_join (wr := []) (w1 := [(h0, .inr (22, [.int 1, .ref h1, .int 0, .ref h2, .int 0, .ref h3, .int 250, .ref h4, .int 0, .ref h5, .ref h6, .ref h7, .int 0, .ref h8, .ref h9, .ref h10, .int 0, .null, .int 0, .null, .int 0, .int 0, .int 0, .ref h11, .int 0, .ref h12, .ref h13, .ref h14, .int 0, .ref h15, .ref h16, .int 0]))]) hP hD [0] [] rfl rfl (by decide) (by decide) hk1 hFc hP1 hD1
  clear hP1 hD1 hPc hDc hFc hk1 hz1 hvm ht
  generalize H1 = H at hP hS ⊢
  have hP : va_P g.1 vwCl [(h0, .inr (22, [.int 1, .ref h1, .int 0, .ref h2, .int 0, .ref h3, .int 250, .ref h4, .int 0, .ref h5, .ref h6, .ref h7, .int 0, .ref h8, .ref h9, .ref h10, .int 0, .null, .int 0, .null, .int 0, .int 0, .int 0, .ref h11, .int 0, .ref h12, .ref h13, .ref h14, .int 0, .ref h15, .ref h16, .int 0]))] H := hP
  have hD : va_D A [(h0, .inr (22, [.int 1, .ref h1, .int 0, .ref h2, .int 0, .ref h3, .int 250, .ref h4, .int 0, .ref h5, .ref h6, .ref h7, .int 0, .ref h8, .ref h9, .ref h10, .int 0, .null, .int 0, .null, .int 0, .int 0, .int 0, .ref h11, .int 0, .ref h12, .ref h13, .ref h14, .int 0, .ref h15, .ref h16, .int 0]))] := hD
  refine lv_if_eq (tgt := 26) hx hb dX21_group_19 (by decide) (fun c9 => absurd c9 (by decide)) (fun _ => ?_)
  refine lv_iconst (v := 0) hx hb dX21_group_22 (by decide) ?_
  refine lv_goto (tgt := 44) hx hb dX21_group_23 (by decide) ?_
  have hP9 := hP.sub (ws' := [(h0, .inr (22, [.int 1, .ref h1, .int 0, .ref h2, .int 0, .ref h3, .int 250, .ref h4, .int 0, .ref h5, .ref h6, .ref h7, .int 0, .ref h8, .ref h9, .ref h10, .int 0, .null, .int 0, .null, .int 0, .int 0, .int 0, .ref h11, .int 0, .ref h12, .ref h13, .ref h14, .int 0, .ref h15, .ref h16, .int 0]))]) [0] rfl
  have hD9 := hD.sub (ws' := [(h0, .inr (22, [.int 1, .ref h1, .int 0, .ref h2, .int 0, .ref h3, .int 250, .ref h4, .int 0, .ref h5, .ref h6, .ref h7, .int 0, .ref h8, .ref h9, .ref h10, .int 0, .null, .int 0, .null, .int 0, .int 0, .int 0, .ref h11, .int 0, .ref h12, .ref h13, .ref h14, .int 0, .ref h15, .ref h16, .int 0]))]) [0] (by decide) rfl
  subst hAe
  exact W.iret (v := 0) hx hb hr (fun t ht hW => ⟨⟨0, (), rfl, rfl, by rw [ht]; exact hP9, hD9⟩, hS.F ht⟩) hS.2.2 dX21_group_44
def w9_X9_get_3 : List Cond := [.code yX9_get cX9_get 3 (some .int), .fieldLink RX9 28 "Regexloom$Table" "size" "I", .fieldLink RX9 9 "Regexloom$Table" "width" "I", .fieldLink RX9 24 "Regexloom$Table" "cells" "[I"] ++ (u_ws RX9 TX9 4)
set_option maxRecDepth 20000 in
theorem in9_X9_get_3_RX9 : ∀ w ∈ u_ws RX9 TX9 4, w ∈ w9_X9_get_3 := by decide +kernel
set_option maxHeartbeats 4000000 in
set_option maxRecDepth 100000 in
theorem c9_X9_get_3 (l : Launch) (g : G9) (h0 h1 sz : Nat) (f0 : Nat → Int32) : Met l yX9_get w9_X9_get_3 ({ frames := 0, cells := 0, slots := 0, locals := 0 }) (mP g [(h0, .inr (10, [.int 2, .int 7, .ref h1, .int 7])), (h1, .inl (g.2.1 0, 14, .inl f0))] sz [.ref h0, .int 0, .int 1]) (va_Qi (fun (r : Int32) (_ : Unit) => r = (f0 1)) (fun (_ : Unit) (t : State) => mB g [(h0, .inr (10, [.int 2, .int 7, .ref h1, .int 7])), (h1, .inl (g.2.1 0, 14, .inl f0))] sz [(h0, .inr (10, [.int 2, .int 7, .ref h1, .int 7])), (h1, .inl (g.2.1 0, 14, .inl f0))] t) (va_A [(h0, .inr (10, [.int 2, .int 7, .ref h1, .int 7])), (h1, .inl (g.2.1 0, 14, .inl f0))] sz)) 0 0 (va_A [(h0, .inr (10, [.int 2, .int 7, .ref h1, .int 7])), (h1, .inl (g.2.1 0, 14, .inl f0))] sz) := by
  refine Met.ofW (cc := cX9_get) (maxL := 3) (ret := (some .int)) (by decide) rfl ?_
  intro p e s m args below meth c s₁ B hml hv
  obtain ⟨rfl, hsz, hP, hD0, hE⟩ := hv
  have hx := B.exec
  have hb := B.bytes
  have hr := B.returns
  have hts := atoms_spec (ws := w9_X9_get_3) B.pre
  have hown : s.vm.findClass RX9 = some m.cls := findClass_of_methodNamed B.named
  have hlocks := B.notSynchronized
  subst hsz
  have hD := hD0.self (sz := s.heap.size)
  generalize hAe : va_A [(h0, .inr (10, [.int 2, .int 7, .ref h1, .int 7])), (h1, .inl (g.2.1 0, 14, .inl f0))] s.heap.size = A at hD hE ⊢
  have hA : ∀ q : Nat, s.heap.size ≤ q → A q := fun q h => by rw [← hAe]; exact Or.inr h
  have hK := hE.1
  have hS : va_S A s.heap s.heap [] := va_S.rf
  replace hP : va_P g.1 vwCl [(h0, .inr (10, [.int 2, .int 7, .ref h1, .int 7])), (h1, .inl (g.2.1 0, 14, .inl f0))] s.heap := hP
  have hl := lv_entry ([.ref h0, .int 0, .int 1]) (n := 3) (Nat.le_of_ble_eq_true rfl)
  rw [lg_entry_eq]
  generalize (lg_sl ([.ref h0, .int 0, .int 1]) ++ List.replicate (3 - (lg_sl ([.ref h0, .int 0, .int 1])).length) Slot.unset).toArray = ls at hl ⊢
  replace hl : lv_has ls 3 [(0, .ref h0), (1, .int 0), (2, .int 1)] := hl
  have hH0 : s.heap.size ≤ s.heap.size := Nat.le_refl _
  refine lv_iload_n hx hb dX9_get_0 rfl (lv_at hl 1 rfl) ?_
  refine lv_if_lt (tgt := 24) hx hb dX9_get_1 (by decide) (fun c9 => absurd c9 (by decide)) (fun _ => ?_)
  refine lv_iload_n hx hb dX9_get_4 rfl (lv_at hl 1 rfl) ?_
  refine lv_aload_n hx hb dX9_get_5 rfl (lv_at hl 0 rfl) ?_
  refine va_get (D := g.1) (ci := 10) (v := .int 7) (C := RX9) (T := TX9) (N := 4) hx hb hts in9_X9_get_3_RX9 hown hK hP 0 rfl rfl 3 (by decide) (hts (.fieldLink RX9 28 "Regexloom$Table" "size" "I") (List.mem_of_getElem? (i := 1) rfl)) (fun _ h9 => h9) rfl dX9_get_6 ?_
  refine lv_icmp_ge (tgt := 24) hx hb dX9_get_9 (by decide) (fun c9 => absurd c9 (by decide)) (fun _ => ?_)
  refine lv_iload_n hx hb dX9_get_12 rfl (lv_at hl 2 rfl) ?_
  refine lv_if_lt (tgt := 24) hx hb dX9_get_13 (by decide) (fun c9 => absurd c9 (by decide)) (fun _ => ?_)
  refine lv_iload_n hx hb dX9_get_16 rfl (lv_at hl 2 rfl) ?_
  refine lv_aload_n hx hb dX9_get_17 rfl (lv_at hl 0 rfl) ?_
  refine va_get (D := g.1) (ci := 10) (v := .int 2) (C := RX9) (T := TX9) (N := 4) hx hb hts in9_X9_get_3_RX9 hown hK hP 0 rfl rfl 0 (by decide) (hts (.fieldLink RX9 9 "Regexloom$Table" "width" "I") (List.mem_of_getElem? (i := 2) rfl)) (fun _ h9 => h9) rfl dX9_get_18 ?_
  refine lv_icmp_lt (tgt := 26) hx hb dX9_get_21 (by decide) (fun _ => ?_) (fun c9 => absurd (by decide) c9)
  refine lv_aload_n hx hb dX9_get_26 rfl (lv_at hl 0 rfl) ?_
  refine va_get (D := g.1) (ci := 10) (v := .ref h1) (C := RX9) (T := TX9) (N := 4) hx hb hts in9_X9_get_3_RX9 hown hK hP 0 rfl rfl 2 (by decide) (hts (.fieldLink RX9 24 "Regexloom$Table" "cells" "[I") (List.mem_of_getElem? (i := 3) rfl)) (fun _ h9 => h9) rfl dX9_get_27 ?_
  refine lv_iload_n hx hb dX9_get_30 rfl (lv_at hl 1 rfl) ?_
  refine lv_aload_n hx hb dX9_get_31 rfl (lv_at hl 0 rfl) ?_
  refine va_get (D := g.1) (ci := 10) (v := .int 2) (C := RX9) (T := TX9) (N := 4) hx hb hts in9_X9_get_3_RX9 hown hK hP 0 rfl rfl 0 (by decide) (hts (.fieldLink RX9 9 "Regexloom$Table" "width" "I") (List.mem_of_getElem? (i := 2) rfl)) (fun _ h9 => h9) rfl dX9_get_32 ?_
  refine lv_imul hx hb dX9_get_35 ?_
  refine e_top (y := 0) (by decide) ?_
  refine lv_iload_n hx hb dX9_get_36 rfl (lv_at hl 2 rfl) ?_
  refine lv_iadd hx hb dX9_get_37 ?_
  refine e_top (y := 1) (by decide) ?_
  refine va_iald hx hb hK hP 1 0 rfl rfl (vp_in_nI (n := 1) (by decide) (by decide)) dX9_get_38 ?_
  refine e_topv (y := .int (f0 1)) (by rfl) ?_
  have hP9 := hP.sub (ws' := [(h0, .inr (10, [.int 2, .int 7, .ref h1, .int 7])), (h1, .inl (g.2.1 0, 14, .inl f0))]) [0, 1] rfl
  have hD9 := hD.sub (ws' := [(h0, .inr (10, [.int 2, .int 7, .ref h1, .int 7])), (h1, .inl (g.2.1 0, 14, .inl f0))]) [0, 1] (by decide) rfl
  subst hAe
  exact W.iret (v := (f0 1)) hx hb hr (fun t ht hW => ⟨⟨(f0 1), (), rfl, rfl, by rw [ht]; exact hP9, hD9⟩, hS.F ht⟩) hS.2.2 dX9_get_39
def w9_X11_group_3 : List Cond := [.code yX11_group cX11_group 3 (some .int), .fieldLink RX11 78 "Regexloom" "bounds" "LRegexloom$Table;", .methodLink RX11 225 yX9_get, .instanceMethod yX9_get, .selects RX9 yX9_get yX9_get, .initialized RX9, .code yX9_get cX9_get 3 (some .int), .fieldLink RX9 28 "Regexloom$Table" "size" "I", .fieldLink RX9 9 "Regexloom$Table" "width" "I", .fieldLink RX9 24 "Regexloom$Table" "cells" "[I"] ++ (u_ws RX11 TX11 17 ++ u_ws RX9 TX9 4)
set_option maxRecDepth 20000 in
theorem in9_X11_group_3_RX11 : ∀ w ∈ u_ws RX11 TX11 17, w ∈ w9_X11_group_3 := by decide +kernel
set_option maxRecDepth 20000 in
theorem in9_X11_group_3_RX9 : ∀ w ∈ u_ws RX9 TX9 4, w ∈ w9_X11_group_3 := by decide +kernel
set_option maxRecDepth 20000 in
theorem g9_X11_group_3_0 : GoodIn w9_X11_group_3 (wsV RX11 225 RX9 yX9_get w9_X9_get_3) := goodIn_r _ [2, 3, 4, 5, 6, 7, 8, 9, 27, 28, 29, 30] (by decide +kernel) (by decide +kernel)
set_option maxHeartbeats 4000000 in
set_option maxRecDepth 100000 in
theorem c9_X11_group_3 (l : Launch) (g : G9) (h0 h1 h2 h3 h4 h5 h6 h7 h8 h9 h10 h11 h12 h13 h14 sz : Nat) (f0 : Nat → Int32) : Met l yX11_group w9_X11_group_3 ({ frames := 1, cells := 0, slots := 0, locals := 22 }) (mP g [(h0, .inr (12, [.ref h1, .int 0, .ref h2, .ref h3, .ref h4, .ref h5, .ref h6, .ref h7, .int (-1), .ref h8, .ref h9, .int 250, .ref h10, .int 0, .ref h11, .ref h12, .ref h13])), (h10, .inr (10, [.int 2, .int 7, .ref h14, .int 7])), (h14, .inl (g.2.1 0, 14, .inl f0))] sz [.ref h0, .int 0, .int 1]) (va_Qi (fun (r : Int32) (_ : Unit) => r = (f0 1)) (fun (_ : Unit) (t : State) => mB g [(h0, .inr (12, [.ref h1, .int 0, .ref h2, .ref h3, .ref h4, .ref h5, .ref h6, .ref h7, .int (-1), .ref h8, .ref h9, .int 250, .ref h10, .int 0, .ref h11, .ref h12, .ref h13])), (h10, .inr (10, [.int 2, .int 7, .ref h14, .int 7])), (h14, .inl (g.2.1 0, 14, .inl f0))] sz [(h0, .inr (12, [.ref h1, .int 0, .ref h2, .ref h3, .ref h4, .ref h5, .ref h6, .ref h7, .int (-1), .ref h8, .ref h9, .int 250, .ref h10, .int 0, .ref h11, .ref h12, .ref h13])), (h10, .inr (10, [.int 2, .int 7, .ref h14, .int 7])), (h14, .inl (g.2.1 0, 14, .inl f0))] t) (va_A [(h0, .inr (12, [.ref h1, .int 0, .ref h2, .ref h3, .ref h4, .ref h5, .ref h6, .ref h7, .int (-1), .ref h8, .ref h9, .int 250, .ref h10, .int 0, .ref h11, .ref h12, .ref h13])), (h10, .inr (10, [.int 2, .int 7, .ref h14, .int 7])), (h14, .inl (g.2.1 0, 14, .inl f0))] sz)) 0 0 (va_A [(h0, .inr (12, [.ref h1, .int 0, .ref h2, .ref h3, .ref h4, .ref h5, .ref h6, .ref h7, .int (-1), .ref h8, .ref h9, .int 250, .ref h10, .int 0, .ref h11, .ref h12, .ref h13])), (h10, .inr (10, [.int 2, .int 7, .ref h14, .int 7])), (h14, .inl (g.2.1 0, 14, .inl f0))] sz) := by
  refine Met.ofW (cc := cX11_group) (maxL := 3) (ret := (some .int)) (by decide) rfl ?_
  intro p e s m args below meth c s₁ B hml hv
  obtain ⟨rfl, hsz, hP, hD0, hE⟩ := hv
  have hx := B.exec
  have hb := B.bytes
  have hr := B.returns
  have hts := atoms_spec (ws := w9_X11_group_3) B.pre
  have hown : s.vm.findClass RX11 = some m.cls := findClass_of_methodNamed B.named
  have hlocks := B.notSynchronized
  subst hsz
  have hD := hD0.self (sz := s.heap.size)
  generalize hAe : va_A [(h0, .inr (12, [.ref h1, .int 0, .ref h2, .ref h3, .ref h4, .ref h5, .ref h6, .ref h7, .int (-1), .ref h8, .ref h9, .int 250, .ref h10, .int 0, .ref h11, .ref h12, .ref h13])), (h10, .inr (10, [.int 2, .int 7, .ref h14, .int 7])), (h14, .inl (g.2.1 0, 14, .inl f0))] s.heap.size = A at hD hE ⊢
  have hA : ∀ q : Nat, s.heap.size ≤ q → A q := fun q h => by rw [← hAe]; exact Or.inr h
  have hK := hE.1
  have hS : va_S A s.heap s.heap [] := va_S.rf
  replace hP : va_P g.1 vwCl [(h0, .inr (12, [.ref h1, .int 0, .ref h2, .ref h3, .ref h4, .ref h5, .ref h6, .ref h7, .int (-1), .ref h8, .ref h9, .int 250, .ref h10, .int 0, .ref h11, .ref h12, .ref h13])), (h10, .inr (10, [.int 2, .int 7, .ref h14, .int 7])), (h14, .inl (g.2.1 0, 14, .inl f0))] s.heap := hP
  have hl := lv_entry ([.ref h0, .int 0, .int 1]) (n := 3) (Nat.le_of_ble_eq_true rfl)
  rw [lg_entry_eq]
  generalize (lg_sl ([.ref h0, .int 0, .int 1]) ++ List.replicate (3 - (lg_sl ([.ref h0, .int 0, .int 1])).length) Slot.unset).toArray = ls at hl ⊢
  replace hl : lv_has ls 3 [(0, .ref h0), (1, .int 0), (2, .int 1)] := hl
  have hH0 : s.heap.size ≤ s.heap.size := Nat.le_refl _
  refine lv_iload_n hx hb dX11_group_0 rfl (lv_at hl 1 rfl) ?_
  refine lv_if_lt (tgt := 10) hx hb dX11_group_1 (by decide) (fun c9 => absurd c9 (by decide)) (fun _ => ?_)
  refine lv_iload_n hx hb dX11_group_4 rfl (lv_at hl 1 rfl) ?_
  refine lv_bipush (v := 6) hx hb dX11_group_5 (by decide) ?_
  refine lv_icmp_le (tgt := 20) hx hb dX11_group_7 (by decide) (fun _ => ?_) (fun c9 => absurd (by decide) c9)
  refine lv_aload_n hx hb dX11_group_20 rfl (lv_at hl 0 rfl) ?_
  refine va_get (D := g.1) (ci := 12) (v := .ref h10) (C := RX11) (T := TX11) (N := 17) hx hb hts in9_X11_group_3_RX11 hown hK hP 0 rfl rfl 12 (by decide) (hts (.fieldLink RX11 78 "Regexloom" "bounds" "LRegexloom$Table;") (List.mem_of_getElem? (i := 1) rfl)) (fun _ h9 => h9) rfl dX11_group_21 ?_
  refine lv_iload_n hx hb dX11_group_24 rfl (lv_at hl 1 rfl) ?_
  refine lv_iload_n hx hb dX11_group_25 rfl (lv_at hl 2 rfl) ?_
  refine lv_if_eq (tgt := 33) hx hb dX11_group_26 (by decide) (fun c9 => absurd c9 (by decide)) (fun _ => ?_)
  refine lv_iconst (v := 1) hx hb dX11_group_29 (by decide) ?_
  refine lv_goto (tgt := 34) hx hb dX11_group_30 (by decide) ?_
  have hPc := hP.sub (ws' := [(h10, .inr (10, [.int 2, .int 7, .ref h14, .int 7])), (h14, .inl (g.2.1 0, 14, .inl f0))]) [1, 2] rfl
  have hDc := hD.sub (ws' := [(h10, .inr (10, [.int 2, .int 7, .ref h14, .int 7])), (h14, .inl (g.2.1 0, 14, .inl f0))]) [1, 2] (by decide) rfl
  have hFc := va_free (wc := [(h10, .inr (10, [.int 2, .int 7, .ref h14, .int 7])), (h14, .inl (g.2.1 0, 14, .inl f0))]) hD hS hA [1, 2] rfl
  refine va_calli (va_runV (As := [.int 0, .int 1]) (rest := []) ⟨hx, hb, hml, hown, hts⟩ (c9_X9_get_3 l g h10 h14 _ f0) (cwV 2 hts g9_X11_group_3_0 rfl rfl rfl (by decide +kernel) ⟨Nat.le_of_ble_eq_true rfl, Nat.le_of_ble_eq_true rfl⟩) (mPreV (g := g) (wc := [(h10, .inr (10, [.int 2, .int 7, .ref h14, .int 7])), (h14, .inl (g.2.1 0, 14, .inl f0))]) (C := RX9) (ci := 10) (q0 := 0) hE hS hPc hDc hFc rfl rfl) rfl rfl hl.1 rfl (lv_room (Nat.le_of_ble_eq_true rfl)) dX11_group_34 ⟨Nat.le_of_ble_eq_true rfl, Nat.le_of_ble_eq_true rfl⟩) hS (fun q _ h => hFc q h) hFc (fun r_1 u t H1 locs ht hvm hw hB hz1 hk1 hS => ?_)
  replace hw : (f0 1) = r_1 := Eq.symm hw
  subst hw
  obtain ⟨hP1, hD1⟩ := hB
  rw [ht] at hP1
  obtain ⟨hP, hD⟩ := va_join (wr := [(h0, .inr (12, [.ref h1, .int 0, .ref h2, .ref h3, .ref h4, .ref h5, .ref h6, .ref h7, .int (-1), .ref h8, .ref h9, .int 250, .ref h10, .int 0, .ref h11, .ref h12, .ref h13]))]) (w1 := [(h10, .inr (10, [.int 2, .int 7, .ref h14, .int 7])), (h14, .inl (g.2.1 0, 14, .inl f0))]) hP hD [1, 2] [0] rfl rfl (by decide) (by decide) hk1 hFc hP1 hD1
  clear hP1 hD1 hPc hDc hFc hk1 hz1 hvm ht
  generalize H1 = H at hP hS ⊢
  have hP : va_P g.1 vwCl [(h0, .inr (12, [.ref h1, .int 0, .ref h2, .ref h3, .ref h4, .ref h5, .ref h6, .ref h7, .int (-1), .ref h8, .ref h9, .int 250, .ref h10, .int 0, .ref h11, .ref h12, .ref h13])), (h10, .inr (10, [.int 2, .int 7, .ref h14, .int 7])), (h14, .inl (g.2.1 0, 14, .inl f0))] H := hP
  have hD : va_D A [(h0, .inr (12, [.ref h1, .int 0, .ref h2, .ref h3, .ref h4, .ref h5, .ref h6, .ref h7, .int (-1), .ref h8, .ref h9, .int 250, .ref h10, .int 0, .ref h11, .ref h12, .ref h13])), (h10, .inr (10, [.int 2, .int 7, .ref h14, .int 7])), (h14, .inl (g.2.1 0, 14, .inl f0))] := hD
  refine e_top (y := (f0 1)) (by rfl) ?_
  have hP9 := hP.sub (ws' := [(h0, .inr (12, [.ref h1, .int 0, .ref h2, .ref h3, .ref h4, .ref h5, .ref h6, .ref h7, .int (-1), .ref h8, .ref h9, .int 250, .ref h10, .int 0, .ref h11, .ref h12, .ref h13])), (h10, .inr (10, [.int 2, .int 7, .ref h14, .int 7])), (h14, .inl (g.2.1 0, 14, .inl f0))]) [0, 1, 2] rfl
  have hD9 := hD.sub (ws' := [(h0, .inr (12, [.ref h1, .int 0, .ref h2, .ref h3, .ref h4, .ref h5, .ref h6, .ref h7, .int (-1), .ref h8, .ref h9, .int 250, .ref h10, .int 0, .ref h11, .ref h12, .ref h13])), (h10, .inr (10, [.int 2, .int 7, .ref h14, .int 7])), (h14, .inl (g.2.1 0, 14, .inl f0))]) [0, 1, 2] (by decide) rfl
  subst hAe
  exact W.iret (v := (f0 1)) hx hb hr (fun t ht hW => ⟨⟨(f0 1), (), rfl, rfl, by rw [ht]; exact hP9, hD9⟩, hS.F ht⟩) hS.2.2 dX11_group_37
def w9_L_group_4 : List Cond := [.codeWith yL_group cL_group 5 (some .int) [(0, 10, 13, 21)], .methodLink RL 47 yX11_group, .instanceMethod yX11_group, .selects RX11 yX11_group yX11_group, .initialized RX11, .code yX11_group cX11_group 3 (some .int), .fieldLink RX11 78 "Regexloom" "bounds" "LRegexloom$Table;", .methodLink RX11 225 yX9_get, .instanceMethod yX9_get, .selects RX9 yX9_get yX9_get, .initialized RX9, .code yX9_get cX9_get 3 (some .int), .fieldLink RX9 28 "Regexloom$Table" "size" "I", .fieldLink RX9 9 "Regexloom$Table" "width" "I", .fieldLink RX9 24 "Regexloom$Table" "cells" "[I"] ++ (u_ws RX11 TX11 17 ++ u_ws RX9 TX9 4)
set_option maxRecDepth 20000 in
theorem in9_L_group_4_RX11 : ∀ w ∈ u_ws RX11 TX11 17, w ∈ w9_L_group_4 := by decide +kernel
set_option maxRecDepth 20000 in
theorem in9_L_group_4_RX9 : ∀ w ∈ u_ws RX9 TX9 4, w ∈ w9_L_group_4 := by decide +kernel
set_option maxRecDepth 20000 in
theorem g9_L_group_4_0 : GoodIn w9_L_group_4 (wsV RL 47 RX11 yX11_group w9_X11_group_3) := goodIn_r _ [1, 2, 3, 4, 5, 6, 7, 8, 9, 10, 11, 12, 13, 14, 15, 16, 17, 18, 19, 20, 21, 22, 23, 24, 25, 26, 27, 28, 29, 30, 31, 32, 33, 34, 35] (by decide +kernel) (by decide +kernel)
set_option maxHeartbeats 4000000 in
set_option maxRecDepth 100000 in
theorem c9_L_group_4 (l : Launch) (g : G9) (h0 h1 h2 h3 h4 h5 h6 h7 h8 h9 h10 h11 h12 h13 h14 h15 sz : Nat) : Met l yL_group w9_L_group_4 ({ frames := 2, cells := 0, slots := 0, locals := 44 }) (mP g [(h0, .inr (12, [.ref h2, .int 0, .ref h3, .ref h4, .ref h5, .ref h6, .ref h7, .ref h8, .int (-1), .ref h9, .ref h10, .int 250, .ref h11, .int 0, .ref h12, .ref h13, .ref h14])), (h11, .inr (10, [.int 2, .int 7, .ref h15, .int 7])), (h15, .inl (g.2.1 0, 14, .inl (upd (upd (upd (upd (upd (upd (upd (upd (upd (upd (upd (upd (upd (upd (fun _ => 0) 0 (-1)) 1 (-1)) 2 (-1)) 3 (-1)) 4 (-1)) 5 (-1)) 6 (-1)) 7 (-1)) 8 (-1)) 9 (-1)) 10 (-1)) 11 (-1)) 12 (-1)) 13 (-1)))), (h1, .inl (g.2.1 2, 1, .inr (.inl (fun _ => 0))))] sz [.ref h0, .int 0, .int 1, .ref h1]) (va_Qi (fun (r : Int32) (_ : Unit) => r = 0) (fun (_ : Unit) (t : State) => mB g [(h0, .inr (12, [.ref h2, .int 0, .ref h3, .ref h4, .ref h5, .ref h6, .ref h7, .ref h8, .int (-1), .ref h9, .ref h10, .int 250, .ref h11, .int 0, .ref h12, .ref h13, .ref h14])), (h11, .inr (10, [.int 2, .int 7, .ref h15, .int 7])), (h15, .inl (g.2.1 0, 14, .inl (upd (upd (upd (upd (upd (upd (upd (upd (upd (upd (upd (upd (upd (upd (fun _ => 0) 0 (-1)) 1 (-1)) 2 (-1)) 3 (-1)) 4 (-1)) 5 (-1)) 6 (-1)) 7 (-1)) 8 (-1)) 9 (-1)) 10 (-1)) 11 (-1)) 12 (-1)) 13 (-1)))), (h1, .inl (g.2.1 2, 1, .inr (.inl (fun _ => 0))))] sz [(h0, .inr (12, [.ref h2, .int 0, .ref h3, .ref h4, .ref h5, .ref h6, .ref h7, .ref h8, .int (-1), .ref h9, .ref h10, .int 250, .ref h11, .int 0, .ref h12, .ref h13, .ref h14])), (h11, .inr (10, [.int 2, .int 7, .ref h15, .int 7])), (h15, .inl (g.2.1 0, 14, .inl (upd (upd (upd (upd (upd (upd (upd (upd (upd (upd (upd (upd (upd (upd (fun _ => 0) 0 (-1)) 1 (-1)) 2 (-1)) 3 (-1)) 4 (-1)) 5 (-1)) 6 (-1)) 7 (-1)) 8 (-1)) 9 (-1)) 10 (-1)) 11 (-1)) 12 (-1)) 13 (-1)))), (h1, .inl (g.2.1 2, 1, .inr (.inl (vp_updL (fun _ => 0) 0 (-1)))))] t) (va_A [(h0, .inr (12, [.ref h2, .int 0, .ref h3, .ref h4, .ref h5, .ref h6, .ref h7, .ref h8, .int (-1), .ref h9, .ref h10, .int 250, .ref h11, .int 0, .ref h12, .ref h13, .ref h14])), (h11, .inr (10, [.int 2, .int 7, .ref h15, .int 7])), (h15, .inl (g.2.1 0, 14, .inl (upd (upd (upd (upd (upd (upd (upd (upd (upd (upd (upd (upd (upd (upd (fun _ => 0) 0 (-1)) 1 (-1)) 2 (-1)) 3 (-1)) 4 (-1)) 5 (-1)) 6 (-1)) 7 (-1)) 8 (-1)) 9 (-1)) 10 (-1)) 11 (-1)) 12 (-1)) 13 (-1)))), (h1, .inl (g.2.1 2, 1, .inr (.inl (fun _ => 0))))] sz)) 0 0 (va_A [(h0, .inr (12, [.ref h2, .int 0, .ref h3, .ref h4, .ref h5, .ref h6, .ref h7, .ref h8, .int (-1), .ref h9, .ref h10, .int 250, .ref h11, .int 0, .ref h12, .ref h13, .ref h14])), (h11, .inr (10, [.int 2, .int 7, .ref h15, .int 7])), (h15, .inl (g.2.1 0, 14, .inl (upd (upd (upd (upd (upd (upd (upd (upd (upd (upd (upd (upd (upd (upd (fun _ => 0) 0 (-1)) 1 (-1)) 2 (-1)) 3 (-1)) 4 (-1)) 5 (-1)) 6 (-1)) 7 (-1)) 8 (-1)) 9 (-1)) 10 (-1)) 11 (-1)) 12 (-1)) 13 (-1)))), (h1, .inl (g.2.1 2, 1, .inr (.inl (fun _ => 0))))] sz) := by
  refine va_MetW (cc := cL_group) (maxL := 5) (ret := (some .int)) (by decide) rfl ?_
  intro p e s m args below meth c s₁ B hml hv
  obtain ⟨rfl, hsz, hP, hD0, hE⟩ := hv
  have hx := B.exec
  have hb := B.bytes
  have hr := B.returns
  have hts := atoms_spec (ws := w9_L_group_4) B.pre
  have hown : s.vm.findClass RL = some m.cls := findClass_of_methodNamed B.named
  have hlocks := B.notSynchronized
  have htab := vx_table (x := yL_group) B (hts (.codeWith yL_group cL_group 5 (some .int) [(0, 10, 13, 21)]) (List.mem_of_getElem? (i := 0) rfl))
  subst hsz
  have hD := hD0.self (sz := s.heap.size)
  generalize hAe : va_A [(h0, .inr (12, [.ref h2, .int 0, .ref h3, .ref h4, .ref h5, .ref h6, .ref h7, .ref h8, .int (-1), .ref h9, .ref h10, .int 250, .ref h11, .int 0, .ref h12, .ref h13, .ref h14])), (h11, .inr (10, [.int 2, .int 7, .ref h15, .int 7])), (h15, .inl (g.2.1 0, 14, .inl (upd (upd (upd (upd (upd (upd (upd (upd (upd (upd (upd (upd (upd (upd (fun _ => 0) 0 (-1)) 1 (-1)) 2 (-1)) 3 (-1)) 4 (-1)) 5 (-1)) 6 (-1)) 7 (-1)) 8 (-1)) 9 (-1)) 10 (-1)) 11 (-1)) 12 (-1)) 13 (-1)))), (h1, .inl (g.2.1 2, 1, .inr (.inl (fun _ => 0))))] s.heap.size = A at hD hE ⊢
  have hA : ∀ q : Nat, s.heap.size ≤ q → A q := fun q h => by rw [← hAe]; exact Or.inr h
  have hK := hE.1
  have hS : va_S A s.heap s.heap [] := va_S.rf
  replace hP : va_P g.1 vwCl [(h0, .inr (12, [.ref h2, .int 0, .ref h3, .ref h4, .ref h5, .ref h6, .ref h7, .ref h8, .int (-1), .ref h9, .ref h10, .int 250, .ref h11, .int 0, .ref h12, .ref h13, .ref h14])), (h11, .inr (10, [.int 2, .int 7, .ref h15, .int 7])), (h15, .inl (g.2.1 0, 14, .inl (upd (upd (upd (upd (upd (upd (upd (upd (upd (upd (upd (upd (upd (upd (fun _ => 0) 0 (-1)) 1 (-1)) 2 (-1)) 3 (-1)) 4 (-1)) 5 (-1)) 6 (-1)) 7 (-1)) 8 (-1)) 9 (-1)) 10 (-1)) 11 (-1)) 12 (-1)) 13 (-1)))), (h1, .inl (g.2.1 2, 1, .inr (.inl (fun _ => 0))))] s.heap := hP
  have hl := lv_entry ([.ref h0, .int 0, .int 1, .ref h1]) (n := 5) (Nat.le_of_ble_eq_true rfl)
  rw [lg_entry_eq]
  generalize (lg_sl ([.ref h0, .int 0, .int 1, .ref h1]) ++ List.replicate (5 - (lg_sl ([.ref h0, .int 0, .int 1, .ref h1])).length) Slot.unset).toArray = ls at hl ⊢
  replace hl : lv_has ls 5 [(0, .ref h0), (1, .int 0), (2, .int 1), (3, .ref h1)] := hl
  have hH0 : s.heap.size ≤ s.heap.size := Nat.le_refl _
  refine lv_aload_n hx hb dL_group_0 rfl (lv_at hl 3 rfl) ?_
  refine lv_iconst (v := 0) hx hb dL_group_1 (by decide) ?_
  refine lv_aload_n hx hb dL_group_2 rfl (lv_at hl 0 rfl) ?_
  refine lv_iload_n hx hb dL_group_3 rfl (lv_at hl 1 rfl) ?_
  refine lv_iload_n hx hb dL_group_4 rfl (lv_at hl 2 rfl) ?_
  have hPc := hP.sub (ws' := [(h0, .inr (12, [.ref h2, .int 0, .ref h3, .ref h4, .ref h5, .ref h6, .ref h7, .ref h8, .int (-1), .ref h9, .ref h10, .int 250, .ref h11, .int 0, .ref h12, .ref h13, .ref h14])), (h11, .inr (10, [.int 2, .int 7, .ref h15, .int 7])), (h15, .inl (g.2.1 0, 14, .inl (upd (upd (upd (upd (upd (upd (upd (upd (upd (upd (upd (upd (upd (upd (fun _ => 0) 0 (-1)) 1 (-1)) 2 (-1)) 3 (-1)) 4 (-1)) 5 (-1)) 6 (-1)) 7 (-1)) 8 (-1)) 9 (-1)) 10 (-1)) 11 (-1)) 12 (-1)) 13 (-1))))]) [0, 1, 2] rfl
  have hDc := hD.sub (ws' := [(h0, .inr (12, [.ref h2, .int 0, .ref h3, .ref h4, .ref h5, .ref h6, .ref h7, .ref h8, .int (-1), .ref h9, .ref h10, .int 250, .ref h11, .int 0, .ref h12, .ref h13, .ref h14])), (h11, .inr (10, [.int 2, .int 7, .ref h15, .int 7])), (h15, .inl (g.2.1 0, 14, .inl (upd (upd (upd (upd (upd (upd (upd (upd (upd (upd (upd (upd (upd (upd (fun _ => 0) 0 (-1)) 1 (-1)) 2 (-1)) 3 (-1)) 4 (-1)) 5 (-1)) 6 (-1)) 7 (-1)) 8 (-1)) 9 (-1)) 10 (-1)) 11 (-1)) 12 (-1)) 13 (-1))))]) [0, 1, 2] (by decide) rfl
  have hFc := va_free (wc := [(h0, .inr (12, [.ref h2, .int 0, .ref h3, .ref h4, .ref h5, .ref h6, .ref h7, .ref h8, .int (-1), .ref h9, .ref h10, .int 250, .ref h11, .int 0, .ref h12, .ref h13, .ref h14])), (h11, .inr (10, [.int 2, .int 7, .ref h15, .int 7])), (h15, .inl (g.2.1 0, 14, .inl (upd (upd (upd (upd (upd (upd (upd (upd (upd (upd (upd (upd (upd (upd (fun _ => 0) 0 (-1)) 1 (-1)) 2 (-1)) 3 (-1)) 4 (-1)) 5 (-1)) 6 (-1)) 7 (-1)) 8 (-1)) 9 (-1)) 10 (-1)) 11 (-1)) 12 (-1)) 13 (-1))))]) hD hS hA [0, 1, 2] rfl
  refine va_calli (va_runV (As := [.int 0, .int 1]) (rest := [.int 0, .ref h1]) ⟨hx, hb, hml, hown, hts⟩ (c9_X11_group_3 l g h0 h2 h3 h4 h5 h6 h7 h8 h9 h10 h11 h12 h13 h14 h15 _ (upd (upd (upd (upd (upd (upd (upd (upd (upd (upd (upd (upd (upd (upd (fun _ => 0) 0 (-1)) 1 (-1)) 2 (-1)) 3 (-1)) 4 (-1)) 5 (-1)) 6 (-1)) 7 (-1)) 8 (-1)) 9 (-1)) 10 (-1)) 11 (-1)) 12 (-1)) 13 (-1))) (cwV 2 hts g9_L_group_4_0 rfl rfl rfl (by decide +kernel) ⟨Nat.le_of_ble_eq_true rfl, Nat.le_of_ble_eq_true rfl⟩) (mPreV (g := g) (wc := [(h0, .inr (12, [.ref h2, .int 0, .ref h3, .ref h4, .ref h5, .ref h6, .ref h7, .ref h8, .int (-1), .ref h9, .ref h10, .int 250, .ref h11, .int 0, .ref h12, .ref h13, .ref h14])), (h11, .inr (10, [.int 2, .int 7, .ref h15, .int 7])), (h15, .inl (g.2.1 0, 14, .inl (upd (upd (upd (upd (upd (upd (upd (upd (upd (upd (upd (upd (upd (upd (fun _ => 0) 0 (-1)) 1 (-1)) 2 (-1)) 3 (-1)) 4 (-1)) 5 (-1)) 6 (-1)) 7 (-1)) 8 (-1)) 9 (-1)) 10 (-1)) 11 (-1)) 12 (-1)) 13 (-1))))]) (C := RX11) (ci := 12) (q0 := 0) hE hS hPc hDc hFc rfl rfl) rfl rfl hl.1 rfl (lv_room (Nat.le_of_ble_eq_true rfl)) dL_group_5 ⟨Nat.le_of_ble_eq_true rfl, Nat.le_of_ble_eq_true rfl⟩) hS (fun q _ h => hFc q h) hFc (fun r_1 u t H1 locs ht hvm hw hB hz1 hk1 hS => ?_)
  replace hw : ((upd (upd (upd (upd (upd (upd (upd (upd (upd (upd (upd (upd (upd (upd (fun _ => 0) 0 (-1)) 1 (-1)) 2 (-1)) 3 (-1)) 4 (-1)) 5 (-1)) 6 (-1)) 7 (-1)) 8 (-1)) 9 (-1)) 10 (-1)) 11 (-1)) 12 (-1)) 13 (-1)) 1) = r_1 := Eq.symm hw
  subst hw
  obtain ⟨hP1, hD1⟩ := hB
  rw [ht] at hP1
  obtain ⟨hP, hD⟩ := va_join (wr := [(h1, .inl (g.2.1 2, 1, .inr (.inl (fun _ => 0))))]) (w1 := [(h0, .inr (12, [.ref h2, .int 0, .ref h3, .ref h4, .ref h5, .ref h6, .ref h7, .ref h8, .int (-1), .ref h9, .ref h10, .int 250, .ref h11, .int 0, .ref h12, .ref h13, .ref h14])), (h11, .inr (10, [.int 2, .int 7, .ref h15, .int 7])), (h15, .inl (g.2.1 0, 14, .inl (upd (upd (upd (upd (upd (upd (upd (upd (upd (upd (upd (upd (upd (upd (fun _ => 0) 0 (-1)) 1 (-1)) 2 (-1)) 3 (-1)) 4 (-1)) 5 (-1)) 6 (-1)) 7 (-1)) 8 (-1)) 9 (-1)) 10 (-1)) 11 (-1)) 12 (-1)) 13 (-1))))]) hP hD [0, 1, 2] [3] rfl rfl (by decide) (by decide) hk1 hFc hP1 hD1
  clear hP1 hD1 hPc hDc hFc hk1 hz1 hvm ht
  generalize H1 = H at hP hS ⊢
  have hP : va_P g.1 vwCl [(h1, .inl (g.2.1 2, 1, .inr (.inl (fun _ => 0)))), (h0, .inr (12, [.ref h2, .int 0, .ref h3, .ref h4, .ref h5, .ref h6, .ref h7, .ref h8, .int (-1), .ref h9, .ref h10, .int 250, .ref h11, .int 0, .ref h12, .ref h13, .ref h14])), (h11, .inr (10, [.int 2, .int 7, .ref h15, .int 7])), (h15, .inl (g.2.1 0, 14, .inl (upd (upd (upd (upd (upd (upd (upd (upd (upd (upd (upd (upd (upd (upd (fun _ => 0) 0 (-1)) 1 (-1)) 2 (-1)) 3 (-1)) 4 (-1)) 5 (-1)) 6 (-1)) 7 (-1)) 8 (-1)) 9 (-1)) 10 (-1)) 11 (-1)) 12 (-1)) 13 (-1))))] H := hP
  have hD : va_D A [(h1, .inl (g.2.1 2, 1, .inr (.inl (fun _ => 0)))), (h0, .inr (12, [.ref h2, .int 0, .ref h3, .ref h4, .ref h5, .ref h6, .ref h7, .ref h8, .int (-1), .ref h9, .ref h10, .int 250, .ref h11, .int 0, .ref h12, .ref h13, .ref h14])), (h11, .inr (10, [.int 2, .int 7, .ref h15, .int 7])), (h15, .inl (g.2.1 0, 14, .inl (upd (upd (upd (upd (upd (upd (upd (upd (upd (upd (upd (upd (upd (upd (fun _ => 0) 0 (-1)) 1 (-1)) 2 (-1)) 3 (-1)) 4 (-1)) 5 (-1)) 6 (-1)) 7 (-1)) 8 (-1)) 9 (-1)) 10 (-1)) 11 (-1)) 12 (-1)) 13 (-1))))] := hD
  refine e_top (y := (-1)) (by rfl) ?_
  refine lv_i2l (v := (-1)) hx hb dL_group_8 (by decide) ?_
  refine va_last hx hb hK hP hD hS 0 2 rfl rfl (vp_in_nI (n := 0) (by decide) (by decide)) dL_group_9 (fun H locs hP hD hS => ?_)
  have hP : va_P g.1 vwCl [(h1, .inl (g.2.1 2, 1, .inr (.inl (vp_updL (fun _ => 0) 0 (-1))))), (h0, .inr (12, [.ref h2, .int 0, .ref h3, .ref h4, .ref h5, .ref h6, .ref h7, .ref h8, .int (-1), .ref h9, .ref h10, .int 250, .ref h11, .int 0, .ref h12, .ref h13, .ref h14])), (h11, .inr (10, [.int 2, .int 7, .ref h15, .int 7])), (h15, .inl (g.2.1 0, 14, .inl (upd (upd (upd (upd (upd (upd (upd (upd (upd (upd (upd (upd (upd (upd (fun _ => 0) 0 (-1)) 1 (-1)) 2 (-1)) 3 (-1)) 4 (-1)) 5 (-1)) 6 (-1)) 7 (-1)) 8 (-1)) 9 (-1)) 10 (-1)) 11 (-1)) 12 (-1)) 13 (-1))))] H := hP
  have hD : va_D A [(h1, .inl (g.2.1 2, 1, .inr (.inl (vp_updL (fun _ => 0) 0 (-1))))), (h0, .inr (12, [.ref h2, .int 0, .ref h3, .ref h4, .ref h5, .ref h6, .ref h7, .ref h8, .int (-1), .ref h9, .ref h10, .int 250, .ref h11, .int 0, .ref h12, .ref h13, .ref h14])), (h11, .inr (10, [.int 2, .int 7, .ref h15, .int 7])), (h15, .inl (g.2.1 0, 14, .inl (upd (upd (upd (upd (upd (upd (upd (upd (upd (upd (upd (upd (upd (upd (fun _ => 0) 0 (-1)) 1 (-1)) 2 (-1)) 3 (-1)) 4 (-1)) 5 (-1)) 6 (-1)) 7 (-1)) 8 (-1)) 9 (-1)) 10 (-1)) 11 (-1)) 12 (-1)) 13 (-1))))] := hD
  refine lv_goto (tgt := 17) hx hb dL_group_10 (by decide) ?_
  refine lv_iconst (v := 0) hx hb dL_group_17 (by decide) ?_
  have hP9 := hP.sub (ws' := [(h0, .inr (12, [.ref h2, .int 0, .ref h3, .ref h4, .ref h5, .ref h6, .ref h7, .ref h8, .int (-1), .ref h9, .ref h10, .int 250, .ref h11, .int 0, .ref h12, .ref h13, .ref h14])), (h11, .inr (10, [.int 2, .int 7, .ref h15, .int 7])), (h15, .inl (g.2.1 0, 14, .inl (upd (upd (upd (upd (upd (upd (upd (upd (upd (upd (upd (upd (upd (upd (fun _ => 0) 0 (-1)) 1 (-1)) 2 (-1)) 3 (-1)) 4 (-1)) 5 (-1)) 6 (-1)) 7 (-1)) 8 (-1)) 9 (-1)) 10 (-1)) 11 (-1)) 12 (-1)) 13 (-1)))), (h1, .inl (g.2.1 2, 1, .inr (.inl (vp_updL (fun _ => 0) 0 (-1)))))]) [1, 2, 3, 0] rfl
  have hD9 := hD.sub (ws' := [(h0, .inr (12, [.ref h2, .int 0, .ref h3, .ref h4, .ref h5, .ref h6, .ref h7, .ref h8, .int (-1), .ref h9, .ref h10, .int 250, .ref h11, .int 0, .ref h12, .ref h13, .ref h14])), (h11, .inr (10, [.int 2, .int 7, .ref h15, .int 7])), (h15, .inl (g.2.1 0, 14, .inl (upd (upd (upd (upd (upd (upd (upd (upd (upd (upd (upd (upd (upd (upd (fun _ => 0) 0 (-1)) 1 (-1)) 2 (-1)) 3 (-1)) 4 (-1)) 5 (-1)) 6 (-1)) 7 (-1)) 8 (-1)) 9 (-1)) 10 (-1)) 11 (-1)) 12 (-1)) 13 (-1)))), (h1, .inl (g.2.1 2, 1, .inr (.inl (vp_updL (fun _ => 0) 0 (-1)))))]) [1, 2, 3, 0] (by decide) rfl
  subst hAe
  exact W.iret (v := 0) hx hb hr (fun t ht hW => ⟨⟨0, (), rfl, rfl, by rw [ht]; exact hP9, hD9⟩, hS.F ht⟩) hS.2.2 dL_group_18
def w9_X21_in_16 : List Cond := [.code yX21_in cX21_in 3 (some .boolean)]
set_option maxHeartbeats 4000000 in
set_option maxRecDepth 100000 in
theorem c9_X21_in_16 (l : Launch) (g : G9) (sz : Nat) : Met l yX21_in w9_X21_in_16 ({ frames := 0, cells := 0, slots := 0, locals := 0 }) (mP g [] sz [.int 0, .int 0, .int 6]) (va_Qi (fun (r : Int32) (_ : Unit) => r = 1) (fun (_ : Unit) (t : State) => mB g [] sz [] t) (va_A [] sz)) 0 0 (va_A [] sz) := by
  refine Met.ofW (cc := cX21_in) (maxL := 3) (ret := (some .boolean)) (by decide) rfl ?_
  intro p e s m args below meth c s₁ B hml hv
  obtain ⟨rfl, hsz, hP, hD0, hE⟩ := hv
  have hx := B.exec
  have hb := B.bytes
  have hr := B.returns
  have hts := atoms_spec (ws := w9_X21_in_16) B.pre
  have hown : s.vm.findClass RX21 = some m.cls := findClass_of_methodNamed B.named
  have hlocks := B.notSynchronized
  subst hsz
  have hD := hD0.self (sz := s.heap.size)
  generalize hAe : va_A [] s.heap.size = A at hD hE ⊢
  have hA : ∀ q : Nat, s.heap.size ≤ q → A q := fun q h => by rw [← hAe]; exact Or.inr h
  have hK := hE.1
  have hS : va_S A s.heap s.heap [] := va_S.rf
  replace hP : va_P g.1 vwCl [] s.heap := hP
  have hl := lv_entry ([.int 0, .int 0, .int 6]) (n := 3) (Nat.le_of_ble_eq_true rfl)
  rw [lg_entry_eq]
  generalize (lg_sl ([.int 0, .int 0, .int 6]) ++ List.replicate (3 - (lg_sl ([.int 0, .int 0, .int 6])).length) Slot.unset).toArray = ls at hl ⊢
  replace hl : lv_has ls 3 [(0, .int 0), (1, .int 0), (2, .int 6)] := hl
  have hH0 : s.heap.size ≤ s.heap.size := Nat.le_refl _
  refine lv_iload_n hx hb dX21_in_0 rfl (lv_at hl 0 rfl) ?_
  refine lv_iload_n hx hb dX21_in_1 rfl (lv_at hl 1 rfl) ?_
  refine lv_icmp_lt (tgt := 14) hx hb dX21_in_2 (by decide) (fun c9 => absurd c9 (by decide)) (fun _ => ?_)
  refine lv_iload_n hx hb dX21_in_5 rfl (lv_at hl 0 rfl) ?_
  refine lv_iload_n hx hb dX21_in_6 rfl (lv_at hl 2 rfl) ?_
  refine lv_icmp_gt (tgt := 14) hx hb dX21_in_7 (by decide) (fun c9 => absurd c9 (by decide)) (fun _ => ?_)
  refine lv_iconst (v := 1) hx hb dX21_in_10 (by decide) ?_
  refine lv_goto (tgt := 15) hx hb dX21_in_11 (by decide) ?_
  have hP9 := hP.sub (ws' := []) [] rfl
  have hD9 := hD.sub (ws' := []) [] (by decide) rfl
  subst hAe
  exact W.zret (v := 1) hx hb hr (by decide) (fun t ht hW => ⟨⟨1, (), rfl, rfl, by rw [ht]; exact hP9, hD9⟩, hS.F ht⟩) hS.2.2 dX21_in_15
def w9_X21_group_3 : List Cond := [.code yX21_group cX21_group 3 (some .int), .methodLink RX21 160 yX21_in, .static yX21_in, .initialized RX21, .code yX21_in cX21_in 3 (some .boolean), .methodLink RX21 154 yX21_refused, .instanceMethod yX21_refused, .selects RX21 yX21_refused yX21_refused, .code yX21_refused cX21_refused 2 (some .boolean), .fieldLink RX21 144 "RegexloomModel" "refusal" "I", .fieldLink RX21 107 "RegexloomModel" "told" "[I"] ++ (u_ws RX21 TX21 32)
set_option maxRecDepth 20000 in
theorem in9_X21_group_3_RX21 : ∀ w ∈ u_ws RX21 TX21 32, w ∈ w9_X21_group_3 := by decide +kernel
set_option maxRecDepth 20000 in
theorem g9_X21_group_3_0 : GoodIn w9_X21_group_3 (va_wsS RX21 160 yX21_in w9_X21_in_16) := goodIn_r _ [1, 2, 3, 4] (by decide +kernel) (by decide +kernel)
set_option maxRecDepth 20000 in
theorem g9_X21_group_3_1 : GoodIn w9_X21_group_3 (wsV RX21 154 RX21 yX21_refused w9_X21_refused_1) := goodIn_r _ [5, 6, 7, 3, 8, 9, 11, 12, 13, 14, 15, 16, 17, 18, 19, 20, 21, 22, 23, 24, 25, 26, 27, 28, 29, 30, 31, 32, 33, 34, 35, 36, 37, 38, 39, 40, 41, 42] (by decide +kernel) (by decide +kernel)
set_option maxHeartbeats 4000000 in
set_option maxRecDepth 100000 in
theorem c9_X21_group_3 (l : Launch) (g : G9) (h0 h1 h2 h3 h4 h5 h6 h7 h8 h9 h10 h11 h12 h13 h14 h15 h16 sz : Nat) (f0 : Nat → Int32) : Met l yX21_group w9_X21_group_3 ({ frames := 1, cells := 0, slots := 0, locals := 22 }) (mP g [(h0, .inr (22, [.int 0, .ref h1, .int 0, .ref h2, .int 0, .ref h3, .int 250, .ref h4, .int 0, .ref h5, .ref h6, .ref h7, .int 0, .ref h8, .ref h9, .ref h10, .int 0, .null, .int 0, .null, .int 0, .int 0, .int 0, .ref h11, .int 0, .ref h12, .ref h13, .ref h14, .int 0, .ref h15, .ref h16, .int 0])), (h7, .inl (g.2.1 0, 14, .inl f0))] sz [.ref h0, .int 0, .int 1]) (va_Qi (fun (r : Int32) (_ : Unit) => r = (f0 1)) (fun (_ : Unit) (t : State) => mB g [(h0, .inr (22, [.int 0, .ref h1, .int 0, .ref h2, .int 0, .ref h3, .int 250, .ref h4, .int 0, .ref h5, .ref h6, .ref h7, .int 0, .ref h8, .ref h9, .ref h10, .int 0, .null, .int 0, .null, .int 0, .int 0, .int 0, .ref h11, .int 0, .ref h12, .ref h13, .ref h14, .int 0, .ref h15, .ref h16, .int 0])), (h7, .inl (g.2.1 0, 14, .inl f0))] sz [(h0, .inr (22, [.int 0, .ref h1, .int 0, .ref h2, .int 0, .ref h3, .int 250, .ref h4, .int 0, .ref h5, .ref h6, .ref h7, .int 0, .ref h8, .ref h9, .ref h10, .int 0, .null, .int 0, .null, .int 0, .int 0, .int 0, .ref h11, .int 0, .ref h12, .ref h13, .ref h14, .int 0, .ref h15, .ref h16, .int 0])), (h7, .inl (g.2.1 0, 14, .inl f0))] t) (va_A [(h0, .inr (22, [.int 0, .ref h1, .int 0, .ref h2, .int 0, .ref h3, .int 250, .ref h4, .int 0, .ref h5, .ref h6, .ref h7, .int 0, .ref h8, .ref h9, .ref h10, .int 0, .null, .int 0, .null, .int 0, .int 0, .int 0, .ref h11, .int 0, .ref h12, .ref h13, .ref h14, .int 0, .ref h15, .ref h16, .int 0])), (h7, .inl (g.2.1 0, 14, .inl f0))] sz)) 0 0 (va_A [(h0, .inr (22, [.int 0, .ref h1, .int 0, .ref h2, .int 0, .ref h3, .int 250, .ref h4, .int 0, .ref h5, .ref h6, .ref h7, .int 0, .ref h8, .ref h9, .ref h10, .int 0, .null, .int 0, .null, .int 0, .int 0, .int 0, .ref h11, .int 0, .ref h12, .ref h13, .ref h14, .int 0, .ref h15, .ref h16, .int 0])), (h7, .inl (g.2.1 0, 14, .inl f0))] sz) := by
  refine Met.ofW (cc := cX21_group) (maxL := 3) (ret := (some .int)) (by decide) rfl ?_
  intro p e s m args below meth c s₁ B hml hv
  obtain ⟨rfl, hsz, hP, hD0, hE⟩ := hv
  have hx := B.exec
  have hb := B.bytes
  have hr := B.returns
  have hts := atoms_spec (ws := w9_X21_group_3) B.pre
  have hown : s.vm.findClass RX21 = some m.cls := findClass_of_methodNamed B.named
  have hlocks := B.notSynchronized
  subst hsz
  have hD := hD0.self (sz := s.heap.size)
  generalize hAe : va_A [(h0, .inr (22, [.int 0, .ref h1, .int 0, .ref h2, .int 0, .ref h3, .int 250, .ref h4, .int 0, .ref h5, .ref h6, .ref h7, .int 0, .ref h8, .ref h9, .ref h10, .int 0, .null, .int 0, .null, .int 0, .int 0, .int 0, .ref h11, .int 0, .ref h12, .ref h13, .ref h14, .int 0, .ref h15, .ref h16, .int 0])), (h7, .inl (g.2.1 0, 14, .inl f0))] s.heap.size = A at hD hE ⊢
  have hA : ∀ q : Nat, s.heap.size ≤ q → A q := fun q h => by rw [← hAe]; exact Or.inr h
  have hK := hE.1
  have hS : va_S A s.heap s.heap [] := va_S.rf
  replace hP : va_P g.1 vwCl [(h0, .inr (22, [.int 0, .ref h1, .int 0, .ref h2, .int 0, .ref h3, .int 250, .ref h4, .int 0, .ref h5, .ref h6, .ref h7, .int 0, .ref h8, .ref h9, .ref h10, .int 0, .null, .int 0, .null, .int 0, .int 0, .int 0, .ref h11, .int 0, .ref h12, .ref h13, .ref h14, .int 0, .ref h15, .ref h16, .int 0])), (h7, .inl (g.2.1 0, 14, .inl f0))] s.heap := hP
  have hl := lv_entry ([.ref h0, .int 0, .int 1]) (n := 3) (Nat.le_of_ble_eq_true rfl)
  rw [lg_entry_eq]
  generalize (lg_sl ([.ref h0, .int 0, .int 1]) ++ List.replicate (3 - (lg_sl ([.ref h0, .int 0, .int 1])).length) Slot.unset).toArray = ls at hl ⊢
  replace hl : lv_has ls 3 [(0, .ref h0), (1, .int 0), (2, .int 1)] := hl
  have hH0 : s.heap.size ≤ s.heap.size := Nat.le_refl _
  refine lv_aload_n hx hb dX21_group_0 rfl (lv_at hl 0 rfl) ?_
  refine lv_iload_n hx hb dX21_group_1 rfl (lv_at hl 1 rfl) ?_
  refine lv_iconst (v := 0) hx hb dX21_group_2 (by decide) ?_
  refine lv_bipush (v := 6) hx hb dX21_group_3 (by decide) ?_
  have hPc := hP.sub (ws' := []) [] rfl
  have hDc := hD.sub (ws' := []) [] (by decide) rfl
  have hFc := va_free (wc := []) hD hS hA [] rfl
  refine va_calli (va_runS (As := [.int 0, .int 0, .int 6]) (rest := [.ref h0]) ⟨hx, hb, hml, hown, hts⟩ (c9_X21_in_16 l g _) (va_cwS 3 hts g9_X21_group_3_0 rfl rfl rfl (by decide +kernel) ⟨Nat.le_of_ble_eq_true rfl, Nat.le_of_ble_eq_true rfl⟩) (mPreS (g := g) (wc := []) hE hS hPc hDc hFc) rfl rfl hl.1 rfl (lv_room (Nat.le_of_ble_eq_true rfl)) dX21_group_5 ⟨Nat.le_of_ble_eq_true rfl, Nat.le_of_ble_eq_true rfl⟩) hS (fun q _ h => hFc q h) hFc (fun r_1 u t H1 locs ht hvm hw hB hz1 hk1 hS => ?_)
  replace hw : 1 = r_1 := Eq.symm hw
  subst hw
  obtain ⟨hP1, hD1⟩ := hB
  rw [ht] at hP1
  obtain ⟨hP, hD⟩ := va_join (wr := [(h0, .inr (22, [.int 0, .ref h1, .int 0, .ref h2, .int 0, .ref h3, .int 250, .ref h4, .int 0, .ref h5, .ref h6, .ref h7, .int 0, .ref h8, .ref h9, .ref h10, .int 0, .null, .int 0, .null, .int 0, .int 0, .int 0, .ref h11, .int 0, .ref h12, .ref h13, .ref h14, .int 0, .ref h15, .ref h16, .int 0])), (h7, .inl (g.2.1 0, 14, .inl f0))]) (w1 := []) hP hD [] [0, 1] rfl rfl (by decide) (by decide) hk1 hFc hP1 hD1
  clear hP1 hD1 hPc hDc hFc hk1 hz1 hvm ht
  generalize H1 = H at hP hS ⊢
  have hP : va_P g.1 vwCl [(h0, .inr (22, [.int 0, .ref h1, .int 0, .ref h2, .int 0, .ref h3, .int 250, .ref h4, .int 0, .ref h5, .ref h6, .ref h7, .int 0, .ref h8, .ref h9, .ref h10, .int 0, .null, .int 0, .null, .int 0, .int 0, .int 0, .ref h11, .int 0, .ref h12, .ref h13, .ref h14, .int 0, .ref h15, .ref h16, .int 0])), (h7, .inl (g.2.1 0, 14, .inl f0))] H := hP
  have hD : va_D A [(h0, .inr (22, [.int 0, .ref h1, .int 0, .ref h2, .int 0, .ref h3, .int 250, .ref h4, .int 0, .ref h5, .ref h6, .ref h7, .int 0, .ref h8, .ref h9, .ref h10, .int 0, .null, .int 0, .null, .int 0, .int 0, .int 0, .ref h11, .int 0, .ref h12, .ref h13, .ref h14, .int 0, .ref h15, .ref h16, .int 0])), (h7, .inl (g.2.1 0, 14, .inl f0))] := hD
  refine lv_if_eq (tgt := 15) hx hb dX21_group_8 (by decide) (fun c9 => absurd c9 (by decide)) (fun _ => ?_)
  refine lv_iconst (v := 0) hx hb dX21_group_11 (by decide) ?_
  refine lv_goto (tgt := 16) hx hb dX21_group_12 (by decide) ?_
  have hPc := hP.sub (ws' := [(h0, .inr (22, [.int 0, .ref h1, .int 0, .ref h2, .int 0, .ref h3, .int 250, .ref h4, .int 0, .ref h5, .ref h6, .ref h7, .int 0, .ref h8, .ref h9, .ref h10, .int 0, .null, .int 0, .null, .int 0, .int 0, .int 0, .ref h11, .int 0, .ref h12, .ref h13, .ref h14, .int 0, .ref h15, .ref h16, .int 0]))]) [0] rfl
  have hDc := hD.sub (ws' := [(h0, .inr (22, [.int 0, .ref h1, .int 0, .ref h2, .int 0, .ref h3, .int 250, .ref h4, .int 0, .ref h5, .ref h6, .ref h7, .int 0, .ref h8, .ref h9, .ref h10, .int 0, .null, .int 0, .null, .int 0, .int 0, .int 0, .ref h11, .int 0, .ref h12, .ref h13, .ref h14, .int 0, .ref h15, .ref h16, .int 0]))]) [0] (by decide) rfl
  have hFc := va_free (wc := [(h0, .inr (22, [.int 0, .ref h1, .int 0, .ref h2, .int 0, .ref h3, .int 250, .ref h4, .int 0, .ref h5, .ref h6, .ref h7, .int 0, .ref h8, .ref h9, .ref h10, .int 0, .null, .int 0, .null, .int 0, .int 0, .int 0, .ref h11, .int 0, .ref h12, .ref h13, .ref h14, .int 0, .ref h15, .ref h16, .int 0]))]) hD hS hA [0] rfl
  refine va_calli (va_runV (As := [.int 0]) (rest := []) ⟨hx, hb, hml, hown, hts⟩ (c9_X21_refused_1 l g h0 h1 h2 h3 h4 h5 h6 h7 h8 h9 h10 h11 h12 h13 h14 h15 h16 _) (cwV 1 hts g9_X21_group_3_1 rfl rfl rfl (by decide +kernel) ⟨Nat.le_of_ble_eq_true rfl, Nat.le_of_ble_eq_true rfl⟩) (mPreV (g := g) (wc := [(h0, .inr (22, [.int 0, .ref h1, .int 0, .ref h2, .int 0, .ref h3, .int 250, .ref h4, .int 0, .ref h5, .ref h6, .ref h7, .int 0, .ref h8, .ref h9, .ref h10, .int 0, .null, .int 0, .null, .int 0, .int 0, .int 0, .ref h11, .int 0, .ref h12, .ref h13, .ref h14, .int 0, .ref h15, .ref h16, .int 0]))]) (C := RX21) (ci := 22) (q0 := 0) hE hS hPc hDc hFc rfl rfl) rfl rfl hl.1 rfl (lv_room (Nat.le_of_ble_eq_true rfl)) dX21_group_16 ⟨Nat.le_of_ble_eq_true rfl, Nat.le_of_ble_eq_true rfl⟩) hS (fun q _ h => hFc q h) hFc (fun r_2 u t H1 locs ht hvm hw hB hz1 hk1 hS => ?_)
  replace hw : 0 = r_2 := Eq.symm hw
  subst hw
  obtain ⟨hP1, hD1⟩ := hB
  rw [ht] at hP1
  obtain ⟨hP, hD⟩ := va_join (wr := [(h7, .inl (g.2.1 0, 14, .inl f0))]) (w1 := [(h0, .inr (22, [.int 0, .ref h1, .int 0, .ref h2, .int 0, .ref h3, .int 250, .ref h4, .int 0, .ref h5, .ref h6, .ref h7, .int 0, .ref h8, .ref h9, .ref h10, .int 0, .null, .int 0, .null, .int 0, .int 0, .int 0, .ref h11, .int 0, .ref h12, .ref h13, .ref h14, .int 0, .ref h15, .ref h16, .int 0]))]) hP hD [0] [1] rfl rfl (by decide) (by decide) hk1 hFc hP1 hD1
  clear hP1 hD1 hPc hDc hFc hk1 hz1 hvm ht
  generalize H1 = H at hP hS ⊢
  have hP : va_P g.1 vwCl [(h7, .inl (g.2.1 0, 14, .inl f0)), (h0, .inr (22, [.int 0, .ref h1, .int 0, .ref h2, .int 0, .ref h3, .int 250, .ref h4, .int 0, .ref h5, .ref h6, .ref h7, .int 0, .ref h8, .ref h9, .ref h10, .int 0, .null, .int 0, .null, .int 0, .int 0, .int 0, .ref h11, .int 0, .ref h12, .ref h13, .ref h14, .int 0, .ref h15, .ref h16, .int 0]))] H := hP
  have hD : va_D A [(h7, .inl (g.2.1 0, 14, .inl f0)), (h0, .inr (22, [.int 0, .ref h1, .int 0, .ref h2, .int 0, .ref h3, .int 250, .ref h4, .int 0, .ref h5, .ref h6, .ref h7, .int 0, .ref h8, .ref h9, .ref h10, .int 0, .null, .int 0, .null, .int 0, .int 0, .int 0, .ref h11, .int 0, .ref h12, .ref h13, .ref h14, .int 0, .ref h15, .ref h16, .int 0]))] := hD
  refine lv_if_eq (tgt := 26) hx hb dX21_group_19 (by decide) (fun _ => ?_) (fun c9 => absurd (by decide) c9)
  refine lv_aload_n hx hb dX21_group_26 rfl (lv_at hl 0 rfl) ?_
  refine va_get (D := g.1) (ci := 22) (v := .ref h7) (C := RX21) (T := TX21) (N := 32) hx hb hts in9_X21_group_3_RX21 hown hK hP 1 rfl rfl 11 (by decide) (hts (.fieldLink RX21 107 "RegexloomModel" "told" "[I") (List.mem_of_getElem? (i := 10) rfl)) (fun _ h9 => h9) rfl dX21_group_27 ?_
  refine lv_iconst (v := 2) hx hb dX21_group_30 (by decide) ?_
  refine lv_iload_n hx hb dX21_group_31 rfl (lv_at hl 1 rfl) ?_
  refine lv_imul hx hb dX21_group_32 ?_
  refine e_top (y := 0) (by decide) ?_
  refine lv_iload_n hx hb dX21_group_33 rfl (lv_at hl 2 rfl) ?_
  refine lv_if_eq (tgt := 41) hx hb dX21_group_34 (by decide) (fun c9 => absurd c9 (by decide)) (fun _ => ?_)
  refine lv_iconst (v := 1) hx hb dX21_group_37 (by decide) ?_
  refine lv_goto (tgt := 42) hx hb dX21_group_38 (by decide) ?_
  refine lv_iadd hx hb dX21_group_42 ?_
  refine e_top (y := 1) (by decide) ?_
  refine va_iald hx hb hK hP 0 0 rfl rfl (vp_in_nI (n := 1) (by decide) (by decide)) dX21_group_43 ?_
  refine e_topv (y := .int (f0 1)) (by rfl) ?_
  have hP9 := hP.sub (ws' := [(h0, .inr (22, [.int 0, .ref h1, .int 0, .ref h2, .int 0, .ref h3, .int 250, .ref h4, .int 0, .ref h5, .ref h6, .ref h7, .int 0, .ref h8, .ref h9, .ref h10, .int 0, .null, .int 0, .null, .int 0, .int 0, .int 0, .ref h11, .int 0, .ref h12, .ref h13, .ref h14, .int 0, .ref h15, .ref h16, .int 0])), (h7, .inl (g.2.1 0, 14, .inl f0))]) [1, 0] rfl
  have hD9 := hD.sub (ws' := [(h0, .inr (22, [.int 0, .ref h1, .int 0, .ref h2, .int 0, .ref h3, .int 250, .ref h4, .int 0, .ref h5, .ref h6, .ref h7, .int 0, .ref h8, .ref h9, .ref h10, .int 0, .null, .int 0, .null, .int 0, .int 0, .int 0, .ref h11, .int 0, .ref h12, .ref h13, .ref h14, .int 0, .ref h15, .ref h16, .int 0])), (h7, .inl (g.2.1 0, 14, .inl f0))]) [1, 0] (by decide) rfl
  subst hAe
  exact W.iret (v := (f0 1)) hx hb hr (fun t ht hW => ⟨⟨(f0 1), (), rfl, rfl, by rw [ht]; exact hP9, hD9⟩, hS.F ht⟩) hS.2.2 dX21_group_44
def w9_X9_get_4 : List Cond := [.code yX9_get cX9_get 3 (some .int), .fieldLink RX9 28 "Regexloom$Table" "size" "I", .fieldLink RX9 9 "Regexloom$Table" "width" "I", .fieldLink RX9 24 "Regexloom$Table" "cells" "[I"] ++ (u_ws RX9 TX9 4)
set_option maxRecDepth 20000 in
theorem in9_X9_get_4_RX9 : ∀ w ∈ u_ws RX9 TX9 4, w ∈ w9_X9_get_4 := by decide +kernel
set_option maxHeartbeats 4000000 in
set_option maxRecDepth 100000 in
theorem c9_X9_get_4 (l : Launch) (g : G9) (h0 h1 sz : Nat) (f0 : Nat → Int32) : Met l yX9_get w9_X9_get_4 ({ frames := 0, cells := 0, slots := 0, locals := 0 }) (mP g [(h0, .inr (10, [.int 2, .int 7, .ref h1, .int 7])), (h1, .inl (g.2.1 0, 14, .inl f0))] sz [.ref h0, .int 1, .int 1]) (va_Qi (fun (r : Int32) (_ : Unit) => r = (f0 3)) (fun (_ : Unit) (t : State) => mB g [(h0, .inr (10, [.int 2, .int 7, .ref h1, .int 7])), (h1, .inl (g.2.1 0, 14, .inl f0))] sz [(h0, .inr (10, [.int 2, .int 7, .ref h1, .int 7])), (h1, .inl (g.2.1 0, 14, .inl f0))] t) (va_A [(h0, .inr (10, [.int 2, .int 7, .ref h1, .int 7])), (h1, .inl (g.2.1 0, 14, .inl f0))] sz)) 0 0 (va_A [(h0, .inr (10, [.int 2, .int 7, .ref h1, .int 7])), (h1, .inl (g.2.1 0, 14, .inl f0))] sz) := by
  refine Met.ofW (cc := cX9_get) (maxL := 3) (ret := (some .int)) (by decide) rfl ?_
  intro p e s m args below meth c s₁ B hml hv
  obtain ⟨rfl, hsz, hP, hD0, hE⟩ := hv
  have hx := B.exec
  have hb := B.bytes
  have hr := B.returns
  have hts := atoms_spec (ws := w9_X9_get_4) B.pre
  have hown : s.vm.findClass RX9 = some m.cls := findClass_of_methodNamed B.named
  have hlocks := B.notSynchronized
  subst hsz
  have hD := hD0.self (sz := s.heap.size)
  generalize hAe : va_A [(h0, .inr (10, [.int 2, .int 7, .ref h1, .int 7])), (h1, .inl (g.2.1 0, 14, .inl f0))] s.heap.size = A at hD hE ⊢
  have hA : ∀ q : Nat, s.heap.size ≤ q → A q := fun q h => by rw [← hAe]; exact Or.inr h
  have hK := hE.1
  have hS : va_S A s.heap s.heap [] := va_S.rf
  replace hP : va_P g.1 vwCl [(h0, .inr (10, [.int 2, .int 7, .ref h1, .int 7])), (h1, .inl (g.2.1 0, 14, .inl f0))] s.heap := hP
  have hl := lv_entry ([.ref h0, .int 1, .int 1]) (n := 3) (Nat.le_of_ble_eq_true rfl)
  rw [lg_entry_eq]
  generalize (lg_sl ([.ref h0, .int 1, .int 1]) ++ List.replicate (3 - (lg_sl ([.ref h0, .int 1, .int 1])).length) Slot.unset).toArray = ls at hl ⊢
  replace hl : lv_has ls 3 [(0, .ref h0), (1, .int 1), (2, .int 1)] := hl
  have hH0 : s.heap.size ≤ s.heap.size := Nat.le_refl _
  refine lv_iload_n hx hb dX9_get_0 rfl (lv_at hl 1 rfl) ?_
  refine lv_if_lt (tgt := 24) hx hb dX9_get_1 (by decide) (fun c9 => absurd c9 (by decide)) (fun _ => ?_)
  refine lv_iload_n hx hb dX9_get_4 rfl (lv_at hl 1 rfl) ?_
  refine lv_aload_n hx hb dX9_get_5 rfl (lv_at hl 0 rfl) ?_
  refine va_get (D := g.1) (ci := 10) (v := .int 7) (C := RX9) (T := TX9) (N := 4) hx hb hts in9_X9_get_4_RX9 hown hK hP 0 rfl rfl 3 (by decide) (hts (.fieldLink RX9 28 "Regexloom$Table" "size" "I") (List.mem_of_getElem? (i := 1) rfl)) (fun _ h9 => h9) rfl dX9_get_6 ?_
  refine lv_icmp_ge (tgt := 24) hx hb dX9_get_9 (by decide) (fun c9 => absurd c9 (by decide)) (fun _ => ?_)
  refine lv_iload_n hx hb dX9_get_12 rfl (lv_at hl 2 rfl) ?_
  refine lv_if_lt (tgt := 24) hx hb dX9_get_13 (by decide) (fun c9 => absurd c9 (by decide)) (fun _ => ?_)
  refine lv_iload_n hx hb dX9_get_16 rfl (lv_at hl 2 rfl) ?_
  refine lv_aload_n hx hb dX9_get_17 rfl (lv_at hl 0 rfl) ?_
  refine va_get (D := g.1) (ci := 10) (v := .int 2) (C := RX9) (T := TX9) (N := 4) hx hb hts in9_X9_get_4_RX9 hown hK hP 0 rfl rfl 0 (by decide) (hts (.fieldLink RX9 9 "Regexloom$Table" "width" "I") (List.mem_of_getElem? (i := 2) rfl)) (fun _ h9 => h9) rfl dX9_get_18 ?_
  refine lv_icmp_lt (tgt := 26) hx hb dX9_get_21 (by decide) (fun _ => ?_) (fun c9 => absurd (by decide) c9)
  refine lv_aload_n hx hb dX9_get_26 rfl (lv_at hl 0 rfl) ?_
  refine va_get (D := g.1) (ci := 10) (v := .ref h1) (C := RX9) (T := TX9) (N := 4) hx hb hts in9_X9_get_4_RX9 hown hK hP 0 rfl rfl 2 (by decide) (hts (.fieldLink RX9 24 "Regexloom$Table" "cells" "[I") (List.mem_of_getElem? (i := 3) rfl)) (fun _ h9 => h9) rfl dX9_get_27 ?_
  refine lv_iload_n hx hb dX9_get_30 rfl (lv_at hl 1 rfl) ?_
  refine lv_aload_n hx hb dX9_get_31 rfl (lv_at hl 0 rfl) ?_
  refine va_get (D := g.1) (ci := 10) (v := .int 2) (C := RX9) (T := TX9) (N := 4) hx hb hts in9_X9_get_4_RX9 hown hK hP 0 rfl rfl 0 (by decide) (hts (.fieldLink RX9 9 "Regexloom$Table" "width" "I") (List.mem_of_getElem? (i := 2) rfl)) (fun _ h9 => h9) rfl dX9_get_32 ?_
  refine lv_imul hx hb dX9_get_35 ?_
  refine e_top (y := 2) (by decide) ?_
  refine lv_iload_n hx hb dX9_get_36 rfl (lv_at hl 2 rfl) ?_
  refine lv_iadd hx hb dX9_get_37 ?_
  refine e_top (y := 3) (by decide) ?_
  refine va_iald hx hb hK hP 1 0 rfl rfl (vp_in_nI (n := 3) (by decide) (by decide)) dX9_get_38 ?_
  refine e_topv (y := .int (f0 3)) (by rfl) ?_
  have hP9 := hP.sub (ws' := [(h0, .inr (10, [.int 2, .int 7, .ref h1, .int 7])), (h1, .inl (g.2.1 0, 14, .inl f0))]) [0, 1] rfl
  have hD9 := hD.sub (ws' := [(h0, .inr (10, [.int 2, .int 7, .ref h1, .int 7])), (h1, .inl (g.2.1 0, 14, .inl f0))]) [0, 1] (by decide) rfl
  subst hAe
  exact W.iret (v := (f0 3)) hx hb hr (fun t ht hW => ⟨⟨(f0 3), (), rfl, rfl, by rw [ht]; exact hP9, hD9⟩, hS.F ht⟩) hS.2.2 dX9_get_39
def w9_X11_group_4 : List Cond := [.code yX11_group cX11_group 3 (some .int), .fieldLink RX11 78 "Regexloom" "bounds" "LRegexloom$Table;", .methodLink RX11 225 yX9_get, .instanceMethod yX9_get, .selects RX9 yX9_get yX9_get, .initialized RX9, .code yX9_get cX9_get 3 (some .int), .fieldLink RX9 28 "Regexloom$Table" "size" "I", .fieldLink RX9 9 "Regexloom$Table" "width" "I", .fieldLink RX9 24 "Regexloom$Table" "cells" "[I"] ++ (u_ws RX11 TX11 17 ++ u_ws RX9 TX9 4)
set_option maxRecDepth 20000 in
theorem in9_X11_group_4_RX11 : ∀ w ∈ u_ws RX11 TX11 17, w ∈ w9_X11_group_4 := by decide +kernel
set_option maxRecDepth 20000 in
theorem in9_X11_group_4_RX9 : ∀ w ∈ u_ws RX9 TX9 4, w ∈ w9_X11_group_4 := by decide +kernel
set_option maxRecDepth 20000 in
theorem g9_X11_group_4_0 : GoodIn w9_X11_group_4 (wsV RX11 225 RX9 yX9_get w9_X9_get_4) := goodIn_r _ [2, 3, 4, 5, 6, 7, 8, 9, 27, 28, 29, 30] (by decide +kernel) (by decide +kernel)
set_option maxHeartbeats 4000000 in
set_option maxRecDepth 100000 in
theorem c9_X11_group_4 (l : Launch) (g : G9) (h0 h1 h2 h3 h4 h5 h6 h7 h8 h9 h10 h11 h12 h13 h14 sz : Nat) (f0 : Nat → Int32) : Met l yX11_group w9_X11_group_4 ({ frames := 1, cells := 0, slots := 0, locals := 22 }) (mP g [(h0, .inr (12, [.ref h1, .int 0, .ref h2, .ref h3, .ref h4, .ref h5, .ref h6, .ref h7, .int (-1), .ref h8, .ref h9, .int 250, .ref h10, .int 0, .ref h11, .ref h12, .ref h13])), (h10, .inr (10, [.int 2, .int 7, .ref h14, .int 7])), (h14, .inl (g.2.1 0, 14, .inl f0))] sz [.ref h0, .int 1, .int 1]) (va_Qi (fun (r : Int32) (_ : Unit) => r = (f0 3)) (fun (_ : Unit) (t : State) => mB g [(h0, .inr (12, [.ref h1, .int 0, .ref h2, .ref h3, .ref h4, .ref h5, .ref h6, .ref h7, .int (-1), .ref h8, .ref h9, .int 250, .ref h10, .int 0, .ref h11, .ref h12, .ref h13])), (h10, .inr (10, [.int 2, .int 7, .ref h14, .int 7])), (h14, .inl (g.2.1 0, 14, .inl f0))] sz [(h0, .inr (12, [.ref h1, .int 0, .ref h2, .ref h3, .ref h4, .ref h5, .ref h6, .ref h7, .int (-1), .ref h8, .ref h9, .int 250, .ref h10, .int 0, .ref h11, .ref h12, .ref h13])), (h10, .inr (10, [.int 2, .int 7, .ref h14, .int 7])), (h14, .inl (g.2.1 0, 14, .inl f0))] t) (va_A [(h0, .inr (12, [.ref h1, .int 0, .ref h2, .ref h3, .ref h4, .ref h5, .ref h6, .ref h7, .int (-1), .ref h8, .ref h9, .int 250, .ref h10, .int 0, .ref h11, .ref h12, .ref h13])), (h10, .inr (10, [.int 2, .int 7, .ref h14, .int 7])), (h14, .inl (g.2.1 0, 14, .inl f0))] sz)) 0 0 (va_A [(h0, .inr (12, [.ref h1, .int 0, .ref h2, .ref h3, .ref h4, .ref h5, .ref h6, .ref h7, .int (-1), .ref h8, .ref h9, .int 250, .ref h10, .int 0, .ref h11, .ref h12, .ref h13])), (h10, .inr (10, [.int 2, .int 7, .ref h14, .int 7])), (h14, .inl (g.2.1 0, 14, .inl f0))] sz) := by
  refine Met.ofW (cc := cX11_group) (maxL := 3) (ret := (some .int)) (by decide) rfl ?_
  intro p e s m args below meth c s₁ B hml hv
  obtain ⟨rfl, hsz, hP, hD0, hE⟩ := hv
  have hx := B.exec
  have hb := B.bytes
  have hr := B.returns
  have hts := atoms_spec (ws := w9_X11_group_4) B.pre
  have hown : s.vm.findClass RX11 = some m.cls := findClass_of_methodNamed B.named
  have hlocks := B.notSynchronized
  subst hsz
  have hD := hD0.self (sz := s.heap.size)
  generalize hAe : va_A [(h0, .inr (12, [.ref h1, .int 0, .ref h2, .ref h3, .ref h4, .ref h5, .ref h6, .ref h7, .int (-1), .ref h8, .ref h9, .int 250, .ref h10, .int 0, .ref h11, .ref h12, .ref h13])), (h10, .inr (10, [.int 2, .int 7, .ref h14, .int 7])), (h14, .inl (g.2.1 0, 14, .inl f0))] s.heap.size = A at hD hE ⊢
  have hA : ∀ q : Nat, s.heap.size ≤ q → A q := fun q h => by rw [← hAe]; exact Or.inr h
  have hK := hE.1
  have hS : va_S A s.heap s.heap [] := va_S.rf
  replace hP : va_P g.1 vwCl [(h0, .inr (12, [.ref h1, .int 0, .ref h2, .ref h3, .ref h4, .ref h5, .ref h6, .ref h7, .int (-1), .ref h8, .ref h9, .int 250, .ref h10, .int 0, .ref h11, .ref h12, .ref h13])), (h10, .inr (10, [.int 2, .int 7, .ref h14, .int 7])), (h14, .inl (g.2.1 0, 14, .inl f0))] s.heap := hP
  have hl := lv_entry ([.ref h0, .int 1, .int 1]) (n := 3) (Nat.le_of_ble_eq_true rfl)
  rw [lg_entry_eq]
  generalize (lg_sl ([.ref h0, .int 1, .int 1]) ++ List.replicate (3 - (lg_sl ([.ref h0, .int 1, .int 1])).length) Slot.unset).toArray = ls at hl ⊢
  replace hl : lv_has ls 3 [(0, .ref h0), (1, .int 1), (2, .int 1)] := hl
  have hH0 : s.heap.size ≤ s.heap.size := Nat.le_refl _
  refine lv_iload_n hx hb dX11_group_0 rfl (lv_at hl 1 rfl) ?_
  refine lv_if_lt (tgt := 10) hx hb dX11_group_1 (by decide) (fun c9 => absurd c9 (by decide)) (fun _ => ?_)
  refine lv_iload_n hx hb dX11_group_4 rfl (lv_at hl 1 rfl) ?_
  refine lv_bipush (v := 6) hx hb dX11_group_5 (by decide) ?_
  refine lv_icmp_le (tgt := 20) hx hb dX11_group_7 (by decide) (fun _ => ?_) (fun c9 => absurd (by decide) c9)
  refine lv_aload_n hx hb dX11_group_20 rfl (lv_at hl 0 rfl) ?_
  refine va_get (D := g.1) (ci := 12) (v := .ref h10) (C := RX11) (T := TX11) (N := 17) hx hb hts in9_X11_group_4_RX11 hown hK hP 0 rfl rfl 12 (by decide) (hts (.fieldLink RX11 78 "Regexloom" "bounds" "LRegexloom$Table;") (List.mem_of_getElem? (i := 1) rfl)) (fun _ h9 => h9) rfl dX11_group_21 ?_
  refine lv_iload_n hx hb dX11_group_24 rfl (lv_at hl 1 rfl) ?_
  refine lv_iload_n hx hb dX11_group_25 rfl (lv_at hl 2 rfl) ?_
  refine lv_if_eq (tgt := 33) hx hb dX11_group_26 (by decide) (fun c9 => absurd c9 (by decide)) (fun _ => ?_)
  refine lv_iconst (v := 1) hx hb dX11_group_29 (by decide) ?_
  refine lv_goto (tgt := 34) hx hb dX11_group_30 (by decide) ?_
  have hPc := hP.sub (ws' := [(h10, .inr (10, [.int 2, .int 7, .ref h14, .int 7])), (h14, .inl (g.2.1 0, 14, .inl f0))]) [1, 2] rfl
  have hDc := hD.sub (ws' := [(h10, .inr (10, [.int 2, .int 7, .ref h14, .int 7])), (h14, .inl (g.2.1 0, 14, .inl f0))]) [1, 2] (by decide) rfl
  have hFc := va_free (wc := [(h10, .inr (10, [.int 2, .int 7, .ref h14, .int 7])), (h14, .inl (g.2.1 0, 14, .inl f0))]) hD hS hA [1, 2] rfl
  refine va_calli (va_runV (As := [.int 1, .int 1]) (rest := []) ⟨hx, hb, hml, hown, hts⟩ (c9_X9_get_4 l g h10 h14 _ f0) (cwV 2 hts g9_X11_group_4_0 rfl rfl rfl (by decide +kernel) ⟨Nat.le_of_ble_eq_true rfl, Nat.le_of_ble_eq_true rfl⟩) (mPreV (g := g) (wc := [(h10, .inr (10, [.int 2, .int 7, .ref h14, .int 7])), (h14, .inl (g.2.1 0, 14, .inl f0))]) (C := RX9) (ci := 10) (q0 := 0) hE hS hPc hDc hFc rfl rfl) rfl rfl hl.1 rfl (lv_room (Nat.le_of_ble_eq_true rfl)) dX11_group_34 ⟨Nat.le_of_ble_eq_true rfl, Nat.le_of_ble_eq_true rfl⟩) hS (fun q _ h => hFc q h) hFc (fun r_1 u t H1 locs ht hvm hw hB hz1 hk1 hS => ?_)
  replace hw : (f0 3) = r_1 := Eq.symm hw
  subst hw
  obtain ⟨hP1, hD1⟩ := hB
  rw [ht] at hP1
  obtain ⟨hP, hD⟩ := va_join (wr := [(h0, .inr (12, [.ref h1, .int 0, .ref h2, .ref h3, .ref h4, .ref h5, .ref h6, .ref h7, .int (-1), .ref h8, .ref h9, .int 250, .ref h10, .int 0, .ref h11, .ref h12, .ref h13]))]) (w1 := [(h10, .inr (10, [.int 2, .int 7, .ref h14, .int 7])), (h14, .inl (g.2.1 0, 14, .inl f0))]) hP hD [1, 2] [0] rfl rfl (by decide) (by decide) hk1 hFc hP1 hD1
  clear hP1 hD1 hPc hDc hFc hk1 hz1 hvm ht
  generalize H1 = H at hP hS ⊢
  have hP : va_P g.1 vwCl [(h0, .inr (12, [.ref h1, .int 0, .ref h2, .ref h3, .ref h4, .ref h5, .ref h6, .ref h7, .int (-1), .ref h8, .ref h9, .int 250, .ref h10, .int 0, .ref h11, .ref h12, .ref h13])), (h10, .inr (10, [.int 2, .int 7, .ref h14, .int 7])), (h14, .inl (g.2.1 0, 14, .inl f0))] H := hP
  have hD : va_D A [(h0, .inr (12, [.ref h1, .int 0, .ref h2, .ref h3, .ref h4, .ref h5, .ref h6, .ref h7, .int (-1), .ref h8, .ref h9, .int 250, .ref h10, .int 0, .ref h11, .ref h12, .ref h13])), (h10, .inr (10, [.int 2, .int 7, .ref h14, .int 7])), (h14, .inl (g.2.1 0, 14, .inl f0))] := hD
  refine e_top (y := (f0 3)) (by rfl) ?_
  have hP9 := hP.sub (ws' := [(h0, .inr (12, [.ref h1, .int 0, .ref h2, .ref h3, .ref h4, .ref h5, .ref h6, .ref h7, .int (-1), .ref h8, .ref h9, .int 250, .ref h10, .int 0, .ref h11, .ref h12, .ref h13])), (h10, .inr (10, [.int 2, .int 7, .ref h14, .int 7])), (h14, .inl (g.2.1 0, 14, .inl f0))]) [0, 1, 2] rfl
  have hD9 := hD.sub (ws' := [(h0, .inr (12, [.ref h1, .int 0, .ref h2, .ref h3, .ref h4, .ref h5, .ref h6, .ref h7, .int (-1), .ref h8, .ref h9, .int 250, .ref h10, .int 0, .ref h11, .ref h12, .ref h13])), (h10, .inr (10, [.int 2, .int 7, .ref h14, .int 7])), (h14, .inl (g.2.1 0, 14, .inl f0))]) [0, 1, 2] (by decide) rfl
  subst hAe
  exact W.iret (v := (f0 3)) hx hb hr (fun t ht hW => ⟨⟨(f0 3), (), rfl, rfl, by rw [ht]; exact hP9, hD9⟩, hS.F ht⟩) hS.2.2 dX11_group_37
def w9_L_group_5 : List Cond := [.codeWith yL_group cL_group 5 (some .int) [(0, 10, 13, 21)], .methodLink RL 47 yX11_group, .instanceMethod yX11_group, .selects RX11 yX11_group yX11_group, .initialized RX11, .code yX11_group cX11_group 3 (some .int), .fieldLink RX11 78 "Regexloom" "bounds" "LRegexloom$Table;", .methodLink RX11 225 yX9_get, .instanceMethod yX9_get, .selects RX9 yX9_get yX9_get, .initialized RX9, .code yX9_get cX9_get 3 (some .int), .fieldLink RX9 28 "Regexloom$Table" "size" "I", .fieldLink RX9 9 "Regexloom$Table" "width" "I", .fieldLink RX9 24 "Regexloom$Table" "cells" "[I"] ++ (u_ws RX11 TX11 17 ++ u_ws RX9 TX9 4)
set_option maxRecDepth 20000 in
theorem in9_L_group_5_RX11 : ∀ w ∈ u_ws RX11 TX11 17, w ∈ w9_L_group_5 := by decide +kernel
set_option maxRecDepth 20000 in
theorem in9_L_group_5_RX9 : ∀ w ∈ u_ws RX9 TX9 4, w ∈ w9_L_group_5 := by decide +kernel
set_option maxRecDepth 20000 in
theorem g9_L_group_5_0 : GoodIn w9_L_group_5 (wsV RL 47 RX11 yX11_group w9_X11_group_4) := goodIn_r _ [1, 2, 3, 4, 5, 6, 7, 8, 9, 10, 11, 12, 13, 14, 15, 16, 17, 18, 19, 20, 21, 22, 23, 24, 25, 26, 27, 28, 29, 30, 31, 32, 33, 34, 35] (by decide +kernel) (by decide +kernel)
set_option maxHeartbeats 4000000 in
set_option maxRecDepth 100000 in
theorem c9_L_group_5 (l : Launch) (g : G9) (h0 h1 h2 h3 h4 h5 h6 h7 h8 h9 h10 h11 h12 h13 h14 h15 sz : Nat) : Met l yL_group w9_L_group_5 ({ frames := 2, cells := 0, slots := 0, locals := 44 }) (mP g [(h0, .inr (12, [.ref h2, .int 0, .ref h3, .ref h4, .ref h5, .ref h6, .ref h7, .ref h8, .int (-1), .ref h9, .ref h10, .int 250, .ref h11, .int 0, .ref h12, .ref h13, .ref h14])), (h11, .inr (10, [.int 2, .int 7, .ref h15, .int 7])), (h15, .inl (g.2.1 0, 14, .inl (upd (upd (upd (upd (upd (upd (upd (upd (upd (upd (upd (upd (upd (upd (fun _ => 0) 0 (-1)) 1 (-1)) 2 (-1)) 3 (-1)) 4 (-1)) 5 (-1)) 6 (-1)) 7 (-1)) 8 (-1)) 9 (-1)) 10 (-1)) 11 (-1)) 12 (-1)) 13 (-1)))), (h1, .inl (g.2.1 2, 1, .inr (.inl (fun _ => 0))))] sz [.ref h0, .int 1, .int 1, .ref h1]) (va_Qi (fun (r : Int32) (_ : Unit) => r = 0) (fun (_ : Unit) (t : State) => mB g [(h0, .inr (12, [.ref h2, .int 0, .ref h3, .ref h4, .ref h5, .ref h6, .ref h7, .ref h8, .int (-1), .ref h9, .ref h10, .int 250, .ref h11, .int 0, .ref h12, .ref h13, .ref h14])), (h11, .inr (10, [.int 2, .int 7, .ref h15, .int 7])), (h15, .inl (g.2.1 0, 14, .inl (upd (upd (upd (upd (upd (upd (upd (upd (upd (upd (upd (upd (upd (upd (fun _ => 0) 0 (-1)) 1 (-1)) 2 (-1)) 3 (-1)) 4 (-1)) 5 (-1)) 6 (-1)) 7 (-1)) 8 (-1)) 9 (-1)) 10 (-1)) 11 (-1)) 12 (-1)) 13 (-1)))), (h1, .inl (g.2.1 2, 1, .inr (.inl (fun _ => 0))))] sz [(h0, .inr (12, [.ref h2, .int 0, .ref h3, .ref h4, .ref h5, .ref h6, .ref h7, .ref h8, .int (-1), .ref h9, .ref h10, .int 250, .ref h11, .int 0, .ref h12, .ref h13, .ref h14])), (h11, .inr (10, [.int 2, .int 7, .ref h15, .int 7])), (h15, .inl (g.2.1 0, 14, .inl (upd (upd (upd (upd (upd (upd (upd (upd (upd (upd (upd (upd (upd (upd (fun _ => 0) 0 (-1)) 1 (-1)) 2 (-1)) 3 (-1)) 4 (-1)) 5 (-1)) 6 (-1)) 7 (-1)) 8 (-1)) 9 (-1)) 10 (-1)) 11 (-1)) 12 (-1)) 13 (-1)))), (h1, .inl (g.2.1 2, 1, .inr (.inl (vp_updL (fun _ => 0) 0 (-1)))))] t) (va_A [(h0, .inr (12, [.ref h2, .int 0, .ref h3, .ref h4, .ref h5, .ref h6, .ref h7, .ref h8, .int (-1), .ref h9, .ref h10, .int 250, .ref h11, .int 0, .ref h12, .ref h13, .ref h14])), (h11, .inr (10, [.int 2, .int 7, .ref h15, .int 7])), (h15, .inl (g.2.1 0, 14, .inl (upd (upd (upd (upd (upd (upd (upd (upd (upd (upd (upd (upd (upd (upd (fun _ => 0) 0 (-1)) 1 (-1)) 2 (-1)) 3 (-1)) 4 (-1)) 5 (-1)) 6 (-1)) 7 (-1)) 8 (-1)) 9 (-1)) 10 (-1)) 11 (-1)) 12 (-1)) 13 (-1)))), (h1, .inl (g.2.1 2, 1, .inr (.inl (fun _ => 0))))] sz)) 0 0 (va_A [(h0, .inr (12, [.ref h2, .int 0, .ref h3, .ref h4, .ref h5, .ref h6, .ref h7, .ref h8, .int (-1), .ref h9, .ref h10, .int 250, .ref h11, .int 0, .ref h12, .ref h13, .ref h14])), (h11, .inr (10, [.int 2, .int 7, .ref h15, .int 7])), (h15, .inl (g.2.1 0, 14, .inl (upd (upd (upd (upd (upd (upd (upd (upd (upd (upd (upd (upd (upd (upd (fun _ => 0) 0 (-1)) 1 (-1)) 2 (-1)) 3 (-1)) 4 (-1)) 5 (-1)) 6 (-1)) 7 (-1)) 8 (-1)) 9 (-1)) 10 (-1)) 11 (-1)) 12 (-1)) 13 (-1)))), (h1, .inl (g.2.1 2, 1, .inr (.inl (fun _ => 0))))] sz) := by
  refine va_MetW (cc := cL_group) (maxL := 5) (ret := (some .int)) (by decide) rfl ?_
  intro p e s m args below meth c s₁ B hml hv
  obtain ⟨rfl, hsz, hP, hD0, hE⟩ := hv
  have hx := B.exec
  have hb := B.bytes
  have hr := B.returns
  have hts := atoms_spec (ws := w9_L_group_5) B.pre
  have hown : s.vm.findClass RL = some m.cls := findClass_of_methodNamed B.named
  have hlocks := B.notSynchronized
  have htab := vx_table (x := yL_group) B (hts (.codeWith yL_group cL_group 5 (some .int) [(0, 10, 13, 21)]) (List.mem_of_getElem? (i := 0) rfl))
  subst hsz
  have hD := hD0.self (sz := s.heap.size)
  generalize hAe : va_A [(h0, .inr (12, [.ref h2, .int 0, .ref h3, .ref h4, .ref h5, .ref h6, .ref h7, .ref h8, .int (-1), .ref h9, .ref h10, .int 250, .ref h11, .int 0, .ref h12, .ref h13, .ref h14])), (h11, .inr (10, [.int 2, .int 7, .ref h15, .int 7])), (h15, .inl (g.2.1 0, 14, .inl (upd (upd (upd (upd (upd (upd (upd (upd (upd (upd (upd (upd (upd (upd (fun _ => 0) 0 (-1)) 1 (-1)) 2 (-1)) 3 (-1)) 4 (-1)) 5 (-1)) 6 (-1)) 7 (-1)) 8 (-1)) 9 (-1)) 10 (-1)) 11 (-1)) 12 (-1)) 13 (-1)))), (h1, .inl (g.2.1 2, 1, .inr (.inl (fun _ => 0))))] s.heap.size = A at hD hE ⊢
  have hA : ∀ q : Nat, s.heap.size ≤ q → A q := fun q h => by rw [← hAe]; exact Or.inr h
  have hK := hE.1
  have hS : va_S A s.heap s.heap [] := va_S.rf
  replace hP : va_P g.1 vwCl [(h0, .inr (12, [.ref h2, .int 0, .ref h3, .ref h4, .ref h5, .ref h6, .ref h7, .ref h8, .int (-1), .ref h9, .ref h10, .int 250, .ref h11, .int 0, .ref h12, .ref h13, .ref h14])), (h11, .inr (10, [.int 2, .int 7, .ref h15, .int 7])), (h15, .inl (g.2.1 0, 14, .inl (upd (upd (upd (upd (upd (upd (upd (upd (upd (upd (upd (upd (upd (upd (fun _ => 0) 0 (-1)) 1 (-1)) 2 (-1)) 3 (-1)) 4 (-1)) 5 (-1)) 6 (-1)) 7 (-1)) 8 (-1)) 9 (-1)) 10 (-1)) 11 (-1)) 12 (-1)) 13 (-1)))), (h1, .inl (g.2.1 2, 1, .inr (.inl (fun _ => 0))))] s.heap := hP
  have hl := lv_entry ([.ref h0, .int 1, .int 1, .ref h1]) (n := 5) (Nat.le_of_ble_eq_true rfl)
  rw [lg_entry_eq]
  generalize (lg_sl ([.ref h0, .int 1, .int 1, .ref h1]) ++ List.replicate (5 - (lg_sl ([.ref h0, .int 1, .int 1, .ref h1])).length) Slot.unset).toArray = ls at hl ⊢
  replace hl : lv_has ls 5 [(0, .ref h0), (1, .int 1), (2, .int 1), (3, .ref h1)] := hl
  have hH0 : s.heap.size ≤ s.heap.size := Nat.le_refl _
  refine lv_aload_n hx hb dL_group_0 rfl (lv_at hl 3 rfl) ?_
  refine lv_iconst (v := 0) hx hb dL_group_1 (by decide) ?_
  refine lv_aload_n hx hb dL_group_2 rfl (lv_at hl 0 rfl) ?_
  refine lv_iload_n hx hb dL_group_3 rfl (lv_at hl 1 rfl) ?_
  refine lv_iload_n hx hb dL_group_4 rfl (lv_at hl 2 rfl) ?_
  have hPc := hP.sub (ws' := [(h0, .inr (12, [.ref h2, .int 0, .ref h3, .ref h4, .ref h5, .ref h6, .ref h7, .ref h8, .int (-1), .ref h9, .ref h10, .int 250, .ref h11, .int 0, .ref h12, .ref h13, .ref h14])), (h11, .inr (10, [.int 2, .int 7, .ref h15, .int 7])), (h15, .inl (g.2.1 0, 14, .inl (upd (upd (upd (upd (upd (upd (upd (upd (upd (upd (upd (upd (upd (upd (fun _ => 0) 0 (-1)) 1 (-1)) 2 (-1)) 3 (-1)) 4 (-1)) 5 (-1)) 6 (-1)) 7 (-1)) 8 (-1)) 9 (-1)) 10 (-1)) 11 (-1)) 12 (-1)) 13 (-1))))]) [0, 1, 2] rfl
  have hDc := hD.sub (ws' := [(h0, .inr (12, [.ref h2, .int 0, .ref h3, .ref h4, .ref h5, .ref h6, .ref h7, .ref h8, .int (-1), .ref h9, .ref h10, .int 250, .ref h11, .int 0, .ref h12, .ref h13, .ref h14])), (h11, .inr (10, [.int 2, .int 7, .ref h15, .int 7])), (h15, .inl (g.2.1 0, 14, .inl (upd (upd (upd (upd (upd (upd (upd (upd (upd (upd (upd (upd (upd (upd (fun _ => 0) 0 (-1)) 1 (-1)) 2 (-1)) 3 (-1)) 4 (-1)) 5 (-1)) 6 (-1)) 7 (-1)) 8 (-1)) 9 (-1)) 10 (-1)) 11 (-1)) 12 (-1)) 13 (-1))))]) [0, 1, 2] (by decide) rfl
  have hFc := va_free (wc := [(h0, .inr (12, [.ref h2, .int 0, .ref h3, .ref h4, .ref h5, .ref h6, .ref h7, .ref h8, .int (-1), .ref h9, .ref h10, .int 250, .ref h11, .int 0, .ref h12, .ref h13, .ref h14])), (h11, .inr (10, [.int 2, .int 7, .ref h15, .int 7])), (h15, .inl (g.2.1 0, 14, .inl (upd (upd (upd (upd (upd (upd (upd (upd (upd (upd (upd (upd (upd (upd (fun _ => 0) 0 (-1)) 1 (-1)) 2 (-1)) 3 (-1)) 4 (-1)) 5 (-1)) 6 (-1)) 7 (-1)) 8 (-1)) 9 (-1)) 10 (-1)) 11 (-1)) 12 (-1)) 13 (-1))))]) hD hS hA [0, 1, 2] rfl
  refine va_calli (va_runV (As := [.int 1, .int 1]) (rest := [.int 0, .ref h1]) ⟨hx, hb, hml, hown, hts⟩ (c9_X11_group_4 l g h0 h2 h3 h4 h5 h6 h7 h8 h9 h10 h11 h12 h13 h14 h15 _ (upd (upd (upd (upd (upd (upd (upd (upd (upd (upd (upd (upd (upd (upd (fun _ => 0) 0 (-1)) 1 (-1)) 2 (-1)) 3 (-1)) 4 (-1)) 5 (-1)) 6 (-1)) 7 (-1)) 8 (-1)) 9 (-1)) 10 (-1)) 11 (-1)) 12 (-1)) 13 (-1))) (cwV 2 hts g9_L_group_5_0 rfl rfl rfl (by decide +kernel) ⟨Nat.le_of_ble_eq_true rfl, Nat.le_of_ble_eq_true rfl⟩) (mPreV (g := g) (wc := [(h0, .inr (12, [.ref h2, .int 0, .ref h3, .ref h4, .ref h5, .ref h6, .ref h7, .ref h8, .int (-1), .ref h9, .ref h10, .int 250, .ref h11, .int 0, .ref h12, .ref h13, .ref h14])), (h11, .inr (10, [.int 2, .int 7, .ref h15, .int 7])), (h15, .inl (g.2.1 0, 14, .inl (upd (upd (upd (upd (upd (upd (upd (upd (upd (upd (upd (upd (upd (upd (fun _ => 0) 0 (-1)) 1 (-1)) 2 (-1)) 3 (-1)) 4 (-1)) 5 (-1)) 6 (-1)) 7 (-1)) 8 (-1)) 9 (-1)) 10 (-1)) 11 (-1)) 12 (-1)) 13 (-1))))]) (C := RX11) (ci := 12) (q0 := 0) hE hS hPc hDc hFc rfl rfl) rfl rfl hl.1 rfl (lv_room (Nat.le_of_ble_eq_true rfl)) dL_group_5 ⟨Nat.le_of_ble_eq_true rfl, Nat.le_of_ble_eq_true rfl⟩) hS (fun q _ h => hFc q h) hFc (fun r_1 u t H1 locs ht hvm hw hB hz1 hk1 hS => ?_)
  replace hw : ((upd (upd (upd (upd (upd (upd (upd (upd (upd (upd (upd (upd (upd (upd (fun _ => 0) 0 (-1)) 1 (-1)) 2 (-1)) 3 (-1)) 4 (-1)) 5 (-1)) 6 (-1)) 7 (-1)) 8 (-1)) 9 (-1)) 10 (-1)) 11 (-1)) 12 (-1)) 13 (-1)) 3) = r_1 := Eq.symm hw
  subst hw
  obtain ⟨hP1, hD1⟩ := hB
  rw [ht] at hP1
  obtain ⟨hP, hD⟩ := va_join (wr := [(h1, .inl (g.2.1 2, 1, .inr (.inl (fun _ => 0))))]) (w1 := [(h0, .inr (12, [.ref h2, .int 0, .ref h3, .ref h4, .ref h5, .ref h6, .ref h7, .ref h8, .int (-1), .ref h9, .ref h10, .int 250, .ref h11, .int 0, .ref h12, .ref h13, .ref h14])), (h11, .inr (10, [.int 2, .int 7, .ref h15, .int 7])), (h15, .inl (g.2.1 0, 14, .inl (upd (upd (upd (upd (upd (upd (upd (upd (upd (upd (upd (upd (upd (upd (fun _ => 0) 0 (-1)) 1 (-1)) 2 (-1)) 3 (-1)) 4 (-1)) 5 (-1)) 6 (-1)) 7 (-1)) 8 (-1)) 9 (-1)) 10 (-1)) 11 (-1)) 12 (-1)) 13 (-1))))]) hP hD [0, 1, 2] [3] rfl rfl (by decide) (by decide) hk1 hFc hP1 hD1
  clear hP1 hD1 hPc hDc hFc hk1 hz1 hvm ht
  generalize H1 = H at hP hS ⊢
  have hP : va_P g.1 vwCl [(h1, .inl (g.2.1 2, 1, .inr (.inl (fun _ => 0)))), (h0, .inr (12, [.ref h2, .int 0, .ref h3, .ref h4, .ref h5, .ref h6, .ref h7, .ref h8, .int (-1), .ref h9, .ref h10, .int 250, .ref h11, .int 0, .ref h12, .ref h13, .ref h14])), (h11, .inr (10, [.int 2, .int 7, .ref h15, .int 7])), (h15, .inl (g.2.1 0, 14, .inl (upd (upd (upd (upd (upd (upd (upd (upd (upd (upd (upd (upd (upd (upd (fun _ => 0) 0 (-1)) 1 (-1)) 2 (-1)) 3 (-1)) 4 (-1)) 5 (-1)) 6 (-1)) 7 (-1)) 8 (-1)) 9 (-1)) 10 (-1)) 11 (-1)) 12 (-1)) 13 (-1))))] H := hP
  have hD : va_D A [(h1, .inl (g.2.1 2, 1, .inr (.inl (fun _ => 0)))), (h0, .inr (12, [.ref h2, .int 0, .ref h3, .ref h4, .ref h5, .ref h6, .ref h7, .ref h8, .int (-1), .ref h9, .ref h10, .int 250, .ref h11, .int 0, .ref h12, .ref h13, .ref h14])), (h11, .inr (10, [.int 2, .int 7, .ref h15, .int 7])), (h15, .inl (g.2.1 0, 14, .inl (upd (upd (upd (upd (upd (upd (upd (upd (upd (upd (upd (upd (upd (upd (fun _ => 0) 0 (-1)) 1 (-1)) 2 (-1)) 3 (-1)) 4 (-1)) 5 (-1)) 6 (-1)) 7 (-1)) 8 (-1)) 9 (-1)) 10 (-1)) 11 (-1)) 12 (-1)) 13 (-1))))] := hD
  refine e_top (y := (-1)) (by rfl) ?_
  refine lv_i2l (v := (-1)) hx hb dL_group_8 (by decide) ?_
  refine va_last hx hb hK hP hD hS 0 2 rfl rfl (vp_in_nI (n := 0) (by decide) (by decide)) dL_group_9 (fun H locs hP hD hS => ?_)
  have hP : va_P g.1 vwCl [(h1, .inl (g.2.1 2, 1, .inr (.inl (vp_updL (fun _ => 0) 0 (-1))))), (h0, .inr (12, [.ref h2, .int 0, .ref h3, .ref h4, .ref h5, .ref h6, .ref h7, .ref h8, .int (-1), .ref h9, .ref h10, .int 250, .ref h11, .int 0, .ref h12, .ref h13, .ref h14])), (h11, .inr (10, [.int 2, .int 7, .ref h15, .int 7])), (h15, .inl (g.2.1 0, 14, .inl (upd (upd (upd (upd (upd (upd (upd (upd (upd (upd (upd (upd (upd (upd (fun _ => 0) 0 (-1)) 1 (-1)) 2 (-1)) 3 (-1)) 4 (-1)) 5 (-1)) 6 (-1)) 7 (-1)) 8 (-1)) 9 (-1)) 10 (-1)) 11 (-1)) 12 (-1)) 13 (-1))))] H := hP
  have hD : va_D A [(h1, .inl (g.2.1 2, 1, .inr (.inl (vp_updL (fun _ => 0) 0 (-1))))), (h0, .inr (12, [.ref h2, .int 0, .ref h3, .ref h4, .ref h5, .ref h6, .ref h7, .ref h8, .int (-1), .ref h9, .ref h10, .int 250, .ref h11, .int 0, .ref h12, .ref h13, .ref h14])), (h11, .inr (10, [.int 2, .int 7, .ref h15, .int 7])), (h15, .inl (g.2.1 0, 14, .inl (upd (upd (upd (upd (upd (upd (upd (upd (upd (upd (upd (upd (upd (upd (fun _ => 0) 0 (-1)) 1 (-1)) 2 (-1)) 3 (-1)) 4 (-1)) 5 (-1)) 6 (-1)) 7 (-1)) 8 (-1)) 9 (-1)) 10 (-1)) 11 (-1)) 12 (-1)) 13 (-1))))] := hD
  refine lv_goto (tgt := 17) hx hb dL_group_10 (by decide) ?_
  refine lv_iconst (v := 0) hx hb dL_group_17 (by decide) ?_
  have hP9 := hP.sub (ws' := [(h0, .inr (12, [.ref h2, .int 0, .ref h3, .ref h4, .ref h5, .ref h6, .ref h7, .ref h8, .int (-1), .ref h9, .ref h10, .int 250, .ref h11, .int 0, .ref h12, .ref h13, .ref h14])), (h11, .inr (10, [.int 2, .int 7, .ref h15, .int 7])), (h15, .inl (g.2.1 0, 14, .inl (upd (upd (upd (upd (upd (upd (upd (upd (upd (upd (upd (upd (upd (upd (fun _ => 0) 0 (-1)) 1 (-1)) 2 (-1)) 3 (-1)) 4 (-1)) 5 (-1)) 6 (-1)) 7 (-1)) 8 (-1)) 9 (-1)) 10 (-1)) 11 (-1)) 12 (-1)) 13 (-1)))), (h1, .inl (g.2.1 2, 1, .inr (.inl (vp_updL (fun _ => 0) 0 (-1)))))]) [1, 2, 3, 0] rfl
  have hD9 := hD.sub (ws' := [(h0, .inr (12, [.ref h2, .int 0, .ref h3, .ref h4, .ref h5, .ref h6, .ref h7, .ref h8, .int (-1), .ref h9, .ref h10, .int 250, .ref h11, .int 0, .ref h12, .ref h13, .ref h14])), (h11, .inr (10, [.int 2, .int 7, .ref h15, .int 7])), (h15, .inl (g.2.1 0, 14, .inl (upd (upd (upd (upd (upd (upd (upd (upd (upd (upd (upd (upd (upd (upd (fun _ => 0) 0 (-1)) 1 (-1)) 2 (-1)) 3 (-1)) 4 (-1)) 5 (-1)) 6 (-1)) 7 (-1)) 8 (-1)) 9 (-1)) 10 (-1)) 11 (-1)) 12 (-1)) 13 (-1)))), (h1, .inl (g.2.1 2, 1, .inr (.inl (vp_updL (fun _ => 0) 0 (-1)))))]) [1, 2, 3, 0] (by decide) rfl
  subst hAe
  exact W.iret (v := 0) hx hb hr (fun t ht hW => ⟨⟨0, (), rfl, rfl, by rw [ht]; exact hP9, hD9⟩, hS.F ht⟩) hS.2.2 dL_group_18
def w9_X21_in_17 : List Cond := [.code yX21_in cX21_in 3 (some .boolean)]
set_option maxHeartbeats 4000000 in
set_option maxRecDepth 100000 in
theorem c9_X21_in_17 (l : Launch) (g : G9) (sz : Nat) : Met l yX21_in w9_X21_in_17 ({ frames := 0, cells := 0, slots := 0, locals := 0 }) (mP g [] sz [.int 1, .int 0, .int 6]) (va_Qi (fun (r : Int32) (_ : Unit) => r = 1) (fun (_ : Unit) (t : State) => mB g [] sz [] t) (va_A [] sz)) 0 0 (va_A [] sz) := by
  refine Met.ofW (cc := cX21_in) (maxL := 3) (ret := (some .boolean)) (by decide) rfl ?_
  intro p e s m args below meth c s₁ B hml hv
  obtain ⟨rfl, hsz, hP, hD0, hE⟩ := hv
  have hx := B.exec
  have hb := B.bytes
  have hr := B.returns
  have hts := atoms_spec (ws := w9_X21_in_17) B.pre
  have hown : s.vm.findClass RX21 = some m.cls := findClass_of_methodNamed B.named
  have hlocks := B.notSynchronized
  subst hsz
  have hD := hD0.self (sz := s.heap.size)
  generalize hAe : va_A [] s.heap.size = A at hD hE ⊢
  have hA : ∀ q : Nat, s.heap.size ≤ q → A q := fun q h => by rw [← hAe]; exact Or.inr h
  have hK := hE.1
  have hS : va_S A s.heap s.heap [] := va_S.rf
  replace hP : va_P g.1 vwCl [] s.heap := hP
  have hl := lv_entry ([.int 1, .int 0, .int 6]) (n := 3) (Nat.le_of_ble_eq_true rfl)
  rw [lg_entry_eq]
  generalize (lg_sl ([.int 1, .int 0, .int 6]) ++ List.replicate (3 - (lg_sl ([.int 1, .int 0, .int 6])).length) Slot.unset).toArray = ls at hl ⊢
  replace hl : lv_has ls 3 [(0, .int 1), (1, .int 0), (2, .int 6)] := hl
  have hH0 : s.heap.size ≤ s.heap.size := Nat.le_refl _
  refine lv_iload_n hx hb dX21_in_0 rfl (lv_at hl 0 rfl) ?_
  refine lv_iload_n hx hb dX21_in_1 rfl (lv_at hl 1 rfl) ?_
  refine lv_icmp_lt (tgt := 14) hx hb dX21_in_2 (by decide) (fun c9 => absurd c9 (by decide)) (fun _ => ?_)
  refine lv_iload_n hx hb dX21_in_5 rfl (lv_at hl 0 rfl) ?_
  refine lv_iload_n hx hb dX21_in_6 rfl (lv_at hl 2 rfl) ?_
  refine lv_icmp_gt (tgt := 14) hx hb dX21_in_7 (by decide) (fun c9 => absurd c9 (by decide)) (fun _ => ?_)
  refine lv_iconst (v := 1) hx hb dX21_in_10 (by decide) ?_
  refine lv_goto (tgt := 15) hx hb dX21_in_11 (by decide) ?_
  have hP9 := hP.sub (ws' := []) [] rfl
  have hD9 := hD.sub (ws' := []) [] (by decide) rfl
  subst hAe
  exact W.zret (v := 1) hx hb hr (by decide) (fun t ht hW => ⟨⟨1, (), rfl, rfl, by rw [ht]; exact hP9, hD9⟩, hS.F ht⟩) hS.2.2 dX21_in_15
def w9_X21_group_4 : List Cond := [.code yX21_group cX21_group 3 (some .int), .methodLink RX21 160 yX21_in, .static yX21_in, .initialized RX21, .code yX21_in cX21_in 3 (some .boolean), .methodLink RX21 154 yX21_refused, .instanceMethod yX21_refused, .selects RX21 yX21_refused yX21_refused, .code yX21_refused cX21_refused 2 (some .boolean), .fieldLink RX21 144 "RegexloomModel" "refusal" "I", .fieldLink RX21 107 "RegexloomModel" "told" "[I"] ++ (u_ws RX21 TX21 32)
set_option maxRecDepth 20000 in
theorem in9_X21_group_4_RX21 : ∀ w ∈ u_ws RX21 TX21 32, w ∈ w9_X21_group_4 := by decide +kernel
set_option maxRecDepth 20000 in
theorem g9_X21_group_4_0 : GoodIn w9_X21_group_4 (va_wsS RX21 160 yX21_in w9_X21_in_17) := goodIn_r _ [1, 2, 3, 4] (by decide +kernel) (by decide +kernel)
set_option maxRecDepth 20000 in
theorem g9_X21_group_4_1 : GoodIn w9_X21_group_4 (wsV RX21 154 RX21 yX21_refused w9_X21_refused_1) := goodIn_r _ [5, 6, 7, 3, 8, 9, 11, 12, 13, 14, 15, 16, 17, 18, 19, 20, 21, 22, 23, 24, 25, 26, 27, 28, 29, 30, 31, 32, 33, 34, 35, 36, 37, 38, 39, 40, 41, 42] (by decide +kernel) (by decide +kernel)
set_option maxHeartbeats 4000000 in
set_option maxRecDepth 100000 in
theorem c9_X21_group_4 (l : Launch) (g : G9) (h0 h1 h2 h3 h4 h5 h6 h7 h8 h9 h10 h11 h12 h13 h14 h15 h16 sz : Nat) (f0 : Nat → Int32) : Met l yX21_group w9_X21_group_4 ({ frames := 1, cells := 0, slots := 0, locals := 22 }) (mP g [(h0, .inr (22, [.int 0, .ref h1, .int 0, .ref h2, .int 0, .ref h3, .int 250, .ref h4, .int 0, .ref h5, .ref h6, .ref h7, .int 0, .ref h8, .ref h9, .ref h10, .int 0, .null, .int 0, .null, .int 0, .int 0, .int 0, .ref h11, .int 0, .ref h12, .ref h13, .ref h14, .int 0, .ref h15, .ref h16, .int 0])), (h7, .inl (g.2.1 0, 14, .inl f0))] sz [.ref h0, .int 1, .int 1]) (va_Qi (fun (r : Int32) (_ : Unit) => r = (f0 3)) (fun (_ : Unit) (t : State) => mB g [(h0, .inr (22, [.int 0, .ref h1, .int 0, .ref h2, .int 0, .ref h3, .int 250, .ref h4, .int 0, .ref h5, .ref h6, .ref h7, .int 0, .ref h8, .ref h9, .ref h10, .int 0, .null, .int 0, .null, .int 0, .int 0, .int 0, .ref h11, .int 0, .ref h12, .ref h13, .ref h14, .int 0, .ref h15, .ref h16, .int 0])), (h7, .inl (g.2.1 0, 14, .inl f0))] sz [(h0, .inr (22, [.int 0, .ref h1, .int 0, .ref h2, .int 0, .ref h3, .int 250, .ref h4, .int 0, .ref h5, .ref h6, .ref h7, .int 0, .ref h8, .ref h9, .ref h10, .int 0, .null, .int 0, .null, .int 0, .int 0, .int 0, .ref h11, .int 0, .ref h12, .ref h13, .ref h14, .int 0, .ref h15, .ref h16, .int 0])), (h7, .inl (g.2.1 0, 14, .inl f0))] t) (va_A [(h0, .inr (22, [.int 0, .ref h1, .int 0, .ref h2, .int 0, .ref h3, .int 250, .ref h4, .int 0, .ref h5, .ref h6, .ref h7, .int 0, .ref h8, .ref h9, .ref h10, .int 0, .null, .int 0, .null, .int 0, .int 0, .int 0, .ref h11, .int 0, .ref h12, .ref h13, .ref h14, .int 0, .ref h15, .ref h16, .int 0])), (h7, .inl (g.2.1 0, 14, .inl f0))] sz)) 0 0 (va_A [(h0, .inr (22, [.int 0, .ref h1, .int 0, .ref h2, .int 0, .ref h3, .int 250, .ref h4, .int 0, .ref h5, .ref h6, .ref h7, .int 0, .ref h8, .ref h9, .ref h10, .int 0, .null, .int 0, .null, .int 0, .int 0, .int 0, .ref h11, .int 0, .ref h12, .ref h13, .ref h14, .int 0, .ref h15, .ref h16, .int 0])), (h7, .inl (g.2.1 0, 14, .inl f0))] sz) := by
  refine Met.ofW (cc := cX21_group) (maxL := 3) (ret := (some .int)) (by decide) rfl ?_
  intro p e s m args below meth c s₁ B hml hv
  obtain ⟨rfl, hsz, hP, hD0, hE⟩ := hv
  have hx := B.exec
  have hb := B.bytes
  have hr := B.returns
  have hts := atoms_spec (ws := w9_X21_group_4) B.pre
  have hown : s.vm.findClass RX21 = some m.cls := findClass_of_methodNamed B.named
  have hlocks := B.notSynchronized
  subst hsz
  have hD := hD0.self (sz := s.heap.size)
  generalize hAe : va_A [(h0, .inr (22, [.int 0, .ref h1, .int 0, .ref h2, .int 0, .ref h3, .int 250, .ref h4, .int 0, .ref h5, .ref h6, .ref h7, .int 0, .ref h8, .ref h9, .ref h10, .int 0, .null, .int 0, .null, .int 0, .int 0, .int 0, .ref h11, .int 0, .ref h12, .ref h13, .ref h14, .int 0, .ref h15, .ref h16, .int 0])), (h7, .inl (g.2.1 0, 14, .inl f0))] s.heap.size = A at hD hE ⊢
  have hA : ∀ q : Nat, s.heap.size ≤ q → A q := fun q h => by rw [← hAe]; exact Or.inr h
  have hK := hE.1
  have hS : va_S A s.heap s.heap [] := va_S.rf
  replace hP : va_P g.1 vwCl [(h0, .inr (22, [.int 0, .ref h1, .int 0, .ref h2, .int 0, .ref h3, .int 250, .ref h4, .int 0, .ref h5, .ref h6, .ref h7, .int 0, .ref h8, .ref h9, .ref h10, .int 0, .null, .int 0, .null, .int 0, .int 0, .int 0, .ref h11, .int 0, .ref h12, .ref h13, .ref h14, .int 0, .ref h15, .ref h16, .int 0])), (h7, .inl (g.2.1 0, 14, .inl f0))] s.heap := hP
  have hl := lv_entry ([.ref h0, .int 1, .int 1]) (n := 3) (Nat.le_of_ble_eq_true rfl)
  rw [lg_entry_eq]
  generalize (lg_sl ([.ref h0, .int 1, .int 1]) ++ List.replicate (3 - (lg_sl ([.ref h0, .int 1, .int 1])).length) Slot.unset).toArray = ls at hl ⊢
  replace hl : lv_has ls 3 [(0, .ref h0), (1, .int 1), (2, .int 1)] := hl
  have hH0 : s.heap.size ≤ s.heap.size := Nat.le_refl _
  refine lv_aload_n hx hb dX21_group_0 rfl (lv_at hl 0 rfl) ?_
  refine lv_iload_n hx hb dX21_group_1 rfl (lv_at hl 1 rfl) ?_
  refine lv_iconst (v := 0) hx hb dX21_group_2 (by decide) ?_
  refine lv_bipush (v := 6) hx hb dX21_group_3 (by decide) ?_
  have hPc := hP.sub (ws' := []) [] rfl
  have hDc := hD.sub (ws' := []) [] (by decide) rfl
  have hFc := va_free (wc := []) hD hS hA [] rfl
  refine va_calli (va_runS (As := [.int 1, .int 0, .int 6]) (rest := [.ref h0]) ⟨hx, hb, hml, hown, hts⟩ (c9_X21_in_17 l g _) (va_cwS 3 hts g9_X21_group_4_0 rfl rfl rfl (by decide +kernel) ⟨Nat.le_of_ble_eq_true rfl, Nat.le_of_ble_eq_true rfl⟩) (mPreS (g := g) (wc := []) hE hS hPc hDc hFc) rfl rfl hl.1 rfl (lv_room (Nat.le_of_ble_eq_true rfl)) dX21_group_5 ⟨Nat.le_of_ble_eq_true rfl, Nat.le_of_ble_eq_true rfl⟩) hS (fun q _ h => hFc q h) hFc (fun r_1 u t H1 locs ht hvm hw hB hz1 hk1 hS => ?_)
  replace hw : 1 = r_1 := Eq.symm hw
  subst hw
  obtain ⟨hP1, hD1⟩ := hB
  rw [ht] at hP1
  obtain ⟨hP, hD⟩ := va_join (wr := [(h0, .inr (22, [.int 0, .ref h1, .int 0, .ref h2, .int 0, .ref h3, .int 250, .ref h4, .int 0, .ref h5, .ref h6, .ref h7, .int 0, .ref h8, .ref h9, .ref h10, .int 0, .null, .int 0, .null, .int 0, .int 0, .int 0, .ref h11, .int 0, .ref h12, .ref h13, .ref h14, .int 0, .ref h15, .ref h16, .int 0])), (h7, .inl (g.2.1 0, 14, .inl f0))]) (w1 := []) hP hD [] [0, 1] rfl rfl (by decide) (by decide) hk1 hFc hP1 hD1
  clear hP1 hD1 hPc hDc hFc hk1 hz1 hvm ht
  generalize H1 = H at hP hS ⊢
  have hP : va_P g.1 vwCl [(h0, .inr (22, [.int 0, .ref h1, .int 0, .ref h2, .int 0, .ref h3, .int 250, .ref h4, .int 0, .ref h5, .ref h6, .ref h7, .int 0, .ref h8, .ref h9, .ref h10, .int 0, .null, .int 0, .null, .int 0, .int 0, .int 0, .ref h11, .int 0, .ref h12, .ref h13, .ref h14, .int 0, .ref h15, .ref h16, .int 0])), (h7, .inl (g.2.1 0, 14, .inl f0))] H := hP
  have hD : va_D A [(h0, .inr (22, [.int 0, .ref h1, .int 0, .ref h2, .int 0, .ref h3, .int 250, .ref h4, .int 0, .ref h5, .ref h6, .ref h7, .int 0, .ref h8, .ref h9, .ref h10, .int 0, .null, .int 0, .null, .int 0, .int 0, .int 0, .ref h11, .int 0, .ref h12, .ref h13, .ref h14, .int 0, .ref h15, .ref h16, .int 0])), (h7, .inl (g.2.1 0, 14, .inl f0))] := hD
  refine lv_if_eq (tgt := 15) hx hb dX21_group_8 (by decide) (fun c9 => absurd c9 (by decide)) (fun _ => ?_)
  refine lv_iconst (v := 0) hx hb dX21_group_11 (by decide) ?_
  refine lv_goto (tgt := 16) hx hb dX21_group_12 (by decide) ?_
  have hPc := hP.sub (ws' := [(h0, .inr (22, [.int 0, .ref h1, .int 0, .ref h2, .int 0, .ref h3, .int 250, .ref h4, .int 0, .ref h5, .ref h6, .ref h7, .int 0, .ref h8, .ref h9, .ref h10, .int 0, .null, .int 0, .null, .int 0, .int 0, .int 0, .ref h11, .int 0, .ref h12, .ref h13, .ref h14, .int 0, .ref h15, .ref h16, .int 0]))]) [0] rfl
  have hDc := hD.sub (ws' := [(h0, .inr (22, [.int 0, .ref h1, .int 0, .ref h2, .int 0, .ref h3, .int 250, .ref h4, .int 0, .ref h5, .ref h6, .ref h7, .int 0, .ref h8, .ref h9, .ref h10, .int 0, .null, .int 0, .null, .int 0, .int 0, .int 0, .ref h11, .int 0, .ref h12, .ref h13, .ref h14, .int 0, .ref h15, .ref h16, .int 0]))]) [0] (by decide) rfl
  have hFc := va_free (wc := [(h0, .inr (22, [.int 0, .ref h1, .int 0, .ref h2, .int 0, .ref h3, .int 250, .ref h4, .int 0, .ref h5, .ref h6, .ref h7, .int 0, .ref h8, .ref h9, .ref h10, .int 0, .null, .int 0, .null, .int 0, .int 0, .int 0, .ref h11, .int 0, .ref h12, .ref h13, .ref h14, .int 0, .ref h15, .ref h16, .int 0]))]) hD hS hA [0] rfl
  refine va_calli (va_runV (As := [.int 0]) (rest := []) ⟨hx, hb, hml, hown, hts⟩ (c9_X21_refused_1 l g h0 h1 h2 h3 h4 h5 h6 h7 h8 h9 h10 h11 h12 h13 h14 h15 h16 _) (cwV 1 hts g9_X21_group_4_1 rfl rfl rfl (by decide +kernel) ⟨Nat.le_of_ble_eq_true rfl, Nat.le_of_ble_eq_true rfl⟩) (mPreV (g := g) (wc := [(h0, .inr (22, [.int 0, .ref h1, .int 0, .ref h2, .int 0, .ref h3, .int 250, .ref h4, .int 0, .ref h5, .ref h6, .ref h7, .int 0, .ref h8, .ref h9, .ref h10, .int 0, .null, .int 0, .null, .int 0, .int 0, .int 0, .ref h11, .int 0, .ref h12, .ref h13, .ref h14, .int 0, .ref h15, .ref h16, .int 0]))]) (C := RX21) (ci := 22) (q0 := 0) hE hS hPc hDc hFc rfl rfl) rfl rfl hl.1 rfl (lv_room (Nat.le_of_ble_eq_true rfl)) dX21_group_16 ⟨Nat.le_of_ble_eq_true rfl, Nat.le_of_ble_eq_true rfl⟩) hS (fun q _ h => hFc q h) hFc (fun r_2 u t H1 locs ht hvm hw hB hz1 hk1 hS => ?_)
  replace hw : 0 = r_2 := Eq.symm hw
  subst hw
  obtain ⟨hP1, hD1⟩ := hB
  rw [ht] at hP1
  obtain ⟨hP, hD⟩ := va_join (wr := [(h7, .inl (g.2.1 0, 14, .inl f0))]) (w1 := [(h0, .inr (22, [.int 0, .ref h1, .int 0, .ref h2, .int 0, .ref h3, .int 250, .ref h4, .int 0, .ref h5, .ref h6, .ref h7, .int 0, .ref h8, .ref h9, .ref h10, .int 0, .null, .int 0, .null, .int 0, .int 0, .int 0, .ref h11, .int 0, .ref h12, .ref h13, .ref h14, .int 0, .ref h15, .ref h16, .int 0]))]) hP hD [0] [1] rfl rfl (by decide) (by decide) hk1 hFc hP1 hD1
  clear hP1 hD1 hPc hDc hFc hk1 hz1 hvm ht
  generalize H1 = H at hP hS ⊢
  have hP : va_P g.1 vwCl [(h7, .inl (g.2.1 0, 14, .inl f0)), (h0, .inr (22, [.int 0, .ref h1, .int 0, .ref h2, .int 0, .ref h3, .int 250, .ref h4, .int 0, .ref h5, .ref h6, .ref h7, .int 0, .ref h8, .ref h9, .ref h10, .int 0, .null, .int 0, .null, .int 0, .int 0, .int 0, .ref h11, .int 0, .ref h12, .ref h13, .ref h14, .int 0, .ref h15, .ref h16, .int 0]))] H := hP
  have hD : va_D A [(h7, .inl (g.2.1 0, 14, .inl f0)), (h0, .inr (22, [.int 0, .ref h1, .int 0, .ref h2, .int 0, .ref h3, .int 250, .ref h4, .int 0, .ref h5, .ref h6, .ref h7, .int 0, .ref h8, .ref h9, .ref h10, .int 0, .null, .int 0, .null, .int 0, .int 0, .int 0, .ref h11, .int 0, .ref h12, .ref h13, .ref h14, .int 0, .ref h15, .ref h16, .int 0]))] := hD
  refine lv_if_eq (tgt := 26) hx hb dX21_group_19 (by decide) (fun _ => ?_) (fun c9 => absurd (by decide) c9)
  refine lv_aload_n hx hb dX21_group_26 rfl (lv_at hl 0 rfl) ?_
  refine va_get (D := g.1) (ci := 22) (v := .ref h7) (C := RX21) (T := TX21) (N := 32) hx hb hts in9_X21_group_4_RX21 hown hK hP 1 rfl rfl 11 (by decide) (hts (.fieldLink RX21 107 "RegexloomModel" "told" "[I") (List.mem_of_getElem? (i := 10) rfl)) (fun _ h9 => h9) rfl dX21_group_27 ?_
  refine lv_iconst (v := 2) hx hb dX21_group_30 (by decide) ?_
  refine lv_iload_n hx hb dX21_group_31 rfl (lv_at hl 1 rfl) ?_
  refine lv_imul hx hb dX21_group_32 ?_
  refine e_top (y := 2) (by decide) ?_
  refine lv_iload_n hx hb dX21_group_33 rfl (lv_at hl 2 rfl) ?_
  refine lv_if_eq (tgt := 41) hx hb dX21_group_34 (by decide) (fun c9 => absurd c9 (by decide)) (fun _ => ?_)
  refine lv_iconst (v := 1) hx hb dX21_group_37 (by decide) ?_
  refine lv_goto (tgt := 42) hx hb dX21_group_38 (by decide) ?_
  refine lv_iadd hx hb dX21_group_42 ?_
  refine e_top (y := 3) (by decide) ?_
  refine va_iald hx hb hK hP 0 0 rfl rfl (vp_in_nI (n := 3) (by decide) (by decide)) dX21_group_43 ?_
  refine e_topv (y := .int (f0 3)) (by rfl) ?_
  have hP9 := hP.sub (ws' := [(h0, .inr (22, [.int 0, .ref h1, .int 0, .ref h2, .int 0, .ref h3, .int 250, .ref h4, .int 0, .ref h5, .ref h6, .ref h7, .int 0, .ref h8, .ref h9, .ref h10, .int 0, .null, .int 0, .null, .int 0, .int 0, .int 0, .ref h11, .int 0, .ref h12, .ref h13, .ref h14, .int 0, .ref h15, .ref h16, .int 0])), (h7, .inl (g.2.1 0, 14, .inl f0))]) [1, 0] rfl
  have hD9 := hD.sub (ws' := [(h0, .inr (22, [.int 0, .ref h1, .int 0, .ref h2, .int 0, .ref h3, .int 250, .ref h4, .int 0, .ref h5, .ref h6, .ref h7, .int 0, .ref h8, .ref h9, .ref h10, .int 0, .null, .int 0, .null, .int 0, .int 0, .int 0, .ref h11, .int 0, .ref h12, .ref h13, .ref h14, .int 0, .ref h15, .ref h16, .int 0])), (h7, .inl (g.2.1 0, 14, .inl f0))]) [1, 0] (by decide) rfl
  subst hAe
  exact W.iret (v := (f0 3)) hx hb hr (fun t ht hW => ⟨⟨(f0 3), (), rfl, rfl, by rw [ht]; exact hP9, hD9⟩, hS.F ht⟩) hS.2.2 dX21_group_44
def w9_X9_get_5 : List Cond := [.code yX9_get cX9_get 3 (some .int), .fieldLink RX9 28 "Regexloom$Table" "size" "I", .fieldLink RX9 9 "Regexloom$Table" "width" "I", .fieldLink RX9 24 "Regexloom$Table" "cells" "[I"] ++ (u_ws RX9 TX9 4)
set_option maxRecDepth 20000 in
theorem in9_X9_get_5_RX9 : ∀ w ∈ u_ws RX9 TX9 4, w ∈ w9_X9_get_5 := by decide +kernel
set_option maxHeartbeats 4000000 in
set_option maxRecDepth 100000 in
theorem c9_X9_get_5 (l : Launch) (g : G9) (h0 h1 sz : Nat) (f0 : Nat → Int32) : Met l yX9_get w9_X9_get_5 ({ frames := 0, cells := 0, slots := 0, locals := 0 }) (mP g [(h0, .inr (10, [.int 2, .int 7, .ref h1, .int 7])), (h1, .inl (g.2.1 0, 14, .inl f0))] sz [.ref h0, .int 2, .int 1]) (va_Qi (fun (r : Int32) (_ : Unit) => r = (f0 5)) (fun (_ : Unit) (t : State) => mB g [(h0, .inr (10, [.int 2, .int 7, .ref h1, .int 7])), (h1, .inl (g.2.1 0, 14, .inl f0))] sz [(h0, .inr (10, [.int 2, .int 7, .ref h1, .int 7])), (h1, .inl (g.2.1 0, 14, .inl f0))] t) (va_A [(h0, .inr (10, [.int 2, .int 7, .ref h1, .int 7])), (h1, .inl (g.2.1 0, 14, .inl f0))] sz)) 0 0 (va_A [(h0, .inr (10, [.int 2, .int 7, .ref h1, .int 7])), (h1, .inl (g.2.1 0, 14, .inl f0))] sz) := by
  refine Met.ofW (cc := cX9_get) (maxL := 3) (ret := (some .int)) (by decide) rfl ?_
  intro p e s m args below meth c s₁ B hml hv
  obtain ⟨rfl, hsz, hP, hD0, hE⟩ := hv
  have hx := B.exec
  have hb := B.bytes
  have hr := B.returns
  have hts := atoms_spec (ws := w9_X9_get_5) B.pre
  have hown : s.vm.findClass RX9 = some m.cls := findClass_of_methodNamed B.named
  have hlocks := B.notSynchronized
  subst hsz
  have hD := hD0.self (sz := s.heap.size)
  generalize hAe : va_A [(h0, .inr (10, [.int 2, .int 7, .ref h1, .int 7])), (h1, .inl (g.2.1 0, 14, .inl f0))] s.heap.size = A at hD hE ⊢
  have hA : ∀ q : Nat, s.heap.size ≤ q → A q := fun q h => by rw [← hAe]; exact Or.inr h
  have hK := hE.1
  have hS : va_S A s.heap s.heap [] := va_S.rf
  replace hP : va_P g.1 vwCl [(h0, .inr (10, [.int 2, .int 7, .ref h1, .int 7])), (h1, .inl (g.2.1 0, 14, .inl f0))] s.heap := hP
  have hl := lv_entry ([.ref h0, .int 2, .int 1]) (n := 3) (Nat.le_of_ble_eq_true rfl)
  rw [lg_entry_eq]
  generalize (lg_sl ([.ref h0, .int 2, .int 1]) ++ List.replicate (3 - (lg_sl ([.ref h0, .int 2, .int 1])).length) Slot.unset).toArray = ls at hl ⊢
  replace hl : lv_has ls 3 [(0, .ref h0), (1, .int 2), (2, .int 1)] := hl
  have hH0 : s.heap.size ≤ s.heap.size := Nat.le_refl _
  refine lv_iload_n hx hb dX9_get_0 rfl (lv_at hl 1 rfl) ?_
  refine lv_if_lt (tgt := 24) hx hb dX9_get_1 (by decide) (fun c9 => absurd c9 (by decide)) (fun _ => ?_)
  refine lv_iload_n hx hb dX9_get_4 rfl (lv_at hl 1 rfl) ?_
  refine lv_aload_n hx hb dX9_get_5 rfl (lv_at hl 0 rfl) ?_
  refine va_get (D := g.1) (ci := 10) (v := .int 7) (C := RX9) (T := TX9) (N := 4) hx hb hts in9_X9_get_5_RX9 hown hK hP 0 rfl rfl 3 (by decide) (hts (.fieldLink RX9 28 "Regexloom$Table" "size" "I") (List.mem_of_getElem? (i := 1) rfl)) (fun _ h9 => h9) rfl dX9_get_6 ?_
  refine lv_icmp_ge (tgt := 24) hx hb dX9_get_9 (by decide) (fun c9 => absurd c9 (by decide)) (fun _ => ?_)
  refine lv_iload_n hx hb dX9_get_12 rfl (lv_at hl 2 rfl) ?_
  refine lv_if_lt (tgt := 24) hx hb dX9_get_13 (by decide) (fun c9 => absurd c9 (by decide)) (fun _ => ?_)
  refine lv_iload_n hx hb dX9_get_16 rfl (lv_at hl 2 rfl) ?_
  refine lv_aload_n hx hb dX9_get_17 rfl (lv_at hl 0 rfl) ?_
  refine va_get (D := g.1) (ci := 10) (v := .int 2) (C := RX9) (T := TX9) (N := 4) hx hb hts in9_X9_get_5_RX9 hown hK hP 0 rfl rfl 0 (by decide) (hts (.fieldLink RX9 9 "Regexloom$Table" "width" "I") (List.mem_of_getElem? (i := 2) rfl)) (fun _ h9 => h9) rfl dX9_get_18 ?_
  refine lv_icmp_lt (tgt := 26) hx hb dX9_get_21 (by decide) (fun _ => ?_) (fun c9 => absurd (by decide) c9)
  refine lv_aload_n hx hb dX9_get_26 rfl (lv_at hl 0 rfl) ?_
  refine va_get (D := g.1) (ci := 10) (v := .ref h1) (C := RX9) (T := TX9) (N := 4) hx hb hts in9_X9_get_5_RX9 hown hK hP 0 rfl rfl 2 (by decide) (hts (.fieldLink RX9 24 "Regexloom$Table" "cells" "[I") (List.mem_of_getElem? (i := 3) rfl)) (fun _ h9 => h9) rfl dX9_get_27 ?_
  refine lv_iload_n hx hb dX9_get_30 rfl (lv_at hl 1 rfl) ?_
  refine lv_aload_n hx hb dX9_get_31 rfl (lv_at hl 0 rfl) ?_
  refine va_get (D := g.1) (ci := 10) (v := .int 2) (C := RX9) (T := TX9) (N := 4) hx hb hts in9_X9_get_5_RX9 hown hK hP 0 rfl rfl 0 (by decide) (hts (.fieldLink RX9 9 "Regexloom$Table" "width" "I") (List.mem_of_getElem? (i := 2) rfl)) (fun _ h9 => h9) rfl dX9_get_32 ?_
  refine lv_imul hx hb dX9_get_35 ?_
  refine e_top (y := 4) (by decide) ?_
  refine lv_iload_n hx hb dX9_get_36 rfl (lv_at hl 2 rfl) ?_
  refine lv_iadd hx hb dX9_get_37 ?_
  refine e_top (y := 5) (by decide) ?_
  refine va_iald hx hb hK hP 1 0 rfl rfl (vp_in_nI (n := 5) (by decide) (by decide)) dX9_get_38 ?_
  refine e_topv (y := .int (f0 5)) (by rfl) ?_
  have hP9 := hP.sub (ws' := [(h0, .inr (10, [.int 2, .int 7, .ref h1, .int 7])), (h1, .inl (g.2.1 0, 14, .inl f0))]) [0, 1] rfl
  have hD9 := hD.sub (ws' := [(h0, .inr (10, [.int 2, .int 7, .ref h1, .int 7])), (h1, .inl (g.2.1 0, 14, .inl f0))]) [0, 1] (by decide) rfl
  subst hAe
  exact W.iret (v := (f0 5)) hx hb hr (fun t ht hW => ⟨⟨(f0 5), (), rfl, rfl, by rw [ht]; exact hP9, hD9⟩, hS.F ht⟩) hS.2.2 dX9_get_39
def w9_X11_group_5 : List Cond := [.code yX11_group cX11_group 3 (some .int), .fieldLink RX11 78 "Regexloom" "bounds" "LRegexloom$Table;", .methodLink RX11 225 yX9_get, .instanceMethod yX9_get, .selects RX9 yX9_get yX9_get, .initialized RX9, .code yX9_get cX9_get 3 (some .int), .fieldLink RX9 28 "Regexloom$Table" "size" "I", .fieldLink RX9 9 "Regexloom$Table" "width" "I", .fieldLink RX9 24 "Regexloom$Table" "cells" "[I"] ++ (u_ws RX11 TX11 17 ++ u_ws RX9 TX9 4)
set_option maxRecDepth 20000 in
theorem in9_X11_group_5_RX11 : ∀ w ∈ u_ws RX11 TX11 17, w ∈ w9_X11_group_5 := by decide +kernel
set_option maxRecDepth 20000 in
theorem in9_X11_group_5_RX9 : ∀ w ∈ u_ws RX9 TX9 4, w ∈ w9_X11_group_5 := by decide +kernel
set_option maxRecDepth 20000 in
theorem g9_X11_group_5_0 : GoodIn w9_X11_group_5 (wsV RX11 225 RX9 yX9_get w9_X9_get_5) := goodIn_r _ [2, 3, 4, 5, 6, 7, 8, 9, 27, 28, 29, 30] (by decide +kernel) (by decide +kernel)
set_option maxHeartbeats 4000000 in
set_option maxRecDepth 100000 in
theorem c9_X11_group_5 (l : Launch) (g : G9) (h0 h1 h2 h3 h4 h5 h6 h7 h8 h9 h10 h11 h12 h13 h14 sz : Nat) (f0 : Nat → Int32) : Met l yX11_group w9_X11_group_5 ({ frames := 1, cells := 0, slots := 0, locals := 22 }) (mP g [(h0, .inr (12, [.ref h1, .int 0, .ref h2, .ref h3, .ref h4, .ref h5, .ref h6, .ref h7, .int (-1), .ref h8, .ref h9, .int 250, .ref h10, .int 0, .ref h11, .ref h12, .ref h13])), (h10, .inr (10, [.int 2, .int 7, .ref h14, .int 7])), (h14, .inl (g.2.1 0, 14, .inl f0))] sz [.ref h0, .int 2, .int 1]) (va_Qi (fun (r : Int32) (_ : Unit) => r = (f0 5)) (fun (_ : Unit) (t : State) => mB g [(h0, .inr (12, [.ref h1, .int 0, .ref h2, .ref h3, .ref h4, .ref h5, .ref h6, .ref h7, .int (-1), .ref h8, .ref h9, .int 250, .ref h10, .int 0, .ref h11, .ref h12, .ref h13])), (h10, .inr (10, [.int 2, .int 7, .ref h14, .int 7])), (h14, .inl (g.2.1 0, 14, .inl f0))] sz [(h0, .inr (12, [.ref h1, .int 0, .ref h2, .ref h3, .ref h4, .ref h5, .ref h6, .ref h7, .int (-1), .ref h8, .ref h9, .int 250, .ref h10, .int 0, .ref h11, .ref h12, .ref h13])), (h10, .inr (10, [.int 2, .int 7, .ref h14, .int 7])), (h14, .inl (g.2.1 0, 14, .inl f0))] t) (va_A [(h0, .inr (12, [.ref h1, .int 0, .ref h2, .ref h3, .ref h4, .ref h5, .ref h6, .ref h7, .int (-1), .ref h8, .ref h9, .int 250, .ref h10, .int 0, .ref h11, .ref h12, .ref h13])), (h10, .inr (10, [.int 2, .int 7, .ref h14, .int 7])), (h14, .inl (g.2.1 0, 14, .inl f0))] sz)) 0 0 (va_A [(h0, .inr (12, [.ref h1, .int 0, .ref h2, .ref h3, .ref h4, .ref h5, .ref h6, .ref h7, .int (-1), .ref h8, .ref h9, .int 250, .ref h10, .int 0, .ref h11, .ref h12, .ref h13])), (h10, .inr (10, [.int 2, .int 7, .ref h14, .int 7])), (h14, .inl (g.2.1 0, 14, .inl f0))] sz) := by
  refine Met.ofW (cc := cX11_group) (maxL := 3) (ret := (some .int)) (by decide) rfl ?_
  intro p e s m args below meth c s₁ B hml hv
  obtain ⟨rfl, hsz, hP, hD0, hE⟩ := hv
  have hx := B.exec
  have hb := B.bytes
  have hr := B.returns
  have hts := atoms_spec (ws := w9_X11_group_5) B.pre
  have hown : s.vm.findClass RX11 = some m.cls := findClass_of_methodNamed B.named
  have hlocks := B.notSynchronized
  subst hsz
  have hD := hD0.self (sz := s.heap.size)
  generalize hAe : va_A [(h0, .inr (12, [.ref h1, .int 0, .ref h2, .ref h3, .ref h4, .ref h5, .ref h6, .ref h7, .int (-1), .ref h8, .ref h9, .int 250, .ref h10, .int 0, .ref h11, .ref h12, .ref h13])), (h10, .inr (10, [.int 2, .int 7, .ref h14, .int 7])), (h14, .inl (g.2.1 0, 14, .inl f0))] s.heap.size = A at hD hE ⊢
  have hA : ∀ q : Nat, s.heap.size ≤ q → A q := fun q h => by rw [← hAe]; exact Or.inr h
  have hK := hE.1
  have hS : va_S A s.heap s.heap [] := va_S.rf
  replace hP : va_P g.1 vwCl [(h0, .inr (12, [.ref h1, .int 0, .ref h2, .ref h3, .ref h4, .ref h5, .ref h6, .ref h7, .int (-1), .ref h8, .ref h9, .int 250, .ref h10, .int 0, .ref h11, .ref h12, .ref h13])), (h10, .inr (10, [.int 2, .int 7, .ref h14, .int 7])), (h14, .inl (g.2.1 0, 14, .inl f0))] s.heap := hP
  have hl := lv_entry ([.ref h0, .int 2, .int 1]) (n := 3) (Nat.le_of_ble_eq_true rfl)
  rw [lg_entry_eq]
  generalize (lg_sl ([.ref h0, .int 2, .int 1]) ++ List.replicate (3 - (lg_sl ([.ref h0, .int 2, .int 1])).length) Slot.unset).toArray = ls at hl ⊢
  replace hl : lv_has ls 3 [(0, .ref h0), (1, .int 2), (2, .int 1)] := hl
  have hH0 : s.heap.size ≤ s.heap.size := Nat.le_refl _
  refine lv_iload_n hx hb dX11_group_0 rfl (lv_at hl 1 rfl) ?_
  refine lv_if_lt (tgt := 10) hx hb dX11_group_1 (by decide) (fun c9 => absurd c9 (by decide)) (fun _ => ?_)
  refine lv_iload_n hx hb dX11_group_4 rfl (lv_at hl 1 rfl) ?_
  refine lv_bipush (v := 6) hx hb dX11_group_5 (by decide) ?_
  refine lv_icmp_le (tgt := 20) hx hb dX11_group_7 (by decide) (fun _ => ?_) (fun c9 => absurd (by decide) c9)
  refine lv_aload_n hx hb dX11_group_20 rfl (lv_at hl 0 rfl) ?_
  refine va_get (D := g.1) (ci := 12) (v := .ref h10) (C := RX11) (T := TX11) (N := 17) hx hb hts in9_X11_group_5_RX11 hown hK hP 0 rfl rfl 12 (by decide) (hts (.fieldLink RX11 78 "Regexloom" "bounds" "LRegexloom$Table;") (List.mem_of_getElem? (i := 1) rfl)) (fun _ h9 => h9) rfl dX11_group_21 ?_
  refine lv_iload_n hx hb dX11_group_24 rfl (lv_at hl 1 rfl) ?_
  refine lv_iload_n hx hb dX11_group_25 rfl (lv_at hl 2 rfl) ?_
  refine lv_if_eq (tgt := 33) hx hb dX11_group_26 (by decide) (fun c9 => absurd c9 (by decide)) (fun _ => ?_)
  refine lv_iconst (v := 1) hx hb dX11_group_29 (by decide) ?_
  refine lv_goto (tgt := 34) hx hb dX11_group_30 (by decide) ?_
  have hPc := hP.sub (ws' := [(h10, .inr (10, [.int 2, .int 7, .ref h14, .int 7])), (h14, .inl (g.2.1 0, 14, .inl f0))]) [1, 2] rfl
  have hDc := hD.sub (ws' := [(h10, .inr (10, [.int 2, .int 7, .ref h14, .int 7])), (h14, .inl (g.2.1 0, 14, .inl f0))]) [1, 2] (by decide) rfl
  have hFc := va_free (wc := [(h10, .inr (10, [.int 2, .int 7, .ref h14, .int 7])), (h14, .inl (g.2.1 0, 14, .inl f0))]) hD hS hA [1, 2] rfl
  refine va_calli (va_runV (As := [.int 2, .int 1]) (rest := []) ⟨hx, hb, hml, hown, hts⟩ (c9_X9_get_5 l g h10 h14 _ f0) (cwV 2 hts g9_X11_group_5_0 rfl rfl rfl (by decide +kernel) ⟨Nat.le_of_ble_eq_true rfl, Nat.le_of_ble_eq_true rfl⟩) (mPreV (g := g) (wc := [(h10, .inr (10, [.int 2, .int 7, .ref h14, .int 7])), (h14, .inl (g.2.1 0, 14, .inl f0))]) (C := RX9) (ci := 10) (q0 := 0) hE hS hPc hDc hFc rfl rfl) rfl rfl hl.1 rfl (lv_room (Nat.le_of_ble_eq_true rfl)) dX11_group_34 ⟨Nat.le_of_ble_eq_true rfl, Nat.le_of_ble_eq_true rfl⟩) hS (fun q _ h => hFc q h) hFc (fun r_1 u t H1 locs ht hvm hw hB hz1 hk1 hS => ?_)
  replace hw : (f0 5) = r_1 := Eq.symm hw
  subst hw
  obtain ⟨hP1, hD1⟩ := hB
  rw [ht] at hP1
  obtain ⟨hP, hD⟩ := va_join (wr := [(h0, .inr (12, [.ref h1, .int 0, .ref h2, .ref h3, .ref h4, .ref h5, .ref h6, .ref h7, .int (-1), .ref h8, .ref h9, .int 250, .ref h10, .int 0, .ref h11, .ref h12, .ref h13]))]) (w1 := [(h10, .inr (10, [.int 2, .int 7, .ref h14, .int 7])), (h14, .inl (g.2.1 0, 14, .inl f0))]) hP hD [1, 2] [0] rfl rfl (by decide) (by decide) hk1 hFc hP1 hD1
  clear hP1 hD1 hPc hDc hFc hk1 hz1 hvm ht
  generalize H1 = H at hP hS ⊢
  have hP : va_P g.1 vwCl [(h0, .inr (12, [.ref h1, .int 0, .ref h2, .ref h3, .ref h4, .ref h5, .ref h6, .ref h7, .int (-1), .ref h8, .ref h9, .int 250, .ref h10, .int 0, .ref h11, .ref h12, .ref h13])), (h10, .inr (10, [.int 2, .int 7, .ref h14, .int 7])), (h14, .inl (g.2.1 0, 14, .inl f0))] H := hP
  have hD : va_D A [(h0, .inr (12, [.ref h1, .int 0, .ref h2, .ref h3, .ref h4, .ref h5, .ref h6, .ref h7, .int (-1), .ref h8, .ref h9, .int 250, .ref h10, .int 0, .ref h11, .ref h12, .ref h13])), (h10, .inr (10, [.int 2, .int 7, .ref h14, .int 7])), (h14, .inl (g.2.1 0, 14, .inl f0))] := hD
  refine e_top (y := (f0 5)) (by rfl) ?_
  have hP9 := hP.sub (ws' := [(h0, .inr (12, [.ref h1, .int 0, .ref h2, .ref h3, .ref h4, .ref h5, .ref h6, .ref h7, .int (-1), .ref h8, .ref h9, .int 250, .ref h10, .int 0, .ref h11, .ref h12, .ref h13])), (h10, .inr (10, [.int 2, .int 7, .ref h14, .int 7])), (h14, .inl (g.2.1 0, 14, .inl f0))]) [0, 1, 2] rfl
  have hD9 := hD.sub (ws' := [(h0, .inr (12, [.ref h1, .int 0, .ref h2, .ref h3, .ref h4, .ref h5, .ref h6, .ref h7, .int (-1), .ref h8, .ref h9, .int 250, .ref h10, .int 0, .ref h11, .ref h12, .ref h13])), (h10, .inr (10, [.int 2, .int 7, .ref h14, .int 7])), (h14, .inl (g.2.1 0, 14, .inl f0))]) [0, 1, 2] (by decide) rfl
  subst hAe
  exact W.iret (v := (f0 5)) hx hb hr (fun t ht hW => ⟨⟨(f0 5), (), rfl, rfl, by rw [ht]; exact hP9, hD9⟩, hS.F ht⟩) hS.2.2 dX11_group_37
def w9_L_group_6 : List Cond := [.codeWith yL_group cL_group 5 (some .int) [(0, 10, 13, 21)], .methodLink RL 47 yX11_group, .instanceMethod yX11_group, .selects RX11 yX11_group yX11_group, .initialized RX11, .code yX11_group cX11_group 3 (some .int), .fieldLink RX11 78 "Regexloom" "bounds" "LRegexloom$Table;", .methodLink RX11 225 yX9_get, .instanceMethod yX9_get, .selects RX9 yX9_get yX9_get, .initialized RX9, .code yX9_get cX9_get 3 (some .int), .fieldLink RX9 28 "Regexloom$Table" "size" "I", .fieldLink RX9 9 "Regexloom$Table" "width" "I", .fieldLink RX9 24 "Regexloom$Table" "cells" "[I"] ++ (u_ws RX11 TX11 17 ++ u_ws RX9 TX9 4)
set_option maxRecDepth 20000 in
theorem in9_L_group_6_RX11 : ∀ w ∈ u_ws RX11 TX11 17, w ∈ w9_L_group_6 := by decide +kernel
set_option maxRecDepth 20000 in
theorem in9_L_group_6_RX9 : ∀ w ∈ u_ws RX9 TX9 4, w ∈ w9_L_group_6 := by decide +kernel
set_option maxRecDepth 20000 in
theorem g9_L_group_6_0 : GoodIn w9_L_group_6 (wsV RL 47 RX11 yX11_group w9_X11_group_5) := goodIn_r _ [1, 2, 3, 4, 5, 6, 7, 8, 9, 10, 11, 12, 13, 14, 15, 16, 17, 18, 19, 20, 21, 22, 23, 24, 25, 26, 27, 28, 29, 30, 31, 32, 33, 34, 35] (by decide +kernel) (by decide +kernel)
set_option maxHeartbeats 4000000 in
set_option maxRecDepth 100000 in
theorem c9_L_group_6 (l : Launch) (g : G9) (h0 h1 h2 h3 h4 h5 h6 h7 h8 h9 h10 h11 h12 h13 h14 h15 sz : Nat) : Met l yL_group w9_L_group_6 ({ frames := 2, cells := 0, slots := 0, locals := 44 }) (mP g [(h0, .inr (12, [.ref h2, .int 0, .ref h3, .ref h4, .ref h5, .ref h6, .ref h7, .ref h8, .int (-1), .ref h9, .ref h10, .int 250, .ref h11, .int 0, .ref h12, .ref h13, .ref h14])), (h11, .inr (10, [.int 2, .int 7, .ref h15, .int 7])), (h15, .inl (g.2.1 0, 14, .inl (upd (upd (upd (upd (upd (upd (upd (upd (upd (upd (upd (upd (upd (upd (fun _ => 0) 0 (-1)) 1 (-1)) 2 (-1)) 3 (-1)) 4 (-1)) 5 (-1)) 6 (-1)) 7 (-1)) 8 (-1)) 9 (-1)) 10 (-1)) 11 (-1)) 12 (-1)) 13 (-1)))), (h1, .inl (g.2.1 2, 1, .inr (.inl (fun _ => 0))))] sz [.ref h0, .int 2, .int 1, .ref h1]) (va_Qi (fun (r : Int32) (_ : Unit) => r = 0) (fun (_ : Unit) (t : State) => mB g [(h0, .inr (12, [.ref h2, .int 0, .ref h3, .ref h4, .ref h5, .ref h6, .ref h7, .ref h8, .int (-1), .ref h9, .ref h10, .int 250, .ref h11, .int 0, .ref h12, .ref h13, .ref h14])), (h11, .inr (10, [.int 2, .int 7, .ref h15, .int 7])), (h15, .inl (g.2.1 0, 14, .inl (upd (upd (upd (upd (upd (upd (upd (upd (upd (upd (upd (upd (upd (upd (fun _ => 0) 0 (-1)) 1 (-1)) 2 (-1)) 3 (-1)) 4 (-1)) 5 (-1)) 6 (-1)) 7 (-1)) 8 (-1)) 9 (-1)) 10 (-1)) 11 (-1)) 12 (-1)) 13 (-1)))), (h1, .inl (g.2.1 2, 1, .inr (.inl (fun _ => 0))))] sz [(h0, .inr (12, [.ref h2, .int 0, .ref h3, .ref h4, .ref h5, .ref h6, .ref h7, .ref h8, .int (-1), .ref h9, .ref h10, .int 250, .ref h11, .int 0, .ref h12, .ref h13, .ref h14])), (h11, .inr (10, [.int 2, .int 7, .ref h15, .int 7])), (h15, .inl (g.2.1 0, 14, .inl (upd (upd (upd (upd (upd (upd (upd (upd (upd (upd (upd (upd (upd (upd (fun _ => 0) 0 (-1)) 1 (-1)) 2 (-1)) 3 (-1)) 4 (-1)) 5 (-1)) 6 (-1)) 7 (-1)) 8 (-1)) 9 (-1)) 10 (-1)) 11 (-1)) 12 (-1)) 13 (-1)))), (h1, .inl (g.2.1 2, 1, .inr (.inl (vp_updL (fun _ => 0) 0 (-1)))))] t) (va_A [(h0, .inr (12, [.ref h2, .int 0, .ref h3, .ref h4, .ref h5, .ref h6, .ref h7, .ref h8, .int (-1), .ref h9, .ref h10, .int 250, .ref h11, .int 0, .ref h12, .ref h13, .ref h14])), (h11, .inr (10, [.int 2, .int 7, .ref h15, .int 7])), (h15, .inl (g.2.1 0, 14, .inl (upd (upd (upd (upd (upd (upd (upd (upd (upd (upd (upd (upd (upd (upd (fun _ => 0) 0 (-1)) 1 (-1)) 2 (-1)) 3 (-1)) 4 (-1)) 5 (-1)) 6 (-1)) 7 (-1)) 8 (-1)) 9 (-1)) 10 (-1)) 11 (-1)) 12 (-1)) 13 (-1)))), (h1, .inl (g.2.1 2, 1, .inr (.inl (fun _ => 0))))] sz)) 0 0 (va_A [(h0, .inr (12, [.ref h2, .int 0, .ref h3, .ref h4, .ref h5, .ref h6, .ref h7, .ref h8, .int (-1), .ref h9, .ref h10, .int 250, .ref h11, .int 0, .ref h12, .ref h13, .ref h14])), (h11, .inr (10, [.int 2, .int 7, .ref h15, .int 7])), (h15, .inl (g.2.1 0, 14, .inl (upd (upd (upd (upd (upd (upd (upd (upd (upd (upd (upd (upd (upd (upd (fun _ => 0) 0 (-1)) 1 (-1)) 2 (-1)) 3 (-1)) 4 (-1)) 5 (-1)) 6 (-1)) 7 (-1)) 8 (-1)) 9 (-1)) 10 (-1)) 11 (-1)) 12 (-1)) 13 (-1)))), (h1, .inl (g.2.1 2, 1, .inr (.inl (fun _ => 0))))] sz) := by
  refine va_MetW (cc := cL_group) (maxL := 5) (ret := (some .int)) (by decide) rfl ?_
  intro p e s m args below meth c s₁ B hml hv
  obtain ⟨rfl, hsz, hP, hD0, hE⟩ := hv
  have hx := B.exec
  have hb := B.bytes
  have hr := B.returns
  have hts := atoms_spec (ws := w9_L_group_6) B.pre
  have hown : s.vm.findClass RL = some m.cls := findClass_of_methodNamed B.named
  have hlocks := B.notSynchronized
  have htab := vx_table (x := yL_group) B (hts (.codeWith yL_group cL_group 5 (some .int) [(0, 10, 13, 21)]) (List.mem_of_getElem? (i := 0) rfl))
  subst hsz
  have hD := hD0.self (sz := s.heap.size)
  generalize hAe : va_A [(h0, .inr (12, [.ref h2, .int 0, .ref h3, .ref h4, .ref h5, .ref h6, .ref h7, .ref h8, .int (-1), .ref h9, .ref h10, .int 250, .ref h11, .int 0, .ref h12, .ref h13, .ref h14])), (h11, .inr (10, [.int 2, .int 7, .ref h15, .int 7])), (h15, .inl (g.2.1 0, 14, .inl (upd (upd (upd (upd (upd (upd (upd (upd (upd (upd (upd (upd (upd (upd (fun _ => 0) 0 (-1)) 1 (-1)) 2 (-1)) 3 (-1)) 4 (-1)) 5 (-1)) 6 (-1)) 7 (-1)) 8 (-1)) 9 (-1)) 10 (-1)) 11 (-1)) 12 (-1)) 13 (-1)))), (h1, .inl (g.2.1 2, 1, .inr (.inl (fun _ => 0))))] s.heap.size = A at hD hE ⊢
  have hA : ∀ q : Nat, s.heap.size ≤ q → A q := fun q h => by rw [← hAe]; exact Or.inr h
  have hK := hE.1
  have hS : va_S A s.heap s.heap [] := va_S.rf
  replace hP : va_P g.1 vwCl [(h0, .inr (12, [.ref h2, .int 0, .ref h3, .ref h4, .ref h5, .ref h6, .ref h7, .ref h8, .int (-1), .ref h9, .ref h10, .int 250, .ref h11, .int 0, .ref h12, .ref h13, .ref h14])), (h11, .inr (10, [.int 2, .int 7, .ref h15, .int 7])), (h15, .inl (g.2.1 0, 14, .inl (upd (upd (upd (upd (upd (upd (upd (upd (upd (upd (upd (upd (upd (upd (fun _ => 0) 0 (-1)) 1 (-1)) 2 (-1)) 3 (-1)) 4 (-1)) 5 (-1)) 6 (-1)) 7 (-1)) 8 (-1)) 9 (-1)) 10 (-1)) 11 (-1)) 12 (-1)) 13 (-1)))), (h1, .inl (g.2.1 2, 1, .inr (.inl (fun _ => 0))))] s.heap := hP
  have hl := lv_entry ([.ref h0, .int 2, .int 1, .ref h1]) (n := 5) (Nat.le_of_ble_eq_true rfl)
  rw [lg_entry_eq]
  generalize (lg_sl ([.ref h0, .int 2, .int 1, .ref h1]) ++ List.replicate (5 - (lg_sl ([.ref h0, .int 2, .int 1, .ref h1])).length) Slot.unset).toArray = ls at hl ⊢
  replace hl : lv_has ls 5 [(0, .ref h0), (1, .int 2), (2, .int 1), (3, .ref h1)] := hl
  have hH0 : s.heap.size ≤ s.heap.size := Nat.le_refl _
  refine lv_aload_n hx hb dL_group_0 rfl (lv_at hl 3 rfl) ?_
  refine lv_iconst (v := 0) hx hb dL_group_1 (by decide) ?_
  refine lv_aload_n hx hb dL_group_2 rfl (lv_at hl 0 rfl) ?_
  refine lv_iload_n hx hb dL_group_3 rfl (lv_at hl 1 rfl) ?_
  refine lv_iload_n hx hb dL_group_4 rfl (lv_at hl 2 rfl) ?_
  have hPc := hP.sub (ws' := [(h0, .inr (12, [.ref h2, .int 0, .ref h3, .ref h4, .ref h5, .ref h6, .ref h7, .ref h8, .int (-1), .ref h9, .ref h10, .int 250, .ref h11, .int 0, .ref h12, .ref h13, .ref h14])), (h11, .inr (10, [.int 2, .int 7, .ref h15, .int 7])), (h15, .inl (g.2.1 0, 14, .inl (upd (upd (upd (upd (upd (upd (upd (upd (upd (upd (upd (upd (upd (upd (fun _ => 0) 0 (-1)) 1 (-1)) 2 (-1)) 3 (-1)) 4 (-1)) 5 (-1)) 6 (-1)) 7 (-1)) 8 (-1)) 9 (-1)) 10 (-1)) 11 (-1)) 12 (-1)) 13 (-1))))]) [0, 1, 2] rfl
  have hDc := hD.sub (ws' := [(h0, .inr (12, [.ref h2, .int 0, .ref h3, .ref h4, .ref h5, .ref h6, .ref h7, .ref h8, .int (-1), .ref h9, .ref h10, .int 250, .ref h11, .int 0, .ref h12, .ref h13, .ref h14])), (h11, .inr (10, [.int 2, .int 7, .ref h15, .int 7])), (h15, .inl (g.2.1 0, 14, .inl (upd (upd (upd (upd (upd (upd (upd (upd (upd (upd (upd (upd (upd (upd (fun _ => 0) 0 (-1)) 1 (-1)) 2 (-1)) 3 (-1)) 4 (-1)) 5 (-1)) 6 (-1)) 7 (-1)) 8 (-1)) 9 (-1)) 10 (-1)) 11 (-1)) 12 (-1)) 13 (-1))))]) [0, 1, 2] (by decide) rfl
  have hFc := va_free (wc := [(h0, .inr (12, [.ref h2, .int 0, .ref h3, .ref h4, .ref h5, .ref h6, .ref h7, .ref h8, .int (-1), .ref h9, .ref h10, .int 250, .ref h11, .int 0, .ref h12, .ref h13, .ref h14])), (h11, .inr (10, [.int 2, .int 7, .ref h15, .int 7])), (h15, .inl (g.2.1 0, 14, .inl (upd (upd (upd (upd (upd (upd (upd (upd (upd (upd (upd (upd (upd (upd (fun _ => 0) 0 (-1)) 1 (-1)) 2 (-1)) 3 (-1)) 4 (-1)) 5 (-1)) 6 (-1)) 7 (-1)) 8 (-1)) 9 (-1)) 10 (-1)) 11 (-1)) 12 (-1)) 13 (-1))))]) hD hS hA [0, 1, 2] rfl
  refine va_calli (va_runV (As := [.int 2, .int 1]) (rest := [.int 0, .ref h1]) ⟨hx, hb, hml, hown, hts⟩ (c9_X11_group_5 l g h0 h2 h3 h4 h5 h6 h7 h8 h9 h10 h11 h12 h13 h14 h15 _ (upd (upd (upd (upd (upd (upd (upd (upd (upd (upd (upd (upd (upd (upd (fun _ => 0) 0 (-1)) 1 (-1)) 2 (-1)) 3 (-1)) 4 (-1)) 5 (-1)) 6 (-1)) 7 (-1)) 8 (-1)) 9 (-1)) 10 (-1)) 11 (-1)) 12 (-1)) 13 (-1))) (cwV 2 hts g9_L_group_6_0 rfl rfl rfl (by decide +kernel) ⟨Nat.le_of_ble_eq_true rfl, Nat.le_of_ble_eq_true rfl⟩) (mPreV (g := g) (wc := [(h0, .inr (12, [.ref h2, .int 0, .ref h3, .ref h4, .ref h5, .ref h6, .ref h7, .ref h8, .int (-1), .ref h9, .ref h10, .int 250, .ref h11, .int 0, .ref h12, .ref h13, .ref h14])), (h11, .inr (10, [.int 2, .int 7, .ref h15, .int 7])), (h15, .inl (g.2.1 0, 14, .inl (upd (upd (upd (upd (upd (upd (upd (upd (upd (upd (upd (upd (upd (upd (fun _ => 0) 0 (-1)) 1 (-1)) 2 (-1)) 3 (-1)) 4 (-1)) 5 (-1)) 6 (-1)) 7 (-1)) 8 (-1)) 9 (-1)) 10 (-1)) 11 (-1)) 12 (-1)) 13 (-1))))]) (C := RX11) (ci := 12) (q0 := 0) hE hS hPc hDc hFc rfl rfl) rfl rfl hl.1 rfl (lv_room (Nat.le_of_ble_eq_true rfl)) dL_group_5 ⟨Nat.le_of_ble_eq_true rfl, Nat.le_of_ble_eq_true rfl⟩) hS (fun q _ h => hFc q h) hFc (fun r_1 u t H1 locs ht hvm hw hB hz1 hk1 hS => ?_)
  replace hw : ((upd (upd (upd (upd (upd (upd (upd (upd (upd (upd (upd (upd (upd (upd (fun _ => 0) 0 (-1)) 1 (-1)) 2 (-1)) 3 (-1)) 4 (-1)) 5 (-1)) 6 (-1)) 7 (-1)) 8 (-1)) 9 (-1)) 10 (-1)) 11 (-1)) 12 (-1)) 13 (-1)) 5) = r_1 := Eq.symm hw
  subst hw
  obtain ⟨hP1, hD1⟩ := hB
  rw [ht] at hP1
  obtain ⟨hP, hD⟩ := va_join (wr := [(h1, .inl (g.2.1 2, 1, .inr (.inl (fun _ => 0))))]) (w1 := [(h0, .inr (12, [.ref h2, .int 0, .ref h3, .ref h4, .ref h5, .ref h6, .ref h7, .ref h8, .int (-1), .ref h9, .ref h10, .int 250, .ref h11, .int 0, .ref h12, .ref h13, .ref h14])), (h11, .inr (10, [.int 2, .int 7, .ref h15, .int 7])), (h15, .inl (g.2.1 0, 14, .inl (upd (upd (upd (upd (upd (upd (upd (upd (upd (upd (upd (upd (upd (upd (fun _ => 0) 0 (-1)) 1 (-1)) 2 (-1)) 3 (-1)) 4 (-1)) 5 (-1)) 6 (-1)) 7 (-1)) 8 (-1)) 9 (-1)) 10 (-1)) 11 (-1)) 12 (-1)) 13 (-1))))]) hP hD [0, 1, 2] [3] rfl rfl (by decide) (by decide) hk1 hFc hP1 hD1
  clear hP1 hD1 hPc hDc hFc hk1 hz1 hvm ht
  generalize H1 = H at hP hS ⊢
  have hP : va_P g.1 vwCl [(h1, .inl (g.2.1 2, 1, .inr (.inl (fun _ => 0)))), (h0, .inr (12, [.ref h2, .int 0, .ref h3, .ref h4, .ref h5, .ref h6, .ref h7, .ref h8, .int (-1), .ref h9, .ref h10, .int 250, .ref h11, .int 0, .ref h12, .ref h13, .ref h14])), (h11, .inr (10, [.int 2, .int 7, .ref h15, .int 7])), (h15, .inl (g.2.1 0, 14, .inl (upd (upd (upd (upd (upd (upd (upd (upd (upd (upd (upd (upd (upd (upd (fun _ => 0) 0 (-1)) 1 (-1)) 2 (-1)) 3 (-1)) 4 (-1)) 5 (-1)) 6 (-1)) 7 (-1)) 8 (-1)) 9 (-1)) 10 (-1)) 11 (-1)) 12 (-1)) 13 (-1))))] H := hP
  have hD : va_D A [(h1, .inl (g.2.1 2, 1, .inr (.inl (fun _ => 0)))), (h0, .inr (12, [.ref h2, .int 0, .ref h3, .ref h4, .ref h5, .ref h6, .ref h7, .ref h8, .int (-1), .ref h9, .ref h10, .int 250, .ref h11, .int 0, .ref h12, .ref h13, .ref h14])), (h11, .inr (10, [.int 2, .int 7, .ref h15, .int 7])), (h15, .inl (g.2.1 0, 14, .inl (upd (upd (upd (upd (upd (upd (upd (upd (upd (upd (upd (upd (upd (upd (fun _ => 0) 0 (-1)) 1 (-1)) 2 (-1)) 3 (-1)) 4 (-1)) 5 (-1)) 6 (-1)) 7 (-1)) 8 (-1)) 9 (-1)) 10 (-1)) 11 (-1)) 12 (-1)) 13 (-1))))] := hD
  refine e_top (y := (-1)) (by rfl) ?_
  refine lv_i2l (v := (-1)) hx hb dL_group_8 (by decide) ?_
  refine va_last hx hb hK hP hD hS 0 2 rfl rfl (vp_in_nI (n := 0) (by decide) (by decide)) dL_group_9 (fun H locs hP hD hS => ?_)
  have hP : va_P g.1 vwCl [(h1, .inl (g.2.1 2, 1, .inr (.inl (vp_updL (fun _ => 0) 0 (-1))))), (h0, .inr (12, [.ref h2, .int 0, .ref h3, .ref h4, .ref h5, .ref h6, .ref h7, .ref h8, .int (-1), .ref h9, .ref h10, .int 250, .ref h11, .int 0, .ref h12, .ref h13, .ref h14])), (h11, .inr (10, [.int 2, .int 7, .ref h15, .int 7])), (h15, .inl (g.2.1 0, 14, .inl (upd (upd (upd (upd (upd (upd (upd (upd (upd (upd (upd (upd (upd (upd (fun _ => 0) 0 (-1)) 1 (-1)) 2 (-1)) 3 (-1)) 4 (-1)) 5 (-1)) 6 (-1)) 7 (-1)) 8 (-1)) 9 (-1)) 10 (-1)) 11 (-1)) 12 (-1)) 13 (-1))))] H := hP
  have hD : va_D A [(h1, .inl (g.2.1 2, 1, .inr (.inl (vp_updL (fun _ => 0) 0 (-1))))), (h0, .inr (12, [.ref h2, .int 0, .ref h3, .ref h4, .ref h5, .ref h6, .ref h7, .ref h8, .int (-1), .ref h9, .ref h10, .int 250, .ref h11, .int 0, .ref h12, .ref h13, .ref h14])), (h11, .inr (10, [.int 2, .int 7, .ref h15, .int 7])), (h15, .inl (g.2.1 0, 14, .inl (upd (upd (upd (upd (upd (upd (upd (upd (upd (upd (upd (upd (upd (upd (fun _ => 0) 0 (-1)) 1 (-1)) 2 (-1)) 3 (-1)) 4 (-1)) 5 (-1)) 6 (-1)) 7 (-1)) 8 (-1)) 9 (-1)) 10 (-1)) 11 (-1)) 12 (-1)) 13 (-1))))] := hD
  refine lv_goto (tgt := 17) hx hb dL_group_10 (by decide) ?_
  refine lv_iconst (v := 0) hx hb dL_group_17 (by decide) ?_
  have hP9 := hP.sub (ws' := [(h0, .inr (12, [.ref h2, .int 0, .ref h3, .ref h4, .ref h5, .ref h6, .ref h7, .ref h8, .int (-1), .ref h9, .ref h10, .int 250, .ref h11, .int 0, .ref h12, .ref h13, .ref h14])), (h11, .inr (10, [.int 2, .int 7, .ref h15, .int 7])), (h15, .inl (g.2.1 0, 14, .inl (upd (upd (upd (upd (upd (upd (upd (upd (upd (upd (upd (upd (upd (upd (fun _ => 0) 0 (-1)) 1 (-1)) 2 (-1)) 3 (-1)) 4 (-1)) 5 (-1)) 6 (-1)) 7 (-1)) 8 (-1)) 9 (-1)) 10 (-1)) 11 (-1)) 12 (-1)) 13 (-1)))), (h1, .inl (g.2.1 2, 1, .inr (.inl (vp_updL (fun _ => 0) 0 (-1)))))]) [1, 2, 3, 0] rfl
  have hD9 := hD.sub (ws' := [(h0, .inr (12, [.ref h2, .int 0, .ref h3, .ref h4, .ref h5, .ref h6, .ref h7, .ref h8, .int (-1), .ref h9, .ref h10, .int 250, .ref h11, .int 0, .ref h12, .ref h13, .ref h14])), (h11, .inr (10, [.int 2, .int 7, .ref h15, .int 7])), (h15, .inl (g.2.1 0, 14, .inl (upd (upd (upd (upd (upd (upd (upd (upd (upd (upd (upd (upd (upd (upd (fun _ => 0) 0 (-1)) 1 (-1)) 2 (-1)) 3 (-1)) 4 (-1)) 5 (-1)) 6 (-1)) 7 (-1)) 8 (-1)) 9 (-1)) 10 (-1)) 11 (-1)) 12 (-1)) 13 (-1)))), (h1, .inl (g.2.1 2, 1, .inr (.inl (vp_updL (fun _ => 0) 0 (-1)))))]) [1, 2, 3, 0] (by decide) rfl
  subst hAe
  exact W.iret (v := 0) hx hb hr (fun t ht hW => ⟨⟨0, (), rfl, rfl, by rw [ht]; exact hP9, hD9⟩, hS.F ht⟩) hS.2.2 dL_group_18
def w9_X21_in_18 : List Cond := [.code yX21_in cX21_in 3 (some .boolean)]
set_option maxHeartbeats 4000000 in
set_option maxRecDepth 100000 in
theorem c9_X21_in_18 (l : Launch) (g : G9) (sz : Nat) : Met l yX21_in w9_X21_in_18 ({ frames := 0, cells := 0, slots := 0, locals := 0 }) (mP g [] sz [.int 2, .int 0, .int 6]) (va_Qi (fun (r : Int32) (_ : Unit) => r = 1) (fun (_ : Unit) (t : State) => mB g [] sz [] t) (va_A [] sz)) 0 0 (va_A [] sz) := by
  refine Met.ofW (cc := cX21_in) (maxL := 3) (ret := (some .boolean)) (by decide) rfl ?_
  intro p e s m args below meth c s₁ B hml hv
  obtain ⟨rfl, hsz, hP, hD0, hE⟩ := hv
  have hx := B.exec
  have hb := B.bytes
  have hr := B.returns
  have hts := atoms_spec (ws := w9_X21_in_18) B.pre
  have hown : s.vm.findClass RX21 = some m.cls := findClass_of_methodNamed B.named
  have hlocks := B.notSynchronized
  subst hsz
  have hD := hD0.self (sz := s.heap.size)
  generalize hAe : va_A [] s.heap.size = A at hD hE ⊢
  have hA : ∀ q : Nat, s.heap.size ≤ q → A q := fun q h => by rw [← hAe]; exact Or.inr h
  have hK := hE.1
  have hS : va_S A s.heap s.heap [] := va_S.rf
  replace hP : va_P g.1 vwCl [] s.heap := hP
  have hl := lv_entry ([.int 2, .int 0, .int 6]) (n := 3) (Nat.le_of_ble_eq_true rfl)
  rw [lg_entry_eq]
  generalize (lg_sl ([.int 2, .int 0, .int 6]) ++ List.replicate (3 - (lg_sl ([.int 2, .int 0, .int 6])).length) Slot.unset).toArray = ls at hl ⊢
  replace hl : lv_has ls 3 [(0, .int 2), (1, .int 0), (2, .int 6)] := hl
  have hH0 : s.heap.size ≤ s.heap.size := Nat.le_refl _
  refine lv_iload_n hx hb dX21_in_0 rfl (lv_at hl 0 rfl) ?_
  refine lv_iload_n hx hb dX21_in_1 rfl (lv_at hl 1 rfl) ?_
  refine lv_icmp_lt (tgt := 14) hx hb dX21_in_2 (by decide) (fun c9 => absurd c9 (by decide)) (fun _ => ?_)
  refine lv_iload_n hx hb dX21_in_5 rfl (lv_at hl 0 rfl) ?_
  refine lv_iload_n hx hb dX21_in_6 rfl (lv_at hl 2 rfl) ?_
  refine lv_icmp_gt (tgt := 14) hx hb dX21_in_7 (by decide) (fun c9 => absurd c9 (by decide)) (fun _ => ?_)
  refine lv_iconst (v := 1) hx hb dX21_in_10 (by decide) ?_
  refine lv_goto (tgt := 15) hx hb dX21_in_11 (by decide) ?_
  have hP9 := hP.sub (ws' := []) [] rfl
  have hD9 := hD.sub (ws' := []) [] (by decide) rfl
  subst hAe
  exact W.zret (v := 1) hx hb hr (by decide) (fun t ht hW => ⟨⟨1, (), rfl, rfl, by rw [ht]; exact hP9, hD9⟩, hS.F ht⟩) hS.2.2 dX21_in_15
def w9_X21_group_5 : List Cond := [.code yX21_group cX21_group 3 (some .int), .methodLink RX21 160 yX21_in, .static yX21_in, .initialized RX21, .code yX21_in cX21_in 3 (some .boolean), .methodLink RX21 154 yX21_refused, .instanceMethod yX21_refused, .selects RX21 yX21_refused yX21_refused, .code yX21_refused cX21_refused 2 (some .boolean), .fieldLink RX21 144 "RegexloomModel" "refusal" "I", .fieldLink RX21 107 "RegexloomModel" "told" "[I"] ++ (u_ws RX21 TX21 32)
set_option maxRecDepth 20000 in
theorem in9_X21_group_5_RX21 : ∀ w ∈ u_ws RX21 TX21 32, w ∈ w9_X21_group_5 := by decide +kernel
set_option maxRecDepth 20000 in
theorem g9_X21_group_5_0 : GoodIn w9_X21_group_5 (va_wsS RX21 160 yX21_in w9_X21_in_18) := goodIn_r _ [1, 2, 3, 4] (by decide +kernel) (by decide +kernel)
set_option maxRecDepth 20000 in
theorem g9_X21_group_5_1 : GoodIn w9_X21_group_5 (wsV RX21 154 RX21 yX21_refused w9_X21_refused_1) := goodIn_r _ [5, 6, 7, 3, 8, 9, 11, 12, 13, 14, 15, 16, 17, 18, 19, 20, 21, 22, 23, 24, 25, 26, 27, 28, 29, 30, 31, 32, 33, 34, 35, 36, 37, 38, 39, 40, 41, 42] (by decide +kernel) (by decide +kernel)
set_option maxHeartbeats 4000000 in
set_option maxRecDepth 100000 in
theorem c9_X21_group_5 (l : Launch) (g : G9) (h0 h1 h2 h3 h4 h5 h6 h7 h8 h9 h10 h11 h12 h13 h14 h15 h16 sz : Nat) (f0 : Nat → Int32) : Met l yX21_group w9_X21_group_5 ({ frames := 1, cells := 0, slots := 0, locals := 22 }) (mP g [(h0, .inr (22, [.int 0, .ref h1, .int 0, .ref h2, .int 0, .ref h3, .int 250, .ref h4, .int 0, .ref h5, .ref h6, .ref h7, .int 0, .ref h8, .ref h9, .ref h10, .int 0, .null, .int 0, .null, .int 0, .int 0, .int 0, .ref h11, .int 0, .ref h12, .ref h13, .ref h14, .int 0, .ref h15, .ref h16, .int 0])), (h7, .inl (g.2.1 0, 14, .inl f0))] sz [.ref h0, .int 2, .int 1]) (va_Qi (fun (r : Int32) (_ : Unit) => r = (f0 5)) (fun (_ : Unit) (t : State) => mB g [(h0, .inr (22, [.int 0, .ref h1, .int 0, .ref h2, .int 0, .ref h3, .int 250, .ref h4, .int 0, .ref h5, .ref h6, .ref h7, .int 0, .ref h8, .ref h9, .ref h10, .int 0, .null, .int 0, .null, .int 0, .int 0, .int 0, .ref h11, .int 0, .ref h12, .ref h13, .ref h14, .int 0, .ref h15, .ref h16, .int 0])), (h7, .inl (g.2.1 0, 14, .inl f0))] sz [(h0, .inr (22, [.int 0, .ref h1, .int 0, .ref h2, .int 0, .ref h3, .int 250, .ref h4, .int 0, .ref h5, .ref h6, .ref h7, .int 0, .ref h8, .ref h9, .ref h10, .int 0, .null, .int 0, .null, .int 0, .int 0, .int 0, .ref h11, .int 0, .ref h12, .ref h13, .ref h14, .int 0, .ref h15, .ref h16, .int 0])), (h7, .inl (g.2.1 0, 14, .inl f0))] t) (va_A [(h0, .inr (22, [.int 0, .ref h1, .int 0, .ref h2, .int 0, .ref h3, .int 250, .ref h4, .int 0, .ref h5, .ref h6, .ref h7, .int 0, .ref h8, .ref h9, .ref h10, .int 0, .null, .int 0, .null, .int 0, .int 0, .int 0, .ref h11, .int 0, .ref h12, .ref h13, .ref h14, .int 0, .ref h15, .ref h16, .int 0])), (h7, .inl (g.2.1 0, 14, .inl f0))] sz)) 0 0 (va_A [(h0, .inr (22, [.int 0, .ref h1, .int 0, .ref h2, .int 0, .ref h3, .int 250, .ref h4, .int 0, .ref h5, .ref h6, .ref h7, .int 0, .ref h8, .ref h9, .ref h10, .int 0, .null, .int 0, .null, .int 0, .int 0, .int 0, .ref h11, .int 0, .ref h12, .ref h13, .ref h14, .int 0, .ref h15, .ref h16, .int 0])), (h7, .inl (g.2.1 0, 14, .inl f0))] sz) := by
  refine Met.ofW (cc := cX21_group) (maxL := 3) (ret := (some .int)) (by decide) rfl ?_
  intro p e s m args below meth c s₁ B hml hv
  obtain ⟨rfl, hsz, hP, hD0, hE⟩ := hv
  have hx := B.exec
  have hb := B.bytes
  have hr := B.returns
  have hts := atoms_spec (ws := w9_X21_group_5) B.pre
  have hown : s.vm.findClass RX21 = some m.cls := findClass_of_methodNamed B.named
  have hlocks := B.notSynchronized
  subst hsz
  have hD := hD0.self (sz := s.heap.size)
  generalize hAe : va_A [(h0, .inr (22, [.int 0, .ref h1, .int 0, .ref h2, .int 0, .ref h3, .int 250, .ref h4, .int 0, .ref h5, .ref h6, .ref h7, .int 0, .ref h8, .ref h9, .ref h10, .int 0, .null, .int 0, .null, .int 0, .int 0, .int 0, .ref h11, .int 0, .ref h12, .ref h13, .ref h14, .int 0, .ref h15, .ref h16, .int 0])), (h7, .inl (g.2.1 0, 14, .inl f0))] s.heap.size = A at hD hE ⊢
  have hA : ∀ q : Nat, s.heap.size ≤ q → A q := fun q h => by rw [← hAe]; exact Or.inr h
  have hK := hE.1
  have hS : va_S A s.heap s.heap [] := va_S.rf
  replace hP : va_P g.1 vwCl [(h0, .inr (22, [.int 0, .ref h1, .int 0, .ref h2, .int 0, .ref h3, .int 250, .ref h4, .int 0, .ref h5, .ref h6, .ref h7, .int 0, .ref h8, .ref h9, .ref h10, .int 0, .null, .int 0, .null, .int 0, .int 0, .int 0, .ref h11, .int 0, .ref h12, .ref h13, .ref h14, .int 0, .ref h15, .ref h16, .int 0])), (h7, .inl (g.2.1 0, 14, .inl f0))] s.heap := hP
  have hl := lv_entry ([.ref h0, .int 2, .int 1]) (n := 3) (Nat.le_of_ble_eq_true rfl)
  rw [lg_entry_eq]
  generalize (lg_sl ([.ref h0, .int 2, .int 1]) ++ List.replicate (3 - (lg_sl ([.ref h0, .int 2, .int 1])).length) Slot.unset).toArray = ls at hl ⊢
  replace hl : lv_has ls 3 [(0, .ref h0), (1, .int 2), (2, .int 1)] := hl
  have hH0 : s.heap.size ≤ s.heap.size := Nat.le_refl _
  refine lv_aload_n hx hb dX21_group_0 rfl (lv_at hl 0 rfl) ?_
  refine lv_iload_n hx hb dX21_group_1 rfl (lv_at hl 1 rfl) ?_
  refine lv_iconst (v := 0) hx hb dX21_group_2 (by decide) ?_
  refine lv_bipush (v := 6) hx hb dX21_group_3 (by decide) ?_
  have hPc := hP.sub (ws' := []) [] rfl
  have hDc := hD.sub (ws' := []) [] (by decide) rfl
  have hFc := va_free (wc := []) hD hS hA [] rfl
  refine va_calli (va_runS (As := [.int 2, .int 0, .int 6]) (rest := [.ref h0]) ⟨hx, hb, hml, hown, hts⟩ (c9_X21_in_18 l g _) (va_cwS 3 hts g9_X21_group_5_0 rfl rfl rfl (by decide +kernel) ⟨Nat.le_of_ble_eq_true rfl, Nat.le_of_ble_eq_true rfl⟩) (mPreS (g := g) (wc := []) hE hS hPc hDc hFc) rfl rfl hl.1 rfl (lv_room (Nat.le_of_ble_eq_true rfl)) dX21_group_5 ⟨Nat.le_of_ble_eq_true rfl, Nat.le_of_ble_eq_true rfl⟩) hS (fun q _ h => hFc q h) hFc (fun r_1 u t H1 locs ht hvm hw hB hz1 hk1 hS => ?_)
  replace hw : 1 = r_1 := Eq.symm hw
  subst hw
  obtain ⟨hP1, hD1⟩ := hB
  rw [ht] at hP1
  obtain ⟨hP, hD⟩ := va_join (wr := [(h0, .inr (22, [.int 0, .ref h1, .int 0, .ref h2, .int 0, .ref h3, .int 250, .ref h4, .int 0, .ref h5, .ref h6, .ref h7, .int 0, .ref h8, .ref h9, .ref h10, .int 0, .null, .int 0, .null, .int 0, .int 0, .int 0, .ref h11, .int 0, .ref h12, .ref h13, .ref h14, .int 0, .ref h15, .ref h16, .int 0])), (h7, .inl (g.2.1 0, 14, .inl f0))]) (w1 := []) hP hD [] [0, 1] rfl rfl (by decide) (by decide) hk1 hFc hP1 hD1
  clear hP1 hD1 hPc hDc hFc hk1 hz1 hvm ht
  generalize H1 = H at hP hS ⊢
  have hP : va_P g.1 vwCl [(h0, .inr (22, [.int 0, .ref h1, .int 0, .ref h2, .int 0, .ref h3, .int 250, .ref h4, .int 0, .ref h5, .ref h6, .ref h7, .int 0, .ref h8, .ref h9, .ref h10, .int 0, .null, .int 0, .null, .int 0, .int 0, .int 0, .ref h11, .int 0, .ref h12, .ref h13, .ref h14, .int 0, .ref h15, .ref h16, .int 0])), (h7, .inl (g.2.1 0, 14, .inl f0))] H := hP
  have hD : va_D A [(h0, .inr (22, [.int 0, .ref h1, .int 0, .ref h2, .int 0, .ref h3, .int 250, .ref h4, .int 0, .ref h5, .ref h6, .ref h7, .int 0, .ref h8, .ref h9, .ref h10, .int 0, .null, .int 0, .null, .int 0, .int 0, .int 0, .ref h11, .int 0, .ref h12, .ref h13, .ref h14, .int 0, .ref h15, .ref h16, .int 0])), (h7, .inl (g.2.1 0, 14, .inl f0))] := hD
  refine lv_if_eq (tgt := 15) hx hb dX21_group_8 (by decide) (fun c9 => absurd c9 (by decide)) (fun _ => ?_)
  refine lv_iconst (v := 0) hx hb dX21_group_11 (by decide) ?_
  refine lv_goto (tgt := 16) hx hb dX21_group_12 (by decide) ?_
  have hPc := hP.sub (ws' := [(h0, .inr (22, [.int 0, .ref h1, .int 0, .ref h2, .int 0, .ref h3, .int 250, .ref h4, .int 0, .ref h5, .ref h6, .ref h7, .int 0, .ref h8, .ref h9, .ref h10, .int 0, .null, .int 0, .null, .int 0, .int 0, .int 0, .ref h11, .int 0, .ref h12, .ref h13, .ref h14, .int 0, .ref h15, .ref h16, .int 0]))]) [0] rfl
  have hDc := hD.sub (ws' := [(h0, .inr (22, [.int 0, .ref h1, .int 0, .ref h2, .int 0, .ref h3, .int 250, .ref h4, .int 0, .ref h5, .ref h6, .ref h7, .int 0, .ref h8, .ref h9, .ref h10, .int 0, .null, .int 0, .null, .int 0, .int 0, .int 0, .ref h11, .int 0, .ref h12, .ref h13, .ref h14, .int 0, .ref h15, .ref h16, .int 0]))]) [0] (by decide) rfl
  have hFc := va_free (wc := [(h0, .inr (22, [.int 0, .ref h1, .int 0, .ref h2, .int 0, .ref h3, .int 250, .ref h4, .int 0, .ref h5, .ref h6, .ref h7, .int 0, .ref h8, .ref h9, .ref h10, .int 0, .null, .int 0, .null, .int 0, .int 0, .int 0, .ref h11, .int 0, .ref h12, .ref h13, .ref h14, .int 0, .ref h15, .ref h16, .int 0]))]) hD hS hA [0] rfl
  refine va_calli (va_runV (As := [.int 0]) (rest := []) ⟨hx, hb, hml, hown, hts⟩ (c9_X21_refused_1 l g h0 h1 h2 h3 h4 h5 h6 h7 h8 h9 h10 h11 h12 h13 h14 h15 h16 _) (cwV 1 hts g9_X21_group_5_1 rfl rfl rfl (by decide +kernel) ⟨Nat.le_of_ble_eq_true rfl, Nat.le_of_ble_eq_true rfl⟩) (mPreV (g := g) (wc := [(h0, .inr (22, [.int 0, .ref h1, .int 0, .ref h2, .int 0, .ref h3, .int 250, .ref h4, .int 0, .ref h5, .ref h6, .ref h7, .int 0, .ref h8, .ref h9, .ref h10, .int 0, .null, .int 0, .null, .int 0, .int 0, .int 0, .ref h11, .int 0, .ref h12, .ref h13, .ref h14, .int 0, .ref h15, .ref h16, .int 0]))]) (C := RX21) (ci := 22) (q0 := 0) hE hS hPc hDc hFc rfl rfl) rfl rfl hl.1 rfl (lv_room (Nat.le_of_ble_eq_true rfl)) dX21_group_16 ⟨Nat.le_of_ble_eq_true rfl, Nat.le_of_ble_eq_true rfl⟩) hS (fun q _ h => hFc q h) hFc (fun r_2 u t H1 locs ht hvm hw hB hz1 hk1 hS => ?_)
  replace hw : 0 = r_2 := Eq.symm hw
  subst hw
  obtain ⟨hP1, hD1⟩ := hB
  rw [ht] at hP1
  obtain ⟨hP, hD⟩ := va_join (wr := [(h7, .inl (g.2.1 0, 14, .inl f0))]) (w1 := [(h0, .inr (22, [.int 0, .ref h1, .int 0, .ref h2, .int 0, .ref h3, .int 250, .ref h4, .int 0, .ref h5, .ref h6, .ref h7, .int 0, .ref h8, .ref h9, .ref h10, .int 0, .null, .int 0, .null, .int 0, .int 0, .int 0, .ref h11, .int 0, .ref h12, .ref h13, .ref h14, .int 0, .ref h15, .ref h16, .int 0]))]) hP hD [0] [1] rfl rfl (by decide) (by decide) hk1 hFc hP1 hD1
  clear hP1 hD1 hPc hDc hFc hk1 hz1 hvm ht
  generalize H1 = H at hP hS ⊢
  have hP : va_P g.1 vwCl [(h7, .inl (g.2.1 0, 14, .inl f0)), (h0, .inr (22, [.int 0, .ref h1, .int 0, .ref h2, .int 0, .ref h3, .int 250, .ref h4, .int 0, .ref h5, .ref h6, .ref h7, .int 0, .ref h8, .ref h9, .ref h10, .int 0, .null, .int 0, .null, .int 0, .int 0, .int 0, .ref h11, .int 0, .ref h12, .ref h13, .ref h14, .int 0, .ref h15, .ref h16, .int 0]))] H := hP
  have hD : va_D A [(h7, .inl (g.2.1 0, 14, .inl f0)), (h0, .inr (22, [.int 0, .ref h1, .int 0, .ref h2, .int 0, .ref h3, .int 250, .ref h4, .int 0, .ref h5, .ref h6, .ref h7, .int 0, .ref h8, .ref h9, .ref h10, .int 0, .null, .int 0, .null, .int 0, .int 0, .int 0, .ref h11, .int 0, .ref h12, .ref h13, .ref h14, .int 0, .ref h15, .ref h16, .int 0]))] := hD
  refine lv_if_eq (tgt := 26) hx hb dX21_group_19 (by decide) (fun _ => ?_) (fun c9 => absurd (by decide) c9)
  refine lv_aload_n hx hb dX21_group_26 rfl (lv_at hl 0 rfl) ?_
  refine va_get (D := g.1) (ci := 22) (v := .ref h7) (C := RX21) (T := TX21) (N := 32) hx hb hts in9_X21_group_5_RX21 hown hK hP 1 rfl rfl 11 (by decide) (hts (.fieldLink RX21 107 "RegexloomModel" "told" "[I") (List.mem_of_getElem? (i := 10) rfl)) (fun _ h9 => h9) rfl dX21_group_27 ?_
  refine lv_iconst (v := 2) hx hb dX21_group_30 (by decide) ?_
  refine lv_iload_n hx hb dX21_group_31 rfl (lv_at hl 1 rfl) ?_
  refine lv_imul hx hb dX21_group_32 ?_
  refine e_top (y := 4) (by decide) ?_
  refine lv_iload_n hx hb dX21_group_33 rfl (lv_at hl 2 rfl) ?_
  refine lv_if_eq (tgt := 41) hx hb dX21_group_34 (by decide) (fun c9 => absurd c9 (by decide)) (fun _ => ?_)
  refine lv_iconst (v := 1) hx hb dX21_group_37 (by decide) ?_
  refine lv_goto (tgt := 42) hx hb dX21_group_38 (by decide) ?_
  refine lv_iadd hx hb dX21_group_42 ?_
  refine e_top (y := 5) (by decide) ?_
  refine va_iald hx hb hK hP 0 0 rfl rfl (vp_in_nI (n := 5) (by decide) (by decide)) dX21_group_43 ?_
  refine e_topv (y := .int (f0 5)) (by rfl) ?_
  have hP9 := hP.sub (ws' := [(h0, .inr (22, [.int 0, .ref h1, .int 0, .ref h2, .int 0, .ref h3, .int 250, .ref h4, .int 0, .ref h5, .ref h6, .ref h7, .int 0, .ref h8, .ref h9, .ref h10, .int 0, .null, .int 0, .null, .int 0, .int 0, .int 0, .ref h11, .int 0, .ref h12, .ref h13, .ref h14, .int 0, .ref h15, .ref h16, .int 0])), (h7, .inl (g.2.1 0, 14, .inl f0))]) [1, 0] rfl
  have hD9 := hD.sub (ws' := [(h0, .inr (22, [.int 0, .ref h1, .int 0, .ref h2, .int 0, .ref h3, .int 250, .ref h4, .int 0, .ref h5, .ref h6, .ref h7, .int 0, .ref h8, .ref h9, .ref h10, .int 0, .null, .int 0, .null, .int 0, .int 0, .int 0, .ref h11, .int 0, .ref h12, .ref h13, .ref h14, .int 0, .ref h15, .ref h16, .int 0])), (h7, .inl (g.2.1 0, 14, .inl f0))]) [1, 0] (by decide) rfl
  subst hAe
  exact W.iret (v := (f0 5)) hx hb hr (fun t ht hW => ⟨⟨(f0 5), (), rfl, rfl, by rw [ht]; exact hP9, hD9⟩, hS.F ht⟩) hS.2.2 dX21_group_44
def w9_X9_get_6 : List Cond := [.code yX9_get cX9_get 3 (some .int), .fieldLink RX9 28 "Regexloom$Table" "size" "I", .fieldLink RX9 9 "Regexloom$Table" "width" "I", .fieldLink RX9 24 "Regexloom$Table" "cells" "[I"] ++ (u_ws RX9 TX9 4)
set_option maxRecDepth 20000 in
theorem in9_X9_get_6_RX9 : ∀ w ∈ u_ws RX9 TX9 4, w ∈ w9_X9_get_6 := by decide +kernel
set_option maxHeartbeats 4000000 in
set_option maxRecDepth 100000 in
theorem c9_X9_get_6 (l : Launch) (g : G9) (h0 h1 sz : Nat) (f0 : Nat → Int32) : Met l yX9_get w9_X9_get_6 ({ frames := 0, cells := 0, slots := 0, locals := 0 }) (mP g [(h0, .inr (10, [.int 2, .int 7, .ref h1, .int 7])), (h1, .inl (g.2.1 0, 14, .inl f0))] sz [.ref h0, .int 3, .int 1]) (va_Qi (fun (r : Int32) (_ : Unit) => r = (f0 7)) (fun (_ : Unit) (t : State) => mB g [(h0, .inr (10, [.int 2, .int 7, .ref h1, .int 7])), (h1, .inl (g.2.1 0, 14, .inl f0))] sz [(h0, .inr (10, [.int 2, .int 7, .ref h1, .int 7])), (h1, .inl (g.2.1 0, 14, .inl f0))] t) (va_A [(h0, .inr (10, [.int 2, .int 7, .ref h1, .int 7])), (h1, .inl (g.2.1 0, 14, .inl f0))] sz)) 0 0 (va_A [(h0, .inr (10, [.int 2, .int 7, .ref h1, .int 7])), (h1, .inl (g.2.1 0, 14, .inl f0))] sz) := by
  refine Met.ofW (cc := cX9_get) (maxL := 3) (ret := (some .int)) (by decide) rfl ?_
  intro p e s m args below meth c s₁ B hml hv
  obtain ⟨rfl, hsz, hP, hD0, hE⟩ := hv
  have hx := B.exec
  have hb := B.bytes
  have hr := B.returns
  have hts := atoms_spec (ws := w9_X9_get_6) B.pre
  have hown : s.vm.findClass RX9 = some m.cls := findClass_of_methodNamed B.named
  have hlocks := B.notSynchronized
  subst hsz
  have hD := hD0.self (sz := s.heap.size)
  generalize hAe : va_A [(h0, .inr (10, [.int 2, .int 7, .ref h1, .int 7])), (h1, .inl (g.2.1 0, 14, .inl f0))] s.heap.size = A at hD hE ⊢
  have hA : ∀ q : Nat, s.heap.size ≤ q → A q := fun q h => by rw [← hAe]; exact Or.inr h
  have hK := hE.1
  have hS : va_S A s.heap s.heap [] := va_S.rf
  replace hP : va_P g.1 vwCl [(h0, .inr (10, [.int 2, .int 7, .ref h1, .int 7])), (h1, .inl (g.2.1 0, 14, .inl f0))] s.heap := hP
  have hl := lv_entry ([.ref h0, .int 3, .int 1]) (n := 3) (Nat.le_of_ble_eq_true rfl)
  rw [lg_entry_eq]
  generalize (lg_sl ([.ref h0, .int 3, .int 1]) ++ List.replicate (3 - (lg_sl ([.ref h0, .int 3, .int 1])).length) Slot.unset).toArray = ls at hl ⊢
  replace hl : lv_has ls 3 [(0, .ref h0), (1, .int 3), (2, .int 1)] := hl
  have hH0 : s.heap.size ≤ s.heap.size := Nat.le_refl _
  refine lv_iload_n hx hb dX9_get_0 rfl (lv_at hl 1 rfl) ?_
  refine lv_if_lt (tgt := 24) hx hb dX9_get_1 (by decide) (fun c9 => absurd c9 (by decide)) (fun _ => ?_)
  refine lv_iload_n hx hb dX9_get_4 rfl (lv_at hl 1 rfl) ?_
  refine lv_aload_n hx hb dX9_get_5 rfl (lv_at hl 0 rfl) ?_
  refine va_get (D := g.1) (ci := 10) (v := .int 7) (C := RX9) (T := TX9) (N := 4) hx hb hts in9_X9_get_6_RX9 hown hK hP 0 rfl rfl 3 (by decide) (hts (.fieldLink RX9 28 "Regexloom$Table" "size" "I") (List.mem_of_getElem? (i := 1) rfl)) (fun _ h9 => h9) rfl dX9_get_6 ?_
  refine lv_icmp_ge (tgt := 24) hx hb dX9_get_9 (by decide) (fun c9 => absurd c9 (by decide)) (fun _ => ?_)
  refine lv_iload_n hx hb dX9_get_12 rfl (lv_at hl 2 rfl) ?_
  refine lv_if_lt (tgt := 24) hx hb dX9_get_13 (by decide) (fun c9 => absurd c9 (by decide)) (fun _ => ?_)
  refine lv_iload_n hx hb dX9_get_16 rfl (lv_at hl 2 rfl) ?_
  refine lv_aload_n hx hb dX9_get_17 rfl (lv_at hl 0 rfl) ?_
  refine va_get (D := g.1) (ci := 10) (v := .int 2) (C := RX9) (T := TX9) (N := 4) hx hb hts in9_X9_get_6_RX9 hown hK hP 0 rfl rfl 0 (by decide) (hts (.fieldLink RX9 9 "Regexloom$Table" "width" "I") (List.mem_of_getElem? (i := 2) rfl)) (fun _ h9 => h9) rfl dX9_get_18 ?_
  refine lv_icmp_lt (tgt := 26) hx hb dX9_get_21 (by decide) (fun _ => ?_) (fun c9 => absurd (by decide) c9)
  refine lv_aload_n hx hb dX9_get_26 rfl (lv_at hl 0 rfl) ?_
  refine va_get (D := g.1) (ci := 10) (v := .ref h1) (C := RX9) (T := TX9) (N := 4) hx hb hts in9_X9_get_6_RX9 hown hK hP 0 rfl rfl 2 (by decide) (hts (.fieldLink RX9 24 "Regexloom$Table" "cells" "[I") (List.mem_of_getElem? (i := 3) rfl)) (fun _ h9 => h9) rfl dX9_get_27 ?_
  refine lv_iload_n hx hb dX9_get_30 rfl (lv_at hl 1 rfl) ?_
  refine lv_aload_n hx hb dX9_get_31 rfl (lv_at hl 0 rfl) ?_
  refine va_get (D := g.1) (ci := 10) (v := .int 2) (C := RX9) (T := TX9) (N := 4) hx hb hts in9_X9_get_6_RX9 hown hK hP 0 rfl rfl 0 (by decide) (hts (.fieldLink RX9 9 "Regexloom$Table" "width" "I") (List.mem_of_getElem? (i := 2) rfl)) (fun _ h9 => h9) rfl dX9_get_32 ?_
  refine lv_imul hx hb dX9_get_35 ?_
  refine e_top (y := 6) (by decide) ?_
  refine lv_iload_n hx hb dX9_get_36 rfl (lv_at hl 2 rfl) ?_
  refine lv_iadd hx hb dX9_get_37 ?_
  refine e_top (y := 7) (by decide) ?_
  refine va_iald hx hb hK hP 1 0 rfl rfl (vp_in_nI (n := 7) (by decide) (by decide)) dX9_get_38 ?_
  refine e_topv (y := .int (f0 7)) (by rfl) ?_
  have hP9 := hP.sub (ws' := [(h0, .inr (10, [.int 2, .int 7, .ref h1, .int 7])), (h1, .inl (g.2.1 0, 14, .inl f0))]) [0, 1] rfl
  have hD9 := hD.sub (ws' := [(h0, .inr (10, [.int 2, .int 7, .ref h1, .int 7])), (h1, .inl (g.2.1 0, 14, .inl f0))]) [0, 1] (by decide) rfl
  subst hAe
  exact W.iret (v := (f0 7)) hx hb hr (fun t ht hW => ⟨⟨(f0 7), (), rfl, rfl, by rw [ht]; exact hP9, hD9⟩, hS.F ht⟩) hS.2.2 dX9_get_39
def w9_X11_group_6 : List Cond := [.code yX11_group cX11_group 3 (some .int), .fieldLink RX11 78 "Regexloom" "bounds" "LRegexloom$Table;", .methodLink RX11 225 yX9_get, .instanceMethod yX9_get, .selects RX9 yX9_get yX9_get, .initialized RX9, .code yX9_get cX9_get 3 (some .int), .fieldLink RX9 28 "Regexloom$Table" "size" "I", .fieldLink RX9 9 "Regexloom$Table" "width" "I", .fieldLink RX9 24 "Regexloom$Table" "cells" "[I"] ++ (u_ws RX11 TX11 17 ++ u_ws RX9 TX9 4)
set_option maxRecDepth 20000 in
theorem in9_X11_group_6_RX11 : ∀ w ∈ u_ws RX11 TX11 17, w ∈ w9_X11_group_6 := by decide +kernel
set_option maxRecDepth 20000 in
theorem in9_X11_group_6_RX9 : ∀ w ∈ u_ws RX9 TX9 4, w ∈ w9_X11_group_6 := by decide +kernel
set_option maxRecDepth 20000 in
theorem g9_X11_group_6_0 : GoodIn w9_X11_group_6 (wsV RX11 225 RX9 yX9_get w9_X9_get_6) := goodIn_r _ [2, 3, 4, 5, 6, 7, 8, 9, 27, 28, 29, 30] (by decide +kernel) (by decide +kernel)
set_option maxHeartbeats 4000000 in
set_option maxRecDepth 100000 in
theorem c9_X11_group_6 (l : Launch) (g : G9) (h0 h1 h2 h3 h4 h5 h6 h7 h8 h9 h10 h11 h12 h13 h14 sz : Nat) (f0 : Nat → Int32) : Met l yX11_group w9_X11_group_6 ({ frames := 1, cells := 0, slots := 0, locals := 22 }) (mP g [(h0, .inr (12, [.ref h1, .int 0, .ref h2, .ref h3, .ref h4, .ref h5, .ref h6, .ref h7, .int (-1), .ref h8, .ref h9, .int 250, .ref h10, .int 0, .ref h11, .ref h12, .ref h13])), (h10, .inr (10, [.int 2, .int 7, .ref h14, .int 7])), (h14, .inl (g.2.1 0, 14, .inl f0))] sz [.ref h0, .int 3, .int 1]) (va_Qi (fun (r : Int32) (_ : Unit) => r = (f0 7)) (fun (_ : Unit) (t : State) => mB g [(h0, .inr (12, [.ref h1, .int 0, .ref h2, .ref h3, .ref h4, .ref h5, .ref h6, .ref h7, .int (-1), .ref h8, .ref h9, .int 250, .ref h10, .int 0, .ref h11, .ref h12, .ref h13])), (h10, .inr (10, [.int 2, .int 7, .ref h14, .int 7])), (h14, .inl (g.2.1 0, 14, .inl f0))] sz [(h0, .inr (12, [.ref h1, .int 0, .ref h2, .ref h3, .ref h4, .ref h5, .ref h6, .ref h7, .int (-1), .ref h8, .ref h9, .int 250, .ref h10, .int 0, .ref h11, .ref h12, .ref h13])), (h10, .inr (10, [.int 2, .int 7, .ref h14, .int 7])), (h14, .inl (g.2.1 0, 14, .inl f0))] t) (va_A [(h0, .inr (12, [.ref h1, .int 0, .ref h2, .ref h3, .ref h4, .ref h5, .ref h6, .ref h7, .int (-1), .ref h8, .ref h9, .int 250, .ref h10, .int 0, .ref h11, .ref h12, .ref h13])), (h10, .inr (10, [.int 2, .int 7, .ref h14, .int 7])), (h14, .inl (g.2.1 0, 14, .inl f0))] sz)) 0 0 (va_A [(h0, .inr (12, [.ref h1, .int 0, .ref h2, .ref h3, .ref h4, .ref h5, .ref h6, .ref h7, .int (-1), .ref h8, .ref h9, .int 250, .ref h10, .int 0, .ref h11, .ref h12, .ref h13])), (h10, .inr (10, [.int 2, .int 7, .ref h14, .int 7])), (h14, .inl (g.2.1 0, 14, .inl f0))] sz) := by
  refine Met.ofW (cc := cX11_group) (maxL := 3) (ret := (some .int)) (by decide) rfl ?_
  intro p e s m args below meth c s₁ B hml hv
  obtain ⟨rfl, hsz, hP, hD0, hE⟩ := hv
  have hx := B.exec
  have hb := B.bytes
  have hr := B.returns
  have hts := atoms_spec (ws := w9_X11_group_6) B.pre
  have hown : s.vm.findClass RX11 = some m.cls := findClass_of_methodNamed B.named
  have hlocks := B.notSynchronized
  subst hsz
  have hD := hD0.self (sz := s.heap.size)
  generalize hAe : va_A [(h0, .inr (12, [.ref h1, .int 0, .ref h2, .ref h3, .ref h4, .ref h5, .ref h6, .ref h7, .int (-1), .ref h8, .ref h9, .int 250, .ref h10, .int 0, .ref h11, .ref h12, .ref h13])), (h10, .inr (10, [.int 2, .int 7, .ref h14, .int 7])), (h14, .inl (g.2.1 0, 14, .inl f0))] s.heap.size = A at hD hE ⊢
  have hA : ∀ q : Nat, s.heap.size ≤ q → A q := fun q h => by rw [← hAe]; exact Or.inr h
  have hK := hE.1
  have hS : va_S A s.heap s.heap [] := va_S.rf
  replace hP : va_P g.1 vwCl [(h0, .inr (12, [.ref h1, .int 0, .ref h2, .ref h3, .ref h4, .ref h5, .ref h6, .ref h7, .int (-1), .ref h8, .ref h9, .int 250, .ref h10, .int 0, .ref h11, .ref h12, .ref h13])), (h10, .inr (10, [.int 2, .int 7, .ref h14, .int 7])), (h14, .inl (g.2.1 0, 14, .inl f0))] s.heap := hP
  have hl := lv_entry ([.ref h0, .int 3, .int 1]) (n := 3) (Nat.le_of_ble_eq_true rfl)
  rw [lg_entry_eq]
  generalize (lg_sl ([.ref h0, .int 3, .int 1]) ++ List.replicate (3 - (lg_sl ([.ref h0, .int 3, .int 1])).length) Slot.unset).toArray = ls at hl ⊢
  replace hl : lv_has ls 3 [(0, .ref h0), (1, .int 3), (2, .int 1)] := hl
  have hH0 : s.heap.size ≤ s.heap.size := Nat.le_refl _
  refine lv_iload_n hx hb dX11_group_0 rfl (lv_at hl 1 rfl) ?_
  refine lv_if_lt (tgt := 10) hx hb dX11_group_1 (by decide) (fun c9 => absurd c9 (by decide)) (fun _ => ?_)
  refine lv_iload_n hx hb dX11_group_4 rfl (lv_at hl 1 rfl) ?_
  refine lv_bipush (v := 6) hx hb dX11_group_5 (by decide) ?_
  refine lv_icmp_le (tgt := 20) hx hb dX11_group_7 (by decide) (fun _ => ?_) (fun c9 => absurd (by decide) c9)
  refine lv_aload_n hx hb dX11_group_20 rfl (lv_at hl 0 rfl) ?_
  refine va_get (D := g.1) (ci := 12) (v := .ref h10) (C := RX11) (T := TX11) (N := 17) hx hb hts in9_X11_group_6_RX11 hown hK hP 0 rfl rfl 12 (by decide) (hts (.fieldLink RX11 78 "Regexloom" "bounds" "LRegexloom$Table;") (List.mem_of_getElem? (i := 1) rfl)) (fun _ h9 => h9) rfl dX11_group_21 ?_
  refine lv_iload_n hx hb dX11_group_24 rfl (lv_at hl 1 rfl) ?_
  refine lv_iload_n hx hb dX11_group_25 rfl (lv_at hl 2 rfl) ?_
  refine lv_if_eq (tgt := 33) hx hb dX11_group_26 (by decide) (fun c9 => absurd c9 (by decide)) (fun _ => ?_)
  refine lv_iconst (v := 1) hx hb dX11_group_29 (by decide) ?_
  refine lv_goto (tgt := 34) hx hb dX11_group_30 (by decide) ?_
  have hPc := hP.sub (ws' := [(h10, .inr (10, [.int 2, .int 7, .ref h14, .int 7])), (h14, .inl (g.2.1 0, 14, .inl f0))]) [1, 2] rfl
  have hDc := hD.sub (ws' := [(h10, .inr (10, [.int 2, .int 7, .ref h14, .int 7])), (h14, .inl (g.2.1 0, 14, .inl f0))]) [1, 2] (by decide) rfl
  have hFc := va_free (wc := [(h10, .inr (10, [.int 2, .int 7, .ref h14, .int 7])), (h14, .inl (g.2.1 0, 14, .inl f0))]) hD hS hA [1, 2] rfl
  refine va_calli (va_runV (As := [.int 3, .int 1]) (rest := []) ⟨hx, hb, hml, hown, hts⟩ (c9_X9_get_6 l g h10 h14 _ f0) (cwV 2 hts g9_X11_group_6_0 rfl rfl rfl (by decide +kernel) ⟨Nat.le_of_ble_eq_true rfl, Nat.le_of_ble_eq_true rfl⟩) (mPreV (g := g) (wc := [(h10, .inr (10, [.int 2, .int 7, .ref h14, .int 7])), (h14, .inl (g.2.1 0, 14, .inl f0))]) (C := RX9) (ci := 10) (q0 := 0) hE hS hPc hDc hFc rfl rfl) rfl rfl hl.1 rfl (lv_room (Nat.le_of_ble_eq_true rfl)) dX11_group_34 ⟨Nat.le_of_ble_eq_true rfl, Nat.le_of_ble_eq_true rfl⟩) hS (fun q _ h => hFc q h) hFc (fun r_1 u t H1 locs ht hvm hw hB hz1 hk1 hS => ?_)
  replace hw : (f0 7) = r_1 := Eq.symm hw
  subst hw
  obtain ⟨hP1, hD1⟩ := hB
  rw [ht] at hP1
  obtain ⟨hP, hD⟩ := va_join (wr := [(h0, .inr (12, [.ref h1, .int 0, .ref h2, .ref h3, .ref h4, .ref h5, .ref h6, .ref h7, .int (-1), .ref h8, .ref h9, .int 250, .ref h10, .int 0, .ref h11, .ref h12, .ref h13]))]) (w1 := [(h10, .inr (10, [.int 2, .int 7, .ref h14, .int 7])), (h14, .inl (g.2.1 0, 14, .inl f0))]) hP hD [1, 2] [0] rfl rfl (by decide) (by decide) hk1 hFc hP1 hD1
  clear hP1 hD1 hPc hDc hFc hk1 hz1 hvm ht
  generalize H1 = H at hP hS ⊢
  have hP : va_P g.1 vwCl [(h0, .inr (12, [.ref h1, .int 0, .ref h2, .ref h3, .ref h4, .ref h5, .ref h6, .ref h7, .int (-1), .ref h8, .ref h9, .int 250, .ref h10, .int 0, .ref h11, .ref h12, .ref h13])), (h10, .inr (10, [.int 2, .int 7, .ref h14, .int 7])), (h14, .inl (g.2.1 0, 14, .inl f0))] H := hP
  have hD : va_D A [(h0, .inr (12, [.ref h1, .int 0, .ref h2, .ref h3, .ref h4, .ref h5, .ref h6, .ref h7, .int (-1), .ref h8, .ref h9, .int 250, .ref h10, .int 0, .ref h11, .ref h12, .ref h13])), (h10, .inr (10, [.int 2, .int 7, .ref h14, .int 7])), (h14, .inl (g.2.1 0, 14, .inl f0))] := hD
  refine e_top (y := (f0 7)) (by rfl) ?_
  have hP9 := hP.sub (ws' := [(h0, .inr (12, [.ref h1, .int 0, .ref h2, .ref h3, .ref h4, .ref h5, .ref h6, .ref h7, .int (-1), .ref h8, .ref h9, .int 250, .ref h10, .int 0, .ref h11, .ref h12, .ref h13])), (h10, .inr (10, [.int 2, .int 7, .ref h14, .int 7])), (h14, .inl (g.2.1 0, 14, .inl f0))]) [0, 1, 2] rfl
  have hD9 := hD.sub (ws' := [(h0, .inr (12, [.ref h1, .int 0, .ref h2, .ref h3, .ref h4, .ref h5, .ref h6, .ref h7, .int (-1), .ref h8, .ref h9, .int 250, .ref h10, .int 0, .ref h11, .ref h12, .ref h13])), (h10, .inr (10, [.int 2, .int 7, .ref h14, .int 7])), (h14, .inl (g.2.1 0, 14, .inl f0))]) [0, 1, 2] (by decide) rfl
  subst hAe
  exact W.iret (v := (f0 7)) hx hb hr (fun t ht hW => ⟨⟨(f0 7), (), rfl, rfl, by rw [ht]; exact hP9, hD9⟩, hS.F ht⟩) hS.2.2 dX11_group_37
def w9_L_group_7 : List Cond := [.codeWith yL_group cL_group 5 (some .int) [(0, 10, 13, 21)], .methodLink RL 47 yX11_group, .instanceMethod yX11_group, .selects RX11 yX11_group yX11_group, .initialized RX11, .code yX11_group cX11_group 3 (some .int), .fieldLink RX11 78 "Regexloom" "bounds" "LRegexloom$Table;", .methodLink RX11 225 yX9_get, .instanceMethod yX9_get, .selects RX9 yX9_get yX9_get, .initialized RX9, .code yX9_get cX9_get 3 (some .int), .fieldLink RX9 28 "Regexloom$Table" "size" "I", .fieldLink RX9 9 "Regexloom$Table" "width" "I", .fieldLink RX9 24 "Regexloom$Table" "cells" "[I"] ++ (u_ws RX11 TX11 17 ++ u_ws RX9 TX9 4)
set_option maxRecDepth 20000 in
theorem in9_L_group_7_RX11 : ∀ w ∈ u_ws RX11 TX11 17, w ∈ w9_L_group_7 := by decide +kernel
set_option maxRecDepth 20000 in
theorem in9_L_group_7_RX9 : ∀ w ∈ u_ws RX9 TX9 4, w ∈ w9_L_group_7 := by decide +kernel
set_option maxRecDepth 20000 in
theorem g9_L_group_7_0 : GoodIn w9_L_group_7 (wsV RL 47 RX11 yX11_group w9_X11_group_6) := goodIn_r _ [1, 2, 3, 4, 5, 6, 7, 8, 9, 10, 11, 12, 13, 14, 15, 16, 17, 18, 19, 20, 21, 22, 23, 24, 25, 26, 27, 28, 29, 30, 31, 32, 33, 34, 35] (by decide +kernel) (by decide +kernel)
set_option maxHeartbeats 4000000 in
set_option maxRecDepth 100000 in
theorem c9_L_group_7 (l : Launch) (g : G9) (h0 h1 h2 h3 h4 h5 h6 h7 h8 h9 h10 h11 h12 h13 h14 h15 sz : Nat) : Met l yL_group w9_L_group_7 ({ frames := 2, cells := 0, slots := 0, locals := 44 }) (mP g [(h0, .inr (12, [.ref h2, .int 0, .ref h3, .ref h4, .ref h5, .ref h6, .ref h7, .ref h8, .int (-1), .ref h9, .ref h10, .int 250, .ref h11, .int 0, .ref h12, .ref h13, .ref h14])), (h11, .inr (10, [.int 2, .int 7, .ref h15, .int 7])), (h15, .inl (g.2.1 0, 14, .inl (upd (upd (upd (upd (upd (upd (upd (upd (upd (upd (upd (upd (upd (upd (fun _ => 0) 0 (-1)) 1 (-1)) 2 (-1)) 3 (-1)) 4 (-1)) 5 (-1)) 6 (-1)) 7 (-1)) 8 (-1)) 9 (-1)) 10 (-1)) 11 (-1)) 12 (-1)) 13 (-1)))), (h1, .inl (g.2.1 2, 1, .inr (.inl (fun _ => 0))))] sz [.ref h0, .int 3, .int 1, .ref h1]) (va_Qi (fun (r : Int32) (_ : Unit) => r = 0) (fun (_ : Unit) (t : State) => mB g [(h0, .inr (12, [.ref h2, .int 0, .ref h3, .ref h4, .ref h5, .ref h6, .ref h7, .ref h8, .int (-1), .ref h9, .ref h10, .int 250, .ref h11, .int 0, .ref h12, .ref h13, .ref h14])), (h11, .inr (10, [.int 2, .int 7, .ref h15, .int 7])), (h15, .inl (g.2.1 0, 14, .inl (upd (upd (upd (upd (upd (upd (upd (upd (upd (upd (upd (upd (upd (upd (fun _ => 0) 0 (-1)) 1 (-1)) 2 (-1)) 3 (-1)) 4 (-1)) 5 (-1)) 6 (-1)) 7 (-1)) 8 (-1)) 9 (-1)) 10 (-1)) 11 (-1)) 12 (-1)) 13 (-1)))), (h1, .inl (g.2.1 2, 1, .inr (.inl (fun _ => 0))))] sz [(h0, .inr (12, [.ref h2, .int 0, .ref h3, .ref h4, .ref h5, .ref h6, .ref h7, .ref h8, .int (-1), .ref h9, .ref h10, .int 250, .ref h11, .int 0, .ref h12, .ref h13, .ref h14])), (h11, .inr (10, [.int 2, .int 7, .ref h15, .int 7])), (h15, .inl (g.2.1 0, 14, .inl (upd (upd (upd (upd (upd (upd (upd (upd (upd (upd (upd (upd (upd (upd (fun _ => 0) 0 (-1)) 1 (-1)) 2 (-1)) 3 (-1)) 4 (-1)) 5 (-1)) 6 (-1)) 7 (-1)) 8 (-1)) 9 (-1)) 10 (-1)) 11 (-1)) 12 (-1)) 13 (-1)))), (h1, .inl (g.2.1 2, 1, .inr (.inl (vp_updL (fun _ => 0) 0 (-1)))))] t) (va_A [(h0, .inr (12, [.ref h2, .int 0, .ref h3, .ref h4, .ref h5, .ref h6, .ref h7, .ref h8, .int (-1), .ref h9, .ref h10, .int 250, .ref h11, .int 0, .ref h12, .ref h13, .ref h14])), (h11, .inr (10, [.int 2, .int 7, .ref h15, .int 7])), (h15, .inl (g.2.1 0, 14, .inl (upd (upd (upd (upd (upd (upd (upd (upd (upd (upd (upd (upd (upd (upd (fun _ => 0) 0 (-1)) 1 (-1)) 2 (-1)) 3 (-1)) 4 (-1)) 5 (-1)) 6 (-1)) 7 (-1)) 8 (-1)) 9 (-1)) 10 (-1)) 11 (-1)) 12 (-1)) 13 (-1)))), (h1, .inl (g.2.1 2, 1, .inr (.inl (fun _ => 0))))] sz)) 0 0 (va_A [(h0, .inr (12, [.ref h2, .int 0, .ref h3, .ref h4, .ref h5, .ref h6, .ref h7, .ref h8, .int (-1), .ref h9, .ref h10, .int 250, .ref h11, .int 0, .ref h12, .ref h13, .ref h14])), (h11, .inr (10, [.int 2, .int 7, .ref h15, .int 7])), (h15, .inl (g.2.1 0, 14, .inl (upd (upd (upd (upd (upd (upd (upd (upd (upd (upd (upd (upd (upd (upd (fun _ => 0) 0 (-1)) 1 (-1)) 2 (-1)) 3 (-1)) 4 (-1)) 5 (-1)) 6 (-1)) 7 (-1)) 8 (-1)) 9 (-1)) 10 (-1)) 11 (-1)) 12 (-1)) 13 (-1)))), (h1, .inl (g.2.1 2, 1, .inr (.inl (fun _ => 0))))] sz) := by
  refine va_MetW (cc := cL_group) (maxL := 5) (ret := (some .int)) (by decide) rfl ?_
  intro p e s m args below meth c s₁ B hml hv
  obtain ⟨rfl, hsz, hP, hD0, hE⟩ := hv
  have hx := B.exec
  have hb := B.bytes
  have hr := B.returns
  have hts := atoms_spec (ws := w9_L_group_7) B.pre
  have hown : s.vm.findClass RL = some m.cls := findClass_of_methodNamed B.named
  have hlocks := B.notSynchronized
  have htab := vx_table (x := yL_group) B (hts (.codeWith yL_group cL_group 5 (some .int) [(0, 10, 13, 21)]) (List.mem_of_getElem? (i := 0) rfl))
  subst hsz
  have hD := hD0.self (sz := s.heap.size)
  generalize hAe : va_A [(h0, .inr (12, [.ref h2, .int 0, .ref h3, .ref h4, .ref h5, .ref h6, .ref h7, .ref h8, .int (-1), .ref h9, .ref h10, .int 250, .ref h11, .int 0, .ref h12, .ref h13, .ref h14])), (h11, .inr (10, [.int 2, .int 7, .ref h15, .int 7])), (h15, .inl (g.2.1 0, 14, .inl (upd (upd (upd (upd (upd (upd (upd (upd (upd (upd (upd (upd (upd (upd (fun _ => 0) 0 (-1)) 1 (-1)) 2 (-1)) 3 (-1)) 4 (-1)) 5 (-1)) 6 (-1)) 7 (-1)) 8 (-1)) 9 (-1)) 10 (-1)) 11 (-1)) 12 (-1)) 13 (-1)))), (h1, .inl (g.2.1 2, 1, .inr (.inl (fun _ => 0))))] s.heap.size = A at hD hE ⊢
  have hA : ∀ q : Nat, s.heap.size ≤ q → A q := fun q h => by rw [← hAe]; exact Or.inr h
  have hK := hE.1
  have hS : va_S A s.heap s.heap [] := va_S.rf
  replace hP : va_P g.1 vwCl [(h0, .inr (12, [.ref h2, .int 0, .ref h3, .ref h4, .ref h5, .ref h6, .ref h7, .ref h8, .int (-1), .ref h9, .ref h10, .int 250, .ref h11, .int 0, .ref h12, .ref h13, .ref h14])), (h11, .inr (10, [.int 2, .int 7, .ref h15, .int 7])), (h15, .inl (g.2.1 0, 14, .inl (upd (upd (upd (upd (upd (upd (upd (upd (upd (upd (upd (upd (upd (upd (fun _ => 0) 0 (-1)) 1 (-1)) 2 (-1)) 3 (-1)) 4 (-1)) 5 (-1)) 6 (-1)) 7 (-1)) 8 (-1)) 9 (-1)) 10 (-1)) 11 (-1)) 12 (-1)) 13 (-1)))), (h1, .inl (g.2.1 2, 1, .inr (.inl (fun _ => 0))))] s.heap := hP
  have hl := lv_entry ([.ref h0, .int 3, .int 1, .ref h1]) (n := 5) (Nat.le_of_ble_eq_true rfl)
  rw [lg_entry_eq]
  generalize (lg_sl ([.ref h0, .int 3, .int 1, .ref h1]) ++ List.replicate (5 - (lg_sl ([.ref h0, .int 3, .int 1, .ref h1])).length) Slot.unset).toArray = ls at hl ⊢
  replace hl : lv_has ls 5 [(0, .ref h0), (1, .int 3), (2, .int 1), (3, .ref h1)] := hl
  have hH0 : s.heap.size ≤ s.heap.size := Nat.le_refl _
  refine lv_aload_n hx hb dL_group_0 rfl (lv_at hl 3 rfl) ?_
  refine lv_iconst (v := 0) hx hb dL_group_1 (by decide) ?_
  refine lv_aload_n hx hb dL_group_2 rfl (lv_at hl 0 rfl) ?_
  refine lv_iload_n hx hb dL_group_3 rfl (lv_at hl 1 rfl) ?_
  refine lv_iload_n hx hb dL_group_4 rfl (lv_at hl 2 rfl) ?_
  have hPc := hP.sub (ws' := [(h0, .inr (12, [.ref h2, .int 0, .ref h3, .ref h4, .ref h5, .ref h6, .ref h7, .ref h8, .int (-1), .ref h9, .ref h10, .int 250, .ref h11, .int 0, .ref h12, .ref h13, .ref h14])), (h11, .inr (10, [.int 2, .int 7, .ref h15, .int 7])), (h15, .inl (g.2.1 0, 14, .inl (upd (upd (upd (upd (upd (upd (upd (upd (upd (upd (upd (upd (upd (upd (fun _ => 0) 0 (-1)) 1 (-1)) 2 (-1)) 3 (-1)) 4 (-1)) 5 (-1)) 6 (-1)) 7 (-1)) 8 (-1)) 9 (-1)) 10 (-1)) 11 (-1)) 12 (-1)) 13 (-1))))]) [0, 1, 2] rfl
  have hDc := hD.sub (ws' := [(h0, .inr (12, [.ref h2, .int 0, .ref h3, .ref h4, .ref h5, .ref h6, .ref h7, .ref h8, .int (-1), .ref h9, .ref h10, .int 250, .ref h11, .int 0, .ref h12, .ref h13, .ref h14])), (h11, .inr (10, [.int 2, .int 7, .ref h15, .int 7])), (h15, .inl (g.2.1 0, 14, .inl (upd (upd (upd (upd (upd (upd (upd (upd (upd (upd (upd (upd (upd (upd (fun _ => 0) 0 (-1)) 1 (-1)) 2 (-1)) 3 (-1)) 4 (-1)) 5 (-1)) 6 (-1)) 7 (-1)) 8 (-1)) 9 (-1)) 10 (-1)) 11 (-1)) 12 (-1)) 13 (-1))))]) [0, 1, 2] (by decide) rfl
  have hFc := va_free (wc := [(h0, .inr (12, [.ref h2, .int 0, .ref h3, .ref h4, .ref h5, .ref h6, .ref h7, .ref h8, .int (-1), .ref h9, .ref h10, .int 250, .ref h11, .int 0, .ref h12, .ref h13, .ref h14])), (h11, .inr (10, [.int 2, .int 7, .ref h15, .int 7])), (h15, .inl (g.2.1 0, 14, .inl (upd (upd (upd (upd (upd (upd (upd (upd (upd (upd (upd (upd (upd (upd (fun _ => 0) 0 (-1)) 1 (-1)) 2 (-1)) 3 (-1)) 4 (-1)) 5 (-1)) 6 (-1)) 7 (-1)) 8 (-1)) 9 (-1)) 10 (-1)) 11 (-1)) 12 (-1)) 13 (-1))))]) hD hS hA [0, 1, 2] rfl
  refine va_calli (va_runV (As := [.int 3, .int 1]) (rest := [.int 0, .ref h1]) ⟨hx, hb, hml, hown, hts⟩ (c9_X11_group_6 l g h0 h2 h3 h4 h5 h6 h7 h8 h9 h10 h11 h12 h13 h14 h15 _ (upd (upd (upd (upd (upd (upd (upd (upd (upd (upd (upd (upd (upd (upd (fun _ => 0) 0 (-1)) 1 (-1)) 2 (-1)) 3 (-1)) 4 (-1)) 5 (-1)) 6 (-1)) 7 (-1)) 8 (-1)) 9 (-1)) 10 (-1)) 11 (-1)) 12 (-1)) 13 (-1))) (cwV 2 hts g9_L_group_7_0 rfl rfl rfl (by decide +kernel) ⟨Nat.le_of_ble_eq_true rfl, Nat.le_of_ble_eq_true rfl⟩) (mPreV (g := g) (wc := [(h0, .inr (12, [.ref h2, .int 0, .ref h3, .ref h4, .ref h5, .ref h6, .ref h7, .ref h8, .int (-1), .ref h9, .ref h10, .int 250, .ref h11, .int 0, .ref h12, .ref h13, .ref h14])), (h11, .inr (10, [.int 2, .int 7, .ref h15, .int 7])), (h15, .inl (g.2.1 0, 14, .inl (upd (upd (upd (upd (upd (upd (upd (upd (upd (upd (upd (upd (upd (upd (fun _ => 0) 0 (-1)) 1 (-1)) 2 (-1)) 3 (-1)) 4 (-1)) 5 (-1)) 6 (-1)) 7 (-1)) 8 (-1)) 9 (-1)) 10 (-1)) 11 (-1)) 12 (-1)) 13 (-1))))]) (C := RX11) (ci := 12) (q0 := 0) hE hS hPc hDc hFc rfl rfl) rfl rfl hl.1 rfl (lv_room (Nat.le_of_ble_eq_true rfl)) dL_group_5 ⟨Nat.le_of_ble_eq_true rfl, Nat.le_of_ble_eq_true rfl⟩) hS (fun q _ h => hFc q h) hFc (fun r_1 u t H1 locs ht hvm hw hB hz1 hk1 hS => ?_)
  replace hw : ((upd (upd (upd (upd (upd (upd (upd (upd (upd (upd (upd (upd (upd (upd (fun _ => 0) 0 (-1)) 1 (-1)) 2 (-1)) 3 (-1)) 4 (-1)) 5 (-1)) 6 (-1)) 7 (-1)) 8 (-1)) 9 (-1)) 10 (-1)) 11 (-1)) 12 (-1)) 13 (-1)) 7) = r_1 := Eq.symm hw
  subst hw
  obtain ⟨hP1, hD1⟩ := hB
  rw [ht] at hP1
  obtain ⟨hP, hD⟩ := va_join (wr := [(h1, .inl (g.2.1 2, 1, .inr (.inl (fun _ => 0))))]) (w1 := [(h0, .inr (12, [.ref h2, .int 0, .ref h3, .ref h4, .ref h5, .ref h6, .ref h7, .ref h8, .int (-1), .ref h9, .ref h10, .int 250, .ref h11, .int 0, .ref h12, .ref h13, .ref h14])), (h11, .inr (10, [.int 2, .int 7, .ref h15, .int 7])), (h15, .inl (g.2.1 0, 14, .inl (upd (upd (upd (upd (upd (upd (upd (upd (upd (upd (upd (upd (upd (upd (fun _ => 0) 0 (-1)) 1 (-1)) 2 (-1)) 3 (-1)) 4 (-1)) 5 (-1)) 6 (-1)) 7 (-1)) 8 (-1)) 9 (-1)) 10 (-1)) 11 (-1)) 12 (-1)) 13 (-1))))]) hP hD [0, 1, 2] [3] rfl rfl (by decide) (by decide) hk1 hFc hP1 hD1
  clear hP1 hD1 hPc hDc hFc hk1 hz1 hvm ht
  generalize H1 = H at hP hS ⊢
  have hP : va_P g.1 vwCl [(h1, .inl (g.2.1 2, 1, .inr (.inl (fun _ => 0)))), (h0, .inr (12, [.ref h2, .int 0, .ref h3, .ref h4, .ref h5, .ref h6, .ref h7, .ref h8, .int (-1), .ref h9, .ref h10, .int 250, .ref h11, .int 0, .ref h12, .ref h13, .ref h14])), (h11, .inr (10, [.int 2, .int 7, .ref h15, .int 7])), (h15, .inl (g.2.1 0, 14, .inl (upd (upd (upd (upd (upd (upd (upd (upd (upd (upd (upd (upd (upd (upd (fun _ => 0) 0 (-1)) 1 (-1)) 2 (-1)) 3 (-1)) 4 (-1)) 5 (-1)) 6 (-1)) 7 (-1)) 8 (-1)) 9 (-1)) 10 (-1)) 11 (-1)) 12 (-1)) 13 (-1))))] H := hP
  have hD : va_D A [(h1, .inl (g.2.1 2, 1, .inr (.inl (fun _ => 0)))), (h0, .inr (12, [.ref h2, .int 0, .ref h3, .ref h4, .ref h5, .ref h6, .ref h7, .ref h8, .int (-1), .ref h9, .ref h10, .int 250, .ref h11, .int 0, .ref h12, .ref h13, .ref h14])), (h11, .inr (10, [.int 2, .int 7, .ref h15, .int 7])), (h15, .inl (g.2.1 0, 14, .inl (upd (upd (upd (upd (upd (upd (upd (upd (upd (upd (upd (upd (upd (upd (fun _ => 0) 0 (-1)) 1 (-1)) 2 (-1)) 3 (-1)) 4 (-1)) 5 (-1)) 6 (-1)) 7 (-1)) 8 (-1)) 9 (-1)) 10 (-1)) 11 (-1)) 12 (-1)) 13 (-1))))] := hD
  refine e_top (y := (-1)) (by rfl) ?_
  refine lv_i2l (v := (-1)) hx hb dL_group_8 (by decide) ?_
  refine va_last hx hb hK hP hD hS 0 2 rfl rfl (vp_in_nI (n := 0) (by decide) (by decide)) dL_group_9 (fun H locs hP hD hS => ?_)
  have hP : va_P g.1 vwCl [(h1, .inl (g.2.1 2, 1, .inr (.inl (vp_updL (fun _ => 0) 0 (-1))))), (h0, .inr (12, [.ref h2, .int 0, .ref h3, .ref h4, .ref h5, .ref h6, .ref h7, .ref h8, .int (-1), .ref h9, .ref h10, .int 250, .ref h11, .int 0, .ref h12, .ref h13, .ref h14])), (h11, .inr (10, [.int 2, .int 7, .ref h15, .int 7])), (h15, .inl (g.2.1 0, 14, .inl (upd (upd (upd (upd (upd (upd (upd (upd (upd (upd (upd (upd (upd (upd (fun _ => 0) 0 (-1)) 1 (-1)) 2 (-1)) 3 (-1)) 4 (-1)) 5 (-1)) 6 (-1)) 7 (-1)) 8 (-1)) 9 (-1)) 10 (-1)) 11 (-1)) 12 (-1)) 13 (-1))))] H := hP
  have hD : va_D A [(h1, .inl (g.2.1 2, 1, .inr (.inl (vp_updL (fun _ => 0) 0 (-1))))), (h0, .inr (12, [.ref h2, .int 0, .ref h3, .ref h4, .ref h5, .ref h6, .ref h7, .ref h8, .int (-1), .ref h9, .ref h10, .int 250, .ref h11, .int 0, .ref h12, .ref h13, .ref h14])), (h11, .inr (10, [.int 2, .int 7, .ref h15, .int 7])), (h15, .inl (g.2.1 0, 14, .inl (upd (upd (upd (upd (upd (upd (upd (upd (upd (upd (upd (upd (upd (upd (fun _ => 0) 0 (-1)) 1 (-1)) 2 (-1)) 3 (-1)) 4 (-1)) 5 (-1)) 6 (-1)) 7 (-1)) 8 (-1)) 9 (-1)) 10 (-1)) 11 (-1)) 12 (-1)) 13 (-1))))] := hD
  refine lv_goto (tgt := 17) hx hb dL_group_10 (by decide) ?_
  refine lv_iconst (v := 0) hx hb dL_group_17 (by decide) ?_
  have hP9 := hP.sub (ws' := [(h0, .inr (12, [.ref h2, .int 0, .ref h3, .ref h4, .ref h5, .ref h6, .ref h7, .ref h8, .int (-1), .ref h9, .ref h10, .int 250, .ref h11, .int 0, .ref h12, .ref h13, .ref h14])), (h11, .inr (10, [.int 2, .int 7, .ref h15, .int 7])), (h15, .inl (g.2.1 0, 14, .inl (upd (upd (upd (upd (upd (upd (upd (upd (upd (upd (upd (upd (upd (upd (fun _ => 0) 0 (-1)) 1 (-1)) 2 (-1)) 3 (-1)) 4 (-1)) 5 (-1)) 6 (-1)) 7 (-1)) 8 (-1)) 9 (-1)) 10 (-1)) 11 (-1)) 12 (-1)) 13 (-1)))), (h1, .inl (g.2.1 2, 1, .inr (.inl (vp_updL (fun _ => 0) 0 (-1)))))]) [1, 2, 3, 0] rfl
  have hD9 := hD.sub (ws' := [(h0, .inr (12, [.ref h2, .int 0, .ref h3, .ref h4, .ref h5, .ref h6, .ref h7, .ref h8, .int (-1), .ref h9, .ref h10, .int 250, .ref h11, .int 0, .ref h12, .ref h13, .ref h14])), (h11, .inr (10, [.int 2, .int 7, .ref h15, .int 7])), (h15, .inl (g.2.1 0, 14, .inl (upd (upd (upd (upd (upd (upd (upd (upd (upd (upd (upd (upd (upd (upd (fun _ => 0) 0 (-1)) 1 (-1)) 2 (-1)) 3 (-1)) 4 (-1)) 5 (-1)) 6 (-1)) 7 (-1)) 8 (-1)) 9 (-1)) 10 (-1)) 11 (-1)) 12 (-1)) 13 (-1)))), (h1, .inl (g.2.1 2, 1, .inr (.inl (vp_updL (fun _ => 0) 0 (-1)))))]) [1, 2, 3, 0] (by decide) rfl
  subst hAe
  exact W.iret (v := 0) hx hb hr (fun t ht hW => ⟨⟨0, (), rfl, rfl, by rw [ht]; exact hP9, hD9⟩, hS.F ht⟩) hS.2.2 dL_group_18
def w9_X21_in_19 : List Cond := [.code yX21_in cX21_in 3 (some .boolean)]
set_option maxHeartbeats 4000000 in
set_option maxRecDepth 100000 in
theorem c9_X21_in_19 (l : Launch) (g : G9) (sz : Nat) : Met l yX21_in w9_X21_in_19 ({ frames := 0, cells := 0, slots := 0, locals := 0 }) (mP g [] sz [.int 3, .int 0, .int 6]) (va_Qi (fun (r : Int32) (_ : Unit) => r = 1) (fun (_ : Unit) (t : State) => mB g [] sz [] t) (va_A [] sz)) 0 0 (va_A [] sz) := by
  refine Met.ofW (cc := cX21_in) (maxL := 3) (ret := (some .boolean)) (by decide) rfl ?_
  intro p e s m args below meth c s₁ B hml hv
  obtain ⟨rfl, hsz, hP, hD0, hE⟩ := hv
  have hx := B.exec
  have hb := B.bytes
  have hr := B.returns
  have hts := atoms_spec (ws := w9_X21_in_19) B.pre
  have hown : s.vm.findClass RX21 = some m.cls := findClass_of_methodNamed B.named
  have hlocks := B.notSynchronized
  subst hsz
  have hD := hD0.self (sz := s.heap.size)
  generalize hAe : va_A [] s.heap.size = A at hD hE ⊢
  have hA : ∀ q : Nat, s.heap.size ≤ q → A q := fun q h => by rw [← hAe]; exact Or.inr h
  have hK := hE.1
  have hS : va_S A s.heap s.heap [] := va_S.rf
  replace hP : va_P g.1 vwCl [] s.heap := hP
  have hl := lv_entry ([.int 3, .int 0, .int 6]) (n := 3) (Nat.le_of_ble_eq_true rfl)
  rw [lg_entry_eq]
  generalize (lg_sl ([.int 3, .int 0, .int 6]) ++ List.replicate (3 - (lg_sl ([.int 3, .int 0, .int 6])).length) Slot.unset).toArray = ls at hl ⊢
  replace hl : lv_has ls 3 [(0, .int 3), (1, .int 0), (2, .int 6)] := hl
  have hH0 : s.heap.size ≤ s.heap.size := Nat.le_refl _
  refine lv_iload_n hx hb dX21_in_0 rfl (lv_at hl 0 rfl) ?_
  refine lv_iload_n hx hb dX21_in_1 rfl (lv_at hl 1 rfl) ?_
  refine lv_icmp_lt (tgt := 14) hx hb dX21_in_2 (by decide) (fun c9 => absurd c9 (by decide)) (fun _ => ?_)
  refine lv_iload_n hx hb dX21_in_5 rfl (lv_at hl 0 rfl) ?_
  refine lv_iload_n hx hb dX21_in_6 rfl (lv_at hl 2 rfl) ?_
  refine lv_icmp_gt (tgt := 14) hx hb dX21_in_7 (by decide) (fun c9 => absurd c9 (by decide)) (fun _ => ?_)
  refine lv_iconst (v := 1) hx hb dX21_in_10 (by decide) ?_
  refine lv_goto (tgt := 15) hx hb dX21_in_11 (by decide) ?_
  have hP9 := hP.sub (ws' := []) [] rfl
  have hD9 := hD.sub (ws' := []) [] (by decide) rfl
  subst hAe
  exact W.zret (v := 1) hx hb hr (by decide) (fun t ht hW => ⟨⟨1, (), rfl, rfl, by rw [ht]; exact hP9, hD9⟩, hS.F ht⟩) hS.2.2 dX21_in_15
def w9_X21_group_6 : List Cond := [.code yX21_group cX21_group 3 (some .int), .methodLink RX21 160 yX21_in, .static yX21_in, .initialized RX21, .code yX21_in cX21_in 3 (some .boolean), .methodLink RX21 154 yX21_refused, .instanceMethod yX21_refused, .selects RX21 yX21_refused yX21_refused, .code yX21_refused cX21_refused 2 (some .boolean), .fieldLink RX21 144 "RegexloomModel" "refusal" "I", .fieldLink RX21 107 "RegexloomModel" "told" "[I"] ++ (u_ws RX21 TX21 32)
set_option maxRecDepth 20000 in
theorem in9_X21_group_6_RX21 : ∀ w ∈ u_ws RX21 TX21 32, w ∈ w9_X21_group_6 := by decide +kernel
set_option maxRecDepth 20000 in
theorem g9_X21_group_6_0 : GoodIn w9_X21_group_6 (va_wsS RX21 160 yX21_in w9_X21_in_19) := goodIn_r _ [1, 2, 3, 4] (by decide +kernel) (by decide +kernel)
set_option maxRecDepth 20000 in
theorem g9_X21_group_6_1 : GoodIn w9_X21_group_6 (wsV RX21 154 RX21 yX21_refused w9_X21_refused_1) := goodIn_r _ [5, 6, 7, 3, 8, 9, 11, 12, 13, 14, 15, 16, 17, 18, 19, 20, 21, 22, 23, 24, 25, 26, 27, 28, 29, 30, 31, 32, 33, 34, 35, 36, 37, 38, 39, 40, 41, 42] (by decide +kernel) (by decide +kernel)
set_option maxHeartbeats 4000000 in
set_option maxRecDepth 100000 in
theorem c9_X21_group_6 (l : Launch) (g : G9) (h0 h1 h2 h3 h4 h5 h6 h7 h8 h9 h10 h11 h12 h13 h14 h15 h16 sz : Nat) (f0 : Nat → Int32) : Met l yX21_group w9_X21_group_6 ({ frames := 1, cells := 0, slots := 0, locals := 22 }) (mP g [(h0, .inr (22, [.int 0, .ref h1, .int 0, .ref h2, .int 0, .ref h3, .int 250, .ref h4, .int 0, .ref h5, .ref h6, .ref h7, .int 0, .ref h8, .ref h9, .ref h10, .int 0, .null, .int 0, .null, .int 0, .int 0, .int 0, .ref h11, .int 0, .ref h12, .ref h13, .ref h14, .int 0, .ref h15, .ref h16, .int 0])), (h7, .inl (g.2.1 0, 14, .inl f0))] sz [.ref h0, .int 3, .int 1]) (va_Qi (fun (r : Int32) (_ : Unit) => r = (f0 7)) (fun (_ : Unit) (t : State) => mB g [(h0, .inr (22, [.int 0, .ref h1, .int 0, .ref h2, .int 0, .ref h3, .int 250, .ref h4, .int 0, .ref h5, .ref h6, .ref h7, .int 0, .ref h8, .ref h9, .ref h10, .int 0, .null, .int 0, .null, .int 0, .int 0, .int 0, .ref h11, .int 0, .ref h12, .ref h13, .ref h14, .int 0, .ref h15, .ref h16, .int 0])), (h7, .inl (g.2.1 0, 14, .inl f0))] sz [(h0, .inr (22, [.int 0, .ref h1, .int 0, .ref h2, .int 0, .ref h3, .int 250, .ref h4, .int 0, .ref h5, .ref h6, .ref h7, .int 0, .ref h8, .ref h9, .ref h10, .int 0, .null, .int 0, .null, .int 0, .int 0, .int 0, .ref h11, .int 0, .ref h12, .ref h13, .ref h14, .int 0, .ref h15, .ref h16, .int 0])), (h7, .inl (g.2.1 0, 14, .inl f0))] t) (va_A [(h0, .inr (22, [.int 0, .ref h1, .int 0, .ref h2, .int 0, .ref h3, .int 250, .ref h4, .int 0, .ref h5, .ref h6, .ref h7, .int 0, .ref h8, .ref h9, .ref h10, .int 0, .null, .int 0, .null, .int 0, .int 0, .int 0, .ref h11, .int 0, .ref h12, .ref h13, .ref h14, .int 0, .ref h15, .ref h16, .int 0])), (h7, .inl (g.2.1 0, 14, .inl f0))] sz)) 0 0 (va_A [(h0, .inr (22, [.int 0, .ref h1, .int 0, .ref h2, .int 0, .ref h3, .int 250, .ref h4, .int 0, .ref h5, .ref h6, .ref h7, .int 0, .ref h8, .ref h9, .ref h10, .int 0, .null, .int 0, .null, .int 0, .int 0, .int 0, .ref h11, .int 0, .ref h12, .ref h13, .ref h14, .int 0, .ref h15, .ref h16, .int 0])), (h7, .inl (g.2.1 0, 14, .inl f0))] sz) := by
  refine Met.ofW (cc := cX21_group) (maxL := 3) (ret := (some .int)) (by decide) rfl ?_
  intro p e s m args below meth c s₁ B hml hv
  obtain ⟨rfl, hsz, hP, hD0, hE⟩ := hv
  have hx := B.exec
  have hb := B.bytes
  have hr := B.returns
  have hts := atoms_spec (ws := w9_X21_group_6) B.pre
  have hown : s.vm.findClass RX21 = some m.cls := findClass_of_methodNamed B.named
  have hlocks := B.notSynchronized
  subst hsz
  have hD := hD0.self (sz := s.heap.size)
  generalize hAe : va_A [(h0, .inr (22, [.int 0, .ref h1, .int 0, .ref h2, .int 0, .ref h3, .int 250, .ref h4, .int 0, .ref h5, .ref h6, .ref h7, .int 0, .ref h8, .ref h9, .ref h10, .int 0, .null, .int 0, .null, .int 0, .int 0, .int 0, .ref h11, .int 0, .ref h12, .ref h13, .ref h14, .int 0, .ref h15, .ref h16, .int 0])), (h7, .inl (g.2.1 0, 14, .inl f0))] s.heap.size = A at hD hE ⊢
  have hA : ∀ q : Nat, s.heap.size ≤ q → A q := fun q h => by rw [← hAe]; exact Or.inr h
  have hK := hE.1
  have hS : va_S A s.heap s.heap [] := va_S.rf
  replace hP : va_P g.1 vwCl [(h0, .inr (22, [.int 0, .ref h1, .int 0, .ref h2, .int 0, .ref h3, .int 250, .ref h4, .int 0, .ref h5, .ref h6, .ref h7, .int 0, .ref h8, .ref h9, .ref h10, .int 0, .null, .int 0, .null, .int 0, .int 0, .int 0, .ref h11, .int 0, .ref h12, .ref h13, .ref h14, .int 0, .ref h15, .ref h16, .int 0])), (h7, .inl (g.2.1 0, 14, .inl f0))] s.heap := hP
  have hl := lv_entry ([.ref h0, .int 3, .int 1]) (n := 3) (Nat.le_of_ble_eq_true rfl)
  rw [lg_entry_eq]
  generalize (lg_sl ([.ref h0, .int 3, .int 1]) ++ List.replicate (3 - (lg_sl ([.ref h0, .int 3, .int 1])).length) Slot.unset).toArray = ls at hl ⊢
  replace hl : lv_has ls 3 [(0, .ref h0), (1, .int 3), (2, .int 1)] := hl
  have hH0 : s.heap.size ≤ s.heap.size := Nat.le_refl _
  refine lv_aload_n hx hb dX21_group_0 rfl (lv_at hl 0 rfl) ?_
  refine lv_iload_n hx hb dX21_group_1 rfl (lv_at hl 1 rfl) ?_
  refine lv_iconst (v := 0) hx hb dX21_group_2 (by decide) ?_
  refine lv_bipush (v := 6) hx hb dX21_group_3 (by decide) ?_
  have hPc := hP.sub (ws' := []) [] rfl
  have hDc := hD.sub (ws' := []) [] (by decide) rfl
  have hFc := va_free (wc := []) hD hS hA [] rfl
  refine va_calli (va_runS (As := [.int 3, .int 0, .int 6]) (rest := [.ref h0]) ⟨hx, hb, hml, hown, hts⟩ (c9_X21_in_19 l g _) (va_cwS 3 hts g9_X21_group_6_0 rfl rfl rfl (by decide +kernel) ⟨Nat.le_of_ble_eq_true rfl, Nat.le_of_ble_eq_true rfl⟩) (mPreS (g := g) (wc := []) hE hS hPc hDc hFc) rfl rfl hl.1 rfl (lv_room (Nat.le_of_ble_eq_true rfl)) dX21_group_5 ⟨Nat.le_of_ble_eq_true rfl, Nat.le_of_ble_eq_true rfl⟩) hS (fun q _ h => hFc q h) hFc (fun r_1 u t H1 locs ht hvm hw hB hz1 hk1 hS => ?_)
  replace hw : 1 = r_1 := Eq.symm hw
  subst hw
  obtain ⟨hP1, hD1⟩ := hB
  rw [ht] at hP1
  obtain ⟨hP, hD⟩ := va_join (wr := [(h0, .inr (22, [.int 0, .ref h1, .int 0, .ref h2, .int 0, .ref h3, .int 250, .ref h4, .int 0, .ref h5, .ref h6, .ref h7, .int 0, .ref h8, .ref h9, .ref h10, .int 0, .null, .int 0, .null, .int 0, .int 0, .int 0, .ref h11, .int 0, .ref h12, .ref h13, .ref h14, .int 0, .ref h15, .ref h16, .int 0])), (h7, .inl (g.2.1 0, 14, .inl f0))]) (w1 := []) hP hD [] [0, 1] rfl rfl (by decide) (by decide) hk1 hFc hP1 hD1
  clear hP1 hD1 hPc hDc hFc hk1 hz1 hvm ht
  generalize H1 = H at hP hS ⊢
  have hP : va_P g.1 vwCl [(h0, .inr (22, [.int 0, .ref h1, .int 0, .ref h2, .int 0, .ref h3, .int 250, .ref h4, .int 0, .ref h5, .ref h6, .ref h7, .int 0, .ref h8, .ref h9, .ref h10, .int 0, .null, .int 0, .null, .int 0, .int 0, .int 0, .ref h11, .int 0, .ref h12, .ref h13, .ref h14, .int 0, .ref h15, .ref h16, .int 0])), (h7, .inl (g.2.1 0, 14, .inl f0))] H := hP
  have hD : va_D A [(h0, .inr (22, [.int 0, .ref h1, .int 0, .ref h2, .int 0, .ref h3, .int 250, .ref h4, .int 0, .ref h5, .ref h6, .ref h7, .int 0, .ref h8, .ref h9, .ref h10, .int 0, .null, .int 0, .null, .int 0, .int 0, .int 0, .ref h11, .int 0, .ref h12, .ref h13, .ref h14, .int 0, .ref h15, .ref h16, .int 0])), (h7, .inl (g.2.1 0, 14, .inl f0))] := hD
  refine lv_if_eq (tgt := 15) hx hb dX21_group_8 (by decide) (fun c9 => absurd c9 (by decide)) (fun _ => ?_)
  refine lv_iconst (v := 0) hx hb dX21_group_11 (by decide) ?_
  refine lv_goto (tgt := 16) hx hb dX21_group_12 (by decide) ?_
  have hPc := hP.sub (ws' := [(h0, .inr (22, [.int 0, .ref h1, .int 0, .ref h2, .int 0, .ref h3, .int 250, .ref h4, .int 0, .ref h5, .ref h6, .ref h7, .int 0, .ref h8, .ref h9, .ref h10, .int 0, .null, .int 0, .null, .int 0, .int 0, .int 0, .ref h11, .int 0, .ref h12, .ref h13, .ref h14, .int 0, .ref h15, .ref h16, .int 0]))]) [0] rfl
  have hDc := hD.sub (ws' := [(h0, .inr (22, [.int 0, .ref h1, .int 0, .ref h2, .int 0, .ref h3, .int 250, .ref h4, .int 0, .ref h5, .ref h6, .ref h7, .int 0, .ref h8, .ref h9, .ref h10, .int 0, .null, .int 0, .null, .int 0, .int 0, .int 0, .ref h11, .int 0, .ref h12, .ref h13, .ref h14, .int 0, .ref h15, .ref h16, .int 0]))]) [0] (by decide) rfl
  have hFc := va_free (wc := [(h0, .inr (22, [.int 0, .ref h1, .int 0, .ref h2, .int 0, .ref h3, .int 250, .ref h4, .int 0, .ref h5, .ref h6, .ref h7, .int 0, .ref h8, .ref h9, .ref h10, .int 0, .null, .int 0, .null, .int 0, .int 0, .int 0, .ref h11, .int 0, .ref h12, .ref h13, .ref h14, .int 0, .ref h15, .ref h16, .int 0]))]) hD hS hA [0] rfl
  refine va_calli (va_runV (As := [.int 0]) (rest := []) ⟨hx, hb, hml, hown, hts⟩ (c9_X21_refused_1 l g h0 h1 h2 h3 h4 h5 h6 h7 h8 h9 h10 h11 h12 h13 h14 h15 h16 _) (cwV 1 hts g9_X21_group_6_1 rfl rfl rfl (by decide +kernel) ⟨Nat.le_of_ble_eq_true rfl, Nat.le_of_ble_eq_true rfl⟩) (mPreV (g := g) (wc := [(h0, .inr (22, [.int 0, .ref h1, .int 0, .ref h2, .int 0, .ref h3, .int 250, .ref h4, .int 0, .ref h5, .ref h6, .ref h7, .int 0, .ref h8, .ref h9, .ref h10, .int 0, .null, .int 0, .null, .int 0, .int 0, .int 0, .ref h11, .int 0, .ref h12, .ref h13, .ref h14, .int 0, .ref h15, .ref h16, .int 0]))]) (C := RX21) (ci := 22) (q0 := 0) hE hS hPc hDc hFc rfl rfl) rfl rfl hl.1 rfl (lv_room (Nat.le_of_ble_eq_true rfl)) dX21_group_16 ⟨Nat.le_of_ble_eq_true rfl, Nat.le_of_ble_eq_true rfl⟩) hS (fun q _ h => hFc q h) hFc (fun r_2 u t H1 locs ht hvm hw hB hz1 hk1 hS => ?_)
  replace hw : 0 = r_2 := Eq.symm hw
  subst hw
  obtain ⟨hP1, hD1⟩ := hB
  rw [ht] at hP1
  obtain ⟨hP, hD⟩ := va_join (wr := [(h7, .inl (g.2.1 0, 14, .inl f0))]) (w1 := [(h0, .inr (22, [.int 0, .ref h1, .int 0, .ref h2, .int 0, .ref h3, .int 250, .ref h4, .int 0, .ref h5, .ref h6, .ref h7, .int 0, .ref h8, .ref h9, .ref h10, .int 0, .null, .int 0, .null, .int 0, .int 0, .int 0, .ref h11, .int 0, .ref h12, .ref h13, .ref h14, .int 0, .ref h15, .ref h16, .int 0]))]) hP hD [0] [1] rfl rfl (by decide) (by decide) hk1 hFc hP1 hD1
  clear hP1 hD1 hPc hDc hFc hk1 hz1 hvm ht
  generalize H1 = H at hP hS ⊢
  have hP : va_P g.1 vwCl [(h7, .inl (g.2.1 0, 14, .inl f0)), (h0, .inr (22, [.int 0, .ref h1, .int 0, .ref h2, .int 0, .ref h3, .int 250, .ref h4, .int 0, .ref h5, .ref h6, .ref h7, .int 0, .ref h8, .ref h9, .ref h10, .int 0, .null, .int 0, .null, .int 0, .int 0, .int 0, .ref h11, .int 0, .ref h12, .ref h13, .ref h14, .int 0, .ref h15, .ref h16, .int 0]))] H := hP
  have hD : va_D A [(h7, .inl (g.2.1 0, 14, .inl f0)), (h0, .inr (22, [.int 0, .ref h1, .int 0, .ref h2, .int 0, .ref h3, .int 250, .ref h4, .int 0, .ref h5, .ref h6, .ref h7, .int 0, .ref h8, .ref h9, .ref h10, .int 0, .null, .int 0, .null, .int 0, .int 0, .int 0, .ref h11, .int 0, .ref h12, .ref h13, .ref h14, .int 0, .ref h15, .ref h16, .int 0]))] := hD
  refine lv_if_eq (tgt := 26) hx hb dX21_group_19 (by decide) (fun _ => ?_) (fun c9 => absurd (by decide) c9)
  refine lv_aload_n hx hb dX21_group_26 rfl (lv_at hl 0 rfl) ?_
  refine va_get (D := g.1) (ci := 22) (v := .ref h7) (C := RX21) (T := TX21) (N := 32) hx hb hts in9_X21_group_6_RX21 hown hK hP 1 rfl rfl 11 (by decide) (hts (.fieldLink RX21 107 "RegexloomModel" "told" "[I") (List.mem_of_getElem? (i := 10) rfl)) (fun _ h9 => h9) rfl dX21_group_27 ?_
  refine lv_iconst (v := 2) hx hb dX21_group_30 (by decide) ?_
  refine lv_iload_n hx hb dX21_group_31 rfl (lv_at hl 1 rfl) ?_
  refine lv_imul hx hb dX21_group_32 ?_
  refine e_top (y := 6) (by decide) ?_
  refine lv_iload_n hx hb dX21_group_33 rfl (lv_at hl 2 rfl) ?_
  refine lv_if_eq (tgt := 41) hx hb dX21_group_34 (by decide) (fun c9 => absurd c9 (by decide)) (fun _ => ?_)
  refine lv_iconst (v := 1) hx hb dX21_group_37 (by decide) ?_
  refine lv_goto (tgt := 42) hx hb dX21_group_38 (by decide) ?_
  refine lv_iadd hx hb dX21_group_42 ?_
  refine e_top (y := 7) (by decide) ?_
  refine va_iald hx hb hK hP 0 0 rfl rfl (vp_in_nI (n := 7) (by decide) (by decide)) dX21_group_43 ?_
  refine e_topv (y := .int (f0 7)) (by rfl) ?_
  have hP9 := hP.sub (ws' := [(h0, .inr (22, [.int 0, .ref h1, .int 0, .ref h2, .int 0, .ref h3, .int 250, .ref h4, .int 0, .ref h5, .ref h6, .ref h7, .int 0, .ref h8, .ref h9, .ref h10, .int 0, .null, .int 0, .null, .int 0, .int 0, .int 0, .ref h11, .int 0, .ref h12, .ref h13, .ref h14, .int 0, .ref h15, .ref h16, .int 0])), (h7, .inl (g.2.1 0, 14, .inl f0))]) [1, 0] rfl
  have hD9 := hD.sub (ws' := [(h0, .inr (22, [.int 0, .ref h1, .int 0, .ref h2, .int 0, .ref h3, .int 250, .ref h4, .int 0, .ref h5, .ref h6, .ref h7, .int 0, .ref h8, .ref h9, .ref h10, .int 0, .null, .int 0, .null, .int 0, .int 0, .int 0, .ref h11, .int 0, .ref h12, .ref h13, .ref h14, .int 0, .ref h15, .ref h16, .int 0])), (h7, .inl (g.2.1 0, 14, .inl f0))]) [1, 0] (by decide) rfl
  subst hAe
  exact W.iret (v := (f0 7)) hx hb hr (fun t ht hW => ⟨⟨(f0 7), (), rfl, rfl, by rw [ht]; exact hP9, hD9⟩, hS.F ht⟩) hS.2.2 dX21_group_44
def w9_X9_get_7 : List Cond := [.code yX9_get cX9_get 3 (some .int), .fieldLink RX9 28 "Regexloom$Table" "size" "I", .fieldLink RX9 9 "Regexloom$Table" "width" "I", .fieldLink RX9 24 "Regexloom$Table" "cells" "[I"] ++ (u_ws RX9 TX9 4)
set_option maxRecDepth 20000 in
theorem in9_X9_get_7_RX9 : ∀ w ∈ u_ws RX9 TX9 4, w ∈ w9_X9_get_7 := by decide +kernel
set_option maxHeartbeats 4000000 in
set_option maxRecDepth 100000 in
theorem c9_X9_get_7 (l : Launch) (g : G9) (h0 h1 sz : Nat) (f0 : Nat → Int32) : Met l yX9_get w9_X9_get_7 ({ frames := 0, cells := 0, slots := 0, locals := 0 }) (mP g [(h0, .inr (10, [.int 2, .int 7, .ref h1, .int 7])), (h1, .inl (g.2.1 0, 14, .inl f0))] sz [.ref h0, .int 4, .int 1]) (va_Qi (fun (r : Int32) (_ : Unit) => r = (f0 9)) (fun (_ : Unit) (t : State) => mB g [(h0, .inr (10, [.int 2, .int 7, .ref h1, .int 7])), (h1, .inl (g.2.1 0, 14, .inl f0))] sz [(h0, .inr (10, [.int 2, .int 7, .ref h1, .int 7])), (h1, .inl (g.2.1 0, 14, .inl f0))] t) (va_A [(h0, .inr (10, [.int 2, .int 7, .ref h1, .int 7])), (h1, .inl (g.2.1 0, 14, .inl f0))] sz)) 0 0 (va_A [(h0, .inr (10, [.int 2, .int 7, .ref h1, .int 7])), (h1, .inl (g.2.1 0, 14, .inl f0))] sz) := by
  refine Met.ofW (cc := cX9_get) (maxL := 3) (ret := (some .int)) (by decide) rfl ?_
  intro p e s m args below meth c s₁ B hml hv
  obtain ⟨rfl, hsz, hP, hD0, hE⟩ := hv
  have hx := B.exec
  have hb := B.bytes
  have hr := B.returns
  have hts := atoms_spec (ws := w9_X9_get_7) B.pre
  have hown : s.vm.findClass RX9 = some m.cls := findClass_of_methodNamed B.named
  have hlocks := B.notSynchronized
  subst hsz
  have hD := hD0.self (sz := s.heap.size)
  generalize hAe : va_A [(h0, .inr (10, [.int 2, .int 7, .ref h1, .int 7])), (h1, .inl (g.2.1 0, 14, .inl f0))] s.heap.size = A at hD hE ⊢
  have hA : ∀ q : Nat, s.heap.size ≤ q → A q := fun q h => by rw [← hAe]; exact Or.inr h
  have hK := hE.1
  have hS : va_S A s.heap s.heap [] := va_S.rf
  replace hP : va_P g.1 vwCl [(h0, .inr (10, [.int 2, .int 7, .ref h1, .int 7])), (h1, .inl (g.2.1 0, 14, .inl f0))] s.heap := hP
  have hl := lv_entry ([.ref h0, .int 4, .int 1]) (n := 3) (Nat.le_of_ble_eq_true rfl)
  rw [lg_entry_eq]
  generalize (lg_sl ([.ref h0, .int 4, .int 1]) ++ List.replicate (3 - (lg_sl ([.ref h0, .int 4, .int 1])).length) Slot.unset).toArray = ls at hl ⊢
  replace hl : lv_has ls 3 [(0, .ref h0), (1, .int 4), (2, .int 1)] := hl
  have hH0 : s.heap.size ≤ s.heap.size := Nat.le_refl _
  refine lv_iload_n hx hb dX9_get_0 rfl (lv_at hl 1 rfl) ?_
  refine lv_if_lt (tgt := 24) hx hb dX9_get_1 (by decide) (fun c9 => absurd c9 (by decide)) (fun _ => ?_)
  refine lv_iload_n hx hb dX9_get_4 rfl (lv_at hl 1 rfl) ?_
  refine lv_aload_n hx hb dX9_get_5 rfl (lv_at hl 0 rfl) ?_
  refine va_get (D := g.1) (ci := 10) (v := .int 7) (C := RX9) (T := TX9) (N := 4) hx hb hts in9_X9_get_7_RX9 hown hK hP 0 rfl rfl 3 (by decide) (hts (.fieldLink RX9 28 "Regexloom$Table" "size" "I") (List.mem_of_getElem? (i := 1) rfl)) (fun _ h9 => h9) rfl dX9_get_6 ?_
  refine lv_icmp_ge (tgt := 24) hx hb dX9_get_9 (by decide) (fun c9 => absurd c9 (by decide)) (fun _ => ?_)
  refine lv_iload_n hx hb dX9_get_12 rfl (lv_at hl 2 rfl) ?_
  refine lv_if_lt (tgt := 24) hx hb dX9_get_13 (by decide) (fun c9 => absurd c9 (by decide)) (fun _ => ?_)
  refine lv_iload_n hx hb dX9_get_16 rfl (lv_at hl 2 rfl) ?_
  refine lv_aload_n hx hb dX9_get_17 rfl (lv_at hl 0 rfl) ?_
  refine va_get (D := g.1) (ci := 10) (v := .int 2) (C := RX9) (T := TX9) (N := 4) hx hb hts in9_X9_get_7_RX9 hown hK hP 0 rfl rfl 0 (by decide) (hts (.fieldLink RX9 9 "Regexloom$Table" "width" "I") (List.mem_of_getElem? (i := 2) rfl)) (fun _ h9 => h9) rfl dX9_get_18 ?_
  refine lv_icmp_lt (tgt := 26) hx hb dX9_get_21 (by decide) (fun _ => ?_) (fun c9 => absurd (by decide) c9)
  refine lv_aload_n hx hb dX9_get_26 rfl (lv_at hl 0 rfl) ?_
  refine va_get (D := g.1) (ci := 10) (v := .ref h1) (C := RX9) (T := TX9) (N := 4) hx hb hts in9_X9_get_7_RX9 hown hK hP 0 rfl rfl 2 (by decide) (hts (.fieldLink RX9 24 "Regexloom$Table" "cells" "[I") (List.mem_of_getElem? (i := 3) rfl)) (fun _ h9 => h9) rfl dX9_get_27 ?_
  refine lv_iload_n hx hb dX9_get_30 rfl (lv_at hl 1 rfl) ?_
  refine lv_aload_n hx hb dX9_get_31 rfl (lv_at hl 0 rfl) ?_
  refine va_get (D := g.1) (ci := 10) (v := .int 2) (C := RX9) (T := TX9) (N := 4) hx hb hts in9_X9_get_7_RX9 hown hK hP 0 rfl rfl 0 (by decide) (hts (.fieldLink RX9 9 "Regexloom$Table" "width" "I") (List.mem_of_getElem? (i := 2) rfl)) (fun _ h9 => h9) rfl dX9_get_32 ?_
  refine lv_imul hx hb dX9_get_35 ?_
  refine e_top (y := 8) (by decide) ?_
  refine lv_iload_n hx hb dX9_get_36 rfl (lv_at hl 2 rfl) ?_
  refine lv_iadd hx hb dX9_get_37 ?_
  refine e_top (y := 9) (by decide) ?_
  refine va_iald hx hb hK hP 1 0 rfl rfl (vp_in_nI (n := 9) (by decide) (by decide)) dX9_get_38 ?_
  refine e_topv (y := .int (f0 9)) (by rfl) ?_
  have hP9 := hP.sub (ws' := [(h0, .inr (10, [.int 2, .int 7, .ref h1, .int 7])), (h1, .inl (g.2.1 0, 14, .inl f0))]) [0, 1] rfl
  have hD9 := hD.sub (ws' := [(h0, .inr (10, [.int 2, .int 7, .ref h1, .int 7])), (h1, .inl (g.2.1 0, 14, .inl f0))]) [0, 1] (by decide) rfl
  subst hAe
  exact W.iret (v := (f0 9)) hx hb hr (fun t ht hW => ⟨⟨(f0 9), (), rfl, rfl, by rw [ht]; exact hP9, hD9⟩, hS.F ht⟩) hS.2.2 dX9_get_39
def w9_X11_group_7 : List Cond := [.code yX11_group cX11_group 3 (some .int), .fieldLink RX11 78 "Regexloom" "bounds" "LRegexloom$Table;", .methodLink RX11 225 yX9_get, .instanceMethod yX9_get, .selects RX9 yX9_get yX9_get, .initialized RX9, .code yX9_get cX9_get 3 (some .int), .fieldLink RX9 28 "Regexloom$Table" "size" "I", .fieldLink RX9 9 "Regexloom$Table" "width" "I", .fieldLink RX9 24 "Regexloom$Table" "cells" "[I"] ++ (u_ws RX11 TX11 17 ++ u_ws RX9 TX9 4)
set_option maxRecDepth 20000 in
theorem in9_X11_group_7_RX11 : ∀ w ∈ u_ws RX11 TX11 17, w ∈ w9_X11_group_7 := by decide +kernel
set_option maxRecDepth 20000 in
theorem in9_X11_group_7_RX9 : ∀ w ∈ u_ws RX9 TX9 4, w ∈ w9_X11_group_7 := by decide +kernel
set_option maxRecDepth 20000 in
theorem g9_X11_group_7_0 : GoodIn w9_X11_group_7 (wsV RX11 225 RX9 yX9_get w9_X9_get_7) := goodIn_r _ [2, 3, 4, 5, 6, 7, 8, 9, 27, 28, 29, 30] (by decide +kernel) (by decide +kernel)
set_option maxHeartbeats 4000000 in
set_option maxRecDepth 100000 in
theorem c9_X11_group_7 (l : Launch) (g : G9) (h0 h1 h2 h3 h4 h5 h6 h7 h8 h9 h10 h11 h12 h13 h14 sz : Nat) (f0 : Nat → Int32) : Met l yX11_group w9_X11_group_7 ({ frames := 1, cells := 0, slots := 0, locals := 22 }) (mP g [(h0, .inr (12, [.ref h1, .int 0, .ref h2, .ref h3, .ref h4, .ref h5, .ref h6, .ref h7, .int (-1), .ref h8, .ref h9, .int 250, .ref h10, .int 0, .ref h11, .ref h12, .ref h13])), (h10, .inr (10, [.int 2, .int 7, .ref h14, .int 7])), (h14, .inl (g.2.1 0, 14, .inl f0))] sz [.ref h0, .int 4, .int 1]) (va_Qi (fun (r : Int32) (_ : Unit) => r = (f0 9)) (fun (_ : Unit) (t : State) => mB g [(h0, .inr (12, [.ref h1, .int 0, .ref h2, .ref h3, .ref h4, .ref h5, .ref h6, .ref h7, .int (-1), .ref h8, .ref h9, .int 250, .ref h10, .int 0, .ref h11, .ref h12, .ref h13])), (h10, .inr (10, [.int 2, .int 7, .ref h14, .int 7])), (h14, .inl (g.2.1 0, 14, .inl f0))] sz [(h0, .inr (12, [.ref h1, .int 0, .ref h2, .ref h3, .ref h4, .ref h5, .ref h6, .ref h7, .int (-1), .ref h8, .ref h9, .int 250, .ref h10, .int 0, .ref h11, .ref h12, .ref h13])), (h10, .inr (10, [.int 2, .int 7, .ref h14, .int 7])), (h14, .inl (g.2.1 0, 14, .inl f0))] t) (va_A [(h0, .inr (12, [.ref h1, .int 0, .ref h2, .ref h3, .ref h4, .ref h5, .ref h6, .ref h7, .int (-1), .ref h8, .ref h9, .int 250, .ref h10, .int 0, .ref h11, .ref h12, .ref h13])), (h10, .inr (10, [.int 2, .int 7, .ref h14, .int 7])), (h14, .inl (g.2.1 0, 14, .inl f0))] sz)) 0 0 (va_A [(h0, .inr (12, [.ref h1, .int 0, .ref h2, .ref h3, .ref h4, .ref h5, .ref h6, .ref h7, .int (-1), .ref h8, .ref h9, .int 250, .ref h10, .int 0, .ref h11, .ref h12, .ref h13])), (h10, .inr (10, [.int 2, .int 7, .ref h14, .int 7])), (h14, .inl (g.2.1 0, 14, .inl f0))] sz) := by
  refine Met.ofW (cc := cX11_group) (maxL := 3) (ret := (some .int)) (by decide) rfl ?_
  intro p e s m args below meth c s₁ B hml hv
  obtain ⟨rfl, hsz, hP, hD0, hE⟩ := hv
  have hx := B.exec
  have hb := B.bytes
  have hr := B.returns
  have hts := atoms_spec (ws := w9_X11_group_7) B.pre
  have hown : s.vm.findClass RX11 = some m.cls := findClass_of_methodNamed B.named
  have hlocks := B.notSynchronized
  subst hsz
  have hD := hD0.self (sz := s.heap.size)
  generalize hAe : va_A [(h0, .inr (12, [.ref h1, .int 0, .ref h2, .ref h3, .ref h4, .ref h5, .ref h6, .ref h7, .int (-1), .ref h8, .ref h9, .int 250, .ref h10, .int 0, .ref h11, .ref h12, .ref h13])), (h10, .inr (10, [.int 2, .int 7, .ref h14, .int 7])), (h14, .inl (g.2.1 0, 14, .inl f0))] s.heap.size = A at hD hE ⊢
  have hA : ∀ q : Nat, s.heap.size ≤ q → A q := fun q h => by rw [← hAe]; exact Or.inr h
  have hK := hE.1
  have hS : va_S A s.heap s.heap [] := va_S.rf
  replace hP : va_P g.1 vwCl [(h0, .inr (12, [.ref h1, .int 0, .ref h2, .ref h3, .ref h4, .ref h5, .ref h6, .ref h7, .int (-1), .ref h8, .ref h9, .int 250, .ref h10, .int 0, .ref h11, .ref h12, .ref h13])), (h10, .inr (10, [.int 2, .int 7, .ref h14, .int 7])), (h14, .inl (g.2.1 0, 14, .inl f0))] s.heap := hP
  have hl := lv_entry ([.ref h0, .int 4, .int 1]) (n := 3) (Nat.le_of_ble_eq_true rfl)
  rw [lg_entry_eq]
  generalize (lg_sl ([.ref h0, .int 4, .int 1]) ++ List.replicate (3 - (lg_sl ([.ref h0, .int 4, .int 1])).length) Slot.unset).toArray = ls at hl ⊢
  replace hl : lv_has ls 3 [(0, .ref h0), (1, .int 4), (2, .int 1)] := hl
  have hH0 : s.heap.size ≤ s.heap.size := Nat.le_refl _
  refine lv_iload_n hx hb dX11_group_0 rfl (lv_at hl 1 rfl) ?_
  refine lv_if_lt (tgt := 10) hx hb dX11_group_1 (by decide) (fun c9 => absurd c9 (by decide)) (fun _ => ?_)
  refine lv_iload_n hx hb dX11_group_4 rfl (lv_at hl 1 rfl) ?_
  refine lv_bipush (v := 6) hx hb dX11_group_5 (by decide) ?_
  refine lv_icmp_le (tgt := 20) hx hb dX11_group_7 (by decide) (fun _ => ?_) (fun c9 => absurd (by decide) c9)
  refine lv_aload_n hx hb dX11_group_20 rfl (lv_at hl 0 rfl) ?_
  refine va_get (D := g.1) (ci := 12) (v := .ref h10) (C := RX11) (T := TX11) (N := 17) hx hb hts in9_X11_group_7_RX11 hown hK hP 0 rfl rfl 12 (by decide) (hts (.fieldLink RX11 78 "Regexloom" "bounds" "LRegexloom$Table;") (List.mem_of_getElem? (i := 1) rfl)) (fun _ h9 => h9) rfl dX11_group_21 ?_
  refine lv_iload_n hx hb dX11_group_24 rfl (lv_at hl 1 rfl) ?_
  refine lv_iload_n hx hb dX11_group_25 rfl (lv_at hl 2 rfl) ?_
  refine lv_if_eq (tgt := 33) hx hb dX11_group_26 (by decide) (fun c9 => absurd c9 (by decide)) (fun _ => ?_)
  refine lv_iconst (v := 1) hx hb dX11_group_29 (by decide) ?_
  refine lv_goto (tgt := 34) hx hb dX11_group_30 (by decide) ?_
  have hPc := hP.sub (ws' := [(h10, .inr (10, [.int 2, .int 7, .ref h14, .int 7])), (h14, .inl (g.2.1 0, 14, .inl f0))]) [1, 2] rfl
  have hDc := hD.sub (ws' := [(h10, .inr (10, [.int 2, .int 7, .ref h14, .int 7])), (h14, .inl (g.2.1 0, 14, .inl f0))]) [1, 2] (by decide) rfl
  have hFc := va_free (wc := [(h10, .inr (10, [.int 2, .int 7, .ref h14, .int 7])), (h14, .inl (g.2.1 0, 14, .inl f0))]) hD hS hA [1, 2] rfl
  refine va_calli (va_runV (As := [.int 4, .int 1]) (rest := []) ⟨hx, hb, hml, hown, hts⟩ (c9_X9_get_7 l g h10 h14 _ f0) (cwV 2 hts g9_X11_group_7_0 rfl rfl rfl (by decide +kernel) ⟨Nat.le_of_ble_eq_true rfl, Nat.le_of_ble_eq_true rfl⟩) (mPreV (g := g) (wc := [(h10, .inr (10, [.int 2, .int 7, .ref h14, .int 7])), (h14, .inl (g.2.1 0, 14, .inl f0))]) (C := RX9) (ci := 10) (q0 := 0) hE hS hPc hDc hFc rfl rfl) rfl rfl hl.1 rfl (lv_room (Nat.le_of_ble_eq_true rfl)) dX11_group_34 ⟨Nat.le_of_ble_eq_true rfl, Nat.le_of_ble_eq_true rfl⟩) hS (fun q _ h => hFc q h) hFc (fun r_1 u t H1 locs ht hvm hw hB hz1 hk1 hS => ?_)
  replace hw : (f0 9) = r_1 := Eq.symm hw
  subst hw
  obtain ⟨hP1, hD1⟩ := hB
  rw [ht] at hP1
  obtain ⟨hP, hD⟩ := va_join (wr := [(h0, .inr (12, [.ref h1, .int 0, .ref h2, .ref h3, .ref h4, .ref h5, .ref h6, .ref h7, .int (-1), .ref h8, .ref h9, .int 250, .ref h10, .int 0, .ref h11, .ref h12, .ref h13]))]) (w1 := [(h10, .inr (10, [.int 2, .int 7, .ref h14, .int 7])), (h14, .inl (g.2.1 0, 14, .inl f0))]) hP hD [1, 2] [0] rfl rfl (by decide) (by decide) hk1 hFc hP1 hD1
  clear hP1 hD1 hPc hDc hFc hk1 hz1 hvm ht
  generalize H1 = H at hP hS ⊢
  have hP : va_P g.1 vwCl [(h0, .inr (12, [.ref h1, .int 0, .ref h2, .ref h3, .ref h4, .ref h5, .ref h6, .ref h7, .int (-1), .ref h8, .ref h9, .int 250, .ref h10, .int 0, .ref h11, .ref h12, .ref h13])), (h10, .inr (10, [.int 2, .int 7, .ref h14, .int 7])), (h14, .inl (g.2.1 0, 14, .inl f0))] H := hP
  have hD : va_D A [(h0, .inr (12, [.ref h1, .int 0, .ref h2, .ref h3, .ref h4, .ref h5, .ref h6, .ref h7, .int (-1), .ref h8, .ref h9, .int 250, .ref h10, .int 0, .ref h11, .ref h12, .ref h13])), (h10, .inr (10, [.int 2, .int 7, .ref h14, .int 7])), (h14, .inl (g.2.1 0, 14, .inl f0))] := hD
  refine e_top (y := (f0 9)) (by rfl) ?_
  have hP9 := hP.sub (ws' := [(h0, .inr (12, [.ref h1, .int 0, .ref h2, .ref h3, .ref h4, .ref h5, .ref h6, .ref h7, .int (-1), .ref h8, .ref h9, .int 250, .ref h10, .int 0, .ref h11, .ref h12, .ref h13])), (h10, .inr (10, [.int 2, .int 7, .ref h14, .int 7])), (h14, .inl (g.2.1 0, 14, .inl f0))]) [0, 1, 2] rfl
  have hD9 := hD.sub (ws' := [(h0, .inr (12, [.ref h1, .int 0, .ref h2, .ref h3, .ref h4, .ref h5, .ref h6, .ref h7, .int (-1), .ref h8, .ref h9, .int 250, .ref h10, .int 0, .ref h11, .ref h12, .ref h13])), (h10, .inr (10, [.int 2, .int 7, .ref h14, .int 7])), (h14, .inl (g.2.1 0, 14, .inl f0))]) [0, 1, 2] (by decide) rfl
  subst hAe
  exact W.iret (v := (f0 9)) hx hb hr (fun t ht hW => ⟨⟨(f0 9), (), rfl, rfl, by rw [ht]; exact hP9, hD9⟩, hS.F ht⟩) hS.2.2 dX11_group_37
def w9_L_group_8 : List Cond := [.codeWith yL_group cL_group 5 (some .int) [(0, 10, 13, 21)], .methodLink RL 47 yX11_group, .instanceMethod yX11_group, .selects RX11 yX11_group yX11_group, .initialized RX11, .code yX11_group cX11_group 3 (some .int), .fieldLink RX11 78 "Regexloom" "bounds" "LRegexloom$Table;", .methodLink RX11 225 yX9_get, .instanceMethod yX9_get, .selects RX9 yX9_get yX9_get, .initialized RX9, .code yX9_get cX9_get 3 (some .int), .fieldLink RX9 28 "Regexloom$Table" "size" "I", .fieldLink RX9 9 "Regexloom$Table" "width" "I", .fieldLink RX9 24 "Regexloom$Table" "cells" "[I"] ++ (u_ws RX11 TX11 17 ++ u_ws RX9 TX9 4)
set_option maxRecDepth 20000 in
theorem in9_L_group_8_RX11 : ∀ w ∈ u_ws RX11 TX11 17, w ∈ w9_L_group_8 := by decide +kernel
set_option maxRecDepth 20000 in
theorem in9_L_group_8_RX9 : ∀ w ∈ u_ws RX9 TX9 4, w ∈ w9_L_group_8 := by decide +kernel
set_option maxRecDepth 20000 in
theorem g9_L_group_8_0 : GoodIn w9_L_group_8 (wsV RL 47 RX11 yX11_group w9_X11_group_7) := goodIn_r _ [1, 2, 3, 4, 5, 6, 7, 8, 9, 10, 11, 12, 13, 14, 15, 16, 17, 18, 19, 20, 21, 22, 23, 24, 25, 26, 27, 28, 29, 30, 31, 32, 33, 34, 35] (by decide +kernel) (by decide +kernel)
set_option maxHeartbeats 4000000 in
set_option maxRecDepth 100000 in
theorem c9_L_group_8 (l : Launch) (g : G9) (h0 h1 h2 h3 h4 h5 h6 h7 h8 h9 h10 h11 h12 h13 h14 h15 sz : Nat) : Met l yL_group w9_L_group_8 ({ frames := 2, cells := 0, slots := 0, locals := 44 }) (mP g [(h0, .inr (12, [.ref h2, .int 0, .ref h3, .ref h4, .ref h5, .ref h6, .ref h7, .ref h8, .int (-1), .ref h9, .ref h10, .int 250, .ref h11, .int 0, .ref h12, .ref h13, .ref h14])), (h11, .inr (10, [.int 2, .int 7, .ref h15, .int 7])), (h15, .inl (g.2.1 0, 14, .inl (upd (upd (upd (upd (upd (upd (upd (upd (upd (upd (upd (upd (upd (upd (fun _ => 0) 0 (-1)) 1 (-1)) 2 (-1)) 3 (-1)) 4 (-1)) 5 (-1)) 6 (-1)) 7 (-1)) 8 (-1)) 9 (-1)) 10 (-1)) 11 (-1)) 12 (-1)) 13 (-1)))), (h1, .inl (g.2.1 2, 1, .inr (.inl (fun _ => 0))))] sz [.ref h0, .int 4, .int 1, .ref h1]) (va_Qi (fun (r : Int32) (_ : Unit) => r = 0) (fun (_ : Unit) (t : State) => mB g [(h0, .inr (12, [.ref h2, .int 0, .ref h3, .ref h4, .ref h5, .ref h6, .ref h7, .ref h8, .int (-1), .ref h9, .ref h10, .int 250, .ref h11, .int 0, .ref h12, .ref h13, .ref h14])), (h11, .inr (10, [.int 2, .int 7, .ref h15, .int 7])), (h15, .inl (g.2.1 0, 14, .inl (upd (upd (upd (upd (upd (upd (upd (upd (upd (upd (upd (upd (upd (upd (fun _ => 0) 0 (-1)) 1 (-1)) 2 (-1)) 3 (-1)) 4 (-1)) 5 (-1)) 6 (-1)) 7 (-1)) 8 (-1)) 9 (-1)) 10 (-1)) 11 (-1)) 12 (-1)) 13 (-1)))), (h1, .inl (g.2.1 2, 1, .inr (.inl (fun _ => 0))))] sz [(h0, .inr (12, [.ref h2, .int 0, .ref h3, .ref h4, .ref h5, .ref h6, .ref h7, .ref h8, .int (-1), .ref h9, .ref h10, .int 250, .ref h11, .int 0, .ref h12, .ref h13, .ref h14])), (h11, .inr (10, [.int 2, .int 7, .ref h15, .int 7])), (h15, .inl (g.2.1 0, 14, .inl (upd (upd (upd (upd (upd (upd (upd (upd (upd (upd (upd (upd (upd (upd (fun _ => 0) 0 (-1)) 1 (-1)) 2 (-1)) 3 (-1)) 4 (-1)) 5 (-1)) 6 (-1)) 7 (-1)) 8 (-1)) 9 (-1)) 10 (-1)) 11 (-1)) 12 (-1)) 13 (-1)))), (h1, .inl (g.2.1 2, 1, .inr (.inl (vp_updL (fun _ => 0) 0 (-1)))))] t) (va_A [(h0, .inr (12, [.ref h2, .int 0, .ref h3, .ref h4, .ref h5, .ref h6, .ref h7, .ref h8, .int (-1), .ref h9, .ref h10, .int 250, .ref h11, .int 0, .ref h12, .ref h13, .ref h14])), (h11, .inr (10, [.int 2, .int 7, .ref h15, .int 7])), (h15, .inl (g.2.1 0, 14, .inl (upd (upd (upd (upd (upd (upd (upd (upd (upd (upd (upd (upd (upd (upd (fun _ => 0) 0 (-1)) 1 (-1)) 2 (-1)) 3 (-1)) 4 (-1)) 5 (-1)) 6 (-1)) 7 (-1)) 8 (-1)) 9 (-1)) 10 (-1)) 11 (-1)) 12 (-1)) 13 (-1)))), (h1, .inl (g.2.1 2, 1, .inr (.inl (fun _ => 0))))] sz)) 0 0 (va_A [(h0, .inr (12, [.ref h2, .int 0, .ref h3, .ref h4, .ref h5, .ref h6, .ref h7, .ref h8, .int (-1), .ref h9, .ref h10, .int 250, .ref h11, .int 0, .ref h12, .ref h13, .ref h14])), (h11, .inr (10, [.int 2, .int 7, .ref h15, .int 7])), (h15, .inl (g.2.1 0, 14, .inl (upd (upd (upd (upd (upd (upd (upd (upd (upd (upd (upd (upd (upd (upd (fun _ => 0) 0 (-1)) 1 (-1)) 2 (-1)) 3 (-1)) 4 (-1)) 5 (-1)) 6 (-1)) 7 (-1)) 8 (-1)) 9 (-1)) 10 (-1)) 11 (-1)) 12 (-1)) 13 (-1)))), (h1, .inl (g.2.1 2, 1, .inr (.inl (fun _ => 0))))] sz) := by
  refine va_MetW (cc := cL_group) (maxL := 5) (ret := (some .int)) (by decide) rfl ?_
  intro p e s m args below meth c s₁ B hml hv
  obtain ⟨rfl, hsz, hP, hD0, hE⟩ := hv
  have hx := B.exec
  have hb := B.bytes
  have hr := B.returns
  have hts := atoms_spec (ws := w9_L_group_8) B.pre
  have hown : s.vm.findClass RL = some m.cls := findClass_of_methodNamed B.named
  have hlocks := B.notSynchronized
  have htab := vx_table (x := yL_group) B (hts (.codeWith yL_group cL_group 5 (some .int) [(0, 10, 13, 21)]) (List.mem_of_getElem? (i := 0) rfl))
  subst hsz
  have hD := hD0.self (sz := s.heap.size)
  generalize hAe : va_A [(h0, .inr (12, [.ref h2, .int 0, .ref h3, .ref h4, .ref h5, .ref h6, .ref h7, .ref h8, .int (-1), .ref h9, .ref h10, .int 250, .ref h11, .int 0, .ref h12, .ref h13, .ref h14])), (h11, .inr (10, [.int 2, .int 7, .ref h15, .int 7])), (h15, .inl (g.2.1 0, 14, .inl (upd (upd (upd (upd (upd (upd (upd (upd (upd (upd (upd (upd (upd (upd (fun _ => 0) 0 (-1)) 1 (-1)) 2 (-1)) 3 (-1)) 4 (-1)) 5 (-1)) 6 (-1)) 7 (-1)) 8 (-1)) 9 (-1)) 10 (-1)) 11 (-1)) 12 (-1)) 13 (-1)))), (h1, .inl (g.2.1 2, 1, .inr (.inl (fun _ => 0))))] s.heap.size = A at hD hE ⊢
  have hA : ∀ q : Nat, s.heap.size ≤ q → A q := fun q h => by rw [← hAe]; exact Or.inr h
  have hK := hE.1
  have hS : va_S A s.heap s.heap [] := va_S.rf
  replace hP : va_P g.1 vwCl [(h0, .inr (12, [.ref h2, .int 0, .ref h3, .ref h4, .ref h5, .ref h6, .ref h7, .ref h8, .int (-1), .ref h9, .ref h10, .int 250, .ref h11, .int 0, .ref h12, .ref h13, .ref h14])), (h11, .inr (10, [.int 2, .int 7, .ref h15, .int 7])), (h15, .inl (g.2.1 0, 14, .inl (upd (upd (upd (upd (upd (upd (upd (upd (upd (upd (upd (upd (upd (upd (fun _ => 0) 0 (-1)) 1 (-1)) 2 (-1)) 3 (-1)) 4 (-1)) 5 (-1)) 6 (-1)) 7 (-1)) 8 (-1)) 9 (-1)) 10 (-1)) 11 (-1)) 12 (-1)) 13 (-1)))), (h1, .inl (g.2.1 2, 1, .inr (.inl (fun _ => 0))))] s.heap := hP
  have hl := lv_entry ([.ref h0, .int 4, .int 1, .ref h1]) (n := 5) (Nat.le_of_ble_eq_true rfl)
  rw [lg_entry_eq]
  generalize (lg_sl ([.ref h0, .int 4, .int 1, .ref h1]) ++ List.replicate (5 - (lg_sl ([.ref h0, .int 4, .int 1, .ref h1])).length) Slot.unset).toArray = ls at hl ⊢
  replace hl : lv_has ls 5 [(0, .ref h0), (1, .int 4), (2, .int 1), (3, .ref h1)] := hl
  have hH0 : s.heap.size ≤ s.heap.size := Nat.le_refl _
  refine lv_aload_n hx hb dL_group_0 rfl (lv_at hl 3 rfl) ?_
  refine lv_iconst (v := 0) hx hb dL_group_1 (by decide) ?_
  refine lv_aload_n hx hb dL_group_2 rfl (lv_at hl 0 rfl) ?_
  refine lv_iload_n hx hb dL_group_3 rfl (lv_at hl 1 rfl) ?_
  refine lv_iload_n hx hb dL_group_4 rfl (lv_at hl 2 rfl) ?_
  have hPc := hP.sub (ws' := [(h0, .inr (12, [.ref h2, .int 0, .ref h3, .ref h4, .ref h5, .ref h6, .ref h7, .ref h8, .int (-1), .ref h9, .ref h10, .int 250, .ref h11, .int 0, .ref h12, .ref h13, .ref h14])), (h11, .inr (10, [.int 2, .int 7, .ref h15, .int 7])), (h15, .inl (g.2.1 0, 14, .inl (upd (upd (upd (upd (upd (upd (upd (upd (upd (upd (upd (upd (upd (upd (fun _ => 0) 0 (-1)) 1 (-1)) 2 (-1)) 3 (-1)) 4 (-1)) 5 (-1)) 6 (-1)) 7 (-1)) 8 (-1)) 9 (-1)) 10 (-1)) 11 (-1)) 12 (-1)) 13 (-1))))]) [0, 1, 2] rfl
  have hDc := hD.sub (ws' := [(h0, .inr (12, [.ref h2, .int 0, .ref h3, .ref h4, .ref h5, .ref h6, .ref h7, .ref h8, .int (-1), .ref h9, .ref h10, .int 250, .ref h11, .int 0, .ref h12, .ref h13, .ref h14])), (h11, .inr (10, [.int 2, .int 7, .ref h15, .int 7])), (h15, .inl (g.2.1 0, 14, .inl (upd (upd (upd (upd (upd (upd (upd (upd (upd (upd (upd (upd (upd (upd (fun _ => 0) 0 (-1)) 1 (-1)) 2 (-1)) 3 (-1)) 4 (-1)) 5 (-1)) 6 (-1)) 7 (-1)) 8 (-1)) 9 (-1)) 10 (-1)) 11 (-1)) 12 (-1)) 13 (-1))))]) [0, 1, 2] (by decide) rfl
  have hFc := va_free (wc := [(h0, .inr (12, [.ref h2, .int 0, .ref h3, .ref h4, .ref h5, .ref h6, .ref h7, .ref h8, .int (-1), .ref h9, .ref h10, .int 250, .ref h11, .int 0, .ref h12, .ref h13, .ref h14])), (h11, .inr (10, [.int 2, .int 7, .ref h15, .int 7])), (h15, .inl (g.2.1 0, 14, .inl (upd (upd (upd (upd (upd (upd (upd (upd (upd (upd (upd (upd (upd (upd (fun _ => 0) 0 (-1)) 1 (-1)) 2 (-1)) 3 (-1)) 4 (-1)) 5 (-1)) 6 (-1)) 7 (-1)) 8 (-1)) 9 (-1)) 10 (-1)) 11 (-1)) 12 (-1)) 13 (-1))))]) hD hS hA [0, 1, 2] rfl
  refine va_calli (va_runV (As := [.int 4, .int 1]) (rest := [.int 0, .ref h1]) ⟨hx, hb, hml, hown, hts⟩ (c9_X11_group_7 l g h0 h2 h3 h4 h5 h6 h7 h8 h9 h10 h11 h12 h13 h14 h15 _ (upd (upd (upd (upd (upd (upd (upd (upd (upd (upd (upd (upd (upd (upd (fun _ => 0) 0 (-1)) 1 (-1)) 2 (-1)) 3 (-1)) 4 (-1)) 5 (-1)) 6 (-1)) 7 (-1)) 8 (-1)) 9 (-1)) 10 (-1)) 11 (-1)) 12 (-1)) 13 (-1))) (cwV 2 hts g9_L_group_8_0 rfl rfl rfl (by decide +kernel) ⟨Nat.le_of_ble_eq_true rfl, Nat.le_of_ble_eq_true rfl⟩) (mPreV (g := g) (wc := [(h0, .inr (12, [.ref h2, .int 0, .ref h3, .ref h4, .ref h5, .ref h6, .ref h7, .ref h8, .int (-1), .ref h9, .ref h10, .int 250, .ref h11, .int 0, .ref h12, .ref h13, .ref h14])), (h11, .inr (10, [.int 2, .int 7, .ref h15, .int 7])), (h15, .inl (g.2.1 0, 14, .inl (upd (upd (upd (upd (upd (upd (upd (upd (upd (upd (upd (upd (upd (upd (fun _ => 0) 0 (-1)) 1 (-1)) 2 (-1)) 3 (-1)) 4 (-1)) 5 (-1)) 6 (-1)) 7 (-1)) 8 (-1)) 9 (-1)) 10 (-1)) 11 (-1)) 12 (-1)) 13 (-1))))]) (C := RX11) (ci := 12) (q0 := 0) hE hS hPc hDc hFc rfl rfl) rfl rfl hl.1 rfl (lv_room (Nat.le_of_ble_eq_true rfl)) dL_group_5 ⟨Nat.le_of_ble_eq_true rfl, Nat.le_of_ble_eq_true rfl⟩) hS (fun q _ h => hFc q h) hFc (fun r_1 u t H1 locs ht hvm hw hB hz1 hk1 hS => ?_)
  replace hw : ((upd (upd (upd (upd (upd (upd (upd (upd (upd (upd (upd (upd (upd (upd (fun _ => 0) 0 (-1)) 1 (-1)) 2 (-1)) 3 (-1)) 4 (-1)) 5 (-1)) 6 (-1)) 7 (-1)) 8 (-1)) 9 (-1)) 10 (-1)) 11 (-1)) 12 (-1)) 13 (-1)) 9) = r_1 := Eq.symm hw
  subst hw
  obtain ⟨hP1, hD1⟩ := hB
  rw [ht] at hP1
  obtain ⟨hP, hD⟩ := va_join (wr := [(h1, .inl (g.2.1 2, 1, .inr (.inl (fun _ => 0))))]) (w1 := [(h0, .inr (12, [.ref h2, .int 0, .ref h3, .ref h4, .ref h5, .ref h6, .ref h7, .ref h8, .int (-1), .ref h9, .ref h10, .int 250, .ref h11, .int 0, .ref h12, .ref h13, .ref h14])), (h11, .inr (10, [.int 2, .int 7, .ref h15, .int 7])), (h15, .inl (g.2.1 0, 14, .inl (upd (upd (upd (upd (upd (upd (upd (upd (upd (upd (upd (upd (upd (upd (fun _ => 0) 0 (-1)) 1 (-1)) 2 (-1)) 3 (-1)) 4 (-1)) 5 (-1)) 6 (-1)) 7 (-1)) 8 (-1)) 9 (-1)) 10 (-1)) 11 (-1)) 12 (-1)) 13 (-1))))]) hP hD [0, 1, 2] [3] rfl rfl (by decide) (by decide) hk1 hFc hP1 hD1
  clear hP1 hD1 hPc hDc hFc hk1 hz1 hvm ht
  generalize H1 = H at hP hS ⊢
  have hP : va_P g.1 vwCl [(h1, .inl (g.2.1 2, 1, .inr (.inl (fun _ => 0)))), (h0, .inr (12, [.ref h2, .int 0, .ref h3, .ref h4, .ref h5, .ref h6, .ref h7, .ref h8, .int (-1), .ref h9, .ref h10, .int 250, .ref h11, .int 0, .ref h12, .ref h13, .ref h14])), (h11, .inr (10, [.int 2, .int 7, .ref h15, .int 7])), (h15, .inl (g.2.1 0, 14, .inl (upd (upd (upd (upd (upd (upd (upd (upd (upd (upd (upd (upd (upd (upd (fun _ => 0) 0 (-1)) 1 (-1)) 2 (-1)) 3 (-1)) 4 (-1)) 5 (-1)) 6 (-1)) 7 (-1)) 8 (-1)) 9 (-1)) 10 (-1)) 11 (-1)) 12 (-1)) 13 (-1))))] H := hP
  have hD : va_D A [(h1, .inl (g.2.1 2, 1, .inr (.inl (fun _ => 0)))), (h0, .inr (12, [.ref h2, .int 0, .ref h3, .ref h4, .ref h5, .ref h6, .ref h7, .ref h8, .int (-1), .ref h9, .ref h10, .int 250, .ref h11, .int 0, .ref h12, .ref h13, .ref h14])), (h11, .inr (10, [.int 2, .int 7, .ref h15, .int 7])), (h15, .inl (g.2.1 0, 14, .inl (upd (upd (upd (upd (upd (upd (upd (upd (upd (upd (upd (upd (upd (upd (fun _ => 0) 0 (-1)) 1 (-1)) 2 (-1)) 3 (-1)) 4 (-1)) 5 (-1)) 6 (-1)) 7 (-1)) 8 (-1)) 9 (-1)) 10 (-1)) 11 (-1)) 12 (-1)) 13 (-1))))] := hD
  refine e_top (y := (-1)) (by rfl) ?_
  refine lv_i2l (v := (-1)) hx hb dL_group_8 (by decide) ?_
  refine va_last hx hb hK hP hD hS 0 2 rfl rfl (vp_in_nI (n := 0) (by decide) (by decide)) dL_group_9 (fun H locs hP hD hS => ?_)
  have hP : va_P g.1 vwCl [(h1, .inl (g.2.1 2, 1, .inr (.inl (vp_updL (fun _ => 0) 0 (-1))))), (h0, .inr (12, [.ref h2, .int 0, .ref h3, .ref h4, .ref h5, .ref h6, .ref h7, .ref h8, .int (-1), .ref h9, .ref h10, .int 250, .ref h11, .int 0, .ref h12, .ref h13, .ref h14])), (h11, .inr (10, [.int 2, .int 7, .ref h15, .int 7])), (h15, .inl (g.2.1 0, 14, .inl (upd (upd (upd (upd (upd (upd (upd (upd (upd (upd (upd (upd (upd (upd (fun _ => 0) 0 (-1)) 1 (-1)) 2 (-1)) 3 (-1)) 4 (-1)) 5 (-1)) 6 (-1)) 7 (-1)) 8 (-1)) 9 (-1)) 10 (-1)) 11 (-1)) 12 (-1)) 13 (-1))))] H := hP
  have hD : va_D A [(h1, .inl (g.2.1 2, 1, .inr (.inl (vp_updL (fun _ => 0) 0 (-1))))), (h0, .inr (12, [.ref h2, .int 0, .ref h3, .ref h4, .ref h5, .ref h6, .ref h7, .ref h8, .int (-1), .ref h9, .ref h10, .int 250, .ref h11, .int 0, .ref h12, .ref h13, .ref h14])), (h11, .inr (10, [.int 2, .int 7, .ref h15, .int 7])), (h15, .inl (g.2.1 0, 14, .inl (upd (upd (upd (upd (upd (upd (upd (upd (upd (upd (upd (upd (upd (upd (fun _ => 0) 0 (-1)) 1 (-1)) 2 (-1)) 3 (-1)) 4 (-1)) 5 (-1)) 6 (-1)) 7 (-1)) 8 (-1)) 9 (-1)) 10 (-1)) 11 (-1)) 12 (-1)) 13 (-1))))] := hD
  refine lv_goto (tgt := 17) hx hb dL_group_10 (by decide) ?_
  refine lv_iconst (v := 0) hx hb dL_group_17 (by decide) ?_
  have hP9 := hP.sub (ws' := [(h0, .inr (12, [.ref h2, .int 0, .ref h3, .ref h4, .ref h5, .ref h6, .ref h7, .ref h8, .int (-1), .ref h9, .ref h10, .int 250, .ref h11, .int 0, .ref h12, .ref h13, .ref h14])), (h11, .inr (10, [.int 2, .int 7, .ref h15, .int 7])), (h15, .inl (g.2.1 0, 14, .inl (upd (upd (upd (upd (upd (upd (upd (upd (upd (upd (upd (upd (upd (upd (fun _ => 0) 0 (-1)) 1 (-1)) 2 (-1)) 3 (-1)) 4 (-1)) 5 (-1)) 6 (-1)) 7 (-1)) 8 (-1)) 9 (-1)) 10 (-1)) 11 (-1)) 12 (-1)) 13 (-1)))), (h1, .inl (g.2.1 2, 1, .inr (.inl (vp_updL (fun _ => 0) 0 (-1)))))]) [1, 2, 3, 0] rfl
  have hD9 := hD.sub (ws' := [(h0, .inr (12, [.ref h2, .int 0, .ref h3, .ref h4, .ref h5, .ref h6, .ref h7, .ref h8, .int (-1), .ref h9, .ref h10, .int 250, .ref h11, .int 0, .ref h12, .ref h13, .ref h14])), (h11, .inr (10, [.int 2, .int 7, .ref h15, .int 7])), (h15, .inl (g.2.1 0, 14, .inl (upd (upd (upd (upd (upd (upd (upd (upd (upd (upd (upd (upd (upd (upd (fun _ => 0) 0 (-1)) 1 (-1)) 2 (-1)) 3 (-1)) 4 (-1)) 5 (-1)) 6 (-1)) 7 (-1)) 8 (-1)) 9 (-1)) 10 (-1)) 11 (-1)) 12 (-1)) 13 (-1)))), (h1, .inl (g.2.1 2, 1, .inr (.inl (vp_updL (fun _ => 0) 0 (-1)))))]) [1, 2, 3, 0] (by decide) rfl
  subst hAe
  exact W.iret (v := 0) hx hb hr (fun t ht hW => ⟨⟨0, (), rfl, rfl, by rw [ht]; exact hP9, hD9⟩, hS.F ht⟩) hS.2.2 dL_group_18
def w9_X21_in_20 : List Cond := [.code yX21_in cX21_in 3 (some .boolean)]
set_option maxHeartbeats 4000000 in
set_option maxRecDepth 100000 in
theorem c9_X21_in_20 (l : Launch) (g : G9) (sz : Nat) : Met l yX21_in w9_X21_in_20 ({ frames := 0, cells := 0, slots := 0, locals := 0 }) (mP g [] sz [.int 4, .int 0, .int 6]) (va_Qi (fun (r : Int32) (_ : Unit) => r = 1) (fun (_ : Unit) (t : State) => mB g [] sz [] t) (va_A [] sz)) 0 0 (va_A [] sz) := by
  refine Met.ofW (cc := cX21_in) (maxL := 3) (ret := (some .boolean)) (by decide) rfl ?_
  intro p e s m args below meth c s₁ B hml hv
  obtain ⟨rfl, hsz, hP, hD0, hE⟩ := hv
  have hx := B.exec
  have hb := B.bytes
  have hr := B.returns
  have hts := atoms_spec (ws := w9_X21_in_20) B.pre
  have hown : s.vm.findClass RX21 = some m.cls := findClass_of_methodNamed B.named
  have hlocks := B.notSynchronized
  subst hsz
  have hD := hD0.self (sz := s.heap.size)
  generalize hAe : va_A [] s.heap.size = A at hD hE ⊢
  have hA : ∀ q : Nat, s.heap.size ≤ q → A q := fun q h => by rw [← hAe]; exact Or.inr h
  have hK := hE.1
  have hS : va_S A s.heap s.heap [] := va_S.rf
  replace hP : va_P g.1 vwCl [] s.heap := hP
  have hl := lv_entry ([.int 4, .int 0, .int 6]) (n := 3) (Nat.le_of_ble_eq_true rfl)
  rw [lg_entry_eq]
  generalize (lg_sl ([.int 4, .int 0, .int 6]) ++ List.replicate (3 - (lg_sl ([.int 4, .int 0, .int 6])).length) Slot.unset).toArray = ls at hl ⊢
  replace hl : lv_has ls 3 [(0, .int 4), (1, .int 0), (2, .int 6)] := hl
  have hH0 : s.heap.size ≤ s.heap.size := Nat.le_refl _
  refine lv_iload_n hx hb dX21_in_0 rfl (lv_at hl 0 rfl) ?_
  refine lv_iload_n hx hb dX21_in_1 rfl (lv_at hl 1 rfl) ?_
  refine lv_icmp_lt (tgt := 14) hx hb dX21_in_2 (by decide) (fun c9 => absurd c9 (by decide)) (fun _ => ?_)
  refine lv_iload_n hx hb dX21_in_5 rfl (lv_at hl 0 rfl) ?_
  refine lv_iload_n hx hb dX21_in_6 rfl (lv_at hl 2 rfl) ?_
  refine lv_icmp_gt (tgt := 14) hx hb dX21_in_7 (by decide) (fun c9 => absurd c9 (by decide)) (fun _ => ?_)
  refine lv_iconst (v := 1) hx hb dX21_in_10 (by decide) ?_
  refine lv_goto (tgt := 15) hx hb dX21_in_11 (by decide) ?_
  have hP9 := hP.sub (ws' := []) [] rfl
  have hD9 := hD.sub (ws' := []) [] (by decide) rfl
  subst hAe
  exact W.zret (v := 1) hx hb hr (by decide) (fun t ht hW => ⟨⟨1, (), rfl, rfl, by rw [ht]; exact hP9, hD9⟩, hS.F ht⟩) hS.2.2 dX21_in_15
def w9_X21_group_7 : List Cond := [.code yX21_group cX21_group 3 (some .int), .methodLink RX21 160 yX21_in, .static yX21_in, .initialized RX21, .code yX21_in cX21_in 3 (some .boolean), .methodLink RX21 154 yX21_refused, .instanceMethod yX21_refused, .selects RX21 yX21_refused yX21_refused, .code yX21_refused cX21_refused 2 (some .boolean), .fieldLink RX21 144 "RegexloomModel" "refusal" "I", .fieldLink RX21 107 "RegexloomModel" "told" "[I"] ++ (u_ws RX21 TX21 32)
set_option maxRecDepth 20000 in
theorem in9_X21_group_7_RX21 : ∀ w ∈ u_ws RX21 TX21 32, w ∈ w9_X21_group_7 := by decide +kernel
set_option maxRecDepth 20000 in
theorem g9_X21_group_7_0 : GoodIn w9_X21_group_7 (va_wsS RX21 160 yX21_in w9_X21_in_20) := goodIn_r _ [1, 2, 3, 4] (by decide +kernel) (by decide +kernel)
set_option maxRecDepth 20000 in
theorem g9_X21_group_7_1 : GoodIn w9_X21_group_7 (wsV RX21 154 RX21 yX21_refused w9_X21_refused_1) := goodIn_r _ [5, 6, 7, 3, 8, 9, 11, 12, 13, 14, 15, 16, 17, 18, 19, 20, 21, 22, 23, 24, 25, 26, 27, 28, 29, 30, 31, 32, 33, 34, 35, 36, 37, 38, 39, 40, 41, 42] (by decide +kernel) (by decide +kernel)
set_option maxHeartbeats 4000000 in
set_option maxRecDepth 100000 in
theorem c9_X21_group_7 (l : Launch) (g : G9) (h0 h1 h2 h3 h4 h5 h6 h7 h8 h9 h10 h11 h12 h13 h14 h15 h16 sz : Nat) (f0 : Nat → Int32) : Met l yX21_group w9_X21_group_7 ({ frames := 1, cells := 0, slots := 0, locals := 22 }) (mP g [(h0, .inr (22, [.int 0, .ref h1, .int 0, .ref h2, .int 0, .ref h3, .int 250, .ref h4, .int 0, .ref h5, .ref h6, .ref h7, .int 0, .ref h8, .ref h9, .ref h10, .int 0, .null, .int 0, .null, .int 0, .int 0, .int 0, .ref h11, .int 0, .ref h12, .ref h13, .ref h14, .int 0, .ref h15, .ref h16, .int 0])), (h7, .inl (g.2.1 0, 14, .inl f0))] sz [.ref h0, .int 4, .int 1]) (va_Qi (fun (r : Int32) (_ : Unit) => r = (f0 9)) (fun (_ : Unit) (t : State) => mB g [(h0, .inr (22, [.int 0, .ref h1, .int 0, .ref h2, .int 0, .ref h3, .int 250, .ref h4, .int 0, .ref h5, .ref h6, .ref h7, .int 0, .ref h8, .ref h9, .ref h10, .int 0, .null, .int 0, .null, .int 0, .int 0, .int 0, .ref h11, .int 0, .ref h12, .ref h13, .ref h14, .int 0, .ref h15, .ref h16, .int 0])), (h7, .inl (g.2.1 0, 14, .inl f0))] sz [(h0, .inr (22, [.int 0, .ref h1, .int 0, .ref h2, .int 0, .ref h3, .int 250, .ref h4, .int 0, .ref h5, .ref h6, .ref h7, .int 0, .ref h8, .ref h9, .ref h10, .int 0, .null, .int 0, .null, .int 0, .int 0, .int 0, .ref h11, .int 0, .ref h12, .ref h13, .ref h14, .int 0, .ref h15, .ref h16, .int 0])), (h7, .inl (g.2.1 0, 14, .inl f0))] t) (va_A [(h0, .inr (22, [.int 0, .ref h1, .int 0, .ref h2, .int 0, .ref h3, .int 250, .ref h4, .int 0, .ref h5, .ref h6, .ref h7, .int 0, .ref h8, .ref h9, .ref h10, .int 0, .null, .int 0, .null, .int 0, .int 0, .int 0, .ref h11, .int 0, .ref h12, .ref h13, .ref h14, .int 0, .ref h15, .ref h16, .int 0])), (h7, .inl (g.2.1 0, 14, .inl f0))] sz)) 0 0 (va_A [(h0, .inr (22, [.int 0, .ref h1, .int 0, .ref h2, .int 0, .ref h3, .int 250, .ref h4, .int 0, .ref h5, .ref h6, .ref h7, .int 0, .ref h8, .ref h9, .ref h10, .int 0, .null, .int 0, .null, .int 0, .int 0, .int 0, .ref h11, .int 0, .ref h12, .ref h13, .ref h14, .int 0, .ref h15, .ref h16, .int 0])), (h7, .inl (g.2.1 0, 14, .inl f0))] sz) := by
  refine Met.ofW (cc := cX21_group) (maxL := 3) (ret := (some .int)) (by decide) rfl ?_
  intro p e s m args below meth c s₁ B hml hv
  obtain ⟨rfl, hsz, hP, hD0, hE⟩ := hv
  have hx := B.exec
  have hb := B.bytes
  have hr := B.returns
  have hts := atoms_spec (ws := w9_X21_group_7) B.pre
  have hown : s.vm.findClass RX21 = some m.cls := findClass_of_methodNamed B.named
  have hlocks := B.notSynchronized
  subst hsz
  have hD := hD0.self (sz := s.heap.size)
  generalize hAe : va_A [(h0, .inr (22, [.int 0, .ref h1, .int 0, .ref h2, .int 0, .ref h3, .int 250, .ref h4, .int 0, .ref h5, .ref h6, .ref h7, .int 0, .ref h8, .ref h9, .ref h10, .int 0, .null, .int 0, .null, .int 0, .int 0, .int 0, .ref h11, .int 0, .ref h12, .ref h13, .ref h14, .int 0, .ref h15, .ref h16, .int 0])), (h7, .inl (g.2.1 0, 14, .inl f0))] s.heap.size = A at hD hE ⊢
  have hA : ∀ q : Nat, s.heap.size ≤ q → A q := fun q h => by rw [← hAe]; exact Or.inr h
  have hK := hE.1
  have hS : va_S A s.heap s.heap [] := va_S.rf
  replace hP : va_P g.1 vwCl [(h0, .inr (22, [.int 0, .ref h1, .int 0, .ref h2, .int 0, .ref h3, .int 250, .ref h4, .int 0, .ref h5, .ref h6, .ref h7, .int 0, .ref h8, .ref h9, .ref h10, .int 0, .null, .int 0, .null, .int 0, .int 0, .int 0, .ref h11, .int 0, .ref h12, .ref h13, .ref h14, .int 0, .ref h15, .ref h16, .int 0])), (h7, .inl (g.2.1 0, 14, .inl f0))] s.heap := hP
  have hl := lv_entry ([.ref h0, .int 4, .int 1]) (n := 3) (Nat.le_of_ble_eq_true rfl)
  rw [lg_entry_eq]
  generalize (lg_sl ([.ref h0, .int 4, .int 1]) ++ List.replicate (3 - (lg_sl ([.ref h0, .int 4, .int 1])).length) Slot.unset).toArray = ls at hl ⊢
  replace hl : lv_has ls 3 [(0, .ref h0), (1, .int 4), (2, .int 1)] := hl
  have hH0 : s.heap.size ≤ s.heap.size := Nat.le_refl _
  refine lv_aload_n hx hb dX21_group_0 rfl (lv_at hl 0 rfl) ?_
  refine lv_iload_n hx hb dX21_group_1 rfl (lv_at hl 1 rfl) ?_
  refine lv_iconst (v := 0) hx hb dX21_group_2 (by decide) ?_
  refine lv_bipush (v := 6) hx hb dX21_group_3 (by decide) ?_
  have hPc := hP.sub (ws' := []) [] rfl
  have hDc := hD.sub (ws' := []) [] (by decide) rfl
  have hFc := va_free (wc := []) hD hS hA [] rfl
  refine va_calli (va_runS (As := [.int 4, .int 0, .int 6]) (rest := [.ref h0]) ⟨hx, hb, hml, hown, hts⟩ (c9_X21_in_20 l g _) (va_cwS 3 hts g9_X21_group_7_0 rfl rfl rfl (by decide +kernel) ⟨Nat.le_of_ble_eq_true rfl, Nat.le_of_ble_eq_true rfl⟩) (mPreS (g := g) (wc := []) hE hS hPc hDc hFc) rfl rfl hl.1 rfl (lv_room (Nat.le_of_ble_eq_true rfl)) dX21_group_5 ⟨Nat.le_of_ble_eq_true rfl, Nat.le_of_ble_eq_true rfl⟩) hS (fun q _ h => hFc q h) hFc (fun r_1 u t H1 locs ht hvm hw hB hz1 hk1 hS => ?_)
  replace hw : 1 = r_1 := Eq.symm hw
  subst hw
  obtain ⟨hP1, hD1⟩ := hB
  rw [ht] at hP1
  obtain ⟨hP, hD⟩ := va_join (wr := [(h0, .inr (22, [.int 0, .ref h1, .int 0, .ref h2, .int 0, .ref h3, .int 250, .ref h4, .int 0, .ref h5, .ref h6, .ref h7, .int 0, .ref h8, .ref h9, .ref h10, .int 0, .null, .int 0, .null, .int 0, .int 0, .int 0, .ref h11, .int 0, .ref h12, .ref h13, .ref h14, .int 0, .ref h15, .ref h16, .int 0])), (h7, .inl (g.2.1 0, 14, .inl f0))]) (w1 := []) hP hD [] [0, 1] rfl rfl (by decide) (by decide) hk1 hFc hP1 hD1
  clear hP1 hD1 hPc hDc hFc hk1 hz1 hvm ht
  generalize H1 = H at hP hS ⊢
  have hP : va_P g.1 vwCl [(h0, .inr (22, [.int 0, .ref h1, .int 0, .ref h2, .int 0, .ref h3, .int 250, .ref h4, .int 0, .ref h5, .ref h6, .ref h7, .int 0, .ref h8, .ref h9, .ref h10, .int 0, .null, .int 0, .null, .int 0, .int 0, .int 0, .ref h11, .int 0, .ref h12, .ref h13, .ref h14, .int 0, .ref h15, .ref h16, .int 0])), (h7, .inl (g.2.1 0, 14, .inl f0))] H := hP
  have hD : va_D A [(h0, .inr (22, [.int 0, .ref h1, .int 0, .ref h2, .int 0, .ref h3, .int 250, .ref h4, .int 0, .ref h5, .ref h6, .ref h7, .int 0, .ref h8, .ref h9, .ref h10, .int 0, .null, .int 0, .null, .int 0, .int 0, .int 0, .ref h11, .int 0, .ref h12, .ref h13, .ref h14, .int 0, .ref h15, .ref h16, .int 0])), (h7, .inl (g.2.1 0, 14, .inl f0))] := hD
  refine lv_if_eq (tgt := 15) hx hb dX21_group_8 (by decide) (fun c9 => absurd c9 (by decide)) (fun _ => ?_)
  refine lv_iconst (v := 0) hx hb dX21_group_11 (by decide) ?_
  refine lv_goto (tgt := 16) hx hb dX21_group_12 (by decide) ?_
  have hPc := hP.sub (ws' := [(h0, .inr (22, [.int 0, .ref h1, .int 0, .ref h2, .int 0, .ref h3, .int 250, .ref h4, .int 0, .ref h5, .ref h6, .ref h7, .int 0, .ref h8, .ref h9, .ref h10, .int 0, .null, .int 0, .null, .int 0, .int 0, .int 0, .ref h11, .int 0, .ref h12, .ref h13, .ref h14, .int 0, .ref h15, .ref h16, .int 0]))]) [0] rfl
  have hDc := hD.sub (ws' := [(h0, .inr (22, [.int 0, .ref h1, .int 0, .ref h2, .int 0, .ref h3, .int 250, .ref h4, .int 0, .ref h5, .ref h6, .ref h7, .int 0, .ref h8, .ref h9, .ref h10, .int 0, .null, .int 0, .null, .int 0, .int 0, .int 0, .ref h11, .int 0, .ref h12, .ref h13, .ref h14, .int 0, .ref h15, .ref h16, .int 0]))]) [0] (by decide) rfl
  have hFc := va_free (wc := [(h0, .inr (22, [.int 0, .ref h1, .int 0, .ref h2, .int 0, .ref h3, .int 250, .ref h4, .int 0, .ref h5, .ref h6, .ref h7, .int 0, .ref h8, .ref h9, .ref h10, .int 0, .null, .int 0, .null, .int 0, .int 0, .int 0, .ref h11, .int 0, .ref h12, .ref h13, .ref h14, .int 0, .ref h15, .ref h16, .int 0]))]) hD hS hA [0] rfl
  refine va_calli (va_runV (As := [.int 0]) (rest := []) ⟨hx, hb, hml, hown, hts⟩ (c9_X21_refused_1 l g h0 h1 h2 h3 h4 h5 h6 h7 h8 h9 h10 h11 h12 h13 h14 h15 h16 _) (cwV 1 hts g9_X21_group_7_1 rfl rfl rfl (by decide +kernel) ⟨Nat.le_of_ble_eq_true rfl, Nat.le_of_ble_eq_true rfl⟩) (mPreV (g := g) (wc := [(h0, .inr (22, [.int 0, .ref h1, .int 0, .ref h2, .int 0, .ref h3, .int 250, .ref h4, .int 0, .ref h5, .ref h6, .ref h7, .int 0, .ref h8, .ref h9, .ref h10, .int 0, .null, .int 0, .null, .int 0, .int 0, .int 0, .ref h11, .int 0, .ref h12, .ref h13, .ref h14, .int 0, .ref h15, .ref h16, .int 0]))]) (C := RX21) (ci := 22) (q0 := 0) hE hS hPc hDc hFc rfl rfl) rfl rfl hl.1 rfl (lv_room (Nat.le_of_ble_eq_true rfl)) dX21_group_16 ⟨Nat.le_of_ble_eq_true rfl, Nat.le_of_ble_eq_true rfl⟩) hS (fun q _ h => hFc q h) hFc (fun r_2 u t H1 locs ht hvm hw hB hz1 hk1 hS => ?_)
  replace hw : 0 = r_2 := Eq.symm hw
  subst hw
  obtain ⟨hP1, hD1⟩ := hB
  rw [ht] at hP1
  obtain ⟨hP, hD⟩ := va_join (wr := [(h7, .inl (g.2.1 0, 14, .inl f0))]) (w1 := [(h0, .inr (22, [.int 0, .ref h1, .int 0, .ref h2, .int 0, .ref h3, .int 250, .ref h4, .int 0, .ref h5, .ref h6, .ref h7, .int 0, .ref h8, .ref h9, .ref h10, .int 0, .null, .int 0, .null, .int 0, .int 0, .int 0, .ref h11, .int 0, .ref h12, .ref h13, .ref h14, .int 0, .ref h15, .ref h16, .int 0]))]) hP hD [0] [1] rfl rfl (by decide) (by decide) hk1 hFc hP1 hD1
  clear hP1 hD1 hPc hDc hFc hk1 hz1 hvm ht
  generalize H1 = H at hP hS ⊢
  have hP : va_P g.1 vwCl [(h7, .inl (g.2.1 0, 14, .inl f0)), (h0, .inr (22, [.int 0, .ref h1, .int 0, .ref h2, .int 0, .ref h3, .int 250, .ref h4, .int 0, .ref h5, .ref h6, .ref h7, .int 0, .ref h8, .ref h9, .ref h10, .int 0, .null, .int 0, .null, .int 0, .int 0, .int 0, .ref h11, .int 0, .ref h12, .ref h13, .ref h14, .int 0, .ref h15, .ref h16, .int 0]))] H := hP
  have hD : va_D A [(h7, .inl (g.2.1 0, 14, .inl f0)), (h0, .inr (22, [.int 0, .ref h1, .int 0, .ref h2, .int 0, .ref h3, .int 250, .ref h4, .int 0, .ref h5, .ref h6, .ref h7, .int 0, .ref h8, .ref h9, .ref h10, .int 0, .null, .int 0, .null, .int 0, .int 0, .int 0, .ref h11, .int 0, .ref h12, .ref h13, .ref h14, .int 0, .ref h15, .ref h16, .int 0]))] := hD
  refine lv_if_eq (tgt := 26) hx hb dX21_group_19 (by decide) (fun _ => ?_) (fun c9 => absurd (by decide) c9)
  refine lv_aload_n hx hb dX21_group_26 rfl (lv_at hl 0 rfl) ?_
  refine va_get (D := g.1) (ci := 22) (v := .ref h7) (C := RX21) (T := TX21) (N := 32) hx hb hts in9_X21_group_7_RX21 hown hK hP 1 rfl rfl 11 (by decide) (hts (.fieldLink RX21 107 "RegexloomModel" "told" "[I") (List.mem_of_getElem? (i := 10) rfl)) (fun _ h9 => h9) rfl dX21_group_27 ?_
  refine lv_iconst (v := 2) hx hb dX21_group_30 (by decide) ?_
  refine lv_iload_n hx hb dX21_group_31 rfl (lv_at hl 1 rfl) ?_
  refine lv_imul hx hb dX21_group_32 ?_
  refine e_top (y := 8) (by decide) ?_
  refine lv_iload_n hx hb dX21_group_33 rfl (lv_at hl 2 rfl) ?_
  refine lv_if_eq (tgt := 41) hx hb dX21_group_34 (by decide) (fun c9 => absurd c9 (by decide)) (fun _ => ?_)
  refine lv_iconst (v := 1) hx hb dX21_group_37 (by decide) ?_
  refine lv_goto (tgt := 42) hx hb dX21_group_38 (by decide) ?_
  refine lv_iadd hx hb dX21_group_42 ?_
  refine e_top (y := 9) (by decide) ?_
  refine va_iald hx hb hK hP 0 0 rfl rfl (vp_in_nI (n := 9) (by decide) (by decide)) dX21_group_43 ?_
  refine e_topv (y := .int (f0 9)) (by rfl) ?_
  have hP9 := hP.sub (ws' := [(h0, .inr (22, [.int 0, .ref h1, .int 0, .ref h2, .int 0, .ref h3, .int 250, .ref h4, .int 0, .ref h5, .ref h6, .ref h7, .int 0, .ref h8, .ref h9, .ref h10, .int 0, .null, .int 0, .null, .int 0, .int 0, .int 0, .ref h11, .int 0, .ref h12, .ref h13, .ref h14, .int 0, .ref h15, .ref h16, .int 0])), (h7, .inl (g.2.1 0, 14, .inl f0))]) [1, 0] rfl
  have hD9 := hD.sub (ws' := [(h0, .inr (22, [.int 0, .ref h1, .int 0, .ref h2, .int 0, .ref h3, .int 250, .ref h4, .int 0, .ref h5, .ref h6, .ref h7, .int 0, .ref h8, .ref h9, .ref h10, .int 0, .null, .int 0, .null, .int 0, .int 0, .int 0, .ref h11, .int 0, .ref h12, .ref h13, .ref h14, .int 0, .ref h15, .ref h16, .int 0])), (h7, .inl (g.2.1 0, 14, .inl f0))]) [1, 0] (by decide) rfl
  subst hAe
  exact W.iret (v := (f0 9)) hx hb hr (fun t ht hW => ⟨⟨(f0 9), (), rfl, rfl, by rw [ht]; exact hP9, hD9⟩, hS.F ht⟩) hS.2.2 dX21_group_44
def w9_X9_get_8 : List Cond := [.code yX9_get cX9_get 3 (some .int), .fieldLink RX9 28 "Regexloom$Table" "size" "I", .fieldLink RX9 9 "Regexloom$Table" "width" "I", .fieldLink RX9 24 "Regexloom$Table" "cells" "[I"] ++ (u_ws RX9 TX9 4)
set_option maxRecDepth 20000 in
theorem in9_X9_get_8_RX9 : ∀ w ∈ u_ws RX9 TX9 4, w ∈ w9_X9_get_8 := by decide +kernel
set_option maxHeartbeats 4000000 in
set_option maxRecDepth 100000 in
theorem c9_X9_get_8 (l : Launch) (g : G9) (h0 h1 sz : Nat) (f0 : Nat → Int32) : Met l yX9_get w9_X9_get_8 ({ frames := 0, cells := 0, slots := 0, locals := 0 }) (mP g [(h0, .inr (10, [.int 2, .int 7, .ref h1, .int 7])), (h1, .inl (g.2.1 0, 14, .inl f0))] sz [.ref h0, .int 5, .int 1]) (va_Qi (fun (r : Int32) (_ : Unit) => r = (f0 11)) (fun (_ : Unit) (t : State) => mB g [(h0, .inr (10, [.int 2, .int 7, .ref h1, .int 7])), (h1, .inl (g.2.1 0, 14, .inl f0))] sz [(h0, .inr (10, [.int 2, .int 7, .ref h1, .int 7])), (h1, .inl (g.2.1 0, 14, .inl f0))] t) (va_A [(h0, .inr (10, [.int 2, .int 7, .ref h1, .int 7])), (h1, .inl (g.2.1 0, 14, .inl f0))] sz)) 0 0 (va_A [(h0, .inr (10, [.int 2, .int 7, .ref h1, .int 7])), (h1, .inl (g.2.1 0, 14, .inl f0))] sz) := by
  refine Met.ofW (cc := cX9_get) (maxL := 3) (ret := (some .int)) (by decide) rfl ?_
  intro p e s m args below meth c s₁ B hml hv
  obtain ⟨rfl, hsz, hP, hD0, hE⟩ := hv
  have hx := B.exec
  have hb := B.bytes
  have hr := B.returns
  have hts := atoms_spec (ws := w9_X9_get_8) B.pre
  have hown : s.vm.findClass RX9 = some m.cls := findClass_of_methodNamed B.named
  have hlocks := B.notSynchronized
  subst hsz
  have hD := hD0.self (sz := s.heap.size)
  generalize hAe : va_A [(h0, .inr (10, [.int 2, .int 7, .ref h1, .int 7])), (h1, .inl (g.2.1 0, 14, .inl f0))] s.heap.size = A at hD hE ⊢
  have hA : ∀ q : Nat, s.heap.size ≤ q → A q := fun q h => by rw [← hAe]; exact Or.inr h
  have hK := hE.1
  have hS : va_S A s.heap s.heap [] := va_S.rf
  replace hP : va_P g.1 vwCl [(h0, .inr (10, [.int 2, .int 7, .ref h1, .int 7])), (h1, .inl (g.2.1 0, 14, .inl f0))] s.heap := hP
  have hl := lv_entry ([.ref h0, .int 5, .int 1]) (n := 3) (Nat.le_of_ble_eq_true rfl)
  rw [lg_entry_eq]
  generalize (lg_sl ([.ref h0, .int 5, .int 1]) ++ List.replicate (3 - (lg_sl ([.ref h0, .int 5, .int 1])).length) Slot.unset).toArray = ls at hl ⊢
  replace hl : lv_has ls 3 [(0, .ref h0), (1, .int 5), (2, .int 1)] := hl
  have hH0 : s.heap.size ≤ s.heap.size := Nat.le_refl _
  refine lv_iload_n hx hb dX9_get_0 rfl (lv_at hl 1 rfl) ?_
  refine lv_if_lt (tgt := 24) hx hb dX9_get_1 (by decide) (fun c9 => absurd c9 (by decide)) (fun _ => ?_)
  refine lv_iload_n hx hb dX9_get_4 rfl (lv_at hl 1 rfl) ?_
  refine lv_aload_n hx hb dX9_get_5 rfl (lv_at hl 0 rfl) ?_
  refine va_get (D := g.1) (ci := 10) (v := .int 7) (C := RX9) (T := TX9) (N := 4) hx hb hts in9_X9_get_8_RX9 hown hK hP 0 rfl rfl 3 (by decide) (hts (.fieldLink RX9 28 "Regexloom$Table" "size" "I") (List.mem_of_getElem? (i := 1) rfl)) (fun _ h9 => h9) rfl dX9_get_6 ?_
  refine lv_icmp_ge (tgt := 24) hx hb dX9_get_9 (by decide) (fun c9 => absurd c9 (by decide)) (fun _ => ?_)
  refine lv_iload_n hx hb dX9_get_12 rfl (lv_at hl 2 rfl) ?_
  refine lv_if_lt (tgt := 24) hx hb dX9_get_13 (by decide) (fun c9 => absurd c9 (by decide)) (fun _ => ?_)
  refine lv_iload_n hx hb dX9_get_16 rfl (lv_at hl 2 rfl) ?_
  refine lv_aload_n hx hb dX9_get_17 rfl (lv_at hl 0 rfl) ?_
  refine va_get (D := g.1) (ci := 10) (v := .int 2) (C := RX9) (T := TX9) (N := 4) hx hb hts in9_X9_get_8_RX9 hown hK hP 0 rfl rfl 0 (by decide) (hts (.fieldLink RX9 9 "Regexloom$Table" "width" "I") (List.mem_of_getElem? (i := 2) rfl)) (fun _ h9 => h9) rfl dX9_get_18 ?_
  refine lv_icmp_lt (tgt := 26) hx hb dX9_get_21 (by decide) (fun _ => ?_) (fun c9 => absurd (by decide) c9)
  refine lv_aload_n hx hb dX9_get_26 rfl (lv_at hl 0 rfl) ?_
  refine va_get (D := g.1) (ci := 10) (v := .ref h1) (C := RX9) (T := TX9) (N := 4) hx hb hts in9_X9_get_8_RX9 hown hK hP 0 rfl rfl 2 (by decide) (hts (.fieldLink RX9 24 "Regexloom$Table" "cells" "[I") (List.mem_of_getElem? (i := 3) rfl)) (fun _ h9 => h9) rfl dX9_get_27 ?_
  refine lv_iload_n hx hb dX9_get_30 rfl (lv_at hl 1 rfl) ?_
  refine lv_aload_n hx hb dX9_get_31 rfl (lv_at hl 0 rfl) ?_
  refine va_get (D := g.1) (ci := 10) (v := .int 2) (C := RX9) (T := TX9) (N := 4) hx hb hts in9_X9_get_8_RX9 hown hK hP 0 rfl rfl 0 (by decide) (hts (.fieldLink RX9 9 "Regexloom$Table" "width" "I") (List.mem_of_getElem? (i := 2) rfl)) (fun _ h9 => h9) rfl dX9_get_32 ?_
  refine lv_imul hx hb dX9_get_35 ?_
  refine e_top (y := 10) (by decide) ?_
  refine lv_iload_n hx hb dX9_get_36 rfl (lv_at hl 2 rfl) ?_
  refine lv_iadd hx hb dX9_get_37 ?_
  refine e_top (y := 11) (by decide) ?_
  refine va_iald hx hb hK hP 1 0 rfl rfl (vp_in_nI (n := 11) (by decide) (by decide)) dX9_get_38 ?_
  refine e_topv (y := .int (f0 11)) (by rfl) ?_
  have hP9 := hP.sub (ws' := [(h0, .inr (10, [.int 2, .int 7, .ref h1, .int 7])), (h1, .inl (g.2.1 0, 14, .inl f0))]) [0, 1] rfl
  have hD9 := hD.sub (ws' := [(h0, .inr (10, [.int 2, .int 7, .ref h1, .int 7])), (h1, .inl (g.2.1 0, 14, .inl f0))]) [0, 1] (by decide) rfl
  subst hAe
  exact W.iret (v := (f0 11)) hx hb hr (fun t ht hW => ⟨⟨(f0 11), (), rfl, rfl, by rw [ht]; exact hP9, hD9⟩, hS.F ht⟩) hS.2.2 dX9_get_39
def w9_X11_group_8 : List Cond := [.code yX11_group cX11_group 3 (some .int), .fieldLink RX11 78 "Regexloom" "bounds" "LRegexloom$Table;", .methodLink RX11 225 yX9_get, .instanceMethod yX9_get, .selects RX9 yX9_get yX9_get, .initialized RX9, .code yX9_get cX9_get 3 (some .int), .fieldLink RX9 28 "Regexloom$Table" "size" "I", .fieldLink RX9 9 "Regexloom$Table" "width" "I", .fieldLink RX9 24 "Regexloom$Table" "cells" "[I"] ++ (u_ws RX11 TX11 17 ++ u_ws RX9 TX9 4)
set_option maxRecDepth 20000 in
theorem in9_X11_group_8_RX11 : ∀ w ∈ u_ws RX11 TX11 17, w ∈ w9_X11_group_8 := by decide +kernel
set_option maxRecDepth 20000 in
theorem in9_X11_group_8_RX9 : ∀ w ∈ u_ws RX9 TX9 4, w ∈ w9_X11_group_8 := by decide +kernel
set_option maxRecDepth 20000 in
theorem g9_X11_group_8_0 : GoodIn w9_X11_group_8 (wsV RX11 225 RX9 yX9_get w9_X9_get_8) := goodIn_r _ [2, 3, 4, 5, 6, 7, 8, 9, 27, 28, 29, 30] (by decide +kernel) (by decide +kernel)
set_option maxHeartbeats 4000000 in
set_option maxRecDepth 100000 in
theorem c9_X11_group_8 (l : Launch) (g : G9) (h0 h1 h2 h3 h4 h5 h6 h7 h8 h9 h10 h11 h12 h13 h14 sz : Nat) (f0 : Nat → Int32) : Met l yX11_group w9_X11_group_8 ({ frames := 1, cells := 0, slots := 0, locals := 22 }) (mP g [(h0, .inr (12, [.ref h1, .int 0, .ref h2, .ref h3, .ref h4, .ref h5, .ref h6, .ref h7, .int (-1), .ref h8, .ref h9, .int 250, .ref h10, .int 0, .ref h11, .ref h12, .ref h13])), (h10, .inr (10, [.int 2, .int 7, .ref h14, .int 7])), (h14, .inl (g.2.1 0, 14, .inl f0))] sz [.ref h0, .int 5, .int 1]) (va_Qi (fun (r : Int32) (_ : Unit) => r = (f0 11)) (fun (_ : Unit) (t : State) => mB g [(h0, .inr (12, [.ref h1, .int 0, .ref h2, .ref h3, .ref h4, .ref h5, .ref h6, .ref h7, .int (-1), .ref h8, .ref h9, .int 250, .ref h10, .int 0, .ref h11, .ref h12, .ref h13])), (h10, .inr (10, [.int 2, .int 7, .ref h14, .int 7])), (h14, .inl (g.2.1 0, 14, .inl f0))] sz [(h0, .inr (12, [.ref h1, .int 0, .ref h2, .ref h3, .ref h4, .ref h5, .ref h6, .ref h7, .int (-1), .ref h8, .ref h9, .int 250, .ref h10, .int 0, .ref h11, .ref h12, .ref h13])), (h10, .inr (10, [.int 2, .int 7, .ref h14, .int 7])), (h14, .inl (g.2.1 0, 14, .inl f0))] t) (va_A [(h0, .inr (12, [.ref h1, .int 0, .ref h2, .ref h3, .ref h4, .ref h5, .ref h6, .ref h7, .int (-1), .ref h8, .ref h9, .int 250, .ref h10, .int 0, .ref h11, .ref h12, .ref h13])), (h10, .inr (10, [.int 2, .int 7, .ref h14, .int 7])), (h14, .inl (g.2.1 0, 14, .inl f0))] sz)) 0 0 (va_A [(h0, .inr (12, [.ref h1, .int 0, .ref h2, .ref h3, .ref h4, .ref h5, .ref h6, .ref h7, .int (-1), .ref h8, .ref h9, .int 250, .ref h10, .int 0, .ref h11, .ref h12, .ref h13])), (h10, .inr (10, [.int 2, .int 7, .ref h14, .int 7])), (h14, .inl (g.2.1 0, 14, .inl f0))] sz) := by
  refine Met.ofW (cc := cX11_group) (maxL := 3) (ret := (some .int)) (by decide) rfl ?_
  intro p e s m args below meth c s₁ B hml hv
  obtain ⟨rfl, hsz, hP, hD0, hE⟩ := hv
  have hx := B.exec
  have hb := B.bytes
  have hr := B.returns
  have hts := atoms_spec (ws := w9_X11_group_8) B.pre
  have hown : s.vm.findClass RX11 = some m.cls := findClass_of_methodNamed B.named
  have hlocks := B.notSynchronized
  subst hsz
  have hD := hD0.self (sz := s.heap.size)
  generalize hAe : va_A [(h0, .inr (12, [.ref h1, .int 0, .ref h2, .ref h3, .ref h4, .ref h5, .ref h6, .ref h7, .int (-1), .ref h8, .ref h9, .int 250, .ref h10, .int 0, .ref h11, .ref h12, .ref h13])), (h10, .inr (10, [.int 2, .int 7, .ref h14, .int 7])), (h14, .inl (g.2.1 0, 14, .inl f0))] s.heap.size = A at hD hE ⊢
  have hA : ∀ q : Nat, s.heap.size ≤ q → A q := fun q h => by rw [← hAe]; exact Or.inr h
  have hK := hE.1
  have hS : va_S A s.heap s.heap [] := va_S.rf
  replace hP : va_P g.1 vwCl [(h0, .inr (12, [.ref h1, .int 0, .ref h2, .ref h3, .ref h4, .ref h5, .ref h6, .ref h7, .int (-1), .ref h8, .ref h9, .int 250, .ref h10, .int 0, .ref h11, .ref h12, .ref h13])), (h10, .inr (10, [.int 2, .int 7, .ref h14, .int 7])), (h14, .inl (g.2.1 0, 14, .inl f0))] s.heap := hP
  have hl := lv_entry ([.ref h0, .int 5, .int 1]) (n := 3) (Nat.le_of_ble_eq_true rfl)
  rw [lg_entry_eq]
  generalize (lg_sl ([.ref h0, .int 5, .int 1]) ++ List.replicate (3 - (lg_sl ([.ref h0, .int 5, .int 1])).length) Slot.unset).toArray = ls at hl ⊢
  replace hl : lv_has ls 3 [(0, .ref h0), (1, .int 5), (2, .int 1)] := hl
  have hH0 : s.heap.size ≤ s.heap.size := Nat.le_refl _
  refine lv_iload_n hx hb dX11_group_0 rfl (lv_at hl 1 rfl) ?_
  refine lv_if_lt (tgt := 10) hx hb dX11_group_1 (by decide) (fun c9 => absurd c9 (by decide)) (fun _ => ?_)
  refine lv_iload_n hx hb dX11_group_4 rfl (lv_at hl 1 rfl) ?_
  refine lv_bipush (v := 6) hx hb dX11_group_5 (by decide) ?_
  refine lv_icmp_le (tgt := 20) hx hb dX11_group_7 (by decide) (fun _ => ?_) (fun c9 => absurd (by decide) c9)
  refine lv_aload_n hx hb dX11_group_20 rfl (lv_at hl 0 rfl) ?_
  refine va_get (D := g.1) (ci := 12) (v := .ref h10) (C := RX11) (T := TX11) (N := 17) hx hb hts in9_X11_group_8_RX11 hown hK hP 0 rfl rfl 12 (by decide) (hts (.fieldLink RX11 78 "Regexloom" "bounds" "LRegexloom$Table;") (List.mem_of_getElem? (i := 1) rfl)) (fun _ h9 => h9) rfl dX11_group_21 ?_
  refine lv_iload_n hx hb dX11_group_24 rfl (lv_at hl 1 rfl) ?_
  refine lv_iload_n hx hb dX11_group_25 rfl (lv_at hl 2 rfl) ?_
  refine lv_if_eq (tgt := 33) hx hb dX11_group_26 (by decide) (fun c9 => absurd c9 (by decide)) (fun _ => ?_)
  refine lv_iconst (v := 1) hx hb dX11_group_29 (by decide) ?_
  refine lv_goto (tgt := 34) hx hb dX11_group_30 (by decide) ?_
  have hPc := hP.sub (ws' := [(h10, .inr (10, [.int 2, .int 7, .ref h14, .int 7])), (h14, .inl (g.2.1 0, 14, .inl f0))]) [1, 2] rfl
  have hDc := hD.sub (ws' := [(h10, .inr (10, [.int 2, .int 7, .ref h14, .int 7])), (h14, .inl (g.2.1 0, 14, .inl f0))]) [1, 2] (by decide) rfl
  have hFc := va_free (wc := [(h10, .inr (10, [.int 2, .int 7, .ref h14, .int 7])), (h14, .inl (g.2.1 0, 14, .inl f0))]) hD hS hA [1, 2] rfl
  refine va_calli (va_runV (As := [.int 5, .int 1]) (rest := []) ⟨hx, hb, hml, hown, hts⟩ (c9_X9_get_8 l g h10 h14 _ f0) (cwV 2 hts g9_X11_group_8_0 rfl rfl rfl (by decide +kernel) ⟨Nat.le_of_ble_eq_true rfl, Nat.le_of_ble_eq_true rfl⟩) (mPreV (g := g) (wc := [(h10, .inr (10, [.int 2, .int 7, .ref h14, .int 7])), (h14, .inl (g.2.1 0, 14, .inl f0))]) (C := RX9) (ci := 10) (q0 := 0) hE hS hPc hDc hFc rfl rfl) rfl rfl hl.1 rfl (lv_room (Nat.le_of_ble_eq_true rfl)) dX11_group_34 ⟨Nat.le_of_ble_eq_true rfl, Nat.le_of_ble_eq_true rfl⟩) hS (fun q _ h => hFc q h) hFc (fun r_1 u t H1 locs ht hvm hw hB hz1 hk1 hS => ?_)
  replace hw : (f0 11) = r_1 := Eq.symm hw
  subst hw
  obtain ⟨hP1, hD1⟩ := hB
  rw [ht] at hP1
  obtain ⟨hP, hD⟩ := va_join (wr := [(h0, .inr (12, [.ref h1, .int 0, .ref h2, .ref h3, .ref h4, .ref h5, .ref h6, .ref h7, .int (-1), .ref h8, .ref h9, .int 250, .ref h10, .int 0, .ref h11, .ref h12, .ref h13]))]) (w1 := [(h10, .inr (10, [.int 2, .int 7, .ref h14, .int 7])), (h14, .inl (g.2.1 0, 14, .inl f0))]) hP hD [1, 2] [0] rfl rfl (by decide) (by decide) hk1 hFc hP1 hD1
  clear hP1 hD1 hPc hDc hFc hk1 hz1 hvm ht
  generalize H1 = H at hP hS ⊢
  have hP : va_P g.1 vwCl [(h0, .inr (12, [.ref h1, .int 0, .ref h2, .ref h3, .ref h4, .ref h5, .ref h6, .ref h7, .int (-1), .ref h8, .ref h9, .int 250, .ref h10, .int 0, .ref h11, .ref h12, .ref h13])), (h10, .inr (10, [.int 2, .int 7, .ref h14, .int 7])), (h14, .inl (g.2.1 0, 14, .inl f0))] H := hP
  have hD : va_D A [(h0, .inr (12, [.ref h1, .int 0, .ref h2, .ref h3, .ref h4, .ref h5, .ref h6, .ref h7, .int (-1), .ref h8, .ref h9, .int 250, .ref h10, .int 0, .ref h11, .ref h12, .ref h13])), (h10, .inr (10, [.int 2, .int 7, .ref h14, .int 7])), (h14, .inl (g.2.1 0, 14, .inl f0))] := hD
  refine e_top (y := (f0 11)) (by rfl) ?_
  have hP9 := hP.sub (ws' := [(h0, .inr (12, [.ref h1, .int 0, .ref h2, .ref h3, .ref h4, .ref h5, .ref h6, .ref h7, .int (-1), .ref h8, .ref h9, .int 250, .ref h10, .int 0, .ref h11, .ref h12, .ref h13])), (h10, .inr (10, [.int 2, .int 7, .ref h14, .int 7])), (h14, .inl (g.2.1 0, 14, .inl f0))]) [0, 1, 2] rfl
  have hD9 := hD.sub (ws' := [(h0, .inr (12, [.ref h1, .int 0, .ref h2, .ref h3, .ref h4, .ref h5, .ref h6, .ref h7, .int (-1), .ref h8, .ref h9, .int 250, .ref h10, .int 0, .ref h11, .ref h12, .ref h13])), (h10, .inr (10, [.int 2, .int 7, .ref h14, .int 7])), (h14, .inl (g.2.1 0, 14, .inl f0))]) [0, 1, 2] (by decide) rfl
  subst hAe
  exact W.iret (v := (f0 11)) hx hb hr (fun t ht hW => ⟨⟨(f0 11), (), rfl, rfl, by rw [ht]; exact hP9, hD9⟩, hS.F ht⟩) hS.2.2 dX11_group_37
def w9_L_group_9 : List Cond := [.codeWith yL_group cL_group 5 (some .int) [(0, 10, 13, 21)], .methodLink RL 47 yX11_group, .instanceMethod yX11_group, .selects RX11 yX11_group yX11_group, .initialized RX11, .code yX11_group cX11_group 3 (some .int), .fieldLink RX11 78 "Regexloom" "bounds" "LRegexloom$Table;", .methodLink RX11 225 yX9_get, .instanceMethod yX9_get, .selects RX9 yX9_get yX9_get, .initialized RX9, .code yX9_get cX9_get 3 (some .int), .fieldLink RX9 28 "Regexloom$Table" "size" "I", .fieldLink RX9 9 "Regexloom$Table" "width" "I", .fieldLink RX9 24 "Regexloom$Table" "cells" "[I"] ++ (u_ws RX11 TX11 17 ++ u_ws RX9 TX9 4)
set_option maxRecDepth 20000 in
theorem in9_L_group_9_RX11 : ∀ w ∈ u_ws RX11 TX11 17, w ∈ w9_L_group_9 := by decide +kernel
set_option maxRecDepth 20000 in
theorem in9_L_group_9_RX9 : ∀ w ∈ u_ws RX9 TX9 4, w ∈ w9_L_group_9 := by decide +kernel
set_option maxRecDepth 20000 in
theorem g9_L_group_9_0 : GoodIn w9_L_group_9 (wsV RL 47 RX11 yX11_group w9_X11_group_8) := goodIn_r _ [1, 2, 3, 4, 5, 6, 7, 8, 9, 10, 11, 12, 13, 14, 15, 16, 17, 18, 19, 20, 21, 22, 23, 24, 25, 26, 27, 28, 29, 30, 31, 32, 33, 34, 35] (by decide +kernel) (by decide +kernel)
set_option maxHeartbeats 4000000 in
set_option maxRecDepth 100000 in
theorem c9_L_group_9 (l : Launch) (g : G9) (h0 h1 h2 h3 h4 h5 h6 h7 h8 h9 h10 h11 h12 h13 h14 h15 sz : Nat) : Met l yL_group w9_L_group_9 ({ frames := 2, cells := 0, slots := 0, locals := 44 }) (mP g [(h0, .inr (12, [.ref h2, .int 0, .ref h3, .ref h4, .ref h5, .ref h6, .ref h7, .ref h8, .int (-1), .ref h9, .ref h10, .int 250, .ref h11, .int 0, .ref h12, .ref h13, .ref h14])), (h11, .inr (10, [.int 2, .int 7, .ref h15, .int 7])), (h15, .inl (g.2.1 0, 14, .inl (upd (upd (upd (upd (upd (upd (upd (upd (upd (upd (upd (upd (upd (upd (fun _ => 0) 0 (-1)) 1 (-1)) 2 (-1)) 3 (-1)) 4 (-1)) 5 (-1)) 6 (-1)) 7 (-1)) 8 (-1)) 9 (-1)) 10 (-1)) 11 (-1)) 12 (-1)) 13 (-1)))), (h1, .inl (g.2.1 2, 1, .inr (.inl (fun _ => 0))))] sz [.ref h0, .int 5, .int 1, .ref h1]) (va_Qi (fun (r : Int32) (_ : Unit) => r = 0) (fun (_ : Unit) (t : State) => mB g [(h0, .inr (12, [.ref h2, .int 0, .ref h3, .ref h4, .ref h5, .ref h6, .ref h7, .ref h8, .int (-1), .ref h9, .ref h10, .int 250, .ref h11, .int 0, .ref h12, .ref h13, .ref h14])), (h11, .inr (10, [.int 2, .int 7, .ref h15, .int 7])), (h15, .inl (g.2.1 0, 14, .inl (upd (upd (upd (upd (upd (upd (upd (upd (upd (upd (upd (upd (upd (upd (fun _ => 0) 0 (-1)) 1 (-1)) 2 (-1)) 3 (-1)) 4 (-1)) 5 (-1)) 6 (-1)) 7 (-1)) 8 (-1)) 9 (-1)) 10 (-1)) 11 (-1)) 12 (-1)) 13 (-1)))), (h1, .inl (g.2.1 2, 1, .inr (.inl (fun _ => 0))))] sz [(h0, .inr (12, [.ref h2, .int 0, .ref h3, .ref h4, .ref h5, .ref h6, .ref h7, .ref h8, .int (-1), .ref h9, .ref h10, .int 250, .ref h11, .int 0, .ref h12, .ref h13, .ref h14])), (h11, .inr (10, [.int 2, .int 7, .ref h15, .int 7])), (h15, .inl (g.2.1 0, 14, .inl (upd (upd (upd (upd (upd (upd (upd (upd (upd (upd (upd (upd (upd (upd (fun _ => 0) 0 (-1)) 1 (-1)) 2 (-1)) 3 (-1)) 4 (-1)) 5 (-1)) 6 (-1)) 7 (-1)) 8 (-1)) 9 (-1)) 10 (-1)) 11 (-1)) 12 (-1)) 13 (-1)))), (h1, .inl (g.2.1 2, 1, .inr (.inl (vp_updL (fun _ => 0) 0 (-1)))))] t) (va_A [(h0, .inr (12, [.ref h2, .int 0, .ref h3, .ref h4, .ref h5, .ref h6, .ref h7, .ref h8, .int (-1), .ref h9, .ref h10, .int 250, .ref h11, .int 0, .ref h12, .ref h13, .ref h14])), (h11, .inr (10, [.int 2, .int 7, .ref h15, .int 7])), (h15, .inl (g.2.1 0, 14, .inl (upd (upd (upd (upd (upd (upd (upd (upd (upd (upd (upd (upd (upd (upd (fun _ => 0) 0 (-1)) 1 (-1)) 2 (-1)) 3 (-1)) 4 (-1)) 5 (-1)) 6 (-1)) 7 (-1)) 8 (-1)) 9 (-1)) 10 (-1)) 11 (-1)) 12 (-1)) 13 (-1)))), (h1, .inl (g.2.1 2, 1, .inr (.inl (fun _ => 0))))] sz)) 0 0 (va_A [(h0, .inr (12, [.ref h2, .int 0, .ref h3, .ref h4, .ref h5, .ref h6, .ref h7, .ref h8, .int (-1), .ref h9, .ref h10, .int 250, .ref h11, .int 0, .ref h12, .ref h13, .ref h14])), (h11, .inr (10, [.int 2, .int 7, .ref h15, .int 7])), (h15, .inl (g.2.1 0, 14, .inl (upd (upd (upd (upd (upd (upd (upd (upd (upd (upd (upd (upd (upd (upd (fun _ => 0) 0 (-1)) 1 (-1)) 2 (-1)) 3 (-1)) 4 (-1)) 5 (-1)) 6 (-1)) 7 (-1)) 8 (-1)) 9 (-1)) 10 (-1)) 11 (-1)) 12 (-1)) 13 (-1)))), (h1, .inl (g.2.1 2, 1, .inr (.inl (fun _ => 0))))] sz) := by
  refine va_MetW (cc := cL_group) (maxL := 5) (ret := (some .int)) (by decide) rfl ?_
  intro p e s m args below meth c s₁ B hml hv
  obtain ⟨rfl, hsz, hP, hD0, hE⟩ := hv
  have hx := B.exec
  have hb := B.bytes
  have hr := B.returns
  have hts := atoms_spec (ws := w9_L_group_9) B.pre
  have hown : s.vm.findClass RL = some m.cls := findClass_of_methodNamed B.named
  have hlocks := B.notSynchronized
  have htab := vx_table (x := yL_group) B (hts (.codeWith yL_group cL_group 5 (some .int) [(0, 10, 13, 21)]) (List.mem_of_getElem? (i := 0) rfl))
  subst hsz
  have hD := hD0.self (sz := s.heap.size)
  generalize hAe : va_A [(h0, .inr (12, [.ref h2, .int 0, .ref h3, .ref h4, .ref h5, .ref h6, .ref h7, .ref h8, .int (-1), .ref h9, .ref h10, .int 250, .ref h11, .int 0, .ref h12, .ref h13, .ref h14])), (h11, .inr (10, [.int 2, .int 7, .ref h15, .int 7])), (h15, .inl (g.2.1 0, 14, .inl (upd (upd (upd (upd (upd (upd (upd (upd (upd (upd (upd (upd (upd (upd (fun _ => 0) 0 (-1)) 1 (-1)) 2 (-1)) 3 (-1)) 4 (-1)) 5 (-1)) 6 (-1)) 7 (-1)) 8 (-1)) 9 (-1)) 10 (-1)) 11 (-1)) 12 (-1)) 13 (-1)))), (h1, .inl (g.2.1 2, 1, .inr (.inl (fun _ => 0))))] s.heap.size = A at hD hE ⊢
  have hA : ∀ q : Nat, s.heap.size ≤ q → A q := fun q h => by rw [← hAe]; exact Or.inr h
  have hK := hE.1
  have hS : va_S A s.heap s.heap [] := va_S.rf
  replace hP : va_P g.1 vwCl [(h0, .inr (12, [.ref h2, .int 0, .ref h3, .ref h4, .ref h5, .ref h6, .ref h7, .ref h8, .int (-1), .ref h9, .ref h10, .int 250, .ref h11, .int 0, .ref h12, .ref h13, .ref h14])), (h11, .inr (10, [.int 2, .int 7, .ref h15, .int 7])), (h15, .inl (g.2.1 0, 14, .inl (upd (upd (upd (upd (upd (upd (upd (upd (upd (upd (upd (upd (upd (upd (fun _ => 0) 0 (-1)) 1 (-1)) 2 (-1)) 3 (-1)) 4 (-1)) 5 (-1)) 6 (-1)) 7 (-1)) 8 (-1)) 9 (-1)) 10 (-1)) 11 (-1)) 12 (-1)) 13 (-1)))), (h1, .inl (g.2.1 2, 1, .inr (.inl (fun _ => 0))))] s.heap := hP
  have hl := lv_entry ([.ref h0, .int 5, .int 1, .ref h1]) (n := 5) (Nat.le_of_ble_eq_true rfl)
  rw [lg_entry_eq]
  generalize (lg_sl ([.ref h0, .int 5, .int 1, .ref h1]) ++ List.replicate (5 - (lg_sl ([.ref h0, .int 5, .int 1, .ref h1])).length) Slot.unset).toArray = ls at hl ⊢
  replace hl : lv_has ls 5 [(0, .ref h0), (1, .int 5), (2, .int 1), (3, .ref h1)] := hl
  have hH0 : s.heap.size ≤ s.heap.size := Nat.le_refl _
  refine lv_aload_n hx hb dL_group_0 rfl (lv_at hl 3 rfl) ?_
  refine lv_iconst (v := 0) hx hb dL_group_1 (by decide) ?_
  refine lv_aload_n hx hb dL_group_2 rfl (lv_at hl 0 rfl) ?_
  refine lv_iload_n hx hb dL_group_3 rfl (lv_at hl 1 rfl) ?_
  refine lv_iload_n hx hb dL_group_4 rfl (lv_at hl 2 rfl) ?_
  have hPc := hP.sub (ws' := [(h0, .inr (12, [.ref h2, .int 0, .ref h3, .ref h4, .ref h5, .ref h6, .ref h7, .ref h8, .int (-1), .ref h9, .ref h10, .int 250, .ref h11, .int 0, .ref h12, .ref h13, .ref h14])), (h11, .inr (10, [.int 2, .int 7, .ref h15, .int 7])), (h15, .inl (g.2.1 0, 14, .inl (upd (upd (upd (upd (upd (upd (upd (upd (upd (upd (upd (upd (upd (upd (fun _ => 0) 0 (-1)) 1 (-1)) 2 (-1)) 3 (-1)) 4 (-1)) 5 (-1)) 6 (-1)) 7 (-1)) 8 (-1)) 9 (-1)) 10 (-1)) 11 (-1)) 12 (-1)) 13 (-1))))]) [0, 1, 2] rfl
  have hDc := hD.sub (ws' := [(h0, .inr (12, [.ref h2, .int 0, .ref h3, .ref h4, .ref h5, .ref h6, .ref h7, .ref h8, .int (-1), .ref h9, .ref h10, .int 250, .ref h11, .int 0, .ref h12, .ref h13, .ref h14])), (h11, .inr (10, [.int 2, .int 7, .ref h15, .int 7])), (h15, .inl (g.2.1 0, 14, .inl (upd (upd (upd (upd (upd (upd (upd (upd (upd (upd (upd (upd (upd (upd (fun _ => 0) 0 (-1)) 1 (-1)) 2 (-1)) 3 (-1)) 4 (-1)) 5 (-1)) 6 (-1)) 7 (-1)) 8 (-1)) 9 (-1)) 10 (-1)) 11 (-1)) 12 (-1)) 13 (-1))))]) [0, 1, 2] (by decide) rfl
  have hFc := va_free (wc := [(h0, .inr (12, [.ref h2, .int 0, .ref h3, .ref h4, .ref h5, .ref h6, .ref h7, .ref h8, .int (-1), .ref h9, .ref h10, .int 250, .ref h11, .int 0, .ref h12, .ref h13, .ref h14])), (h11, .inr (10, [.int 2, .int 7, .ref h15, .int 7])), (h15, .inl (g.2.1 0, 14, .inl (upd (upd (upd (upd (upd (upd (upd (upd (upd (upd (upd (upd (upd (upd (fun _ => 0) 0 (-1)) 1 (-1)) 2 (-1)) 3 (-1)) 4 (-1)) 5 (-1)) 6 (-1)) 7 (-1)) 8 (-1)) 9 (-1)) 10 (-1)) 11 (-1)) 12 (-1)) 13 (-1))))]) hD hS hA [0, 1, 2] rfl
  refine va_calli (va_runV (As := [.int 5, .int 1]) (rest := [.int 0, .ref h1]) ⟨hx, hb, hml, hown, hts⟩ (c9_X11_group_8 l g h0 h2 h3 h4 h5 h6 h7 h8 h9 h10 h11 h12 h13 h14 h15 _ (upd (upd (upd (upd (upd (upd (upd (upd (upd (upd (upd (upd (upd (upd (fun _ => 0) 0 (-1)) 1 (-1)) 2 (-1)) 3 (-1)) 4 (-1)) 5 (-1)) 6 (-1)) 7 (-1)) 8 (-1)) 9 (-1)) 10 (-1)) 11 (-1)) 12 (-1)) 13 (-1))) (cwV 2 hts g9_L_group_9_0 rfl rfl rfl (by decide +kernel) ⟨Nat.le_of_ble_eq_true rfl, Nat.le_of_ble_eq_true rfl⟩) (mPreV (g := g) (wc := [(h0, .inr (12, [.ref h2, .int 0, .ref h3, .ref h4, .ref h5, .ref h6, .ref h7, .ref h8, .int (-1), .ref h9, .ref h10, .int 250, .ref h11, .int 0, .ref h12, .ref h13, .ref h14])), (h11, .inr (10, [.int 2, .int 7, .ref h15, .int 7])), (h15, .inl (g.2.1 0, 14, .inl (upd (upd (upd (upd (upd (upd (upd (upd (upd (upd (upd (upd (upd (upd (fun _ => 0) 0 (-1)) 1 (-1)) 2 (-1)) 3 (-1)) 4 (-1)) 5 (-1)) 6 (-1)) 7 (-1)) 8 (-1)) 9 (-1)) 10 (-1)) 11 (-1)) 12 (-1)) 13 (-1))))]) (C := RX11) (ci := 12) (q0 := 0) hE hS hPc hDc hFc rfl rfl) rfl rfl hl.1 rfl (lv_room (Nat.le_of_ble_eq_true rfl)) dL_group_5 ⟨Nat.le_of_ble_eq_true rfl, Nat.le_of_ble_eq_true rfl⟩) hS (fun q _ h => hFc q h) hFc (fun r_1 u t H1 locs ht hvm hw hB hz1 hk1 hS => ?_)
  replace hw : ((upd (upd (upd (upd (upd (upd (upd (upd (upd (upd (upd (upd (upd (upd (fun _ => 0) 0 (-1)) 1 (-1)) 2 (-1)) 3 (-1)) 4 (-1)) 5 (-1)) 6 (-1)) 7 (-1)) 8 (-1)) 9 (-1)) 10 (-1)) 11 (-1)) 12 (-1)) 13 (-1)) 11) = r_1 := Eq.symm hw
  subst hw
  obtain ⟨hP1, hD1⟩ := hB
  rw [ht] at hP1
  obtain ⟨hP, hD⟩ := va_join (wr := [(h1, .inl (g.2.1 2, 1, .inr (.inl (fun _ => 0))))]) (w1 := [(h0, .inr (12, [.ref h2, .int 0, .ref h3, .ref h4, .ref h5, .ref h6, .ref h7, .ref h8, .int (-1), .ref h9, .ref h10, .int 250, .ref h11, .int 0, .ref h12, .ref h13, .ref h14])), (h11, .inr (10, [.int 2, .int 7, .ref h15, .int 7])), (h15, .inl (g.2.1 0, 14, .inl (upd (upd (upd (upd (upd (upd (upd (upd (upd (upd (upd (upd (upd (upd (fun _ => 0) 0 (-1)) 1 (-1)) 2 (-1)) 3 (-1)) 4 (-1)) 5 (-1)) 6 (-1)) 7 (-1)) 8 (-1)) 9 (-1)) 10 (-1)) 11 (-1)) 12 (-1)) 13 (-1))))]) hP hD [0, 1, 2] [3] rfl rfl (by decide) (by decide) hk1 hFc hP1 hD1
  clear hP1 hD1 hPc hDc hFc hk1 hz1 hvm ht
  generalize H1 = H at hP hS ⊢
  have hP : va_P g.1 vwCl [(h1, .inl (g.2.1 2, 1, .inr (.inl (fun _ => 0)))), (h0, .inr (12, [.ref h2, .int 0, .ref h3, .ref h4, .ref h5, .ref h6, .ref h7, .ref h8, .int (-1), .ref h9, .ref h10, .int 250, .ref h11, .int 0, .ref h12, .ref h13, .ref h14])), (h11, .inr (10, [.int 2, .int 7, .ref h15, .int 7])), (h15, .inl (g.2.1 0, 14, .inl (upd (upd (upd (upd (upd (upd (upd (upd (upd (upd (upd (upd (upd (upd (fun _ => 0) 0 (-1)) 1 (-1)) 2 (-1)) 3 (-1)) 4 (-1)) 5 (-1)) 6 (-1)) 7 (-1)) 8 (-1)) 9 (-1)) 10 (-1)) 11 (-1)) 12 (-1)) 13 (-1))))] H := hP
  have hD : va_D A [(h1, .inl (g.2.1 2, 1, .inr (.inl (fun _ => 0)))), (h0, .inr (12, [.ref h2, .int 0, .ref h3, .ref h4, .ref h5, .ref h6, .ref h7, .ref h8, .int (-1), .ref h9, .ref h10, .int 250, .ref h11, .int 0, .ref h12, .ref h13, .ref h14])), (h11, .inr (10, [.int 2, .int 7, .ref h15, .int 7])), (h15, .inl (g.2.1 0, 14, .inl (upd (upd (upd (upd (upd (upd (upd (upd (upd (upd (upd (upd (upd (upd (fun _ => 0) 0 (-1)) 1 (-1)) 2 (-1)) 3 (-1)) 4 (-1)) 5 (-1)) 6 (-1)) 7 (-1)) 8 (-1)) 9 (-1)) 10 (-1)) 11 (-1)) 12 (-1)) 13 (-1))))] := hD
  refine e_top (y := (-1)) (by rfl) ?_
  refine lv_i2l (v := (-1)) hx hb dL_group_8 (by decide) ?_
  refine va_last hx hb hK hP hD hS 0 2 rfl rfl (vp_in_nI (n := 0) (by decide) (by decide)) dL_group_9 (fun H locs hP hD hS => ?_)
  have hP : va_P g.1 vwCl [(h1, .inl (g.2.1 2, 1, .inr (.inl (vp_updL (fun _ => 0) 0 (-1))))), (h0, .inr (12, [.ref h2, .int 0, .ref h3, .ref h4, .ref h5, .ref h6, .ref h7, .ref h8, .int (-1), .ref h9, .ref h10, .int 250, .ref h11, .int 0, .ref h12, .ref h13, .ref h14])), (h11, .inr (10, [.int 2, .int 7, .ref h15, .int 7])), (h15, .inl (g.2.1 0, 14, .inl (upd (upd (upd (upd (upd (upd (upd (upd (upd (upd (upd (upd (upd (upd (fun _ => 0) 0 (-1)) 1 (-1)) 2 (-1)) 3 (-1)) 4 (-1)) 5 (-1)) 6 (-1)) 7 (-1)) 8 (-1)) 9 (-1)) 10 (-1)) 11 (-1)) 12 (-1)) 13 (-1))))] H := hP
  have hD : va_D A [(h1, .inl (g.2.1 2, 1, .inr (.inl (vp_updL (fun _ => 0) 0 (-1))))), (h0, .inr (12, [.ref h2, .int 0, .ref h3, .ref h4, .ref h5, .ref h6, .ref h7, .ref h8, .int (-1), .ref h9, .ref h10, .int 250, .ref h11, .int 0, .ref h12, .ref h13, .ref h14])), (h11, .inr (10, [.int 2, .int 7, .ref h15, .int 7])), (h15, .inl (g.2.1 0, 14, .inl (upd (upd (upd (upd (upd (upd (upd (upd (upd (upd (upd (upd (upd (upd (fun _ => 0) 0 (-1)) 1 (-1)) 2 (-1)) 3 (-1)) 4 (-1)) 5 (-1)) 6 (-1)) 7 (-1)) 8 (-1)) 9 (-1)) 10 (-1)) 11 (-1)) 12 (-1)) 13 (-1))))] := hD
  refine lv_goto (tgt := 17) hx hb dL_group_10 (by decide) ?_
  refine lv_iconst (v := 0) hx hb dL_group_17 (by decide) ?_
  have hP9 := hP.sub (ws' := [(h0, .inr (12, [.ref h2, .int 0, .ref h3, .ref h4, .ref h5, .ref h6, .ref h7, .ref h8, .int (-1), .ref h9, .ref h10, .int 250, .ref h11, .int 0, .ref h12, .ref h13, .ref h14])), (h11, .inr (10, [.int 2, .int 7, .ref h15, .int 7])), (h15, .inl (g.2.1 0, 14, .inl (upd (upd (upd (upd (upd (upd (upd (upd (upd (upd (upd (upd (upd (upd (fun _ => 0) 0 (-1)) 1 (-1)) 2 (-1)) 3 (-1)) 4 (-1)) 5 (-1)) 6 (-1)) 7 (-1)) 8 (-1)) 9 (-1)) 10 (-1)) 11 (-1)) 12 (-1)) 13 (-1)))), (h1, .inl (g.2.1 2, 1, .inr (.inl (vp_updL (fun _ => 0) 0 (-1)))))]) [1, 2, 3, 0] rfl
  have hD9 := hD.sub (ws' := [(h0, .inr (12, [.ref h2, .int 0, .ref h3, .ref h4, .ref h5, .ref h6, .ref h7, .ref h8, .int (-1), .ref h9, .ref h10, .int 250, .ref h11, .int 0, .ref h12, .ref h13, .ref h14])), (h11, .inr (10, [.int 2, .int 7, .ref h15, .int 7])), (h15, .inl (g.2.1 0, 14, .inl (upd (upd (upd (upd (upd (upd (upd (upd (upd (upd (upd (upd (upd (upd (fun _ => 0) 0 (-1)) 1 (-1)) 2 (-1)) 3 (-1)) 4 (-1)) 5 (-1)) 6 (-1)) 7 (-1)) 8 (-1)) 9 (-1)) 10 (-1)) 11 (-1)) 12 (-1)) 13 (-1)))), (h1, .inl (g.2.1 2, 1, .inr (.inl (vp_updL (fun _ => 0) 0 (-1)))))]) [1, 2, 3, 0] (by decide) rfl
  subst hAe
  exact W.iret (v := 0) hx hb hr (fun t ht hW => ⟨⟨0, (), rfl, rfl, by rw [ht]; exact hP9, hD9⟩, hS.F ht⟩) hS.2.2 dL_group_18
def w9_X21_in_21 : List Cond := [.code yX21_in cX21_in 3 (some .boolean)]
set_option maxHeartbeats 4000000 in
set_option maxRecDepth 100000 in
theorem c9_X21_in_21 (l : Launch) (g : G9) (sz : Nat) : Met l yX21_in w9_X21_in_21 ({ frames := 0, cells := 0, slots := 0, locals := 0 }) (mP g [] sz [.int 5, .int 0, .int 6]) (va_Qi (fun (r : Int32) (_ : Unit) => r = 1) (fun (_ : Unit) (t : State) => mB g [] sz [] t) (va_A [] sz)) 0 0 (va_A [] sz) := by
  refine Met.ofW (cc := cX21_in) (maxL := 3) (ret := (some .boolean)) (by decide) rfl ?_
  intro p e s m args below meth c s₁ B hml hv
  obtain ⟨rfl, hsz, hP, hD0, hE⟩ := hv
  have hx := B.exec
  have hb := B.bytes
  have hr := B.returns
  have hts := atoms_spec (ws := w9_X21_in_21) B.pre
  have hown : s.vm.findClass RX21 = some m.cls := findClass_of_methodNamed B.named
  have hlocks := B.notSynchronized
  subst hsz
  have hD := hD0.self (sz := s.heap.size)
  generalize hAe : va_A [] s.heap.size = A at hD hE ⊢
  have hA : ∀ q : Nat, s.heap.size ≤ q → A q := fun q h => by rw [← hAe]; exact Or.inr h
  have hK := hE.1
  have hS : va_S A s.heap s.heap [] := va_S.rf
  replace hP : va_P g.1 vwCl [] s.heap := hP
  have hl := lv_entry ([.int 5, .int 0, .int 6]) (n := 3) (Nat.le_of_ble_eq_true rfl)
  rw [lg_entry_eq]
  generalize (lg_sl ([.int 5, .int 0, .int 6]) ++ List.replicate (3 - (lg_sl ([.int 5, .int 0, .int 6])).length) Slot.unset).toArray = ls at hl ⊢
  replace hl : lv_has ls 3 [(0, .int 5), (1, .int 0), (2, .int 6)] := hl
  have hH0 : s.heap.size ≤ s.heap.size := Nat.le_refl _
  refine lv_iload_n hx hb dX21_in_0 rfl (lv_at hl 0 rfl) ?_
  refine lv_iload_n hx hb dX21_in_1 rfl (lv_at hl 1 rfl) ?_
  refine lv_icmp_lt (tgt := 14) hx hb dX21_in_2 (by decide) (fun c9 => absurd c9 (by decide)) (fun _ => ?_)
  refine lv_iload_n hx hb dX21_in_5 rfl (lv_at hl 0 rfl) ?_
  refine lv_iload_n hx hb dX21_in_6 rfl (lv_at hl 2 rfl) ?_
  refine lv_icmp_gt (tgt := 14) hx hb dX21_in_7 (by decide) (fun c9 => absurd c9 (by decide)) (fun _ => ?_)
  refine lv_iconst (v := 1) hx hb dX21_in_10 (by decide) ?_
  refine lv_goto (tgt := 15) hx hb dX21_in_11 (by decide) ?_
  have hP9 := hP.sub (ws' := []) [] rfl
  have hD9 := hD.sub (ws' := []) [] (by decide) rfl
  subst hAe
  exact W.zret (v := 1) hx hb hr (by decide) (fun t ht hW => ⟨⟨1, (), rfl, rfl, by rw [ht]; exact hP9, hD9⟩, hS.F ht⟩) hS.2.2 dX21_in_15
def w9_X21_group_8 : List Cond := [.code yX21_group cX21_group 3 (some .int), .methodLink RX21 160 yX21_in, .static yX21_in, .initialized RX21, .code yX21_in cX21_in 3 (some .boolean), .methodLink RX21 154 yX21_refused, .instanceMethod yX21_refused, .selects RX21 yX21_refused yX21_refused, .code yX21_refused cX21_refused 2 (some .boolean), .fieldLink RX21 144 "RegexloomModel" "refusal" "I", .fieldLink RX21 107 "RegexloomModel" "told" "[I"] ++ (u_ws RX21 TX21 32)
set_option maxRecDepth 20000 in
theorem in9_X21_group_8_RX21 : ∀ w ∈ u_ws RX21 TX21 32, w ∈ w9_X21_group_8 := by decide +kernel
set_option maxRecDepth 20000 in
theorem g9_X21_group_8_0 : GoodIn w9_X21_group_8 (va_wsS RX21 160 yX21_in w9_X21_in_21) := goodIn_r _ [1, 2, 3, 4] (by decide +kernel) (by decide +kernel)
set_option maxRecDepth 20000 in
theorem g9_X21_group_8_1 : GoodIn w9_X21_group_8 (wsV RX21 154 RX21 yX21_refused w9_X21_refused_1) := goodIn_r _ [5, 6, 7, 3, 8, 9, 11, 12, 13, 14, 15, 16, 17, 18, 19, 20, 21, 22, 23, 24, 25, 26, 27, 28, 29, 30, 31, 32, 33, 34, 35, 36, 37, 38, 39, 40, 41, 42] (by decide +kernel) (by decide +kernel)
set_option maxHeartbeats 4000000 in
set_option maxRecDepth 100000 in
theorem c9_X21_group_8 (l : Launch) (g : G9) (h0 h1 h2 h3 h4 h5 h6 h7 h8 h9 h10 h11 h12 h13 h14 h15 h16 sz : Nat) (f0 : Nat → Int32) : Met l yX21_group w9_X21_group_8 ({ frames := 1, cells := 0, slots := 0, locals := 22 }) (mP g [(h0, .inr (22, [.int 0, .ref h1, .int 0, .ref h2, .int 0, .ref h3, .int 250, .ref h4, .int 0, .ref h5, .ref h6, .ref h7, .int 0, .ref h8, .ref h9, .ref h10, .int 0, .null, .int 0, .null, .int 0, .int 0, .int 0, .ref h11, .int 0, .ref h12, .ref h13, .ref h14, .int 0, .ref h15, .ref h16, .int 0])), (h7, .inl (g.2.1 0, 14, .inl f0))] sz [.ref h0, .int 5, .int 1]) (va_Qi (fun (r : Int32) (_ : Unit) => r = (f0 11)) (fun (_ : Unit) (t : State) => mB g [(h0, .inr (22, [.int 0, .ref h1, .int 0, .ref h2, .int 0, .ref h3, .int 250, .ref h4, .int 0, .ref h5, .ref h6, .ref h7, .int 0, .ref h8, .ref h9, .ref h10, .int 0, .null, .int 0, .null, .int 0, .int 0, .int 0, .ref h11, .int 0, .ref h12, .ref h13, .ref h14, .int 0, .ref h15, .ref h16, .int 0])), (h7, .inl (g.2.1 0, 14, .inl f0))] sz [(h0, .inr (22, [.int 0, .ref h1, .int 0, .ref h2, .int 0, .ref h3, .int 250, .ref h4, .int 0, .ref h5, .ref h6, .ref h7, .int 0, .ref h8, .ref h9, .ref h10, .int 0, .null, .int 0, .null, .int 0, .int 0, .int 0, .ref h11, .int 0, .ref h12, .ref h13, .ref h14, .int 0, .ref h15, .ref h16, .int 0])), (h7, .inl (g.2.1 0, 14, .inl f0))] t) (va_A [(h0, .inr (22, [.int 0, .ref h1, .int 0, .ref h2, .int 0, .ref h3, .int 250, .ref h4, .int 0, .ref h5, .ref h6, .ref h7, .int 0, .ref h8, .ref h9, .ref h10, .int 0, .null, .int 0, .null, .int 0, .int 0, .int 0, .ref h11, .int 0, .ref h12, .ref h13, .ref h14, .int 0, .ref h15, .ref h16, .int 0])), (h7, .inl (g.2.1 0, 14, .inl f0))] sz)) 0 0 (va_A [(h0, .inr (22, [.int 0, .ref h1, .int 0, .ref h2, .int 0, .ref h3, .int 250, .ref h4, .int 0, .ref h5, .ref h6, .ref h7, .int 0, .ref h8, .ref h9, .ref h10, .int 0, .null, .int 0, .null, .int 0, .int 0, .int 0, .ref h11, .int 0, .ref h12, .ref h13, .ref h14, .int 0, .ref h15, .ref h16, .int 0])), (h7, .inl (g.2.1 0, 14, .inl f0))] sz) := by
  refine Met.ofW (cc := cX21_group) (maxL := 3) (ret := (some .int)) (by decide) rfl ?_
  intro p e s m args below meth c s₁ B hml hv
  obtain ⟨rfl, hsz, hP, hD0, hE⟩ := hv
  have hx := B.exec
  have hb := B.bytes
  have hr := B.returns
  have hts := atoms_spec (ws := w9_X21_group_8) B.pre
  have hown : s.vm.findClass RX21 = some m.cls := findClass_of_methodNamed B.named
  have hlocks := B.notSynchronized
  subst hsz
  have hD := hD0.self (sz := s.heap.size)
  generalize hAe : va_A [(h0, .inr (22, [.int 0, .ref h1, .int 0, .ref h2, .int 0, .ref h3, .int 250, .ref h4, .int 0, .ref h5, .ref h6, .ref h7, .int 0, .ref h8, .ref h9, .ref h10, .int 0, .null, .int 0, .null, .int 0, .int 0, .int 0, .ref h11, .int 0, .ref h12, .ref h13, .ref h14, .int 0, .ref h15, .ref h16, .int 0])), (h7, .inl (g.2.1 0, 14, .inl f0))] s.heap.size = A at hD hE ⊢
  have hA : ∀ q : Nat, s.heap.size ≤ q → A q := fun q h => by rw [← hAe]; exact Or.inr h
  have hK := hE.1
  have hS : va_S A s.heap s.heap [] := va_S.rf
  replace hP : va_P g.1 vwCl [(h0, .inr (22, [.int 0, .ref h1, .int 0, .ref h2, .int 0, .ref h3, .int 250, .ref h4, .int 0, .ref h5, .ref h6, .ref h7, .int 0, .ref h8, .ref h9, .ref h10, .int 0, .null, .int 0, .null, .int 0, .int 0, .int 0, .ref h11, .int 0, .ref h12, .ref h13, .ref h14, .int 0, .ref h15, .ref h16, .int 0])), (h7, .inl (g.2.1 0, 14, .inl f0))] s.heap := hP
  have hl := lv_entry ([.ref h0, .int 5, .int 1]) (n := 3) (Nat.le_of_ble_eq_true rfl)
  rw [lg_entry_eq]
  generalize (lg_sl ([.ref h0, .int 5, .int 1]) ++ List.replicate (3 - (lg_sl ([.ref h0, .int 5, .int 1])).length) Slot.unset).toArray = ls at hl ⊢
  replace hl : lv_has ls 3 [(0, .ref h0), (1, .int 5), (2, .int 1)] := hl
  have hH0 : s.heap.size ≤ s.heap.size := Nat.le_refl _
  refine lv_aload_n hx hb dX21_group_0 rfl (lv_at hl 0 rfl) ?_
  refine lv_iload_n hx hb dX21_group_1 rfl (lv_at hl 1 rfl) ?_
  refine lv_iconst (v := 0) hx hb dX21_group_2 (by decide) ?_
  refine lv_bipush (v := 6) hx hb dX21_group_3 (by decide) ?_
  have hPc := hP.sub (ws' := []) [] rfl
  have hDc := hD.sub (ws' := []) [] (by decide) rfl
  have hFc := va_free (wc := []) hD hS hA [] rfl
  refine va_calli (va_runS (As := [.int 5, .int 0, .int 6]) (rest := [.ref h0]) ⟨hx, hb, hml, hown, hts⟩ (c9_X21_in_21 l g _) (va_cwS 3 hts g9_X21_group_8_0 rfl rfl rfl (by decide +kernel) ⟨Nat.le_of_ble_eq_true rfl, Nat.le_of_ble_eq_true rfl⟩) (mPreS (g := g) (wc := []) hE hS hPc hDc hFc) rfl rfl hl.1 rfl (lv_room (Nat.le_of_ble_eq_true rfl)) dX21_group_5 ⟨Nat.le_of_ble_eq_true rfl, Nat.le_of_ble_eq_true rfl⟩) hS (fun q _ h => hFc q h) hFc (fun r_1 u t H1 locs ht hvm hw hB hz1 hk1 hS => ?_)
  replace hw : 1 = r_1 := Eq.symm hw
  subst hw
  obtain ⟨hP1, hD1⟩ := hB
  rw [ht] at hP1
  obtain ⟨hP, hD⟩ := va_join (wr := [(h0, .inr (22, [.int 0, .ref h1, .int 0, .ref h2, .int 0, .ref h3, .int 250, .ref h4, .int 0, .ref h5, .ref h6, .ref h7, .int 0, .ref h8, .ref h9, .ref h10, .int 0, .null, .int 0, .null, .int 0, .int 0, .int 0, .ref h11, .int 0, .ref h12, .ref h13, .ref h14, .int 0, .ref h15, .ref h16, .int 0])), (h7, .inl (g.2.1 0, 14, .inl f0))]) (w1 := []) hP hD [] [0, 1] rfl rfl (by decide) (by decide) hk1 hFc hP1 hD1
  clear hP1 hD1 hPc hDc hFc hk1 hz1 hvm ht
  generalize H1 = H at hP hS ⊢
  have hP : va_P g.1 vwCl [(h0, .inr (22, [.int 0, .ref h1, .int 0, .ref h2, .int 0, .ref h3, .int 250, .ref h4, .int 0, .ref h5, .ref h6, .ref h7, .int 0, .ref h8, .ref h9, .ref h10, .int 0, .null, .int 0, .null, .int 0, .int 0, .int 0, .ref h11, .int 0, .ref h12, .ref h13, .ref h14, .int 0, .ref h15, .ref h16, .int 0])), (h7, .inl (g.2.1 0, 14, .inl f0))] H := hP
  have hD : va_D A [(h0, .inr (22, [.int 0, .ref h1, .int 0, .ref h2, .int 0, .ref h3, .int 250, .ref h4, .int 0, .ref h5, .ref h6, .ref h7, .int 0, .ref h8, .ref h9, .ref h10, .int 0, .null, .int 0, .null, .int 0, .int 0, .int 0, .ref h11, .int 0, .ref h12, .ref h13, .ref h14, .int 0, .ref h15, .ref h16, .int 0])), (h7, .inl (g.2.1 0, 14, .inl f0))] := hD
  refine lv_if_eq (tgt := 15) hx hb dX21_group_8 (by decide) (fun c9 => absurd c9 (by decide)) (fun _ => ?_)
  refine lv_iconst (v := 0) hx hb dX21_group_11 (by decide) ?_
  refine lv_goto (tgt := 16) hx hb dX21_group_12 (by decide) ?_
  have hPc := hP.sub (ws' := [(h0, .inr (22, [.int 0, .ref h1, .int 0, .ref h2, .int 0, .ref h3, .int 250, .ref h4, .int 0, .ref h5, .ref h6, .ref h7, .int 0, .ref h8, .ref h9, .ref h10, .int 0, .null, .int 0, .null, .int 0, .int 0, .int 0, .ref h11, .int 0, .ref h12, .ref h13, .ref h14, .int 0, .ref h15, .ref h16, .int 0]))]) [0] rfl
  have hDc := hD.sub (ws' := [(h0, .inr (22, [.int 0, .ref h1, .int 0, .ref h2, .int 0, .ref h3, .int 250, .ref h4, .int 0, .ref h5, .ref h6, .ref h7, .int 0, .ref h8, .ref h9, .ref h10, .int 0, .null, .int 0, .null, .int 0, .int 0, .int 0, .ref h11, .int 0, .ref h12, .ref h13, .ref h14, .int 0, .ref h15, .ref h16, .int 0]))]) [0] (by decide) rfl
  have hFc := va_free (wc := [(h0, .inr (22, [.int 0, .ref h1, .int 0, .ref h2, .int 0, .ref h3, .int 250, .ref h4, .int 0, .ref h5, .ref h6, .ref h7, .int 0, .ref h8, .ref h9, .ref h10, .int 0, .null, .int 0, .null, .int 0, .int 0, .int 0, .ref h11, .int 0, .ref h12, .ref h13, .ref h14, .int 0, .ref h15, .ref h16, .int 0]))]) hD hS hA [0] rfl
  refine va_calli (va_runV (As := [.int 0]) (rest := []) ⟨hx, hb, hml, hown, hts⟩ (c9_X21_refused_1 l g h0 h1 h2 h3 h4 h5 h6 h7 h8 h9 h10 h11 h12 h13 h14 h15 h16 _) (cwV 1 hts g9_X21_group_8_1 rfl rfl rfl (by decide +kernel) ⟨Nat.le_of_ble_eq_true rfl, Nat.le_of_ble_eq_true rfl⟩) (mPreV (g := g) (wc := [(h0, .inr (22, [.int 0, .ref h1, .int 0, .ref h2, .int 0, .ref h3, .int 250, .ref h4, .int 0, .ref h5, .ref h6, .ref h7, .int 0, .ref h8, .ref h9, .ref h10, .int 0, .null, .int 0, .null, .int 0, .int 0, .int 0, .ref h11, .int 0, .ref h12, .ref h13, .ref h14, .int 0, .ref h15, .ref h16, .int 0]))]) (C := RX21) (ci := 22) (q0 := 0) hE hS hPc hDc hFc rfl rfl) rfl rfl hl.1 rfl (lv_room (Nat.le_of_ble_eq_true rfl)) dX21_group_16 ⟨Nat.le_of_ble_eq_true rfl, Nat.le_of_ble_eq_true rfl⟩) hS (fun q _ h => hFc q h) hFc (fun r_2 u t H1 locs ht hvm hw hB hz1 hk1 hS => ?_)
  replace hw : 0 = r_2 := Eq.symm hw
  subst hw
  obtain ⟨hP1, hD1⟩ := hB
  rw [ht] at hP1
  obtain ⟨hP, hD⟩ := va_join (wr := [(h7, .inl (g.2.1 0, 14, .inl f0))]) (w1 := [(h0, .inr (22, [.int 0, .ref h1, .int 0, .ref h2, .int 0, .ref h3, .int 250, .ref h4, .int 0, .ref h5, .ref h6, .ref h7, .int 0, .ref h8, .ref h9, .ref h10, .int 0, .null, .int 0, .null, .int 0, .int 0, .int 0, .ref h11, .int 0, .ref h12, .ref h13, .ref h14, .int 0, .ref h15, .ref h16, .int 0]))]) hP hD [0] [1] rfl rfl (by decide) (by decide) hk1 hFc hP1 hD1
  clear hP1 hD1 hPc hDc hFc hk1 hz1 hvm ht
  generalize H1 = H at hP hS ⊢
  have hP : va_P g.1 vwCl [(h7, .inl (g.2.1 0, 14, .inl f0)), (h0, .inr (22, [.int 0, .ref h1, .int 0, .ref h2, .int 0, .ref h3, .int 250, .ref h4, .int 0, .ref h5, .ref h6, .ref h7, .int 0, .ref h8, .ref h9, .ref h10, .int 0, .null, .int 0, .null, .int 0, .int 0, .int 0, .ref h11, .int 0, .ref h12, .ref h13, .ref h14, .int 0, .ref h15, .ref h16, .int 0]))] H := hP
  have hD : va_D A [(h7, .inl (g.2.1 0, 14, .inl f0)), (h0, .inr (22, [.int 0, .ref h1, .int 0, .ref h2, .int 0, .ref h3, .int 250, .ref h4, .int 0, .ref h5, .ref h6, .ref h7, .int 0, .ref h8, .ref h9, .ref h10, .int 0, .null, .int 0, .null, .int 0, .int 0, .int 0, .ref h11, .int 0, .ref h12, .ref h13, .ref h14, .int 0, .ref h15, .ref h16, .int 0]))] := hD
  refine lv_if_eq (tgt := 26) hx hb dX21_group_19 (by decide) (fun _ => ?_) (fun c9 => absurd (by decide) c9)
  refine lv_aload_n hx hb dX21_group_26 rfl (lv_at hl 0 rfl) ?_
  refine va_get (D := g.1) (ci := 22) (v := .ref h7) (C := RX21) (T := TX21) (N := 32) hx hb hts in9_X21_group_8_RX21 hown hK hP 1 rfl rfl 11 (by decide) (hts (.fieldLink RX21 107 "RegexloomModel" "told" "[I") (List.mem_of_getElem? (i := 10) rfl)) (fun _ h9 => h9) rfl dX21_group_27 ?_
  refine lv_iconst (v := 2) hx hb dX21_group_30 (by decide) ?_
  refine lv_iload_n hx hb dX21_group_31 rfl (lv_at hl 1 rfl) ?_
  refine lv_imul hx hb dX21_group_32 ?_
  refine e_top (y := 10) (by decide) ?_
  refine lv_iload_n hx hb dX21_group_33 rfl (lv_at hl 2 rfl) ?_
  refine lv_if_eq (tgt := 41) hx hb dX21_group_34 (by decide) (fun c9 => absurd c9 (by decide)) (fun _ => ?_)
  refine lv_iconst (v := 1) hx hb dX21_group_37 (by decide) ?_
  refine lv_goto (tgt := 42) hx hb dX21_group_38 (by decide) ?_
  refine lv_iadd hx hb dX21_group_42 ?_
  refine e_top (y := 11) (by decide) ?_
  refine va_iald hx hb hK hP 0 0 rfl rfl (vp_in_nI (n := 11) (by decide) (by decide)) dX21_group_43 ?_
  refine e_topv (y := .int (f0 11)) (by rfl) ?_
  have hP9 := hP.sub (ws' := [(h0, .inr (22, [.int 0, .ref h1, .int 0, .ref h2, .int 0, .ref h3, .int 250, .ref h4, .int 0, .ref h5, .ref h6, .ref h7, .int 0, .ref h8, .ref h9, .ref h10, .int 0, .null, .int 0, .null, .int 0, .int 0, .int 0, .ref h11, .int 0, .ref h12, .ref h13, .ref h14, .int 0, .ref h15, .ref h16, .int 0])), (h7, .inl (g.2.1 0, 14, .inl f0))]) [1, 0] rfl
  have hD9 := hD.sub (ws' := [(h0, .inr (22, [.int 0, .ref h1, .int 0, .ref h2, .int 0, .ref h3, .int 250, .ref h4, .int 0, .ref h5, .ref h6, .ref h7, .int 0, .ref h8, .ref h9, .ref h10, .int 0, .null, .int 0, .null, .int 0, .int 0, .int 0, .ref h11, .int 0, .ref h12, .ref h13, .ref h14, .int 0, .ref h15, .ref h16, .int 0])), (h7, .inl (g.2.1 0, 14, .inl f0))]) [1, 0] (by decide) rfl
  subst hAe
  exact W.iret (v := (f0 11)) hx hb hr (fun t ht hW => ⟨⟨(f0 11), (), rfl, rfl, by rw [ht]; exact hP9, hD9⟩, hS.F ht⟩) hS.2.2 dX21_group_44
def w9_X9_get_9 : List Cond := [.code yX9_get cX9_get 3 (some .int), .fieldLink RX9 28 "Regexloom$Table" "size" "I", .fieldLink RX9 9 "Regexloom$Table" "width" "I", .fieldLink RX9 24 "Regexloom$Table" "cells" "[I"] ++ (u_ws RX9 TX9 4)
set_option maxRecDepth 20000 in
theorem in9_X9_get_9_RX9 : ∀ w ∈ u_ws RX9 TX9 4, w ∈ w9_X9_get_9 := by decide +kernel
set_option maxHeartbeats 4000000 in
set_option maxRecDepth 100000 in
theorem c9_X9_get_9 (l : Launch) (g : G9) (h0 h1 sz : Nat) (f0 : Nat → Int32) : Met l yX9_get w9_X9_get_9 ({ frames := 0, cells := 0, slots := 0, locals := 0 }) (mP g [(h0, .inr (10, [.int 2, .int 7, .ref h1, .int 7])), (h1, .inl (g.2.1 0, 14, .inl f0))] sz [.ref h0, .int 6, .int 1]) (va_Qi (fun (r : Int32) (_ : Unit) => r = (f0 13)) (fun (_ : Unit) (t : State) => mB g [(h0, .inr (10, [.int 2, .int 7, .ref h1, .int 7])), (h1, .inl (g.2.1 0, 14, .inl f0))] sz [(h0, .inr (10, [.int 2, .int 7, .ref h1, .int 7])), (h1, .inl (g.2.1 0, 14, .inl f0))] t) (va_A [(h0, .inr (10, [.int 2, .int 7, .ref h1, .int 7])), (h1, .inl (g.2.1 0, 14, .inl f0))] sz)) 0 0 (va_A [(h0, .inr (10, [.int 2, .int 7, .ref h1, .int 7])), (h1, .inl (g.2.1 0, 14, .inl f0))] sz) := by
  refine Met.ofW (cc := cX9_get) (maxL := 3) (ret := (some .int)) (by decide) rfl ?_
  intro p e s m args below meth c s₁ B hml hv
  obtain ⟨rfl, hsz, hP, hD0, hE⟩ := hv
  have hx := B.exec
  have hb := B.bytes
  have hr := B.returns
  have hts := atoms_spec (ws := w9_X9_get_9) B.pre
  have hown : s.vm.findClass RX9 = some m.cls := findClass_of_methodNamed B.named
  have hlocks := B.notSynchronized
  subst hsz
  have hD := hD0.self (sz := s.heap.size)
  generalize hAe : va_A [(h0, .inr (10, [.int 2, .int 7, .ref h1, .int 7])), (h1, .inl (g.2.1 0, 14, .inl f0))] s.heap.size = A at hD hE ⊢
  have hA : ∀ q : Nat, s.heap.size ≤ q → A q := fun q h => by rw [← hAe]; exact Or.inr h
  have hK := hE.1
  have hS : va_S A s.heap s.heap [] := va_S.rf
  replace hP : va_P g.1 vwCl [(h0, .inr (10, [.int 2, .int 7, .ref h1, .int 7])), (h1, .inl (g.2.1 0, 14, .inl f0))] s.heap := hP
  have hl := lv_entry ([.ref h0, .int 6, .int 1]) (n := 3) (Nat.le_of_ble_eq_true rfl)
  rw [lg_entry_eq]
  generalize (lg_sl ([.ref h0, .int 6, .int 1]) ++ List.replicate (3 - (lg_sl ([.ref h0, .int 6, .int 1])).length) Slot.unset).toArray = ls at hl ⊢
  replace hl : lv_has ls 3 [(0, .ref h0), (1, .int 6), (2, .int 1)] := hl
  have hH0 : s.heap.size ≤ s.heap.size := Nat.le_refl _
  refine lv_iload_n hx hb dX9_get_0 rfl (lv_at hl 1 rfl) ?_
  refine lv_if_lt (tgt := 24) hx hb dX9_get_1 (by decide) (fun c9 => absurd c9 (by decide)) (fun _ => ?_)
  refine lv_iload_n hx hb dX9_get_4 rfl (lv_at hl 1 rfl) ?_
  refine lv_aload_n hx hb dX9_get_5 rfl (lv_at hl 0 rfl) ?_
  refine va_get (D := g.1) (ci := 10) (v := .int 7) (C := RX9) (T := TX9) (N := 4) hx hb hts in9_X9_get_9_RX9 hown hK hP 0 rfl rfl 3 (by decide) (hts (.fieldLink RX9 28 "Regexloom$Table" "size" "I") (List.mem_of_getElem? (i := 1) rfl)) (fun _ h9 => h9) rfl dX9_get_6 ?_
  refine lv_icmp_ge (tgt := 24) hx hb dX9_get_9 (by decide) (fun c9 => absurd c9 (by decide)) (fun _ => ?_)
  refine lv_iload_n hx hb dX9_get_12 rfl (lv_at hl 2 rfl) ?_
  refine lv_if_lt (tgt := 24) hx hb dX9_get_13 (by decide) (fun c9 => absurd c9 (by decide)) (fun _ => ?_)
  refine lv_iload_n hx hb dX9_get_16 rfl (lv_at hl 2 rfl) ?_
  refine lv_aload_n hx hb dX9_get_17 rfl (lv_at hl 0 rfl) ?_
  refine va_get (D := g.1) (ci := 10) (v := .int 2) (C := RX9) (T := TX9) (N := 4) hx hb hts in9_X9_get_9_RX9 hown hK hP 0 rfl rfl 0 (by decide) (hts (.fieldLink RX9 9 "Regexloom$Table" "width" "I") (List.mem_of_getElem? (i := 2) rfl)) (fun _ h9 => h9) rfl dX9_get_18 ?_
  refine lv_icmp_lt (tgt := 26) hx hb dX9_get_21 (by decide) (fun _ => ?_) (fun c9 => absurd (by decide) c9)
  refine lv_aload_n hx hb dX9_get_26 rfl (lv_at hl 0 rfl) ?_
  refine va_get (D := g.1) (ci := 10) (v := .ref h1) (C := RX9) (T := TX9) (N := 4) hx hb hts in9_X9_get_9_RX9 hown hK hP 0 rfl rfl 2 (by decide) (hts (.fieldLink RX9 24 "Regexloom$Table" "cells" "[I") (List.mem_of_getElem? (i := 3) rfl)) (fun _ h9 => h9) rfl dX9_get_27 ?_
  refine lv_iload_n hx hb dX9_get_30 rfl (lv_at hl 1 rfl) ?_
  refine lv_aload_n hx hb dX9_get_31 rfl (lv_at hl 0 rfl) ?_
  refine va_get (D := g.1) (ci := 10) (v := .int 2) (C := RX9) (T := TX9) (N := 4) hx hb hts in9_X9_get_9_RX9 hown hK hP 0 rfl rfl 0 (by decide) (hts (.fieldLink RX9 9 "Regexloom$Table" "width" "I") (List.mem_of_getElem? (i := 2) rfl)) (fun _ h9 => h9) rfl dX9_get_32 ?_
  refine lv_imul hx hb dX9_get_35 ?_
  refine e_top (y := 12) (by decide) ?_
  refine lv_iload_n hx hb dX9_get_36 rfl (lv_at hl 2 rfl) ?_
  refine lv_iadd hx hb dX9_get_37 ?_
  refine e_top (y := 13) (by decide) ?_
  refine va_iald hx hb hK hP 1 0 rfl rfl (vp_in_nI (n := 13) (by decide) (by decide)) dX9_get_38 ?_
  refine e_topv (y := .int (f0 13)) (by rfl) ?_
  have hP9 := hP.sub (ws' := [(h0, .inr (10, [.int 2, .int 7, .ref h1, .int 7])), (h1, .inl (g.2.1 0, 14, .inl f0))]) [0, 1] rfl
  have hD9 := hD.sub (ws' := [(h0, .inr (10, [.int 2, .int 7, .ref h1, .int 7])), (h1, .inl (g.2.1 0, 14, .inl f0))]) [0, 1] (by decide) rfl
  subst hAe
  exact W.iret (v := (f0 13)) hx hb hr (fun t ht hW => ⟨⟨(f0 13), (), rfl, rfl, by rw [ht]; exact hP9, hD9⟩, hS.F ht⟩) hS.2.2 dX9_get_39
def w9_X11_group_9 : List Cond := [.code yX11_group cX11_group 3 (some .int), .fieldLink RX11 78 "Regexloom" "bounds" "LRegexloom$Table;", .methodLink RX11 225 yX9_get, .instanceMethod yX9_get, .selects RX9 yX9_get yX9_get, .initialized RX9, .code yX9_get cX9_get 3 (some .int), .fieldLink RX9 28 "Regexloom$Table" "size" "I", .fieldLink RX9 9 "Regexloom$Table" "width" "I", .fieldLink RX9 24 "Regexloom$Table" "cells" "[I"] ++ (u_ws RX11 TX11 17 ++ u_ws RX9 TX9 4)
set_option maxRecDepth 20000 in
theorem in9_X11_group_9_RX11 : ∀ w ∈ u_ws RX11 TX11 17, w ∈ w9_X11_group_9 := by decide +kernel
set_option maxRecDepth 20000 in
theorem in9_X11_group_9_RX9 : ∀ w ∈ u_ws RX9 TX9 4, w ∈ w9_X11_group_9 := by decide +kernel
set_option maxRecDepth 20000 in
theorem g9_X11_group_9_0 : GoodIn w9_X11_group_9 (wsV RX11 225 RX9 yX9_get w9_X9_get_9) := goodIn_r _ [2, 3, 4, 5, 6, 7, 8, 9, 27, 28, 29, 30] (by decide +kernel) (by decide +kernel)
set_option maxHeartbeats 4000000 in
set_option maxRecDepth 100000 in
theorem c9_X11_group_9 (l : Launch) (g : G9) (h0 h1 h2 h3 h4 h5 h6 h7 h8 h9 h10 h11 h12 h13 h14 sz : Nat) (f0 : Nat → Int32) : Met l yX11_group w9_X11_group_9 ({ frames := 1, cells := 0, slots := 0, locals := 22 }) (mP g [(h0, .inr (12, [.ref h1, .int 0, .ref h2, .ref h3, .ref h4, .ref h5, .ref h6, .ref h7, .int (-1), .ref h8, .ref h9, .int 250, .ref h10, .int 0, .ref h11, .ref h12, .ref h13])), (h10, .inr (10, [.int 2, .int 7, .ref h14, .int 7])), (h14, .inl (g.2.1 0, 14, .inl f0))] sz [.ref h0, .int 6, .int 1]) (va_Qi (fun (r : Int32) (_ : Unit) => r = (f0 13)) (fun (_ : Unit) (t : State) => mB g [(h0, .inr (12, [.ref h1, .int 0, .ref h2, .ref h3, .ref h4, .ref h5, .ref h6, .ref h7, .int (-1), .ref h8, .ref h9, .int 250, .ref h10, .int 0, .ref h11, .ref h12, .ref h13])), (h10, .inr (10, [.int 2, .int 7, .ref h14, .int 7])), (h14, .inl (g.2.1 0, 14, .inl f0))] sz [(h0, .inr (12, [.ref h1, .int 0, .ref h2, .ref h3, .ref h4, .ref h5, .ref h6, .ref h7, .int (-1), .ref h8, .ref h9, .int 250, .ref h10, .int 0, .ref h11, .ref h12, .ref h13])), (h10, .inr (10, [.int 2, .int 7, .ref h14, .int 7])), (h14, .inl (g.2.1 0, 14, .inl f0))] t) (va_A [(h0, .inr (12, [.ref h1, .int 0, .ref h2, .ref h3, .ref h4, .ref h5, .ref h6, .ref h7, .int (-1), .ref h8, .ref h9, .int 250, .ref h10, .int 0, .ref h11, .ref h12, .ref h13])), (h10, .inr (10, [.int 2, .int 7, .ref h14, .int 7])), (h14, .inl (g.2.1 0, 14, .inl f0))] sz)) 0 0 (va_A [(h0, .inr (12, [.ref h1, .int 0, .ref h2, .ref h3, .ref h4, .ref h5, .ref h6, .ref h7, .int (-1), .ref h8, .ref h9, .int 250, .ref h10, .int 0, .ref h11, .ref h12, .ref h13])), (h10, .inr (10, [.int 2, .int 7, .ref h14, .int 7])), (h14, .inl (g.2.1 0, 14, .inl f0))] sz) := by
  refine Met.ofW (cc := cX11_group) (maxL := 3) (ret := (some .int)) (by decide) rfl ?_
  intro p e s m args below meth c s₁ B hml hv
  obtain ⟨rfl, hsz, hP, hD0, hE⟩ := hv
  have hx := B.exec
  have hb := B.bytes
  have hr := B.returns
  have hts := atoms_spec (ws := w9_X11_group_9) B.pre
  have hown : s.vm.findClass RX11 = some m.cls := findClass_of_methodNamed B.named
  have hlocks := B.notSynchronized
  subst hsz
  have hD := hD0.self (sz := s.heap.size)
  generalize hAe : va_A [(h0, .inr (12, [.ref h1, .int 0, .ref h2, .ref h3, .ref h4, .ref h5, .ref h6, .ref h7, .int (-1), .ref h8, .ref h9, .int 250, .ref h10, .int 0, .ref h11, .ref h12, .ref h13])), (h10, .inr (10, [.int 2, .int 7, .ref h14, .int 7])), (h14, .inl (g.2.1 0, 14, .inl f0))] s.heap.size = A at hD hE ⊢
  have hA : ∀ q : Nat, s.heap.size ≤ q → A q := fun q h => by rw [← hAe]; exact Or.inr h
  have hK := hE.1
  have hS : va_S A s.heap s.heap [] := va_S.rf
  replace hP : va_P g.1 vwCl [(h0, .inr (12, [.ref h1, .int 0, .ref h2, .ref h3, .ref h4, .ref h5, .ref h6, .ref h7, .int (-1), .ref h8, .ref h9, .int 250, .ref h10, .int 0, .ref h11, .ref h12, .ref h13])), (h10, .inr (10, [.int 2, .int 7, .ref h14, .int 7])), (h14, .inl (g.2.1 0, 14, .inl f0))] s.heap := hP
  have hl := lv_entry ([.ref h0, .int 6, .int 1]) (n := 3) (Nat.le_of_ble_eq_true rfl)
  rw [lg_entry_eq]
  generalize (lg_sl ([.ref h0, .int 6, .int 1]) ++ List.replicate (3 - (lg_sl ([.ref h0, .int 6, .int 1])).length) Slot.unset).toArray = ls at hl ⊢
  replace hl : lv_has ls 3 [(0, .ref h0), (1, .int 6), (2, .int 1)] := hl
  have hH0 : s.heap.size ≤ s.heap.size := Nat.le_refl _
  refine lv_iload_n hx hb dX11_group_0 rfl (lv_at hl 1 rfl) ?_
  refine lv_if_lt (tgt := 10) hx hb dX11_group_1 (by decide) (fun c9 => absurd c9 (by decide)) (fun _ => ?_)
  refine lv_iload_n hx hb dX11_group_4 rfl (lv_at hl 1 rfl) ?_
  refine lv_bipush (v := 6) hx hb dX11_group_5 (by decide) ?_
  refine lv_icmp_le (tgt := 20) hx hb dX11_group_7 (by decide) (fun _ => ?_) (fun c9 => absurd (by decide) c9)
  refine lv_aload_n hx hb dX11_group_20 rfl (lv_at hl 0 rfl) ?_
  refine va_get (D := g.1) (ci := 12) (v := .ref h10) (C := RX11) (T := TX11) (N := 17) hx hb hts in9_X11_group_9_RX11 hown hK hP 0 rfl rfl 12 (by decide) (hts (.fieldLink RX11 78 "Regexloom" "bounds" "LRegexloom$Table;") (List.mem_of_getElem? (i := 1) rfl)) (fun _ h9 => h9) rfl dX11_group_21 ?_
  refine lv_iload_n hx hb dX11_group_24 rfl (lv_at hl 1 rfl) ?_
  refine lv_iload_n hx hb dX11_group_25 rfl (lv_at hl 2 rfl) ?_
  refine lv_if_eq (tgt := 33) hx hb dX11_group_26 (by decide) (fun c9 => absurd c9 (by decide)) (fun _ => ?_)
  refine lv_iconst (v := 1) hx hb dX11_group_29 (by decide) ?_
  refine lv_goto (tgt := 34) hx hb dX11_group_30 (by decide) ?_
  have hPc := hP.sub (ws' := [(h10, .inr (10, [.int 2, .int 7, .ref h14, .int 7])), (h14, .inl (g.2.1 0, 14, .inl f0))]) [1, 2] rfl
  have hDc := hD.sub (ws' := [(h10, .inr (10, [.int 2, .int 7, .ref h14, .int 7])), (h14, .inl (g.2.1 0, 14, .inl f0))]) [1, 2] (by decide) rfl
  have hFc := va_free (wc := [(h10, .inr (10, [.int 2, .int 7, .ref h14, .int 7])), (h14, .inl (g.2.1 0, 14, .inl f0))]) hD hS hA [1, 2] rfl
  refine va_calli (va_runV (As := [.int 6, .int 1]) (rest := []) ⟨hx, hb, hml, hown, hts⟩ (c9_X9_get_9 l g h10 h14 _ f0) (cwV 2 hts g9_X11_group_9_0 rfl rfl rfl (by decide +kernel) ⟨Nat.le_of_ble_eq_true rfl, Nat.le_of_ble_eq_true rfl⟩) (mPreV (g := g) (wc := [(h10, .inr (10, [.int 2, .int 7, .ref h14, .int 7])), (h14, .inl (g.2.1 0, 14, .inl f0))]) (C := RX9) (ci := 10) (q0 := 0) hE hS hPc hDc hFc rfl rfl) rfl rfl hl.1 rfl (lv_room (Nat.le_of_ble_eq_true rfl)) dX11_group_34 ⟨Nat.le_of_ble_eq_true rfl, Nat.le_of_ble_eq_true rfl⟩) hS (fun q _ h => hFc q h) hFc (fun r_1 u t H1 locs ht hvm hw hB hz1 hk1 hS => ?_)
  replace hw : (f0 13) = r_1 := Eq.symm hw
  subst hw
  obtain ⟨hP1, hD1⟩ := hB
  rw [ht] at hP1
  obtain ⟨hP, hD⟩ := va_join (wr := [(h0, .inr (12, [.ref h1, .int 0, .ref h2, .ref h3, .ref h4, .ref h5, .ref h6, .ref h7, .int (-1), .ref h8, .ref h9, .int 250, .ref h10, .int 0, .ref h11, .ref h12, .ref h13]))]) (w1 := [(h10, .inr (10, [.int 2, .int 7, .ref h14, .int 7])), (h14, .inl (g.2.1 0, 14, .inl f0))]) hP hD [1, 2] [0] rfl rfl (by decide) (by decide) hk1 hFc hP1 hD1
  clear hP1 hD1 hPc hDc hFc hk1 hz1 hvm ht
  generalize H1 = H at hP hS ⊢
  have hP : va_P g.1 vwCl [(h0, .inr (12, [.ref h1, .int 0, .ref h2, .ref h3, .ref h4, .ref h5, .ref h6, .ref h7, .int (-1), .ref h8, .ref h9, .int 250, .ref h10, .int 0, .ref h11, .ref h12, .ref h13])), (h10, .inr (10, [.int 2, .int 7, .ref h14, .int 7])), (h14, .inl (g.2.1 0, 14, .inl f0))] H := hP
  have hD : va_D A [(h0, .inr (12, [.ref h1, .int 0, .ref h2, .ref h3, .ref h4, .ref h5, .ref h6, .ref h7, .int (-1), .ref h8, .ref h9, .int 250, .ref h10, .int 0, .ref h11, .ref h12, .ref h13])), (h10, .inr (10, [.int 2, .int 7, .ref h14, .int 7])), (h14, .inl (g.2.1 0, 14, .inl f0))] := hD
  refine e_top (y := (f0 13)) (by rfl) ?_
  have hP9 := hP.sub (ws' := [(h0, .inr (12, [.ref h1, .int 0, .ref h2, .ref h3, .ref h4, .ref h5, .ref h6, .ref h7, .int (-1), .ref h8, .ref h9, .int 250, .ref h10, .int 0, .ref h11, .ref h12, .ref h13])), (h10, .inr (10, [.int 2, .int 7, .ref h14, .int 7])), (h14, .inl (g.2.1 0, 14, .inl f0))]) [0, 1, 2] rfl
  have hD9 := hD.sub (ws' := [(h0, .inr (12, [.ref h1, .int 0, .ref h2, .ref h3, .ref h4, .ref h5, .ref h6, .ref h7, .int (-1), .ref h8, .ref h9, .int 250, .ref h10, .int 0, .ref h11, .ref h12, .ref h13])), (h10, .inr (10, [.int 2, .int 7, .ref h14, .int 7])), (h14, .inl (g.2.1 0, 14, .inl f0))]) [0, 1, 2] (by decide) rfl
  subst hAe
  exact W.iret (v := (f0 13)) hx hb hr (fun t ht hW => ⟨⟨(f0 13), (), rfl, rfl, by rw [ht]; exact hP9, hD9⟩, hS.F ht⟩) hS.2.2 dX11_group_37
def w9_L_group_10 : List Cond := [.codeWith yL_group cL_group 5 (some .int) [(0, 10, 13, 21)], .methodLink RL 47 yX11_group, .instanceMethod yX11_group, .selects RX11 yX11_group yX11_group, .initialized RX11, .code yX11_group cX11_group 3 (some .int), .fieldLink RX11 78 "Regexloom" "bounds" "LRegexloom$Table;", .methodLink RX11 225 yX9_get, .instanceMethod yX9_get, .selects RX9 yX9_get yX9_get, .initialized RX9, .code yX9_get cX9_get 3 (some .int), .fieldLink RX9 28 "Regexloom$Table" "size" "I", .fieldLink RX9 9 "Regexloom$Table" "width" "I", .fieldLink RX9 24 "Regexloom$Table" "cells" "[I"] ++ (u_ws RX11 TX11 17 ++ u_ws RX9 TX9 4)
set_option maxRecDepth 20000 in
theorem in9_L_group_10_RX11 : ∀ w ∈ u_ws RX11 TX11 17, w ∈ w9_L_group_10 := by decide +kernel
set_option maxRecDepth 20000 in
theorem in9_L_group_10_RX9 : ∀ w ∈ u_ws RX9 TX9 4, w ∈ w9_L_group_10 := by decide +kernel
set_option maxRecDepth 20000 in
theorem g9_L_group_10_0 : GoodIn w9_L_group_10 (wsV RL 47 RX11 yX11_group w9_X11_group_9) := goodIn_r _ [1, 2, 3, 4, 5, 6, 7, 8, 9, 10, 11, 12, 13, 14, 15, 16, 17, 18, 19, 20, 21, 22, 23, 24, 25, 26, 27, 28, 29, 30, 31, 32, 33, 34, 35] (by decide +kernel) (by decide +kernel)
set_option maxHeartbeats 4000000 in
set_option maxRecDepth 100000 in
theorem c9_L_group_10 (l : Launch) (g : G9) (h0 h1 h2 h3 h4 h5 h6 h7 h8 h9 h10 h11 h12 h13 h14 h15 sz : Nat) : Met l yL_group w9_L_group_10 ({ frames := 2, cells := 0, slots := 0, locals := 44 }) (mP g [(h0, .inr (12, [.ref h2, .int 0, .ref h3, .ref h4, .ref h5, .ref h6, .ref h7, .ref h8, .int (-1), .ref h9, .ref h10, .int 250, .ref h11, .int 0, .ref h12, .ref h13, .ref h14])), (h11, .inr (10, [.int 2, .int 7, .ref h15, .int 7])), (h15, .inl (g.2.1 0, 14, .inl (upd (upd (upd (upd (upd (upd (upd (upd (upd (upd (upd (upd (upd (upd (fun _ => 0) 0 (-1)) 1 (-1)) 2 (-1)) 3 (-1)) 4 (-1)) 5 (-1)) 6 (-1)) 7 (-1)) 8 (-1)) 9 (-1)) 10 (-1)) 11 (-1)) 12 (-1)) 13 (-1)))), (h1, .inl (g.2.1 2, 1, .inr (.inl (fun _ => 0))))] sz [.ref h0, .int 6, .int 1, .ref h1]) (va_Qi (fun (r : Int32) (_ : Unit) => r = 0) (fun (_ : Unit) (t : State) => mB g [(h0, .inr (12, [.ref h2, .int 0, .ref h3, .ref h4, .ref h5, .ref h6, .ref h7, .ref h8, .int (-1), .ref h9, .ref h10, .int 250, .ref h11, .int 0, .ref h12, .ref h13, .ref h14])), (h11, .inr (10, [.int 2, .int 7, .ref h15, .int 7])), (h15, .inl (g.2.1 0, 14, .inl (upd (upd (upd (upd (upd (upd (upd (upd (upd (upd (upd (upd (upd (upd (fun _ => 0) 0 (-1)) 1 (-1)) 2 (-1)) 3 (-1)) 4 (-1)) 5 (-1)) 6 (-1)) 7 (-1)) 8 (-1)) 9 (-1)) 10 (-1)) 11 (-1)) 12 (-1)) 13 (-1)))), (h1, .inl (g.2.1 2, 1, .inr (.inl (fun _ => 0))))] sz [(h0, .inr (12, [.ref h2, .int 0, .ref h3, .ref h4, .ref h5, .ref h6, .ref h7, .ref h8, .int (-1), .ref h9, .ref h10, .int 250, .ref h11, .int 0, .ref h12, .ref h13, .ref h14])), (h11, .inr (10, [.int 2, .int 7, .ref h15, .int 7])), (h15, .inl (g.2.1 0, 14, .inl (upd (upd (upd (upd (upd (upd (upd (upd (upd (upd (upd (upd (upd (upd (fun _ => 0) 0 (-1)) 1 (-1)) 2 (-1)) 3 (-1)) 4 (-1)) 5 (-1)) 6 (-1)) 7 (-1)) 8 (-1)) 9 (-1)) 10 (-1)) 11 (-1)) 12 (-1)) 13 (-1)))), (h1, .inl (g.2.1 2, 1, .inr (.inl (vp_updL (fun _ => 0) 0 (-1)))))] t) (va_A [(h0, .inr (12, [.ref h2, .int 0, .ref h3, .ref h4, .ref h5, .ref h6, .ref h7, .ref h8, .int (-1), .ref h9, .ref h10, .int 250, .ref h11, .int 0, .ref h12, .ref h13, .ref h14])), (h11, .inr (10, [.int 2, .int 7, .ref h15, .int 7])), (h15, .inl (g.2.1 0, 14, .inl (upd (upd (upd (upd (upd (upd (upd (upd (upd (upd (upd (upd (upd (upd (fun _ => 0) 0 (-1)) 1 (-1)) 2 (-1)) 3 (-1)) 4 (-1)) 5 (-1)) 6 (-1)) 7 (-1)) 8 (-1)) 9 (-1)) 10 (-1)) 11 (-1)) 12 (-1)) 13 (-1)))), (h1, .inl (g.2.1 2, 1, .inr (.inl (fun _ => 0))))] sz)) 0 0 (va_A [(h0, .inr (12, [.ref h2, .int 0, .ref h3, .ref h4, .ref h5, .ref h6, .ref h7, .ref h8, .int (-1), .ref h9, .ref h10, .int 250, .ref h11, .int 0, .ref h12, .ref h13, .ref h14])), (h11, .inr (10, [.int 2, .int 7, .ref h15, .int 7])), (h15, .inl (g.2.1 0, 14, .inl (upd (upd (upd (upd (upd (upd (upd (upd (upd (upd (upd (upd (upd (upd (fun _ => 0) 0 (-1)) 1 (-1)) 2 (-1)) 3 (-1)) 4 (-1)) 5 (-1)) 6 (-1)) 7 (-1)) 8 (-1)) 9 (-1)) 10 (-1)) 11 (-1)) 12 (-1)) 13 (-1)))), (h1, .inl (g.2.1 2, 1, .inr (.inl (fun _ => 0))))] sz) := by
  refine va_MetW (cc := cL_group) (maxL := 5) (ret := (some .int)) (by decide) rfl ?_
  intro p e s m args below meth c s₁ B hml hv
  obtain ⟨rfl, hsz, hP, hD0, hE⟩ := hv
  have hx := B.exec
  have hb := B.bytes
  have hr := B.returns
  have hts := atoms_spec (ws := w9_L_group_10) B.pre
  have hown : s.vm.findClass RL = some m.cls := findClass_of_methodNamed B.named
  have hlocks := B.notSynchronized
  have htab := vx_table (x := yL_group) B (hts (.codeWith yL_group cL_group 5 (some .int) [(0, 10, 13, 21)]) (List.mem_of_getElem? (i := 0) rfl))
  subst hsz
  have hD := hD0.self (sz := s.heap.size)
  generalize hAe : va_A [(h0, .inr (12, [.ref h2, .int 0, .ref h3, .ref h4, .ref h5, .ref h6, .ref h7, .ref h8, .int (-1), .ref h9, .ref h10, .int 250, .ref h11, .int 0, .ref h12, .ref h13, .ref h14])), (h11, .inr (10, [.int 2, .int 7, .ref h15, .int 7])), (h15, .inl (g.2.1 0, 14, .inl (upd (upd (upd (upd (upd (upd (upd (upd (upd (upd (upd (upd (upd (upd (fun _ => 0) 0 (-1)) 1 (-1)) 2 (-1)) 3 (-1)) 4 (-1)) 5 (-1)) 6 (-1)) 7 (-1)) 8 (-1)) 9 (-1)) 10 (-1)) 11 (-1)) 12 (-1)) 13 (-1)))), (h1, .inl (g.2.1 2, 1, .inr (.inl (fun _ => 0))))] s.heap.size = A at hD hE ⊢
  have hA : ∀ q : Nat, s.heap.size ≤ q → A q := fun q h => by rw [← hAe]; exact Or.inr h
  have hK := hE.1
  have hS : va_S A s.heap s.heap [] := va_S.rf
  replace hP : va_P g.1 vwCl [(h0, .inr (12, [.ref h2, .int 0, .ref h3, .ref h4, .ref h5, .ref h6, .ref h7, .ref h8, .int (-1), .ref h9, .ref h10, .int 250, .ref h11, .int 0, .ref h12, .ref h13, .ref h14])), (h11, .inr (10, [.int 2, .int 7, .ref h15, .int 7])), (h15, .inl (g.2.1 0, 14, .inl (upd (upd (upd (upd (upd (upd (upd (upd (upd (upd (upd (upd (upd (upd (fun _ => 0) 0 (-1)) 1 (-1)) 2 (-1)) 3 (-1)) 4 (-1)) 5 (-1)) 6 (-1)) 7 (-1)) 8 (-1)) 9 (-1)) 10 (-1)) 11 (-1)) 12 (-1)) 13 (-1)))), (h1, .inl (g.2.1 2, 1, .inr (.inl (fun _ => 0))))] s.heap := hP
  have hl := lv_entry ([.ref h0, .int 6, .int 1, .ref h1]) (n := 5) (Nat.le_of_ble_eq_true rfl)
  rw [lg_entry_eq]
  generalize (lg_sl ([.ref h0, .int 6, .int 1, .ref h1]) ++ List.replicate (5 - (lg_sl ([.ref h0, .int 6, .int 1, .ref h1])).length) Slot.unset).toArray = ls at hl ⊢
  replace hl : lv_has ls 5 [(0, .ref h0), (1, .int 6), (2, .int 1), (3, .ref h1)] := hl
  have hH0 : s.heap.size ≤ s.heap.size := Nat.le_refl _
  refine lv_aload_n hx hb dL_group_0 rfl (lv_at hl 3 rfl) ?_
  refine lv_iconst (v := 0) hx hb dL_group_1 (by decide) ?_
  refine lv_aload_n hx hb dL_group_2 rfl (lv_at hl 0 rfl) ?_
  refine lv_iload_n hx hb dL_group_3 rfl (lv_at hl 1 rfl) ?_
  refine lv_iload_n hx hb dL_group_4 rfl (lv_at hl 2 rfl) ?_
  have hPc := hP.sub (ws' := [(h0, .inr (12, [.ref h2, .int 0, .ref h3, .ref h4, .ref h5, .ref h6, .ref h7, .ref h8, .int (-1), .ref h9, .ref h10, .int 250, .ref h11, .int 0, .ref h12, .ref h13, .ref h14])), (h11, .inr (10, [.int 2, .int 7, .ref h15, .int 7])), (h15, .inl (g.2.1 0, 14, .inl (upd (upd (upd (upd (upd (upd (upd (upd (upd (upd (upd (upd (upd (upd (fun _ => 0) 0 (-1)) 1 (-1)) 2 (-1)) 3 (-1)) 4 (-1)) 5 (-1)) 6 (-1)) 7 (-1)) 8 (-1)) 9 (-1)) 10 (-1)) 11 (-1)) 12 (-1)) 13 (-1))))]) [0, 1, 2] rfl
  have hDc := hD.sub (ws' := [(h0, .inr (12, [.ref h2, .int 0, .ref h3, .ref h4, .ref h5, .ref h6, .ref h7, .ref h8, .int (-1), .ref h9, .ref h10, .int 250, .ref h11, .int 0, .ref h12, .ref h13, .ref h14])), (h11, .inr (10, [.int 2, .int 7, .ref h15, .int 7])), (h15, .inl (g.2.1 0, 14, .inl (upd (upd (upd (upd (upd (upd (upd (upd (upd (upd (upd (upd (upd (upd (fun _ => 0) 0 (-1)) 1 (-1)) 2 (-1)) 3 (-1)) 4 (-1)) 5 (-1)) 6 (-1)) 7 (-1)) 8 (-1)) 9 (-1)) 10 (-1)) 11 (-1)) 12 (-1)) 13 (-1))))]) [0, 1, 2] (by decide) rfl
  have hFc := va_free (wc := [(h0, .inr (12, [.ref h2, .int 0, .ref h3, .ref h4, .ref h5, .ref h6, .ref h7, .ref h8, .int (-1), .ref h9, .ref h10, .int 250, .ref h11, .int 0, .ref h12, .ref h13, .ref h14])), (h11, .inr (10, [.int 2, .int 7, .ref h15, .int 7])), (h15, .inl (g.2.1 0, 14, .inl (upd (upd (upd (upd (upd (upd (upd (upd (upd (upd (upd (upd (upd (upd (fun _ => 0) 0 (-1)) 1 (-1)) 2 (-1)) 3 (-1)) 4 (-1)) 5 (-1)) 6 (-1)) 7 (-1)) 8 (-1)) 9 (-1)) 10 (-1)) 11 (-1)) 12 (-1)) 13 (-1))))]) hD hS hA [0, 1, 2] rfl
  refine va_calli (va_runV (As := [.int 6, .int 1]) (rest := [.int 0, .ref h1]) ⟨hx, hb, hml, hown, hts⟩ (c9_X11_group_9 l g h0 h2 h3 h4 h5 h6 h7 h8 h9 h10 h11 h12 h13 h14 h15 _ (upd (upd (upd (upd (upd (upd (upd (upd (upd (upd (upd (upd (upd (upd (fun _ => 0) 0 (-1)) 1 (-1)) 2 (-1)) 3 (-1)) 4 (-1)) 5 (-1)) 6 (-1)) 7 (-1)) 8 (-1)) 9 (-1)) 10 (-1)) 11 (-1)) 12 (-1)) 13 (-1))) (cwV 2 hts g9_L_group_10_0 rfl rfl rfl (by decide +kernel) ⟨Nat.le_of_ble_eq_true rfl, Nat.le_of_ble_eq_true rfl⟩) (mPreV (g := g) (wc := [(h0, .inr (12, [.ref h2, .int 0, .ref h3, .ref h4, .ref h5, .ref h6, .ref h7, .ref h8, .int (-1), .ref h9, .ref h10, .int 250, .ref h11, .int 0, .ref h12, .ref h13, .ref h14])), (h11, .inr (10, [.int 2, .int 7, .ref h15, .int 7])), (h15, .inl (g.2.1 0, 14, .inl (upd (upd (upd (upd (upd (upd (upd (upd (upd (upd (upd (upd (upd (upd (fun _ => 0) 0 (-1)) 1 (-1)) 2 (-1)) 3 (-1)) 4 (-1)) 5 (-1)) 6 (-1)) 7 (-1)) 8 (-1)) 9 (-1)) 10 (-1)) 11 (-1)) 12 (-1)) 13 (-1))))]) (C := RX11) (ci := 12) (q0 := 0) hE hS hPc hDc hFc rfl rfl) rfl rfl hl.1 rfl (lv_room (Nat.le_of_ble_eq_true rfl)) dL_group_5 ⟨Nat.le_of_ble_eq_true rfl, Nat.le_of_ble_eq_true rfl⟩) hS (fun q _ h => hFc q h) hFc (fun r_1 u t H1 locs ht hvm hw hB hz1 hk1 hS => ?_)
  replace hw : ((upd (upd (upd (upd (upd (upd (upd (upd (upd (upd (upd (upd (upd (upd (fun _ => 0) 0 (-1)) 1 (-1)) 2 (-1)) 3 (-1)) 4 (-1)) 5 (-1)) 6 (-1)) 7 (-1)) 8 (-1)) 9 (-1)) 10 (-1)) 11 (-1)) 12 (-1)) 13 (-1)) 13) = r_1 := Eq.symm hw
  subst hw
  obtain ⟨hP1, hD1⟩ := hB
  rw [ht] at hP1
  obtain ⟨hP, hD⟩ := va_join (wr := [(h1, .inl (g.2.1 2, 1, .inr (.inl (fun _ => 0))))]) (w1 := [(h0, .inr (12, [.ref h2, .int 0, .ref h3, .ref h4, .ref h5, .ref h6, .ref h7, .ref h8, .int (-1), .ref h9, .ref h10, .int 250, .ref h11, .int 0, .ref h12, .ref h13, .ref h14])), (h11, .inr (10, [.int 2, .int 7, .ref h15, .int 7])), (h15, .inl (g.2.1 0, 14, .inl (upd (upd (upd (upd (upd (upd (upd (upd (upd (upd (upd (upd (upd (upd (fun _ => 0) 0 (-1)) 1 (-1)) 2 (-1)) 3 (-1)) 4 (-1)) 5 (-1)) 6 (-1)) 7 (-1)) 8 (-1)) 9 (-1)) 10 (-1)) 11 (-1)) 12 (-1)) 13 (-1))))]) hP hD [0, 1, 2] [3] rfl rfl (by decide) (by decide) hk1 hFc hP1 hD1
  clear hP1 hD1 hPc hDc hFc hk1 hz1 hvm ht
  generalize H1 = H at hP hS ⊢
  have hP : va_P g.1 vwCl [(h1, .inl (g.2.1 2, 1, .inr (.inl (fun _ => 0)))), (h0, .inr (12, [.ref h2, .int 0, .ref h3, .ref h4, .ref h5, .ref h6, .ref h7, .ref h8, .int (-1), .ref h9, .ref h10, .int 250, .ref h11, .int 0, .ref h12, .ref h13, .ref h14])), (h11, .inr (10, [.int 2, .int 7, .ref h15, .int 7])), (h15, .inl (g.2.1 0, 14, .inl (upd (upd (upd (upd (upd (upd (upd (upd (upd (upd (upd (upd (upd (upd (fun _ => 0) 0 (-1)) 1 (-1)) 2 (-1)) 3 (-1)) 4 (-1)) 5 (-1)) 6 (-1)) 7 (-1)) 8 (-1)) 9 (-1)) 10 (-1)) 11 (-1)) 12 (-1)) 13 (-1))))] H := hP
  have hD : va_D A [(h1, .inl (g.2.1 2, 1, .inr (.inl (fun _ => 0)))), (h0, .inr (12, [.ref h2, .int 0, .ref h3, .ref h4, .ref h5, .ref h6, .ref h7, .ref h8, .int (-1), .ref h9, .ref h10, .int 250, .ref h11, .int 0, .ref h12, .ref h13, .ref h14])), (h11, .inr (10, [.int 2, .int 7, .ref h15, .int 7])), (h15, .inl (g.2.1 0, 14, .inl (upd (upd (upd (upd (upd (upd (upd (upd (upd (upd (upd (upd (upd (upd (fun _ => 0) 0 (-1)) 1 (-1)) 2 (-1)) 3 (-1)) 4 (-1)) 5 (-1)) 6 (-1)) 7 (-1)) 8 (-1)) 9 (-1)) 10 (-1)) 11 (-1)) 12 (-1)) 13 (-1))))] := hD
  refine e_top (y := (-1)) (by rfl) ?_
  refine lv_i2l (v := (-1)) hx hb dL_group_8 (by decide) ?_
  refine va_last hx hb hK hP hD hS 0 2 rfl rfl (vp_in_nI (n := 0) (by decide) (by decide)) dL_group_9 (fun H locs hP hD hS => ?_)
  have hP : va_P g.1 vwCl [(h1, .inl (g.2.1 2, 1, .inr (.inl (vp_updL (fun _ => 0) 0 (-1))))), (h0, .inr (12, [.ref h2, .int 0, .ref h3, .ref h4, .ref h5, .ref h6, .ref h7, .ref h8, .int (-1), .ref h9, .ref h10, .int 250, .ref h11, .int 0, .ref h12, .ref h13, .ref h14])), (h11, .inr (10, [.int 2, .int 7, .ref h15, .int 7])), (h15, .inl (g.2.1 0, 14, .inl (upd (upd (upd (upd (upd (upd (upd (upd (upd (upd (upd (upd (upd (upd (fun _ => 0) 0 (-1)) 1 (-1)) 2 (-1)) 3 (-1)) 4 (-1)) 5 (-1)) 6 (-1)) 7 (-1)) 8 (-1)) 9 (-1)) 10 (-1)) 11 (-1)) 12 (-1)) 13 (-1))))] H := hP
  have hD : va_D A [(h1, .inl (g.2.1 2, 1, .inr (.inl (vp_updL (fun _ => 0) 0 (-1))))), (h0, .inr (12, [.ref h2, .int 0, .ref h3, .ref h4, .ref h5, .ref h6, .ref h7, .ref h8, .int (-1), .ref h9, .ref h10, .int 250, .ref h11, .int 0, .ref h12, .ref h13, .ref h14])), (h11, .inr (10, [.int 2, .int 7, .ref h15, .int 7])), (h15, .inl (g.2.1 0, 14, .inl (upd (upd (upd (upd (upd (upd (upd (upd (upd (upd (upd (upd (upd (upd (fun _ => 0) 0 (-1)) 1 (-1)) 2 (-1)) 3 (-1)) 4 (-1)) 5 (-1)) 6 (-1)) 7 (-1)) 8 (-1)) 9 (-1)) 10 (-1)) 11 (-1)) 12 (-1)) 13 (-1))))] := hD
  refine lv_goto (tgt := 17) hx hb dL_group_10 (by decide) ?_
  refine lv_iconst (v := 0) hx hb dL_group_17 (by decide) ?_
  have hP9 := hP.sub (ws' := [(h0, .inr (12, [.ref h2, .int 0, .ref h3, .ref h4, .ref h5, .ref h6, .ref h7, .ref h8, .int (-1), .ref h9, .ref h10, .int 250, .ref h11, .int 0, .ref h12, .ref h13, .ref h14])), (h11, .inr (10, [.int 2, .int 7, .ref h15, .int 7])), (h15, .inl (g.2.1 0, 14, .inl (upd (upd (upd (upd (upd (upd (upd (upd (upd (upd (upd (upd (upd (upd (fun _ => 0) 0 (-1)) 1 (-1)) 2 (-1)) 3 (-1)) 4 (-1)) 5 (-1)) 6 (-1)) 7 (-1)) 8 (-1)) 9 (-1)) 10 (-1)) 11 (-1)) 12 (-1)) 13 (-1)))), (h1, .inl (g.2.1 2, 1, .inr (.inl (vp_updL (fun _ => 0) 0 (-1)))))]) [1, 2, 3, 0] rfl
  have hD9 := hD.sub (ws' := [(h0, .inr (12, [.ref h2, .int 0, .ref h3, .ref h4, .ref h5, .ref h6, .ref h7, .ref h8, .int (-1), .ref h9, .ref h10, .int 250, .ref h11, .int 0, .ref h12, .ref h13, .ref h14])), (h11, .inr (10, [.int 2, .int 7, .ref h15, .int 7])), (h15, .inl (g.2.1 0, 14, .inl (upd (upd (upd (upd (upd (upd (upd (upd (upd (upd (upd (upd (upd (upd (fun _ => 0) 0 (-1)) 1 (-1)) 2 (-1)) 3 (-1)) 4 (-1)) 5 (-1)) 6 (-1)) 7 (-1)) 8 (-1)) 9 (-1)) 10 (-1)) 11 (-1)) 12 (-1)) 13 (-1)))), (h1, .inl (g.2.1 2, 1, .inr (.inl (vp_updL (fun _ => 0) 0 (-1)))))]) [1, 2, 3, 0] (by decide) rfl
  subst hAe
  exact W.iret (v := 0) hx hb hr (fun t ht hW => ⟨⟨0, (), rfl, rfl, by rw [ht]; exact hP9, hD9⟩, hS.F ht⟩) hS.2.2 dL_group_18
def w9_X21_in_22 : List Cond := [.code yX21_in cX21_in 3 (some .boolean)]
set_option maxHeartbeats 4000000 in
set_option maxRecDepth 100000 in
theorem c9_X21_in_22 (l : Launch) (g : G9) (sz : Nat) : Met l yX21_in w9_X21_in_22 ({ frames := 0, cells := 0, slots := 0, locals := 0 }) (mP g [] sz [.int 6, .int 0, .int 6]) (va_Qi (fun (r : Int32) (_ : Unit) => r = 1) (fun (_ : Unit) (t : State) => mB g [] sz [] t) (va_A [] sz)) 0 0 (va_A [] sz) := by
  refine Met.ofW (cc := cX21_in) (maxL := 3) (ret := (some .boolean)) (by decide) rfl ?_
  intro p e s m args below meth c s₁ B hml hv
  obtain ⟨rfl, hsz, hP, hD0, hE⟩ := hv
  have hx := B.exec
  have hb := B.bytes
  have hr := B.returns
  have hts := atoms_spec (ws := w9_X21_in_22) B.pre
  have hown : s.vm.findClass RX21 = some m.cls := findClass_of_methodNamed B.named
  have hlocks := B.notSynchronized
  subst hsz
  have hD := hD0.self (sz := s.heap.size)
  generalize hAe : va_A [] s.heap.size = A at hD hE ⊢
  have hA : ∀ q : Nat, s.heap.size ≤ q → A q := fun q h => by rw [← hAe]; exact Or.inr h
  have hK := hE.1
  have hS : va_S A s.heap s.heap [] := va_S.rf
  replace hP : va_P g.1 vwCl [] s.heap := hP
  have hl := lv_entry ([.int 6, .int 0, .int 6]) (n := 3) (Nat.le_of_ble_eq_true rfl)
  rw [lg_entry_eq]
  generalize (lg_sl ([.int 6, .int 0, .int 6]) ++ List.replicate (3 - (lg_sl ([.int 6, .int 0, .int 6])).length) Slot.unset).toArray = ls at hl ⊢
  replace hl : lv_has ls 3 [(0, .int 6), (1, .int 0), (2, .int 6)] := hl
  have hH0 : s.heap.size ≤ s.heap.size := Nat.le_refl _
  refine lv_iload_n hx hb dX21_in_0 rfl (lv_at hl 0 rfl) ?_
  refine lv_iload_n hx hb dX21_in_1 rfl (lv_at hl 1 rfl) ?_
  refine lv_icmp_lt (tgt := 14) hx hb dX21_in_2 (by decide) (fun c9 => absurd c9 (by decide)) (fun _ => ?_)
  refine lv_iload_n hx hb dX21_in_5 rfl (lv_at hl 0 rfl) ?_
  refine lv_iload_n hx hb dX21_in_6 rfl (lv_at hl 2 rfl) ?_
  refine lv_icmp_gt (tgt := 14) hx hb dX21_in_7 (by decide) (fun c9 => absurd c9 (by decide)) (fun _ => ?_)
  refine lv_iconst (v := 1) hx hb dX21_in_10 (by decide) ?_
  refine lv_goto (tgt := 15) hx hb dX21_in_11 (by decide) ?_
  have hP9 := hP.sub (ws' := []) [] rfl
  have hD9 := hD.sub (ws' := []) [] (by decide) rfl
  subst hAe
  exact W.zret (v := 1) hx hb hr (by decide) (fun t ht hW => ⟨⟨1, (), rfl, rfl, by rw [ht]; exact hP9, hD9⟩, hS.F ht⟩) hS.2.2 dX21_in_15
def w9_X21_group_9 : List Cond := [.code yX21_group cX21_group 3 (some .int), .methodLink RX21 160 yX21_in, .static yX21_in, .initialized RX21, .code yX21_in cX21_in 3 (some .boolean), .methodLink RX21 154 yX21_refused, .instanceMethod yX21_refused, .selects RX21 yX21_refused yX21_refused, .code yX21_refused cX21_refused 2 (some .boolean), .fieldLink RX21 144 "RegexloomModel" "refusal" "I", .fieldLink RX21 107 "RegexloomModel" "told" "[I"] ++ (u_ws RX21 TX21 32)
set_option maxRecDepth 20000 in
theorem in9_X21_group_9_RX21 : ∀ w ∈ u_ws RX21 TX21 32, w ∈ w9_X21_group_9 := by decide +kernel
set_option maxRecDepth 20000 in
theorem g9_X21_group_9_0 : GoodIn w9_X21_group_9 (va_wsS RX21 160 yX21_in w9_X21_in_22) := goodIn_r _ [1, 2, 3, 4] (by decide +kernel) (by decide +kernel)
set_option maxRecDepth 20000 in
theorem g9_X21_group_9_1 : GoodIn w9_X21_group_9 (wsV RX21 154 RX21 yX21_refused w9_X21_refused_1) := goodIn_r _ [5, 6, 7, 3, 8, 9, 11, 12, 13, 14, 15, 16, 17, 18, 19, 20, 21, 22, 23, 24, 25, 26, 27, 28, 29, 30, 31, 32, 33, 34, 35, 36, 37, 38, 39, 40, 41, 42] (by decide +kernel) (by decide +kernel)
set_option maxHeartbeats 4000000 in
set_option maxRecDepth 100000 in
theorem c9_X21_group_9 (l : Launch) (g : G9) (h0 h1 h2 h3 h4 h5 h6 h7 h8 h9 h10 h11 h12 h13 h14 h15 h16 sz : Nat) (f0 : Nat → Int32) : Met l yX21_group w9_X21_group_9 ({ frames := 1, cells := 0, slots := 0, locals := 22 }) (mP g [(h0, .inr (22, [.int 0, .ref h1, .int 0, .ref h2, .int 0, .ref h3, .int 250, .ref h4, .int 0, .ref h5, .ref h6, .ref h7, .int 0, .ref h8, .ref h9, .ref h10, .int 0, .null, .int 0, .null, .int 0, .int 0, .int 0, .ref h11, .int 0, .ref h12, .ref h13, .ref h14, .int 0, .ref h15, .ref h16, .int 0])), (h7, .inl (g.2.1 0, 14, .inl f0))] sz [.ref h0, .int 6, .int 1]) (va_Qi (fun (r : Int32) (_ : Unit) => r = (f0 13)) (fun (_ : Unit) (t : State) => mB g [(h0, .inr (22, [.int 0, .ref h1, .int 0, .ref h2, .int 0, .ref h3, .int 250, .ref h4, .int 0, .ref h5, .ref h6, .ref h7, .int 0, .ref h8, .ref h9, .ref h10, .int 0, .null, .int 0, .null, .int 0, .int 0, .int 0, .ref h11, .int 0, .ref h12, .ref h13, .ref h14, .int 0, .ref h15, .ref h16, .int 0])), (h7, .inl (g.2.1 0, 14, .inl f0))] sz [(h0, .inr (22, [.int 0, .ref h1, .int 0, .ref h2, .int 0, .ref h3, .int 250, .ref h4, .int 0, .ref h5, .ref h6, .ref h7, .int 0, .ref h8, .ref h9, .ref h10, .int 0, .null, .int 0, .null, .int 0, .int 0, .int 0, .ref h11, .int 0, .ref h12, .ref h13, .ref h14, .int 0, .ref h15, .ref h16, .int 0])), (h7, .inl (g.2.1 0, 14, .inl f0))] t) (va_A [(h0, .inr (22, [.int 0, .ref h1, .int 0, .ref h2, .int 0, .ref h3, .int 250, .ref h4, .int 0, .ref h5, .ref h6, .ref h7, .int 0, .ref h8, .ref h9, .ref h10, .int 0, .null, .int 0, .null, .int 0, .int 0, .int 0, .ref h11, .int 0, .ref h12, .ref h13, .ref h14, .int 0, .ref h15, .ref h16, .int 0])), (h7, .inl (g.2.1 0, 14, .inl f0))] sz)) 0 0 (va_A [(h0, .inr (22, [.int 0, .ref h1, .int 0, .ref h2, .int 0, .ref h3, .int 250, .ref h4, .int 0, .ref h5, .ref h6, .ref h7, .int 0, .ref h8, .ref h9, .ref h10, .int 0, .null, .int 0, .null, .int 0, .int 0, .int 0, .ref h11, .int 0, .ref h12, .ref h13, .ref h14, .int 0, .ref h15, .ref h16, .int 0])), (h7, .inl (g.2.1 0, 14, .inl f0))] sz) := by
  refine Met.ofW (cc := cX21_group) (maxL := 3) (ret := (some .int)) (by decide) rfl ?_
  intro p e s m args below meth c s₁ B hml hv
  obtain ⟨rfl, hsz, hP, hD0, hE⟩ := hv
  have hx := B.exec
  have hb := B.bytes
  have hr := B.returns
  have hts := atoms_spec (ws := w9_X21_group_9) B.pre
  have hown : s.vm.findClass RX21 = some m.cls := findClass_of_methodNamed B.named
  have hlocks := B.notSynchronized
  subst hsz
  have hD := hD0.self (sz := s.heap.size)
  generalize hAe : va_A [(h0, .inr (22, [.int 0, .ref h1, .int 0, .ref h2, .int 0, .ref h3, .int 250, .ref h4, .int 0, .ref h5, .ref h6, .ref h7, .int 0, .ref h8, .ref h9, .ref h10, .int 0, .null, .int 0, .null, .int 0, .int 0, .int 0, .ref h11, .int 0, .ref h12, .ref h13, .ref h14, .int 0, .ref h15, .ref h16, .int 0])), (h7, .inl (g.2.1 0, 14, .inl f0))] s.heap.size = A at hD hE ⊢
  have hA : ∀ q : Nat, s.heap.size ≤ q → A q := fun q h => by rw [← hAe]; exact Or.inr h
  have hK := hE.1
  have hS : va_S A s.heap s.heap [] := va_S.rf
  replace hP : va_P g.1 vwCl [(h0, .inr (22, [.int 0, .ref h1, .int 0, .ref h2, .int 0, .ref h3, .int 250, .ref h4, .int 0, .ref h5, .ref h6, .ref h7, .int 0, .ref h8, .ref h9, .ref h10, .int 0, .null, .int 0, .null, .int 0, .int 0, .int 0, .ref h11, .int 0, .ref h12, .ref h13, .ref h14, .int 0, .ref h15, .ref h16, .int 0])), (h7, .inl (g.2.1 0, 14, .inl f0))] s.heap := hP
  have hl := lv_entry ([.ref h0, .int 6, .int 1]) (n := 3) (Nat.le_of_ble_eq_true rfl)
  rw [lg_entry_eq]
  generalize (lg_sl ([.ref h0, .int 6, .int 1]) ++ List.replicate (3 - (lg_sl ([.ref h0, .int 6, .int 1])).length) Slot.unset).toArray = ls at hl ⊢
  replace hl : lv_has ls 3 [(0, .ref h0), (1, .int 6), (2, .int 1)] := hl
  have hH0 : s.heap.size ≤ s.heap.size := Nat.le_refl _
  refine lv_aload_n hx hb dX21_group_0 rfl (lv_at hl 0 rfl) ?_
  refine lv_iload_n hx hb dX21_group_1 rfl (lv_at hl 1 rfl) ?_
  refine lv_iconst (v := 0) hx hb dX21_group_2 (by decide) ?_
  refine lv_bipush (v := 6) hx hb dX21_group_3 (by decide) ?_
  have hPc := hP.sub (ws' := []) [] rfl
  have hDc := hD.sub (ws' := []) [] (by decide) rfl
  have hFc := va_free (wc := []) hD hS hA [] rfl
  refine va_calli (va_runS (As := [.int 6, .int 0, .int 6]) (rest := [.ref h0]) ⟨hx, hb, hml, hown, hts⟩ (c9_X21_in_22 l g _) (va_cwS 3 hts g9_X21_group_9_0 rfl rfl rfl (by decide +kernel) ⟨Nat.le_of_ble_eq_true rfl, Nat.le_of_ble_eq_true rfl⟩) (mPreS (g := g) (wc := []) hE hS hPc hDc hFc) rfl rfl hl.1 rfl (lv_room (Nat.le_of_ble_eq_true rfl)) dX21_group_5 ⟨Nat.le_of_ble_eq_true rfl, Nat.le_of_ble_eq_true rfl⟩) hS (fun q _ h => hFc q h) hFc (fun r_1 u t H1 locs ht hvm hw hB hz1 hk1 hS => ?_)
  replace hw : 1 = r_1 := Eq.symm hw
  subst hw
  obtain ⟨hP1, hD1⟩ := hB
  rw [ht] at hP1
  obtain ⟨hP, hD⟩ := va_join (wr := [(h0, .inr (22, [.int 0, .ref h1, .int 0, .ref h2, .int 0, .ref h3, .int 250, .ref h4, .int 0, .ref h5, .ref h6, .ref h7, .int 0, .ref h8, .ref h9, .ref h10, .int 0, .null, .int 0, .null, .int 0, .int 0, .int 0, .ref h11, .int 0, .ref h12, .ref h13, .ref h14, .int 0, .ref h15, .ref h16, .int 0])), (h7, .inl (g.2.1 0, 14, .inl f0))]) (w1 := []) hP hD [] [0, 1] rfl rfl (by decide) (by decide) hk1 hFc hP1 hD1
  clear hP1 hD1 hPc hDc hFc hk1 hz1 hvm ht
  generalize H1 = H at hP hS ⊢
  have hP : va_P g.1 vwCl [(h0, .inr (22, [.int 0, .ref h1, .int 0, .ref h2, .int 0, .ref h3, .int 250, .ref h4, .int 0, .ref h5, .ref h6, .ref h7, .int 0, .ref h8, .ref h9, .ref h10, .int 0, .null, .int 0, .null, .int 0, .int 0, .int 0, .ref h11, .int 0, .ref h12, .ref h13, .ref h14, .int 0, .ref h15, .ref h16, .int 0])), (h7, .inl (g.2.1 0, 14, .inl f0))] H := hP
  have hD : va_D A [(h0, .inr (22, [.int 0, .ref h1, .int 0, .ref h2, .int 0, .ref h3, .int 250, .ref h4, .int 0, .ref h5, .ref h6, .ref h7, .int 0, .ref h8, .ref h9, .ref h10, .int 0, .null, .int 0, .null, .int 0, .int 0, .int 0, .ref h11, .int 0, .ref h12, .ref h13, .ref h14, .int 0, .ref h15, .ref h16, .int 0])), (h7, .inl (g.2.1 0, 14, .inl f0))] := hD
  refine lv_if_eq (tgt := 15) hx hb dX21_group_8 (by decide) (fun c9 => absurd c9 (by decide)) (fun _ => ?_)
  refine lv_iconst (v := 0) hx hb dX21_group_11 (by decide) ?_
  refine lv_goto (tgt := 16) hx hb dX21_group_12 (by decide) ?_
  have hPc := hP.sub (ws' := [(h0, .inr (22, [.int 0, .ref h1, .int 0, .ref h2, .int 0, .ref h3, .int 250, .ref h4, .int 0, .ref h5, .ref h6, .ref h7, .int 0, .ref h8, .ref h9, .ref h10, .int 0, .null, .int 0, .null, .int 0, .int 0, .int 0, .ref h11, .int 0, .ref h12, .ref h13, .ref h14, .int 0, .ref h15, .ref h16, .int 0]))]) [0] rfl
  have hDc := hD.sub (ws' := [(h0, .inr (22, [.int 0, .ref h1, .int 0, .ref h2, .int 0, .ref h3, .int 250, .ref h4, .int 0, .ref h5, .ref h6, .ref h7, .int 0, .ref h8, .ref h9, .ref h10, .int 0, .null, .int 0, .null, .int 0, .int 0, .int 0, .ref h11, .int 0, .ref h12, .ref h13, .ref h14, .int 0, .ref h15, .ref h16, .int 0]))]) [0] (by decide) rfl
  have hFc := va_free (wc := [(h0, .inr (22, [.int 0, .ref h1, .int 0, .ref h2, .int 0, .ref h3, .int 250, .ref h4, .int 0, .ref h5, .ref h6, .ref h7, .int 0, .ref h8, .ref h9, .ref h10, .int 0, .null, .int 0, .null, .int 0, .int 0, .int 0, .ref h11, .int 0, .ref h12, .ref h13, .ref h14, .int 0, .ref h15, .ref h16, .int 0]))]) hD hS hA [0] rfl
  refine va_calli (va_runV (As := [.int 0]) (rest := []) ⟨hx, hb, hml, hown, hts⟩ (c9_X21_refused_1 l g h0 h1 h2 h3 h4 h5 h6 h7 h8 h9 h10 h11 h12 h13 h14 h15 h16 _) (cwV 1 hts g9_X21_group_9_1 rfl rfl rfl (by decide +kernel) ⟨Nat.le_of_ble_eq_true rfl, Nat.le_of_ble_eq_true rfl⟩) (mPreV (g := g) (wc := [(h0, .inr (22, [.int 0, .ref h1, .int 0, .ref h2, .int 0, .ref h3, .int 250, .ref h4, .int 0, .ref h5, .ref h6, .ref h7, .int 0, .ref h8, .ref h9, .ref h10, .int 0, .null, .int 0, .null, .int 0, .int 0, .int 0, .ref h11, .int 0, .ref h12, .ref h13, .ref h14, .int 0, .ref h15, .ref h16, .int 0]))]) (C := RX21) (ci := 22) (q0 := 0) hE hS hPc hDc hFc rfl rfl) rfl rfl hl.1 rfl (lv_room (Nat.le_of_ble_eq_true rfl)) dX21_group_16 ⟨Nat.le_of_ble_eq_true rfl, Nat.le_of_ble_eq_true rfl⟩) hS (fun q _ h => hFc q h) hFc (fun r_2 u t H1 locs ht hvm hw hB hz1 hk1 hS => ?_)
  replace hw : 0 = r_2 := Eq.symm hw
  subst hw
  obtain ⟨hP1, hD1⟩ := hB
  rw [ht] at hP1
  obtain ⟨hP, hD⟩ := va_join (wr := [(h7, .inl (g.2.1 0, 14, .inl f0))]) (w1 := [(h0, .inr (22, [.int 0, .ref h1, .int 0, .ref h2, .int 0, .ref h3, .int 250, .ref h4, .int 0, .ref h5, .ref h6, .ref h7, .int 0, .ref h8, .ref h9, .ref h10, .int 0, .null, .int 0, .null, .int 0, .int 0, .int 0, .ref h11, .int 0, .ref h12, .ref h13, .ref h14, .int 0, .ref h15, .ref h16, .int 0]))]) hP hD [0] [1] rfl rfl (by decide) (by decide) hk1 hFc hP1 hD1
  clear hP1 hD1 hPc hDc hFc hk1 hz1 hvm ht
  generalize H1 = H at hP hS ⊢
  have hP : va_P g.1 vwCl [(h7, .inl (g.2.1 0, 14, .inl f0)), (h0, .inr (22, [.int 0, .ref h1, .int 0, .ref h2, .int 0, .ref h3, .int 250, .ref h4, .int 0, .ref h5, .ref h6, .ref h7, .int 0, .ref h8, .ref h9, .ref h10, .int 0, .null, .int 0, .null, .int 0, .int 0, .int 0, .ref h11, .int 0, .ref h12, .ref h13, .ref h14, .int 0, .ref h15, .ref h16, .int 0]))] H := hP
  have hD : va_D A [(h7, .inl (g.2.1 0, 14, .inl f0)), (h0, .inr (22, [.int 0, .ref h1, .int 0, .ref h2, .int 0, .ref h3, .int 250, .ref h4, .int 0, .ref h5, .ref h6, .ref h7, .int 0, .ref h8, .ref h9, .ref h10, .int 0, .null, .int 0, .null, .int 0, .int 0, .int 0, .ref h11, .int 0, .ref h12, .ref h13, .ref h14, .int 0, .ref h15, .ref h16, .int 0]))] := hD
  refine lv_if_eq (tgt := 26) hx hb dX21_group_19 (by decide) (fun _ => ?_) (fun c9 => absurd (by decide) c9)
  refine lv_aload_n hx hb dX21_group_26 rfl (lv_at hl 0 rfl) ?_
  refine va_get (D := g.1) (ci := 22) (v := .ref h7) (C := RX21) (T := TX21) (N := 32) hx hb hts in9_X21_group_9_RX21 hown hK hP 1 rfl rfl 11 (by decide) (hts (.fieldLink RX21 107 "RegexloomModel" "told" "[I") (List.mem_of_getElem? (i := 10) rfl)) (fun _ h9 => h9) rfl dX21_group_27 ?_
  refine lv_iconst (v := 2) hx hb dX21_group_30 (by decide) ?_
  refine lv_iload_n hx hb dX21_group_31 rfl (lv_at hl 1 rfl) ?_
  refine lv_imul hx hb dX21_group_32 ?_
  refine e_top (y := 12) (by decide) ?_
  refine lv_iload_n hx hb dX21_group_33 rfl (lv_at hl 2 rfl) ?_
  refine lv_if_eq (tgt := 41) hx hb dX21_group_34 (by decide) (fun c9 => absurd c9 (by decide)) (fun _ => ?_)
  refine lv_iconst (v := 1) hx hb dX21_group_37 (by decide) ?_
  refine lv_goto (tgt := 42) hx hb dX21_group_38 (by decide) ?_
  refine lv_iadd hx hb dX21_group_42 ?_
  refine e_top (y := 13) (by decide) ?_
  refine va_iald hx hb hK hP 0 0 rfl rfl (vp_in_nI (n := 13) (by decide) (by decide)) dX21_group_43 ?_
  refine e_topv (y := .int (f0 13)) (by rfl) ?_
  have hP9 := hP.sub (ws' := [(h0, .inr (22, [.int 0, .ref h1, .int 0, .ref h2, .int 0, .ref h3, .int 250, .ref h4, .int 0, .ref h5, .ref h6, .ref h7, .int 0, .ref h8, .ref h9, .ref h10, .int 0, .null, .int 0, .null, .int 0, .int 0, .int 0, .ref h11, .int 0, .ref h12, .ref h13, .ref h14, .int 0, .ref h15, .ref h16, .int 0])), (h7, .inl (g.2.1 0, 14, .inl f0))]) [1, 0] rfl
  have hD9 := hD.sub (ws' := [(h0, .inr (22, [.int 0, .ref h1, .int 0, .ref h2, .int 0, .ref h3, .int 250, .ref h4, .int 0, .ref h5, .ref h6, .ref h7, .int 0, .ref h8, .ref h9, .ref h10, .int 0, .null, .int 0, .null, .int 0, .int 0, .int 0, .ref h11, .int 0, .ref h12, .ref h13, .ref h14, .int 0, .ref h15, .ref h16, .int 0])), (h7, .inl (g.2.1 0, 14, .inl f0))]) [1, 0] (by decide) rfl
  subst hAe
  exact W.iret (v := (f0 13)) hx hb hr (fun t ht hW => ⟨⟨(f0 13), (), rfl, rfl, by rw [ht]; exact hP9, hD9⟩, hS.F ht⟩) hS.2.2 dX21_group_44
def w9_X11_found_1 : List Cond := [.code yX11_found cX11_found 3 (some .int), .initialized "java/lang/Throwable", .superclass "java/lang/Throwable" "java/lang/Object", .instanceMethod Bundle.tFill, .codeSync Bundle.tFill LibCode.Throwable.Fill.code 1 (some (.object "java/lang/Throwable")), .instanceMethod Bundle.tFill0, .native Bundle.tFill0, .instanceMethod Bundle.tInit0, .code Bundle.tInit0 LibCode.Throwable.Init0.code 1 none, .instanceMethod Bundle.oInit, .code Bundle.oInit ⟨#[0xb1]⟩ 1 none, .methodLink "java/lang/Throwable" 1 Bundle.oInit, .methodLink "java/lang/Throwable" 27 Bundle.tFill, .methodLink "java/lang/Throwable" 202 Bundle.tFill0, .fieldLink "java/lang/Throwable" 7 "java/lang/Throwable" "cause" "Ljava/lang/Throwable;", .lays "java/lang/Throwable" "java/lang/Throwable" "cause" "Ljava/lang/Throwable;", .fieldLink "java/lang/Throwable" 17 "java/lang/Throwable" "stackTrace" "[Ljava/lang/StackTraceElement;", .lays "java/lang/Throwable" "java/lang/Throwable" "stackTrace" "[Ljava/lang/StackTraceElement;", .fieldLink "java/lang/Throwable" 24 "java/lang/Throwable" "suppressedExceptions" "Ljava/util/List;", .lays "java/lang/Throwable" "java/lang/Throwable" "suppressedExceptions" "Ljava/util/List;", .fieldLink "java/lang/Throwable" 13 "java/lang/Throwable" "UNASSIGNED_STACK" "[Ljava/lang/StackTraceElement;", .fieldLink "java/lang/Throwable" 20 "java/lang/Throwable" "SUPPRESSED_SENTINEL" "Ljava/util/List;", .lays "java/lang/Throwable" "java/lang/Throwable" "detailMessage" "Ljava/lang/String;", .instanceMethod (Bundle.initS "java/lang/Throwable"), .code (Bundle.initS "java/lang/Throwable") LibCode.Throwable.InitS.code 2 none, .fieldLink "java/lang/Throwable" 31 "java/lang/Throwable" "detailMessage" "Ljava/lang/String;", .instanceMethod (Bundle.initS "java/lang/IndexOutOfBoundsException"), .code (Bundle.initS "java/lang/IndexOutOfBoundsException") Bundle.six 2 none, .methodLink "java/lang/IndexOutOfBoundsException" 7 (Bundle.initS "java/lang/RuntimeException"), .instanceMethod (Bundle.initS "java/lang/RuntimeException"), .code (Bundle.initS "java/lang/RuntimeException") Bundle.six 2 none, .methodLink "java/lang/RuntimeException" 7 (Bundle.initS "java/lang/Exception"), .instanceMethod (Bundle.initS "java/lang/Exception"), .code (Bundle.initS "java/lang/Exception") Bundle.six 2 none, .methodLink "java/lang/Exception" 7 (Bundle.initS "java/lang/Throwable"), .methodLink RX11 224 (Bundle.initS "java/lang/IndexOutOfBoundsException"), .instantiable "java/lang/IndexOutOfBoundsException" 6, .selects "java/lang/IndexOutOfBoundsException" Bundle.tFill0 Bundle.tFill0, .selects "java/lang/IndexOutOfBoundsException" Bundle.tFill Bundle.tFill, .lays "java/lang/IndexOutOfBoundsException" "java/lang/Throwable" "cause" "Ljava/lang/Throwable;", .lays "java/lang/IndexOutOfBoundsException" "java/lang/Throwable" "stackTrace" "[Ljava/lang/StackTraceElement;", .lays "java/lang/IndexOutOfBoundsException" "java/lang/Throwable" "suppressedExceptions" "Ljava/util/List;", .lays "java/lang/IndexOutOfBoundsException" "java/lang/Throwable" "detailMessage" "Ljava/lang/String;", .fieldLink "java/lang/Throwable" 198 "java/lang/Throwable" "backtrace" "Ljava/lang/Object;", .lays "java/lang/Throwable" "java/lang/Throwable" "backtrace" "Ljava/lang/Object;", .lays "java/lang/IndexOutOfBoundsException" "java/lang/Throwable" "backtrace" "Ljava/lang/Object;", .classLink RX11 220 "java/lang/IndexOutOfBoundsException", .initialized "java/lang/IndexOutOfBoundsException"]
set_option maxHeartbeats 4000000 in
set_option maxRecDepth 100000 in
theorem c9_X11_found_1 (l : Launch) (hlt : l.stackTraces = false) (g : G9) (h0 h1 h2 h3 h4 h5 h6 h7 h8 h9 h10 h11 h12 h13 sz : Nat) (v0 : Int32) (k_v0 : (-2147483648) ≤ v0.toInt ∧ v0.toInt ≤ (-1)) : vx_Met l yX11_found w9_X11_found_1 ({ frames := 6, cells := 1, slots := 6, locals := 82 }) (mP g [(h0, .inr (12, [.ref h1, .int 0, .ref h2, .ref h3, .ref h4, .ref h5, .ref h6, .ref h7, .int (-1), .ref h8, .ref h9, .int 250, .ref h10, .int 0, .ref h11, .ref h12, .ref h13]))] sz [.ref h0, .int v0, .int 1]) (va_Qv (fun _ : Unit => False) (fun _ _ => True) (va_A [(h0, .inr (12, [.ref h1, .int 0, .ref h2, .ref h3, .ref h4, .ref h5, .ref h6, .ref h7, .int (-1), .ref h8, .ref h9, .int 250, .ref h10, .int 0, .ref h11, .ref h12, .ref h13]))] sz)) (mT g [(h0, .inr (12, [.ref h1, .int 0, .ref h2, .ref h3, .ref h4, .ref h5, .ref h6, .ref h7, .int (-1), .ref h8, .ref h9, .int 250, .ref h10, .int 0, .ref h11, .ref h12, .ref h13]))] sz "java/lang/IndexOutOfBoundsException") 1 6 (va_A [(h0, .inr (12, [.ref h1, .int 0, .ref h2, .ref h3, .ref h4, .ref h5, .ref h6, .ref h7, .int (-1), .ref h8, .ref h9, .int 250, .ref h10, .int 0, .ref h11, .ref h12, .ref h13]))] sz) := by
  refine vx_ofW (cc := cX11_found) (maxL := 3) (ret := (some .int)) (by decide) rfl ?_
  intro p e s m args below meth c s₁ B hml hno hv
  obtain ⟨rfl, hsz, hP, hD0, hE⟩ := hv
  have hx := B.exec
  have hb := B.bytes
  have hr := B.returns
  have hts := atoms_spec (ws := w9_X11_found_1) B.pre
  have hown : s.vm.findClass RX11 = some m.cls := findClass_of_methodNamed B.named
  have hlocks := B.notSynchronized
  subst hsz
  have hD := hD0.self (sz := s.heap.size)
  generalize hAe : va_A [(h0, .inr (12, [.ref h1, .int 0, .ref h2, .ref h3, .ref h4, .ref h5, .ref h6, .ref h7, .int (-1), .ref h8, .ref h9, .int 250, .ref h10, .int 0, .ref h11, .ref h12, .ref h13]))] s.heap.size = A at hD hE ⊢
  have hA : ∀ q : Nat, s.heap.size ≤ q → A q := fun q h => by rw [← hAe]; exact Or.inr h
  have hK := hE.1
  have hS : va_S A s.heap s.heap [] := va_S.rf
  replace hP : va_P g.1 vwCl [(h0, .inr (12, [.ref h1, .int 0, .ref h2, .ref h3, .ref h4, .ref h5, .ref h6, .ref h7, .int (-1), .ref h8, .ref h9, .int 250, .ref h10, .int 0, .ref h11, .ref h12, .ref h13]))] s.heap := hP
  have hl := lv_entry ([.ref h0, .int v0, .int 1]) (n := 3) (Nat.le_of_ble_eq_true rfl)
  rw [lg_entry_eq]
  generalize (lg_sl ([.ref h0, .int v0, .int 1]) ++ List.replicate (3 - (lg_sl ([.ref h0, .int v0, .int 1])).length) Slot.unset).toArray = ls at hl ⊢
  replace hl : lv_has ls 3 [(0, .ref h0), (1, .int v0), (2, .int 1)] := hl
  have hH0 : s.heap.size ≤ s.heap.size := Nat.le_refl _
  refine lv_iload_n hx hb dX11_found_0 rfl (lv_at hl 1 rfl) ?_
  refine lv_if_lt (tgt := 15) hx hb dX11_found_1 (by decide) (fun _ => ?_) (fun c9 => absurd (by simp only [Int32.lt_iff_toInt_lt, Int32.le_iff_toInt_le, ← Int32.toInt_inj, show (0 : Int32).toInt = 0 from by decide]; omega) c9)
  obtain ⟨sa, hsa⟩ := hE.str (245, "no such match") (by decide)
  exact vx_throwS (names := ["java/lang/RuntimeException", "java/lang/Exception"]) (A := A) hx hb hlt hown (by decide) (by decide) (hts (.classLink RX11 220 "java/lang/IndexOutOfBoundsException") (List.mem_of_getElem? (i := 46) rfl)) (hts (.initialized "java/lang/IndexOutOfBoundsException") (List.mem_of_getElem? (i := 47) rfl)) hsa (vx_hat (B := [.castable "java/lang/IndexOutOfBoundsException" "java/lang/IndexOutOfBoundsException", .declares (Bundle.initS "java/lang/RuntimeException"), .declares (Bundle.initS "java/lang/Exception"), .declares (Bundle.initS "java/lang/Throwable")]) (fun w9 hw9 => hts w9 (by revert w9; decide +kernel)) (by decide +kernel) (vx_c (va_Nw.use rfl (hE.cast ("java/lang/IndexOutOfBoundsException", "java/lang/IndexOutOfBoundsException") (by decide))) (vx_c (va_Nw.use rfl (hE.decl _ (by decide))) (vx_c (va_Nw.use rfl (hE.decl _ (by decide))) (vx_c (va_Nw.use rfl (hE.decl _ (by decide))) vx_n))))) (by decide +kernel) hE.zu hE.zn hS (by rw [hml]; exact hl.1) dX11_found_15 dX11_found_18 dX11_found_19 dX11_found_21 dX11_found_24 (fun z hz => (hno z hz).elim) (Nat.le_of_ble_eq_true rfl) (Nat.le_of_ble_eq_true rfl) (Nat.le_of_ble_eq_true rfl) (Nat.le_of_ble_eq_true rfl) hlocks (fun t hW hz ho => ⟨(), trivial, rfl, by subst hAe; exact ⟨Nat.le_trans hS.1 hz, fun q h1 h2 => (ho q (Nat.lt_of_lt_of_le h1 hS.1)).trans (hS.2.1 q h1 h2)⟩⟩) (fun z hz => by subst hAe; exact hS.2.2 z hz) (Nat.le_of_ble_eq_true rfl) (Nat.le_of_ble_eq_true rfl)
def w9_L_found_1 : List Cond := [.codeWith yL_found cL_found 5 (some .int) [(0, 10, 13, 21)], .methodLink RL 68 yX11_found, .instanceMethod yX11_found, .selects RX11 yX11_found yX11_found, .initialized RX11, .code yX11_found cX11_found 3 (some .int), .initialized "java/lang/Throwable", .superclass "java/lang/Throwable" "java/lang/Object", .instanceMethod Bundle.tFill, .codeSync Bundle.tFill LibCode.Throwable.Fill.code 1 (some (.object "java/lang/Throwable")), .instanceMethod Bundle.tFill0, .native Bundle.tFill0, .instanceMethod Bundle.tInit0, .code Bundle.tInit0 LibCode.Throwable.Init0.code 1 none, .instanceMethod Bundle.oInit, .code Bundle.oInit ⟨#[0xb1]⟩ 1 none, .methodLink "java/lang/Throwable" 1 Bundle.oInit, .methodLink "java/lang/Throwable" 27 Bundle.tFill, .methodLink "java/lang/Throwable" 202 Bundle.tFill0, .fieldLink "java/lang/Throwable" 7 "java/lang/Throwable" "cause" "Ljava/lang/Throwable;", .lays "java/lang/Throwable" "java/lang/Throwable" "cause" "Ljava/lang/Throwable;", .fieldLink "java/lang/Throwable" 17 "java/lang/Throwable" "stackTrace" "[Ljava/lang/StackTraceElement;", .lays "java/lang/Throwable" "java/lang/Throwable" "stackTrace" "[Ljava/lang/StackTraceElement;", .fieldLink "java/lang/Throwable" 24 "java/lang/Throwable" "suppressedExceptions" "Ljava/util/List;", .lays "java/lang/Throwable" "java/lang/Throwable" "suppressedExceptions" "Ljava/util/List;", .fieldLink "java/lang/Throwable" 13 "java/lang/Throwable" "UNASSIGNED_STACK" "[Ljava/lang/StackTraceElement;", .fieldLink "java/lang/Throwable" 20 "java/lang/Throwable" "SUPPRESSED_SENTINEL" "Ljava/util/List;", .lays "java/lang/Throwable" "java/lang/Throwable" "detailMessage" "Ljava/lang/String;", .instanceMethod (Bundle.initS "java/lang/Throwable"), .code (Bundle.initS "java/lang/Throwable") LibCode.Throwable.InitS.code 2 none, .fieldLink "java/lang/Throwable" 31 "java/lang/Throwable" "detailMessage" "Ljava/lang/String;", .instanceMethod (Bundle.initS "java/lang/IndexOutOfBoundsException"), .code (Bundle.initS "java/lang/IndexOutOfBoundsException") Bundle.six 2 none, .methodLink "java/lang/IndexOutOfBoundsException" 7 (Bundle.initS "java/lang/RuntimeException"), .instanceMethod (Bundle.initS "java/lang/RuntimeException"), .code (Bundle.initS "java/lang/RuntimeException") Bundle.six 2 none, .methodLink "java/lang/RuntimeException" 7 (Bundle.initS "java/lang/Exception"), .instanceMethod (Bundle.initS "java/lang/Exception"), .code (Bundle.initS "java/lang/Exception") Bundle.six 2 none, .methodLink "java/lang/Exception" 7 (Bundle.initS "java/lang/Throwable"), .methodLink RX11 224 (Bundle.initS "java/lang/IndexOutOfBoundsException"), .instantiable "java/lang/IndexOutOfBoundsException" 6, .selects "java/lang/IndexOutOfBoundsException" Bundle.tFill0 Bundle.tFill0, .selects "java/lang/IndexOutOfBoundsException" Bundle.tFill Bundle.tFill, .lays "java/lang/IndexOutOfBoundsException" "java/lang/Throwable" "cause" "Ljava/lang/Throwable;", .lays "java/lang/IndexOutOfBoundsException" "java/lang/Throwable" "stackTrace" "[Ljava/lang/StackTraceElement;", .lays "java/lang/IndexOutOfBoundsException" "java/lang/Throwable" "suppressedExceptions" "Ljava/util/List;", .lays "java/lang/IndexOutOfBoundsException" "java/lang/Throwable" "detailMessage" "Ljava/lang/String;", .fieldLink "java/lang/Throwable" 198 "java/lang/Throwable" "backtrace" "Ljava/lang/Object;", .lays "java/lang/Throwable" "java/lang/Throwable" "backtrace" "Ljava/lang/Object;", .lays "java/lang/IndexOutOfBoundsException" "java/lang/Throwable" "backtrace" "Ljava/lang/Object;", .classLink RX11 220 "java/lang/IndexOutOfBoundsException", .initialized "java/lang/IndexOutOfBoundsException", .classLink RL 21 "java/lang/IndexOutOfBoundsException"]
set_option maxRecDepth 20000 in
theorem g9_L_found_1_0 : GoodIn w9_L_found_1 (wsV RL 68 RX11 yX11_found w9_X11_found_1) := goodIn_r _ [1, 2, 3, 4, 5, 6, 7, 8, 9, 10, 11, 12, 13, 14, 15, 16, 17, 18, 19, 20, 21, 22, 23, 24, 25, 26, 27, 28, 29, 30, 31, 32, 33, 34, 35, 36, 37, 38, 39, 40, 41, 42, 43, 44, 45, 46, 47, 48, 49, 50, 51, 52] (by decide +kernel) (by decide +kernel)
set_option maxHeartbeats 4000000 in
set_option maxRecDepth 100000 in
theorem c9_L_found_1 (l : Launch) (hlt : l.stackTraces = false) (g : G9) (h0 h1 h2 h3 h4 h5 h6 h7 h8 h9 h10 h11 h12 h13 h14 sz : Nat) (v0 : Int32) (k_v0 : (-2147483648) ≤ v0.toInt ∧ v0.toInt ≤ (-1)) : Met l yL_found w9_L_found_1 ({ frames := 7, cells := 1, slots := 6, locals := 104 }) (mP g [(h0, .inr (12, [.ref h2, .int 0, .ref h3, .ref h4, .ref h5, .ref h6, .ref h7, .ref h8, .int (-1), .ref h9, .ref h10, .int 250, .ref h11, .int 0, .ref h12, .ref h13, .ref h14]))] sz [.ref h0, .int v0, .int 1, .ref h1]) (va_Qi (fun (r : Int32) (_ : Unit) => r = 1) (fun (_ : Unit) (t : State) => mB g [(h0, .inr (12, [.ref h2, .int 0, .ref h3, .ref h4, .ref h5, .ref h6, .ref h7, .ref h8, .int (-1), .ref h9, .ref h10, .int 250, .ref h11, .int 0, .ref h12, .ref h13, .ref h14]))] sz [] t) (va_A [(h0, .inr (12, [.ref h2, .int 0, .ref h3, .ref h4, .ref h5, .ref h6, .ref h7, .ref h8, .int (-1), .ref h9, .ref h10, .int 250, .ref h11, .int 0, .ref h12, .ref h13, .ref h14]))] sz)) 1 6 (va_A [(h0, .inr (12, [.ref h2, .int 0, .ref h3, .ref h4, .ref h5, .ref h6, .ref h7, .ref h8, .int (-1), .ref h9, .ref h10, .int 250, .ref h11, .int 0, .ref h12, .ref h13, .ref h14]))] sz) := by
  refine va_MetW (cc := cL_found) (maxL := 5) (ret := (some .int)) (by decide) rfl ?_
  intro p e s m args below meth c s₁ B hml hv
  obtain ⟨rfl, hsz, hP, hD0, hE⟩ := hv
  have hx := B.exec
  have hb := B.bytes
  have hr := B.returns
  have hts := atoms_spec (ws := w9_L_found_1) B.pre
  have hown : s.vm.findClass RL = some m.cls := findClass_of_methodNamed B.named
  have hlocks := B.notSynchronized
  have htab := vx_table (x := yL_found) B (hts (.codeWith yL_found cL_found 5 (some .int) [(0, 10, 13, 21)]) (List.mem_of_getElem? (i := 0) rfl))
  subst hsz
  have hD := hD0.self (sz := s.heap.size)
  generalize hAe : va_A [(h0, .inr (12, [.ref h2, .int 0, .ref h3, .ref h4, .ref h5, .ref h6, .ref h7, .ref h8, .int (-1), .ref h9, .ref h10, .int 250, .ref h11, .int 0, .ref h12, .ref h13, .ref h14]))] s.heap.size = A at hD hE ⊢
  have hA : ∀ q : Nat, s.heap.size ≤ q → A q := fun q h => by rw [← hAe]; exact Or.inr h
  have hK := hE.1
  have hS : va_S A s.heap s.heap [] := va_S.rf
  replace hP : va_P g.1 vwCl [(h0, .inr (12, [.ref h2, .int 0, .ref h3, .ref h4, .ref h5, .ref h6, .ref h7, .ref h8, .int (-1), .ref h9, .ref h10, .int 250, .ref h11, .int 0, .ref h12, .ref h13, .ref h14]))] s.heap := hP
  have hl := lv_entry ([.ref h0, .int v0, .int 1, .ref h1]) (n := 5) (Nat.le_of_ble_eq_true rfl)
  rw [lg_entry_eq]
  generalize (lg_sl ([.ref h0, .int v0, .int 1, .ref h1]) ++ List.replicate (5 - (lg_sl ([.ref h0, .int v0, .int 1, .ref h1])).length) Slot.unset).toArray = ls at hl ⊢
  replace hl : lv_has ls 5 [(0, .ref h0), (1, .int v0), (2, .int 1), (3, .ref h1)] := hl
  have hH0 : s.heap.size ≤ s.heap.size := Nat.le_refl _
  refine lv_aload_n hx hb dL_found_0 rfl (lv_at hl 3 rfl) ?_
  refine lv_iconst (v := 0) hx hb dL_found_1 (by decide) ?_
  refine lv_aload_n hx hb dL_found_2 rfl (lv_at hl 0 rfl) ?_
  refine lv_iload_n hx hb dL_found_3 rfl (lv_at hl 1 rfl) ?_
  refine lv_iload_n hx hb dL_found_4 rfl (lv_at hl 2 rfl) ?_
  have hPc := hP.sub (ws' := [(h0, .inr (12, [.ref h2, .int 0, .ref h3, .ref h4, .ref h5, .ref h6, .ref h7, .ref h8, .int (-1), .ref h9, .ref h10, .int 250, .ref h11, .int 0, .ref h12, .ref h13, .ref h14]))]) [0] rfl
  have hDc := hD.sub (ws' := [(h0, .inr (12, [.ref h2, .int 0, .ref h3, .ref h4, .ref h5, .ref h6, .ref h7, .ref h8, .int (-1), .ref h9, .ref h10, .int 250, .ref h11, .int 0, .ref h12, .ref h13, .ref h14]))]) [0] (by decide) rfl
  have hFc := va_free (wc := [(h0, .inr (12, [.ref h2, .int 0, .ref h3, .ref h4, .ref h5, .ref h6, .ref h7, .ref h8, .int (-1), .ref h9, .ref h10, .int 250, .ref h11, .int 0, .ref h12, .ref h13, .ref h14]))]) hD hS hA [0] rfl
  refine vx_callv (vx_runV (As := [.int v0, .int 1]) (rest := [.int 0, .ref h1]) ⟨hx, hb, hml, hown, hts⟩ (c9_X11_found_1 l hlt g h0 h2 h3 h4 h5 h6 h7 h8 h9 h10 h11 h12 h13 h14 _ v0 (by omega)) (cwV 2 hts g9_L_found_1_0 rfl rfl rfl (by decide +kernel) ⟨Nat.le_of_ble_eq_true rfl, Nat.le_of_ble_eq_true rfl⟩) (mPreV (g := g) (wc := [(h0, .inr (12, [.ref h2, .int 0, .ref h3, .ref h4, .ref h5, .ref h6, .ref h7, .ref h8, .int (-1), .ref h9, .ref h10, .int 250, .ref h11, .int 0, .ref h12, .ref h13, .ref h14]))]) (C := RX11) (ci := 12) (q0 := 0) hE hS hPc hDc hFc rfl rfl) rfl rfl hl.1 rfl (lv_room (Nat.le_of_ble_eq_true rfl)) dL_found_5 ⟨Nat.le_of_ble_eq_true rfl, Nat.le_of_ble_eq_true rfl⟩) hS (fun q _ h => hFc q h) hFc (fun q _ h => hFc q h) (fun E9 ce q9 u t H locs ht hvm hw hB hz1 hk1 hS hc1 hc2 hc3 => ?_) (fun u t H1 locs ht hvm hw hB hz1 hk1 hS => hw.elim)
  replace hB : E9 = "java/lang/IndexOutOfBoundsException" := hB
  subst hB
  obtain ⟨hP, hD⟩ := va_join (wr := []) (w1 := []) hP hD [0] [] rfl rfl (by decide) (by decide) hk1 hFc (fun k q h => by simp at h) ⟨fun i j p q h => by simp at h, fun k q h => by simp at h⟩
  have hP : va_P g.1 vwCl [] H := hP
  have hD : va_D A [] := hD
  refine vx_catch (own := RL) (name := "java/lang/IndexOutOfBoundsException") hown [] ⟨0, 10, 13, 21⟩ [] (by rw [htab]; rfl) (fun z hz => absurd hz List.not_mem_nil) (by decide) (by decide) (hts (.classLink RL 21 "java/lang/IndexOutOfBoundsException") (List.mem_of_getElem? (i := 53) rfl)) (va_Nw.use rfl (hE.cast ("java/lang/IndexOutOfBoundsException", "java/lang/IndexOutOfBoundsException") (by decide))) hc1 hc2 hc3 ?_
  refine lv_astore (lv' := [(4, .ref q9), (0, .ref h0), (1, .int v0), (2, .int 1), (3, .ref h1)]) hx hb dL_found_13 hl (by decide) rfl (fun ls hl => ?_)
  refine lv_iconst (v := 1) hx hb dL_found_15 (by decide) ?_
  have hP9 := hP.sub (ws' := []) [] rfl
  have hD9 := hD.sub (ws' := []) [] (by decide) rfl
  subst hAe
  exact W.iret (v := 1) hx hb hr (fun t ht hW => ⟨⟨1, (), rfl, rfl, by rw [ht]; exact hP9, hD9⟩, hS.F ht⟩) hS.2.2 dL_found_16
def w9_Jx4a65c_size_8abf5_1 : List Cond := [.code yJx4a65c_size_8abf5 cJx4a65c_size_8abf5 1 (some .int), .fieldLink RJx4a65c 48 "java/util/ArrayList" "size" "I"] ++ (u_ws RJx4a65c TJx4a65c 3)
set_option maxRecDepth 20000 in
theorem in9_Jx4a65c_size_8abf5_1_RJx4a65c : ∀ w ∈ u_ws RJx4a65c TJx4a65c 3, w ∈ w9_Jx4a65c_size_8abf5_1 := by decide +kernel
set_option maxHeartbeats 4000000 in
set_option maxRecDepth 100000 in
theorem c9_Jx4a65c_size_8abf5_1 (l : Launch) (g : G9) (h0 sz : Nat) : Met l yJx4a65c_size_8abf5 w9_Jx4a65c_size_8abf5_1 ({ frames := 0, cells := 0, slots := 0, locals := 0 }) (mP g [(h0, .inr (2, [.int 0, .ref (g.2.2 0), .int 0]))] sz [.ref h0]) (va_Qi (fun (r : Int32) (_ : Unit) => r = 0) (fun (_ : Unit) (t : State) => mB g [(h0, .inr (2, [.int 0, .ref (g.2.2 0), .int 0]))] sz [(h0, .inr (2, [.int 0, .ref (g.2.2 0), .int 0]))] t) (va_A [(h0, .inr (2, [.int 0, .ref (g.2.2 0), .int 0]))] sz)) 0 0 (va_A [(h0, .inr (2, [.int 0, .ref (g.2.2 0), .int 0]))] sz) := by
  refine Met.ofW (cc := cJx4a65c_size_8abf5) (maxL := 1) (ret := (some .int)) (by decide) rfl ?_
  intro p e s m args below meth c s₁ B hml hv
  obtain ⟨rfl, hsz, hP, hD0, hE⟩ := hv
  have hx := B.exec
  have hb := B.bytes
  have hr := B.returns
  have hts := atoms_spec (ws := w9_Jx4a65c_size_8abf5_1) B.pre
  have hown : s.vm.findClass RJx4a65c = some m.cls := findClass_of_methodNamed B.named
  have hlocks := B.notSynchronized
  subst hsz
  have hD := hD0.self (sz := s.heap.size)
  generalize hAe : va_A [(h0, .inr (2, [.int 0, .ref (g.2.2 0), .int 0]))] s.heap.size = A at hD hE ⊢
  have hA : ∀ q : Nat, s.heap.size ≤ q → A q := fun q h => by rw [← hAe]; exact Or.inr h
  have hK := hE.1
  have hS : va_S A s.heap s.heap [] := va_S.rf
  replace hP : va_P g.1 vwCl [(h0, .inr (2, [.int 0, .ref (g.2.2 0), .int 0]))] s.heap := hP
  have hl := lv_entry ([.ref h0]) (n := 1) (Nat.le_of_ble_eq_true rfl)
  rw [lg_entry_eq]
  generalize (lg_sl ([.ref h0]) ++ List.replicate (1 - (lg_sl ([.ref h0])).length) Slot.unset).toArray = ls at hl ⊢
  replace hl : lv_has ls 1 [(0, .ref h0)] := hl
  have hH0 : s.heap.size ≤ s.heap.size := Nat.le_refl _
  refine lv_aload_n hx hb dJx4a65c_size_8abf5_0 rfl (lv_at hl 0 rfl) ?_
  refine va_get (D := g.1) (ci := 2) (v := .int 0) (C := RJx4a65c) (T := TJx4a65c) (N := 3) hx hb hts in9_Jx4a65c_size_8abf5_1_RJx4a65c hown hK hP 0 rfl rfl 2 (by decide) (hts (.fieldLink RJx4a65c 48 "java/util/ArrayList" "size" "I") (List.mem_of_getElem? (i := 1) rfl)) (fun _ h9 => h9) rfl dJx4a65c_size_8abf5_1 ?_
  have hP9 := hP.sub (ws' := [(h0, .inr (2, [.int 0, .ref (g.2.2 0), .int 0]))]) [0] rfl
  have hD9 := hD.sub (ws' := [(h0, .inr (2, [.int 0, .ref (g.2.2 0), .int 0]))]) [0] (by decide) rfl
  subst hAe
  exact W.iret (v := 0) hx hb hr (fun t ht hW => ⟨⟨0, (), rfl, rfl, by rw [ht]; exact hP9, hD9⟩, hS.F ht⟩) hS.2.2 dJx4a65c_size_8abf5_4
def w9_X21_in_23 : List Cond := [.code yX21_in cX21_in 3 (some .boolean)]
set_option maxHeartbeats 4000000 in
set_option maxRecDepth 100000 in
theorem c9_X21_in_23 (l : Launch) (g : G9) (sz : Nat) (v0 : Int32) (k_v0 : (-2147483648) ≤ v0.toInt ∧ v0.toInt ≤ (-1)) : Met l yX21_in w9_X21_in_23 ({ frames := 0, cells := 0, slots := 0, locals := 0 }) (mP g [] sz [.int v0, .int 0, .int (-1)]) (va_Qi (fun (r : Int32) (_ : Unit) => r = 0) (fun (_ : Unit) (t : State) => mB g [] sz [] t) (va_A [] sz)) 0 0 (va_A [] sz) := by
  refine Met.ofW (cc := cX21_in) (maxL := 3) (ret := (some .boolean)) (by decide) rfl ?_
  intro p e s m args below meth c s₁ B hml hv
  obtain ⟨rfl, hsz, hP, hD0, hE⟩ := hv
  have hx := B.exec
  have hb := B.bytes
  have hr := B.returns
  have hts := atoms_spec (ws := w9_X21_in_23) B.pre
  have hown : s.vm.findClass RX21 = some m.cls := findClass_of_methodNamed B.named
  have hlocks := B.notSynchronized
  subst hsz
  have hD := hD0.self (sz := s.heap.size)
  generalize hAe : va_A [] s.heap.size = A at hD hE ⊢
  have hA : ∀ q : Nat, s.heap.size ≤ q → A q := fun q h => by rw [← hAe]; exact Or.inr h
  have hK := hE.1
  have hS : va_S A s.heap s.heap [] := va_S.rf
  replace hP : va_P g.1 vwCl [] s.heap := hP
  have hl := lv_entry ([.int v0, .int 0, .int (-1)]) (n := 3) (Nat.le_of_ble_eq_true rfl)
  rw [lg_entry_eq]
  generalize (lg_sl ([.int v0, .int 0, .int (-1)]) ++ List.replicate (3 - (lg_sl ([.int v0, .int 0, .int (-1)])).length) Slot.unset).toArray = ls at hl ⊢
  replace hl : lv_has ls 3 [(0, .int v0), (1, .int 0), (2, .int (-1))] := hl
  have hH0 : s.heap.size ≤ s.heap.size := Nat.le_refl _
  refine lv_iload_n hx hb dX21_in_0 rfl (lv_at hl 0 rfl) ?_
  refine lv_iload_n hx hb dX21_in_1 rfl (lv_at hl 1 rfl) ?_
  refine lv_icmp_lt (tgt := 14) hx hb dX21_in_2 (by decide) (fun _ => ?_) (fun c9 => absurd (by simp only [Int32.lt_iff_toInt_lt, Int32.le_iff_toInt_le, ← Int32.toInt_inj, show (0 : Int32).toInt = 0 from by decide]; omega) c9)
  refine lv_iconst (v := 0) hx hb dX21_in_14 (by decide) ?_
  have hP9 := hP.sub (ws' := []) [] rfl
  have hD9 := hD.sub (ws' := []) [] (by decide) rfl
  subst hAe
  exact W.zret (v := 0) hx hb hr (by decide) (fun t ht hW => ⟨⟨0, (), rfl, rfl, by rw [ht]; exact hP9, hD9⟩, hS.F ht⟩) hS.2.2 dX21_in_15
def w9_X21_found_1 : List Cond := [.code yX21_found cX21_found 3 (some .int), .fieldLink RX21 101 "RegexloomModel" "begins" "Ljava/util/ArrayList;", .methodLink RX21 218 yJx4a65c_size_8abf5, .instanceMethod yJx4a65c_size_8abf5, .selects RJx4a65c yJx4a65c_size_8abf5 yJx4a65c_size_8abf5, .initialized RJx4a65c, .code yJx4a65c_size_8abf5 cJx4a65c_size_8abf5 1 (some .int), .fieldLink RJx4a65c 48 "java/util/ArrayList" "size" "I", .methodLink RX21 160 yX21_in, .static yX21_in, .initialized RX21, .code yX21_in cX21_in 3 (some .boolean), .methodLink RX21 154 yX21_refused, .instanceMethod yX21_refused, .selects RX21 yX21_refused yX21_refused, .code yX21_refused cX21_refused 2 (some .boolean), .fieldLink RX21 144 "RegexloomModel" "refusal" "I"] ++ (u_ws RX21 TX21 32 ++ u_ws RJx4a65c TJx4a65c 3)
set_option maxRecDepth 20000 in
theorem in9_X21_found_1_RX21 : ∀ w ∈ u_ws RX21 TX21 32, w ∈ w9_X21_found_1 := by decide +kernel
set_option maxRecDepth 20000 in
theorem in9_X21_found_1_RJx4a65c : ∀ w ∈ u_ws RJx4a65c TJx4a65c 3, w ∈ w9_X21_found_1 := by decide +kernel
set_option maxRecDepth 20000 in
theorem g9_X21_found_1_0 : GoodIn w9_X21_found_1 (wsV RX21 218 RJx4a65c yJx4a65c_size_8abf5 w9_Jx4a65c_size_8abf5_1) := goodIn_r _ [2, 3, 4, 5, 6, 7, 49, 50, 51] (by decide +kernel) (by decide +kernel)
set_option maxRecDepth 20000 in
theorem g9_X21_found_1_1 : GoodIn w9_X21_found_1 (va_wsS RX21 160 yX21_in w9_X21_in_23) := goodIn_r _ [8, 9, 10, 11] (by decide +kernel) (by decide +kernel)
set_option maxRecDepth 20000 in
theorem g9_X21_found_1_2 : GoodIn w9_X21_found_1 (wsV RX21 154 RX21 yX21_refused w9_X21_refused_2) := goodIn_r _ [12, 13, 14, 10, 15, 16, 17, 18, 19, 20, 21, 22, 23, 24, 25, 26, 27, 28, 29, 30, 31, 32, 33, 34, 35, 36, 37, 38, 39, 40, 41, 42, 43, 44, 45, 46, 47, 48] (by decide +kernel) (by decide +kernel)
set_option maxHeartbeats 4000000 in
set_option maxRecDepth 100000 in
theorem c9_X21_found_1 (l : Launch) (g : G9) (h0 h1 h2 h3 h4 h5 h6 h7 h8 h9 h10 h11 h12 h13 h14 h15 h16 sz : Nat) (v0 : Int32) (k_v0 : (-2147483648) ≤ v0.toInt ∧ v0.toInt ≤ (-1)) : Met l yX21_found w9_X21_found_1 ({ frames := 1, cells := 0, slots := 0, locals := 22 }) (mP g [(h0, .inr (22, [.int 0, .ref h1, .int 0, .ref h2, .int 0, .ref h3, .int 250, .ref h4, .int 0, .ref h5, .ref h6, .ref h7, .int 0, .ref h8, .ref h9, .ref h10, .int 0, .null, .int 0, .null, .int 0, .int 0, .int 0, .ref h11, .int 0, .ref h12, .ref h13, .ref h14, .int 0, .ref h15, .ref h16, .int 0])), (h5, .inr (2, [.int 0, .ref (g.2.2 0), .int 0]))] sz [.ref h0, .int v0, .int 1]) (va_Qi (fun (r : Int32) (_ : Unit) => r = 0) (fun (_ : Unit) (t : State) => mB g [(h0, .inr (22, [.int 0, .ref h1, .int 0, .ref h2, .int 0, .ref h3, .int 250, .ref h4, .int 0, .ref h5, .ref h6, .ref h7, .int 0, .ref h8, .ref h9, .ref h10, .int 0, .null, .int 0, .null, .int 0, .int 0, .int 0, .ref h11, .int 0, .ref h12, .ref h13, .ref h14, .int 0, .ref h15, .ref h16, .int 0])), (h5, .inr (2, [.int 0, .ref (g.2.2 0), .int 0]))] sz [(h0, .inr (22, [.int 1, .ref h1, .int 0, .ref h2, .int 0, .ref h3, .int 250, .ref h4, .int 0, .ref h5, .ref h6, .ref h7, .int 0, .ref h8, .ref h9, .ref h10, .int 0, .null, .int 0, .null, .int 0, .int 0, .int 0, .ref h11, .int 0, .ref h12, .ref h13, .ref h14, .int 0, .ref h15, .ref h16, .int 0])), (h5, .inr (2, [.int 0, .ref (g.2.2 0), .int 0]))] t) (va_A [(h0, .inr (22, [.int 0, .ref h1, .int 0, .ref h2, .int 0, .ref h3, .int 250, .ref h4, .int 0, .ref h5, .ref h6, .ref h7, .int 0, .ref h8, .ref h9, .ref h10, .int 0, .null, .int 0, .null, .int 0, .int 0, .int 0, .ref h11, .int 0, .ref h12, .ref h13, .ref h14, .int 0, .ref h15, .ref h16, .int 0])), (h5, .inr (2, [.int 0, .ref (g.2.2 0), .int 0]))] sz)) 0 0 (va_A [(h0, .inr (22, [.int 0, .ref h1, .int 0, .ref h2, .int 0, .ref h3, .int 250, .ref h4, .int 0, .ref h5, .ref h6, .ref h7, .int 0, .ref h8, .ref h9, .ref h10, .int 0, .null, .int 0, .null, .int 0, .int 0, .int 0, .ref h11, .int 0, .ref h12, .ref h13, .ref h14, .int 0, .ref h15, .ref h16, .int 0])), (h5, .inr (2, [.int 0, .ref (g.2.2 0), .int 0]))] sz) := by
  refine Met.ofW (cc := cX21_found) (maxL := 3) (ret := (some .int)) (by decide) rfl ?_
  intro p e s m args below meth c s₁ B hml hv
  obtain ⟨rfl, hsz, hP, hD0, hE⟩ := hv
  have hx := B.exec
  have hb := B.bytes
  have hr := B.returns
  have hts := atoms_spec (ws := w9_X21_found_1) B.pre
  have hown : s.vm.findClass RX21 = some m.cls := findClass_of_methodNamed B.named
  have hlocks := B.notSynchronized
  subst hsz
  have hD := hD0.self (sz := s.heap.size)
  generalize hAe : va_A [(h0, .inr (22, [.int 0, .ref h1, .int 0, .ref h2, .int 0, .ref h3, .int 250, .ref h4, .int 0, .ref h5, .ref h6, .ref h7, .int 0, .ref h8, .ref h9, .ref h10, .int 0, .null, .int 0, .null, .int 0, .int 0, .int 0, .ref h11, .int 0, .ref h12, .ref h13, .ref h14, .int 0, .ref h15, .ref h16, .int 0])), (h5, .inr (2, [.int 0, .ref (g.2.2 0), .int 0]))] s.heap.size = A at hD hE ⊢
  have hA : ∀ q : Nat, s.heap.size ≤ q → A q := fun q h => by rw [← hAe]; exact Or.inr h
  have hK := hE.1
  have hS : va_S A s.heap s.heap [] := va_S.rf
  replace hP : va_P g.1 vwCl [(h0, .inr (22, [.int 0, .ref h1, .int 0, .ref h2, .int 0, .ref h3, .int 250, .ref h4, .int 0, .ref h5, .ref h6, .ref h7, .int 0, .ref h8, .ref h9, .ref h10, .int 0, .null, .int 0, .null, .int 0, .int 0, .int 0, .ref h11, .int 0, .ref h12, .ref h13, .ref h14, .int 0, .ref h15, .ref h16, .int 0])), (h5, .inr (2, [.int 0, .ref (g.2.2 0), .int 0]))] s.heap := hP
  have hl := lv_entry ([.ref h0, .int v0, .int 1]) (n := 3) (Nat.le_of_ble_eq_true rfl)
  rw [lg_entry_eq]
  generalize (lg_sl ([.ref h0, .int v0, .int 1]) ++ List.replicate (3 - (lg_sl ([.ref h0, .int v0, .int 1])).length) Slot.unset).toArray = ls at hl ⊢
  replace hl : lv_has ls 3 [(0, .ref h0), (1, .int v0), (2, .int 1)] := hl
  have hH0 : s.heap.size ≤ s.heap.size := Nat.le_refl _
  refine lv_aload_n hx hb dX21_found_0 rfl (lv_at hl 0 rfl) ?_
  refine lv_iload_n hx hb dX21_found_1 rfl (lv_at hl 1 rfl) ?_
  refine lv_iconst (v := 0) hx hb dX21_found_2 (by decide) ?_
  refine lv_aload_n hx hb dX21_found_3 rfl (lv_at hl 0 rfl) ?_
  refine va_get (D := g.1) (ci := 22) (v := .ref h5) (C := RX21) (T := TX21) (N := 32) hx hb hts in9_X21_found_1_RX21 hown hK hP 0 rfl rfl 9 (by decide) (hts (.fieldLink RX21 101 "RegexloomModel" "begins" "Ljava/util/ArrayList;") (List.mem_of_getElem? (i := 1) rfl)) (fun _ h9 => h9) rfl dX21_found_4 ?_
  have hPc := hP.sub (ws' := [(h5, .inr (2, [.int 0, .ref (g.2.2 0), .int 0]))]) [1] rfl
  have hDc := hD.sub (ws' := [(h5, .inr (2, [.int 0, .ref (g.2.2 0), .int 0]))]) [1] (by decide) rfl
  have hFc := va_free (wc := [(h5, .inr (2, [.int 0, .ref (g.2.2 0), .int 0]))]) hD hS hA [1] rfl
  refine va_calli (va_runV (As := []) (rest := [.int 0, .int v0, .ref h0]) ⟨hx, hb, hml, hown, hts⟩ (c9_Jx4a65c_size_8abf5_1 l g h5 _) (cwV 0 hts g9_X21_found_1_0 rfl rfl rfl (by decide +kernel) ⟨Nat.le_of_ble_eq_true rfl, Nat.le_of_ble_eq_true rfl⟩) (mPreV (g := g) (wc := [(h5, .inr (2, [.int 0, .ref (g.2.2 0), .int 0]))]) (C := RJx4a65c) (ci := 2) (q0 := 0) hE hS hPc hDc hFc rfl rfl) rfl rfl hl.1 rfl (lv_room (Nat.le_of_ble_eq_true rfl)) dX21_found_7 ⟨Nat.le_of_ble_eq_true rfl, Nat.le_of_ble_eq_true rfl⟩) hS (fun q _ h => hFc q h) hFc (fun r_1 u t H1 locs ht hvm hw hB hz1 hk1 hS => ?_)
  replace hw : 0 = r_1 := Eq.symm hw
  subst hw
  obtain ⟨hP1, hD1⟩ := hB
  rw [ht] at hP1
  obtain ⟨hP, hD⟩ := va_join (wr := [(h0, .inr (22, [.int 0, .ref h1, .int 0, .ref h2, .int 0, .ref h3, .int 250, .ref h4, .int 0, .ref h5, .ref h6, .ref h7, .int 0, .ref h8, .ref h9, .ref h10, .int 0, .null, .int 0, .null, .int 0, .int 0, .int 0, .ref h11, .int 0, .ref h12, .ref h13, .ref h14, .int 0, .ref h15, .ref h16, .int 0]))]) (w1 := [(h5, .inr (2, [.int 0, .ref (g.2.2 0), .int 0]))]) hP hD [1] [0] rfl rfl (by decide) (by decide) hk1 hFc hP1 hD1
  clear hP1 hD1 hPc hDc hFc hk1 hz1 hvm ht
  generalize H1 = H at hP hS ⊢
  have hP : va_P g.1 vwCl [(h0, .inr (22, [.int 0, .ref h1, .int 0, .ref h2, .int 0, .ref h3, .int 250, .ref h4, .int 0, .ref h5, .ref h6, .ref h7, .int 0, .ref h8, .ref h9, .ref h10, .int 0, .null, .int 0, .null, .int 0, .int 0, .int 0, .ref h11, .int 0, .ref h12, .ref h13, .ref h14, .int 0, .ref h15, .ref h16, .int 0])), (h5, .inr (2, [.int 0, .ref (g.2.2 0), .int 0]))] H := hP
  have hD : va_D A [(h0, .inr (22, [.int 0, .ref h1, .int 0, .ref h2, .int 0, .ref h3, .int 250, .ref h4, .int 0, .ref h5, .ref h6, .ref h7, .int 0, .ref h8, .ref h9, .ref h10, .int 0, .null, .int 0, .null, .int 0, .int 0, .int 0, .ref h11, .int 0, .ref h12, .ref h13, .ref h14, .int 0, .ref h15, .ref h16, .int 0])), (h5, .inr (2, [.int 0, .ref (g.2.2 0), .int 0]))] := hD
  refine lv_iconst (v := 1) hx hb dX21_found_10 (by decide) ?_
  refine lv_isub hx hb dX21_found_11 ?_
  refine e_top (y := (-1)) (by decide) ?_
  have hPc := hP.sub (ws' := []) [] rfl
  have hDc := hD.sub (ws' := []) [] (by decide) rfl
  have hFc := va_free (wc := []) hD hS hA [] rfl
  refine va_calli (va_runS (As := [.int v0, .int 0, .int (-1)]) (rest := [.ref h0]) ⟨hx, hb, hml, hown, hts⟩ (c9_X21_in_23 l g _ v0 (by omega)) (va_cwS 3 hts g9_X21_found_1_1 rfl rfl rfl (by decide +kernel) ⟨Nat.le_of_ble_eq_true rfl, Nat.le_of_ble_eq_true rfl⟩) (mPreS (g := g) (wc := []) hE hS hPc hDc hFc) rfl rfl hl.1 rfl (lv_room (Nat.le_of_ble_eq_true rfl)) dX21_found_12 ⟨Nat.le_of_ble_eq_true rfl, Nat.le_of_ble_eq_true rfl⟩) hS (fun q _ h => hFc q h) hFc (fun r_2 u t H1 locs ht hvm hw hB hz1 hk1 hS => ?_)
  replace hw : 0 = r_2 := Eq.symm hw
  subst hw
  obtain ⟨hP1, hD1⟩ := hB
  rw [ht] at hP1
  obtain ⟨hP, hD⟩ := va_join (wr := [(h0, .inr (22, [.int 0, .ref h1, .int 0, .ref h2, .int 0, .ref h3, .int 250, .ref h4, .int 0, .ref h5, .ref h6, .ref h7, .int 0, .ref h8, .ref h9, .ref h10, .int 0, .null, .int 0, .null, .int 0, .int 0, .int 0, .ref h11, .int 0, .ref h12, .ref h13, .ref h14, .int 0, .ref h15, .ref h16, .int 0])), (h5, .inr (2, [.int 0, .ref (g.2.2 0), .int 0]))]) (w1 := []) hP hD [] [0, 1] rfl rfl (by decide) (by decide) hk1 hFc hP1 hD1
  clear hP1 hD1 hPc hDc hFc hk1 hz1 hvm ht
  generalize H1 = H at hP hS ⊢
  have hP : va_P g.1 vwCl [(h0, .inr (22, [.int 0, .ref h1, .int 0, .ref h2, .int 0, .ref h3, .int 250, .ref h4, .int 0, .ref h5, .ref h6, .ref h7, .int 0, .ref h8, .ref h9, .ref h10, .int 0, .null, .int 0, .null, .int 0, .int 0, .int 0, .ref h11, .int 0, .ref h12, .ref h13, .ref h14, .int 0, .ref h15, .ref h16, .int 0])), (h5, .inr (2, [.int 0, .ref (g.2.2 0), .int 0]))] H := hP
  have hD : va_D A [(h0, .inr (22, [.int 0, .ref h1, .int 0, .ref h2, .int 0, .ref h3, .int 250, .ref h4, .int 0, .ref h5, .ref h6, .ref h7, .int 0, .ref h8, .ref h9, .ref h10, .int 0, .null, .int 0, .null, .int 0, .int 0, .int 0, .ref h11, .int 0, .ref h12, .ref h13, .ref h14, .int 0, .ref h15, .ref h16, .int 0])), (h5, .inr (2, [.int 0, .ref (g.2.2 0), .int 0]))] := hD
  refine lv_if_eq (tgt := 22) hx hb dX21_found_15 (by decide) (fun _ => ?_) (fun c9 => absurd (by decide) c9)
  refine lv_iconst (v := 1) hx hb dX21_found_22 (by decide) ?_
  have hPc := hP.sub (ws' := [(h0, .inr (22, [.int 0, .ref h1, .int 0, .ref h2, .int 0, .ref h3, .int 250, .ref h4, .int 0, .ref h5, .ref h6, .ref h7, .int 0, .ref h8, .ref h9, .ref h10, .int 0, .null, .int 0, .null, .int 0, .int 0, .int 0, .ref h11, .int 0, .ref h12, .ref h13, .ref h14, .int 0, .ref h15, .ref h16, .int 0]))]) [0] rfl
  have hDc := hD.sub (ws' := [(h0, .inr (22, [.int 0, .ref h1, .int 0, .ref h2, .int 0, .ref h3, .int 250, .ref h4, .int 0, .ref h5, .ref h6, .ref h7, .int 0, .ref h8, .ref h9, .ref h10, .int 0, .null, .int 0, .null, .int 0, .int 0, .int 0, .ref h11, .int 0, .ref h12, .ref h13, .ref h14, .int 0, .ref h15, .ref h16, .int 0]))]) [0] (by decide) rfl
  have hFc := va_free (wc := [(h0, .inr (22, [.int 0, .ref h1, .int 0, .ref h2, .int 0, .ref h3, .int 250, .ref h4, .int 0, .ref h5, .ref h6, .ref h7, .int 0, .ref h8, .ref h9, .ref h10, .int 0, .null, .int 0, .null, .int 0, .int 0, .int 0, .ref h11, .int 0, .ref h12, .ref h13, .ref h14, .int 0, .ref h15, .ref h16, .int 0]))]) hD hS hA [0] rfl
  refine va_calli (va_runV (As := [.int 1]) (rest := []) ⟨hx, hb, hml, hown, hts⟩ (c9_X21_refused_2 l g h0 h1 h2 h3 h4 h5 h6 h7 h8 h9 h10 h11 h12 h13 h14 h15 h16 _) (cwV 1 hts g9_X21_found_1_2 rfl rfl rfl (by decide +kernel) ⟨Nat.le_of_ble_eq_true rfl, Nat.le_of_ble_eq_true rfl⟩) (mPreV (g := g) (wc := [(h0, .inr (22, [.int 0, .ref h1, .int 0, .ref h2, .int 0, .ref h3, .int 250, .ref h4, .int 0, .ref h5, .ref h6, .ref h7, .int 0, .ref h8, .ref h9, .ref h10, .int 0, .null, .int 0, .null, .int 0, .int 0, .int 0, .ref h11, .int 0, .ref h12, .ref h13, .ref h14, .int 0, .ref h15, .ref h16, .int 0]))]) (C := RX21) (ci := 22) (q0 := 0) hE hS hPc hDc hFc rfl rfl) rfl rfl hl.1 rfl (lv_room (Nat.le_of_ble_eq_true rfl)) dX21_found_23 ⟨Nat.le_of_ble_eq_true rfl, Nat.le_of_ble_eq_true rfl⟩) hS (fun q _ h => hFc q h) hFc (fun r_3 u t H1 locs ht hvm hw hB hz1 hk1 hS => ?_)
  replace hw : 1 = r_3 := Eq.symm hw
  subst hw
  obtain ⟨hP1, hD1⟩ := hB
  rw [ht] at hP1
  obtain ⟨hP, hD⟩ := va_join (wr := [(h5, .inr (2, [.int 0, .ref (g.2.2 0), .int 0]))]) (w1 := [(h0, .inr (22, [.int 1, .ref h1, .int 0, .ref h2, .int 0, .ref h3, .int 250, .ref h4, .int 0, .ref h5, .ref h6, .ref h7, .int 0, .ref h8, .ref h9, .ref h10, .int 0, .null, .int 0, .null, .int 0, .int 0, .int 0, .ref h11, .int 0, .ref h12, .ref h13, .ref h14, .int 0, .ref h15, .ref h16, .int 0]))]) hP hD [0] [1] rfl rfl (by decide) (by decide) hk1 hFc hP1 hD1
  clear hP1 hD1 hPc hDc hFc hk1 hz1 hvm ht
  generalize H1 = H at hP hS ⊢
  have hP : va_P g.1 vwCl [(h5, .inr (2, [.int 0, .ref (g.2.2 0), .int 0])), (h0, .inr (22, [.int 1, .ref h1, .int 0, .ref h2, .int 0, .ref h3, .int 250, .ref h4, .int 0, .ref h5, .ref h6, .ref h7, .int 0, .ref h8, .ref h9, .ref h10, .int 0, .null, .int 0, .null, .int 0, .int 0, .int 0, .ref h11, .int 0, .ref h12, .ref h13, .ref h14, .int 0, .ref h15, .ref h16, .int 0]))] H := hP
  have hD : va_D A [(h5, .inr (2, [.int 0, .ref (g.2.2 0), .int 0])), (h0, .inr (22, [.int 1, .ref h1, .int 0, .ref h2, .int 0, .ref h3, .int 250, .ref h4, .int 0, .ref h5, .ref h6, .ref h7, .int 0, .ref h8, .ref h9, .ref h10, .int 0, .null, .int 0, .null, .int 0, .int 0, .int 0, .ref h11, .int 0, .ref h12, .ref h13, .ref h14, .int 0, .ref h15, .ref h16, .int 0]))] := hD
  refine lv_if_eq (tgt := 31) hx hb dX21_found_26 (by decide) (fun c9 => absurd c9 (by decide)) (fun _ => ?_)
  refine lv_iconst (v := 0) hx hb dX21_found_29 (by decide) ?_
  have hP9 := hP.sub (ws' := [(h0, .inr (22, [.int 1, .ref h1, .int 0, .ref h2, .int 0, .ref h3, .int 250, .ref h4, .int 0, .ref h5, .ref h6, .ref h7, .int 0, .ref h8, .ref h9, .ref h10, .int 0, .null, .int 0, .null, .int 0, .int 0, .int 0, .ref h11, .int 0, .ref h12, .ref h13, .ref h14, .int 0, .ref h15, .ref h16, .int 0])), (h5, .inr (2, [.int 0, .ref (g.2.2 0), .int 0]))]) [1, 0] rfl
  have hD9 := hD.sub (ws' := [(h0, .inr (22, [.int 1, .ref h1, .int 0, .ref h2, .int 0, .ref h3, .int 250, .ref h4, .int 0, .ref h5, .ref h6, .ref h7, .int 0, .ref h8, .ref h9, .ref h10, .int 0, .null, .int 0, .null, .int 0, .int 0, .int 0, .ref h11, .int 0, .ref h12, .ref h13, .ref h14, .int 0, .ref h15, .ref h16, .int 0])), (h5, .inr (2, [.int 0, .ref (g.2.2 0), .int 0]))]) [1, 0] (by decide) rfl
  subst hAe
  exact W.iret (v := 0) hx hb hr (fun t ht hW => ⟨⟨0, (), rfl, rfl, by rw [ht]; exact hP9, hD9⟩, hS.F ht⟩) hS.2.2 dX21_found_30
def w9_X9_size_3 : List Cond := [.code yX9_size cX9_size 1 (some .int), .fieldLink RX9 28 "Regexloom$Table" "size" "I"] ++ (u_ws RX9 TX9 4)
set_option maxRecDepth 20000 in
theorem in9_X9_size_3_RX9 : ∀ w ∈ u_ws RX9 TX9 4, w ∈ w9_X9_size_3 := by decide +kernel
set_option maxHeartbeats 4000000 in
set_option maxRecDepth 100000 in
theorem c9_X9_size_3 (l : Launch) (g : G9) (h0 h1 sz : Nat) : Met l yX9_size w9_X9_size_3 ({ frames := 0, cells := 0, slots := 0, locals := 0 }) (mP g [(h0, .inr (10, [.int 2, .int 21, .ref h1, .int 0]))] sz [.ref h0]) (va_Qi (fun (r : Int32) (_ : Unit) => r = 0) (fun (_ : Unit) (t : State) => mB g [(h0, .inr (10, [.int 2, .int 21, .ref h1, .int 0]))] sz [(h0, .inr (10, [.int 2, .int 21, .ref h1, .int 0]))] t) (va_A [(h0, .inr (10, [.int 2, .int 21, .ref h1, .int 0]))] sz)) 0 0 (va_A [(h0, .inr (10, [.int 2, .int 21, .ref h1, .int 0]))] sz) := by
  refine Met.ofW (cc := cX9_size) (maxL := 1) (ret := (some .int)) (by decide) rfl ?_
  intro p e s m args below meth c s₁ B hml hv
  obtain ⟨rfl, hsz, hP, hD0, hE⟩ := hv
  have hx := B.exec
  have hb := B.bytes
  have hr := B.returns
  have hts := atoms_spec (ws := w9_X9_size_3) B.pre
  have hown : s.vm.findClass RX9 = some m.cls := findClass_of_methodNamed B.named
  have hlocks := B.notSynchronized
  subst hsz
  have hD := hD0.self (sz := s.heap.size)
  generalize hAe : va_A [(h0, .inr (10, [.int 2, .int 21, .ref h1, .int 0]))] s.heap.size = A at hD hE ⊢
  have hA : ∀ q : Nat, s.heap.size ≤ q → A q := fun q h => by rw [← hAe]; exact Or.inr h
  have hK := hE.1
  have hS : va_S A s.heap s.heap [] := va_S.rf
  replace hP : va_P g.1 vwCl [(h0, .inr (10, [.int 2, .int 21, .ref h1, .int 0]))] s.heap := hP
  have hl := lv_entry ([.ref h0]) (n := 1) (Nat.le_of_ble_eq_true rfl)
  rw [lg_entry_eq]
  generalize (lg_sl ([.ref h0]) ++ List.replicate (1 - (lg_sl ([.ref h0])).length) Slot.unset).toArray = ls at hl ⊢
  replace hl : lv_has ls 1 [(0, .ref h0)] := hl
  have hH0 : s.heap.size ≤ s.heap.size := Nat.le_refl _
  refine lv_aload_n hx hb dX9_size_0 rfl (lv_at hl 0 rfl) ?_
  refine va_get (D := g.1) (ci := 10) (v := .int 0) (C := RX9) (T := TX9) (N := 4) hx hb hts in9_X9_size_3_RX9 hown hK hP 0 rfl rfl 3 (by decide) (hts (.fieldLink RX9 28 "Regexloom$Table" "size" "I") (List.mem_of_getElem? (i := 1) rfl)) (fun _ h9 => h9) rfl dX9_size_1 ?_
  have hP9 := hP.sub (ws' := [(h0, .inr (10, [.int 2, .int 21, .ref h1, .int 0]))]) [0] rfl
  have hD9 := hD.sub (ws' := [(h0, .inr (10, [.int 2, .int 21, .ref h1, .int 0]))]) [0] (by decide) rfl
  subst hAe
  exact W.iret (v := 0) hx hb hr (fun t ht hW => ⟨⟨0, (), rfl, rfl, by rw [ht]; exact hP9, hD9⟩, hS.F ht⟩) hS.2.2 dX9_size_4
def w9_X11_found_2 : List Cond := [.code yX11_found cX11_found 3 (some .int), .fieldLink RX11 82 "Regexloom" "matches" "LRegexloom$Table;", .methodLink RX11 244 yX9_size, .instanceMethod yX9_size, .selects RX9 yX9_size yX9_size, .initialized RX9, .code yX9_size cX9_size 1 (some .int), .fieldLink RX9 28 "Regexloom$Table" "size" "I", .initialized "java/lang/Throwable", .superclass "java/lang/Throwable" "java/lang/Object", .instanceMethod Bundle.tFill, .codeSync Bundle.tFill LibCode.Throwable.Fill.code 1 (some (.object "java/lang/Throwable")), .instanceMethod Bundle.tFill0, .native Bundle.tFill0, .instanceMethod Bundle.tInit0, .code Bundle.tInit0 LibCode.Throwable.Init0.code 1 none, .instanceMethod Bundle.oInit, .code Bundle.oInit ⟨#[0xb1]⟩ 1 none, .methodLink "java/lang/Throwable" 1 Bundle.oInit, .methodLink "java/lang/Throwable" 27 Bundle.tFill, .methodLink "java/lang/Throwable" 202 Bundle.tFill0, .fieldLink "java/lang/Throwable" 7 "java/lang/Throwable" "cause" "Ljava/lang/Throwable;", .lays "java/lang/Throwable" "java/lang/Throwable" "cause" "Ljava/lang/Throwable;", .fieldLink "java/lang/Throwable" 17 "java/lang/Throwable" "stackTrace" "[Ljava/lang/StackTraceElement;", .lays "java/lang/Throwable" "java/lang/Throwable" "stackTrace" "[Ljava/lang/StackTraceElement;", .fieldLink "java/lang/Throwable" 24 "java/lang/Throwable" "suppressedExceptions" "Ljava/util/List;", .lays "java/lang/Throwable" "java/lang/Throwable" "suppressedExceptions" "Ljava/util/List;", .fieldLink "java/lang/Throwable" 13 "java/lang/Throwable" "UNASSIGNED_STACK" "[Ljava/lang/StackTraceElement;", .fieldLink "java/lang/Throwable" 20 "java/lang/Throwable" "SUPPRESSED_SENTINEL" "Ljava/util/List;", .lays "java/lang/Throwable" "java/lang/Throwable" "detailMessage" "Ljava/lang/String;", .instanceMethod (Bundle.initS "java/lang/Throwable"), .code (Bundle.initS "java/lang/Throwable") LibCode.Throwable.InitS.code 2 none, .fieldLink "java/lang/Throwable" 31 "java/lang/Throwable" "detailMessage" "Ljava/lang/String;", .instanceMethod (Bundle.initS "java/lang/IndexOutOfBoundsException"), .code (Bundle.initS "java/lang/IndexOutOfBoundsException") Bundle.six 2 none, .methodLink "java/lang/IndexOutOfBoundsException" 7 (Bundle.initS "java/lang/RuntimeException"), .instanceMethod (Bundle.initS "java/lang/RuntimeException"), .code (Bundle.initS "java/lang/RuntimeException") Bundle.six 2 none, .methodLink "java/lang/RuntimeException" 7 (Bundle.initS "java/lang/Exception"), .instanceMethod (Bundle.initS "java/lang/Exception"), .code (Bundle.initS "java/lang/Exception") Bundle.six 2 none, .methodLink "java/lang/Exception" 7 (Bundle.initS "java/lang/Throwable"), .methodLink RX11 224 (Bundle.initS "java/lang/IndexOutOfBoundsException"), .instantiable "java/lang/IndexOutOfBoundsException" 6, .selects "java/lang/IndexOutOfBoundsException" Bundle.tFill0 Bundle.tFill0, .selects "java/lang/IndexOutOfBoundsException" Bundle.tFill Bundle.tFill, .lays "java/lang/IndexOutOfBoundsException" "java/lang/Throwable" "cause" "Ljava/lang/Throwable;", .lays "java/lang/IndexOutOfBoundsException" "java/lang/Throwable" "stackTrace" "[Ljava/lang/StackTraceElement;", .lays "java/lang/IndexOutOfBoundsException" "java/lang/Throwable" "suppressedExceptions" "Ljava/util/List;", .lays "java/lang/IndexOutOfBoundsException" "java/lang/Throwable" "detailMessage" "Ljava/lang/String;", .fieldLink "java/lang/Throwable" 198 "java/lang/Throwable" "backtrace" "Ljava/lang/Object;", .lays "java/lang/Throwable" "java/lang/Throwable" "backtrace" "Ljava/lang/Object;", .lays "java/lang/IndexOutOfBoundsException" "java/lang/Throwable" "backtrace" "Ljava/lang/Object;", .classLink RX11 220 "java/lang/IndexOutOfBoundsException", .initialized "java/lang/IndexOutOfBoundsException"] ++ (u_ws RX11 TX11 17 ++ u_ws RX9 TX9 4)
set_option maxRecDepth 20000 in
theorem in9_X11_found_2_RX11 : ∀ w ∈ u_ws RX11 TX11 17, w ∈ w9_X11_found_2 := by decide +kernel
set_option maxRecDepth 20000 in
theorem in9_X11_found_2_RX9 : ∀ w ∈ u_ws RX9 TX9 4, w ∈ w9_X11_found_2 := by decide +kernel
set_option maxRecDepth 20000 in
theorem g9_X11_found_2_0 : GoodIn w9_X11_found_2 (wsV RX11 244 RX9 yX9_size w9_X9_size_3) := goodIn_r _ [2, 3, 4, 5, 6, 7, 72, 73, 74, 75] (by decide +kernel) (by decide +kernel)
set_option maxHeartbeats 4000000 in
set_option maxRecDepth 100000 in
theorem c9_X11_found_2 (l : Launch) (hlt : l.stackTraces = false) (g : G9) (h0 h1 h2 h3 h4 h5 h6 h7 h8 h9 h10 h11 h12 h13 h14 sz : Nat) (v0 : Int32) (k_v0 : 0 ≤ v0.toInt ∧ v0.toInt ≤ 2147483647) : vx_Met l yX11_found w9_X11_found_2 ({ frames := 6, cells := 1, slots := 6, locals := 82 }) (mP g [(h0, .inr (12, [.ref h1, .int 0, .ref h2, .ref h3, .ref h4, .ref h5, .ref h6, .ref h7, .int (-1), .ref h8, .ref h9, .int 250, .ref h10, .int 0, .ref h11, .ref h12, .ref h13])), (h11, .inr (10, [.int 2, .int 21, .ref h14, .int 0]))] sz [.ref h0, .int v0, .int 1]) (va_Qv (fun _ : Unit => False) (fun _ _ => True) (va_A [(h0, .inr (12, [.ref h1, .int 0, .ref h2, .ref h3, .ref h4, .ref h5, .ref h6, .ref h7, .int (-1), .ref h8, .ref h9, .int 250, .ref h10, .int 0, .ref h11, .ref h12, .ref h13])), (h11, .inr (10, [.int 2, .int 21, .ref h14, .int 0]))] sz)) (mT g [(h0, .inr (12, [.ref h1, .int 0, .ref h2, .ref h3, .ref h4, .ref h5, .ref h6, .ref h7, .int (-1), .ref h8, .ref h9, .int 250, .ref h10, .int 0, .ref h11, .ref h12, .ref h13])), (h11, .inr (10, [.int 2, .int 21, .ref h14, .int 0]))] sz "java/lang/IndexOutOfBoundsException") 1 6 (va_A [(h0, .inr (12, [.ref h1, .int 0, .ref h2, .ref h3, .ref h4, .ref h5, .ref h6, .ref h7, .int (-1), .ref h8, .ref h9, .int 250, .ref h10, .int 0, .ref h11, .ref h12, .ref h13])), (h11, .inr (10, [.int 2, .int 21, .ref h14, .int 0]))] sz) := by
  refine vx_ofW (cc := cX11_found) (maxL := 3) (ret := (some .int)) (by decide) rfl ?_
  intro p e s m args below meth c s₁ B hml hno hv
  obtain ⟨rfl, hsz, hP, hD0, hE⟩ := hv
  have hx := B.exec
  have hb := B.bytes
  have hr := B.returns
  have hts := atoms_spec (ws := w9_X11_found_2) B.pre
  have hown : s.vm.findClass RX11 = some m.cls := findClass_of_methodNamed B.named
  have hlocks := B.notSynchronized
  subst hsz
  have hD := hD0.self (sz := s.heap.size)
  generalize hAe : va_A [(h0, .inr (12, [.ref h1, .int 0, .ref h2, .ref h3, .ref h4, .ref h5, .ref h6, .ref h7, .int (-1), .ref h8, .ref h9, .int 250, .ref h10, .int 0, .ref h11, .ref h12, .ref h13])), (h11, .inr (10, [.int 2, .int 21, .ref h14, .int 0]))] s.heap.size = A at hD hE ⊢
  have hA : ∀ q : Nat, s.heap.size ≤ q → A q := fun q h => by rw [← hAe]; exact Or.inr h
  have hK := hE.1
  have hS : va_S A s.heap s.heap [] := va_S.rf
  replace hP : va_P g.1 vwCl [(h0, .inr (12, [.ref h1, .int 0, .ref h2, .ref h3, .ref h4, .ref h5, .ref h6, .ref h7, .int (-1), .ref h8, .ref h9, .int 250, .ref h10, .int 0, .ref h11, .ref h12, .ref h13])), (h11, .inr (10, [.int 2, .int 21, .ref h14, .int 0]))] s.heap := hP
  have hl := lv_entry ([.ref h0, .int v0, .int 1]) (n := 3) (Nat.le_of_ble_eq_true rfl)
  rw [lg_entry_eq]
  generalize (lg_sl ([.ref h0, .int v0, .int 1]) ++ List.replicate (3 - (lg_sl ([.ref h0, .int v0, .int 1])).length) Slot.unset).toArray = ls at hl ⊢
  replace hl : lv_has ls 3 [(0, .ref h0), (1, .int v0), (2, .int 1)] := hl
  have hH0 : s.heap.size ≤ s.heap.size := Nat.le_refl _
  refine lv_iload_n hx hb dX11_found_0 rfl (lv_at hl 1 rfl) ?_
  refine lv_if_lt (tgt := 15) hx hb dX11_found_1 (by decide) (fun c9 => absurd c9 (by simp only [Int32.lt_iff_toInt_lt, Int32.le_iff_toInt_le, ← Int32.toInt_inj, show (0 : Int32).toInt = 0 from by decide]; omega)) (fun _ => ?_)
  refine lv_iload_n hx hb dX11_found_4 rfl (lv_at hl 1 rfl) ?_
  refine lv_aload_n hx hb dX11_found_5 rfl (lv_at hl 0 rfl) ?_
  refine va_get (D := g.1) (ci := 12) (v := .ref h11) (C := RX11) (T := TX11) (N := 17) hx hb hts in9_X11_found_2_RX11 hown hK hP 0 rfl rfl 14 (by decide) (hts (.fieldLink RX11 82 "Regexloom" "matches" "LRegexloom$Table;") (List.mem_of_getElem? (i := 1) rfl)) (fun _ h9 => h9) rfl dX11_found_6 ?_
  have hPc := hP.sub (ws' := [(h11, .inr (10, [.int 2, .int 21, .ref h14, .int 0]))]) [1] rfl
  have hDc := hD.sub (ws' := [(h11, .inr (10, [.int 2, .int 21, .ref h14, .int 0]))]) [1] (by decide) rfl
  have hFc := va_free (wc := [(h11, .inr (10, [.int 2, .int 21, .ref h14, .int 0]))]) hD hS hA [1] rfl
  refine va_calli (va_runV (As := []) (rest := [.int v0]) ⟨hx, hb, hml, hown, hts⟩ (c9_X9_size_3 l g h11 h14 _) (cwV 0 hts g9_X11_found_2_0 rfl rfl rfl (by decide +kernel) ⟨Nat.le_of_ble_eq_true rfl, Nat.le_of_ble_eq_true rfl⟩) (mPreV (g := g) (wc := [(h11, .inr (10, [.int 2, .int 21, .ref h14, .int 0]))]) (C := RX9) (ci := 10) (q0 := 0) hE hS hPc hDc hFc rfl rfl) rfl rfl hl.1 rfl (lv_room (Nat.le_of_ble_eq_true rfl)) dX11_found_9 ⟨Nat.le_of_ble_eq_true rfl, Nat.le_of_ble_eq_true rfl⟩) hS (fun q _ h => hFc q h) hFc (fun r_1 u t H1 locs ht hvm hw hB hz1 hk1 hS => ?_)
  replace hw : 0 = r_1 := Eq.symm hw
  subst hw
  obtain ⟨hP1, hD1⟩ := hB
  rw [ht] at hP1
  obtain ⟨hP, hD⟩ := va_join (wr := [(h0, .inr (12, [.ref h1, .int 0, .ref h2, .ref h3, .ref h4, .ref h5, .ref h6, .ref h7, .int (-1), .ref h8, .ref h9, .int 250, .ref h10, .int 0, .ref h11, .ref h12, .ref h13]))]) (w1 := [(h11, .inr (10, [.int 2, .int 21, .ref h14, .int 0]))]) hP hD [1] [0] rfl rfl (by decide) (by decide) hk1 hFc hP1 hD1
  clear hP1 hD1 hPc hDc hFc hk1 hz1 hvm ht
  generalize H1 = H at hP hS ⊢
  have hP : va_P g.1 vwCl [(h0, .inr (12, [.ref h1, .int 0, .ref h2, .ref h3, .ref h4, .ref h5, .ref h6, .ref h7, .int (-1), .ref h8, .ref h9, .int 250, .ref h10, .int 0, .ref h11, .ref h12, .ref h13])), (h11, .inr (10, [.int 2, .int 21, .ref h14, .int 0]))] H := hP
  have hD : va_D A [(h0, .inr (12, [.ref h1, .int 0, .ref h2, .ref h3, .ref h4, .ref h5, .ref h6, .ref h7, .int (-1), .ref h8, .ref h9, .int 250, .ref h10, .int 0, .ref h11, .ref h12, .ref h13])), (h11, .inr (10, [.int 2, .int 21, .ref h14, .int 0]))] := hD
  refine lv_icmp_lt (tgt := 25) hx hb dX11_found_12 (by decide) (fun c9 => absurd c9 (by simp only [Int32.lt_iff_toInt_lt, Int32.le_iff_toInt_le, ← Int32.toInt_inj, show (0 : Int32).toInt = 0 from by decide]; omega)) (fun _ => ?_)
  obtain ⟨sa, hsa⟩ := hE.str (245, "no such match") (by decide)
  exact vx_throwS (names := ["java/lang/RuntimeException", "java/lang/Exception"]) (A := A) hx hb hlt hown (by decide) (by decide) (hts (.classLink RX11 220 "java/lang/IndexOutOfBoundsException") (List.mem_of_getElem? (i := 53) rfl)) (hts (.initialized "java/lang/IndexOutOfBoundsException") (List.mem_of_getElem? (i := 54) rfl)) hsa (vx_hat (B := [.castable "java/lang/IndexOutOfBoundsException" "java/lang/IndexOutOfBoundsException", .declares (Bundle.initS "java/lang/RuntimeException"), .declares (Bundle.initS "java/lang/Exception"), .declares (Bundle.initS "java/lang/Throwable")]) (fun w9 hw9 => hts w9 (by revert w9; decide +kernel)) (by decide +kernel) (vx_c (va_Nw.use rfl (hE.cast ("java/lang/IndexOutOfBoundsException", "java/lang/IndexOutOfBoundsException") (by decide))) (vx_c (va_Nw.use rfl (hE.decl _ (by decide))) (vx_c (va_Nw.use rfl (hE.decl _ (by decide))) (vx_c (va_Nw.use rfl (hE.decl _ (by decide))) vx_n))))) (by decide +kernel) hE.zu hE.zn hS (by rw [hml]; exact hl.1) dX11_found_15 dX11_found_18 dX11_found_19 dX11_found_21 dX11_found_24 (fun z hz => (hno z hz).elim) (Nat.le_of_ble_eq_true rfl) (Nat.le_of_ble_eq_true rfl) (Nat.le_of_ble_eq_true rfl) (Nat.le_of_ble_eq_true rfl) hlocks (fun t hW hz ho => ⟨(), trivial, rfl, by subst hAe; exact ⟨Nat.le_trans hS.1 hz, fun q h1 h2 => (ho q (Nat.lt_of_lt_of_le h1 hS.1)).trans (hS.2.1 q h1 h2)⟩⟩) (fun z hz => by subst hAe; exact hS.2.2 z hz) (Nat.le_of_ble_eq_true rfl) (Nat.le_of_ble_eq_true rfl)
def w9_L_found_2 : List Cond := [.codeWith yL_found cL_found 5 (some .int) [(0, 10, 13, 21)], .methodLink RL 68 yX11_found, .instanceMethod yX11_found, .selects RX11 yX11_found yX11_found, .initialized RX11, .code yX11_found cX11_found 3 (some .int), .fieldLink RX11 82 "Regexloom" "matches" "LRegexloom$Table;", .methodLink RX11 244 yX9_size, .instanceMethod yX9_size, .selects RX9 yX9_size yX9_size, .initialized RX9, .code yX9_size cX9_size 1 (some .int), .fieldLink RX9 28 "Regexloom$Table" "size" "I", .initialized "java/lang/Throwable", .superclass "java/lang/Throwable" "java/lang/Object", .instanceMethod Bundle.tFill, .codeSync Bundle.tFill LibCode.Throwable.Fill.code 1 (some (.object "java/lang/Throwable")), .instanceMethod Bundle.tFill0, .native Bundle.tFill0, .instanceMethod Bundle.tInit0, .code Bundle.tInit0 LibCode.Throwable.Init0.code 1 none, .instanceMethod Bundle.oInit, .code Bundle.oInit ⟨#[0xb1]⟩ 1 none, .methodLink "java/lang/Throwable" 1 Bundle.oInit, .methodLink "java/lang/Throwable" 27 Bundle.tFill, .methodLink "java/lang/Throwable" 202 Bundle.tFill0, .fieldLink "java/lang/Throwable" 7 "java/lang/Throwable" "cause" "Ljava/lang/Throwable;", .lays "java/lang/Throwable" "java/lang/Throwable" "cause" "Ljava/lang/Throwable;", .fieldLink "java/lang/Throwable" 17 "java/lang/Throwable" "stackTrace" "[Ljava/lang/StackTraceElement;", .lays "java/lang/Throwable" "java/lang/Throwable" "stackTrace" "[Ljava/lang/StackTraceElement;", .fieldLink "java/lang/Throwable" 24 "java/lang/Throwable" "suppressedExceptions" "Ljava/util/List;", .lays "java/lang/Throwable" "java/lang/Throwable" "suppressedExceptions" "Ljava/util/List;", .fieldLink "java/lang/Throwable" 13 "java/lang/Throwable" "UNASSIGNED_STACK" "[Ljava/lang/StackTraceElement;", .fieldLink "java/lang/Throwable" 20 "java/lang/Throwable" "SUPPRESSED_SENTINEL" "Ljava/util/List;", .lays "java/lang/Throwable" "java/lang/Throwable" "detailMessage" "Ljava/lang/String;", .instanceMethod (Bundle.initS "java/lang/Throwable"), .code (Bundle.initS "java/lang/Throwable") LibCode.Throwable.InitS.code 2 none, .fieldLink "java/lang/Throwable" 31 "java/lang/Throwable" "detailMessage" "Ljava/lang/String;", .instanceMethod (Bundle.initS "java/lang/IndexOutOfBoundsException"), .code (Bundle.initS "java/lang/IndexOutOfBoundsException") Bundle.six 2 none, .methodLink "java/lang/IndexOutOfBoundsException" 7 (Bundle.initS "java/lang/RuntimeException"), .instanceMethod (Bundle.initS "java/lang/RuntimeException"), .code (Bundle.initS "java/lang/RuntimeException") Bundle.six 2 none, .methodLink "java/lang/RuntimeException" 7 (Bundle.initS "java/lang/Exception"), .instanceMethod (Bundle.initS "java/lang/Exception"), .code (Bundle.initS "java/lang/Exception") Bundle.six 2 none, .methodLink "java/lang/Exception" 7 (Bundle.initS "java/lang/Throwable"), .methodLink RX11 224 (Bundle.initS "java/lang/IndexOutOfBoundsException"), .instantiable "java/lang/IndexOutOfBoundsException" 6, .selects "java/lang/IndexOutOfBoundsException" Bundle.tFill0 Bundle.tFill0, .selects "java/lang/IndexOutOfBoundsException" Bundle.tFill Bundle.tFill, .lays "java/lang/IndexOutOfBoundsException" "java/lang/Throwable" "cause" "Ljava/lang/Throwable;", .lays "java/lang/IndexOutOfBoundsException" "java/lang/Throwable" "stackTrace" "[Ljava/lang/StackTraceElement;", .lays "java/lang/IndexOutOfBoundsException" "java/lang/Throwable" "suppressedExceptions" "Ljava/util/List;", .lays "java/lang/IndexOutOfBoundsException" "java/lang/Throwable" "detailMessage" "Ljava/lang/String;", .fieldLink "java/lang/Throwable" 198 "java/lang/Throwable" "backtrace" "Ljava/lang/Object;", .lays "java/lang/Throwable" "java/lang/Throwable" "backtrace" "Ljava/lang/Object;", .lays "java/lang/IndexOutOfBoundsException" "java/lang/Throwable" "backtrace" "Ljava/lang/Object;", .classLink RX11 220 "java/lang/IndexOutOfBoundsException", .initialized "java/lang/IndexOutOfBoundsException", .classLink RL 21 "java/lang/IndexOutOfBoundsException"] ++ (u_ws RX11 TX11 17 ++ u_ws RX9 TX9 4)
set_option maxRecDepth 20000 in
theorem in9_L_found_2_RX11 : ∀ w ∈ u_ws RX11 TX11 17, w ∈ w9_L_found_2 := by decide +kernel
set_option maxRecDepth 20000 in
theorem in9_L_found_2_RX9 : ∀ w ∈ u_ws RX9 TX9 4, w ∈ w9_L_found_2 := by decide +kernel
set_option maxRecDepth 20000 in
theorem g9_L_found_2_0 : GoodIn w9_L_found_2 (wsV RL 68 RX11 yX11_found w9_X11_found_2) := goodIn_r _ [1, 2, 3, 4, 5, 6, 7, 8, 9, 10, 11, 12, 13, 14, 15, 16, 17, 18, 19, 20, 21, 22, 23, 24, 25, 26, 27, 28, 29, 30, 31, 32, 33, 34, 35, 36, 37, 38, 39, 40, 41, 42, 43, 44, 45, 46, 47, 48, 49, 50, 51, 52, 53, 54, 55, 56, 57, 58, 59, 61, 62, 63, 64, 65, 66, 67, 68, 69, 70, 71, 72, 73, 74, 75, 76, 77, 78, 79, 80, 81] (by decide +kernel) (by decide +kernel)
set_option maxHeartbeats 4000000 in
set_option maxRecDepth 100000 in
theorem c9_L_found_2 (l : Launch) (hlt : l.stackTraces = false) (g : G9) (h0 h1 h2 h3 h4 h5 h6 h7 h8 h9 h10 h11 h12 h13 h14 h15 sz : Nat) (v0 : Int32) (k_v0 : 0 ≤ v0.toInt ∧ v0.toInt ≤ 2147483647) : Met l yL_found w9_L_found_2 ({ frames := 7, cells := 1, slots := 6, locals := 104 }) (mP g [(h0, .inr (12, [.ref h2, .int 0, .ref h3, .ref h4, .ref h5, .ref h6, .ref h7, .ref h8, .int (-1), .ref h9, .ref h10, .int 250, .ref h11, .int 0, .ref h12, .ref h13, .ref h14])), (h12, .inr (10, [.int 2, .int 21, .ref h15, .int 0]))] sz [.ref h0, .int v0, .int 1, .ref h1]) (va_Qi (fun (r : Int32) (_ : Unit) => r = 1) (fun (_ : Unit) (t : State) => mB g [(h0, .inr (12, [.ref h2, .int 0, .ref h3, .ref h4, .ref h5, .ref h6, .ref h7, .ref h8, .int (-1), .ref h9, .ref h10, .int 250, .ref h11, .int 0, .ref h12, .ref h13, .ref h14])), (h12, .inr (10, [.int 2, .int 21, .ref h15, .int 0]))] sz [] t) (va_A [(h0, .inr (12, [.ref h2, .int 0, .ref h3, .ref h4, .ref h5, .ref h6, .ref h7, .ref h8, .int (-1), .ref h9, .ref h10, .int 250, .ref h11, .int 0, .ref h12, .ref h13, .ref h14])), (h12, .inr (10, [.int 2, .int 21, .ref h15, .int 0]))] sz)) 1 6 (va_A [(h0, .inr (12, [.ref h2, .int 0, .ref h3, .ref h4, .ref h5, .ref h6, .ref h7, .ref h8, .int (-1), .ref h9, .ref h10, .int 250, .ref h11, .int 0, .ref h12, .ref h13, .ref h14])), (h12, .inr (10, [.int 2, .int 21, .ref h15, .int 0]))] sz) := by
  refine va_MetW (cc := cL_found) (maxL := 5) (ret := (some .int)) (by decide) rfl ?_
  intro p e s m args below meth c s₁ B hml hv
  obtain ⟨rfl, hsz, hP, hD0, hE⟩ := hv
  have hx := B.exec
  have hb := B.bytes
  have hr := B.returns
  have hts := atoms_spec (ws := w9_L_found_2) B.pre
  have hown : s.vm.findClass RL = some m.cls := findClass_of_methodNamed B.named
  have hlocks := B.notSynchronized
  have htab := vx_table (x := yL_found) B (hts (.codeWith yL_found cL_found 5 (some .int) [(0, 10, 13, 21)]) (List.mem_of_getElem? (i := 0) rfl))
  subst hsz
  have hD := hD0.self (sz := s.heap.size)
  generalize hAe : va_A [(h0, .inr (12, [.ref h2, .int 0, .ref h3, .ref h4, .ref h5, .ref h6, .ref h7, .ref h8, .int (-1), .ref h9, .ref h10, .int 250, .ref h11, .int 0, .ref h12, .ref h13, .ref h14])), (h12, .inr (10, [.int 2, .int 21, .ref h15, .int 0]))] s.heap.size = A at hD hE ⊢
  have hA : ∀ q : Nat, s.heap.size ≤ q → A q := fun q h => by rw [← hAe]; exact Or.inr h
  have hK := hE.1
  have hS : va_S A s.heap s.heap [] := va_S.rf
  replace hP : va_P g.1 vwCl [(h0, .inr (12, [.ref h2, .int 0, .ref h3, .ref h4, .ref h5, .ref h6, .ref h7, .ref h8, .int (-1), .ref h9, .ref h10, .int 250, .ref h11, .int 0, .ref h12, .ref h13, .ref h14])), (h12, .inr (10, [.int 2, .int 21, .ref h15, .int 0]))] s.heap := hP
  have hl := lv_entry ([.ref h0, .int v0, .int 1, .ref h1]) (n := 5) (Nat.le_of_ble_eq_true rfl)
  rw [lg_entry_eq]
  generalize (lg_sl ([.ref h0, .int v0, .int 1, .ref h1]) ++ List.replicate (5 - (lg_sl ([.ref h0, .int v0, .int 1, .ref h1])).length) Slot.unset).toArray = ls at hl ⊢
  replace hl : lv_has ls 5 [(0, .ref h0), (1, .int v0), (2, .int 1), (3, .ref h1)] := hl
  have hH0 : s.heap.size ≤ s.heap.size := Nat.le_refl _
  refine lv_aload_n hx hb dL_found_0 rfl (lv_at hl 3 rfl) ?_
  refine lv_iconst (v := 0) hx hb dL_found_1 (by decide) ?_
  refine lv_aload_n hx hb dL_found_2 rfl (lv_at hl 0 rfl) ?_
  refine lv_iload_n hx hb dL_found_3 rfl (lv_at hl 1 rfl) ?_
  refine lv_iload_n hx hb dL_found_4 rfl (lv_at hl 2 rfl) ?_
  have hPc := hP.sub (ws' := [(h0, .inr (12, [.ref h2, .int 0, .ref h3, .ref h4, .ref h5, .ref h6, .ref h7, .ref h8, .int (-1), .ref h9, .ref h10, .int 250, .ref h11, .int 0, .ref h12, .ref h13, .ref h14])), (h12, .inr (10, [.int 2, .int 21, .ref h15, .int 0]))]) [0, 1] rfl
  have hDc := hD.sub (ws' := [(h0, .inr (12, [.ref h2, .int 0, .ref h3, .ref h4, .ref h5, .ref h6, .ref h7, .ref h8, .int (-1), .ref h9, .ref h10, .int 250, .ref h11, .int 0, .ref h12, .ref h13, .ref h14])), (h12, .inr (10, [.int 2, .int 21, .ref h15, .int 0]))]) [0, 1] (by decide) rfl
  have hFc := va_free (wc := [(h0, .inr (12, [.ref h2, .int 0, .ref h3, .ref h4, .ref h5, .ref h6, .ref h7, .ref h8, .int (-1), .ref h9, .ref h10, .int 250, .ref h11, .int 0, .ref h12, .ref h13, .ref h14])), (h12, .inr (10, [.int 2, .int 21, .ref h15, .int 0]))]) hD hS hA [0, 1] rfl
  refine vx_callv (vx_runV (As := [.int v0, .int 1]) (rest := [.int 0, .ref h1]) ⟨hx, hb, hml, hown, hts⟩ (c9_X11_found_2 l hlt g h0 h2 h3 h4 h5 h6 h7 h8 h9 h10 h11 h12 h13 h14 h15 _ v0 (by omega)) (cwV 2 hts g9_L_found_2_0 rfl rfl rfl (by decide +kernel) ⟨Nat.le_of_ble_eq_true rfl, Nat.le_of_ble_eq_true rfl⟩) (mPreV (g := g) (wc := [(h0, .inr (12, [.ref h2, .int 0, .ref h3, .ref h4, .ref h5, .ref h6, .ref h7, .ref h8, .int (-1), .ref h9, .ref h10, .int 250, .ref h11, .int 0, .ref h12, .ref h13, .ref h14])), (h12, .inr (10, [.int 2, .int 21, .ref h15, .int 0]))]) (C := RX11) (ci := 12) (q0 := 0) hE hS hPc hDc hFc rfl rfl) rfl rfl hl.1 rfl (lv_room (Nat.le_of_ble_eq_true rfl)) dL_found_5 ⟨Nat.le_of_ble_eq_true rfl, Nat.le_of_ble_eq_true rfl⟩) hS (fun q _ h => hFc q h) hFc (fun q _ h => hFc q h) (fun E9 ce q9 u t H locs ht hvm hw hB hz1 hk1 hS hc1 hc2 hc3 => ?_) (fun u t H1 locs ht hvm hw hB hz1 hk1 hS => hw.elim)
  replace hB : E9 = "java/lang/IndexOutOfBoundsException" := hB
  subst hB
  obtain ⟨hP, hD⟩ := va_join (wr := []) (w1 := []) hP hD [0, 1] [] rfl rfl (by decide) (by decide) hk1 hFc (fun k q h => by simp at h) ⟨fun i j p q h => by simp at h, fun k q h => by simp at h⟩
  have hP : va_P g.1 vwCl [] H := hP
  have hD : va_D A [] := hD
  refine vx_catch (own := RL) (name := "java/lang/IndexOutOfBoundsException") hown [] ⟨0, 10, 13, 21⟩ [] (by rw [htab]; rfl) (fun z hz => absurd hz List.not_mem_nil) (by decide) (by decide) (hts (.classLink RL 21 "java/lang/IndexOutOfBoundsException") (List.mem_of_getElem? (i := 60) rfl)) (va_Nw.use rfl (hE.cast ("java/lang/IndexOutOfBoundsException", "java/lang/IndexOutOfBoundsException") (by decide))) hc1 hc2 hc3 ?_
  refine lv_astore (lv' := [(4, .ref q9), (0, .ref h0), (1, .int v0), (2, .int 1), (3, .ref h1)]) hx hb dL_found_13 hl (by decide) rfl (fun ls hl => ?_)
  refine lv_iconst (v := 1) hx hb dL_found_15 (by decide) ?_
  have hP9 := hP.sub (ws' := []) [] rfl
  have hD9 := hD.sub (ws' := []) [] (by decide) rfl
  subst hAe
  exact W.iret (v := 1) hx hb hr (fun t ht hW => ⟨⟨1, (), rfl, rfl, by rw [ht]; exact hP9, hD9⟩, hS.F ht⟩) hS.2.2 dL_found_16
def w9_X21_in_24 : List Cond := [.code yX21_in cX21_in 3 (some .boolean)]
set_option maxHeartbeats 4000000 in
set_option maxRecDepth 100000 in
theorem c9_X21_in_24 (l : Launch) (g : G9) (sz : Nat) (v0 : Int32) (k_v0 : 0 ≤ v0.toInt ∧ v0.toInt ≤ 2147483647) : Met l yX21_in w9_X21_in_24 ({ frames := 0, cells := 0, slots := 0, locals := 0 }) (mP g [] sz [.int v0, .int 0, .int (-1)]) (va_Qi (fun (r : Int32) (_ : Unit) => r = 0) (fun (_ : Unit) (t : State) => mB g [] sz [] t) (va_A [] sz)) 0 0 (va_A [] sz) := by
  refine Met.ofW (cc := cX21_in) (maxL := 3) (ret := (some .boolean)) (by decide) rfl ?_
  intro p e s m args below meth c s₁ B hml hv
  obtain ⟨rfl, hsz, hP, hD0, hE⟩ := hv
  have hx := B.exec
  have hb := B.bytes
  have hr := B.returns
  have hts := atoms_spec (ws := w9_X21_in_24) B.pre
  have hown : s.vm.findClass RX21 = some m.cls := findClass_of_methodNamed B.named
  have hlocks := B.notSynchronized
  subst hsz
  have hD := hD0.self (sz := s.heap.size)
  generalize hAe : va_A [] s.heap.size = A at hD hE ⊢
  have hA : ∀ q : Nat, s.heap.size ≤ q → A q := fun q h => by rw [← hAe]; exact Or.inr h
  have hK := hE.1
  have hS : va_S A s.heap s.heap [] := va_S.rf
  replace hP : va_P g.1 vwCl [] s.heap := hP
  have hl := lv_entry ([.int v0, .int 0, .int (-1)]) (n := 3) (Nat.le_of_ble_eq_true rfl)
  rw [lg_entry_eq]
  generalize (lg_sl ([.int v0, .int 0, .int (-1)]) ++ List.replicate (3 - (lg_sl ([.int v0, .int 0, .int (-1)])).length) Slot.unset).toArray = ls at hl ⊢
  replace hl : lv_has ls 3 [(0, .int v0), (1, .int 0), (2, .int (-1))] := hl
  have hH0 : s.heap.size ≤ s.heap.size := Nat.le_refl _
  refine lv_iload_n hx hb dX21_in_0 rfl (lv_at hl 0 rfl) ?_
  refine lv_iload_n hx hb dX21_in_1 rfl (lv_at hl 1 rfl) ?_
  refine lv_icmp_lt (tgt := 14) hx hb dX21_in_2 (by decide) (fun c9 => absurd c9 (by simp only [Int32.lt_iff_toInt_lt, Int32.le_iff_toInt_le, ← Int32.toInt_inj, show (0 : Int32).toInt = 0 from by decide]; omega)) (fun _ => ?_)
  refine lv_iload_n hx hb dX21_in_5 rfl (lv_at hl 0 rfl) ?_
  refine lv_iload_n hx hb dX21_in_6 rfl (lv_at hl 2 rfl) ?_
  refine lv_icmp_gt (tgt := 14) hx hb dX21_in_7 (by decide) (fun _ => ?_) (fun c9 => absurd (by simp only [Int32.lt_iff_toInt_lt, Int32.le_iff_toInt_le, ← Int32.toInt_inj, show ((-1) : Int32).toInt = -1 from by decide]; omega) c9)
  refine lv_iconst (v := 0) hx hb dX21_in_14 (by decide) ?_
  have hP9 := hP.sub (ws' := []) [] rfl
  have hD9 := hD.sub (ws' := []) [] (by decide) rfl
  subst hAe
  exact W.zret (v := 0) hx hb hr (by decide) (fun t ht hW => ⟨⟨0, (), rfl, rfl, by rw [ht]; exact hP9, hD9⟩, hS.F ht⟩) hS.2.2 dX21_in_15
def w9_X21_found_2 : List Cond := [.code yX21_found cX21_found 3 (some .int), .fieldLink RX21 101 "RegexloomModel" "begins" "Ljava/util/ArrayList;", .methodLink RX21 218 yJx4a65c_size_8abf5, .instanceMethod yJx4a65c_size_8abf5, .selects RJx4a65c yJx4a65c_size_8abf5 yJx4a65c_size_8abf5, .initialized RJx4a65c, .code yJx4a65c_size_8abf5 cJx4a65c_size_8abf5 1 (some .int), .fieldLink RJx4a65c 48 "java/util/ArrayList" "size" "I", .methodLink RX21 160 yX21_in, .static yX21_in, .initialized RX21, .code yX21_in cX21_in 3 (some .boolean), .methodLink RX21 154 yX21_refused, .instanceMethod yX21_refused, .selects RX21 yX21_refused yX21_refused, .code yX21_refused cX21_refused 2 (some .boolean), .fieldLink RX21 144 "RegexloomModel" "refusal" "I"] ++ (u_ws RX21 TX21 32 ++ u_ws RJx4a65c TJx4a65c 3)
set_option maxRecDepth 20000 in
theorem in9_X21_found_2_RX21 : ∀ w ∈ u_ws RX21 TX21 32, w ∈ w9_X21_found_2 := by decide +kernel
set_option maxRecDepth 20000 in
theorem in9_X21_found_2_RJx4a65c : ∀ w ∈ u_ws RJx4a65c TJx4a65c 3, w ∈ w9_X21_found_2 := by decide +kernel
set_option maxRecDepth 20000 in
theorem g9_X21_found_2_0 : GoodIn w9_X21_found_2 (wsV RX21 218 RJx4a65c yJx4a65c_size_8abf5 w9_Jx4a65c_size_8abf5_1) := goodIn_r _ [2, 3, 4, 5, 6, 7, 49, 50, 51] (by decide +kernel) (by decide +kernel)
set_option maxRecDepth 20000 in
theorem g9_X21_found_2_1 : GoodIn w9_X21_found_2 (va_wsS RX21 160 yX21_in w9_X21_in_24) := goodIn_r _ [8, 9, 10, 11] (by decide +kernel) (by decide +kernel)
set_option maxRecDepth 20000 in
theorem g9_X21_found_2_2 : GoodIn w9_X21_found_2 (wsV RX21 154 RX21 yX21_refused w9_X21_refused_2) := goodIn_r _ [12, 13, 14, 10, 15, 16, 17, 18, 19, 20, 21, 22, 23, 24, 25, 26, 27, 28, 29, 30, 31, 32, 33, 34, 35, 36, 37, 38, 39, 40, 41, 42, 43, 44, 45, 46, 47, 48] (by decide +kernel) (by decide +kernel)
set_option maxHeartbeats 4000000 in
set_option maxRecDepth 100000 in
theorem c9_X21_found_2 (l : Launch) (g : G9) (h0 h1 h2 h3 h4 h5 h6 h7 h8 h9 h10 h11 h12 h13 h14 h15 h16 sz : Nat) (v0 : Int32) (k_v0 : 0 ≤ v0.toInt ∧ v0.toInt ≤ 2147483647) : Met l yX21_found w9_X21_found_2 ({ frames := 1, cells := 0, slots := 0, locals := 22 }) (mP g [(h0, .inr (22, [.int 0, .ref h1, .int 0, .ref h2, .int 0, .ref h3, .int 250, .ref h4, .int 0, .ref h5, .ref h6, .ref h7, .int 0, .ref h8, .ref h9, .ref h10, .int 0, .null, .int 0, .null, .int 0, .int 0, .int 0, .ref h11, .int 0, .ref h12, .ref h13, .ref h14, .int 0, .ref h15, .ref h16, .int 0])), (h5, .inr (2, [.int 0, .ref (g.2.2 0), .int 0]))] sz [.ref h0, .int v0, .int 1]) (va_Qi (fun (r : Int32) (_ : Unit) => r = 0) (fun (_ : Unit) (t : State) => mB g [(h0, .inr (22, [.int 0, .ref h1, .int 0, .ref h2, .int 0, .ref h3, .int 250, .ref h4, .int 0, .ref h5, .ref h6, .ref h7, .int 0, .ref h8, .ref h9, .ref h10, .int 0, .null, .int 0, .null, .int 0, .int 0, .int 0, .ref h11, .int 0, .ref h12, .ref h13, .ref h14, .int 0, .ref h15, .ref h16, .int 0])), (h5, .inr (2, [.int 0, .ref (g.2.2 0), .int 0]))] sz [(h0, .inr (22, [.int 1, .ref h1, .int 0, .ref h2, .int 0, .ref h3, .int 250, .ref h4, .int 0, .ref h5, .ref h6, .ref h7, .int 0, .ref h8, .ref h9, .ref h10, .int 0, .null, .int 0, .null, .int 0, .int 0, .int 0, .ref h11, .int 0, .ref h12, .ref h13, .ref h14, .int 0, .ref h15, .ref h16, .int 0])), (h5, .inr (2, [.int 0, .ref (g.2.2 0), .int 0]))] t) (va_A [(h0, .inr (22, [.int 0, .ref h1, .int 0, .ref h2, .int 0, .ref h3, .int 250, .ref h4, .int 0, .ref h5, .ref h6, .ref h7, .int 0, .ref h8, .ref h9, .ref h10, .int 0, .null, .int 0, .null, .int 0, .int 0, .int 0, .ref h11, .int 0, .ref h12, .ref h13, .ref h14, .int 0, .ref h15, .ref h16, .int 0])), (h5, .inr (2, [.int 0, .ref (g.2.2 0), .int 0]))] sz)) 0 0 (va_A [(h0, .inr (22, [.int 0, .ref h1, .int 0, .ref h2, .int 0, .ref h3, .int 250, .ref h4, .int 0, .ref h5, .ref h6, .ref h7, .int 0, .ref h8, .ref h9, .ref h10, .int 0, .null, .int 0, .null, .int 0, .int 0, .int 0, .ref h11, .int 0, .ref h12, .ref h13, .ref h14, .int 0, .ref h15, .ref h16, .int 0])), (h5, .inr (2, [.int 0, .ref (g.2.2 0), .int 0]))] sz) := by
  refine Met.ofW (cc := cX21_found) (maxL := 3) (ret := (some .int)) (by decide) rfl ?_
  intro p e s m args below meth c s₁ B hml hv
  obtain ⟨rfl, hsz, hP, hD0, hE⟩ := hv
  have hx := B.exec
  have hb := B.bytes
  have hr := B.returns
  have hts := atoms_spec (ws := w9_X21_found_2) B.pre
  have hown : s.vm.findClass RX21 = some m.cls := findClass_of_methodNamed B.named
  have hlocks := B.notSynchronized
  subst hsz
  have hD := hD0.self (sz := s.heap.size)
  generalize hAe : va_A [(h0, .inr (22, [.int 0, .ref h1, .int 0, .ref h2, .int 0, .ref h3, .int 250, .ref h4, .int 0, .ref h5, .ref h6, .ref h7, .int 0, .ref h8, .ref h9, .ref h10, .int 0, .null, .int 0, .null, .int 0, .int 0, .int 0, .ref h11, .int 0, .ref h12, .ref h13, .ref h14, .int 0, .ref h15, .ref h16, .int 0])), (h5, .inr (2, [.int 0, .ref (g.2.2 0), .int 0]))] s.heap.size = A at hD hE ⊢
  have hA : ∀ q : Nat, s.heap.size ≤ q → A q := fun q h => by rw [← hAe]; exact Or.inr h
  have hK := hE.1
  have hS : va_S A s.heap s.heap [] := va_S.rf
  replace hP : va_P g.1 vwCl [(h0, .inr (22, [.int 0, .ref h1, .int 0, .ref h2, .int 0, .ref h3, .int 250, .ref h4, .int 0, .ref h5, .ref h6, .ref h7, .int 0, .ref h8, .ref h9, .ref h10, .int 0, .null, .int 0, .null, .int 0, .int 0, .int 0, .ref h11, .int 0, .ref h12, .ref h13, .ref h14, .int 0, .ref h15, .ref h16, .int 0])), (h5, .inr (2, [.int 0, .ref (g.2.2 0), .int 0]))] s.heap := hP
  have hl := lv_entry ([.ref h0, .int v0, .int 1]) (n := 3) (Nat.le_of_ble_eq_true rfl)
  rw [lg_entry_eq]
  generalize (lg_sl ([.ref h0, .int v0, .int 1]) ++ List.replicate (3 - (lg_sl ([.ref h0, .int v0, .int 1])).length) Slot.unset).toArray = ls at hl ⊢
  replace hl : lv_has ls 3 [(0, .ref h0), (1, .int v0), (2, .int 1)] := hl
  have hH0 : s.heap.size ≤ s.heap.size := Nat.le_refl _
  refine lv_aload_n hx hb dX21_found_0 rfl (lv_at hl 0 rfl) ?_
  refine lv_iload_n hx hb dX21_found_1 rfl (lv_at hl 1 rfl) ?_
  refine lv_iconst (v := 0) hx hb dX21_found_2 (by decide) ?_
  refine lv_aload_n hx hb dX21_found_3 rfl (lv_at hl 0 rfl) ?_
  refine va_get (D := g.1) (ci := 22) (v := .ref h5) (C := RX21) (T := TX21) (N := 32) hx hb hts in9_X21_found_2_RX21 hown hK hP 0 rfl rfl 9 (by decide) (hts (.fieldLink RX21 101 "RegexloomModel" "begins" "Ljava/util/ArrayList;") (List.mem_of_getElem? (i := 1) rfl)) (fun _ h9 => h9) rfl dX21_found_4 ?_
  have hPc := hP.sub (ws' := [(h5, .inr (2, [.int 0, .ref (g.2.2 0), .int 0]))]) [1] rfl
  have hDc := hD.sub (ws' := [(h5, .inr (2, [.int 0, .ref (g.2.2 0), .int 0]))]) [1] (by decide) rfl
  have hFc := va_free (wc := [(h5, .inr (2, [.int 0, .ref (g.2.2 0), .int 0]))]) hD hS hA [1] rfl
  refine va_calli (va_runV (As := []) (rest := [.int 0, .int v0, .ref h0]) ⟨hx, hb, hml, hown, hts⟩ (c9_Jx4a65c_size_8abf5_1 l g h5 _) (cwV 0 hts g9_X21_found_2_0 rfl rfl rfl (by decide +kernel) ⟨Nat.le_of_ble_eq_true rfl, Nat.le_of_ble_eq_true rfl⟩) (mPreV (g := g) (wc := [(h5, .inr (2, [.int 0, .ref (g.2.2 0), .int 0]))]) (C := RJx4a65c) (ci := 2) (q0 := 0) hE hS hPc hDc hFc rfl rfl) rfl rfl hl.1 rfl (lv_room (Nat.le_of_ble_eq_true rfl)) dX21_found_7 ⟨Nat.le_of_ble_eq_true rfl, Nat.le_of_ble_eq_true rfl⟩) hS (fun q _ h => hFc q h) hFc (fun r_1 u t H1 locs ht hvm hw hB hz1 hk1 hS => ?_)
  replace hw : 0 = r_1 := Eq.symm hw
  subst hw
  obtain ⟨hP1, hD1⟩ := hB
  rw [ht] at hP1
  obtain ⟨hP, hD⟩ := va_join (wr := [(h0, .inr (22, [.int 0, .ref h1, .int 0, .ref h2, .int 0, .ref h3, .int 250, .ref h4, .int 0, .ref h5, .ref h6, .ref h7, .int 0, .ref h8, .ref h9, .ref h10, .int 0, .null, .int 0, .null, .int 0, .int 0, .int 0, .ref h11, .int 0, .ref h12, .ref h13, .ref h14, .int 0, .ref h15, .ref h16, .int 0]))]) (w1 := [(h5, .inr (2, [.int 0, .ref (g.2.2 0), .int 0]))]) hP hD [1] [0] rfl rfl (by decide) (by decide) hk1 hFc hP1 hD1
  clear hP1 hD1 hPc hDc hFc hk1 hz1 hvm ht
  generalize H1 = H at hP hS ⊢
  have hP : va_P g.1 vwCl [(h0, .inr (22, [.int 0, .ref h1, .int 0, .ref h2, .int 0, .ref h3, .int 250, .ref h4, .int 0, .ref h5, .ref h6, .ref h7, .int 0, .ref h8, .ref h9, .ref h10, .int 0, .null, .int 0, .null, .int 0, .int 0, .int 0, .ref h11, .int 0, .ref h12, .ref h13, .ref h14, .int 0, .ref h15, .ref h16, .int 0])), (h5, .inr (2, [.int 0, .ref (g.2.2 0), .int 0]))] H := hP
  have hD : va_D A [(h0, .inr (22, [.int 0, .ref h1, .int 0, .ref h2, .int 0, .ref h3, .int 250, .ref h4, .int 0, .ref h5, .ref h6, .ref h7, .int 0, .ref h8, .ref h9, .ref h10, .int 0, .null, .int 0, .null, .int 0, .int 0, .int 0, .ref h11, .int 0, .ref h12, .ref h13, .ref h14, .int 0, .ref h15, .ref h16, .int 0])), (h5, .inr (2, [.int 0, .ref (g.2.2 0), .int 0]))] := hD
  refine lv_iconst (v := 1) hx hb dX21_found_10 (by decide) ?_
  refine lv_isub hx hb dX21_found_11 ?_
  refine e_top (y := (-1)) (by decide) ?_
  have hPc := hP.sub (ws' := []) [] rfl
  have hDc := hD.sub (ws' := []) [] (by decide) rfl
  have hFc := va_free (wc := []) hD hS hA [] rfl
  refine va_calli (va_runS (As := [.int v0, .int 0, .int (-1)]) (rest := [.ref h0]) ⟨hx, hb, hml, hown, hts⟩ (c9_X21_in_24 l g _ v0 (by omega)) (va_cwS 3 hts g9_X21_found_2_1 rfl rfl rfl (by decide +kernel) ⟨Nat.le_of_ble_eq_true rfl, Nat.le_of_ble_eq_true rfl⟩) (mPreS (g := g) (wc := []) hE hS hPc hDc hFc) rfl rfl hl.1 rfl (lv_room (Nat.le_of_ble_eq_true rfl)) dX21_found_12 ⟨Nat.le_of_ble_eq_true rfl, Nat.le_of_ble_eq_true rfl⟩) hS (fun q _ h => hFc q h) hFc (fun r_2 u t H1 locs ht hvm hw hB hz1 hk1 hS => ?_)
  replace hw : 0 = r_2 := Eq.symm hw
  subst hw
  obtain ⟨hP1, hD1⟩ := hB
  rw [ht] at hP1
  obtain ⟨hP, hD⟩ := va_join (wr := [(h0, .inr (22, [.int 0, .ref h1, .int 0, .ref h2, .int 0, .ref h3, .int 250, .ref h4, .int 0, .ref h5, .ref h6, .ref h7, .int 0, .ref h8, .ref h9, .ref h10, .int 0, .null, .int 0, .null, .int 0, .int 0, .int 0, .ref h11, .int 0, .ref h12, .ref h13, .ref h14, .int 0, .ref h15, .ref h16, .int 0])), (h5, .inr (2, [.int 0, .ref (g.2.2 0), .int 0]))]) (w1 := []) hP hD [] [0, 1] rfl rfl (by decide) (by decide) hk1 hFc hP1 hD1
  clear hP1 hD1 hPc hDc hFc hk1 hz1 hvm ht
  generalize H1 = H at hP hS ⊢
  have hP : va_P g.1 vwCl [(h0, .inr (22, [.int 0, .ref h1, .int 0, .ref h2, .int 0, .ref h3, .int 250, .ref h4, .int 0, .ref h5, .ref h6, .ref h7, .int 0, .ref h8, .ref h9, .ref h10, .int 0, .null, .int 0, .null, .int 0, .int 0, .int 0, .ref h11, .int 0, .ref h12, .ref h13, .ref h14, .int 0, .ref h15, .ref h16, .int 0])), (h5, .inr (2, [.int 0, .ref (g.2.2 0), .int 0]))] H := hP
  have hD : va_D A [(h0, .inr (22, [.int 0, .ref h1, .int 0, .ref h2, .int 0, .ref h3, .int 250, .ref h4, .int 0, .ref h5, .ref h6, .ref h7, .int 0, .ref h8, .ref h9, .ref h10, .int 0, .null, .int 0, .null, .int 0, .int 0, .int 0, .ref h11, .int 0, .ref h12, .ref h13, .ref h14, .int 0, .ref h15, .ref h16, .int 0])), (h5, .inr (2, [.int 0, .ref (g.2.2 0), .int 0]))] := hD
  refine lv_if_eq (tgt := 22) hx hb dX21_found_15 (by decide) (fun _ => ?_) (fun c9 => absurd (by decide) c9)
  refine lv_iconst (v := 1) hx hb dX21_found_22 (by decide) ?_
  have hPc := hP.sub (ws' := [(h0, .inr (22, [.int 0, .ref h1, .int 0, .ref h2, .int 0, .ref h3, .int 250, .ref h4, .int 0, .ref h5, .ref h6, .ref h7, .int 0, .ref h8, .ref h9, .ref h10, .int 0, .null, .int 0, .null, .int 0, .int 0, .int 0, .ref h11, .int 0, .ref h12, .ref h13, .ref h14, .int 0, .ref h15, .ref h16, .int 0]))]) [0] rfl
  have hDc := hD.sub (ws' := [(h0, .inr (22, [.int 0, .ref h1, .int 0, .ref h2, .int 0, .ref h3, .int 250, .ref h4, .int 0, .ref h5, .ref h6, .ref h7, .int 0, .ref h8, .ref h9, .ref h10, .int 0, .null, .int 0, .null, .int 0, .int 0, .int 0, .ref h11, .int 0, .ref h12, .ref h13, .ref h14, .int 0, .ref h15, .ref h16, .int 0]))]) [0] (by decide) rfl
  have hFc := va_free (wc := [(h0, .inr (22, [.int 0, .ref h1, .int 0, .ref h2, .int 0, .ref h3, .int 250, .ref h4, .int 0, .ref h5, .ref h6, .ref h7, .int 0, .ref h8, .ref h9, .ref h10, .int 0, .null, .int 0, .null, .int 0, .int 0, .int 0, .ref h11, .int 0, .ref h12, .ref h13, .ref h14, .int 0, .ref h15, .ref h16, .int 0]))]) hD hS hA [0] rfl
  refine va_calli (va_runV (As := [.int 1]) (rest := []) ⟨hx, hb, hml, hown, hts⟩ (c9_X21_refused_2 l g h0 h1 h2 h3 h4 h5 h6 h7 h8 h9 h10 h11 h12 h13 h14 h15 h16 _) (cwV 1 hts g9_X21_found_2_2 rfl rfl rfl (by decide +kernel) ⟨Nat.le_of_ble_eq_true rfl, Nat.le_of_ble_eq_true rfl⟩) (mPreV (g := g) (wc := [(h0, .inr (22, [.int 0, .ref h1, .int 0, .ref h2, .int 0, .ref h3, .int 250, .ref h4, .int 0, .ref h5, .ref h6, .ref h7, .int 0, .ref h8, .ref h9, .ref h10, .int 0, .null, .int 0, .null, .int 0, .int 0, .int 0, .ref h11, .int 0, .ref h12, .ref h13, .ref h14, .int 0, .ref h15, .ref h16, .int 0]))]) (C := RX21) (ci := 22) (q0 := 0) hE hS hPc hDc hFc rfl rfl) rfl rfl hl.1 rfl (lv_room (Nat.le_of_ble_eq_true rfl)) dX21_found_23 ⟨Nat.le_of_ble_eq_true rfl, Nat.le_of_ble_eq_true rfl⟩) hS (fun q _ h => hFc q h) hFc (fun r_3 u t H1 locs ht hvm hw hB hz1 hk1 hS => ?_)
  replace hw : 1 = r_3 := Eq.symm hw
  subst hw
  obtain ⟨hP1, hD1⟩ := hB
  rw [ht] at hP1
  obtain ⟨hP, hD⟩ := va_join (wr := [(h5, .inr (2, [.int 0, .ref (g.2.2 0), .int 0]))]) (w1 := [(h0, .inr (22, [.int 1, .ref h1, .int 0, .ref h2, .int 0, .ref h3, .int 250, .ref h4, .int 0, .ref h5, .ref h6, .ref h7, .int 0, .ref h8, .ref h9, .ref h10, .int 0, .null, .int 0, .null, .int 0, .int 0, .int 0, .ref h11, .int 0, .ref h12, .ref h13, .ref h14, .int 0, .ref h15, .ref h16, .int 0]))]) hP hD [0] [1] rfl rfl (by decide) (by decide) hk1 hFc hP1 hD1
  clear hP1 hD1 hPc hDc hFc hk1 hz1 hvm ht
  generalize H1 = H at hP hS ⊢
  have hP : va_P g.1 vwCl [(h5, .inr (2, [.int 0, .ref (g.2.2 0), .int 0])), (h0, .inr (22, [.int 1, .ref h1, .int 0, .ref h2, .int 0, .ref h3, .int 250, .ref h4, .int 0, .ref h5, .ref h6, .ref h7, .int 0, .ref h8, .ref h9, .ref h10, .int 0, .null, .int 0, .null, .int 0, .int 0, .int 0, .ref h11, .int 0, .ref h12, .ref h13, .ref h14, .int 0, .ref h15, .ref h16, .int 0]))] H := hP
  have hD : va_D A [(h5, .inr (2, [.int 0, .ref (g.2.2 0), .int 0])), (h0, .inr (22, [.int 1, .ref h1, .int 0, .ref h2, .int 0, .ref h3, .int 250, .ref h4, .int 0, .ref h5, .ref h6, .ref h7, .int 0, .ref h8, .ref h9, .ref h10, .int 0, .null, .int 0, .null, .int 0, .int 0, .int 0, .ref h11, .int 0, .ref h12, .ref h13, .ref h14, .int 0, .ref h15, .ref h16, .int 0]))] := hD
  refine lv_if_eq (tgt := 31) hx hb dX21_found_26 (by decide) (fun c9 => absurd c9 (by decide)) (fun _ => ?_)
  refine lv_iconst (v := 0) hx hb dX21_found_29 (by decide) ?_
  have hP9 := hP.sub (ws' := [(h0, .inr (22, [.int 1, .ref h1, .int 0, .ref h2, .int 0, .ref h3, .int 250, .ref h4, .int 0, .ref h5, .ref h6, .ref h7, .int 0, .ref h8, .ref h9, .ref h10, .int 0, .null, .int 0, .null, .int 0, .int 0, .int 0, .ref h11, .int 0, .ref h12, .ref h13, .ref h14, .int 0, .ref h15, .ref h16, .int 0])), (h5, .inr (2, [.int 0, .ref (g.2.2 0), .int 0]))]) [1, 0] rfl
  have hD9 := hD.sub (ws' := [(h0, .inr (22, [.int 1, .ref h1, .int 0, .ref h2, .int 0, .ref h3, .int 250, .ref h4, .int 0, .ref h5, .ref h6, .ref h7, .int 0, .ref h8, .ref h9, .ref h10, .int 0, .null, .int 0, .null, .int 0, .int 0, .int 0, .ref h11, .int 0, .ref h12, .ref h13, .ref h14, .int 0, .ref h15, .ref h16, .int 0])), (h5, .inr (2, [.int 0, .ref (g.2.2 0), .int 0]))]) [1, 0] (by decide) rfl
  subst hAe
  exact W.iret (v := 0) hx hb hr (fun t ht hW => ⟨⟨0, (), rfl, rfl, by rw [ht]; exact hP9, hD9⟩, hS.F ht⟩) hS.2.2 dX21_found_30
def w9_X11_group_10 : List Cond := [.code yX11_group cX11_group 3 (some .int), .initialized "java/lang/Throwable", .superclass "java/lang/Throwable" "java/lang/Object", .instanceMethod Bundle.tFill, .codeSync Bundle.tFill LibCode.Throwable.Fill.code 1 (some (.object "java/lang/Throwable")), .instanceMethod Bundle.tFill0, .native Bundle.tFill0, .instanceMethod Bundle.tInit0, .code Bundle.tInit0 LibCode.Throwable.Init0.code 1 none, .instanceMethod Bundle.oInit, .code Bundle.oInit ⟨#[0xb1]⟩ 1 none, .methodLink "java/lang/Throwable" 1 Bundle.oInit, .methodLink "java/lang/Throwable" 27 Bundle.tFill, .methodLink "java/lang/Throwable" 202 Bundle.tFill0, .fieldLink "java/lang/Throwable" 7 "java/lang/Throwable" "cause" "Ljava/lang/Throwable;", .lays "java/lang/Throwable" "java/lang/Throwable" "cause" "Ljava/lang/Throwable;", .fieldLink "java/lang/Throwable" 17 "java/lang/Throwable" "stackTrace" "[Ljava/lang/StackTraceElement;", .lays "java/lang/Throwable" "java/lang/Throwable" "stackTrace" "[Ljava/lang/StackTraceElement;", .fieldLink "java/lang/Throwable" 24 "java/lang/Throwable" "suppressedExceptions" "Ljava/util/List;", .lays "java/lang/Throwable" "java/lang/Throwable" "suppressedExceptions" "Ljava/util/List;", .fieldLink "java/lang/Throwable" 13 "java/lang/Throwable" "UNASSIGNED_STACK" "[Ljava/lang/StackTraceElement;", .fieldLink "java/lang/Throwable" 20 "java/lang/Throwable" "SUPPRESSED_SENTINEL" "Ljava/util/List;", .lays "java/lang/Throwable" "java/lang/Throwable" "detailMessage" "Ljava/lang/String;", .instanceMethod (Bundle.initS "java/lang/Throwable"), .code (Bundle.initS "java/lang/Throwable") LibCode.Throwable.InitS.code 2 none, .fieldLink "java/lang/Throwable" 31 "java/lang/Throwable" "detailMessage" "Ljava/lang/String;", .instanceMethod (Bundle.initS "java/lang/IndexOutOfBoundsException"), .code (Bundle.initS "java/lang/IndexOutOfBoundsException") Bundle.six 2 none, .methodLink "java/lang/IndexOutOfBoundsException" 7 (Bundle.initS "java/lang/RuntimeException"), .instanceMethod (Bundle.initS "java/lang/RuntimeException"), .code (Bundle.initS "java/lang/RuntimeException") Bundle.six 2 none, .methodLink "java/lang/RuntimeException" 7 (Bundle.initS "java/lang/Exception"), .instanceMethod (Bundle.initS "java/lang/Exception"), .code (Bundle.initS "java/lang/Exception") Bundle.six 2 none, .methodLink "java/lang/Exception" 7 (Bundle.initS "java/lang/Throwable"), .methodLink RX11 224 (Bundle.initS "java/lang/IndexOutOfBoundsException"), .instantiable "java/lang/IndexOutOfBoundsException" 6, .selects "java/lang/IndexOutOfBoundsException" Bundle.tFill0 Bundle.tFill0, .selects "java/lang/IndexOutOfBoundsException" Bundle.tFill Bundle.tFill, .lays "java/lang/IndexOutOfBoundsException" "java/lang/Throwable" "cause" "Ljava/lang/Throwable;", .lays "java/lang/IndexOutOfBoundsException" "java/lang/Throwable" "stackTrace" "[Ljava/lang/StackTraceElement;", .lays "java/lang/IndexOutOfBoundsException" "java/lang/Throwable" "suppressedExceptions" "Ljava/util/List;", .lays "java/lang/IndexOutOfBoundsException" "java/lang/Throwable" "detailMessage" "Ljava/lang/String;", .fieldLink "java/lang/Throwable" 198 "java/lang/Throwable" "backtrace" "Ljava/lang/Object;", .lays "java/lang/Throwable" "java/lang/Throwable" "backtrace" "Ljava/lang/Object;", .lays "java/lang/IndexOutOfBoundsException" "java/lang/Throwable" "backtrace" "Ljava/lang/Object;", .classLink RX11 220 "java/lang/IndexOutOfBoundsException", .initialized "java/lang/IndexOutOfBoundsException"]
set_option maxHeartbeats 4000000 in
set_option maxRecDepth 100000 in
theorem c9_X11_group_10 (l : Launch) (hlt : l.stackTraces = false) (g : G9) (h0 h1 h2 h3 h4 h5 h6 h7 h8 h9 h10 h11 h12 h13 sz : Nat) (v0 : Int32) (k_v0 : (-2147483648) ≤ v0.toInt ∧ v0.toInt ≤ (-1)) : vx_Met l yX11_group w9_X11_group_10 ({ frames := 6, cells := 1, slots := 6, locals := 82 }) (mP g [(h0, .inr (12, [.ref h1, .int 0, .ref h2, .ref h3, .ref h4, .ref h5, .ref h6, .ref h7, .int (-1), .ref h8, .ref h9, .int 250, .ref h10, .int 0, .ref h11, .ref h12, .ref h13]))] sz [.ref h0, .int v0, .int 0]) (va_Qv (fun _ : Unit => False) (fun _ _ => True) (va_A [(h0, .inr (12, [.ref h1, .int 0, .ref h2, .ref h3, .ref h4, .ref h5, .ref h6, .ref h7, .int (-1), .ref h8, .ref h9, .int 250, .ref h10, .int 0, .ref h11, .ref h12, .ref h13]))] sz)) (mT g [(h0, .inr (12, [.ref h1, .int 0, .ref h2, .ref h3, .ref h4, .ref h5, .ref h6, .ref h7, .int (-1), .ref h8, .ref h9, .int 250, .ref h10, .int 0, .ref h11, .ref h12, .ref h13]))] sz "java/lang/IndexOutOfBoundsException") 1 6 (va_A [(h0, .inr (12, [.ref h1, .int 0, .ref h2, .ref h3, .ref h4, .ref h5, .ref h6, .ref h7, .int (-1), .ref h8, .ref h9, .int 250, .ref h10, .int 0, .ref h11, .ref h12, .ref h13]))] sz) := by
  refine vx_ofW (cc := cX11_group) (maxL := 3) (ret := (some .int)) (by decide) rfl ?_
  intro p e s m args below meth c s₁ B hml hno hv
  obtain ⟨rfl, hsz, hP, hD0, hE⟩ := hv
  have hx := B.exec
  have hb := B.bytes
  have hr := B.returns
  have hts := atoms_spec (ws := w9_X11_group_10) B.pre
  have hown : s.vm.findClass RX11 = some m.cls := findClass_of_methodNamed B.named
  have hlocks := B.notSynchronized
  subst hsz
  have hD := hD0.self (sz := s.heap.size)
  generalize hAe : va_A [(h0, .inr (12, [.ref h1, .int 0, .ref h2, .ref h3, .ref h4, .ref h5, .ref h6, .ref h7, .int (-1), .ref h8, .ref h9, .int 250, .ref h10, .int 0, .ref h11, .ref h12, .ref h13]))] s.heap.size = A at hD hE ⊢
  have hA : ∀ q : Nat, s.heap.size ≤ q → A q := fun q h => by rw [← hAe]; exact Or.inr h
  have hK := hE.1
  have hS : va_S A s.heap s.heap [] := va_S.rf
  replace hP : va_P g.1 vwCl [(h0, .inr (12, [.ref h1, .int 0, .ref h2, .ref h3, .ref h4, .ref h5, .ref h6, .ref h7, .int (-1), .ref h8, .ref h9, .int 250, .ref h10, .int 0, .ref h11, .ref h12, .ref h13]))] s.heap := hP
  have hl := lv_entry ([.ref h0, .int v0, .int 0]) (n := 3) (Nat.le_of_ble_eq_true rfl)
  rw [lg_entry_eq]
  generalize (lg_sl ([.ref h0, .int v0, .int 0]) ++ List.replicate (3 - (lg_sl ([.ref h0, .int v0, .int 0])).length) Slot.unset).toArray = ls at hl ⊢
  replace hl : lv_has ls 3 [(0, .ref h0), (1, .int v0), (2, .int 0)] := hl
  have hH0 : s.heap.size ≤ s.heap.size := Nat.le_refl _
  refine lv_iload_n hx hb dX11_group_0 rfl (lv_at hl 1 rfl) ?_
  refine lv_if_lt (tgt := 10) hx hb dX11_group_1 (by decide) (fun _ => ?_) (fun c9 => absurd (by simp only [Int32.lt_iff_toInt_lt, Int32.le_iff_toInt_le, ← Int32.toInt_inj, show (0 : Int32).toInt = 0 from by decide]; omega) c9)
  obtain ⟨sa, hsa⟩ := hE.str (222, "no such group") (by decide)
  exact vx_throwS (names := ["java/lang/RuntimeException", "java/lang/Exception"]) (A := A) hx hb hlt hown (by decide) (by decide) (hts (.classLink RX11 220 "java/lang/IndexOutOfBoundsException") (List.mem_of_getElem? (i := 46) rfl)) (hts (.initialized "java/lang/IndexOutOfBoundsException") (List.mem_of_getElem? (i := 47) rfl)) hsa (vx_hat (B := [.castable "java/lang/IndexOutOfBoundsException" "java/lang/IndexOutOfBoundsException", .declares (Bundle.initS "java/lang/RuntimeException"), .declares (Bundle.initS "java/lang/Exception"), .declares (Bundle.initS "java/lang/Throwable")]) (fun w9 hw9 => hts w9 (by revert w9; decide +kernel)) (by decide +kernel) (vx_c (va_Nw.use rfl (hE.cast ("java/lang/IndexOutOfBoundsException", "java/lang/IndexOutOfBoundsException") (by decide))) (vx_c (va_Nw.use rfl (hE.decl _ (by decide))) (vx_c (va_Nw.use rfl (hE.decl _ (by decide))) (vx_c (va_Nw.use rfl (hE.decl _ (by decide))) vx_n))))) (by decide +kernel) hE.zu hE.zn hS (by rw [hml]; exact hl.1) dX11_group_10 dX11_group_13 dX11_group_14 dX11_group_16 dX11_group_19 (fun z hz => (hno z hz).elim) (Nat.le_of_ble_eq_true rfl) (Nat.le_of_ble_eq_true rfl) (Nat.le_of_ble_eq_true rfl) (Nat.le_of_ble_eq_true rfl) hlocks (fun t hW hz ho => ⟨(), trivial, rfl, by subst hAe; exact ⟨Nat.le_trans hS.1 hz, fun q h1 h2 => (ho q (Nat.lt_of_lt_of_le h1 hS.1)).trans (hS.2.1 q h1 h2)⟩⟩) (fun z hz => by subst hAe; exact hS.2.2 z hz) (Nat.le_of_ble_eq_true rfl) (Nat.le_of_ble_eq_true rfl)
def w9_L_group_11 : List Cond := [.codeWith yL_group cL_group 5 (some .int) [(0, 10, 13, 21)], .methodLink RL 47 yX11_group, .instanceMethod yX11_group, .selects RX11 yX11_group yX11_group, .initialized RX11, .code yX11_group cX11_group 3 (some .int), .initialized "java/lang/Throwable", .superclass "java/lang/Throwable" "java/lang/Object", .instanceMethod Bundle.tFill, .codeSync Bundle.tFill LibCode.Throwable.Fill.code 1 (some (.object "java/lang/Throwable")), .instanceMethod Bundle.tFill0, .native Bundle.tFill0, .instanceMethod Bundle.tInit0, .code Bundle.tInit0 LibCode.Throwable.Init0.code 1 none, .instanceMethod Bundle.oInit, .code Bundle.oInit ⟨#[0xb1]⟩ 1 none, .methodLink "java/lang/Throwable" 1 Bundle.oInit, .methodLink "java/lang/Throwable" 27 Bundle.tFill, .methodLink "java/lang/Throwable" 202 Bundle.tFill0, .fieldLink "java/lang/Throwable" 7 "java/lang/Throwable" "cause" "Ljava/lang/Throwable;", .lays "java/lang/Throwable" "java/lang/Throwable" "cause" "Ljava/lang/Throwable;", .fieldLink "java/lang/Throwable" 17 "java/lang/Throwable" "stackTrace" "[Ljava/lang/StackTraceElement;", .lays "java/lang/Throwable" "java/lang/Throwable" "stackTrace" "[Ljava/lang/StackTraceElement;", .fieldLink "java/lang/Throwable" 24 "java/lang/Throwable" "suppressedExceptions" "Ljava/util/List;", .lays "java/lang/Throwable" "java/lang/Throwable" "suppressedExceptions" "Ljava/util/List;", .fieldLink "java/lang/Throwable" 13 "java/lang/Throwable" "UNASSIGNED_STACK" "[Ljava/lang/StackTraceElement;", .fieldLink "java/lang/Throwable" 20 "java/lang/Throwable" "SUPPRESSED_SENTINEL" "Ljava/util/List;", .lays "java/lang/Throwable" "java/lang/Throwable" "detailMessage" "Ljava/lang/String;", .instanceMethod (Bundle.initS "java/lang/Throwable"), .code (Bundle.initS "java/lang/Throwable") LibCode.Throwable.InitS.code 2 none, .fieldLink "java/lang/Throwable" 31 "java/lang/Throwable" "detailMessage" "Ljava/lang/String;", .instanceMethod (Bundle.initS "java/lang/IndexOutOfBoundsException"), .code (Bundle.initS "java/lang/IndexOutOfBoundsException") Bundle.six 2 none, .methodLink "java/lang/IndexOutOfBoundsException" 7 (Bundle.initS "java/lang/RuntimeException"), .instanceMethod (Bundle.initS "java/lang/RuntimeException"), .code (Bundle.initS "java/lang/RuntimeException") Bundle.six 2 none, .methodLink "java/lang/RuntimeException" 7 (Bundle.initS "java/lang/Exception"), .instanceMethod (Bundle.initS "java/lang/Exception"), .code (Bundle.initS "java/lang/Exception") Bundle.six 2 none, .methodLink "java/lang/Exception" 7 (Bundle.initS "java/lang/Throwable"), .methodLink RX11 224 (Bundle.initS "java/lang/IndexOutOfBoundsException"), .instantiable "java/lang/IndexOutOfBoundsException" 6, .selects "java/lang/IndexOutOfBoundsException" Bundle.tFill0 Bundle.tFill0, .selects "java/lang/IndexOutOfBoundsException" Bundle.tFill Bundle.tFill, .lays "java/lang/IndexOutOfBoundsException" "java/lang/Throwable" "cause" "Ljava/lang/Throwable;", .lays "java/lang/IndexOutOfBoundsException" "java/lang/Throwable" "stackTrace" "[Ljava/lang/StackTraceElement;", .lays "java/lang/IndexOutOfBoundsException" "java/lang/Throwable" "suppressedExceptions" "Ljava/util/List;", .lays "java/lang/IndexOutOfBoundsException" "java/lang/Throwable" "detailMessage" "Ljava/lang/String;", .fieldLink "java/lang/Throwable" 198 "java/lang/Throwable" "backtrace" "Ljava/lang/Object;", .lays "java/lang/Throwable" "java/lang/Throwable" "backtrace" "Ljava/lang/Object;", .lays "java/lang/IndexOutOfBoundsException" "java/lang/Throwable" "backtrace" "Ljava/lang/Object;", .classLink RX11 220 "java/lang/IndexOutOfBoundsException", .initialized "java/lang/IndexOutOfBoundsException", .classLink RL 21 "java/lang/IndexOutOfBoundsException"]
set_option maxRecDepth 20000 in
theorem g9_L_group_11_0 : GoodIn w9_L_group_11 (wsV RL 47 RX11 yX11_group w9_X11_group_10) := goodIn_r _ [1, 2, 3, 4, 5, 6, 7, 8, 9, 10, 11, 12, 13, 14, 15, 16, 17, 18, 19, 20, 21, 22, 23, 24, 25, 26, 27, 28, 29, 30, 31, 32, 33, 34, 35, 36, 37, 38, 39, 40, 41, 42, 43, 44, 45, 46, 47, 48, 49, 50, 51, 52] (by decide +kernel) (by decide +kernel)
set_option maxHeartbeats 4000000 in
set_option maxRecDepth 100000 in
theorem c9_L_group_11 (l : Launch) (hlt : l.stackTraces = false) (g : G9) (h0 h1 h2 h3 h4 h5 h6 h7 h8 h9 h10 h11 h12 h13 h14 sz : Nat) (v0 : Int32) (k_v0 : (-2147483648) ≤ v0.toInt ∧ v0.toInt ≤ (-1)) : Met l yL_group w9_L_group_11 ({ frames := 7, cells := 1, slots := 6, locals := 104 }) (mP g [(h0, .inr (12, [.ref h2, .int 0, .ref h3, .ref h4, .ref h5, .ref h6, .ref h7, .ref h8, .int (-1), .ref h9, .ref h10, .int 250, .ref h11, .int 0, .ref h12, .ref h13, .ref h14]))] sz [.ref h0, .int v0, .int 0, .ref h1]) (va_Qi (fun (r : Int32) (_ : Unit) => r = 1) (fun (_ : Unit) (t : State) => mB g [(h0, .inr (12, [.ref h2, .int 0, .ref h3, .ref h4, .ref h5, .ref h6, .ref h7, .ref h8, .int (-1), .ref h9, .ref h10, .int 250, .ref h11, .int 0, .ref h12, .ref h13, .ref h14]))] sz [] t) (va_A [(h0, .inr (12, [.ref h2, .int 0, .ref h3, .ref h4, .ref h5, .ref h6, .ref h7, .ref h8, .int (-1), .ref h9, .ref h10, .int 250, .ref h11, .int 0, .ref h12, .ref h13, .ref h14]))] sz)) 1 6 (va_A [(h0, .inr (12, [.ref h2, .int 0, .ref h3, .ref h4, .ref h5, .ref h6, .ref h7, .ref h8, .int (-1), .ref h9, .ref h10, .int 250, .ref h11, .int 0, .ref h12, .ref h13, .ref h14]))] sz) := by
  refine va_MetW (cc := cL_group) (maxL := 5) (ret := (some .int)) (by decide) rfl ?_
  intro p e s m args below meth c s₁ B hml hv
  obtain ⟨rfl, hsz, hP, hD0, hE⟩ := hv
  have hx := B.exec
  have hb := B.bytes
  have hr := B.returns
  have hts := atoms_spec (ws := w9_L_group_11) B.pre
  have hown : s.vm.findClass RL = some m.cls := findClass_of_methodNamed B.named
  have hlocks := B.notSynchronized
  have htab := vx_table (x := yL_group) B (hts (.codeWith yL_group cL_group 5 (some .int) [(0, 10, 13, 21)]) (List.mem_of_getElem? (i := 0) rfl))
  subst hsz
  have hD := hD0.self (sz := s.heap.size)
  generalize hAe : va_A [(h0, .inr (12, [.ref h2, .int 0, .ref h3, .ref h4, .ref h5, .ref h6, .ref h7, .ref h8, .int (-1), .ref h9, .ref h10, .int 250, .ref h11, .int 0, .ref h12, .ref h13, .ref h14]))] s.heap.size = A at hD hE ⊢
  have hA : ∀ q : Nat, s.heap.size ≤ q → A q := fun q h => by rw [← hAe]; exact Or.inr h
  have hK := hE.1
  have hS : va_S A s.heap s.heap [] := va_S.rf
  replace hP : va_P g.1 vwCl [(h0, .inr (12, [.ref h2, .int 0, .ref h3, .ref h4, .ref h5, .ref h6, .ref h7, .ref h8, .int (-1), .ref h9, .ref h10, .int 250, .ref h11, .int 0, .ref h12, .ref h13, .ref h14]))] s.heap := hP
  have hl := lv_entry ([.ref h0, .int v0, .int 0, .ref h1]) (n := 5) (Nat.le_of_ble_eq_true rfl)
  rw [lg_entry_eq]
  generalize (lg_sl ([.ref h0, .int v0, .int 0, .ref h1]) ++ List.replicate (5 - (lg_sl ([.ref h0, .int v0, .int 0, .ref h1])).length) Slot.unset).toArray = ls at hl ⊢
  replace hl : lv_has ls 5 [(0, .ref h0), (1, .int v0), (2, .int 0), (3, .ref h1)] := hl
  have hH0 : s.heap.size ≤ s.heap.size := Nat.le_refl _
  refine lv_aload_n hx hb dL_group_0 rfl (lv_at hl 3 rfl) ?_
  refine lv_iconst (v := 0) hx hb dL_group_1 (by decide) ?_
  refine lv_aload_n hx hb dL_group_2 rfl (lv_at hl 0 rfl) ?_
  refine lv_iload_n hx hb dL_group_3 rfl (lv_at hl 1 rfl) ?_
  refine lv_iload_n hx hb dL_group_4 rfl (lv_at hl 2 rfl) ?_
  have hPc := hP.sub (ws' := [(h0, .inr (12, [.ref h2, .int 0, .ref h3, .ref h4, .ref h5, .ref h6, .ref h7, .ref h8, .int (-1), .ref h9, .ref h10, .int 250, .ref h11, .int 0, .ref h12, .ref h13, .ref h14]))]) [0] rfl
  have hDc := hD.sub (ws' := [(h0, .inr (12, [.ref h2, .int 0, .ref h3, .ref h4, .ref h5, .ref h6, .ref h7, .ref h8, .int (-1), .ref h9, .ref h10, .int 250, .ref h11, .int 0, .ref h12, .ref h13, .ref h14]))]) [0] (by decide) rfl
  have hFc := va_free (wc := [(h0, .inr (12, [.ref h2, .int 0, .ref h3, .ref h4, .ref h5, .ref h6, .ref h7, .ref h8, .int (-1), .ref h9, .ref h10, .int 250, .ref h11, .int 0, .ref h12, .ref h13, .ref h14]))]) hD hS hA [0] rfl
  refine vx_callv (vx_runV (As := [.int v0, .int 0]) (rest := [.int 0, .ref h1]) ⟨hx, hb, hml, hown, hts⟩ (c9_X11_group_10 l hlt g h0 h2 h3 h4 h5 h6 h7 h8 h9 h10 h11 h12 h13 h14 _ v0 (by omega)) (cwV 2 hts g9_L_group_11_0 rfl rfl rfl (by decide +kernel) ⟨Nat.le_of_ble_eq_true rfl, Nat.le_of_ble_eq_true rfl⟩) (mPreV (g := g) (wc := [(h0, .inr (12, [.ref h2, .int 0, .ref h3, .ref h4, .ref h5, .ref h6, .ref h7, .ref h8, .int (-1), .ref h9, .ref h10, .int 250, .ref h11, .int 0, .ref h12, .ref h13, .ref h14]))]) (C := RX11) (ci := 12) (q0 := 0) hE hS hPc hDc hFc rfl rfl) rfl rfl hl.1 rfl (lv_room (Nat.le_of_ble_eq_true rfl)) dL_group_5 ⟨Nat.le_of_ble_eq_true rfl, Nat.le_of_ble_eq_true rfl⟩) hS (fun q _ h => hFc q h) hFc (fun q _ h => hFc q h) (fun E9 ce q9 u t H locs ht hvm hw hB hz1 hk1 hS hc1 hc2 hc3 => ?_) (fun u t H1 locs ht hvm hw hB hz1 hk1 hS => hw.elim)
  replace hB : E9 = "java/lang/IndexOutOfBoundsException" := hB
  subst hB
  obtain ⟨hP, hD⟩ := va_join (wr := []) (w1 := []) hP hD [0] [] rfl rfl (by decide) (by decide) hk1 hFc (fun k q h => by simp at h) ⟨fun i j p q h => by simp at h, fun k q h => by simp at h⟩
  have hP : va_P g.1 vwCl [] H := hP
  have hD : va_D A [] := hD
  refine vx_catch (own := RL) (name := "java/lang/IndexOutOfBoundsException") hown [] ⟨0, 10, 13, 21⟩ [] (by rw [htab]; rfl) (fun z hz => absurd hz List.not_mem_nil) (by decide) (by decide) (hts (.classLink RL 21 "java/lang/IndexOutOfBoundsException") (List.mem_of_getElem? (i := 53) rfl)) (va_Nw.use rfl (hE.cast ("java/lang/IndexOutOfBoundsException", "java/lang/IndexOutOfBoundsException") (by decide))) hc1 hc2 hc3 ?_
  refine lv_astore (lv' := [(4, .ref q9), (0, .ref h0), (1, .int v0), (2, .int 0), (3, .ref h1)]) hx hb dL_group_13 hl (by decide) rfl (fun ls hl => ?_)
  refine lv_iconst (v := 1) hx hb dL_group_15 (by decide) ?_
  have hP9 := hP.sub (ws' := []) [] rfl
  have hD9 := hD.sub (ws' := []) [] (by decide) rfl
  subst hAe
  exact W.iret (v := 1) hx hb hr (fun t ht hW => ⟨⟨1, (), rfl, rfl, by rw [ht]; exact hP9, hD9⟩, hS.F ht⟩) hS.2.2 dL_group_16
def w9_X21_group_10 : List Cond := [.code yX21_group cX21_group 3 (some .int), .methodLink RX21 160 yX21_in, .static yX21_in, .initialized RX21, .code yX21_in cX21_in 3 (some .boolean), .methodLink RX21 154 yX21_refused, .instanceMethod yX21_refused, .selects RX21 yX21_refused yX21_refused, .code yX21_refused cX21_refused 2 (some .boolean), .fieldLink RX21 144 "RegexloomModel" "refusal" "I"] ++ (u_ws RX21 TX21 32)
set_option maxRecDepth 20000 in
theorem in9_X21_group_10_RX21 : ∀ w ∈ u_ws RX21 TX21 32, w ∈ w9_X21_group_10 := by decide +kernel
set_option maxRecDepth 20000 in
theorem g9_X21_group_10_0 : GoodIn w9_X21_group_10 (va_wsS RX21 160 yX21_in w9_X21_in_14) := goodIn_r _ [1, 2, 3, 4] (by decide +kernel) (by decide +kernel)
set_option maxRecDepth 20000 in
theorem g9_X21_group_10_1 : GoodIn w9_X21_group_10 (wsV RX21 154 RX21 yX21_refused w9_X21_refused_2) := goodIn_r _ [5, 6, 7, 3, 8, 9, 10, 11, 12, 13, 14, 15, 16, 17, 18, 19, 20, 21, 22, 23, 24, 25, 26, 27, 28, 29, 30, 31, 32, 33, 34, 35, 36, 37, 38, 39, 40, 41] (by decide +kernel) (by decide +kernel)
set_option maxHeartbeats 4000000 in
set_option maxRecDepth 100000 in
theorem c9_X21_group_10 (l : Launch) (g : G9) (h0 h1 h2 h3 h4 h5 h6 h7 h8 h9 h10 h11 h12 h13 h14 h15 h16 sz : Nat) (v0 : Int32) (k_v0 : (-2147483648) ≤ v0.toInt ∧ v0.toInt ≤ (-1)) : Met l yX21_group w9_X21_group_10 ({ frames := 1, cells := 0, slots := 0, locals := 22 }) (mP g [(h0, .inr (22, [.int 0, .ref h1, .int 0, .ref h2, .int 0, .ref h3, .int 250, .ref h4, .int 0, .ref h5, .ref h6, .ref h7, .int 0, .ref h8, .ref h9, .ref h10, .int 0, .null, .int 0, .null, .int 0, .int 0, .int 0, .ref h11, .int 0, .ref h12, .ref h13, .ref h14, .int 0, .ref h15, .ref h16, .int 0]))] sz [.ref h0, .int v0, .int 0]) (va_Qi (fun (r : Int32) (_ : Unit) => r = 0) (fun (_ : Unit) (t : State) => mB g [(h0, .inr (22, [.int 0, .ref h1, .int 0, .ref h2, .int 0, .ref h3, .int 250, .ref h4, .int 0, .ref h5, .ref h6, .ref h7, .int 0, .ref h8, .ref h9, .ref h10, .int 0, .null, .int 0, .null, .int 0, .int 0, .int 0, .ref h11, .int 0, .ref h12, .ref h13, .ref h14, .int 0, .ref h15, .ref h16, .int 0]))] sz [(h0, .inr (22, [.int 1, .ref h1, .int 0, .ref h2, .int 0, .ref h3, .int 250, .ref h4, .int 0, .ref h5, .ref h6, .ref h7, .int 0, .ref h8, .ref h9, .ref h10, .int 0, .null, .int 0, .null, .int 0, .int 0, .int 0, .ref h11, .int 0, .ref h12, .ref h13, .ref h14, .int 0, .ref h15, .ref h16, .int 0]))] t) (va_A [(h0, .inr (22, [.int 0, .ref h1, .int 0, .ref h2, .int 0, .ref h3, .int 250, .ref h4, .int 0, .ref h5, .ref h6, .ref h7, .int 0, .ref h8, .ref h9, .ref h10, .int 0, .null, .int 0, .null, .int 0, .int 0, .int 0, .ref h11, .int 0, .ref h12, .ref h13, .ref h14, .int 0, .ref h15, .ref h16, .int 0]))] sz)) 0 0 (va_A [(h0, .inr (22, [.int 0, .ref h1, .int 0, .ref h2, .int 0, .ref h3, .int 250, .ref h4, .int 0, .ref h5, .ref h6, .ref h7, .int 0, .ref h8, .ref h9, .ref h10, .int 0, .null, .int 0, .null, .int 0, .int 0, .int 0, .ref h11, .int 0, .ref h12, .ref h13, .ref h14, .int 0, .ref h15, .ref h16, .int 0]))] sz) := by
  refine Met.ofW (cc := cX21_group) (maxL := 3) (ret := (some .int)) (by decide) rfl ?_
  intro p e s m args below meth c s₁ B hml hv
  obtain ⟨rfl, hsz, hP, hD0, hE⟩ := hv
  have hx := B.exec
  have hb := B.bytes
  have hr := B.returns
  have hts := atoms_spec (ws := w9_X21_group_10) B.pre
  have hown : s.vm.findClass RX21 = some m.cls := findClass_of_methodNamed B.named
  have hlocks := B.notSynchronized
  subst hsz
  have hD := hD0.self (sz := s.heap.size)
  generalize hAe : va_A [(h0, .inr (22, [.int 0, .ref h1, .int 0, .ref h2, .int 0, .ref h3, .int 250, .ref h4, .int 0, .ref h5, .ref h6, .ref h7, .int 0, .ref h8, .ref h9, .ref h10, .int 0, .null, .int 0, .null, .int 0, .int 0, .int 0, .ref h11, .int 0, .ref h12, .ref h13, .ref h14, .int 0, .ref h15, .ref h16, .int 0]))] s.heap.size = A at hD hE ⊢
  have hA : ∀ q : Nat, s.heap.size ≤ q → A q := fun q h => by rw [← hAe]; exact Or.inr h
  have hK := hE.1
  have hS : va_S A s.heap s.heap [] := va_S.rf
  replace hP : va_P g.1 vwCl [(h0, .inr (22, [.int 0, .ref h1, .int 0, .ref h2, .int 0, .ref h3, .int 250, .ref h4, .int 0, .ref h5, .ref h6, .ref h7, .int 0, .ref h8, .ref h9, .ref h10, .int 0, .null, .int 0, .null, .int 0, .int 0, .int 0, .ref h11, .int 0, .ref h12, .ref h13, .ref h14, .int 0, .ref h15, .ref h16, .int 0]))] s.heap := hP
  have hl := lv_entry ([.ref h0, .int v0, .int 0]) (n := 3) (Nat.le_of_ble_eq_true rfl)
  rw [lg_entry_eq]
  generalize (lg_sl ([.ref h0, .int v0, .int 0]) ++ List.replicate (3 - (lg_sl ([.ref h0, .int v0, .int 0])).length) Slot.unset).toArray = ls at hl ⊢
  replace hl : lv_has ls 3 [(0, .ref h0), (1, .int v0), (2, .int 0)] := hl
  have hH0 : s.heap.size ≤ s.heap.size := Nat.le_refl _
  refine lv_aload_n hx hb dX21_group_0 rfl (lv_at hl 0 rfl) ?_
  refine lv_iload_n hx hb dX21_group_1 rfl (lv_at hl 1 rfl) ?_
  refine lv_iconst (v := 0) hx hb dX21_group_2 (by decide) ?_
  refine lv_bipush (v := 6) hx hb dX21_group_3 (by decide) ?_
  have hPc := hP.sub (ws' := []) [] rfl
  have hDc := hD.sub (ws' := []) [] (by decide) rfl
  have hFc := va_free (wc := []) hD hS hA [] rfl
  refine va_calli (va_runS (As := [.int v0, .int 0, .int 6]) (rest := [.ref h0]) ⟨hx, hb, hml, hown, hts⟩ (c9_X21_in_14 l g _ v0 (by omega)) (va_cwS 3 hts g9_X21_group_10_0 rfl rfl rfl (by decide +kernel) ⟨Nat.le_of_ble_eq_true rfl, Nat.le_of_ble_eq_true rfl⟩) (mPreS (g := g) (wc := []) hE hS hPc hDc hFc) rfl rfl hl.1 rfl (lv_room (Nat.le_of_ble_eq_true rfl)) dX21_group_5 ⟨Nat.le_of_ble_eq_true rfl, Nat.le_of_ble_eq_true rfl⟩) hS (fun q _ h => hFc q h) hFc (fun r_1 u t H1 locs ht hvm hw hB hz1 hk1 hS => ?_)
  replace hw : 0 = r_1 := Eq.symm hw
  subst hw
  obtain ⟨hP1, hD1⟩ := hB
  rw [ht] at hP1
  obtain ⟨hP, hD⟩ := va_join (wr := [(h0, .inr (22, [.int 0, .ref h1, .int 0, .ref h2, .int 0, .ref h3, .int 250, .ref h4, .int 0, .ref h5, .ref h6, .ref h7, .int 0, .ref h8, .ref h9, .ref h10, .int 0, .null, .int 0, .null, .int 0, .int 0, .int 0, .ref h11, .int 0, .ref h12, .ref h13, .ref h14, .int 0, .ref h15, .ref h16, .int 0]))]) (w1 := []) hP hD [] [0] rfl rfl (by decide) (by decide) hk1 hFc hP1 hD1
  clear hP1 hD1 hPc hDc hFc hk1 hz1 hvm ht
  generalize H1 = H at hP hS ⊢
  have hP : va_P g.1 vwCl [(h0, .inr (22, [.int 0, .ref h1, .int 0, .ref h2, .int 0, .ref h3, .int 250, .ref h4, .int 0, .ref h5, .ref h6, .ref h7, .int 0, .ref h8, .ref h9, .ref h10, .int 0, .null, .int 0, .null, .int 0, .int 0, .int 0, .ref h11, .int 0, .ref h12, .ref h13, .ref h14, .int 0, .ref h15, .ref h16, .int 0]))] H := hP
  have hD : va_D A [(h0, .inr (22, [.int 0, .ref h1, .int 0, .ref h2, .int 0, .ref h3, .int 250, .ref h4, .int 0, .ref h5, .ref h6, .ref h7, .int 0, .ref h8, .ref h9, .ref h10, .int 0, .null, .int 0, .null, .int 0, .int 0, .int 0, .ref h11, .int 0, .ref h12, .ref h13, .ref h14, .int 0, .ref h15, .ref h16, .int 0]))] := hD
  refine lv_if_eq (tgt := 15) hx hb dX21_group_8 (by decide) (fun _ => ?_) (fun c9 => absurd (by decide) c9)
  refine lv_iconst (v := 1) hx hb dX21_group_15 (by decide) ?_
  have hPc := hP.sub (ws' := [(h0, .inr (22, [.int 0, .ref h1, .int 0, .ref h2, .int 0, .ref h3, .int 250, .ref h4, .int 0, .ref h5, .ref h6, .ref h7, .int 0, .ref h8, .ref h9, .ref h10, .int 0, .null, .int 0, .null, .int 0, .int 0, .int 0, .ref h11, .int 0, .ref h12, .ref h13, .ref h14, .int 0, .ref h15, .ref h16, .int 0]))]) [0] rfl
  have hDc := hD.sub (ws' := [(h0, .inr (22, [.int 0, .ref h1, .int 0, .ref h2, .int 0, .ref h3, .int 250, .ref h4, .int 0, .ref h5, .ref h6, .ref h7, .int 0, .ref h8, .ref h9, .ref h10, .int 0, .null, .int 0, .null, .int 0, .int 0, .int 0, .ref h11, .int 0, .ref h12, .ref h13, .ref h14, .int 0, .ref h15, .ref h16, .int 0]))]) [0] (by decide) rfl
  have hFc := va_free (wc := [(h0, .inr (22, [.int 0, .ref h1, .int 0, .ref h2, .int 0, .ref h3, .int 250, .ref h4, .int 0, .ref h5, .ref h6, .ref h7, .int 0, .ref h8, .ref h9, .ref h10, .int 0, .null, .int 0, .null, .int 0, .int 0, .int 0, .ref h11, .int 0, .ref h12, .ref h13, .ref h14, .int 0, .ref h15, .ref h16, .int 0]))]) hD hS hA [0] rfl
  refine va_calli (va_runV (As := [.int 1]) (rest := []) ⟨hx, hb, hml, hown, hts⟩ (c9_X21_refused_2 l g h0 h1 h2 h3 h4 h5 h6 h7 h8 h9 h10 h11 h12 h13 h14 h15 h16 _) (cwV 1 hts g9_X21_group_10_1 rfl rfl rfl (by decide +kernel) ⟨Nat.le_of_ble_eq_true rfl, Nat.le_of_ble_eq_true rfl⟩) (mPreV (g := g) (wc := [(h0, .inr (22, [.int 0, .ref h1, .int 0, .ref h2, .int 0, .ref h3, .int 250, .ref h4, .int 0, .ref h5, .ref h6, .ref h7, .int 0, .ref h8, .ref h9, .ref h10, .int 0, .null, .int 0, .null, .int 0, .int 0, .int 0, .ref h11, .int 0, .ref h12, .ref h13, .ref h14, .int 0, .ref h15, .ref h16, .int 0]))]) (C := RX21) (ci := 22) (q0 := 0) hE hS hPc hDc hFc rfl rfl) rfl rfl hl.1 rfl (lv_room (Nat.le_of_ble_eq_true rfl)) dX21_group_16 ⟨Nat.le_of_ble_eq_true rfl, Nat.le_of_ble_eq_true rfl⟩) hS (fun q _ h => hFc q h) hFc (fun r_2 u t H1 locs ht hvm hw hB hz1 hk1 hS => ?_)
  replace hw : 1 = r_2 := Eq.symm hw
  subst hw
  obtain ⟨hP1, hD1⟩ := hB
  rw [ht] at hP1
  obtain ⟨hP, hD⟩ := va_join (wr := []) (w1 := [(h0, .inr (22, [.int 1, .ref h1, .int 0, .ref h2, .int 0, .ref h3, .int 250, .ref h4, .int 0, .ref h5, .ref h6, .ref h7, .int 0, .ref h8, .ref h9, .ref h10, .int 0, .null, .int 0, .null, .int 0, .int 0, .int 0, .ref h11, .int 0, .ref h12, .ref h13, .ref h14, .int 0, .ref h15, .ref h16, .int 0]))]) hP hD [0] [] rfl rfl (by decide) (by decide) hk1 hFc hP1 hD1
  clear hP1 hD1 hPc hDc hFc hk1 hz1 hvm ht
  generalize H1 = H at hP hS ⊢
  have hP : va_P g.1 vwCl [(h0, .inr (22, [.int 1, .ref h1, .int 0, .ref h2, .int 0, .ref h3, .int 250, .ref h4, .int 0, .ref h5, .ref h6, .ref h7, .int 0, .ref h8, .ref h9, .ref h10, .int 0, .null, .int 0, .null, .int 0, .int 0, .int 0, .ref h11, .int 0, .ref h12, .ref h13, .ref h14, .int 0, .ref h15, .ref h16, .int 0]))] H := hP
  have hD : va_D A [(h0, .inr (22, [.int 1, .ref h1, .int 0, .ref h2, .int 0, .ref h3, .int 250, .ref h4, .int 0, .ref h5, .ref h6, .ref h7, .int 0, .ref h8, .ref h9, .ref h10, .int 0, .null, .int 0, .null, .int 0, .int 0, .int 0, .ref h11, .int 0, .ref h12, .ref h13, .ref h14, .int 0, .ref h15, .ref h16, .int 0]))] := hD
  refine lv_if_eq (tgt := 26) hx hb dX21_group_19 (by decide) (fun c9 => absurd c9 (by decide)) (fun _ => ?_)
  refine lv_iconst (v := 0) hx hb dX21_group_22 (by decide) ?_
  refine lv_goto (tgt := 44) hx hb dX21_group_23 (by decide) ?_
  have hP9 := hP.sub (ws' := [(h0, .inr (22, [.int 1, .ref h1, .int 0, .ref h2, .int 0, .ref h3, .int 250, .ref h4, .int 0, .ref h5, .ref h6, .ref h7, .int 0, .ref h8, .ref h9, .ref h10, .int 0, .null, .int 0, .null, .int 0, .int 0, .int 0, .ref h11, .int 0, .ref h12, .ref h13, .ref h14, .int 0, .ref h15, .ref h16, .int 0]))]) [0] rfl
  have hD9 := hD.sub (ws' := [(h0, .inr (22, [.int 1, .ref h1, .int 0, .ref h2, .int 0, .ref h3, .int 250, .ref h4, .int 0, .ref h5, .ref h6, .ref h7, .int 0, .ref h8, .ref h9, .ref h10, .int 0, .null, .int 0, .null, .int 0, .int 0, .int 0, .ref h11, .int 0, .ref h12, .ref h13, .ref h14, .int 0, .ref h15, .ref h16, .int 0]))]) [0] (by decide) rfl
  subst hAe
  exact W.iret (v := 0) hx hb hr (fun t ht hW => ⟨⟨0, (), rfl, rfl, by rw [ht]; exact hP9, hD9⟩, hS.F ht⟩) hS.2.2 dX21_group_44
def w9_X11_group_11 : List Cond := [.code yX11_group cX11_group 3 (some .int), .initialized "java/lang/Throwable", .superclass "java/lang/Throwable" "java/lang/Object", .instanceMethod Bundle.tFill, .codeSync Bundle.tFill LibCode.Throwable.Fill.code 1 (some (.object "java/lang/Throwable")), .instanceMethod Bundle.tFill0, .native Bundle.tFill0, .instanceMethod Bundle.tInit0, .code Bundle.tInit0 LibCode.Throwable.Init0.code 1 none, .instanceMethod Bundle.oInit, .code Bundle.oInit ⟨#[0xb1]⟩ 1 none, .methodLink "java/lang/Throwable" 1 Bundle.oInit, .methodLink "java/lang/Throwable" 27 Bundle.tFill, .methodLink "java/lang/Throwable" 202 Bundle.tFill0, .fieldLink "java/lang/Throwable" 7 "java/lang/Throwable" "cause" "Ljava/lang/Throwable;", .lays "java/lang/Throwable" "java/lang/Throwable" "cause" "Ljava/lang/Throwable;", .fieldLink "java/lang/Throwable" 17 "java/lang/Throwable" "stackTrace" "[Ljava/lang/StackTraceElement;", .lays "java/lang/Throwable" "java/lang/Throwable" "stackTrace" "[Ljava/lang/StackTraceElement;", .fieldLink "java/lang/Throwable" 24 "java/lang/Throwable" "suppressedExceptions" "Ljava/util/List;", .lays "java/lang/Throwable" "java/lang/Throwable" "suppressedExceptions" "Ljava/util/List;", .fieldLink "java/lang/Throwable" 13 "java/lang/Throwable" "UNASSIGNED_STACK" "[Ljava/lang/StackTraceElement;", .fieldLink "java/lang/Throwable" 20 "java/lang/Throwable" "SUPPRESSED_SENTINEL" "Ljava/util/List;", .lays "java/lang/Throwable" "java/lang/Throwable" "detailMessage" "Ljava/lang/String;", .instanceMethod (Bundle.initS "java/lang/Throwable"), .code (Bundle.initS "java/lang/Throwable") LibCode.Throwable.InitS.code 2 none, .fieldLink "java/lang/Throwable" 31 "java/lang/Throwable" "detailMessage" "Ljava/lang/String;", .instanceMethod (Bundle.initS "java/lang/IndexOutOfBoundsException"), .code (Bundle.initS "java/lang/IndexOutOfBoundsException") Bundle.six 2 none, .methodLink "java/lang/IndexOutOfBoundsException" 7 (Bundle.initS "java/lang/RuntimeException"), .instanceMethod (Bundle.initS "java/lang/RuntimeException"), .code (Bundle.initS "java/lang/RuntimeException") Bundle.six 2 none, .methodLink "java/lang/RuntimeException" 7 (Bundle.initS "java/lang/Exception"), .instanceMethod (Bundle.initS "java/lang/Exception"), .code (Bundle.initS "java/lang/Exception") Bundle.six 2 none, .methodLink "java/lang/Exception" 7 (Bundle.initS "java/lang/Throwable"), .methodLink RX11 224 (Bundle.initS "java/lang/IndexOutOfBoundsException"), .instantiable "java/lang/IndexOutOfBoundsException" 6, .selects "java/lang/IndexOutOfBoundsException" Bundle.tFill0 Bundle.tFill0, .selects "java/lang/IndexOutOfBoundsException" Bundle.tFill Bundle.tFill, .lays "java/lang/IndexOutOfBoundsException" "java/lang/Throwable" "cause" "Ljava/lang/Throwable;", .lays "java/lang/IndexOutOfBoundsException" "java/lang/Throwable" "stackTrace" "[Ljava/lang/StackTraceElement;", .lays "java/lang/IndexOutOfBoundsException" "java/lang/Throwable" "suppressedExceptions" "Ljava/util/List;", .lays "java/lang/IndexOutOfBoundsException" "java/lang/Throwable" "detailMessage" "Ljava/lang/String;", .fieldLink "java/lang/Throwable" 198 "java/lang/Throwable" "backtrace" "Ljava/lang/Object;", .lays "java/lang/Throwable" "java/lang/Throwable" "backtrace" "Ljava/lang/Object;", .lays "java/lang/IndexOutOfBoundsException" "java/lang/Throwable" "backtrace" "Ljava/lang/Object;", .classLink RX11 220 "java/lang/IndexOutOfBoundsException", .initialized "java/lang/IndexOutOfBoundsException"]
set_option maxHeartbeats 4000000 in
set_option maxRecDepth 100000 in
theorem c9_X11_group_11 (l : Launch) (hlt : l.stackTraces = false) (g : G9) (h0 h1 h2 h3 h4 h5 h6 h7 h8 h9 h10 h11 h12 h13 sz : Nat) (v0 : Int32) (k_v0 : 7 ≤ v0.toInt ∧ v0.toInt ≤ 2147483647) : vx_Met l yX11_group w9_X11_group_11 ({ frames := 6, cells := 1, slots := 6, locals := 82 }) (mP g [(h0, .inr (12, [.ref h1, .int 0, .ref h2, .ref h3, .ref h4, .ref h5, .ref h6, .ref h7, .int (-1), .ref h8, .ref h9, .int 250, .ref h10, .int 0, .ref h11, .ref h12, .ref h13]))] sz [.ref h0, .int v0, .int 0]) (va_Qv (fun _ : Unit => False) (fun _ _ => True) (va_A [(h0, .inr (12, [.ref h1, .int 0, .ref h2, .ref h3, .ref h4, .ref h5, .ref h6, .ref h7, .int (-1), .ref h8, .ref h9, .int 250, .ref h10, .int 0, .ref h11, .ref h12, .ref h13]))] sz)) (mT g [(h0, .inr (12, [.ref h1, .int 0, .ref h2, .ref h3, .ref h4, .ref h5, .ref h6, .ref h7, .int (-1), .ref h8, .ref h9, .int 250, .ref h10, .int 0, .ref h11, .ref h12, .ref h13]))] sz "java/lang/IndexOutOfBoundsException") 1 6 (va_A [(h0, .inr (12, [.ref h1, .int 0, .ref h2, .ref h3, .ref h4, .ref h5, .ref h6, .ref h7, .int (-1), .ref h8, .ref h9, .int 250, .ref h10, .int 0, .ref h11, .ref h12, .ref h13]))] sz) := by
  refine vx_ofW (cc := cX11_group) (maxL := 3) (ret := (some .int)) (by decide) rfl ?_
  intro p e s m args below meth c s₁ B hml hno hv
  obtain ⟨rfl, hsz, hP, hD0, hE⟩ := hv
  have hx := B.exec
  have hb := B.bytes
  have hr := B.returns
  have hts := atoms_spec (ws := w9_X11_group_11) B.pre
  have hown : s.vm.findClass RX11 = some m.cls := findClass_of_methodNamed B.named
  have hlocks := B.notSynchronized
  subst hsz
  have hD := hD0.self (sz := s.heap.size)
  generalize hAe : va_A [(h0, .inr (12, [.ref h1, .int 0, .ref h2, .ref h3, .ref h4, .ref h5, .ref h6, .ref h7, .int (-1), .ref h8, .ref h9, .int 250, .ref h10, .int 0, .ref h11, .ref h12, .ref h13]))] s.heap.size = A at hD hE ⊢
  have hA : ∀ q : Nat, s.heap.size ≤ q → A q := fun q h => by rw [← hAe]; exact Or.inr h
  have hK := hE.1
  have hS : va_S A s.heap s.heap [] := va_S.rf
  replace hP : va_P g.1 vwCl [(h0, .inr (12, [.ref h1, .int 0, .ref h2, .ref h3, .ref h4, .ref h5, .ref h6, .ref h7, .int (-1), .ref h8, .ref h9, .int 250, .ref h10, .int 0, .ref h11, .ref h12, .ref h13]))] s.heap := hP
  have hl := lv_entry ([.ref h0, .int v0, .int 0]) (n := 3) (Nat.le_of_ble_eq_true rfl)
  rw [lg_entry_eq]
  generalize (lg_sl ([.ref h0, .int v0, .int 0]) ++ List.replicate (3 - (lg_sl ([.ref h0, .int v0, .int 0])).length) Slot.unset).toArray = ls at hl ⊢
  replace hl : lv_has ls 3 [(0, .ref h0), (1, .int v0), (2, .int 0)] := hl
  have hH0 : s.heap.size ≤ s.heap.size := Nat.le_refl _
  refine lv_iload_n hx hb dX11_group_0 rfl (lv_at hl 1 rfl) ?_
  refine lv_if_lt (tgt := 10) hx hb dX11_group_1 (by decide) (fun c9 => absurd c9 (by simp only [Int32.lt_iff_toInt_lt, Int32.le_iff_toInt_le, ← Int32.toInt_inj, show (0 : Int32).toInt = 0 from by decide]; omega)) (fun _ => ?_)
  refine lv_iload_n hx hb dX11_group_4 rfl (lv_at hl 1 rfl) ?_
  refine lv_bipush (v := 6) hx hb dX11_group_5 (by decide) ?_
  refine lv_icmp_le (tgt := 20) hx hb dX11_group_7 (by decide) (fun c9 => absurd c9 (by simp only [Int32.lt_iff_toInt_lt, Int32.le_iff_toInt_le, ← Int32.toInt_inj, show (6 : Int32).toInt = 6 from by decide]; omega)) (fun _ => ?_)
  obtain ⟨sa, hsa⟩ := hE.str (222, "no such group") (by decide)
  exact vx_throwS (names := ["java/lang/RuntimeException", "java/lang/Exception"]) (A := A) hx hb hlt hown (by decide) (by decide) (hts (.classLink RX11 220 "java/lang/IndexOutOfBoundsException") (List.mem_of_getElem? (i := 46) rfl)) (hts (.initialized "java/lang/IndexOutOfBoundsException") (List.mem_of_getElem? (i := 47) rfl)) hsa (vx_hat (B := [.castable "java/lang/IndexOutOfBoundsException" "java/lang/IndexOutOfBoundsException", .declares (Bundle.initS "java/lang/RuntimeException"), .declares (Bundle.initS "java/lang/Exception"), .declares (Bundle.initS "java/lang/Throwable")]) (fun w9 hw9 => hts w9 (by revert w9; decide +kernel)) (by decide +kernel) (vx_c (va_Nw.use rfl (hE.cast ("java/lang/IndexOutOfBoundsException", "java/lang/IndexOutOfBoundsException") (by decide))) (vx_c (va_Nw.use rfl (hE.decl _ (by decide))) (vx_c (va_Nw.use rfl (hE.decl _ (by decide))) (vx_c (va_Nw.use rfl (hE.decl _ (by decide))) vx_n))))) (by decide +kernel) hE.zu hE.zn hS (by rw [hml]; exact hl.1) dX11_group_10 dX11_group_13 dX11_group_14 dX11_group_16 dX11_group_19 (fun z hz => (hno z hz).elim) (Nat.le_of_ble_eq_true rfl) (Nat.le_of_ble_eq_true rfl) (Nat.le_of_ble_eq_true rfl) (Nat.le_of_ble_eq_true rfl) hlocks (fun t hW hz ho => ⟨(), trivial, rfl, by subst hAe; exact ⟨Nat.le_trans hS.1 hz, fun q h1 h2 => (ho q (Nat.lt_of_lt_of_le h1 hS.1)).trans (hS.2.1 q h1 h2)⟩⟩) (fun z hz => by subst hAe; exact hS.2.2 z hz) (Nat.le_of_ble_eq_true rfl) (Nat.le_of_ble_eq_true rfl)
def w9_L_group_12 : List Cond := [.codeWith yL_group cL_group 5 (some .int) [(0, 10, 13, 21)], .methodLink RL 47 yX11_group, .instanceMethod yX11_group, .selects RX11 yX11_group yX11_group, .initialized RX11, .code yX11_group cX11_group 3 (some .int), .initialized "java/lang/Throwable", .superclass "java/lang/Throwable" "java/lang/Object", .instanceMethod Bundle.tFill, .codeSync Bundle.tFill LibCode.Throwable.Fill.code 1 (some (.object "java/lang/Throwable")), .instanceMethod Bundle.tFill0, .native Bundle.tFill0, .instanceMethod Bundle.tInit0, .code Bundle.tInit0 LibCode.Throwable.Init0.code 1 none, .instanceMethod Bundle.oInit, .code Bundle.oInit ⟨#[0xb1]⟩ 1 none, .methodLink "java/lang/Throwable" 1 Bundle.oInit, .methodLink "java/lang/Throwable" 27 Bundle.tFill, .methodLink "java/lang/Throwable" 202 Bundle.tFill0, .fieldLink "java/lang/Throwable" 7 "java/lang/Throwable" "cause" "Ljava/lang/Throwable;", .lays "java/lang/Throwable" "java/lang/Throwable" "cause" "Ljava/lang/Throwable;", .fieldLink "java/lang/Throwable" 17 "java/lang/Throwable" "stackTrace" "[Ljava/lang/StackTraceElement;", .lays "java/lang/Throwable" "java/lang/Throwable" "stackTrace" "[Ljava/lang/StackTraceElement;", .fieldLink "java/lang/Throwable" 24 "java/lang/Throwable" "suppressedExceptions" "Ljava/util/List;", .lays "java/lang/Throwable" "java/lang/Throwable" "suppressedExceptions" "Ljava/util/List;", .fieldLink "java/lang/Throwable" 13 "java/lang/Throwable" "UNASSIGNED_STACK" "[Ljava/lang/StackTraceElement;", .fieldLink "java/lang/Throwable" 20 "java/lang/Throwable" "SUPPRESSED_SENTINEL" "Ljava/util/List;", .lays "java/lang/Throwable" "java/lang/Throwable" "detailMessage" "Ljava/lang/String;", .instanceMethod (Bundle.initS "java/lang/Throwable"), .code (Bundle.initS "java/lang/Throwable") LibCode.Throwable.InitS.code 2 none, .fieldLink "java/lang/Throwable" 31 "java/lang/Throwable" "detailMessage" "Ljava/lang/String;", .instanceMethod (Bundle.initS "java/lang/IndexOutOfBoundsException"), .code (Bundle.initS "java/lang/IndexOutOfBoundsException") Bundle.six 2 none, .methodLink "java/lang/IndexOutOfBoundsException" 7 (Bundle.initS "java/lang/RuntimeException"), .instanceMethod (Bundle.initS "java/lang/RuntimeException"), .code (Bundle.initS "java/lang/RuntimeException") Bundle.six 2 none, .methodLink "java/lang/RuntimeException" 7 (Bundle.initS "java/lang/Exception"), .instanceMethod (Bundle.initS "java/lang/Exception"), .code (Bundle.initS "java/lang/Exception") Bundle.six 2 none, .methodLink "java/lang/Exception" 7 (Bundle.initS "java/lang/Throwable"), .methodLink RX11 224 (Bundle.initS "java/lang/IndexOutOfBoundsException"), .instantiable "java/lang/IndexOutOfBoundsException" 6, .selects "java/lang/IndexOutOfBoundsException" Bundle.tFill0 Bundle.tFill0, .selects "java/lang/IndexOutOfBoundsException" Bundle.tFill Bundle.tFill, .lays "java/lang/IndexOutOfBoundsException" "java/lang/Throwable" "cause" "Ljava/lang/Throwable;", .lays "java/lang/IndexOutOfBoundsException" "java/lang/Throwable" "stackTrace" "[Ljava/lang/StackTraceElement;", .lays "java/lang/IndexOutOfBoundsException" "java/lang/Throwable" "suppressedExceptions" "Ljava/util/List;", .lays "java/lang/IndexOutOfBoundsException" "java/lang/Throwable" "detailMessage" "Ljava/lang/String;", .fieldLink "java/lang/Throwable" 198 "java/lang/Throwable" "backtrace" "Ljava/lang/Object;", .lays "java/lang/Throwable" "java/lang/Throwable" "backtrace" "Ljava/lang/Object;", .lays "java/lang/IndexOutOfBoundsException" "java/lang/Throwable" "backtrace" "Ljava/lang/Object;", .classLink RX11 220 "java/lang/IndexOutOfBoundsException", .initialized "java/lang/IndexOutOfBoundsException", .classLink RL 21 "java/lang/IndexOutOfBoundsException"]
set_option maxRecDepth 20000 in
theorem g9_L_group_12_0 : GoodIn w9_L_group_12 (wsV RL 47 RX11 yX11_group w9_X11_group_11) := goodIn_r _ [1, 2, 3, 4, 5, 6, 7, 8, 9, 10, 11, 12, 13, 14, 15, 16, 17, 18, 19, 20, 21, 22, 23, 24, 25, 26, 27, 28, 29, 30, 31, 32, 33, 34, 35, 36, 37, 38, 39, 40, 41, 42, 43, 44, 45, 46, 47, 48, 49, 50, 51, 52] (by decide +kernel) (by decide +kernel)
set_option maxHeartbeats 4000000 in
set_option maxRecDepth 100000 in
theorem c9_L_group_12 (l : Launch) (hlt : l.stackTraces = false) (g : G9) (h0 h1 h2 h3 h4 h5 h6 h7 h8 h9 h10 h11 h12 h13 h14 sz : Nat) (v0 : Int32) (k_v0 : 7 ≤ v0.toInt ∧ v0.toInt ≤ 2147483647) : Met l yL_group w9_L_group_12 ({ frames := 7, cells := 1, slots := 6, locals := 104 }) (mP g [(h0, .inr (12, [.ref h2, .int 0, .ref h3, .ref h4, .ref h5, .ref h6, .ref h7, .ref h8, .int (-1), .ref h9, .ref h10, .int 250, .ref h11, .int 0, .ref h12, .ref h13, .ref h14]))] sz [.ref h0, .int v0, .int 0, .ref h1]) (va_Qi (fun (r : Int32) (_ : Unit) => r = 1) (fun (_ : Unit) (t : State) => mB g [(h0, .inr (12, [.ref h2, .int 0, .ref h3, .ref h4, .ref h5, .ref h6, .ref h7, .ref h8, .int (-1), .ref h9, .ref h10, .int 250, .ref h11, .int 0, .ref h12, .ref h13, .ref h14]))] sz [] t) (va_A [(h0, .inr (12, [.ref h2, .int 0, .ref h3, .ref h4, .ref h5, .ref h6, .ref h7, .ref h8, .int (-1), .ref h9, .ref h10, .int 250, .ref h11, .int 0, .ref h12, .ref h13, .ref h14]))] sz)) 1 6 (va_A [(h0, .inr (12, [.ref h2, .int 0, .ref h3, .ref h4, .ref h5, .ref h6, .ref h7, .ref h8, .int (-1), .ref h9, .ref h10, .int 250, .ref h11, .int 0, .ref h12, .ref h13, .ref h14]))] sz) := by
  refine va_MetW (cc := cL_group) (maxL := 5) (ret := (some .int)) (by decide) rfl ?_
  intro p e s m args below meth c s₁ B hml hv
  obtain ⟨rfl, hsz, hP, hD0, hE⟩ := hv
  have hx := B.exec
  have hb := B.bytes
  have hr := B.returns
  have hts := atoms_spec (ws := w9_L_group_12) B.pre
  have hown : s.vm.findClass RL = some m.cls := findClass_of_methodNamed B.named
  have hlocks := B.notSynchronized
  have htab := vx_table (x := yL_group) B (hts (.codeWith yL_group cL_group 5 (some .int) [(0, 10, 13, 21)]) (List.mem_of_getElem? (i := 0) rfl))
  subst hsz
  have hD := hD0.self (sz := s.heap.size)
  generalize hAe : va_A [(h0, .inr (12, [.ref h2, .int 0, .ref h3, .ref h4, .ref h5, .ref h6, .ref h7, .ref h8, .int (-1), .ref h9, .ref h10, .int 250, .ref h11, .int 0, .ref h12, .ref h13, .ref h14]))] s.heap.size = A at hD hE ⊢
  have hA : ∀ q : Nat, s.heap.size ≤ q → A q := fun q h => by rw [← hAe]; exact Or.inr h
  have hK := hE.1
  have hS : va_S A s.heap s.heap [] := va_S.rf
  replace hP : va_P g.1 vwCl [(h0, .inr (12, [.ref h2, .int 0, .ref h3, .ref h4, .ref h5, .ref h6, .ref h7, .ref h8, .int (-1), .ref h9, .ref h10, .int 250, .ref h11, .int 0, .ref h12, .ref h13, .ref h14]))] s.heap := hP
  have hl := lv_entry ([.ref h0, .int v0, .int 0, .ref h1]) (n := 5) (Nat.le_of_ble_eq_true rfl)
  rw [lg_entry_eq]
  generalize (lg_sl ([.ref h0, .int v0, .int 0, .ref h1]) ++ List.replicate (5 - (lg_sl ([.ref h0, .int v0, .int 0, .ref h1])).length) Slot.unset).toArray = ls at hl ⊢
  replace hl : lv_has ls 5 [(0, .ref h0), (1, .int v0), (2, .int 0), (3, .ref h1)] := hl
  have hH0 : s.heap.size ≤ s.heap.size := Nat.le_refl _
  refine lv_aload_n hx hb dL_group_0 rfl (lv_at hl 3 rfl) ?_
  refine lv_iconst (v := 0) hx hb dL_group_1 (by decide) ?_
  refine lv_aload_n hx hb dL_group_2 rfl (lv_at hl 0 rfl) ?_
  refine lv_iload_n hx hb dL_group_3 rfl (lv_at hl 1 rfl) ?_
  refine lv_iload_n hx hb dL_group_4 rfl (lv_at hl 2 rfl) ?_
  have hPc := hP.sub (ws' := [(h0, .inr (12, [.ref h2, .int 0, .ref h3, .ref h4, .ref h5, .ref h6, .ref h7, .ref h8, .int (-1), .ref h9, .ref h10, .int 250, .ref h11, .int 0, .ref h12, .ref h13, .ref h14]))]) [0] rfl
  have hDc := hD.sub (ws' := [(h0, .inr (12, [.ref h2, .int 0, .ref h3, .ref h4, .ref h5, .ref h6, .ref h7, .ref h8, .int (-1), .ref h9, .ref h10, .int 250, .ref h11, .int 0, .ref h12, .ref h13, .ref h14]))]) [0] (by decide) rfl
  have hFc := va_free (wc := [(h0, .inr (12, [.ref h2, .int 0, .ref h3, .ref h4, .ref h5, .ref h6, .ref h7, .ref h8, .int (-1), .ref h9, .ref h10, .int 250, .ref h11, .int 0, .ref h12, .ref h13, .ref h14]))]) hD hS hA [0] rfl
  refine vx_callv (vx_runV (As := [.int v0, .int 0]) (rest := [.int 0, .ref h1]) ⟨hx, hb, hml, hown, hts⟩ (c9_X11_group_11 l hlt g h0 h2 h3 h4 h5 h6 h7 h8 h9 h10 h11 h12 h13 h14 _ v0 (by omega)) (cwV 2 hts g9_L_group_12_0 rfl rfl rfl (by decide +kernel) ⟨Nat.le_of_ble_eq_true rfl, Nat.le_of_ble_eq_true rfl⟩) (mPreV (g := g) (wc := [(h0, .inr (12, [.ref h2, .int 0, .ref h3, .ref h4, .ref h5, .ref h6, .ref h7, .ref h8, .int (-1), .ref h9, .ref h10, .int 250, .ref h11, .int 0, .ref h12, .ref h13, .ref h14]))]) (C := RX11) (ci := 12) (q0 := 0) hE hS hPc hDc hFc rfl rfl) rfl rfl hl.1 rfl (lv_room (Nat.le_of_ble_eq_true rfl)) dL_group_5 ⟨Nat.le_of_ble_eq_true rfl, Nat.le_of_ble_eq_true rfl⟩) hS (fun q _ h => hFc q h) hFc (fun q _ h => hFc q h) (fun E9 ce q9 u t H locs ht hvm hw hB hz1 hk1 hS hc1 hc2 hc3 => ?_) (fun u t H1 locs ht hvm hw hB hz1 hk1 hS => hw.elim)
  replace hB : E9 = "java/lang/IndexOutOfBoundsException" := hB
  subst hB
  obtain ⟨hP, hD⟩ := va_join (wr := []) (w1 := []) hP hD [0] [] rfl rfl (by decide) (by decide) hk1 hFc (fun k q h => by simp at h) ⟨fun i j p q h => by simp at h, fun k q h => by simp at h⟩
  have hP : va_P g.1 vwCl [] H := hP
  have hD : va_D A [] := hD
  refine vx_catch (own := RL) (name := "java/lang/IndexOutOfBoundsException") hown [] ⟨0, 10, 13, 21⟩ [] (by rw [htab]; rfl) (fun z hz => absurd hz List.not_mem_nil) (by decide) (by decide) (hts (.classLink RL 21 "java/lang/IndexOutOfBoundsException") (List.mem_of_getElem? (i := 53) rfl)) (va_Nw.use rfl (hE.cast ("java/lang/IndexOutOfBoundsException", "java/lang/IndexOutOfBoundsException") (by decide))) hc1 hc2 hc3 ?_
  refine lv_astore (lv' := [(4, .ref q9), (0, .ref h0), (1, .int v0), (2, .int 0), (3, .ref h1)]) hx hb dL_group_13 hl (by decide) rfl (fun ls hl => ?_)
  refine lv_iconst (v := 1) hx hb dL_group_15 (by decide) ?_
  have hP9 := hP.sub (ws' := []) [] rfl
  have hD9 := hD.sub (ws' := []) [] (by decide) rfl
  subst hAe
  exact W.iret (v := 1) hx hb hr (fun t ht hW => ⟨⟨1, (), rfl, rfl, by rw [ht]; exact hP9, hD9⟩, hS.F ht⟩) hS.2.2 dL_group_16
def w9_X21_group_11 : List Cond := [.code yX21_group cX21_group 3 (some .int), .methodLink RX21 160 yX21_in, .static yX21_in, .initialized RX21, .code yX21_in cX21_in 3 (some .boolean), .methodLink RX21 154 yX21_refused, .instanceMethod yX21_refused, .selects RX21 yX21_refused yX21_refused, .code yX21_refused cX21_refused 2 (some .boolean), .fieldLink RX21 144 "RegexloomModel" "refusal" "I"] ++ (u_ws RX21 TX21 32)
set_option maxRecDepth 20000 in
theorem in9_X21_group_11_RX21 : ∀ w ∈ u_ws RX21 TX21 32, w ∈ w9_X21_group_11 := by decide +kernel
set_option maxRecDepth 20000 in
theorem g9_X21_group_11_0 : GoodIn w9_X21_group_11 (va_wsS RX21 160 yX21_in w9_X21_in_15) := goodIn_r _ [1, 2, 3, 4] (by decide +kernel) (by decide +kernel)
set_option maxRecDepth 20000 in
theorem g9_X21_group_11_1 : GoodIn w9_X21_group_11 (wsV RX21 154 RX21 yX21_refused w9_X21_refused_2) := goodIn_r _ [5, 6, 7, 3, 8, 9, 10, 11, 12, 13, 14, 15, 16, 17, 18, 19, 20, 21, 22, 23, 24, 25, 26, 27, 28, 29, 30, 31, 32, 33, 34, 35, 36, 37, 38, 39, 40, 41] (by decide +kernel) (by decide +kernel)
set_option maxHeartbeats 4000000 in
set_option maxRecDepth 100000 in
theorem c9_X21_group_11 (l : Launch) (g : G9) (h0 h1 h2 h3 h4 h5 h6 h7 h8 h9 h10 h11 h12 h13 h14 h15 h16 sz : Nat) (v0 : Int32) (k_v0 : 7 ≤ v0.toInt ∧ v0.toInt ≤ 2147483647) : Met l yX21_group w9_X21_group_11 ({ frames := 1, cells := 0, slots := 0, locals := 22 }) (mP g [(h0, .inr (22, [.int 0, .ref h1, .int 0, .ref h2, .int 0, .ref h3, .int 250, .ref h4, .int 0, .ref h5, .ref h6, .ref h7, .int 0, .ref h8, .ref h9, .ref h10, .int 0, .null, .int 0, .null, .int 0, .int 0, .int 0, .ref h11, .int 0, .ref h12, .ref h13, .ref h14, .int 0, .ref h15, .ref h16, .int 0]))] sz [.ref h0, .int v0, .int 0]) (va_Qi (fun (r : Int32) (_ : Unit) => r = 0) (fun (_ : Unit) (t : State) => mB g [(h0, .inr (22, [.int 0, .ref h1, .int 0, .ref h2, .int 0, .ref h3, .int 250, .ref h4, .int 0, .ref h5, .ref h6, .ref h7, .int 0, .ref h8, .ref h9, .ref h10, .int 0, .null, .int 0, .null, .int 0, .int 0, .int 0, .ref h11, .int 0, .ref h12, .ref h13, .ref h14, .int 0, .ref h15, .ref h16, .int 0]))] sz [(h0, .inr (22, [.int 1, .ref h1, .int 0, .ref h2, .int 0, .ref h3, .int 250, .ref h4, .int 0, .ref h5, .ref h6, .ref h7, .int 0, .ref h8, .ref h9, .ref h10, .int 0, .null, .int 0, .null, .int 0, .int 0, .int 0, .ref h11, .int 0, .ref h12, .ref h13, .ref h14, .int 0, .ref h15, .ref h16, .int 0]))] t) (va_A [(h0, .inr (22, [.int 0, .ref h1, .int 0, .ref h2, .int 0, .ref h3, .int 250, .ref h4, .int 0, .ref h5, .ref h6, .ref h7, .int 0, .ref h8, .ref h9, .ref h10, .int 0, .null, .int 0, .null, .int 0, .int 0, .int 0, .ref h11, .int 0, .ref h12, .ref h13, .ref h14, .int 0, .ref h15, .ref h16, .int 0]))] sz)) 0 0 (va_A [(h0, .inr (22, [.int 0, .ref h1, .int 0, .ref h2, .int 0, .ref h3, .int 250, .ref h4, .int 0, .ref h5, .ref h6, .ref h7, .int 0, .ref h8, .ref h9, .ref h10, .int 0, .null, .int 0, .null, .int 0, .int 0, .int 0, .ref h11, .int 0, .ref h12, .ref h13, .ref h14, .int 0, .ref h15, .ref h16, .int 0]))] sz) := by
  refine Met.ofW (cc := cX21_group) (maxL := 3) (ret := (some .int)) (by decide) rfl ?_
  intro p e s m args below meth c s₁ B hml hv
  obtain ⟨rfl, hsz, hP, hD0, hE⟩ := hv
  have hx := B.exec
  have hb := B.bytes
  have hr := B.returns
  have hts := atoms_spec (ws := w9_X21_group_11) B.pre
  have hown : s.vm.findClass RX21 = some m.cls := findClass_of_methodNamed B.named
  have hlocks := B.notSynchronized
  subst hsz
  have hD := hD0.self (sz := s.heap.size)
  generalize hAe : va_A [(h0, .inr (22, [.int 0, .ref h1, .int 0, .ref h2, .int 0, .ref h3, .int 250, .ref h4, .int 0, .ref h5, .ref h6, .ref h7, .int 0, .ref h8, .ref h9, .ref h10, .int 0, .null, .int 0, .null, .int 0, .int 0, .int 0, .ref h11, .int 0, .ref h12, .ref h13, .ref h14, .int 0, .ref h15, .ref h16, .int 0]))] s.heap.size = A at hD hE ⊢
  have hA : ∀ q : Nat, s.heap.size ≤ q → A q := fun q h => by rw [← hAe]; exact Or.inr h
  have hK := hE.1
  have hS : va_S A s.heap s.heap [] := va_S.rf
  replace hP : va_P g.1 vwCl [(h0, .inr (22, [.int 0, .ref h1, .int 0, .ref h2, .int 0, .ref h3, .int 250, .ref h4, .int 0, .ref h5, .ref h6, .ref h7, .int 0, .ref h8, .ref h9, .ref h10, .int 0, .null, .int 0, .null, .int 0, .int 0, .int 0, .ref h11, .int 0, .ref h12, .ref h13, .ref h14, .int 0, .ref h15, .ref h16, .int 0]))] s.heap := hP
  have hl := lv_entry ([.ref h0, .int v0, .int 0]) (n := 3) (Nat.le_of_ble_eq_true rfl)
  rw [lg_entry_eq]
  generalize (lg_sl ([.ref h0, .int v0, .int 0]) ++ List.replicate (3 - (lg_sl ([.ref h0, .int v0, .int 0])).length) Slot.unset).toArray = ls at hl ⊢
  replace hl : lv_has ls 3 [(0, .ref h0), (1, .int v0), (2, .int 0)] := hl
  have hH0 : s.heap.size ≤ s.heap.size := Nat.le_refl _
  refine lv_aload_n hx hb dX21_group_0 rfl (lv_at hl 0 rfl) ?_
  refine lv_iload_n hx hb dX21_group_1 rfl (lv_at hl 1 rfl) ?_
  refine lv_iconst (v := 0) hx hb dX21_group_2 (by decide) ?_
  refine lv_bipush (v := 6) hx hb dX21_group_3 (by decide) ?_
  have hPc := hP.sub (ws' := []) [] rfl
  have hDc := hD.sub (ws' := []) [] (by decide) rfl
  have hFc := va_free (wc := []) hD hS hA [] rfl
  refine va_calli (va_runS (As := [.int v0, .int 0, .int 6]) (rest := [.ref h0]) ⟨hx, hb, hml, hown, hts⟩ (c9_X21_in_15 l g _ v0 (by omega)) (va_cwS 3 hts g9_X21_group_11_0 rfl rfl rfl (by decide +kernel) ⟨Nat.le_of_ble_eq_true rfl, Nat.le_of_ble_eq_true rfl⟩) (mPreS (g := g) (wc := []) hE hS hPc hDc hFc) rfl rfl hl.1 rfl (lv_room (Nat.le_of_ble_eq_true rfl)) dX21_group_5 ⟨Nat.le_of_ble_eq_true rfl, Nat.le_of_ble_eq_true rfl⟩) hS (fun q _ h => hFc q h) hFc (fun r_1 u t H1 locs ht hvm hw hB hz1 hk1 hS => ?_)
  replace hw : 0 = r_1 := Eq.symm hw
  subst hw
  obtain ⟨hP1, hD1⟩ := hB
  rw [ht] at hP1
  obtain ⟨hP, hD⟩ := va_join (wr := [(h0, .inr (22, [.int 0, .ref h1, .int 0, .ref h2, .int 0, .ref h3, .int 250, .ref h4, .int 0, .ref h5, .ref h6, .ref h7, .int 0, .ref h8, .ref h9, .ref h10, .int 0, .null, .int 0, .null, .int 0, .int 0, .int 0, .ref h11, .int 0, .ref h12, .ref h13, .ref h14, .int 0, .ref h15, .ref h16, .int 0]))]) (w1 := []) hP hD [] [0] rfl rfl (by decide) (by decide) hk1 hFc hP1 hD1
  clear hP1 hD1 hPc hDc hFc hk1 hz1 hvm ht
  generalize H1 = H at hP hS ⊢
  have hP : va_P g.1 vwCl [(h0, .inr (22, [.int 0, .ref h1, .int 0, .ref h2, .int 0, .ref h3, .int 250, .ref h4, .int 0, .ref h5, .ref h6, .ref h7, .int 0, .ref h8, .ref h9, .ref h10, .int 0, .null, .int 0, .null, .int 0, .int 0, .int 0, .ref h11, .int 0, .ref h12, .ref h13, .ref h14, .int 0, .ref h15, .ref h16, .int 0]))] H := hP
  have hD : va_D A [(h0, .inr (22, [.int 0, .ref h1, .int 0, .ref h2, .int 0, .ref h3, .int 250, .ref h4, .int 0, .ref h5, .ref h6, .ref h7, .int 0, .ref h8, .ref h9, .ref h10, .int 0, .null, .int 0, .null, .int 0, .int 0, .int 0, .ref h11, .int 0, .ref h12, .ref h13, .ref h14, .int 0, .ref h15, .ref h16, .int 0]))] := hD
  refine lv_if_eq (tgt := 15) hx hb dX21_group_8 (by decide) (fun _ => ?_) (fun c9 => absurd (by decide) c9)
  refine lv_iconst (v := 1) hx hb dX21_group_15 (by decide) ?_
  have hPc := hP.sub (ws' := [(h0, .inr (22, [.int 0, .ref h1, .int 0, .ref h2, .int 0, .ref h3, .int 250, .ref h4, .int 0, .ref h5, .ref h6, .ref h7, .int 0, .ref h8, .ref h9, .ref h10, .int 0, .null, .int 0, .null, .int 0, .int 0, .int 0, .ref h11, .int 0, .ref h12, .ref h13, .ref h14, .int 0, .ref h15, .ref h16, .int 0]))]) [0] rfl
  have hDc := hD.sub (ws' := [(h0, .inr (22, [.int 0, .ref h1, .int 0, .ref h2, .int 0, .ref h3, .int 250, .ref h4, .int 0, .ref h5, .ref h6, .ref h7, .int 0, .ref h8, .ref h9, .ref h10, .int 0, .null, .int 0, .null, .int 0, .int 0, .int 0, .ref h11, .int 0, .ref h12, .ref h13, .ref h14, .int 0, .ref h15, .ref h16, .int 0]))]) [0] (by decide) rfl
  have hFc := va_free (wc := [(h0, .inr (22, [.int 0, .ref h1, .int 0, .ref h2, .int 0, .ref h3, .int 250, .ref h4, .int 0, .ref h5, .ref h6, .ref h7, .int 0, .ref h8, .ref h9, .ref h10, .int 0, .null, .int 0, .null, .int 0, .int 0, .int 0, .ref h11, .int 0, .ref h12, .ref h13, .ref h14, .int 0, .ref h15, .ref h16, .int 0]))]) hD hS hA [0] rfl
  refine va_calli (va_runV (As := [.int 1]) (rest := []) ⟨hx, hb, hml, hown, hts⟩ (c9_X21_refused_2 l g h0 h1 h2 h3 h4 h5 h6 h7 h8 h9 h10 h11 h12 h13 h14 h15 h16 _) (cwV 1 hts g9_X21_group_11_1 rfl rfl rfl (by decide +kernel) ⟨Nat.le_of_ble_eq_true rfl, Nat.le_of_ble_eq_true rfl⟩) (mPreV (g := g) (wc := [(h0, .inr (22, [.int 0, .ref h1, .int 0, .ref h2, .int 0, .ref h3, .int 250, .ref h4, .int 0, .ref h5, .ref h6, .ref h7, .int 0, .ref h8, .ref h9, .ref h10, .int 0, .null, .int 0, .null, .int 0, .int 0, .int 0, .ref h11, .int 0, .ref h12, .ref h13, .ref h14, .int 0, .ref h15, .ref h16, .int 0]))]) (C := RX21) (ci := 22) (q0 := 0) hE hS hPc hDc hFc rfl rfl) rfl rfl hl.1 rfl (lv_room (Nat.le_of_ble_eq_true rfl)) dX21_group_16 ⟨Nat.le_of_ble_eq_true rfl, Nat.le_of_ble_eq_true rfl⟩) hS (fun q _ h => hFc q h) hFc (fun r_2 u t H1 locs ht hvm hw hB hz1 hk1 hS => ?_)
  replace hw : 1 = r_2 := Eq.symm hw
  subst hw
  obtain ⟨hP1, hD1⟩ := hB
  rw [ht] at hP1
  obtain ⟨hP, hD⟩ := va_join (wr := []) (w1 := [(h0, .inr (22, [.int 1, .ref h1, .int 0, .ref h2, .int 0, .ref h3, .int 250, .ref h4, .int 0, .ref h5, .ref h6, .ref h7, .int 0, .ref h8, .ref h9, .ref h10, .int 0, .null, .int 0, .null, .int 0, .int 0, .int 0, .ref h11, .int 0, .ref h12, .ref h13, .ref h14, .int 0, .ref h15, .ref h16, .int 0]))]) hP hD [0] [] rfl rfl (by decide) (by decide) hk1 hFc hP1 hD1
  clear hP1 hD1 hPc hDc hFc hk1 hz1 hvm ht
  generalize H1 = H at hP hS ⊢
  have hP : va_P g.1 vwCl [(h0, .inr (22, [.int 1, .ref h1, .int 0, .ref h2, .int 0, .ref h3, .int 250, .ref h4, .int 0, .ref h5, .ref h6, .ref h7, .int 0, .ref h8, .ref h9, .ref h10, .int 0, .null, .int 0, .null, .int 0, .int 0, .int 0, .ref h11, .int 0, .ref h12, .ref h13, .ref h14, .int 0, .ref h15, .ref h16, .int 0]))] H := hP
  have hD : va_D A [(h0, .inr (22, [.int 1, .ref h1, .int 0, .ref h2, .int 0, .ref h3, .int 250, .ref h4, .int 0, .ref h5, .ref h6, .ref h7, .int 0, .ref h8, .ref h9, .ref h10, .int 0, .null, .int 0, .null, .int 0, .int 0, .int 0, .ref h11, .int 0, .ref h12, .ref h13, .ref h14, .int 0, .ref h15, .ref h16, .int 0]))] := hD
  refine lv_if_eq (tgt := 26) hx hb dX21_group_19 (by decide) (fun c9 => absurd c9 (by decide)) (fun _ => ?_)
  refine lv_iconst (v := 0) hx hb dX21_group_22 (by decide) ?_
  refine lv_goto (tgt := 44) hx hb dX21_group_23 (by decide) ?_
  have hP9 := hP.sub (ws' := [(h0, .inr (22, [.int 1, .ref h1, .int 0, .ref h2, .int 0, .ref h3, .int 250, .ref h4, .int 0, .ref h5, .ref h6, .ref h7, .int 0, .ref h8, .ref h9, .ref h10, .int 0, .null, .int 0, .null, .int 0, .int 0, .int 0, .ref h11, .int 0, .ref h12, .ref h13, .ref h14, .int 0, .ref h15, .ref h16, .int 0]))]) [0] rfl
  have hD9 := hD.sub (ws' := [(h0, .inr (22, [.int 1, .ref h1, .int 0, .ref h2, .int 0, .ref h3, .int 250, .ref h4, .int 0, .ref h5, .ref h6, .ref h7, .int 0, .ref h8, .ref h9, .ref h10, .int 0, .null, .int 0, .null, .int 0, .int 0, .int 0, .ref h11, .int 0, .ref h12, .ref h13, .ref h14, .int 0, .ref h15, .ref h16, .int 0]))]) [0] (by decide) rfl
  subst hAe
  exact W.iret (v := 0) hx hb hr (fun t ht hW => ⟨⟨0, (), rfl, rfl, by rw [ht]; exact hP9, hD9⟩, hS.F ht⟩) hS.2.2 dX21_group_44
def w9_X9_get_10 : List Cond := [.code yX9_get cX9_get 3 (some .int), .fieldLink RX9 28 "Regexloom$Table" "size" "I", .fieldLink RX9 9 "Regexloom$Table" "width" "I", .fieldLink RX9 24 "Regexloom$Table" "cells" "[I"] ++ (u_ws RX9 TX9 4)
set_option maxRecDepth 20000 in
theorem in9_X9_get_10_RX9 : ∀ w ∈ u_ws RX9 TX9 4, w ∈ w9_X9_get_10 := by decide +kernel
set_option maxHeartbeats 4000000 in
set_option maxRecDepth 100000 in
theorem c9_X9_get_10 (l : Launch) (g : G9) (h0 h1 sz : Nat) (f0 : Nat → Int32) : Met l yX9_get w9_X9_get_10 ({ frames := 0, cells := 0, slots := 0, locals := 0 }) (mP g [(h0, .inr (10, [.int 2, .int 7, .ref h1, .int 7])), (h1, .inl (g.2.1 0, 14, .inl f0))] sz [.ref h0, .int 0, .int 0]) (va_Qi (fun (r : Int32) (_ : Unit) => r = (f0 0)) (fun (_ : Unit) (t : State) => mB g [(h0, .inr (10, [.int 2, .int 7, .ref h1, .int 7])), (h1, .inl (g.2.1 0, 14, .inl f0))] sz [(h0, .inr (10, [.int 2, .int 7, .ref h1, .int 7])), (h1, .inl (g.2.1 0, 14, .inl f0))] t) (va_A [(h0, .inr (10, [.int 2, .int 7, .ref h1, .int 7])), (h1, .inl (g.2.1 0, 14, .inl f0))] sz)) 0 0 (va_A [(h0, .inr (10, [.int 2, .int 7, .ref h1, .int 7])), (h1, .inl (g.2.1 0, 14, .inl f0))] sz) := by
  refine Met.ofW (cc := cX9_get) (maxL := 3) (ret := (some .int)) (by decide) rfl ?_
  intro p e s m args below meth c s₁ B hml hv
  obtain ⟨rfl, hsz, hP, hD0, hE⟩ := hv
  have hx := B.exec
  have hb := B.bytes
  have hr := B.returns
  have hts := atoms_spec (ws := w9_X9_get_10) B.pre
  have hown : s.vm.findClass RX9 = some m.cls := findClass_of_methodNamed B.named
  have hlocks := B.notSynchronized
  subst hsz
  have hD := hD0.self (sz := s.heap.size)
  generalize hAe : va_A [(h0, .inr (10, [.int 2, .int 7, .ref h1, .int 7])), (h1, .inl (g.2.1 0, 14, .inl f0))] s.heap.size = A at hD hE ⊢
  have hA : ∀ q : Nat, s.heap.size ≤ q → A q := fun q h => by rw [← hAe]; exact Or.inr h
  have hK := hE.1
  have hS : va_S A s.heap s.heap [] := va_S.rf
  replace hP : va_P g.1 vwCl [(h0, .inr (10, [.int 2, .int 7, .ref h1, .int 7])), (h1, .inl (g.2.1 0, 14, .inl f0))] s.heap := hP
  have hl := lv_entry ([.ref h0, .int 0, .int 0]) (n := 3) (Nat.le_of_ble_eq_true rfl)
  rw [lg_entry_eq]
  generalize (lg_sl ([.ref h0, .int 0, .int 0]) ++ List.replicate (3 - (lg_sl ([.ref h0, .int 0, .int 0])).length) Slot.unset).toArray = ls at hl ⊢
  replace hl : lv_has ls 3 [(0, .ref h0), (1, .int 0), (2, .int 0)] := hl
  have hH0 : s.heap.size ≤ s.heap.size := Nat.le_refl _
  refine lv_iload_n hx hb dX9_get_0 rfl (lv_at hl 1 rfl) ?_
  refine lv_if_lt (tgt := 24) hx hb dX9_get_1 (by decide) (fun c9 => absurd c9 (by decide)) (fun _ => ?_)
  refine lv_iload_n hx hb dX9_get_4 rfl (lv_at hl 1 rfl) ?_
  refine lv_aload_n hx hb dX9_get_5 rfl (lv_at hl 0 rfl) ?_
  refine va_get (D := g.1) (ci := 10) (v := .int 7) (C := RX9) (T := TX9) (N := 4) hx hb hts in9_X9_get_10_RX9 hown hK hP 0 rfl rfl 3 (by decide) (hts (.fieldLink RX9 28 "Regexloom$Table" "size" "I") (List.mem_of_getElem? (i := 1) rfl)) (fun _ h9 => h9) rfl dX9_get_6 ?_
  refine lv_icmp_ge (tgt := 24) hx hb dX9_get_9 (by decide) (fun c9 => absurd c9 (by decide)) (fun _ => ?_)
  refine lv_iload_n hx hb dX9_get_12 rfl (lv_at hl 2 rfl) ?_
  refine lv_if_lt (tgt := 24) hx hb dX9_get_13 (by decide) (fun c9 => absurd c9 (by decide)) (fun _ => ?_)
  refine lv_iload_n hx hb dX9_get_16 rfl (lv_at hl 2 rfl) ?_
  refine lv_aload_n hx hb dX9_get_17 rfl (lv_at hl 0 rfl) ?_
  refine va_get (D := g.1) (ci := 10) (v := .int 2) (C := RX9) (T := TX9) (N := 4) hx hb hts in9_X9_get_10_RX9 hown hK hP 0 rfl rfl 0 (by decide) (hts (.fieldLink RX9 9 "Regexloom$Table" "width" "I") (List.mem_of_getElem? (i := 2) rfl)) (fun _ h9 => h9) rfl dX9_get_18 ?_
  refine lv_icmp_lt (tgt := 26) hx hb dX9_get_21 (by decide) (fun _ => ?_) (fun c9 => absurd (by decide) c9)
  refine lv_aload_n hx hb dX9_get_26 rfl (lv_at hl 0 rfl) ?_
  refine va_get (D := g.1) (ci := 10) (v := .ref h1) (C := RX9) (T := TX9) (N := 4) hx hb hts in9_X9_get_10_RX9 hown hK hP 0 rfl rfl 2 (by decide) (hts (.fieldLink RX9 24 "Regexloom$Table" "cells" "[I") (List.mem_of_getElem? (i := 3) rfl)) (fun _ h9 => h9) rfl dX9_get_27 ?_
  refine lv_iload_n hx hb dX9_get_30 rfl (lv_at hl 1 rfl) ?_
  refine lv_aload_n hx hb dX9_get_31 rfl (lv_at hl 0 rfl) ?_
  refine va_get (D := g.1) (ci := 10) (v := .int 2) (C := RX9) (T := TX9) (N := 4) hx hb hts in9_X9_get_10_RX9 hown hK hP 0 rfl rfl 0 (by decide) (hts (.fieldLink RX9 9 "Regexloom$Table" "width" "I") (List.mem_of_getElem? (i := 2) rfl)) (fun _ h9 => h9) rfl dX9_get_32 ?_
  refine lv_imul hx hb dX9_get_35 ?_
  refine e_top (y := 0) (by decide) ?_
  refine lv_iload_n hx hb dX9_get_36 rfl (lv_at hl 2 rfl) ?_
  refine lv_iadd hx hb dX9_get_37 ?_
  refine e_top (y := 0) (by decide) ?_
  refine va_iald hx hb hK hP 1 0 rfl rfl (vp_in_nI (n := 0) (by decide) (by decide)) dX9_get_38 ?_
  refine e_topv (y := .int (f0 0)) (by rfl) ?_
  have hP9 := hP.sub (ws' := [(h0, .inr (10, [.int 2, .int 7, .ref h1, .int 7])), (h1, .inl (g.2.1 0, 14, .inl f0))]) [0, 1] rfl
  have hD9 := hD.sub (ws' := [(h0, .inr (10, [.int 2, .int 7, .ref h1, .int 7])), (h1, .inl (g.2.1 0, 14, .inl f0))]) [0, 1] (by decide) rfl
  subst hAe
  exact W.iret (v := (f0 0)) hx hb hr (fun t ht hW => ⟨⟨(f0 0), (), rfl, rfl, by rw [ht]; exact hP9, hD9⟩, hS.F ht⟩) hS.2.2 dX9_get_39
def w9_X11_group_12 : List Cond := [.code yX11_group cX11_group 3 (some .int), .fieldLink RX11 78 "Regexloom" "bounds" "LRegexloom$Table;", .methodLink RX11 225 yX9_get, .instanceMethod yX9_get, .selects RX9 yX9_get yX9_get, .initialized RX9, .code yX9_get cX9_get 3 (some .int), .fieldLink RX9 28 "Regexloom$Table" "size" "I", .fieldLink RX9 9 "Regexloom$Table" "width" "I", .fieldLink RX9 24 "Regexloom$Table" "cells" "[I"] ++ (u_ws RX11 TX11 17 ++ u_ws RX9 TX9 4)
set_option maxRecDepth 20000 in
theorem in9_X11_group_12_RX11 : ∀ w ∈ u_ws RX11 TX11 17, w ∈ w9_X11_group_12 := by decide +kernel
set_option maxRecDepth 20000 in
theorem in9_X11_group_12_RX9 : ∀ w ∈ u_ws RX9 TX9 4, w ∈ w9_X11_group_12 := by decide +kernel
set_option maxRecDepth 20000 in
theorem g9_X11_group_12_0 : GoodIn w9_X11_group_12 (wsV RX11 225 RX9 yX9_get w9_X9_get_10) := goodIn_r _ [2, 3, 4, 5, 6, 7, 8, 9, 27, 28, 29, 30] (by decide +kernel) (by decide +kernel)
set_option maxHeartbeats 4000000 in
set_option maxRecDepth 100000 in
theorem c9_X11_group_12 (l : Launch) (g : G9) (h0 h1 h2 h3 h4 h5 h6 h7 h8 h9 h10 h11 h12 h13 h14 sz : Nat) (f0 : Nat → Int32) : Met l yX11_group w9_X11_group_12 ({ frames := 1, cells := 0, slots := 0, locals := 22 }) (mP g [(h0, .inr (12, [.ref h1, .int 0, .ref h2, .ref h3, .ref h4, .ref h5, .ref h6, .ref h7, .int (-1), .ref h8, .ref h9, .int 250, .ref h10, .int 0, .ref h11, .ref h12, .ref h13])), (h10, .inr (10, [.int 2, .int 7, .ref h14, .int 7])), (h14, .inl (g.2.1 0, 14, .inl f0))] sz [.ref h0, .int 0, .int 0]) (va_Qi (fun (r : Int32) (_ : Unit) => r = (f0 0)) (fun (_ : Unit) (t : State) => mB g [(h0, .inr (12, [.ref h1, .int 0, .ref h2, .ref h3, .ref h4, .ref h5, .ref h6, .ref h7, .int (-1), .ref h8, .ref h9, .int 250, .ref h10, .int 0, .ref h11, .ref h12, .ref h13])), (h10, .inr (10, [.int 2, .int 7, .ref h14, .int 7])), (h14, .inl (g.2.1 0, 14, .inl f0))] sz [(h0, .inr (12, [.ref h1, .int 0, .ref h2, .ref h3, .ref h4, .ref h5, .ref h6, .ref h7, .int (-1), .ref h8, .ref h9, .int 250, .ref h10, .int 0, .ref h11, .ref h12, .ref h13])), (h10, .inr (10, [.int 2, .int 7, .ref h14, .int 7])), (h14, .inl (g.2.1 0, 14, .inl f0))] t) (va_A [(h0, .inr (12, [.ref h1, .int 0, .ref h2, .ref h3, .ref h4, .ref h5, .ref h6, .ref h7, .int (-1), .ref h8, .ref h9, .int 250, .ref h10, .int 0, .ref h11, .ref h12, .ref h13])), (h10, .inr (10, [.int 2, .int 7, .ref h14, .int 7])), (h14, .inl (g.2.1 0, 14, .inl f0))] sz)) 0 0 (va_A [(h0, .inr (12, [.ref h1, .int 0, .ref h2, .ref h3, .ref h4, .ref h5, .ref h6, .ref h7, .int (-1), .ref h8, .ref h9, .int 250, .ref h10, .int 0, .ref h11, .ref h12, .ref h13])), (h10, .inr (10, [.int 2, .int 7, .ref h14, .int 7])), (h14, .inl (g.2.1 0, 14, .inl f0))] sz) := by
  refine Met.ofW (cc := cX11_group) (maxL := 3) (ret := (some .int)) (by decide) rfl ?_
  intro p e s m args below meth c s₁ B hml hv
  obtain ⟨rfl, hsz, hP, hD0, hE⟩ := hv
  have hx := B.exec
  have hb := B.bytes
  have hr := B.returns
  have hts := atoms_spec (ws := w9_X11_group_12) B.pre
  have hown : s.vm.findClass RX11 = some m.cls := findClass_of_methodNamed B.named
  have hlocks := B.notSynchronized
  subst hsz
  have hD := hD0.self (sz := s.heap.size)
  generalize hAe : va_A [(h0, .inr (12, [.ref h1, .int 0, .ref h2, .ref h3, .ref h4, .ref h5, .ref h6, .ref h7, .int (-1), .ref h8, .ref h9, .int 250, .ref h10, .int 0, .ref h11, .ref h12, .ref h13])), (h10, .inr (10, [.int 2, .int 7, .ref h14, .int 7])), (h14, .inl (g.2.1 0, 14, .inl f0))] s.heap.size = A at hD hE ⊢
  have hA : ∀ q : Nat, s.heap.size ≤ q → A q := fun q h => by rw [← hAe]; exact Or.inr h
  have hK := hE.1
  have hS : va_S A s.heap s.heap [] := va_S.rf
  replace hP : va_P g.1 vwCl [(h0, .inr (12, [.ref h1, .int 0, .ref h2, .ref h3, .ref h4, .ref h5, .ref h6, .ref h7, .int (-1), .ref h8, .ref h9, .int 250, .ref h10, .int 0, .ref h11, .ref h12, .ref h13])), (h10, .inr (10, [.int 2, .int 7, .ref h14, .int 7])), (h14, .inl (g.2.1 0, 14, .inl f0))] s.heap := hP
  have hl := lv_entry ([.ref h0, .int 0, .int 0]) (n := 3) (Nat.le_of_ble_eq_true rfl)
  rw [lg_entry_eq]
  generalize (lg_sl ([.ref h0, .int 0, .int 0]) ++ List.replicate (3 - (lg_sl ([.ref h0, .int 0, .int 0])).length) Slot.unset).toArray = ls at hl ⊢
  replace hl : lv_has ls 3 [(0, .ref h0), (1, .int 0), (2, .int 0)] := hl
  have hH0 : s.heap.size ≤ s.heap.size := Nat.le_refl _
  refine lv_iload_n hx hb dX11_group_0 rfl (lv_at hl 1 rfl) ?_
  refine lv_if_lt (tgt := 10) hx hb dX11_group_1 (by decide) (fun c9 => absurd c9 (by decide)) (fun _ => ?_)
  refine lv_iload_n hx hb dX11_group_4 rfl (lv_at hl 1 rfl) ?_
  refine lv_bipush (v := 6) hx hb dX11_group_5 (by decide) ?_
  refine lv_icmp_le (tgt := 20) hx hb dX11_group_7 (by decide) (fun _ => ?_) (fun c9 => absurd (by decide) c9)
  refine lv_aload_n hx hb dX11_group_20 rfl (lv_at hl 0 rfl) ?_
  refine va_get (D := g.1) (ci := 12) (v := .ref h10) (C := RX11) (T := TX11) (N := 17) hx hb hts in9_X11_group_12_RX11 hown hK hP 0 rfl rfl 12 (by decide) (hts (.fieldLink RX11 78 "Regexloom" "bounds" "LRegexloom$Table;") (List.mem_of_getElem? (i := 1) rfl)) (fun _ h9 => h9) rfl dX11_group_21 ?_
  refine lv_iload_n hx hb dX11_group_24 rfl (lv_at hl 1 rfl) ?_
  refine lv_iload_n hx hb dX11_group_25 rfl (lv_at hl 2 rfl) ?_
  refine lv_if_eq (tgt := 33) hx hb dX11_group_26 (by decide) (fun _ => ?_) (fun c9 => absurd (by decide) c9)
  refine lv_iconst (v := 0) hx hb dX11_group_33 (by decide) ?_
  have hPc := hP.sub (ws' := [(h10, .inr (10, [.int 2, .int 7, .ref h14, .int 7])), (h14, .inl (g.2.1 0, 14, .inl f0))]) [1, 2] rfl
  have hDc := hD.sub (ws' := [(h10, .inr (10, [.int 2, .int 7, .ref h14, .int 7])), (h14, .inl (g.2.1 0, 14, .inl f0))]) [1, 2] (by decide) rfl
  have hFc := va_free (wc := [(h10, .inr (10, [.int 2, .int 7, .ref h14, .int 7])), (h14, .inl (g.2.1 0, 14, .inl f0))]) hD hS hA [1, 2] rfl
  refine va_calli (va_runV (As := [.int 0, .int 0]) (rest := []) ⟨hx, hb, hml, hown, hts⟩ (c9_X9_get_10 l g h10 h14 _ f0) (cwV 2 hts g9_X11_group_12_0 rfl rfl rfl (by decide +kernel) ⟨Nat.le_of_ble_eq_true rfl, Nat.le_of_ble_eq_true rfl⟩) (mPreV (g := g) (wc := [(h10, .inr (10, [.int 2, .int 7, .ref h14, .int 7])), (h14, .inl (g.2.1 0, 14, .inl f0))]) (C := RX9) (ci := 10) (q0 := 0) hE hS hPc hDc hFc rfl rfl) rfl rfl hl.1 rfl (lv_room (Nat.le_of_ble_eq_true rfl)) dX11_group_34 ⟨Nat.le_of_ble_eq_true rfl, Nat.le_of_ble_eq_true rfl⟩) hS (fun q _ h => hFc q h) hFc (fun r_1 u t H1 locs ht hvm hw hB hz1 hk1 hS => ?_)
  replace hw : (f0 0) = r_1 := Eq.symm hw
  subst hw
  obtain ⟨hP1, hD1⟩ := hB
  rw [ht] at hP1
  obtain ⟨hP, hD⟩ := va_join (wr := [(h0, .inr (12, [.ref h1, .int 0, .ref h2, .ref h3, .ref h4, .ref h5, .ref h6, .ref h7, .int (-1), .ref h8, .ref h9, .int 250, .ref h10, .int 0, .ref h11, .ref h12, .ref h13]))]) (w1 := [(h10, .inr (10, [.int 2, .int 7, .ref h14, .int 7])), (h14, .inl (g.2.1 0, 14, .inl f0))]) hP hD [1, 2] [0] rfl rfl (by decide) (by decide) hk1 hFc hP1 hD1
  clear hP1 hD1 hPc hDc hFc hk1 hz1 hvm ht
  generalize H1 = H at hP hS ⊢
  have hP : va_P g.1 vwCl [(h0, .inr (12, [.ref h1, .int 0, .ref h2, .ref h3, .ref h4, .ref h5, .ref h6, .ref h7, .int (-1), .ref h8, .ref h9, .int 250, .ref h10, .int 0, .ref h11, .ref h12, .ref h13])), (h10, .inr (10, [.int 2, .int 7, .ref h14, .int 7])), (h14, .inl (g.2.1 0, 14, .inl f0))] H := hP
  have hD : va_D A [(h0, .inr (12, [.ref h1, .int 0, .ref h2, .ref h3, .ref h4, .ref h5, .ref h6, .ref h7, .int (-1), .ref h8, .ref h9, .int 250, .ref h10, .int 0, .ref h11, .ref h12, .ref h13])), (h10, .inr (10, [.int 2, .int 7, .ref h14, .int 7])), (h14, .inl (g.2.1 0, 14, .inl f0))] := hD
  refine e_top (y := (f0 0)) (by rfl) ?_
  have hP9 := hP.sub (ws' := [(h0, .inr (12, [.ref h1, .int 0, .ref h2, .ref h3, .ref h4, .ref h5, .ref h6, .ref h7, .int (-1), .ref h8, .ref h9, .int 250, .ref h10, .int 0, .ref h11, .ref h12, .ref h13])), (h10, .inr (10, [.int 2, .int 7, .ref h14, .int 7])), (h14, .inl (g.2.1 0, 14, .inl f0))]) [0, 1, 2] rfl
  have hD9 := hD.sub (ws' := [(h0, .inr (12, [.ref h1, .int 0, .ref h2, .ref h3, .ref h4, .ref h5, .ref h6, .ref h7, .int (-1), .ref h8, .ref h9, .int 250, .ref h10, .int 0, .ref h11, .ref h12, .ref h13])), (h10, .inr (10, [.int 2, .int 7, .ref h14, .int 7])), (h14, .inl (g.2.1 0, 14, .inl f0))]) [0, 1, 2] (by decide) rfl
  subst hAe
  exact W.iret (v := (f0 0)) hx hb hr (fun t ht hW => ⟨⟨(f0 0), (), rfl, rfl, by rw [ht]; exact hP9, hD9⟩, hS.F ht⟩) hS.2.2 dX11_group_37
def w9_L_group_13 : List Cond := [.codeWith yL_group cL_group 5 (some .int) [(0, 10, 13, 21)], .methodLink RL 47 yX11_group, .instanceMethod yX11_group, .selects RX11 yX11_group yX11_group, .initialized RX11, .code yX11_group cX11_group 3 (some .int), .fieldLink RX11 78 "Regexloom" "bounds" "LRegexloom$Table;", .methodLink RX11 225 yX9_get, .instanceMethod yX9_get, .selects RX9 yX9_get yX9_get, .initialized RX9, .code yX9_get cX9_get 3 (some .int), .fieldLink RX9 28 "Regexloom$Table" "size" "I", .fieldLink RX9 9 "Regexloom$Table" "width" "I", .fieldLink RX9 24 "Regexloom$Table" "cells" "[I"] ++ (u_ws RX11 TX11 17 ++ u_ws RX9 TX9 4)
set_option maxRecDepth 20000 in
theorem in9_L_group_13_RX11 : ∀ w ∈ u_ws RX11 TX11 17, w ∈ w9_L_group_13 := by decide +kernel
set_option maxRecDepth 20000 in
theorem in9_L_group_13_RX9 : ∀ w ∈ u_ws RX9 TX9 4, w ∈ w9_L_group_13 := by decide +kernel
set_option maxRecDepth 20000 in
theorem g9_L_group_13_0 : GoodIn w9_L_group_13 (wsV RL 47 RX11 yX11_group w9_X11_group_12) := goodIn_r _ [1, 2, 3, 4, 5, 6, 7, 8, 9, 10, 11, 12, 13, 14, 15, 16, 17, 18, 19, 20, 21, 22, 23, 24, 25, 26, 27, 28, 29, 30, 31, 32, 33, 34, 35] (by decide +kernel) (by decide +kernel)
set_option maxHeartbeats 4000000 in
set_option maxRecDepth 100000 in
theorem c9_L_group_13 (l : Launch) (g : G9) (h0 h1 h2 h3 h4 h5 h6 h7 h8 h9 h10 h11 h12 h13 h14 h15 sz : Nat) : Met l yL_group w9_L_group_13 ({ frames := 2, cells := 0, slots := 0, locals := 44 }) (mP g [(h0, .inr (12, [.ref h2, .int 0, .ref h3, .ref h4, .ref h5, .ref h6, .ref h7, .ref h8, .int (-1), .ref h9, .ref h10, .int 250, .ref h11, .int 0, .ref h12, .ref h13, .ref h14])), (h11, .inr (10, [.int 2, .int 7, .ref h15, .int 7])), (h15, .inl (g.2.1 0, 14, .inl (upd (upd (upd (upd (upd (upd (upd (upd (upd (upd (upd (upd (upd (upd (fun _ => 0) 0 (-1)) 1 (-1)) 2 (-1)) 3 (-1)) 4 (-1)) 5 (-1)) 6 (-1)) 7 (-1)) 8 (-1)) 9 (-1)) 10 (-1)) 11 (-1)) 12 (-1)) 13 (-1)))), (h1, .inl (g.2.1 2, 1, .inr (.inl (fun _ => 0))))] sz [.ref h0, .int 0, .int 0, .ref h1]) (va_Qi (fun (r : Int32) (_ : Unit) => r = 0) (fun (_ : Unit) (t : State) => mB g [(h0, .inr (12, [.ref h2, .int 0, .ref h3, .ref h4, .ref h5, .ref h6, .ref h7, .ref h8, .int (-1), .ref h9, .ref h10, .int 250, .ref h11, .int 0, .ref h12, .ref h13, .ref h14])), (h11, .inr (10, [.int 2, .int 7, .ref h15, .int 7])), (h15, .inl (g.2.1 0, 14, .inl (upd (upd (upd (upd (upd (upd (upd (upd (upd (upd (upd (upd (upd (upd (fun _ => 0) 0 (-1)) 1 (-1)) 2 (-1)) 3 (-1)) 4 (-1)) 5 (-1)) 6 (-1)) 7 (-1)) 8 (-1)) 9 (-1)) 10 (-1)) 11 (-1)) 12 (-1)) 13 (-1)))), (h1, .inl (g.2.1 2, 1, .inr (.inl (fun _ => 0))))] sz [(h0, .inr (12, [.ref h2, .int 0, .ref h3, .ref h4, .ref h5, .ref h6, .ref h7, .ref h8, .int (-1), .ref h9, .ref h10, .int 250, .ref h11, .int 0, .ref h12, .ref h13, .ref h14])), (h11, .inr (10, [.int 2, .int 7, .ref h15, .int 7])), (h15, .inl (g.2.1 0, 14, .inl (upd (upd (upd (upd (upd (upd (upd (upd (upd (upd (upd (upd (upd (upd (fun _ => 0) 0 (-1)) 1 (-1)) 2 (-1)) 3 (-1)) 4 (-1)) 5 (-1)) 6 (-1)) 7 (-1)) 8 (-1)) 9 (-1)) 10 (-1)) 11 (-1)) 12 (-1)) 13 (-1)))), (h1, .inl (g.2.1 2, 1, .inr (.inl (vp_updL (fun _ => 0) 0 (-1)))))] t) (va_A [(h0, .inr (12, [.ref h2, .int 0, .ref h3, .ref h4, .ref h5, .ref h6, .ref h7, .ref h8, .int (-1), .ref h9, .ref h10, .int 250, .ref h11, .int 0, .ref h12, .ref h13, .ref h14])), (h11, .inr (10, [.int 2, .int 7, .ref h15, .int 7])), (h15, .inl (g.2.1 0, 14, .inl (upd (upd (upd (upd (upd (upd (upd (upd (upd (upd (upd (upd (upd (upd (fun _ => 0) 0 (-1)) 1 (-1)) 2 (-1)) 3 (-1)) 4 (-1)) 5 (-1)) 6 (-1)) 7 (-1)) 8 (-1)) 9 (-1)) 10 (-1)) 11 (-1)) 12 (-1)) 13 (-1)))), (h1, .inl (g.2.1 2, 1, .inr (.inl (fun _ => 0))))] sz)) 0 0 (va_A [(h0, .inr (12, [.ref h2, .int 0, .ref h3, .ref h4, .ref h5, .ref h6, .ref h7, .ref h8, .int (-1), .ref h9, .ref h10, .int 250, .ref h11, .int 0, .ref h12, .ref h13, .ref h14])), (h11, .inr (10, [.int 2, .int 7, .ref h15, .int 7])), (h15, .inl (g.2.1 0, 14, .inl (upd (upd (upd (upd (upd (upd (upd (upd (upd (upd (upd (upd (upd (upd (fun _ => 0) 0 (-1)) 1 (-1)) 2 (-1)) 3 (-1)) 4 (-1)) 5 (-1)) 6 (-1)) 7 (-1)) 8 (-1)) 9 (-1)) 10 (-1)) 11 (-1)) 12 (-1)) 13 (-1)))), (h1, .inl (g.2.1 2, 1, .inr (.inl (fun _ => 0))))] sz) := by
  refine va_MetW (cc := cL_group) (maxL := 5) (ret := (some .int)) (by decide) rfl ?_
  intro p e s m args below meth c s₁ B hml hv
  obtain ⟨rfl, hsz, hP, hD0, hE⟩ := hv
  have hx := B.exec
  have hb := B.bytes
  have hr := B.returns
  have hts := atoms_spec (ws := w9_L_group_13) B.pre
  have hown : s.vm.findClass RL = some m.cls := findClass_of_methodNamed B.named
  have hlocks := B.notSynchronized
  have htab := vx_table (x := yL_group) B (hts (.codeWith yL_group cL_group 5 (some .int) [(0, 10, 13, 21)]) (List.mem_of_getElem? (i := 0) rfl))
  subst hsz
  have hD := hD0.self (sz := s.heap.size)
  generalize hAe : va_A [(h0, .inr (12, [.ref h2, .int 0, .ref h3, .ref h4, .ref h5, .ref h6, .ref h7, .ref h8, .int (-1), .ref h9, .ref h10, .int 250, .ref h11, .int 0, .ref h12, .ref h13, .ref h14])), (h11, .inr (10, [.int 2, .int 7, .ref h15, .int 7])), (h15, .inl (g.2.1 0, 14, .inl (upd (upd (upd (upd (upd (upd (upd (upd (upd (upd (upd (upd (upd (upd (fun _ => 0) 0 (-1)) 1 (-1)) 2 (-1)) 3 (-1)) 4 (-1)) 5 (-1)) 6 (-1)) 7 (-1)) 8 (-1)) 9 (-1)) 10 (-1)) 11 (-1)) 12 (-1)) 13 (-1)))), (h1, .inl (g.2.1 2, 1, .inr (.inl (fun _ => 0))))] s.heap.size = A at hD hE ⊢
  have hA : ∀ q : Nat, s.heap.size ≤ q → A q := fun q h => by rw [← hAe]; exact Or.inr h
  have hK := hE.1
  have hS : va_S A s.heap s.heap [] := va_S.rf
  replace hP : va_P g.1 vwCl [(h0, .inr (12, [.ref h2, .int 0, .ref h3, .ref h4, .ref h5, .ref h6, .ref h7, .ref h8, .int (-1), .ref h9, .ref h10, .int 250, .ref h11, .int 0, .ref h12, .ref h13, .ref h14])), (h11, .inr (10, [.int 2, .int 7, .ref h15, .int 7])), (h15, .inl (g.2.1 0, 14, .inl (upd (upd (upd (upd (upd (upd (upd (upd (upd (upd (upd (upd (upd (upd (fun _ => 0) 0 (-1)) 1 (-1)) 2 (-1)) 3 (-1)) 4 (-1)) 5 (-1)) 6 (-1)) 7 (-1)) 8 (-1)) 9 (-1)) 10 (-1)) 11 (-1)) 12 (-1)) 13 (-1)))), (h1, .inl (g.2.1 2, 1, .inr (.inl (fun _ => 0))))] s.heap := hP
  have hl := lv_entry ([.ref h0, .int 0, .int 0, .ref h1]) (n := 5) (Nat.le_of_ble_eq_true rfl)
  rw [lg_entry_eq]
  generalize (lg_sl ([.ref h0, .int 0, .int 0, .ref h1]) ++ List.replicate (5 - (lg_sl ([.ref h0, .int 0, .int 0, .ref h1])).length) Slot.unset).toArray = ls at hl ⊢
  replace hl : lv_has ls 5 [(0, .ref h0), (1, .int 0), (2, .int 0), (3, .ref h1)] := hl
  have hH0 : s.heap.size ≤ s.heap.size := Nat.le_refl _
  refine lv_aload_n hx hb dL_group_0 rfl (lv_at hl 3 rfl) ?_
  refine lv_iconst (v := 0) hx hb dL_group_1 (by decide) ?_
  refine lv_aload_n hx hb dL_group_2 rfl (lv_at hl 0 rfl) ?_
  refine lv_iload_n hx hb dL_group_3 rfl (lv_at hl 1 rfl) ?_
  refine lv_iload_n hx hb dL_group_4 rfl (lv_at hl 2 rfl) ?_
  have hPc := hP.sub (ws' := [(h0, .inr (12, [.ref h2, .int 0, .ref h3, .ref h4, .ref h5, .ref h6, .ref h7, .ref h8, .int (-1), .ref h9, .ref h10, .int 250, .ref h11, .int 0, .ref h12, .ref h13, .ref h14])), (h11, .inr (10, [.int 2, .int 7, .ref h15, .int 7])), (h15, .inl (g.2.1 0, 14, .inl (upd (upd (upd (upd (upd (upd (upd (upd (upd (upd (upd (upd (upd (upd (fun _ => 0) 0 (-1)) 1 (-1)) 2 (-1)) 3 (-1)) 4 (-1)) 5 (-1)) 6 (-1)) 7 (-1)) 8 (-1)) 9 (-1)) 10 (-1)) 11 (-1)) 12 (-1)) 13 (-1))))]) [0, 1, 2] rfl
  have hDc := hD.sub (ws' := [(h0, .inr (12, [.ref h2, .int 0, .ref h3, .ref h4, .ref h5, .ref h6, .ref h7, .ref h8, .int (-1), .ref h9, .ref h10, .int 250, .ref h11, .int 0, .ref h12, .ref h13, .ref h14])), (h11, .inr (10, [.int 2, .int 7, .ref h15, .int 7])), (h15, .inl (g.2.1 0, 14, .inl (upd (upd (upd (upd (upd (upd (upd (upd (upd (upd (upd (upd (upd (upd (fun _ => 0) 0 (-1)) 1 (-1)) 2 (-1)) 3 (-1)) 4 (-1)) 5 (-1)) 6 (-1)) 7 (-1)) 8 (-1)) 9 (-1)) 10 (-1)) 11 (-1)) 12 (-1)) 13 (-1))))]) [0, 1, 2] (by decide) rfl
  have hFc := va_free (wc := [(h0, .inr (12, [.ref h2, .int 0, .ref h3, .ref h4, .ref h5, .ref h6, .ref h7, .ref h8, .int (-1), .ref h9, .ref h10, .int 250, .ref h11, .int 0, .ref h12, .ref h13, .ref h14])), (h11, .inr (10, [.int 2, .int 7, .ref h15, .int 7])), (h15, .inl (g.2.1 0, 14, .inl (upd (upd (upd (upd (upd (upd (upd (upd (upd (upd (upd (upd (upd (upd (fun _ => 0) 0 (-1)) 1 (-1)) 2 (-1)) 3 (-1)) 4 (-1)) 5 (-1)) 6 (-1)) 7 (-1)) 8 (-1)) 9 (-1)) 10 (-1)) 11 (-1)) 12 (-1)) 13 (-1))))]) hD hS hA [0, 1, 2] rfl
  refine va_calli (va_runV (As := [.int 0, .int 0]) (rest := [.int 0, .ref h1]) ⟨hx, hb, hml, hown, hts⟩ (c9_X11_group_12 l g h0 h2 h3 h4 h5 h6 h7 h8 h9 h10 h11 h12 h13 h14 h15 _ (upd (upd (upd (upd (upd (upd (upd (upd (upd (upd (upd (upd (upd (upd (fun _ => 0) 0 (-1)) 1 (-1)) 2 (-1)) 3 (-1)) 4 (-1)) 5 (-1)) 6 (-1)) 7 (-1)) 8 (-1)) 9 (-1)) 10 (-1)) 11 (-1)) 12 (-1)) 13 (-1))) (cwV 2 hts g9_L_group_13_0 rfl rfl rfl (by decide +kernel) ⟨Nat.le_of_ble_eq_true rfl, Nat.le_of_ble_eq_true rfl⟩) (mPreV (g := g) (wc := [(h0, .inr (12, [.ref h2, .int 0, .ref h3, .ref h4, .ref h5, .ref h6, .ref h7, .ref h8, .int (-1), .ref h9, .ref h10, .int 250, .ref h11, .int 0, .ref h12, .ref h13, .ref h14])), (h11, .inr (10, [.int 2, .int 7, .ref h15, .int 7])), (h15, .inl (g.2.1 0, 14, .inl (upd (upd (upd (upd (upd (upd (upd (upd (upd (upd (upd (upd (upd (upd (fun _ => 0) 0 (-1)) 1 (-1)) 2 (-1)) 3 (-1)) 4 (-1)) 5 (-1)) 6 (-1)) 7 (-1)) 8 (-1)) 9 (-1)) 10 (-1)) 11 (-1)) 12 (-1)) 13 (-1))))]) (C := RX11) (ci := 12) (q0 := 0) hE hS hPc hDc hFc rfl rfl) rfl rfl hl.1 rfl (lv_room (Nat.le_of_ble_eq_true rfl)) dL_group_5 ⟨Nat.le_of_ble_eq_true rfl, Nat.le_of_ble_eq_true rfl⟩) hS (fun q _ h => hFc q h) hFc (fun r_1 u t H1 locs ht hvm hw hB hz1 hk1 hS => ?_)
  replace hw : ((upd (upd (upd (upd (upd (upd (upd (upd (upd (upd (upd (upd (upd (upd (fun _ => 0) 0 (-1)) 1 (-1)) 2 (-1)) 3 (-1)) 4 (-1)) 5 (-1)) 6 (-1)) 7 (-1)) 8 (-1)) 9 (-1)) 10 (-1)) 11 (-1)) 12 (-1)) 13 (-1)) 0) = r_1 := Eq.symm hw
  subst hw
  obtain ⟨hP1, hD1⟩ := hB
  rw [ht] at hP1
  obtain ⟨hP, hD⟩ := va_join (wr := [(h1, .inl (g.2.1 2, 1, .inr (.inl (fun _ => 0))))]) (w1 := [(h0, .inr (12, [.ref h2, .int 0, .ref h3, .ref h4, .ref h5, .ref h6, .ref h7, .ref h8, .int (-1), .ref h9, .ref h10, .int 250, .ref h11, .int 0, .ref h12, .ref h13, .ref h14])), (h11, .inr (10, [.int 2, .int 7, .ref h15, .int 7])), (h15, .inl (g.2.1 0, 14, .inl (upd (upd (upd (upd (upd (upd (upd (upd (upd (upd (upd (upd (upd (upd (fun _ => 0) 0 (-1)) 1 (-1)) 2 (-1)) 3 (-1)) 4 (-1)) 5 (-1)) 6 (-1)) 7 (-1)) 8 (-1)) 9 (-1)) 10 (-1)) 11 (-1)) 12 (-1)) 13 (-1))))]) hP hD [0, 1, 2] [3] rfl rfl (by decide) (by decide) hk1 hFc hP1 hD1
  clear hP1 hD1 hPc hDc hFc hk1 hz1 hvm ht
  generalize H1 = H at hP hS ⊢
  have hP : va_P g.1 vwCl [(h1, .inl (g.2.1 2, 1, .inr (.inl (fun _ => 0)))), (h0, .inr (12, [.ref h2, .int 0, .ref h3, .ref h4, .ref h5, .ref h6, .ref h7, .ref h8, .int (-1), .ref h9, .ref h10, .int 250, .ref h11, .int 0, .ref h12, .ref h13, .ref h14])), (h11, .inr (10, [.int 2, .int 7, .ref h15, .int 7])), (h15, .inl (g.2.1 0, 14, .inl (upd (upd (upd (upd (upd (upd (upd (upd (upd (upd (upd (upd (upd (upd (fun _ => 0) 0 (-1)) 1 (-1)) 2 (-1)) 3 (-1)) 4 (-1)) 5 (-1)) 6 (-1)) 7 (-1)) 8 (-1)) 9 (-1)) 10 (-1)) 11 (-1)) 12 (-1)) 13 (-1))))] H := hP
  have hD : va_D A [(h1, .inl (g.2.1 2, 1, .inr (.inl (fun _ => 0)))), (h0, .inr (12, [.ref h2, .int 0, .ref h3, .ref h4, .ref h5, .ref h6, .ref h7, .ref h8, .int (-1), .ref h9, .ref h10, .int 250, .ref h11, .int 0, .ref h12, .ref h13, .ref h14])), (h11, .inr (10, [.int 2, .int 7, .ref h15, .int 7])), (h15, .inl (g.2.1 0, 14, .inl (upd (upd (upd (upd (upd (upd (upd (upd (upd (upd (upd (upd (upd (upd (fun _ => 0) 0 (-1)) 1 (-1)) 2 (-1)) 3 (-1)) 4 (-1)) 5 (-1)) 6 (-1)) 7 (-1)) 8 (-1)) 9 (-1)) 10 (-1)) 11 (-1)) 12 (-1)) 13 (-1))))] := hD
  refine e_top (y := (-1)) (by rfl) ?_
  refine lv_i2l (v := (-1)) hx hb dL_group_8 (by decide) ?_
  refine va_last hx hb hK hP hD hS 0 2 rfl rfl (vp_in_nI (n := 0) (by decide) (by decide)) dL_group_9 (fun H locs hP hD hS => ?_)
  have hP : va_P g.1 vwCl [(h1, .inl (g.2.1 2, 1, .inr (.inl (vp_updL (fun _ => 0) 0 (-1))))), (h0, .inr (12, [.ref h2, .int 0, .ref h3, .ref h4, .ref h5, .ref h6, .ref h7, .ref h8, .int (-1), .ref h9, .ref h10, .int 250, .ref h11, .int 0, .ref h12, .ref h13, .ref h14])), (h11, .inr (10, [.int 2, .int 7, .ref h15, .int 7])), (h15, .inl (g.2.1 0, 14, .inl (upd (upd (upd (upd (upd (upd (upd (upd (upd (upd (upd (upd (upd (upd (fun _ => 0) 0 (-1)) 1 (-1)) 2 (-1)) 3 (-1)) 4 (-1)) 5 (-1)) 6 (-1)) 7 (-1)) 8 (-1)) 9 (-1)) 10 (-1)) 11 (-1)) 12 (-1)) 13 (-1))))] H := hP
  have hD : va_D A [(h1, .inl (g.2.1 2, 1, .inr (.inl (vp_updL (fun _ => 0) 0 (-1))))), (h0, .inr (12, [.ref h2, .int 0, .ref h3, .ref h4, .ref h5, .ref h6, .ref h7, .ref h8, .int (-1), .ref h9, .ref h10, .int 250, .ref h11, .int 0, .ref h12, .ref h13, .ref h14])), (h11, .inr (10, [.int 2, .int 7, .ref h15, .int 7])), (h15, .inl (g.2.1 0, 14, .inl (upd (upd (upd (upd (upd (upd (upd (upd (upd (upd (upd (upd (upd (upd (fun _ => 0) 0 (-1)) 1 (-1)) 2 (-1)) 3 (-1)) 4 (-1)) 5 (-1)) 6 (-1)) 7 (-1)) 8 (-1)) 9 (-1)) 10 (-1)) 11 (-1)) 12 (-1)) 13 (-1))))] := hD
  refine lv_goto (tgt := 17) hx hb dL_group_10 (by decide) ?_
  refine lv_iconst (v := 0) hx hb dL_group_17 (by decide) ?_
  have hP9 := hP.sub (ws' := [(h0, .inr (12, [.ref h2, .int 0, .ref h3, .ref h4, .ref h5, .ref h6, .ref h7, .ref h8, .int (-1), .ref h9, .ref h10, .int 250, .ref h11, .int 0, .ref h12, .ref h13, .ref h14])), (h11, .inr (10, [.int 2, .int 7, .ref h15, .int 7])), (h15, .inl (g.2.1 0, 14, .inl (upd (upd (upd (upd (upd (upd (upd (upd (upd (upd (upd (upd (upd (upd (fun _ => 0) 0 (-1)) 1 (-1)) 2 (-1)) 3 (-1)) 4 (-1)) 5 (-1)) 6 (-1)) 7 (-1)) 8 (-1)) 9 (-1)) 10 (-1)) 11 (-1)) 12 (-1)) 13 (-1)))), (h1, .inl (g.2.1 2, 1, .inr (.inl (vp_updL (fun _ => 0) 0 (-1)))))]) [1, 2, 3, 0] rfl
  have hD9 := hD.sub (ws' := [(h0, .inr (12, [.ref h2, .int 0, .ref h3, .ref h4, .ref h5, .ref h6, .ref h7, .ref h8, .int (-1), .ref h9, .ref h10, .int 250, .ref h11, .int 0, .ref h12, .ref h13, .ref h14])), (h11, .inr (10, [.int 2, .int 7, .ref h15, .int 7])), (h15, .inl (g.2.1 0, 14, .inl (upd (upd (upd (upd (upd (upd (upd (upd (upd (upd (upd (upd (upd (upd (fun _ => 0) 0 (-1)) 1 (-1)) 2 (-1)) 3 (-1)) 4 (-1)) 5 (-1)) 6 (-1)) 7 (-1)) 8 (-1)) 9 (-1)) 10 (-1)) 11 (-1)) 12 (-1)) 13 (-1)))), (h1, .inl (g.2.1 2, 1, .inr (.inl (vp_updL (fun _ => 0) 0 (-1)))))]) [1, 2, 3, 0] (by decide) rfl
  subst hAe
  exact W.iret (v := 0) hx hb hr (fun t ht hW => ⟨⟨0, (), rfl, rfl, by rw [ht]; exact hP9, hD9⟩, hS.F ht⟩) hS.2.2 dL_group_18
def w9_X21_group_12 : List Cond := [.code yX21_group cX21_group 3 (some .int), .methodLink RX21 160 yX21_in, .static yX21_in, .initialized RX21, .code yX21_in cX21_in 3 (some .boolean), .methodLink RX21 154 yX21_refused, .instanceMethod yX21_refused, .selects RX21 yX21_refused yX21_refused, .code yX21_refused cX21_refused 2 (some .boolean), .fieldLink RX21 144 "RegexloomModel" "refusal" "I", .fieldLink RX21 107 "RegexloomModel" "told" "[I"] ++ (u_ws RX21 TX21 32)
set_option maxRecDepth 20000 in
theorem in9_X21_group_12_RX21 : ∀ w ∈ u_ws RX21 TX21 32, w ∈ w9_X21_group_12 := by decide +kernel
set_option maxRecDepth 20000 in
theorem g9_X21_group_12_0 : GoodIn w9_X21_group_12 (va_wsS RX21 160 yX21_in w9_X21_in_16) := goodIn_r _ [1, 2, 3, 4] (by decide +kernel) (by decide +kernel)
set_option maxRecDepth 20000 in
theorem g9_X21_group_12_1 : GoodIn w9_X21_group_12 (wsV RX21 154 RX21 yX21_refused w9_X21_refused_1) := goodIn_r _ [5, 6, 7, 3, 8, 9, 11, 12, 13, 14, 15, 16, 17, 18, 19, 20, 21, 22, 23, 24, 25, 26, 27, 28, 29, 30, 31, 32, 33, 34, 35, 36, 37, 38, 39, 40, 41, 42] (by decide +kernel) (by decide +kernel)
set_option maxHeartbeats 4000000 in
set_option maxRecDepth 100000 in
theorem c9_X21_group_12 (l : Launch) (g : G9) (h0 h1 h2 h3 h4 h5 h6 h7 h8 h9 h10 h11 h12 h13 h14 h15 h16 sz : Nat) (f0 : Nat → Int32) : Met l yX21_group w9_X21_group_12 ({ frames := 1, cells := 0, slots := 0, locals := 22 }) (mP g [(h0, .inr (22, [.int 0, .ref h1, .int 0, .ref h2, .int 0, .ref h3, .int 250, .ref h4, .int 0, .ref h5, .ref h6, .ref h7, .int 0, .ref h8, .ref h9, .ref h10, .int 0, .null, .int 0, .null, .int 0, .int 0, .int 0, .ref h11, .int 0, .ref h12, .ref h13, .ref h14, .int 0, .ref h15, .ref h16, .int 0])), (h7, .inl (g.2.1 0, 14, .inl f0))] sz [.ref h0, .int 0, .int 0]) (va_Qi (fun (r : Int32) (_ : Unit) => r = (f0 0)) (fun (_ : Unit) (t : State) => mB g [(h0, .inr (22, [.int 0, .ref h1, .int 0, .ref h2, .int 0, .ref h3, .int 250, .ref h4, .int 0, .ref h5, .ref h6, .ref h7, .int 0, .ref h8, .ref h9, .ref h10, .int 0, .null, .int 0, .null, .int 0, .int 0, .int 0, .ref h11, .int 0, .ref h12, .ref h13, .ref h14, .int 0, .ref h15, .ref h16, .int 0])), (h7, .inl (g.2.1 0, 14, .inl f0))] sz [(h0, .inr (22, [.int 0, .ref h1, .int 0, .ref h2, .int 0, .ref h3, .int 250, .ref h4, .int 0, .ref h5, .ref h6, .ref h7, .int 0, .ref h8, .ref h9, .ref h10, .int 0, .null, .int 0, .null, .int 0, .int 0, .int 0, .ref h11, .int 0, .ref h12, .ref h13, .ref h14, .int 0, .ref h15, .ref h16, .int 0])), (h7, .inl (g.2.1 0, 14, .inl f0))] t) (va_A [(h0, .inr (22, [.int 0, .ref h1, .int 0, .ref h2, .int 0, .ref h3, .int 250, .ref h4, .int 0, .ref h5, .ref h6, .ref h7, .int 0, .ref h8, .ref h9, .ref h10, .int 0, .null, .int 0, .null, .int 0, .int 0, .int 0, .ref h11, .int 0, .ref h12, .ref h13, .ref h14, .int 0, .ref h15, .ref h16, .int 0])), (h7, .inl (g.2.1 0, 14, .inl f0))] sz)) 0 0 (va_A [(h0, .inr (22, [.int 0, .ref h1, .int 0, .ref h2, .int 0, .ref h3, .int 250, .ref h4, .int 0, .ref h5, .ref h6, .ref h7, .int 0, .ref h8, .ref h9, .ref h10, .int 0, .null, .int 0, .null, .int 0, .int 0, .int 0, .ref h11, .int 0, .ref h12, .ref h13, .ref h14, .int 0, .ref h15, .ref h16, .int 0])), (h7, .inl (g.2.1 0, 14, .inl f0))] sz) := by
  refine Met.ofW (cc := cX21_group) (maxL := 3) (ret := (some .int)) (by decide) rfl ?_
  intro p e s m args below meth c s₁ B hml hv
  obtain ⟨rfl, hsz, hP, hD0, hE⟩ := hv
  have hx := B.exec
  have hb := B.bytes
  have hr := B.returns
  have hts := atoms_spec (ws := w9_X21_group_12) B.pre
  have hown : s.vm.findClass RX21 = some m.cls := findClass_of_methodNamed B.named
  have hlocks := B.notSynchronized
  subst hsz
  have hD := hD0.self (sz := s.heap.size)
  generalize hAe : va_A [(h0, .inr (22, [.int 0, .ref h1, .int 0, .ref h2, .int 0, .ref h3, .int 250, .ref h4, .int 0, .ref h5, .ref h6, .ref h7, .int 0, .ref h8, .ref h9, .ref h10, .int 0, .null, .int 0, .null, .int 0, .int 0, .int 0, .ref h11, .int 0, .ref h12, .ref h13, .ref h14, .int 0, .ref h15, .ref h16, .int 0])), (h7, .inl (g.2.1 0, 14, .inl f0))] s.heap.size = A at hD hE ⊢
  have hA : ∀ q : Nat, s.heap.size ≤ q → A q := fun q h => by rw [← hAe]; exact Or.inr h
  have hK := hE.1
  have hS : va_S A s.heap s.heap [] := va_S.rf
  replace hP : va_P g.1 vwCl [(h0, .inr (22, [.int 0, .ref h1, .int 0, .ref h2, .int 0, .ref h3, .int 250, .ref h4, .int 0, .ref h5, .ref h6, .ref h7, .int 0, .ref h8, .ref h9, .ref h10, .int 0, .null, .int 0, .null, .int 0, .int 0, .int 0, .ref h11, .int 0, .ref h12, .ref h13, .ref h14, .int 0, .ref h15, .ref h16, .int 0])), (h7, .inl (g.2.1 0, 14, .inl f0))] s.heap := hP
  have hl := lv_entry ([.ref h0, .int 0, .int 0]) (n := 3) (Nat.le_of_ble_eq_true rfl)
  rw [lg_entry_eq]
  generalize (lg_sl ([.ref h0, .int 0, .int 0]) ++ List.replicate (3 - (lg_sl ([.ref h0, .int 0, .int 0])).length) Slot.unset).toArray = ls at hl ⊢
  replace hl : lv_has ls 3 [(0, .ref h0), (1, .int 0), (2, .int 0)] := hl
  have hH0 : s.heap.size ≤ s.heap.size := Nat.le_refl _
  refine lv_aload_n hx hb dX21_group_0 rfl (lv_at hl 0 rfl) ?_
  refine lv_iload_n hx hb dX21_group_1 rfl (lv_at hl 1 rfl) ?_
  refine lv_iconst (v := 0) hx hb dX21_group_2 (by decide) ?_
  refine lv_bipush (v := 6) hx hb dX21_group_3 (by decide) ?_
  have hPc := hP.sub (ws' := []) [] rfl
  have hDc := hD.sub (ws' := []) [] (by decide) rfl
  have hFc := va_free (wc := []) hD hS hA [] rfl
  refine va_calli (va_runS (As := [.int 0, .int 0, .int 6]) (rest := [.ref h0]) ⟨hx, hb, hml, hown, hts⟩ (c9_X21_in_16 l g _) (va_cwS 3 hts g9_X21_group_12_0 rfl rfl rfl (by decide +kernel) ⟨Nat.le_of_ble_eq_true rfl, Nat.le_of_ble_eq_true rfl⟩) (mPreS (g := g) (wc := []) hE hS hPc hDc hFc) rfl rfl hl.1 rfl (lv_room (Nat.le_of_ble_eq_true rfl)) dX21_group_5 ⟨Nat.le_of_ble_eq_true rfl, Nat.le_of_ble_eq_true rfl⟩) hS (fun q _ h => hFc q h) hFc (fun r_1 u t H1 locs ht hvm hw hB hz1 hk1 hS => ?_)
  replace hw : 1 = r_1 := Eq.symm hw
  subst hw
  obtain ⟨hP1, hD1⟩ := hB
  rw [ht] at hP1
  obtain ⟨hP, hD⟩ := va_join (wr := [(h0, .inr (22, [.int 0, .ref h1, .int 0, .ref h2, .int 0, .ref h3, .int 250, .ref h4, .int 0, .ref h5, .ref h6, .ref h7, .int 0, .ref h8, .ref h9, .ref h10, .int 0, .null, .int 0, .null, .int 0, .int 0, .int 0, .ref h11, .int 0, .ref h12, .ref h13, .ref h14, .int 0, .ref h15, .ref h16, .int 0])), (h7, .inl (g.2.1 0, 14, .inl f0))]) (w1 := []) hP hD [] [0, 1] rfl rfl (by decide) (by decide) hk1 hFc hP1 hD1
  clear hP1 hD1 hPc hDc hFc hk1 hz1 hvm ht
  generalize H1 = H at hP hS ⊢
  have hP : va_P g.1 vwCl [(h0, .inr (22, [.int 0, .ref h1, .int 0, .ref h2, .int 0, .ref h3, .int 250, .ref h4, .int 0, .ref h5, .ref h6, .ref h7, .int 0, .ref h8, .ref h9, .ref h10, .int 0, .null, .int 0, .null, .int 0, .int 0, .int 0, .ref h11, .int 0, .ref h12, .ref h13, .ref h14, .int 0, .ref h15, .ref h16, .int 0])), (h7, .inl (g.2.1 0, 14, .inl f0))] H := hP
  have hD : va_D A [(h0, .inr (22, [.int 0, .ref h1, .int 0, .ref h2, .int 0, .ref h3, .int 250, .ref h4, .int 0, .ref h5, .ref h6, .ref h7, .int 0, .ref h8, .ref h9, .ref h10, .int 0, .null, .int 0, .null, .int 0, .int 0, .int 0, .ref h11, .int 0, .ref h12, .ref h13, .ref h14, .int 0, .ref h15, .ref h16, .int 0])), (h7, .inl (g.2.1 0, 14, .inl f0))] := hD
  refine lv_if_eq (tgt := 15) hx hb dX21_group_8 (by decide) (fun c9 => absurd c9 (by decide)) (fun _ => ?_)
  refine lv_iconst (v := 0) hx hb dX21_group_11 (by decide) ?_
  refine lv_goto (tgt := 16) hx hb dX21_group_12 (by decide) ?_
  have hPc := hP.sub (ws' := [(h0, .inr (22, [.int 0, .ref h1, .int 0, .ref h2, .int 0, .ref h3, .int 250, .ref h4, .int 0, .ref h5, .ref h6, .ref h7, .int 0, .ref h8, .ref h9, .ref h10, .int 0, .null, .int 0, .null, .int 0, .int 0, .int 0, .ref h11, .int 0, .ref h12, .ref h13, .ref h14, .int 0, .ref h15, .ref h16, .int 0]))]) [0] rfl
  have hDc := hD.sub (ws' := [(h0, .inr (22, [.int 0, .ref h1, .int 0, .ref h2, .int 0, .ref h3, .int 250, .ref h4, .int 0, .ref h5, .ref h6, .ref h7, .int 0, .ref h8, .ref h9, .ref h10, .int 0, .null, .int 0, .null, .int 0, .int 0, .int 0, .ref h11, .int 0, .ref h12, .ref h13, .ref h14, .int 0, .ref h15, .ref h16, .int 0]))]) [0] (by decide) rfl
  have hFc := va_free (wc := [(h0, .inr (22, [.int 0, .ref h1, .int 0, .ref h2, .int 0, .ref h3, .int 250, .ref h4, .int 0, .ref h5, .ref h6, .ref h7, .int 0, .ref h8, .ref h9, .ref h10, .int 0, .null, .int 0, .null, .int 0, .int 0, .int 0, .ref h11, .int 0, .ref h12, .ref h13, .ref h14, .int 0, .ref h15, .ref h16, .int 0]))]) hD hS hA [0] rfl
  refine va_calli (va_runV (As := [.int 0]) (rest := []) ⟨hx, hb, hml, hown, hts⟩ (c9_X21_refused_1 l g h0 h1 h2 h3 h4 h5 h6 h7 h8 h9 h10 h11 h12 h13 h14 h15 h16 _) (cwV 1 hts g9_X21_group_12_1 rfl rfl rfl (by decide +kernel) ⟨Nat.le_of_ble_eq_true rfl, Nat.le_of_ble_eq_true rfl⟩) (mPreV (g := g) (wc := [(h0, .inr (22, [.int 0, .ref h1, .int 0, .ref h2, .int 0, .ref h3, .int 250, .ref h4, .int 0, .ref h5, .ref h6, .ref h7, .int 0, .ref h8, .ref h9, .ref h10, .int 0, .null, .int 0, .null, .int 0, .int 0, .int 0, .ref h11, .int 0, .ref h12, .ref h13, .ref h14, .int 0, .ref h15, .ref h16, .int 0]))]) (C := RX21) (ci := 22) (q0 := 0) hE hS hPc hDc hFc rfl rfl) rfl rfl hl.1 rfl (lv_room (Nat.le_of_ble_eq_true rfl)) dX21_group_16 ⟨Nat.le_of_ble_eq_true rfl, Nat.le_of_ble_eq_true rfl⟩) hS (fun q _ h => hFc q h) hFc (fun r_2 u t H1 locs ht hvm hw hB hz1 hk1 hS => ?_)
  replace hw : 0 = r_2 := Eq.symm hw
  subst hw
  obtain ⟨hP1, hD1⟩ := hB
  rw [ht] at hP1
  obtain ⟨hP, hD⟩ := va_join (wr := [(h7, .inl (g.2.1 0, 14, .inl f0))]) (w1 := [(h0, .inr (22, [.int 0, .ref h1, .int 0, .ref h2, .int 0, .ref h3, .int 250, .ref h4, .int 0, .ref h5, .ref h6, .ref h7, .int 0, .ref h8, .ref h9, .ref h10, .int 0, .null, .int 0, .null, .int 0, .int 0, .int 0, .ref h11, .int 0, .ref h12, .ref h13, .ref h14, .int 0, .ref h15, .ref h16, .int 0]))]) hP hD [0] [1] rfl rfl (by decide) (by decide) hk1 hFc hP1 hD1
  clear hP1 hD1 hPc hDc hFc hk1 hz1 hvm ht
  generalize H1 = H at hP hS ⊢
  have hP : va_P g.1 vwCl [(h7, .inl (g.2.1 0, 14, .inl f0)), (h0, .inr (22, [.int 0, .ref h1, .int 0, .ref h2, .int 0, .ref h3, .int 250, .ref h4, .int 0, .ref h5, .ref h6, .ref h7, .int 0, .ref h8, .ref h9, .ref h10, .int 0, .null, .int 0, .null, .int 0, .int 0, .int 0, .ref h11, .int 0, .ref h12, .ref h13, .ref h14, .int 0, .ref h15, .ref h16, .int 0]))] H := hP
  have hD : va_D A [(h7, .inl (g.2.1 0, 14, .inl f0)), (h0, .inr (22, [.int 0, .ref h1, .int 0, .ref h2, .int 0, .ref h3, .int 250, .ref h4, .int 0, .ref h5, .ref h6, .ref h7, .int 0, .ref h8, .ref h9, .ref h10, .int 0, .null, .int 0, .null, .int 0, .int 0, .int 0, .ref h11, .int 0, .ref h12, .ref h13, .ref h14, .int 0, .ref h15, .ref h16, .int 0]))] := hD
  refine lv_if_eq (tgt := 26) hx hb dX21_group_19 (by decide) (fun _ => ?_) (fun c9 => absurd (by decide) c9)
  refine lv_aload_n hx hb dX21_group_26 rfl (lv_at hl 0 rfl) ?_
  refine va_get (D := g.1) (ci := 22) (v := .ref h7) (C := RX21) (T := TX21) (N := 32) hx hb hts in9_X21_group_12_RX21 hown hK hP 1 rfl rfl 11 (by decide) (hts (.fieldLink RX21 107 "RegexloomModel" "told" "[I") (List.mem_of_getElem? (i := 10) rfl)) (fun _ h9 => h9) rfl dX21_group_27 ?_
  refine lv_iconst (v := 2) hx hb dX21_group_30 (by decide) ?_
  refine lv_iload_n hx hb dX21_group_31 rfl (lv_at hl 1 rfl) ?_
  refine lv_imul hx hb dX21_group_32 ?_
  refine e_top (y := 0) (by decide) ?_
  refine lv_iload_n hx hb dX21_group_33 rfl (lv_at hl 2 rfl) ?_
  refine lv_if_eq (tgt := 41) hx hb dX21_group_34 (by decide) (fun _ => ?_) (fun c9 => absurd (by decide) c9)
  refine lv_iconst (v := 0) hx hb dX21_group_41 (by decide) ?_
  refine lv_iadd hx hb dX21_group_42 ?_
  refine e_top (y := 0) (by decide) ?_
  refine va_iald hx hb hK hP 0 0 rfl rfl (vp_in_nI (n := 0) (by decide) (by decide)) dX21_group_43 ?_
  refine e_topv (y := .int (f0 0)) (by rfl) ?_
  have hP9 := hP.sub (ws' := [(h0, .inr (22, [.int 0, .ref h1, .int 0, .ref h2, .int 0, .ref h3, .int 250, .ref h4, .int 0, .ref h5, .ref h6, .ref h7, .int 0, .ref h8, .ref h9, .ref h10, .int 0, .null, .int 0, .null, .int 0, .int 0, .int 0, .ref h11, .int 0, .ref h12, .ref h13, .ref h14, .int 0, .ref h15, .ref h16, .int 0])), (h7, .inl (g.2.1 0, 14, .inl f0))]) [1, 0] rfl
  have hD9 := hD.sub (ws' := [(h0, .inr (22, [.int 0, .ref h1, .int 0, .ref h2, .int 0, .ref h3, .int 250, .ref h4, .int 0, .ref h5, .ref h6, .ref h7, .int 0, .ref h8, .ref h9, .ref h10, .int 0, .null, .int 0, .null, .int 0, .int 0, .int 0, .ref h11, .int 0, .ref h12, .ref h13, .ref h14, .int 0, .ref h15, .ref h16, .int 0])), (h7, .inl (g.2.1 0, 14, .inl f0))]) [1, 0] (by decide) rfl
  subst hAe
  exact W.iret (v := (f0 0)) hx hb hr (fun t ht hW => ⟨⟨(f0 0), (), rfl, rfl, by rw [ht]; exact hP9, hD9⟩, hS.F ht⟩) hS.2.2 dX21_group_44
def w9_X9_get_11 : List Cond := [.code yX9_get cX9_get 3 (some .int), .fieldLink RX9 28 "Regexloom$Table" "size" "I", .fieldLink RX9 9 "Regexloom$Table" "width" "I", .fieldLink RX9 24 "Regexloom$Table" "cells" "[I"] ++ (u_ws RX9 TX9 4)
set_option maxRecDepth 20000 in
theorem in9_X9_get_11_RX9 : ∀ w ∈ u_ws RX9 TX9 4, w ∈ w9_X9_get_11 := by decide +kernel
set_option maxHeartbeats 4000000 in
set_option maxRecDepth 100000 in
theorem c9_X9_get_11 (l : Launch) (g : G9) (h0 h1 sz : Nat) (f0 : Nat → Int32) : Met l yX9_get w9_X9_get_11 ({ frames := 0, cells := 0, slots := 0, locals := 0 }) (mP g [(h0, .inr (10, [.int 2, .int 7, .ref h1, .int 7])), (h1, .inl (g.2.1 0, 14, .inl f0))] sz [.ref h0, .int 1, .int 0]) (va_Qi (fun (r : Int32) (_ : Unit) => r = (f0 2)) (fun (_ : Unit) (t : State) => mB g [(h0, .inr (10, [.int 2, .int 7, .ref h1, .int 7])), (h1, .inl (g.2.1 0, 14, .inl f0))] sz [(h0, .inr (10, [.int 2, .int 7, .ref h1, .int 7])), (h1, .inl (g.2.1 0, 14, .inl f0))] t) (va_A [(h0, .inr (10, [.int 2, .int 7, .ref h1, .int 7])), (h1, .inl (g.2.1 0, 14, .inl f0))] sz)) 0 0 (va_A [(h0, .inr (10, [.int 2, .int 7, .ref h1, .int 7])), (h1, .inl (g.2.1 0, 14, .inl f0))] sz) := by
  refine Met.ofW (cc := cX9_get) (maxL := 3) (ret := (some .int)) (by decide) rfl ?_
  intro p e s m args below meth c s₁ B hml hv
  obtain ⟨rfl, hsz, hP, hD0, hE⟩ := hv
  have hx := B.exec
  have hb := B.bytes
  have hr := B.returns
  have hts := atoms_spec (ws := w9_X9_get_11) B.pre
  have hown : s.vm.findClass RX9 = some m.cls := findClass_of_methodNamed B.named
  have hlocks := B.notSynchronized
  subst hsz
  have hD := hD0.self (sz := s.heap.size)
  generalize hAe : va_A [(h0, .inr (10, [.int 2, .int 7, .ref h1, .int 7])), (h1, .inl (g.2.1 0, 14, .inl f0))] s.heap.size = A at hD hE ⊢
  have hA : ∀ q : Nat, s.heap.size ≤ q → A q := fun q h => by rw [← hAe]; exact Or.inr h
  have hK := hE.1
  have hS : va_S A s.heap s.heap [] := va_S.rf
  replace hP : va_P g.1 vwCl [(h0, .inr (10, [.int 2, .int 7, .ref h1, .int 7])), (h1, .inl (g.2.1 0, 14, .inl f0))] s.heap := hP
  have hl := lv_entry ([.ref h0, .int 1, .int 0]) (n := 3) (Nat.le_of_ble_eq_true rfl)
  rw [lg_entry_eq]
  generalize (lg_sl ([.ref h0, .int 1, .int 0]) ++ List.replicate (3 - (lg_sl ([.ref h0, .int 1, .int 0])).length) Slot.unset).toArray = ls at hl ⊢
  replace hl : lv_has ls 3 [(0, .ref h0), (1, .int 1), (2, .int 0)] := hl
  have hH0 : s.heap.size ≤ s.heap.size := Nat.le_refl _
  refine lv_iload_n hx hb dX9_get_0 rfl (lv_at hl 1 rfl) ?_
  refine lv_if_lt (tgt := 24) hx hb dX9_get_1 (by decide) (fun c9 => absurd c9 (by decide)) (fun _ => ?_)
  refine lv_iload_n hx hb dX9_get_4 rfl (lv_at hl 1 rfl) ?_
  refine lv_aload_n hx hb dX9_get_5 rfl (lv_at hl 0 rfl) ?_
  refine va_get (D := g.1) (ci := 10) (v := .int 7) (C := RX9) (T := TX9) (N := 4) hx hb hts in9_X9_get_11_RX9 hown hK hP 0 rfl rfl 3 (by decide) (hts (.fieldLink RX9 28 "Regexloom$Table" "size" "I") (List.mem_of_getElem? (i := 1) rfl)) (fun _ h9 => h9) rfl dX9_get_6 ?_
  refine lv_icmp_ge (tgt := 24) hx hb dX9_get_9 (by decide) (fun c9 => absurd c9 (by decide)) (fun _ => ?_)
  refine lv_iload_n hx hb dX9_get_12 rfl (lv_at hl 2 rfl) ?_
  refine lv_if_lt (tgt := 24) hx hb dX9_get_13 (by decide) (fun c9 => absurd c9 (by decide)) (fun _ => ?_)
  refine lv_iload_n hx hb dX9_get_16 rfl (lv_at hl 2 rfl) ?_
  refine lv_aload_n hx hb dX9_get_17 rfl (lv_at hl 0 rfl) ?_
  refine va_get (D := g.1) (ci := 10) (v := .int 2) (C := RX9) (T := TX9) (N := 4) hx hb hts in9_X9_get_11_RX9 hown hK hP 0 rfl rfl 0 (by decide) (hts (.fieldLink RX9 9 "Regexloom$Table" "width" "I") (List.mem_of_getElem? (i := 2) rfl)) (fun _ h9 => h9) rfl dX9_get_18 ?_
  refine lv_icmp_lt (tgt := 26) hx hb dX9_get_21 (by decide) (fun _ => ?_) (fun c9 => absurd (by decide) c9)
  refine lv_aload_n hx hb dX9_get_26 rfl (lv_at hl 0 rfl) ?_
  refine va_get (D := g.1) (ci := 10) (v := .ref h1) (C := RX9) (T := TX9) (N := 4) hx hb hts in9_X9_get_11_RX9 hown hK hP 0 rfl rfl 2 (by decide) (hts (.fieldLink RX9 24 "Regexloom$Table" "cells" "[I") (List.mem_of_getElem? (i := 3) rfl)) (fun _ h9 => h9) rfl dX9_get_27 ?_
  refine lv_iload_n hx hb dX9_get_30 rfl (lv_at hl 1 rfl) ?_
  refine lv_aload_n hx hb dX9_get_31 rfl (lv_at hl 0 rfl) ?_
  refine va_get (D := g.1) (ci := 10) (v := .int 2) (C := RX9) (T := TX9) (N := 4) hx hb hts in9_X9_get_11_RX9 hown hK hP 0 rfl rfl 0 (by decide) (hts (.fieldLink RX9 9 "Regexloom$Table" "width" "I") (List.mem_of_getElem? (i := 2) rfl)) (fun _ h9 => h9) rfl dX9_get_32 ?_
  refine lv_imul hx hb dX9_get_35 ?_
  refine e_top (y := 2) (by decide) ?_
  refine lv_iload_n hx hb dX9_get_36 rfl (lv_at hl 2 rfl) ?_
  refine lv_iadd hx hb dX9_get_37 ?_
  refine e_top (y := 2) (by decide) ?_
  refine va_iald hx hb hK hP 1 0 rfl rfl (vp_in_nI (n := 2) (by decide) (by decide)) dX9_get_38 ?_
  refine e_topv (y := .int (f0 2)) (by rfl) ?_
  have hP9 := hP.sub (ws' := [(h0, .inr (10, [.int 2, .int 7, .ref h1, .int 7])), (h1, .inl (g.2.1 0, 14, .inl f0))]) [0, 1] rfl
  have hD9 := hD.sub (ws' := [(h0, .inr (10, [.int 2, .int 7, .ref h1, .int 7])), (h1, .inl (g.2.1 0, 14, .inl f0))]) [0, 1] (by decide) rfl
  subst hAe
  exact W.iret (v := (f0 2)) hx hb hr (fun t ht hW => ⟨⟨(f0 2), (), rfl, rfl, by rw [ht]; exact hP9, hD9⟩, hS.F ht⟩) hS.2.2 dX9_get_39
def w9_X11_group_13 : List Cond := [.code yX11_group cX11_group 3 (some .int), .fieldLink RX11 78 "Regexloom" "bounds" "LRegexloom$Table;", .methodLink RX11 225 yX9_get, .instanceMethod yX9_get, .selects RX9 yX9_get yX9_get, .initialized RX9, .code yX9_get cX9_get 3 (some .int), .fieldLink RX9 28 "Regexloom$Table" "size" "I", .fieldLink RX9 9 "Regexloom$Table" "width" "I", .fieldLink RX9 24 "Regexloom$Table" "cells" "[I"] ++ (u_ws RX11 TX11 17 ++ u_ws RX9 TX9 4)
set_option maxRecDepth 20000 in
theorem in9_X11_group_13_RX11 : ∀ w ∈ u_ws RX11 TX11 17, w ∈ w9_X11_group_13 := by decide +kernel
set_option maxRecDepth 20000 in
theorem in9_X11_group_13_RX9 : ∀ w ∈ u_ws RX9 TX9 4, w ∈ w9_X11_group_13 := by decide +kernel
set_option maxRecDepth 20000 in
theorem g9_X11_group_13_0 : GoodIn w9_X11_group_13 (wsV RX11 225 RX9 yX9_get w9_X9_get_11) := goodIn_r _ [2, 3, 4, 5, 6, 7, 8, 9, 27, 28, 29, 30] (by decide +kernel) (by decide +kernel)
set_option maxHeartbeats 4000000 in
set_option maxRecDepth 100000 in
theorem c9_X11_group_13 (l : Launch) (g : G9) (h0 h1 h2 h3 h4 h5 h6 h7 h8 h9 h10 h11 h12 h13 h14 sz : Nat) (f0 : Nat → Int32) : Met l yX11_group w9_X11_group_13 ({ frames := 1, cells := 0, slots := 0, locals := 22 }) (mP g [(h0, .inr (12, [.ref h1, .int 0, .ref h2, .ref h3, .ref h4, .ref h5, .ref h6, .ref h7, .int (-1), .ref h8, .ref h9, .int 250, .ref h10, .int 0, .ref h11, .ref h12, .ref h13])), (h10, .inr (10, [.int 2, .int 7, .ref h14, .int 7])), (h14, .inl (g.2.1 0, 14, .inl f0))] sz [.ref h0, .int 1, .int 0]) (va_Qi (fun (r : Int32) (_ : Unit) => r = (f0 2)) (fun (_ : Unit) (t : State) => mB g [(h0, .inr (12, [.ref h1, .int 0, .ref h2, .ref h3, .ref h4, .ref h5, .ref h6, .ref h7, .int (-1), .ref h8, .ref h9, .int 250, .ref h10, .int 0, .ref h11, .ref h12, .ref h13])), (h10, .inr (10, [.int 2, .int 7, .ref h14, .int 7])), (h14, .inl (g.2.1 0, 14, .inl f0))] sz [(h0, .inr (12, [.ref h1, .int 0, .ref h2, .ref h3, .ref h4, .ref h5, .ref h6, .ref h7, .int (-1), .ref h8, .ref h9, .int 250, .ref h10, .int 0, .ref h11, .ref h12, .ref h13])), (h10, .inr (10, [.int 2, .int 7, .ref h14, .int 7])), (h14, .inl (g.2.1 0, 14, .inl f0))] t) (va_A [(h0, .inr (12, [.ref h1, .int 0, .ref h2, .ref h3, .ref h4, .ref h5, .ref h6, .ref h7, .int (-1), .ref h8, .ref h9, .int 250, .ref h10, .int 0, .ref h11, .ref h12, .ref h13])), (h10, .inr (10, [.int 2, .int 7, .ref h14, .int 7])), (h14, .inl (g.2.1 0, 14, .inl f0))] sz)) 0 0 (va_A [(h0, .inr (12, [.ref h1, .int 0, .ref h2, .ref h3, .ref h4, .ref h5, .ref h6, .ref h7, .int (-1), .ref h8, .ref h9, .int 250, .ref h10, .int 0, .ref h11, .ref h12, .ref h13])), (h10, .inr (10, [.int 2, .int 7, .ref h14, .int 7])), (h14, .inl (g.2.1 0, 14, .inl f0))] sz) := by
  refine Met.ofW (cc := cX11_group) (maxL := 3) (ret := (some .int)) (by decide) rfl ?_
  intro p e s m args below meth c s₁ B hml hv
  obtain ⟨rfl, hsz, hP, hD0, hE⟩ := hv
  have hx := B.exec
  have hb := B.bytes
  have hr := B.returns
  have hts := atoms_spec (ws := w9_X11_group_13) B.pre
  have hown : s.vm.findClass RX11 = some m.cls := findClass_of_methodNamed B.named
  have hlocks := B.notSynchronized
  subst hsz
  have hD := hD0.self (sz := s.heap.size)
  generalize hAe : va_A [(h0, .inr (12, [.ref h1, .int 0, .ref h2, .ref h3, .ref h4, .ref h5, .ref h6, .ref h7, .int (-1), .ref h8, .ref h9, .int 250, .ref h10, .int 0, .ref h11, .ref h12, .ref h13])), (h10, .inr (10, [.int 2, .int 7, .ref h14, .int 7])), (h14, .inl (g.2.1 0, 14, .inl f0))] s.heap.size = A at hD hE ⊢
  have hA : ∀ q : Nat, s.heap.size ≤ q → A q := fun q h => by rw [← hAe]; exact Or.inr h
  have hK := hE.1
  have hS : va_S A s.heap s.heap [] := va_S.rf
  replace hP : va_P g.1 vwCl [(h0, .inr (12, [.ref h1, .int 0, .ref h2, .ref h3, .ref h4, .ref h5, .ref h6, .ref h7, .int (-1), .ref h8, .ref h9, .int 250, .ref h10, .int 0, .ref h11, .ref h12, .ref h13])), (h10, .inr (10, [.int 2, .int 7, .ref h14, .int 7])), (h14, .inl (g.2.1 0, 14, .inl f0))] s.heap := hP
  have hl := lv_entry ([.ref h0, .int 1, .int 0]) (n := 3) (Nat.le_of_ble_eq_true rfl)
  rw [lg_entry_eq]
  generalize (lg_sl ([.ref h0, .int 1, .int 0]) ++ List.replicate (3 - (lg_sl ([.ref h0, .int 1, .int 0])).length) Slot.unset).toArray = ls at hl ⊢
  replace hl : lv_has ls 3 [(0, .ref h0), (1, .int 1), (2, .int 0)] := hl
  have hH0 : s.heap.size ≤ s.heap.size := Nat.le_refl _
  refine lv_iload_n hx hb dX11_group_0 rfl (lv_at hl 1 rfl) ?_
  refine lv_if_lt (tgt := 10) hx hb dX11_group_1 (by decide) (fun c9 => absurd c9 (by decide)) (fun _ => ?_)
  refine lv_iload_n hx hb dX11_group_4 rfl (lv_at hl 1 rfl) ?_
  refine lv_bipush (v := 6) hx hb dX11_group_5 (by decide) ?_
  refine lv_icmp_le (tgt := 20) hx hb dX11_group_7 (by decide) (fun _ => ?_) (fun c9 => absurd (by decide) c9)
  refine lv_aload_n hx hb dX11_group_20 rfl (lv_at hl 0 rfl) ?_
  refine va_get (D := g.1) (ci := 12) (v := .ref h10) (C := RX11) (T := TX11) (N := 17) hx hb hts in9_X11_group_13_RX11 hown hK hP 0 rfl rfl 12 (by decide) (hts (.fieldLink RX11 78 "Regexloom" "bounds" "LRegexloom$Table;") (List.mem_of_getElem? (i := 1) rfl)) (fun _ h9 => h9) rfl dX11_group_21 ?_
  refine lv_iload_n hx hb dX11_group_24 rfl (lv_at hl 1 rfl) ?_
  refine lv_iload_n hx hb dX11_group_25 rfl (lv_at hl 2 rfl) ?_
  refine lv_if_eq (tgt := 33) hx hb dX11_group_26 (by decide) (fun _ => ?_) (fun c9 => absurd (by decide) c9)
  refine lv_iconst (v := 0) hx hb dX11_group_33 (by decide) ?_
  have hPc := hP.sub (ws' := [(h10, .inr (10, [.int 2, .int 7, .ref h14, .int 7])), (h14, .inl (g.2.1 0, 14, .inl f0))]) [1, 2] rfl
  have hDc := hD.sub (ws' := [(h10, .inr (10, [.int 2, .int 7, .ref h14, .int 7])), (h14, .inl (g.2.1 0, 14, .inl f0))]) [1, 2] (by decide) rfl
  have hFc := va_free (wc := [(h10, .inr (10, [.int 2, .int 7, .ref h14, .int 7])), (h14, .inl (g.2.1 0, 14, .inl f0))]) hD hS hA [1, 2] rfl
  refine va_calli (va_runV (As := [.int 1, .int 0]) (rest := []) ⟨hx, hb, hml, hown, hts⟩ (c9_X9_get_11 l g h10 h14 _ f0) (cwV 2 hts g9_X11_group_13_0 rfl rfl rfl (by decide +kernel) ⟨Nat.le_of_ble_eq_true rfl, Nat.le_of_ble_eq_true rfl⟩) (mPreV (g := g) (wc := [(h10, .inr (10, [.int 2, .int 7, .ref h14, .int 7])), (h14, .inl (g.2.1 0, 14, .inl f0))]) (C := RX9) (ci := 10) (q0 := 0) hE hS hPc hDc hFc rfl rfl) rfl rfl hl.1 rfl (lv_room (Nat.le_of_ble_eq_true rfl)) dX11_group_34 ⟨Nat.le_of_ble_eq_true rfl, Nat.le_of_ble_eq_true rfl⟩) hS (fun q _ h => hFc q h) hFc (fun r_1 u t H1 locs ht hvm hw hB hz1 hk1 hS => ?_)
  replace hw : (f0 2) = r_1 := Eq.symm hw
  subst hw
  obtain ⟨hP1, hD1⟩ := hB
  rw [ht] at hP1
  obtain ⟨hP, hD⟩ := va_join (wr := [(h0, .inr (12, [.ref h1, .int 0, .ref h2, .ref h3, .ref h4, .ref h5, .ref h6, .ref h7, .int (-1), .ref h8, .ref h9, .int 250, .ref h10, .int 0, .ref h11, .ref h12, .ref h13]))]) (w1 := [(h10, .inr (10, [.int 2, .int 7, .ref h14, .int 7])), (h14, .inl (g.2.1 0, 14, .inl f0))]) hP hD [1, 2] [0] rfl rfl (by decide) (by decide) hk1 hFc hP1 hD1
  clear hP1 hD1 hPc hDc hFc hk1 hz1 hvm ht
  generalize H1 = H at hP hS ⊢
  have hP : va_P g.1 vwCl [(h0, .inr (12, [.ref h1, .int 0, .ref h2, .ref h3, .ref h4, .ref h5, .ref h6, .ref h7, .int (-1), .ref h8, .ref h9, .int 250, .ref h10, .int 0, .ref h11, .ref h12, .ref h13])), (h10, .inr (10, [.int 2, .int 7, .ref h14, .int 7])), (h14, .inl (g.2.1 0, 14, .inl f0))] H := hP
  have hD : va_D A [(h0, .inr (12, [.ref h1, .int 0, .ref h2, .ref h3, .ref h4, .ref h5, .ref h6, .ref h7, .int (-1), .ref h8, .ref h9, .int 250, .ref h10, .int 0, .ref h11, .ref h12, .ref h13])), (h10, .inr (10, [.int 2, .int 7, .ref h14, .int 7])), (h14, .inl (g.2.1 0, 14, .inl f0))] := hD
  refine e_top (y := (f0 2)) (by rfl) ?_
  have hP9 := hP.sub (ws' := [(h0, .inr (12, [.ref h1, .int 0, .ref h2, .ref h3, .ref h4, .ref h5, .ref h6, .ref h7, .int (-1), .ref h8, .ref h9, .int 250, .ref h10, .int 0, .ref h11, .ref h12, .ref h13])), (h10, .inr (10, [.int 2, .int 7, .ref h14, .int 7])), (h14, .inl (g.2.1 0, 14, .inl f0))]) [0, 1, 2] rfl
  have hD9 := hD.sub (ws' := [(h0, .inr (12, [.ref h1, .int 0, .ref h2, .ref h3, .ref h4, .ref h5, .ref h6, .ref h7, .int (-1), .ref h8, .ref h9, .int 250, .ref h10, .int 0, .ref h11, .ref h12, .ref h13])), (h10, .inr (10, [.int 2, .int 7, .ref h14, .int 7])), (h14, .inl (g.2.1 0, 14, .inl f0))]) [0, 1, 2] (by decide) rfl
  subst hAe
  exact W.iret (v := (f0 2)) hx hb hr (fun t ht hW => ⟨⟨(f0 2), (), rfl, rfl, by rw [ht]; exact hP9, hD9⟩, hS.F ht⟩) hS.2.2 dX11_group_37
def w9_L_group_14 : List Cond := [.codeWith yL_group cL_group 5 (some .int) [(0, 10, 13, 21)], .methodLink RL 47 yX11_group, .instanceMethod yX11_group, .selects RX11 yX11_group yX11_group, .initialized RX11, .code yX11_group cX11_group 3 (some .int), .fieldLink RX11 78 "Regexloom" "bounds" "LRegexloom$Table;", .methodLink RX11 225 yX9_get, .instanceMethod yX9_get, .selects RX9 yX9_get yX9_get, .initialized RX9, .code yX9_get cX9_get 3 (some .int), .fieldLink RX9 28 "Regexloom$Table" "size" "I", .fieldLink RX9 9 "Regexloom$Table" "width" "I", .fieldLink RX9 24 "Regexloom$Table" "cells" "[I"] ++ (u_ws RX11 TX11 17 ++ u_ws RX9 TX9 4)
set_option maxRecDepth 20000 in
theorem in9_L_group_14_RX11 : ∀ w ∈ u_ws RX11 TX11 17, w ∈ w9_L_group_14 := by decide +kernel
set_option maxRecDepth 20000 in
theorem in9_L_group_14_RX9 : ∀ w ∈ u_ws RX9 TX9 4, w ∈ w9_L_group_14 := by decide +kernel
set_option maxRecDepth 20000 in
theorem g9_L_group_14_0 : GoodIn w9_L_group_14 (wsV RL 47 RX11 yX11_group w9_X11_group_13) := goodIn_r _ [1, 2, 3, 4, 5, 6, 7, 8, 9, 10, 11, 12, 13, 14, 15, 16, 17, 18, 19, 20, 21, 22, 23, 24, 25, 26, 27, 28, 29, 30, 31, 32, 33, 34, 35] (by decide +kernel) (by decide +kernel)
set_option maxHeartbeats 4000000 in
set_option maxRecDepth 100000 in
theorem c9_L_group_14 (l : Launch) (g : G9) (h0 h1 h2 h3 h4 h5 h6 h7 h8 h9 h10 h11 h12 h13 h14 h15 sz : Nat) : Met l yL_group w9_L_group_14 ({ frames := 2, cells := 0, slots := 0, locals := 44 }) (mP g [(h0, .inr (12, [.ref h2, .int 0, .ref h3, .ref h4, .ref h5, .ref h6, .ref h7, .ref h8, .int (-1), .ref h9, .ref h10, .int 250, .ref h11, .int 0, .ref h12, .ref h13, .ref h14])), (h11, .inr (10, [.int 2, .int 7, .ref h15, .int 7])), (h15, .inl (g.2.1 0, 14, .inl (upd (upd (upd (upd (upd (upd (upd (upd (upd (upd (upd (upd (upd (upd (fun _ => 0) 0 (-1)) 1 (-1)) 2 (-1)) 3 (-1)) 4 (-1)) 5 (-1)) 6 (-1)) 7 (-1)) 8 (-1)) 9 (-1)) 10 (-1)) 11 (-1)) 12 (-1)) 13 (-1)))), (h1, .inl (g.2.1 2, 1, .inr (.inl (fun _ => 0))))] sz [.ref h0, .int 1, .int 0, .ref h1]) (va_Qi (fun (r : Int32) (_ : Unit) => r = 0) (fun (_ : Unit) (t : State) => mB g [(h0, .inr (12, [.ref h2, .int 0, .ref h3, .ref h4, .ref h5, .ref h6, .ref h7, .ref h8, .int (-1), .ref h9, .ref h10, .int 250, .ref h11, .int 0, .ref h12, .ref h13, .ref h14])), (h11, .inr (10, [.int 2, .int 7, .ref h15, .int 7])), (h15, .inl (g.2.1 0, 14, .inl (upd (upd (upd (upd (upd (upd (upd (upd (upd (upd (upd (upd (upd (upd (fun _ => 0) 0 (-1)) 1 (-1)) 2 (-1)) 3 (-1)) 4 (-1)) 5 (-1)) 6 (-1)) 7 (-1)) 8 (-1)) 9 (-1)) 10 (-1)) 11 (-1)) 12 (-1)) 13 (-1)))), (h1, .inl (g.2.1 2, 1, .inr (.inl (fun _ => 0))))] sz [(h0, .inr (12, [.ref h2, .int 0, .ref h3, .ref h4, .ref h5, .ref h6, .ref h7, .ref h8, .int (-1), .ref h9, .ref h10, .int 250, .ref h11, .int 0, .ref h12, .ref h13, .ref h14])), (h11, .inr (10, [.int 2, .int 7, .ref h15, .int 7])), (h15, .inl (g.2.1 0, 14, .inl (upd (upd (upd (upd (upd (upd (upd (upd (upd (upd (upd (upd (upd (upd (fun _ => 0) 0 (-1)) 1 (-1)) 2 (-1)) 3 (-1)) 4 (-1)) 5 (-1)) 6 (-1)) 7 (-1)) 8 (-1)) 9 (-1)) 10 (-1)) 11 (-1)) 12 (-1)) 13 (-1)))), (h1, .inl (g.2.1 2, 1, .inr (.inl (vp_updL (fun _ => 0) 0 (-1)))))] t) (va_A [(h0, .inr (12, [.ref h2, .int 0, .ref h3, .ref h4, .ref h5, .ref h6, .ref h7, .ref h8, .int (-1), .ref h9, .ref h10, .int 250, .ref h11, .int 0, .ref h12, .ref h13, .ref h14])), (h11, .inr (10, [.int 2, .int 7, .ref h15, .int 7])), (h15, .inl (g.2.1 0, 14, .inl (upd (upd (upd (upd (upd (upd (upd (upd (upd (upd (upd (upd (upd (upd (fun _ => 0) 0 (-1)) 1 (-1)) 2 (-1)) 3 (-1)) 4 (-1)) 5 (-1)) 6 (-1)) 7 (-1)) 8 (-1)) 9 (-1)) 10 (-1)) 11 (-1)) 12 (-1)) 13 (-1)))), (h1, .inl (g.2.1 2, 1, .inr (.inl (fun _ => 0))))] sz)) 0 0 (va_A [(h0, .inr (12, [.ref h2, .int 0, .ref h3, .ref h4, .ref h5, .ref h6, .ref h7, .ref h8, .int (-1), .ref h9, .ref h10, .int 250, .ref h11, .int 0, .ref h12, .ref h13, .ref h14])), (h11, .inr (10, [.int 2, .int 7, .ref h15, .int 7])), (h15, .inl (g.2.1 0, 14, .inl (upd (upd (upd (upd (upd (upd (upd (upd (upd (upd (upd (upd (upd (upd (fun _ => 0) 0 (-1)) 1 (-1)) 2 (-1)) 3 (-1)) 4 (-1)) 5 (-1)) 6 (-1)) 7 (-1)) 8 (-1)) 9 (-1)) 10 (-1)) 11 (-1)) 12 (-1)) 13 (-1)))), (h1, .inl (g.2.1 2, 1, .inr (.inl (fun _ => 0))))] sz) := by
  refine va_MetW (cc := cL_group) (maxL := 5) (ret := (some .int)) (by decide) rfl ?_
  intro p e s m args below meth c s₁ B hml hv
  obtain ⟨rfl, hsz, hP, hD0, hE⟩ := hv
  have hx := B.exec
  have hb := B.bytes
  have hr := B.returns
  have hts := atoms_spec (ws := w9_L_group_14) B.pre
  have hown : s.vm.findClass RL = some m.cls := findClass_of_methodNamed B.named
  have hlocks := B.notSynchronized
  have htab := vx_table (x := yL_group) B (hts (.codeWith yL_group cL_group 5 (some .int) [(0, 10, 13, 21)]) (List.mem_of_getElem? (i := 0) rfl))
  subst hsz
  have hD := hD0.self (sz := s.heap.size)
  generalize hAe : va_A [(h0, .inr (12, [.ref h2, .int 0, .ref h3, .ref h4, .ref h5, .ref h6, .ref h7, .ref h8, .int (-1), .ref h9, .ref h10, .int 250, .ref h11, .int 0, .ref h12, .ref h13, .ref h14])), (h11, .inr (10, [.int 2, .int 7, .ref h15, .int 7])), (h15, .inl (g.2.1 0, 14, .inl (upd (upd (upd (upd (upd (upd (upd (upd (upd (upd (upd (upd (upd (upd (fun _ => 0) 0 (-1)) 1 (-1)) 2 (-1)) 3 (-1)) 4 (-1)) 5 (-1)) 6 (-1)) 7 (-1)) 8 (-1)) 9 (-1)) 10 (-1)) 11 (-1)) 12 (-1)) 13 (-1)))), (h1, .inl (g.2.1 2, 1, .inr (.inl (fun _ => 0))))] s.heap.size = A at hD hE ⊢
  have hA : ∀ q : Nat, s.heap.size ≤ q → A q := fun q h => by rw [← hAe]; exact Or.inr h
  have hK := hE.1
  have hS : va_S A s.heap s.heap [] := va_S.rf
  replace hP : va_P g.1 vwCl [(h0, .inr (12, [.ref h2, .int 0, .ref h3, .ref h4, .ref h5, .ref h6, .ref h7, .ref h8, .int (-1), .ref h9, .ref h10, .int 250, .ref h11, .int 0, .ref h12, .ref h13, .ref h14])), (h11, .inr (10, [.int 2, .int 7, .ref h15, .int 7])), (h15, .inl (g.2.1 0, 14, .inl (upd (upd (upd (upd (upd (upd (upd (upd (upd (upd (upd (upd (upd (upd (fun _ => 0) 0 (-1)) 1 (-1)) 2 (-1)) 3 (-1)) 4 (-1)) 5 (-1)) 6 (-1)) 7 (-1)) 8 (-1)) 9 (-1)) 10 (-1)) 11 (-1)) 12 (-1)) 13 (-1)))), (h1, .inl (g.2.1 2, 1, .inr (.inl (fun _ => 0))))] s.heap := hP
  have hl := lv_entry ([.ref h0, .int 1, .int 0, .ref h1]) (n := 5) (Nat.le_of_ble_eq_true rfl)
  rw [lg_entry_eq]
  generalize (lg_sl ([.ref h0, .int 1, .int 0, .ref h1]) ++ List.replicate (5 - (lg_sl ([.ref h0, .int 1, .int 0, .ref h1])).length) Slot.unset).toArray = ls at hl ⊢
  replace hl : lv_has ls 5 [(0, .ref h0), (1, .int 1), (2, .int 0), (3, .ref h1)] := hl
  have hH0 : s.heap.size ≤ s.heap.size := Nat.le_refl _
  refine lv_aload_n hx hb dL_group_0 rfl (lv_at hl 3 rfl) ?_
  refine lv_iconst (v := 0) hx hb dL_group_1 (by decide) ?_
  refine lv_aload_n hx hb dL_group_2 rfl (lv_at hl 0 rfl) ?_
  refine lv_iload_n hx hb dL_group_3 rfl (lv_at hl 1 rfl) ?_
  refine lv_iload_n hx hb dL_group_4 rfl (lv_at hl 2 rfl) ?_
  have hPc := hP.sub (ws' := [(h0, .inr (12, [.ref h2, .int 0, .ref h3, .ref h4, .ref h5, .ref h6, .ref h7, .ref h8, .int (-1), .ref h9, .ref h10, .int 250, .ref h11, .int 0, .ref h12, .ref h13, .ref h14])), (h11, .inr (10, [.int 2, .int 7, .ref h15, .int 7])), (h15, .inl (g.2.1 0, 14, .inl (upd (upd (upd (upd (upd (upd (upd (upd (upd (upd (upd (upd (upd (upd (fun _ => 0) 0 (-1)) 1 (-1)) 2 (-1)) 3 (-1)) 4 (-1)) 5 (-1)) 6 (-1)) 7 (-1)) 8 (-1)) 9 (-1)) 10 (-1)) 11 (-1)) 12 (-1)) 13 (-1))))]) [0, 1, 2] rfl
  have hDc := hD.sub (ws' := [(h0, .inr (12, [.ref h2, .int 0, .ref h3, .ref h4, .ref h5, .ref h6, .ref h7, .ref h8, .int (-1), .ref h9, .ref h10, .int 250, .ref h11, .int 0, .ref h12, .ref h13, .ref h14])), (h11, .inr (10, [.int 2, .int 7, .ref h15, .int 7])), (h15, .inl (g.2.1 0, 14, .inl (upd (upd (upd (upd (upd (upd (upd (upd (upd (upd (upd (upd (upd (upd (fun _ => 0) 0 (-1)) 1 (-1)) 2 (-1)) 3 (-1)) 4 (-1)) 5 (-1)) 6 (-1)) 7 (-1)) 8 (-1)) 9 (-1)) 10 (-1)) 11 (-1)) 12 (-1)) 13 (-1))))]) [0, 1, 2] (by decide) rfl
  have hFc := va_free (wc := [(h0, .inr (12, [.ref h2, .int 0, .ref h3, .ref h4, .ref h5, .ref h6, .ref h7, .ref h8, .int (-1), .ref h9, .ref h10, .int 250, .ref h11, .int 0, .ref h12, .ref h13, .ref h14])), (h11, .inr (10, [.int 2, .int 7, .ref h15, .int 7])), (h15, .inl (g.2.1 0, 14, .inl (upd (upd (upd (upd (upd (upd (upd (upd (upd (upd (upd (upd (upd (upd (fun _ => 0) 0 (-1)) 1 (-1)) 2 (-1)) 3 (-1)) 4 (-1)) 5 (-1)) 6 (-1)) 7 (-1)) 8 (-1)) 9 (-1)) 10 (-1)) 11 (-1)) 12 (-1)) 13 (-1))))]) hD hS hA [0, 1, 2] rfl
  refine va_calli (va_runV (As := [.int 1, .int 0]) (rest := [.int 0, .ref h1]) ⟨hx, hb, hml, hown, hts⟩ (c9_X11_group_13 l g h0 h2 h3 h4 h5 h6 h7 h8 h9 h10 h11 h12 h13 h14 h15 _ (upd (upd (upd (upd (upd (upd (upd (upd (upd (upd (upd (upd (upd (upd (fun _ => 0) 0 (-1)) 1 (-1)) 2 (-1)) 3 (-1)) 4 (-1)) 5 (-1)) 6 (-1)) 7 (-1)) 8 (-1)) 9 (-1)) 10 (-1)) 11 (-1)) 12 (-1)) 13 (-1))) (cwV 2 hts g9_L_group_14_0 rfl rfl rfl (by decide +kernel) ⟨Nat.le_of_ble_eq_true rfl, Nat.le_of_ble_eq_true rfl⟩) (mPreV (g := g) (wc := [(h0, .inr (12, [.ref h2, .int 0, .ref h3, .ref h4, .ref h5, .ref h6, .ref h7, .ref h8, .int (-1), .ref h9, .ref h10, .int 250, .ref h11, .int 0, .ref h12, .ref h13, .ref h14])), (h11, .inr (10, [.int 2, .int 7, .ref h15, .int 7])), (h15, .inl (g.2.1 0, 14, .inl (upd (upd (upd (upd (upd (upd (upd (upd (upd (upd (upd (upd (upd (upd (fun _ => 0) 0 (-1)) 1 (-1)) 2 (-1)) 3 (-1)) 4 (-1)) 5 (-1)) 6 (-1)) 7 (-1)) 8 (-1)) 9 (-1)) 10 (-1)) 11 (-1)) 12 (-1)) 13 (-1))))]) (C := RX11) (ci := 12) (q0 := 0) hE hS hPc hDc hFc rfl rfl) rfl rfl hl.1 rfl (lv_room (Nat.le_of_ble_eq_true rfl)) dL_group_5 ⟨Nat.le_of_ble_eq_true rfl, Nat.le_of_ble_eq_true rfl⟩) hS (fun q _ h => hFc q h) hFc (fun r_1 u t H1 locs ht hvm hw hB hz1 hk1 hS => ?_)
  replace hw : ((upd (upd (upd (upd (upd (upd (upd (upd (upd (upd (upd (upd (upd (upd (fun _ => 0) 0 (-1)) 1 (-1)) 2 (-1)) 3 (-1)) 4 (-1)) 5 (-1)) 6 (-1)) 7 (-1)) 8 (-1)) 9 (-1)) 10 (-1)) 11 (-1)) 12 (-1)) 13 (-1)) 2) = r_1 := Eq.symm hw
  subst hw
  obtain ⟨hP1, hD1⟩ := hB
  rw [ht] at hP1
  obtain ⟨hP, hD⟩ := va_join (wr := [(h1, .inl (g.2.1 2, 1, .inr (.inl (fun _ => 0))))]) (w1 := [(h0, .inr (12, [.ref h2, .int 0, .ref h3, .ref h4, .ref h5, .ref h6, .ref h7, .ref h8, .int (-1), .ref h9, .ref h10, .int 250, .ref h11, .int 0, .ref h12, .ref h13, .ref h14])), (h11, .inr (10, [.int 2, .int 7, .ref h15, .int 7])), (h15, .inl (g.2.1 0, 14, .inl (upd (upd (upd (upd (upd (upd (upd (upd (upd (upd (upd (upd (upd (upd (fun _ => 0) 0 (-1)) 1 (-1)) 2 (-1)) 3 (-1)) 4 (-1)) 5 (-1)) 6 (-1)) 7 (-1)) 8 (-1)) 9 (-1)) 10 (-1)) 11 (-1)) 12 (-1)) 13 (-1))))]) hP hD [0, 1, 2] [3] rfl rfl (by decide) (by decide) hk1 hFc hP1 hD1
  clear hP1 hD1 hPc hDc hFc hk1 hz1 hvm ht
  generalize H1 = H at hP hS ⊢
  have hP : va_P g.1 vwCl [(h1, .inl (g.2.1 2, 1, .inr (.inl (fun _ => 0)))), (h0, .inr (12, [.ref h2, .int 0, .ref h3, .ref h4, .ref h5, .ref h6, .ref h7, .ref h8, .int (-1), .ref h9, .ref h10, .int 250, .ref h11, .int 0, .ref h12, .ref h13, .ref h14])), (h11, .inr (10, [.int 2, .int 7, .ref h15, .int 7])), (h15, .inl (g.2.1 0, 14, .inl (upd (upd (upd (upd (upd (upd (upd (upd (upd (upd (upd (upd (upd (upd (fun _ => 0) 0 (-1)) 1 (-1)) 2 (-1)) 3 (-1)) 4 (-1)) 5 (-1)) 6 (-1)) 7 (-1)) 8 (-1)) 9 (-1)) 10 (-1)) 11 (-1)) 12 (-1)) 13 (-1))))] H := hP
  have hD : va_D A [(h1, .inl (g.2.1 2, 1, .inr (.inl (fun _ => 0)))), (h0, .inr (12, [.ref h2, .int 0, .ref h3, .ref h4, .ref h5, .ref h6, .ref h7, .ref h8, .int (-1), .ref h9, .ref h10, .int 250, .ref h11, .int 0, .ref h12, .ref h13, .ref h14])), (h11, .inr (10, [.int 2, .int 7, .ref h15, .int 7])), (h15, .inl (g.2.1 0, 14, .inl (upd (upd (upd (upd (upd (upd (upd (upd (upd (upd (upd (upd (upd (upd (fun _ => 0) 0 (-1)) 1 (-1)) 2 (-1)) 3 (-1)) 4 (-1)) 5 (-1)) 6 (-1)) 7 (-1)) 8 (-1)) 9 (-1)) 10 (-1)) 11 (-1)) 12 (-1)) 13 (-1))))] := hD
  refine e_top (y := (-1)) (by rfl) ?_
  refine lv_i2l (v := (-1)) hx hb dL_group_8 (by decide) ?_
  refine va_last hx hb hK hP hD hS 0 2 rfl rfl (vp_in_nI (n := 0) (by decide) (by decide)) dL_group_9 (fun H locs hP hD hS => ?_)
  have hP : va_P g.1 vwCl [(h1, .inl (g.2.1 2, 1, .inr (.inl (vp_updL (fun _ => 0) 0 (-1))))), (h0, .inr (12, [.ref h2, .int 0, .ref h3, .ref h4, .ref h5, .ref h6, .ref h7, .ref h8, .int (-1), .ref h9, .ref h10, .int 250, .ref h11, .int 0, .ref h12, .ref h13, .ref h14])), (h11, .inr (10, [.int 2, .int 7, .ref h15, .int 7])), (h15, .inl (g.2.1 0, 14, .inl (upd (upd (upd (upd (upd (upd (upd (upd (upd (upd (upd (upd (upd (upd (fun _ => 0) 0 (-1)) 1 (-1)) 2 (-1)) 3 (-1)) 4 (-1)) 5 (-1)) 6 (-1)) 7 (-1)) 8 (-1)) 9 (-1)) 10 (-1)) 11 (-1)) 12 (-1)) 13 (-1))))] H := hP
  have hD : va_D A [(h1, .inl (g.2.1 2, 1, .inr (.inl (vp_updL (fun _ => 0) 0 (-1))))), (h0, .inr (12, [.ref h2, .int 0, .ref h3, .ref h4, .ref h5, .ref h6, .ref h7, .ref h8, .int (-1), .ref h9, .ref h10, .int 250, .ref h11, .int 0, .ref h12, .ref h13, .ref h14])), (h11, .inr (10, [.int 2, .int 7, .ref h15, .int 7])), (h15, .inl (g.2.1 0, 14, .inl (upd (upd (upd (upd (upd (upd (upd (upd (upd (upd (upd (upd (upd (upd (fun _ => 0) 0 (-1)) 1 (-1)) 2 (-1)) 3 (-1)) 4 (-1)) 5 (-1)) 6 (-1)) 7 (-1)) 8 (-1)) 9 (-1)) 10 (-1)) 11 (-1)) 12 (-1)) 13 (-1))))] := hD
  refine lv_goto (tgt := 17) hx hb dL_group_10 (by decide) ?_
  refine lv_iconst (v := 0) hx hb dL_group_17 (by decide) ?_
  have hP9 := hP.sub (ws' := [(h0, .inr (12, [.ref h2, .int 0, .ref h3, .ref h4, .ref h5, .ref h6, .ref h7, .ref h8, .int (-1), .ref h9, .ref h10, .int 250, .ref h11, .int 0, .ref h12, .ref h13, .ref h14])), (h11, .inr (10, [.int 2, .int 7, .ref h15, .int 7])), (h15, .inl (g.2.1 0, 14, .inl (upd (upd (upd (upd (upd (upd (upd (upd (upd (upd (upd (upd (upd (upd (fun _ => 0) 0 (-1)) 1 (-1)) 2 (-1)) 3 (-1)) 4 (-1)) 5 (-1)) 6 (-1)) 7 (-1)) 8 (-1)) 9 (-1)) 10 (-1)) 11 (-1)) 12 (-1)) 13 (-1)))), (h1, .inl (g.2.1 2, 1, .inr (.inl (vp_updL (fun _ => 0) 0 (-1)))))]) [1, 2, 3, 0] rfl
  have hD9 := hD.sub (ws' := [(h0, .inr (12, [.ref h2, .int 0, .ref h3, .ref h4, .ref h5, .ref h6, .ref h7, .ref h8, .int (-1), .ref h9, .ref h10, .int 250, .ref h11, .int 0, .ref h12, .ref h13, .ref h14])), (h11, .inr (10, [.int 2, .int 7, .ref h15, .int 7])), (h15, .inl (g.2.1 0, 14, .inl (upd (upd (upd (upd (upd (upd (upd (upd (upd (upd (upd (upd (upd (upd (fun _ => 0) 0 (-1)) 1 (-1)) 2 (-1)) 3 (-1)) 4 (-1)) 5 (-1)) 6 (-1)) 7 (-1)) 8 (-1)) 9 (-1)) 10 (-1)) 11 (-1)) 12 (-1)) 13 (-1)))), (h1, .inl (g.2.1 2, 1, .inr (.inl (vp_updL (fun _ => 0) 0 (-1)))))]) [1, 2, 3, 0] (by decide) rfl
  subst hAe
  exact W.iret (v := 0) hx hb hr (fun t ht hW => ⟨⟨0, (), rfl, rfl, by rw [ht]; exact hP9, hD9⟩, hS.F ht⟩) hS.2.2 dL_group_18
def w9_X21_group_13 : List Cond := [.code yX21_group cX21_group 3 (some .int), .methodLink RX21 160 yX21_in, .static yX21_in, .initialized RX21, .code yX21_in cX21_in 3 (some .boolean), .methodLink RX21 154 yX21_refused, .instanceMethod yX21_refused, .selects RX21 yX21_refused yX21_refused, .code yX21_refused cX21_refused 2 (some .boolean), .fieldLink RX21 144 "RegexloomModel" "refusal" "I", .fieldLink RX21 107 "RegexloomModel" "told" "[I"] ++ (u_ws RX21 TX21 32)
set_option maxRecDepth 20000 in
theorem in9_X21_group_13_RX21 : ∀ w ∈ u_ws RX21 TX21 32, w ∈ w9_X21_group_13 := by decide +kernel
set_option maxRecDepth 20000 in
theorem g9_X21_group_13_0 : GoodIn w9_X21_group_13 (va_wsS RX21 160 yX21_in w9_X21_in_17) := goodIn_r _ [1, 2, 3, 4] (by decide +kernel) (by decide +kernel)
set_option maxRecDepth 20000 in
theorem g9_X21_group_13_1 : GoodIn w9_X21_group_13 (wsV RX21 154 RX21 yX21_refused w9_X21_refused_1) := goodIn_r _ [5, 6, 7, 3, 8, 9, 11, 12, 13, 14, 15, 16, 17, 18, 19, 20, 21, 22, 23, 24, 25, 26, 27, 28, 29, 30, 31, 32, 33, 34, 35, 36, 37, 38, 39, 40, 41, 42] (by decide +kernel) (by decide +kernel)
set_option maxHeartbeats 4000000 in
set_option maxRecDepth 100000 in
theorem c9_X21_group_13 (l : Launch) (g : G9) (h0 h1 h2 h3 h4 h5 h6 h7 h8 h9 h10 h11 h12 h13 h14 h15 h16 sz : Nat) (f0 : Nat → Int32) : Met l yX21_group w9_X21_group_13 ({ frames := 1, cells := 0, slots := 0, locals := 22 }) (mP g [(h0, .inr (22, [.int 0, .ref h1, .int 0, .ref h2, .int 0, .ref h3, .int 250, .ref h4, .int 0, .ref h5, .ref h6, .ref h7, .int 0, .ref h8, .ref h9, .ref h10, .int 0, .null, .int 0, .null, .int 0, .int 0, .int 0, .ref h11, .int 0, .ref h12, .ref h13, .ref h14, .int 0, .ref h15, .ref h16, .int 0])), (h7, .inl (g.2.1 0, 14, .inl f0))] sz [.ref h0, .int 1, .int 0]) (va_Qi (fun (r : Int32) (_ : Unit) => r = (f0 2)) (fun (_ : Unit) (t : State) => mB g [(h0, .inr (22, [.int 0, .ref h1, .int 0, .ref h2, .int 0, .ref h3, .int 250, .ref h4, .int 0, .ref h5, .ref h6, .ref h7, .int 0, .ref h8, .ref h9, .ref h10, .int 0, .null, .int 0, .null, .int 0, .int 0, .int 0, .ref h11, .int 0, .ref h12, .ref h13, .ref h14, .int 0, .ref h15, .ref h16, .int 0])), (h7, .inl (g.2.1 0, 14, .inl f0))] sz [(h0, .inr (22, [.int 0, .ref h1, .int 0, .ref h2, .int 0, .ref h3, .int 250, .ref h4, .int 0, .ref h5, .ref h6, .ref h7, .int 0, .ref h8, .ref h9, .ref h10, .int 0, .null, .int 0, .null, .int 0, .int 0, .int 0, .ref h11, .int 0, .ref h12, .ref h13, .ref h14, .int 0, .ref h15, .ref h16, .int 0])), (h7, .inl (g.2.1 0, 14, .inl f0))] t) (va_A [(h0, .inr (22, [.int 0, .ref h1, .int 0, .ref h2, .int 0, .ref h3, .int 250, .ref h4, .int 0, .ref h5, .ref h6, .ref h7, .int 0, .ref h8, .ref h9, .ref h10, .int 0, .null, .int 0, .null, .int 0, .int 0, .int 0, .ref h11, .int 0, .ref h12, .ref h13, .ref h14, .int 0, .ref h15, .ref h16, .int 0])), (h7, .inl (g.2.1 0, 14, .inl f0))] sz)) 0 0 (va_A [(h0, .inr (22, [.int 0, .ref h1, .int 0, .ref h2, .int 0, .ref h3, .int 250, .ref h4, .int 0, .ref h5, .ref h6, .ref h7, .int 0, .ref h8, .ref h9, .ref h10, .int 0, .null, .int 0, .null, .int 0, .int 0, .int 0, .ref h11, .int 0, .ref h12, .ref h13, .ref h14, .int 0, .ref h15, .ref h16, .int 0])), (h7, .inl (g.2.1 0, 14, .inl f0))] sz) := by
  refine Met.ofW (cc := cX21_group) (maxL := 3) (ret := (some .int)) (by decide) rfl ?_
  intro p e s m args below meth c s₁ B hml hv
  obtain ⟨rfl, hsz, hP, hD0, hE⟩ := hv
  have hx := B.exec
  have hb := B.bytes
  have hr := B.returns
  have hts := atoms_spec (ws := w9_X21_group_13) B.pre
  have hown : s.vm.findClass RX21 = some m.cls := findClass_of_methodNamed B.named
  have hlocks := B.notSynchronized
  subst hsz
  have hD := hD0.self (sz := s.heap.size)
  generalize hAe : va_A [(h0, .inr (22, [.int 0, .ref h1, .int 0, .ref h2, .int 0, .ref h3, .int 250, .ref h4, .int 0, .ref h5, .ref h6, .ref h7, .int 0, .ref h8, .ref h9, .ref h10, .int 0, .null, .int 0, .null, .int 0, .int 0, .int 0, .ref h11, .int 0, .ref h12, .ref h13, .ref h14, .int 0, .ref h15, .ref h16, .int 0])), (h7, .inl (g.2.1 0, 14, .inl f0))] s.heap.size = A at hD hE ⊢
  have hA : ∀ q : Nat, s.heap.size ≤ q → A q := fun q h => by rw [← hAe]; exact Or.inr h
  have hK := hE.1
  have hS : va_S A s.heap s.heap [] := va_S.rf
  replace hP : va_P g.1 vwCl [(h0, .inr (22, [.int 0, .ref h1, .int 0, .ref h2, .int 0, .ref h3, .int 250, .ref h4, .int 0, .ref h5, .ref h6, .ref h7, .int 0, .ref h8, .ref h9, .ref h10, .int 0, .null, .int 0, .null, .int 0, .int 0, .int 0, .ref h11, .int 0, .ref h12, .ref h13, .ref h14, .int 0, .ref h15, .ref h16, .int 0])), (h7, .inl (g.2.1 0, 14, .inl f0))] s.heap := hP
  have hl := lv_entry ([.ref h0, .int 1, .int 0]) (n := 3) (Nat.le_of_ble_eq_true rfl)
  rw [lg_entry_eq]
  generalize (lg_sl ([.ref h0, .int 1, .int 0]) ++ List.replicate (3 - (lg_sl ([.ref h0, .int 1, .int 0])).length) Slot.unset).toArray = ls at hl ⊢
  replace hl : lv_has ls 3 [(0, .ref h0), (1, .int 1), (2, .int 0)] := hl
  have hH0 : s.heap.size ≤ s.heap.size := Nat.le_refl _
  refine lv_aload_n hx hb dX21_group_0 rfl (lv_at hl 0 rfl) ?_
  refine lv_iload_n hx hb dX21_group_1 rfl (lv_at hl 1 rfl) ?_
  refine lv_iconst (v := 0) hx hb dX21_group_2 (by decide) ?_
  refine lv_bipush (v := 6) hx hb dX21_group_3 (by decide) ?_
  have hPc := hP.sub (ws' := []) [] rfl
  have hDc := hD.sub (ws' := []) [] (by decide) rfl
  have hFc := va_free (wc := []) hD hS hA [] rfl
  refine va_calli (va_runS (As := [.int 1, .int 0, .int 6]) (rest := [.ref h0]) ⟨hx, hb, hml, hown, hts⟩ (c9_X21_in_17 l g _) (va_cwS 3 hts g9_X21_group_13_0 rfl rfl rfl (by decide +kernel) ⟨Nat.le_of_ble_eq_true rfl, Nat.le_of_ble_eq_true rfl⟩) (mPreS (g := g) (wc := []) hE hS hPc hDc hFc) rfl rfl hl.1 rfl (lv_room (Nat.le_of_ble_eq_true rfl)) dX21_group_5 ⟨Nat.le_of_ble_eq_true rfl, Nat.le_of_ble_eq_true rfl⟩) hS (fun q _ h => hFc q h) hFc (fun r_1 u t H1 locs ht hvm hw hB hz1 hk1 hS => ?_)
  replace hw : 1 = r_1 := Eq.symm hw
  subst hw
  obtain ⟨hP1, hD1⟩ := hB
  rw [ht] at hP1
  obtain ⟨hP, hD⟩ := va_join (wr := [(h0, .inr (22, [.int 0, .ref h1, .int 0, .ref h2, .int 0, .ref h3, .int 250, .ref h4, .int 0, .ref h5, .ref h6, .ref h7, .int 0, .ref h8, .ref h9, .ref h10, .int 0, .null, .int 0, .null, .int 0, .int 0, .int 0, .ref h11, .int 0, .ref h12, .ref h13, .ref h14, .int 0, .ref h15, .ref h16, .int 0])), (h7, .inl (g.2.1 0, 14, .inl f0))]) (w1 := []) hP hD [] [0, 1] rfl rfl (by decide) (by decide) hk1 hFc hP1 hD1
  clear hP1 hD1 hPc hDc hFc hk1 hz1 hvm ht
  generalize H1 = H at hP hS ⊢
  have hP : va_P g.1 vwCl [(h0, .inr (22, [.int 0, .ref h1, .int 0, .ref h2, .int 0, .ref h3, .int 250, .ref h4, .int 0, .ref h5, .ref h6, .ref h7, .int 0, .ref h8, .ref h9, .ref h10, .int 0, .null, .int 0, .null, .int 0, .int 0, .int 0, .ref h11, .int 0, .ref h12, .ref h13, .ref h14, .int 0, .ref h15, .ref h16, .int 0])), (h7, .inl (g.2.1 0, 14, .inl f0))] H := hP
  have hD : va_D A [(h0, .inr (22, [.int 0, .ref h1, .int 0, .ref h2, .int 0, .ref h3, .int 250, .ref h4, .int 0, .ref h5, .ref h6, .ref h7, .int 0, .ref h8, .ref h9, .ref h10, .int 0, .null, .int 0, .null, .int 0, .int 0, .int 0, .ref h11, .int 0, .ref h12, .ref h13, .ref h14, .int 0, .ref h15, .ref h16, .int 0])), (h7, .inl (g.2.1 0, 14, .inl f0))] := hD
  refine lv_if_eq (tgt := 15) hx hb dX21_group_8 (by decide) (fun c9 => absurd c9 (by decide)) (fun _ => ?_)
  refine lv_iconst (v := 0) hx hb dX21_group_11 (by decide) ?_
  refine lv_goto (tgt := 16) hx hb dX21_group_12 (by decide) ?_
  have hPc := hP.sub (ws' := [(h0, .inr (22, [.int 0, .ref h1, .int 0, .ref h2, .int 0, .ref h3, .int 250, .ref h4, .int 0, .ref h5, .ref h6, .ref h7, .int 0, .ref h8, .ref h9, .ref h10, .int 0, .null, .int 0, .null, .int 0, .int 0, .int 0, .ref h11, .int 0, .ref h12, .ref h13, .ref h14, .int 0, .ref h15, .ref h16, .int 0]))]) [0] rfl
  have hDc := hD.sub (ws' := [(h0, .inr (22, [.int 0, .ref h1, .int 0, .ref h2, .int 0, .ref h3, .int 250, .ref h4, .int 0, .ref h5, .ref h6, .ref h7, .int 0, .ref h8, .ref h9, .ref h10, .int 0, .null, .int 0, .null, .int 0, .int 0, .int 0, .ref h11, .int 0, .ref h12, .ref h13, .ref h14, .int 0, .ref h15, .ref h16, .int 0]))]) [0] (by decide) rfl
  have hFc := va_free (wc := [(h0, .inr (22, [.int 0, .ref h1, .int 0, .ref h2, .int 0, .ref h3, .int 250, .ref h4, .int 0, .ref h5, .ref h6, .ref h7, .int 0, .ref h8, .ref h9, .ref h10, .int 0, .null, .int 0, .null, .int 0, .int 0, .int 0, .ref h11, .int 0, .ref h12, .ref h13, .ref h14, .int 0, .ref h15, .ref h16, .int 0]))]) hD hS hA [0] rfl
  refine va_calli (va_runV (As := [.int 0]) (rest := []) ⟨hx, hb, hml, hown, hts⟩ (c9_X21_refused_1 l g h0 h1 h2 h3 h4 h5 h6 h7 h8 h9 h10 h11 h12 h13 h14 h15 h16 _) (cwV 1 hts g9_X21_group_13_1 rfl rfl rfl (by decide +kernel) ⟨Nat.le_of_ble_eq_true rfl, Nat.le_of_ble_eq_true rfl⟩) (mPreV (g := g) (wc := [(h0, .inr (22, [.int 0, .ref h1, .int 0, .ref h2, .int 0, .ref h3, .int 250, .ref h4, .int 0, .ref h5, .ref h6, .ref h7, .int 0, .ref h8, .ref h9, .ref h10, .int 0, .null, .int 0, .null, .int 0, .int 0, .int 0, .ref h11, .int 0, .ref h12, .ref h13, .ref h14, .int 0, .ref h15, .ref h16, .int 0]))]) (C := RX21) (ci := 22) (q0 := 0) hE hS hPc hDc hFc rfl rfl) rfl rfl hl.1 rfl (lv_room (Nat.le_of_ble_eq_true rfl)) dX21_group_16 ⟨Nat.le_of_ble_eq_true rfl, Nat.le_of_ble_eq_true rfl⟩) hS (fun q _ h => hFc q h) hFc (fun r_2 u t H1 locs ht hvm hw hB hz1 hk1 hS => ?_)
  replace hw : 0 = r_2 := Eq.symm hw
  subst hw
  obtain ⟨hP1, hD1⟩ := hB
  rw [ht] at hP1
  obtain ⟨hP, hD⟩ := va_join (wr := [(h7, .inl (g.2.1 0, 14, .inl f0))]) (w1 := [(h0, .inr (22, [.int 0, .ref h1, .int 0, .ref h2, .int 0, .ref h3, .int 250, .ref h4, .int 0, .ref h5, .ref h6, .ref h7, .int 0, .ref h8, .ref h9, .ref h10, .int 0, .null, .int 0, .null, .int 0, .int 0, .int 0, .ref h11, .int 0, .ref h12, .ref h13, .ref h14, .int 0, .ref h15, .ref h16, .int 0]))]) hP hD [0] [1] rfl rfl (by decide) (by decide) hk1 hFc hP1 hD1
  clear hP1 hD1 hPc hDc hFc hk1 hz1 hvm ht
  generalize H1 = H at hP hS ⊢
  have hP : va_P g.1 vwCl [(h7, .inl (g.2.1 0, 14, .inl f0)), (h0, .inr (22, [.int 0, .ref h1, .int 0, .ref h2, .int 0, .ref h3, .int 250, .ref h4, .int 0, .ref h5, .ref h6, .ref h7, .int 0, .ref h8, .ref h9, .ref h10, .int 0, .null, .int 0, .null, .int 0, .int 0, .int 0, .ref h11, .int 0, .ref h12, .ref h13, .ref h14, .int 0, .ref h15, .ref h16, .int 0]))] H := hP
  have hD : va_D A [(h7, .inl (g.2.1 0, 14, .inl f0)), (h0, .inr (22, [.int 0, .ref h1, .int 0, .ref h2, .int 0, .ref h3, .int 250, .ref h4, .int 0, .ref h5, .ref h6, .ref h7, .int 0, .ref h8, .ref h9, .ref h10, .int 0, .null, .int 0, .null, .int 0, .int 0, .int 0, .ref h11, .int 0, .ref h12, .ref h13, .ref h14, .int 0, .ref h15, .ref h16, .int 0]))] := hD
  refine lv_if_eq (tgt := 26) hx hb dX21_group_19 (by decide) (fun _ => ?_) (fun c9 => absurd (by decide) c9)
  refine lv_aload_n hx hb dX21_group_26 rfl (lv_at hl 0 rfl) ?_
  refine va_get (D := g.1) (ci := 22) (v := .ref h7) (C := RX21) (T := TX21) (N := 32) hx hb hts in9_X21_group_13_RX21 hown hK hP 1 rfl rfl 11 (by decide) (hts (.fieldLink RX21 107 "RegexloomModel" "told" "[I") (List.mem_of_getElem? (i := 10) rfl)) (fun _ h9 => h9) rfl dX21_group_27 ?_
  refine lv_iconst (v := 2) hx hb dX21_group_30 (by decide) ?_
  refine lv_iload_n hx hb dX21_group_31 rfl (lv_at hl 1 rfl) ?_
  refine lv_imul hx hb dX21_group_32 ?_
  refine e_top (y := 2) (by decide) ?_
  refine lv_iload_n hx hb dX21_group_33 rfl (lv_at hl 2 rfl) ?_
  refine lv_if_eq (tgt := 41) hx hb dX21_group_34 (by decide) (fun _ => ?_) (fun c9 => absurd (by decide) c9)
  refine lv_iconst (v := 0) hx hb dX21_group_41 (by decide) ?_
  refine lv_iadd hx hb dX21_group_42 ?_
  refine e_top (y := 2) (by decide) ?_
  refine va_iald hx hb hK hP 0 0 rfl rfl (vp_in_nI (n := 2) (by decide) (by decide)) dX21_group_43 ?_
  refine e_topv (y := .int (f0 2)) (by rfl) ?_
  have hP9 := hP.sub (ws' := [(h0, .inr (22, [.int 0, .ref h1, .int 0, .ref h2, .int 0, .ref h3, .int 250, .ref h4, .int 0, .ref h5, .ref h6, .ref h7, .int 0, .ref h8, .ref h9, .ref h10, .int 0, .null, .int 0, .null, .int 0, .int 0, .int 0, .ref h11, .int 0, .ref h12, .ref h13, .ref h14, .int 0, .ref h15, .ref h16, .int 0])), (h7, .inl (g.2.1 0, 14, .inl f0))]) [1, 0] rfl
  have hD9 := hD.sub (ws' := [(h0, .inr (22, [.int 0, .ref h1, .int 0, .ref h2, .int 0, .ref h3, .int 250, .ref h4, .int 0, .ref h5, .ref h6, .ref h7, .int 0, .ref h8, .ref h9, .ref h10, .int 0, .null, .int 0, .null, .int 0, .int 0, .int 0, .ref h11, .int 0, .ref h12, .ref h13, .ref h14, .int 0, .ref h15, .ref h16, .int 0])), (h7, .inl (g.2.1 0, 14, .inl f0))]) [1, 0] (by decide) rfl
  subst hAe
  exact W.iret (v := (f0 2)) hx hb hr (fun t ht hW => ⟨⟨(f0 2), (), rfl, rfl, by rw [ht]; exact hP9, hD9⟩, hS.F ht⟩) hS.2.2 dX21_group_44
def w9_X9_get_12 : List Cond := [.code yX9_get cX9_get 3 (some .int), .fieldLink RX9 28 "Regexloom$Table" "size" "I", .fieldLink RX9 9 "Regexloom$Table" "width" "I", .fieldLink RX9 24 "Regexloom$Table" "cells" "[I"] ++ (u_ws RX9 TX9 4)
set_option maxRecDepth 20000 in
theorem in9_X9_get_12_RX9 : ∀ w ∈ u_ws RX9 TX9 4, w ∈ w9_X9_get_12 := by decide +kernel
set_option maxHeartbeats 4000000 in
set_option maxRecDepth 100000 in
theorem c9_X9_get_12 (l : Launch) (g : G9) (h0 h1 sz : Nat) (f0 : Nat → Int32) : Met l yX9_get w9_X9_get_12 ({ frames := 0, cells := 0, slots := 0, locals := 0 }) (mP g [(h0, .inr (10, [.int 2, .int 7, .ref h1, .int 7])), (h1, .inl (g.2.1 0, 14, .inl f0))] sz [.ref h0, .int 2, .int 0]) (va_Qi (fun (r : Int32) (_ : Unit) => r = (f0 4)) (fun (_ : Unit) (t : State) => mB g [(h0, .inr (10, [.int 2, .int 7, .ref h1, .int 7])), (h1, .inl (g.2.1 0, 14, .inl f0))] sz [(h0, .inr (10, [.int 2, .int 7, .ref h1, .int 7])), (h1, .inl (g.2.1 0, 14, .inl f0))] t) (va_A [(h0, .inr (10, [.int 2, .int 7, .ref h1, .int 7])), (h1, .inl (g.2.1 0, 14, .inl f0))] sz)) 0 0 (va_A [(h0, .inr (10, [.int 2, .int 7, .ref h1, .int 7])), (h1, .inl (g.2.1 0, 14, .inl f0))] sz) := by
  refine Met.ofW (cc := cX9_get) (maxL := 3) (ret := (some .int)) (by decide) rfl ?_
  intro p e s m args below meth c s₁ B hml hv
  obtain ⟨rfl, hsz, hP, hD0, hE⟩ := hv
  have hx := B.exec
  have hb := B.bytes
  have hr := B.returns
  have hts := atoms_spec (ws := w9_X9_get_12) B.pre
  have hown : s.vm.findClass RX9 = some m.cls := findClass_of_methodNamed B.named
  have hlocks := B.notSynchronized
  subst hsz
  have hD := hD0.self (sz := s.heap.size)
  generalize hAe : va_A [(h0, .inr (10, [.int 2, .int 7, .ref h1, .int 7])), (h1, .inl (g.2.1 0, 14, .inl f0))] s.heap.size = A at hD hE ⊢
  have hA : ∀ q : Nat, s.heap.size ≤ q → A q := fun q h => by rw [← hAe]; exact Or.inr h
  have hK := hE.1
  have hS : va_S A s.heap s.heap [] := va_S.rf
  replace hP : va_P g.1 vwCl [(h0, .inr (10, [.int 2, .int 7, .ref h1, .int 7])), (h1, .inl (g.2.1 0, 14, .inl f0))] s.heap := hP
  have hl := lv_entry ([.ref h0, .int 2, .int 0]) (n := 3) (Nat.le_of_ble_eq_true rfl)
  rw [lg_entry_eq]
  generalize (lg_sl ([.ref h0, .int 2, .int 0]) ++ List.replicate (3 - (lg_sl ([.ref h0, .int 2, .int 0])).length) Slot.unset).toArray = ls at hl ⊢
  replace hl : lv_has ls 3 [(0, .ref h0), (1, .int 2), (2, .int 0)] := hl
  have hH0 : s.heap.size ≤ s.heap.size := Nat.le_refl _
  refine lv_iload_n hx hb dX9_get_0 rfl (lv_at hl 1 rfl) ?_
  refine lv_if_lt (tgt := 24) hx hb dX9_get_1 (by decide) (fun c9 => absurd c9 (by decide)) (fun _ => ?_)
  refine lv_iload_n hx hb dX9_get_4 rfl (lv_at hl 1 rfl) ?_
  refine lv_aload_n hx hb dX9_get_5 rfl (lv_at hl 0 rfl) ?_
  refine va_get (D := g.1) (ci := 10) (v := .int 7) (C := RX9) (T := TX9) (N := 4) hx hb hts in9_X9_get_12_RX9 hown hK hP 0 rfl rfl 3 (by decide) (hts (.fieldLink RX9 28 "Regexloom$Table" "size" "I") (List.mem_of_getElem? (i := 1) rfl)) (fun _ h9 => h9) rfl dX9_get_6 ?_
  refine lv_icmp_ge (tgt := 24) hx hb dX9_get_9 (by decide) (fun c9 => absurd c9 (by decide)) (fun _ => ?_)
  refine lv_iload_n hx hb dX9_get_12 rfl (lv_at hl 2 rfl) ?_
  refine lv_if_lt (tgt := 24) hx hb dX9_get_13 (by decide) (fun c9 => absurd c9 (by decide)) (fun _ => ?_)
  refine lv_iload_n hx hb dX9_get_16 rfl (lv_at hl 2 rfl) ?_
  refine lv_aload_n hx hb dX9_get_17 rfl (lv_at hl 0 rfl) ?_
  refine va_get (D := g.1) (ci := 10) (v := .int 2) (C := RX9) (T := TX9) (N := 4) hx hb hts in9_X9_get_12_RX9 hown hK hP 0 rfl rfl 0 (by decide) (hts (.fieldLink RX9 9 "Regexloom$Table" "width" "I") (List.mem_of_getElem? (i := 2) rfl)) (fun _ h9 => h9) rfl dX9_get_18 ?_
  refine lv_icmp_lt (tgt := 26) hx hb dX9_get_21 (by decide) (fun _ => ?_) (fun c9 => absurd (by decide) c9)
  refine lv_aload_n hx hb dX9_get_26 rfl (lv_at hl 0 rfl) ?_
  refine va_get (D := g.1) (ci := 10) (v := .ref h1) (C := RX9) (T := TX9) (N := 4) hx hb hts in9_X9_get_12_RX9 hown hK hP 0 rfl rfl 2 (by decide) (hts (.fieldLink RX9 24 "Regexloom$Table" "cells" "[I") (List.mem_of_getElem? (i := 3) rfl)) (fun _ h9 => h9) rfl dX9_get_27 ?_
  refine lv_iload_n hx hb dX9_get_30 rfl (lv_at hl 1 rfl) ?_
  refine lv_aload_n hx hb dX9_get_31 rfl (lv_at hl 0 rfl) ?_
  refine va_get (D := g.1) (ci := 10) (v := .int 2) (C := RX9) (T := TX9) (N := 4) hx hb hts in9_X9_get_12_RX9 hown hK hP 0 rfl rfl 0 (by decide) (hts (.fieldLink RX9 9 "Regexloom$Table" "width" "I") (List.mem_of_getElem? (i := 2) rfl)) (fun _ h9 => h9) rfl dX9_get_32 ?_
  refine lv_imul hx hb dX9_get_35 ?_
  refine e_top (y := 4) (by decide) ?_
  refine lv_iload_n hx hb dX9_get_36 rfl (lv_at hl 2 rfl) ?_
  refine lv_iadd hx hb dX9_get_37 ?_
  refine e_top (y := 4) (by decide) ?_
  refine va_iald hx hb hK hP 1 0 rfl rfl (vp_in_nI (n := 4) (by decide) (by decide)) dX9_get_38 ?_
  refine e_topv (y := .int (f0 4)) (by rfl) ?_
  have hP9 := hP.sub (ws' := [(h0, .inr (10, [.int 2, .int 7, .ref h1, .int 7])), (h1, .inl (g.2.1 0, 14, .inl f0))]) [0, 1] rfl
  have hD9 := hD.sub (ws' := [(h0, .inr (10, [.int 2, .int 7, .ref h1, .int 7])), (h1, .inl (g.2.1 0, 14, .inl f0))]) [0, 1] (by decide) rfl
  subst hAe
  exact W.iret (v := (f0 4)) hx hb hr (fun t ht hW => ⟨⟨(f0 4), (), rfl, rfl, by rw [ht]; exact hP9, hD9⟩, hS.F ht⟩) hS.2.2 dX9_get_39
def w9_X11_group_14 : List Cond := [.code yX11_group cX11_group 3 (some .int), .fieldLink RX11 78 "Regexloom" "bounds" "LRegexloom$Table;", .methodLink RX11 225 yX9_get, .instanceMethod yX9_get, .selects RX9 yX9_get yX9_get, .initialized RX9, .code yX9_get cX9_get 3 (some .int), .fieldLink RX9 28 "Regexloom$Table" "size" "I", .fieldLink RX9 9 "Regexloom$Table" "width" "I", .fieldLink RX9 24 "Regexloom$Table" "cells" "[I"] ++ (u_ws RX11 TX11 17 ++ u_ws RX9 TX9 4)
set_option maxRecDepth 20000 in
theorem in9_X11_group_14_RX11 : ∀ w ∈ u_ws RX11 TX11 17, w ∈ w9_X11_group_14 := by decide +kernel
set_option maxRecDepth 20000 in
theorem in9_X11_group_14_RX9 : ∀ w ∈ u_ws RX9 TX9 4, w ∈ w9_X11_group_14 := by decide +kernel
set_option maxRecDepth 20000 in
theorem g9_X11_group_14_0 : GoodIn w9_X11_group_14 (wsV RX11 225 RX9 yX9_get w9_X9_get_12) := goodIn_r _ [2, 3, 4, 5, 6, 7, 8, 9, 27, 28, 29, 30] (by decide +kernel) (by decide +kernel)
set_option maxHeartbeats 4000000 in
set_option maxRecDepth 100000 in
theorem c9_X11_group_14 (l : Launch) (g : G9) (h0 h1 h2 h3 h4 h5 h6 h7 h8 h9 h10 h11 h12 h13 h14 sz : Nat) (f0 : Nat → Int32) : Met l yX11_group w9_X11_group_14 ({ frames := 1, cells := 0, slots := 0, locals := 22 }) (mP g [(h0, .inr (12, [.ref h1, .int 0, .ref h2, .ref h3, .ref h4, .ref h5, .ref h6, .ref h7, .int (-1), .ref h8, .ref h9, .int 250, .ref h10, .int 0, .ref h11, .ref h12, .ref h13])), (h10, .inr (10, [.int 2, .int 7, .ref h14, .int 7])), (h14, .inl (g.2.1 0, 14, .inl f0))] sz [.ref h0, .int 2, .int 0]) (va_Qi (fun (r : Int32) (_ : Unit) => r = (f0 4)) (fun (_ : Unit) (t : State) => mB g [(h0, .inr (12, [.ref h1, .int 0, .ref h2, .ref h3, .ref h4, .ref h5, .ref h6, .ref h7, .int (-1), .ref h8, .ref h9, .int 250, .ref h10, .int 0, .ref h11, .ref h12, .ref h13])), (h10, .inr (10, [.int 2, .int 7, .ref h14, .int 7])), (h14, .inl (g.2.1 0, 14, .inl f0))] sz [(h0, .inr (12, [.ref h1, .int 0, .ref h2, .ref h3, .ref h4, .ref h5, .ref h6, .ref h7, .int (-1), .ref h8, .ref h9, .int 250, .ref h10, .int 0, .ref h11, .ref h12, .ref h13])), (h10, .inr (10, [.int 2, .int 7, .ref h14, .int 7])), (h14, .inl (g.2.1 0, 14, .inl f0))] t) (va_A [(h0, .inr (12, [.ref h1, .int 0, .ref h2, .ref h3, .ref h4, .ref h5, .ref h6, .ref h7, .int (-1), .ref h8, .ref h9, .int 250, .ref h10, .int 0, .ref h11, .ref h12, .ref h13])), (h10, .inr (10, [.int 2, .int 7, .ref h14, .int 7])), (h14, .inl (g.2.1 0, 14, .inl f0))] sz)) 0 0 (va_A [(h0, .inr (12, [.ref h1, .int 0, .ref h2, .ref h3, .ref h4, .ref h5, .ref h6, .ref h7, .int (-1), .ref h8, .ref h9, .int 250, .ref h10, .int 0, .ref h11, .ref h12, .ref h13])), (h10, .inr (10, [.int 2, .int 7, .ref h14, .int 7])), (h14, .inl (g.2.1 0, 14, .inl f0))] sz) := by
  refine Met.ofW (cc := cX11_group) (maxL := 3) (ret := (some .int)) (by decide) rfl ?_
  intro p e s m args below meth c s₁ B hml hv
  obtain ⟨rfl, hsz, hP, hD0, hE⟩ := hv
  have hx := B.exec
  have hb := B.bytes
  have hr := B.returns
  have hts := atoms_spec (ws := w9_X11_group_14) B.pre
  have hown : s.vm.findClass RX11 = some m.cls := findClass_of_methodNamed B.named
  have hlocks := B.notSynchronized
  subst hsz
  have hD := hD0.self (sz := s.heap.size)
  generalize hAe : va_A [(h0, .inr (12, [.ref h1, .int 0, .ref h2, .ref h3, .ref h4, .ref h5, .ref h6, .ref h7, .int (-1), .ref h8, .ref h9, .int 250, .ref h10, .int 0, .ref h11, .ref h12, .ref h13])), (h10, .inr (10, [.int 2, .int 7, .ref h14, .int 7])), (h14, .inl (g.2.1 0, 14, .inl f0))] s.heap.size = A at hD hE ⊢
  have hA : ∀ q : Nat, s.heap.size ≤ q → A q := fun q h => by rw [← hAe]; exact Or.inr h
  have hK := hE.1
  have hS : va_S A s.heap s.heap [] := va_S.rf
  replace hP : va_P g.1 vwCl [(h0, .inr (12, [.ref h1, .int 0, .ref h2, .ref h3, .ref h4, .ref h5, .ref h6, .ref h7, .int (-1), .ref h8, .ref h9, .int 250, .ref h10, .int 0, .ref h11, .ref h12, .ref h13])), (h10, .inr (10, [.int 2, .int 7, .ref h14, .int 7])), (h14, .inl (g.2.1 0, 14, .inl f0))] s.heap := hP
  have hl := lv_entry ([.ref h0, .int 2, .int 0]) (n := 3) (Nat.le_of_ble_eq_true rfl)
  rw [lg_entry_eq]
  generalize (lg_sl ([.ref h0, .int 2, .int 0]) ++ List.replicate (3 - (lg_sl ([.ref h0, .int 2, .int 0])).length) Slot.unset).toArray = ls at hl ⊢
  replace hl : lv_has ls 3 [(0, .ref h0), (1, .int 2), (2, .int 0)] := hl
  have hH0 : s.heap.size ≤ s.heap.size := Nat.le_refl _
  refine lv_iload_n hx hb dX11_group_0 rfl (lv_at hl 1 rfl) ?_
  refine lv_if_lt (tgt := 10) hx hb dX11_group_1 (by decide) (fun c9 => absurd c9 (by decide)) (fun _ => ?_)
  refine lv_iload_n hx hb dX11_group_4 rfl (lv_at hl 1 rfl) ?_
  refine lv_bipush (v := 6) hx hb dX11_group_5 (by decide) ?_
  refine lv_icmp_le (tgt := 20) hx hb dX11_group_7 (by decide) (fun _ => ?_) (fun c9 => absurd (by decide) c9)
  refine lv_aload_n hx hb dX11_group_20 rfl (lv_at hl 0 rfl) ?_
  refine va_get (D := g.1) (ci := 12) (v := .ref h10) (C := RX11) (T := TX11) (N := 17) hx hb hts in9_X11_group_14_RX11 hown hK hP 0 rfl rfl 12 (by decide) (hts (.fieldLink RX11 78 "Regexloom" "bounds" "LRegexloom$Table;") (List.mem_of_getElem? (i := 1) rfl)) (fun _ h9 => h9) rfl dX11_group_21 ?_
  refine lv_iload_n hx hb dX11_group_24 rfl (lv_at hl 1 rfl) ?_
  refine lv_iload_n hx hb dX11_group_25 rfl (lv_at hl 2 rfl) ?_
  refine lv_if_eq (tgt := 33) hx hb dX11_group_26 (by decide) (fun _ => ?_) (fun c9 => absurd (by decide) c9)
  refine lv_iconst (v := 0) hx hb dX11_group_33 (by decide) ?_
  have hPc := hP.sub (ws' := [(h10, .inr (10, [.int 2, .int 7, .ref h14, .int 7])), (h14, .inl (g.2.1 0, 14, .inl f0))]) [1, 2] rfl
  have hDc := hD.sub (ws' := [(h10, .inr (10, [.int 2, .int 7, .ref h14, .int 7])), (h14, .inl (g.2.1 0, 14, .inl f0))]) [1, 2] (by decide) rfl
  have hFc := va_free (wc := [(h10, .inr (10, [.int 2, .int 7, .ref h14, .int 7])), (h14, .inl (g.2.1 0, 14, .inl f0))]) hD hS hA [1, 2] rfl
  refine va_calli (va_runV (As := [.int 2, .int 0]) (rest := []) ⟨hx, hb, hml, hown, hts⟩ (c9_X9_get_12 l g h10 h14 _ f0) (cwV 2 hts g9_X11_group_14_0 rfl rfl rfl (by decide +kernel) ⟨Nat.le_of_ble_eq_true rfl, Nat.le_of_ble_eq_true rfl⟩) (mPreV (g := g) (wc := [(h10, .inr (10, [.int 2, .int 7, .ref h14, .int 7])), (h14, .inl (g.2.1 0, 14, .inl f0))]) (C := RX9) (ci := 10) (q0 := 0) hE hS hPc hDc hFc rfl rfl) rfl rfl hl.1 rfl (lv_room (Nat.le_of_ble_eq_true rfl)) dX11_group_34 ⟨Nat.le_of_ble_eq_true rfl, Nat.le_of_ble_eq_true rfl⟩) hS (fun q _ h => hFc q h) hFc (fun r_1 u t H1 locs ht hvm hw hB hz1 hk1 hS => ?_)
  replace hw : (f0 4) = r_1 := Eq.symm hw
  subst hw
  obtain ⟨hP1, hD1⟩ := hB
  rw [ht] at hP1
  obtain ⟨hP, hD⟩ := va_join (wr := [(h0, .inr (12, [.ref h1, .int 0, .ref h2, .ref h3, .ref h4, .ref h5, .ref h6, .ref h7, .int (-1), .ref h8, .ref h9, .int 250, .ref h10, .int 0, .ref h11, .ref h12, .ref h13]))]) (w1 := [(h10, .inr (10, [.int 2, .int 7, .ref h14, .int 7])), (h14, .inl (g.2.1 0, 14, .inl f0))]) hP hD [1, 2] [0] rfl rfl (by decide) (by decide) hk1 hFc hP1 hD1
  clear hP1 hD1 hPc hDc hFc hk1 hz1 hvm ht
  generalize H1 = H at hP hS ⊢
  have hP : va_P g.1 vwCl [(h0, .inr (12, [.ref h1, .int 0, .ref h2, .ref h3, .ref h4, .ref h5, .ref h6, .ref h7, .int (-1), .ref h8, .ref h9, .int 250, .ref h10, .int 0, .ref h11, .ref h12, .ref h13])), (h10, .inr (10, [.int 2, .int 7, .ref h14, .int 7])), (h14, .inl (g.2.1 0, 14, .inl f0))] H := hP
  have hD : va_D A [(h0, .inr (12, [.ref h1, .int 0, .ref h2, .ref h3, .ref h4, .ref h5, .ref h6, .ref h7, .int (-1), .ref h8, .ref h9, .int 250, .ref h10, .int 0, .ref h11, .ref h12, .ref h13])), (h10, .inr (10, [.int 2, .int 7, .ref h14, .int 7])), (h14, .inl (g.2.1 0, 14, .inl f0))] := hD
  refine e_top (y := (f0 4)) (by rfl) ?_
  have hP9 := hP.sub (ws' := [(h0, .inr (12, [.ref h1, .int 0, .ref h2, .ref h3, .ref h4, .ref h5, .ref h6, .ref h7, .int (-1), .ref h8, .ref h9, .int 250, .ref h10, .int 0, .ref h11, .ref h12, .ref h13])), (h10, .inr (10, [.int 2, .int 7, .ref h14, .int 7])), (h14, .inl (g.2.1 0, 14, .inl f0))]) [0, 1, 2] rfl
  have hD9 := hD.sub (ws' := [(h0, .inr (12, [.ref h1, .int 0, .ref h2, .ref h3, .ref h4, .ref h5, .ref h6, .ref h7, .int (-1), .ref h8, .ref h9, .int 250, .ref h10, .int 0, .ref h11, .ref h12, .ref h13])), (h10, .inr (10, [.int 2, .int 7, .ref h14, .int 7])), (h14, .inl (g.2.1 0, 14, .inl f0))]) [0, 1, 2] (by decide) rfl
  subst hAe
  exact W.iret (v := (f0 4)) hx hb hr (fun t ht hW => ⟨⟨(f0 4), (), rfl, rfl, by rw [ht]; exact hP9, hD9⟩, hS.F ht⟩) hS.2.2 dX11_group_37

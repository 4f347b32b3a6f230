def w9_X11_clear_1 : List Cond := [.code yX11_clear cX11_clear 2 (some .int), .fieldLink RX11 116 "Regexloom" "drafted" "I"] ++ (u_ws RX11 TX11 17)
set_option maxRecDepth 20000 in
theorem in9_X11_clear_1_RX11 : ∀ w ∈ u_ws RX11 TX11 17, w ∈ w9_X11_clear_1 := by decide +kernel
set_option maxHeartbeats 4000000 in
set_option maxRecDepth 100000 in
theorem c9_X11_clear_1 (l : Launch) (g : G9) (h0 h1 h2 h3 h4 h5 h6 h7 h8 h9 h10 h11 h12 h13 sz : Nat) : Met l yX11_clear w9_X11_clear_1 ({ frames := 0, cells := 0, slots := 0, locals := 0 }) (mP g [(h0, .inr (12, [.ref h1, .int 0, .ref h2, .ref h3, .ref h4, .ref h5, .ref h6, .ref h7, .int (-1), .ref h8, .ref h9, .int 250, .ref h10, .int 0, .ref h11, .ref h12, .ref h13]))] sz [.ref h0]) (va_Qi (fun (r : Int32) (_ : Unit) => r = 0) (fun (_ : Unit) (t : State) => mB g [(h0, .inr (12, [.ref h1, .int 0, .ref h2, .ref h3, .ref h4, .ref h5, .ref h6, .ref h7, .int (-1), .ref h8, .ref h9, .int 250, .ref h10, .int 0, .ref h11, .ref h12, .ref h13]))] sz [(h0, .inr (12, [.ref h1, .int 0, .ref h2, .ref h3, .ref h4, .ref h5, .ref h6, .ref h7, .int (-1), .ref h8, .ref h9, .int 250, .ref h10, .int 0, .ref h11, .ref h12, .ref h13]))] t) (va_A [(h0, .inr (12, [.ref h1, .int 0, .ref h2, .ref h3, .ref h4, .ref h5, .ref h6, .ref h7, .int (-1), .ref h8, .ref h9, .int 250, .ref h10, .int 0, .ref h11, .ref h12, .ref h13]))] sz)) 0 0 (va_A [(h0, .inr (12, [.ref h1, .int 0, .ref h2, .ref h3, .ref h4, .ref h5, .ref h6, .ref h7, .int (-1), .ref h8, .ref h9, .int 250, .ref h10, .int 0, .ref h11, .ref h12, .ref h13]))] sz) := by
  refine Met.ofW (cc := cX11_clear) (maxL := 2) (ret := (some .int)) (by decide) rfl ?_
  intro p e s m args below meth c s₁ B hml hv
  obtain ⟨rfl, hsz, hP, hD0, hE⟩ := hv
  have hx := B.exec
  have hb := B.bytes
  have hr := B.returns
  have hts := atoms_spec (ws := w9_X11_clear_1) B.pre
  have hown : s.vm.findClass RX11 = some m.cls := findClass_of_methodNamed B.named
  have hlocks := B.notSynchronized
  subst hsz
  have hD := hD0.self (sz := s.heap.size)
  generalize hAe : va_A [(h0, .inr (12, [.ref h1, .int 0, .ref h2, .ref h3, .ref h4, .ref h5, .ref h6, .ref h7, .int (-1), .ref h8, .ref h9, .int 250, .ref h10, .int 0, .ref h11, .ref h12, .ref h13]))] s.heap.size = A at hD hE ⊢
  have hA : ∀ q : Nat, s.heap.size ≤ q → A q := fun q h => by rw [← hAe]; exact Or.inr h
  have hK := hE.1
  have hS : va_S A s.heap s.heap [] := va_S.rf
  replace hP : va_P g.1 vwCl [(h0, .inr (12, [.ref h1, .int 0, .ref h2, .ref h3, .ref h4, .ref h5, .ref h6, .ref h7, .int (-1), .ref h8, .ref h9, .int 250, .ref h10, .int 0, .ref h11, .ref h12, .ref h13]))] s.heap := hP
  have hl := lv_entry ([.ref h0]) (n := 2) (Nat.le_of_ble_eq_true rfl)
  rw [lg_entry_eq]
  generalize (lg_sl ([.ref h0]) ++ List.replicate (2 - (lg_sl ([.ref h0])).length) Slot.unset).toArray = ls at hl ⊢
  replace hl : lv_has ls 2 [(0, .ref h0)] := hl
  have hH0 : s.heap.size ≤ s.heap.size := Nat.le_refl _
  refine lv_aload_n hx hb dX11_clear_0 rfl (lv_at hl 0 rfl) ?_
  refine va_get (D := g.1) (ci := 12) (v := .int 0) (C := RX11) (T := TX11) (N := 17) hx hb hts in9_X11_clear_1_RX11 hown hK hP 0 rfl rfl 1 (by decide) (hts (.fieldLink RX11 116 "Regexloom" "drafted" "I") (List.mem_of_getElem? (i := 1) rfl)) (fun _ h9 => h9) rfl dX11_clear_1 ?_
  refine lv_istore_n (lv' := [(1, .int 0), (0, .ref h0)]) hx hb dX11_clear_4 rfl hl (by decide) rfl (fun ls hl => ?_)
  refine lv_aload_n hx hb dX11_clear_5 rfl (lv_at hl 1 rfl) ?_
  refine lv_iconst (v := 0) hx hb dX11_clear_6 (by decide) ?_
  refine va_put (D := g.1) (ci := 12) (v := .int 0) (ty := .int) (C := RX11) (T := TX11) (N := 17) hx hb hts in9_X11_clear_1_RX11 tyX11 tyX11_ok nmX11 hown hK hP hD hS 0 rfl rfl 1 (by decide) (hts (.fieldLink RX11 116 "Regexloom" "drafted" "I") (List.mem_of_getElem? (i := 1) rfl)) (fun _ h9 => h9) rfl (by decide +kernel) rfl rfl (Nat.le_of_ble_eq_true rfl) dX11_clear_7 (fun H locs hP hD hS => ?_)
  have hP : va_P g.1 vwCl [(h0, .inr (12, [.ref h1, .int 0, .ref h2, .ref h3, .ref h4, .ref h5, .ref h6, .ref h7, .int (-1), .ref h8, .ref h9, .int 250, .ref h10, .int 0, .ref h11, .ref h12, .ref h13]))] H := hP
  have hD : va_D A [(h0, .inr (12, [.ref h1, .int 0, .ref h2, .ref h3, .ref h4, .ref h5, .ref h6, .ref h7, .int (-1), .ref h8, .ref h9, .int 250, .ref h10, .int 0, .ref h11, .ref h12, .ref h13]))] := hD
  refine lv_iload_n hx hb dX11_clear_10 rfl (lv_at hl 0 rfl) ?_
  have hP9 := hP.sub (ws' := [(h0, .inr (12, [.ref h1, .int 0, .ref h2, .ref h3, .ref h4, .ref h5, .ref h6, .ref h7, .int (-1), .ref h8, .ref h9, .int 250, .ref h10, .int 0, .ref h11, .ref h12, .ref h13]))]) [0] rfl
  have hD9 := hD.sub (ws' := [(h0, .inr (12, [.ref h1, .int 0, .ref h2, .ref h3, .ref h4, .ref h5, .ref h6, .ref h7, .int (-1), .ref h8, .ref h9, .int 250, .ref h10, .int 0, .ref h11, .ref h12, .ref h13]))]) [0] (by decide) rfl
  subst hAe
  exact W.iret (v := 0) hx hb hr (fun t ht hW => ⟨⟨0, (), rfl, rfl, by rw [ht]; exact hP9, hD9⟩, hS.F ht⟩) hS.2.2 dX11_clear_11
def w9_X21_fine_1 : List Cond := [.code yX21_fine cX21_fine 2 (some .int), .fieldLink RX21 144 "RegexloomModel" "refusal" "I"] ++ (u_ws RX21 TX21 32)
set_option maxRecDepth 20000 in
theorem in9_X21_fine_1_RX21 : ∀ w ∈ u_ws RX21 TX21 32, w ∈ w9_X21_fine_1 := by decide +kernel
set_option maxHeartbeats 4000000 in
set_option maxRecDepth 100000 in
theorem c9_X21_fine_1 (l : Launch) (g : G9) (h0 h1 h2 h3 h4 h5 h6 h7 h8 h9 h10 h11 h12 h13 h14 h15 h16 sz : Nat) : Met l yX21_fine w9_X21_fine_1 ({ frames := 0, cells := 0, slots := 0, locals := 0 }) (mP g [(h0, .inr (22, [.int 0, .ref h1, .int 0, .ref h2, .int 0, .ref h3, .int 250, .ref h4, .int 0, .ref h5, .ref h6, .ref h7, .int 0, .ref h8, .ref h9, .ref h10, .int 0, .null, .int 0, .null, .int 0, .int 0, .int 0, .ref h11, .int 0, .ref h12, .ref h13, .ref h14, .int 0, .ref h15, .ref h16, .int 0]))] sz [.ref h0, .int 0]) (va_Qi (fun (r : Int32) (_ : Unit) => r = 0) (fun (_ : Unit) (t : State) => mB g [(h0, .inr (22, [.int 0, .ref h1, .int 0, .ref h2, .int 0, .ref h3, .int 250, .ref h4, .int 0, .ref h5, .ref h6, .ref h7, .int 0, .ref h8, .ref h9, .ref h10, .int 0, .null, .int 0, .null, .int 0, .int 0, .int 0, .ref h11, .int 0, .ref h12, .ref h13, .ref h14, .int 0, .ref h15, .ref h16, .int 0]))] sz [(h0, .inr (22, [.int 0, .ref h1, .int 0, .ref h2, .int 0, .ref h3, .int 250, .ref h4, .int 0, .ref h5, .ref h6, .ref h7, .int 0, .ref h8, .ref h9, .ref h10, .int 0, .null, .int 0, .null, .int 0, .int 0, .int 0, .ref h11, .int 0, .ref h12, .ref h13, .ref h14, .int 0, .ref h15, .ref h16, .int 0]))] t) (va_A [(h0, .inr (22, [.int 0, .ref h1, .int 0, .ref h2, .int 0, .ref h3, .int 250, .ref h4, .int 0, .ref h5, .ref h6, .ref h7, .int 0, .ref h8, .ref h9, .ref h10, .int 0, .null, .int 0, .null, .int 0, .int 0, .int 0, .ref h11, .int 0, .ref h12, .ref h13, .ref h14, .int 0, .ref h15, .ref h16, .int 0]))] sz)) 0 0 (va_A [(h0, .inr (22, [.int 0, .ref h1, .int 0, .ref h2, .int 0, .ref h3, .int 250, .ref h4, .int 0, .ref h5, .ref h6, .ref h7, .int 0, .ref h8, .ref h9, .ref h10, .int 0, .null, .int 0, .null, .int 0, .int 0, .int 0, .ref h11, .int 0, .ref h12, .ref h13, .ref h14, .int 0, .ref h15, .ref h16, .int 0]))] sz) := by
  refine Met.ofW (cc := cX21_fine) (maxL := 2) (ret := (some .int)) (by decide) rfl ?_
  intro p e s m args below meth c s₁ B hml hv
  obtain ⟨rfl, hsz, hP, hD0, hE⟩ := hv
  have hx := B.exec
  have hb := B.bytes
  have hr := B.returns
  have hts := atoms_spec (ws := w9_X21_fine_1) B.pre
  have hown : s.vm.findClass RX21 = some m.cls := findClass_of_methodNamed B.named
  have hlocks := B.notSynchronized
  subst hsz
  have hD := hD0.self (sz := s.heap.size)
  generalize hAe : va_A [(h0, .inr (22, [.int 0, .ref h1, .int 0, .ref h2, .int 0, .ref h3, .int 250, .ref h4, .int 0, .ref h5, .ref h6, .ref h7, .int 0, .ref h8, .ref h9, .ref h10, .int 0, .null, .int 0, .null, .int 0, .int 0, .int 0, .ref h11, .int 0, .ref h12, .ref h13, .ref h14, .int 0, .ref h15, .ref h16, .int 0]))] s.heap.size = A at hD hE ⊢
  have hA : ∀ q : Nat, s.heap.size ≤ q → A q := fun q h => by rw [← hAe]; exact Or.inr h
  have hK := hE.1
  have hS : va_S A s.heap s.heap [] := va_S.rf
  replace hP : va_P g.1 vwCl [(h0, .inr (22, [.int 0, .ref h1, .int 0, .ref h2, .int 0, .ref h3, .int 250, .ref h4, .int 0, .ref h5, .ref h6, .ref h7, .int 0, .ref h8, .ref h9, .ref h10, .int 0, .null, .int 0, .null, .int 0, .int 0, .int 0, .ref h11, .int 0, .ref h12, .ref h13, .ref h14, .int 0, .ref h15, .ref h16, .int 0]))] s.heap := hP
  have hl := lv_entry ([.ref h0, .int 0]) (n := 2) (Nat.le_of_ble_eq_true rfl)
  rw [lg_entry_eq]
  generalize (lg_sl ([.ref h0, .int 0]) ++ List.replicate (2 - (lg_sl ([.ref h0, .int 0])).length) Slot.unset).toArray = ls at hl ⊢
  replace hl : lv_has ls 2 [(0, .ref h0), (1, .int 0)] := hl
  have hH0 : s.heap.size ≤ s.heap.size := Nat.le_refl _
  refine lv_aload_n hx hb dX21_fine_0 rfl (lv_at hl 0 rfl) ?_
  refine lv_iconst (v := 0) hx hb dX21_fine_1 (by decide) ?_
  refine va_put (D := g.1) (ci := 22) (v := .int 0) (ty := .int) (C := RX21) (T := TX21) (N := 32) hx hb hts in9_X21_fine_1_RX21 tyX21 tyX21_ok nmX21 hown hK hP hD hS 0 rfl rfl 0 (by decide) (hts (.fieldLink RX21 144 "RegexloomModel" "refusal" "I") (List.mem_of_getElem? (i := 1) rfl)) (fun _ h9 => h9) rfl (by decide +kernel) rfl rfl (Nat.le_of_ble_eq_true rfl) dX21_fine_2 (fun H locs hP hD hS => ?_)
  have hP : va_P g.1 vwCl [(h0, .inr (22, [.int 0, .ref h1, .int 0, .ref h2, .int 0, .ref h3, .int 250, .ref h4, .int 0, .ref h5, .ref h6, .ref h7, .int 0, .ref h8, .ref h9, .ref h10, .int 0, .null, .int 0, .null, .int 0, .int 0, .int 0, .ref h11, .int 0, .ref h12, .ref h13, .ref h14, .int 0, .ref h15, .ref h16, .int 0]))] H := hP
  have hD : va_D A [(h0, .inr (22, [.int 0, .ref h1, .int 0, .ref h2, .int 0, .ref h3, .int 250, .ref h4, .int 0, .ref h5, .ref h6, .ref h7, .int 0, .ref h8, .ref h9, .ref h10, .int 0, .null, .int 0, .null, .int 0, .int 0, .int 0, .ref h11, .int 0, .ref h12, .ref h13, .ref h14, .int 0, .ref h15, .ref h16, .int 0]))] := hD
  refine lv_iload_n hx hb dX21_fine_5 rfl (lv_at hl 1 rfl) ?_
  have hP9 := hP.sub (ws' := [(h0, .inr (22, [.int 0, .ref h1, .int 0, .ref h2, .int 0, .ref h3, .int 250, .ref h4, .int 0, .ref h5, .ref h6, .ref h7, .int 0, .ref h8, .ref h9, .ref h10, .int 0, .null, .int 0, .null, .int 0, .int 0, .int 0, .ref h11, .int 0, .ref h12, .ref h13, .ref h14, .int 0, .ref h15, .ref h16, .int 0]))]) [0] rfl
  have hD9 := hD.sub (ws' := [(h0, .inr (22, [.int 0, .ref h1, .int 0, .ref h2, .int 0, .ref h3, .int 250, .ref h4, .int 0, .ref h5, .ref h6, .ref h7, .int 0, .ref h8, .ref h9, .ref h10, .int 0, .null, .int 0, .null, .int 0, .int 0, .int 0, .ref h11, .int 0, .ref h12, .ref h13, .ref h14, .int 0, .ref h15, .ref h16, .int 0]))]) [0] (by decide) rfl
  subst hAe
  exact W.iret (v := 0) hx hb hr (fun t ht hW => ⟨⟨0, (), rfl, rfl, by rw [ht]; exact hP9, hD9⟩, hS.F ht⟩) hS.2.2 dX21_fine_6
def w9_X21_clear_1 : List Cond := [.code yX21_clear cX21_clear 2 (some .int), .fieldLink RX21 151 "RegexloomModel" "drafted" "I", .methodLink RX21 157 yX21_fine, .instanceMethod yX21_fine, .selects RX21 yX21_fine yX21_fine, .initialized RX21, .code yX21_fine cX21_fine 2 (some .int), .fieldLink RX21 144 "RegexloomModel" "refusal" "I"] ++ (u_ws RX21 TX21 32)
set_option maxRecDepth 20000 in
theorem in9_X21_clear_1_RX21 : ∀ w ∈ u_ws RX21 TX21 32, w ∈ w9_X21_clear_1 := by decide +kernel
set_option maxRecDepth 20000 in
theorem g9_X21_clear_1_0 : GoodIn w9_X21_clear_1 (wsV RX21 157 RX21 yX21_fine w9_X21_fine_1) := goodIn_r _ [2, 3, 4, 5, 6, 7, 8, 9, 10, 11, 12, 13, 14, 15, 16, 17, 18, 19, 20, 21, 22, 23, 24, 25, 26, 27, 28, 29, 30, 31, 32, 33, 34, 35, 36, 37, 38, 39] (by decide +kernel) (by decide +kernel)
set_option maxHeartbeats 4000000 in
set_option maxRecDepth 100000 in
theorem c9_X21_clear_1 (l : Launch) (g : G9) (h0 h1 h2 h3 h4 h5 h6 h7 h8 h9 h10 h11 h12 h13 h14 h15 h16 sz : Nat) : Met l yX21_clear w9_X21_clear_1 ({ frames := 1, cells := 0, slots := 0, locals := 21 }) (mP g [(h0, .inr (22, [.int 0, .ref h1, .int 0, .ref h2, .int 0, .ref h3, .int 250, .ref h4, .int 0, .ref h5, .ref h6, .ref h7, .int 0, .ref h8, .ref h9, .ref h10, .int 0, .null, .int 0, .null, .int 0, .int 0, .int 0, .ref h11, .int 0, .ref h12, .ref h13, .ref h14, .int 0, .ref h15, .ref h16, .int 0]))] sz [.ref h0]) (va_Qi (fun (r : Int32) (_ : Unit) => r = 0) (fun (_ : Unit) (t : State) => mB g [(h0, .inr (22, [.int 0, .ref h1, .int 0, .ref h2, .int 0, .ref h3, .int 250, .ref h4, .int 0, .ref h5, .ref h6, .ref h7, .int 0, .ref h8, .ref h9, .ref h10, .int 0, .null, .int 0, .null, .int 0, .int 0, .int 0, .ref h11, .int 0, .ref h12, .ref h13, .ref h14, .int 0, .ref h15, .ref h16, .int 0]))] sz [(h0, .inr (22, [.int 0, .ref h1, .int 0, .ref h2, .int 0, .ref h3, .int 250, .ref h4, .int 0, .ref h5, .ref h6, .ref h7, .int 0, .ref h8, .ref h9, .ref h10, .int 0, .null, .int 0, .null, .int 0, .int 0, .int 0, .ref h11, .int 0, .ref h12, .ref h13, .ref h14, .int 0, .ref h15, .ref h16, .int 0]))] t) (va_A [(h0, .inr (22, [.int 0, .ref h1, .int 0, .ref h2, .int 0, .ref h3, .int 250, .ref h4, .int 0, .ref h5, .ref h6, .ref h7, .int 0, .ref h8, .ref h9, .ref h10, .int 0, .null, .int 0, .null, .int 0, .int 0, .int 0, .ref h11, .int 0, .ref h12, .ref h13, .ref h14, .int 0, .ref h15, .ref h16, .int 0]))] sz)) 0 0 (va_A [(h0, .inr (22, [.int 0, .ref h1, .int 0, .ref h2, .int 0, .ref h3, .int 250, .ref h4, .int 0, .ref h5, .ref h6, .ref h7, .int 0, .ref h8, .ref h9, .ref h10, .int 0, .null, .int 0, .null, .int 0, .int 0, .int 0, .ref h11, .int 0, .ref h12, .ref h13, .ref h14, .int 0, .ref h15, .ref h16, .int 0]))] sz) := by
  refine Met.ofW (cc := cX21_clear) (maxL := 2) (ret := (some .int)) (by decide) rfl ?_
  intro p e s m args below meth c s₁ B hml hv
  obtain ⟨rfl, hsz, hP, hD0, hE⟩ := hv
  have hx := B.exec
  have hb := B.bytes
  have hr := B.returns
  have hts := atoms_spec (ws := w9_X21_clear_1) B.pre
  have hown : s.vm.findClass RX21 = some m.cls := findClass_of_methodNamed B.named
  have hlocks := B.notSynchronized
  subst hsz
  have hD := hD0.self (sz := s.heap.size)
  generalize hAe : va_A [(h0, .inr (22, [.int 0, .ref h1, .int 0, .ref h2, .int 0, .ref h3, .int 250, .ref h4, .int 0, .ref h5, .ref h6, .ref h7, .int 0, .ref h8, .ref h9, .ref h10, .int 0, .null, .int 0, .null, .int 0, .int 0, .int 0, .ref h11, .int 0, .ref h12, .ref h13, .ref h14, .int 0, .ref h15, .ref h16, .int 0]))] s.heap.size = A at hD hE ⊢
  have hA : ∀ q : Nat, s.heap.size ≤ q → A q := fun q h => by rw [← hAe]; exact Or.inr h
  have hK := hE.1
  have hS : va_S A s.heap s.heap [] := va_S.rf
  replace hP : va_P g.1 vwCl [(h0, .inr (22, [.int 0, .ref h1, .int 0, .ref h2, .int 0, .ref h3, .int 250, .ref h4, .int 0, .ref h5, .ref h6, .ref h7, .int 0, .ref h8, .ref h9, .ref h10, .int 0, .null, .int 0, .null, .int 0, .int 0, .int 0, .ref h11, .int 0, .ref h12, .ref h13, .ref h14, .int 0, .ref h15, .ref h16, .int 0]))] s.heap := hP
  have hl := lv_entry ([.ref h0]) (n := 2) (Nat.le_of_ble_eq_true rfl)
  rw [lg_entry_eq]
  generalize (lg_sl ([.ref h0]) ++ List.replicate (2 - (lg_sl ([.ref h0])).length) Slot.unset).toArray = ls at hl ⊢
  replace hl : lv_has ls 2 [(0, .ref h0)] := hl
  have hH0 : s.heap.size ≤ s.heap.size := Nat.le_refl _
  refine lv_aload_n hx hb dX21_clear_0 rfl (lv_at hl 0 rfl) ?_
  refine va_get (D := g.1) (ci := 22) (v := .int 0) (C := RX21) (T := TX21) (N := 32) hx hb hts in9_X21_clear_1_RX21 hown hK hP 0 rfl rfl 2 (by decide) (hts (.fieldLink RX21 151 "RegexloomModel" "drafted" "I") (List.mem_of_getElem? (i := 1) rfl)) (fun _ h9 => h9) rfl dX21_clear_1 ?_
  refine lv_istore_n (lv' := [(1, .int 0), (0, .ref h0)]) hx hb dX21_clear_4 rfl hl (by decide) rfl (fun ls hl => ?_)
  refine lv_aload_n hx hb dX21_clear_5 rfl (lv_at hl 1 rfl) ?_
  refine lv_iconst (v := 0) hx hb dX21_clear_6 (by decide) ?_
  refine va_put (D := g.1) (ci := 22) (v := .int 0) (ty := .int) (C := RX21) (T := TX21) (N := 32) hx hb hts in9_X21_clear_1_RX21 tyX21 tyX21_ok nmX21 hown hK hP hD hS 0 rfl rfl 2 (by decide) (hts (.fieldLink RX21 151 "RegexloomModel" "drafted" "I") (List.mem_of_getElem? (i := 1) rfl)) (fun _ h9 => h9) rfl (by decide +kernel) rfl rfl (Nat.le_of_ble_eq_true rfl) dX21_clear_7 (fun H locs hP hD hS => ?_)
  have hP : va_P g.1 vwCl [(h0, .inr (22, [.int 0, .ref h1, .int 0, .ref h2, .int 0, .ref h3, .int 250, .ref h4, .int 0, .ref h5, .ref h6, .ref h7, .int 0, .ref h8, .ref h9, .ref h10, .int 0, .null, .int 0, .null, .int 0, .int 0, .int 0, .ref h11, .int 0, .ref h12, .ref h13, .ref h14, .int 0, .ref h15, .ref h16, .int 0]))] H := hP
  have hD : va_D A [(h0, .inr (22, [.int 0, .ref h1, .int 0, .ref h2, .int 0, .ref h3, .int 250, .ref h4, .int 0, .ref h5, .ref h6, .ref h7, .int 0, .ref h8, .ref h9, .ref h10, .int 0, .null, .int 0, .null, .int 0, .int 0, .int 0, .ref h11, .int 0, .ref h12, .ref h13, .ref h14, .int 0, .ref h15, .ref h16, .int 0]))] := hD
  refine lv_aload_n hx hb dX21_clear_10 rfl (lv_at hl 1 rfl) ?_
  refine lv_iload_n hx hb dX21_clear_11 rfl (lv_at hl 0 rfl) ?_
  have hPc := hP.sub (ws' := [(h0, .inr (22, [.int 0, .ref h1, .int 0, .ref h2, .int 0, .ref h3, .int 250, .ref h4, .int 0, .ref h5, .ref h6, .ref h7, .int 0, .ref h8, .ref h9, .ref h10, .int 0, .null, .int 0, .null, .int 0, .int 0, .int 0, .ref h11, .int 0, .ref h12, .ref h13, .ref h14, .int 0, .ref h15, .ref h16, .int 0]))]) [0] rfl
  have hDc := hD.sub (ws' := [(h0, .inr (22, [.int 0, .ref h1, .int 0, .ref h2, .int 0, .ref h3, .int 250, .ref h4, .int 0, .ref h5, .ref h6, .ref h7, .int 0, .ref h8, .ref h9, .ref h10, .int 0, .null, .int 0, .null, .int 0, .int 0, .int 0, .ref h11, .int 0, .ref h12, .ref h13, .ref h14, .int 0, .ref h15, .ref h16, .int 0]))]) [0] (by decide) rfl
  have hFc := va_free (wc := [(h0, .inr (22, [.int 0, .ref h1, .int 0, .ref h2, .int 0, .ref h3, .int 250, .ref h4, .int 0, .ref h5, .ref h6, .ref h7, .int 0, .ref h8, .ref h9, .ref h10, .int 0, .null, .int 0, .null, .int 0, .int 0, .int 0, .ref h11, .int 0, .ref h12, .ref h13, .ref h14, .int 0, .ref h15, .ref h16, .int 0]))]) hD hS hA [0] rfl
  refine va_calli (va_runV (As := [.int 0]) (rest := []) ⟨hx, hb, hml, hown, hts⟩ (c9_X21_fine_1 l g h0 h1 h2 h3 h4 h5 h6 h7 h8 h9 h10 h11 h12 h13 h14 h15 h16 _) (cwV 1 hts g9_X21_clear_1_0 rfl rfl rfl (by decide +kernel) ⟨Nat.le_of_ble_eq_true rfl, Nat.le_of_ble_eq_true rfl⟩) (mPreV (g := g) (wc := [(h0, .inr (22, [.int 0, .ref h1, .int 0, .ref h2, .int 0, .ref h3, .int 250, .ref h4, .int 0, .ref h5, .ref h6, .ref h7, .int 0, .ref h8, .ref h9, .ref h10, .int 0, .null, .int 0, .null, .int 0, .int 0, .int 0, .ref h11, .int 0, .ref h12, .ref h13, .ref h14, .int 0, .ref h15, .ref h16, .int 0]))]) (C := RX21) (ci := 22) (q0 := 0) hE hS hPc hDc hFc rfl rfl) rfl rfl hl.1 rfl (lv_room (Nat.le_of_ble_eq_true rfl)) dX21_clear_12 ⟨Nat.le_of_ble_eq_true rfl, Nat.le_of_ble_eq_true rfl⟩) hS (fun q _ h => hFc q h) hFc (fun r_1 u t H1 locs ht hvm hw hB hz1 hk1 hS => ?_)
  replace hw : 0 = r_1 := Eq.symm hw
  subst hw
  obtain ⟨hP1, hD1⟩ := hB
  rw [ht] at hP1
  obtain ⟨hP, hD⟩ := va_join (wr := []) (w1 := [(h0, .inr (22, [.int 0, .ref h1, .int 0, .ref h2, .int 0, .ref h3, .int 250, .ref h4, .int 0, .ref h5, .ref h6, .ref h7, .int 0, .ref h8, .ref h9, .ref h10, .int 0, .null, .int 0, .null, .int 0, .int 0, .int 0, .ref h11, .int 0, .ref h12, .ref h13, .ref h14, .int 0, .ref h15, .ref h16, .int 0]))]) hP hD [0] [] rfl rfl (by decide) (by decide) hk1 hFc hP1 hD1
  clear hP1 hD1 hPc hDc hFc hk1 hz1 hvm ht
  generalize H1 = H at hP hS ⊢
  have hP : va_P g.1 vwCl [(h0, .inr (22, [.int 0, .ref h1, .int 0, .ref h2, .int 0, .ref h3, .int 250, .ref h4, .int 0, .ref h5, .ref h6, .ref h7, .int 0, .ref h8, .ref h9, .ref h10, .int 0, .null, .int 0, .null, .int 0, .int 0, .int 0, .ref h11, .int 0, .ref h12, .ref h13, .ref h14, .int 0, .ref h15, .ref h16, .int 0]))] H := hP
  have hD : va_D A [(h0, .inr (22, [.int 0, .ref h1, .int 0, .ref h2, .int 0, .ref h3, .int 250, .ref h4, .int 0, .ref h5, .ref h6, .ref h7, .int 0, .ref h8, .ref h9, .ref h10, .int 0, .null, .int 0, .null, .int 0, .int 0, .int 0, .ref h11, .int 0, .ref h12, .ref h13, .ref h14, .int 0, .ref h15, .ref h16, .int 0]))] := hD
  have hP9 := hP.sub (ws' := [(h0, .inr (22, [.int 0, .ref h1, .int 0, .ref h2, .int 0, .ref h3, .int 250, .ref h4, .int 0, .ref h5, .ref h6, .ref h7, .int 0, .ref h8, .ref h9, .ref h10, .int 0, .null, .int 0, .null, .int 0, .int 0, .int 0, .ref h11, .int 0, .ref h12, .ref h13, .ref h14, .int 0, .ref h15, .ref h16, .int 0]))]) [0] rfl
  have hD9 := hD.sub (ws' := [(h0, .inr (22, [.int 0, .ref h1, .int 0, .ref h2, .int 0, .ref h3, .int 250, .ref h4, .int 0, .ref h5, .ref h6, .ref h7, .int 0, .ref h8, .ref h9, .ref h10, .int 0, .null, .int 0, .null, .int 0, .int 0, .int 0, .ref h11, .int 0, .ref h12, .ref h13, .ref h14, .int 0, .ref h15, .ref h16, .int 0]))]) [0] (by decide) rfl
  subst hAe
  exact W.iret (v := 0) hx hb hr (fun t ht hW => ⟨⟨0, (), rfl, rfl, by rw [ht]; exact hP9, hD9⟩, hS.F ht⟩) hS.2.2 dX21_clear_15
def w9_X9_cutTo_1 : List Cond := [.code yX9_cutTo cX9_cutTo 2 none, .fieldLink RX9 28 "Regexloom$Table" "size" "I"] ++ (u_ws RX9 TX9 4)
set_option maxRecDepth 20000 in
theorem in9_X9_cutTo_1_RX9 : ∀ w ∈ u_ws RX9 TX9 4, w ∈ w9_X9_cutTo_1 := by decide +kernel
set_option maxHeartbeats 4000000 in
set_option maxRecDepth 100000 in
theorem c9_X9_cutTo_1 (l : Launch) (g : G9) (h0 h1 sz : Nat) : Met l yX9_cutTo w9_X9_cutTo_1 ({ frames := 0, cells := 0, slots := 0, locals := 0 }) (mP g [(h0, .inr (10, [.int 10, .int 33, .ref h1, .int 0]))] sz [.ref h0, .int 0]) (va_Qv (fun _ : Unit => True) (fun (_ : Unit) (t : State) => mB g [(h0, .inr (10, [.int 10, .int 33, .ref h1, .int 0]))] sz [(h0, .inr (10, [.int 10, .int 33, .ref h1, .int 0]))] t) (va_A [(h0, .inr (10, [.int 10, .int 33, .ref h1, .int 0]))] sz)) 0 0 (va_A [(h0, .inr (10, [.int 10, .int 33, .ref h1, .int 0]))] sz) := by
  refine Met.ofW (cc := cX9_cutTo) (maxL := 2) (ret := none) (by decide) rfl ?_
  intro p e s m args below meth c s₁ B hml hv
  obtain ⟨rfl, hsz, hP, hD0, hE⟩ := hv
  have hx := B.exec
  have hb := B.bytes
  have hr := B.returns
  have hts := atoms_spec (ws := w9_X9_cutTo_1) B.pre
  have hown : s.vm.findClass RX9 = some m.cls := findClass_of_methodNamed B.named
  have hlocks := B.notSynchronized
  subst hsz
  have hD := hD0.self (sz := s.heap.size)
  generalize hAe : va_A [(h0, .inr (10, [.int 10, .int 33, .ref h1, .int 0]))] s.heap.size = A at hD hE ⊢
  have hA : ∀ q : Nat, s.heap.size ≤ q → A q := fun q h => by rw [← hAe]; exact Or.inr h
  have hK := hE.1
  have hS : va_S A s.heap s.heap [] := va_S.rf
  replace hP : va_P g.1 vwCl [(h0, .inr (10, [.int 10, .int 33, .ref h1, .int 0]))] s.heap := hP
  have hl := lv_entry ([.ref h0, .int 0]) (n := 2) (Nat.le_of_ble_eq_true rfl)
  rw [lg_entry_eq]
  generalize (lg_sl ([.ref h0, .int 0]) ++ List.replicate (2 - (lg_sl ([.ref h0, .int 0])).length) Slot.unset).toArray = ls at hl ⊢
  replace hl : lv_has ls 2 [(0, .ref h0), (1, .int 0)] := hl
  have hH0 : s.heap.size ≤ s.heap.size := Nat.le_refl _
  refine lv_iload_n hx hb dX9_cutTo_0 rfl (lv_at hl 1 rfl) ?_
  refine lv_if_lt (tgt := 17) hx hb dX9_cutTo_1 (by decide) (fun c9 => absurd c9 (by decide)) (fun _ => ?_)
  refine lv_iload_n hx hb dX9_cutTo_4 rfl (lv_at hl 1 rfl) ?_
  refine lv_aload_n hx hb dX9_cutTo_5 rfl (lv_at hl 0 rfl) ?_
  refine va_get (D := g.1) (ci := 10) (v := .int 0) (C := RX9) (T := TX9) (N := 4) hx hb hts in9_X9_cutTo_1_RX9 hown hK hP 0 rfl rfl 3 (by decide) (hts (.fieldLink RX9 28 "Regexloom$Table" "size" "I") (List.mem_of_getElem? (i := 1) rfl)) (fun _ h9 => h9) rfl dX9_cutTo_6 ?_
  refine lv_icmp_ge (tgt := 17) hx hb dX9_cutTo_9 (by decide) (fun _ => ?_) (fun c9 => absurd (by decide) c9)
  have hP9 := hP.sub (ws' := [(h0, .inr (10, [.int 10, .int 33, .ref h1, .int 0]))]) [0] rfl
  have hD9 := hD.sub (ws' := [(h0, .inr (10, [.int 10, .int 33, .ref h1, .int 0]))]) [0] (by decide) rfl
  subst hAe
  exact W.vret hx hb hr (fun t ht hW => ⟨⟨(), rfl, trivial, by rw [ht]; exact hP9, hD9⟩, hS.F ht⟩) hS.2.2 dX9_cutTo_17
def w9_X9_cutTo_2 : List Cond := [.code yX9_cutTo cX9_cutTo 2 none, .fieldLink RX9 28 "Regexloom$Table" "size" "I"] ++ (u_ws RX9 TX9 4)
set_option maxRecDepth 20000 in
theorem in9_X9_cutTo_2_RX9 : ∀ w ∈ u_ws RX9 TX9 4, w ∈ w9_X9_cutTo_2 := by decide +kernel
set_option maxHeartbeats 4000000 in
set_option maxRecDepth 100000 in
theorem c9_X9_cutTo_2 (l : Launch) (g : G9) (h0 h1 sz : Nat) : Met l yX9_cutTo w9_X9_cutTo_2 ({ frames := 0, cells := 0, slots := 0, locals := 0 }) (mP g [(h0, .inr (10, [.int 2, .int 33, .ref h1, .int 0]))] sz [.ref h0, .int 0]) (va_Qv (fun _ : Unit => True) (fun (_ : Unit) (t : State) => mB g [(h0, .inr (10, [.int 2, .int 33, .ref h1, .int 0]))] sz [(h0, .inr (10, [.int 2, .int 33, .ref h1, .int 0]))] t) (va_A [(h0, .inr (10, [.int 2, .int 33, .ref h1, .int 0]))] sz)) 0 0 (va_A [(h0, .inr (10, [.int 2, .int 33, .ref h1, .int 0]))] sz) := by
  refine Met.ofW (cc := cX9_cutTo) (maxL := 2) (ret := none) (by decide) rfl ?_
  intro p e s m args below meth c s₁ B hml hv
  obtain ⟨rfl, hsz, hP, hD0, hE⟩ := hv
  have hx := B.exec
  have hb := B.bytes
  have hr := B.returns
  have hts := atoms_spec (ws := w9_X9_cutTo_2) B.pre
  have hown : s.vm.findClass RX9 = some m.cls := findClass_of_methodNamed B.named
  have hlocks := B.notSynchronized
  subst hsz
  have hD := hD0.self (sz := s.heap.size)
  generalize hAe : va_A [(h0, .inr (10, [.int 2, .int 33, .ref h1, .int 0]))] s.heap.size = A at hD hE ⊢
  have hA : ∀ q : Nat, s.heap.size ≤ q → A q := fun q h => by rw [← hAe]; exact Or.inr h
  have hK := hE.1
  have hS : va_S A s.heap s.heap [] := va_S.rf
  replace hP : va_P g.1 vwCl [(h0, .inr (10, [.int 2, .int 33, .ref h1, .int 0]))] s.heap := hP
  have hl := lv_entry ([.ref h0, .int 0]) (n := 2) (Nat.le_of_ble_eq_true rfl)
  rw [lg_entry_eq]
  generalize (lg_sl ([.ref h0, .int 0]) ++ List.replicate (2 - (lg_sl ([.ref h0, .int 0])).length) Slot.unset).toArray = ls at hl ⊢
  replace hl : lv_has ls 2 [(0, .ref h0), (1, .int 0)] := hl
  have hH0 : s.heap.size ≤ s.heap.size := Nat.le_refl _
  refine lv_iload_n hx hb dX9_cutTo_0 rfl (lv_at hl 1 rfl) ?_
  refine lv_if_lt (tgt := 17) hx hb dX9_cutTo_1 (by decide) (fun c9 => absurd c9 (by decide)) (fun _ => ?_)
  refine lv_iload_n hx hb dX9_cutTo_4 rfl (lv_at hl 1 rfl) ?_
  refine lv_aload_n hx hb dX9_cutTo_5 rfl (lv_at hl 0 rfl) ?_
  refine va_get (D := g.1) (ci := 10) (v := .int 0) (C := RX9) (T := TX9) (N := 4) hx hb hts in9_X9_cutTo_2_RX9 hown hK hP 0 rfl rfl 3 (by decide) (hts (.fieldLink RX9 28 "Regexloom$Table" "size" "I") (List.mem_of_getElem? (i := 1) rfl)) (fun _ h9 => h9) rfl dX9_cutTo_6 ?_
  refine lv_icmp_ge (tgt := 17) hx hb dX9_cutTo_9 (by decide) (fun _ => ?_) (fun c9 => absurd (by decide) c9)
  have hP9 := hP.sub (ws' := [(h0, .inr (10, [.int 2, .int 33, .ref h1, .int 0]))]) [0] rfl
  have hD9 := hD.sub (ws' := [(h0, .inr (10, [.int 2, .int 33, .ref h1, .int 0]))]) [0] (by decide) rfl
  subst hAe
  exact W.vret hx hb hr (fun t ht hW => ⟨⟨(), rfl, trivial, by rw [ht]; exact hP9, hD9⟩, hS.F ht⟩) hS.2.2 dX9_cutTo_17
def w9_X9_reach_2 : List Cond := [.code yX9_reach cX9_reach 3 none, .fieldLink RX9 15 "Regexloom$Table" "most" "I", .methodLink RX9 18 Lib.Math.min.name, .static Lib.Math.min.name, .initialized "java/lang/Math", .code Lib.Math.min.name Lib.Math.min.code 2 (some .int), .fieldLink RX9 28 "Regexloom$Table" "size" "I", .fieldLink RX9 9 "Regexloom$Table" "width" "I", .fieldLink RX9 24 "Regexloom$Table" "cells" "[I"] ++ (u_ws RX9 TX9 4)
set_option maxRecDepth 20000 in
theorem in9_X9_reach_2_RX9 : ∀ w ∈ u_ws RX9 TX9 4, w ∈ w9_X9_reach_2 := by decide +kernel
set_option maxHeartbeats 4000000 in
set_option maxRecDepth 100000 in
theorem c9_X9_reach_2 (l : Launch) (g : G9) (h0 h1 sz : Nat) (f0 : Nat → Int32) : Met l yX9_reach w9_X9_reach_2 ({ frames := 1, cells := 0, slots := 0, locals := 16 }) (mP g [(h0, .inr (10, [.int 1, .int 7, .ref h1, .int 0])), (h1, .inl (g.2.1 0, 7, .inl f0))] sz [.ref h0, .int 7]) (va_Qv (fun _ : Unit => True) (fun (_ : Unit) (t : State) => mB g [(h0, .inr (10, [.int 1, .int 7, .ref h1, .int 0])), (h1, .inl (g.2.1 0, 7, .inl f0))] sz [(h0, .inr (10, [.int 1, .int 7, .ref h1, .int 7])), (h1, .inl (g.2.1 0, 7, .inl f0))] t) (va_A [(h0, .inr (10, [.int 1, .int 7, .ref h1, .int 0])), (h1, .inl (g.2.1 0, 7, .inl f0))] sz)) 0 0 (va_A [(h0, .inr (10, [.int 1, .int 7, .ref h1, .int 0])), (h1, .inl (g.2.1 0, 7, .inl f0))] sz) := by
  refine Met.ofW (cc := cX9_reach) (maxL := 3) (ret := none) (by decide) rfl ?_
  intro p e s m args below meth c s₁ B hml hv
  obtain ⟨rfl, hsz, hP, hD0, hE⟩ := hv
  have hx := B.exec
  have hb := B.bytes
  have hr := B.returns
  have hts := atoms_spec (ws := w9_X9_reach_2) B.pre
  have hown : s.vm.findClass RX9 = some m.cls := findClass_of_methodNamed B.named
  have hlocks := B.notSynchronized
  subst hsz
  have hD := hD0.self (sz := s.heap.size)
  generalize hAe : va_A [(h0, .inr (10, [.int 1, .int 7, .ref h1, .int 0])), (h1, .inl (g.2.1 0, 7, .inl f0))] s.heap.size = A at hD hE ⊢
  have hA : ∀ q : Nat, s.heap.size ≤ q → A q := fun q h => by rw [← hAe]; exact Or.inr h
  have hK := hE.1
  have hS : va_S A s.heap s.heap [] := va_S.rf
  replace hP : va_P g.1 vwCl [(h0, .inr (10, [.int 1, .int 7, .ref h1, .int 0])), (h1, .inl (g.2.1 0, 7, .inl f0))] s.heap := hP
  have hl := lv_entry ([.ref h0, .int 7]) (n := 3) (Nat.le_of_ble_eq_true rfl)
  rw [lg_entry_eq]
  generalize (lg_sl ([.ref h0, .int 7]) ++ List.replicate (3 - (lg_sl ([.ref h0, .int 7])).length) Slot.unset).toArray = ls at hl ⊢
  replace hl : lv_has ls 3 [(0, .ref h0), (1, .int 7)] := hl
  have hH0 : s.heap.size ≤ s.heap.size := Nat.le_refl _
  refine lv_aload_n hx hb dX9_reach_0 rfl (lv_at hl 0 rfl) ?_
  refine va_get (D := g.1) (ci := 10) (v := .int 7) (C := RX9) (T := TX9) (N := 4) hx hb hts in9_X9_reach_2_RX9 hown hK hP 0 rfl rfl 1 (by decide) (hts (.fieldLink RX9 15 "Regexloom$Table" "most" "I") (List.mem_of_getElem? (i := 1) rfl)) (fun _ h9 => h9) rfl dX9_reach_1 ?_
  refine lv_iload_n hx hb dX9_reach_4 rfl (lv_at hl 1 rfl) ?_
  refine va_mmin hx hb (by rw [hml]; exact hl.1.symm) hown (hts (.methodLink RX9 18 Lib.Math.min.name) (List.mem_of_getElem? (i := 2) rfl)) (hts (.static Lib.Math.min.name) (List.mem_of_getElem? (i := 3) rfl)) (hts (.initialized "java/lang/Math") (List.mem_of_getElem? (i := 4) rfl)) (hts (.code Lib.Math.min.name Lib.Math.min.code 2 (some .int)) (List.mem_of_getElem? (i := 5) rfl)) (Nat.le_of_ble_eq_true rfl) (Nat.le_of_ble_eq_true rfl) (Nat.le_of_ble_eq_true rfl) (Nat.le_of_ble_eq_true rfl) dX9_reach_5 ?_
  refine e_top (y := 7) (by decide) ?_
  refine lv_istore_n (lv' := [(2, .int 7), (0, .ref h0), (1, .int 7)]) hx hb dX9_reach_8 rfl hl (by decide) rfl (fun ls hl => ?_)
  refine lv_iload_n hx hb dX9_reach_9 rfl (lv_at hl 0 rfl) ?_
  refine lv_aload_n hx hb dX9_reach_10 rfl (lv_at hl 1 rfl) ?_
  refine va_get (D := g.1) (ci := 10) (v := .int 0) (C := RX9) (T := TX9) (N := 4) hx hb hts in9_X9_reach_2_RX9 hown hK hP 0 rfl rfl 3 (by decide) (hts (.fieldLink RX9 28 "Regexloom$Table" "size" "I") (List.mem_of_getElem? (i := 6) rfl)) (fun _ h9 => h9) rfl dX9_reach_11 ?_
  refine lv_icmp_gt (tgt := 18) hx hb dX9_reach_14 (by decide) (fun _ => ?_) (fun c9 => absurd (by decide) c9)
  refine lv_iload_n hx hb dX9_reach_18 rfl (lv_at hl 0 rfl) ?_
  refine lv_aload_n hx hb dX9_reach_19 rfl (lv_at hl 1 rfl) ?_
  refine va_get (D := g.1) (ci := 10) (v := .int 1) (C := RX9) (T := TX9) (N := 4) hx hb hts in9_X9_reach_2_RX9 hown hK hP 0 rfl rfl 0 (by decide) (hts (.fieldLink RX9 9 "Regexloom$Table" "width" "I") (List.mem_of_getElem? (i := 7) rfl)) (fun _ h9 => h9) rfl dX9_reach_20 ?_
  refine lv_imul hx hb dX9_reach_23 ?_
  refine e_top (y := 7) (by decide) ?_
  refine lv_aload_n hx hb dX9_reach_24 rfl (lv_at hl 1 rfl) ?_
  refine va_get (D := g.1) (ci := 10) (v := .ref h1) (C := RX9) (T := TX9) (N := 4) hx hb hts in9_X9_reach_2_RX9 hown hK hP 0 rfl rfl 2 (by decide) (hts (.fieldLink RX9 24 "Regexloom$Table" "cells" "[I") (List.mem_of_getElem? (i := 8) rfl)) (fun _ h9 => h9) rfl dX9_reach_25 ?_
  refine va_alen (v := 7) hx hb hK hP 1 0 rfl rfl rfl dX9_reach_28 ?_
  refine lv_icmp_le (tgt := 58) hx hb dX9_reach_29 (by decide) (fun _ => ?_) (fun c9 => absurd (by decide) c9)
  refine lv_aload_n hx hb dX9_reach_58 rfl (lv_at hl 1 rfl) ?_
  refine lv_iload_n hx hb dX9_reach_59 rfl (lv_at hl 0 rfl) ?_
  refine va_put (D := g.1) (ci := 10) (v := .int 7) (ty := .int) (C := RX9) (T := TX9) (N := 4) hx hb hts in9_X9_reach_2_RX9 tyX9 tyX9_ok nmX9 hown hK hP hD hS 0 rfl rfl 3 (by decide) (hts (.fieldLink RX9 28 "Regexloom$Table" "size" "I") (List.mem_of_getElem? (i := 6) rfl)) (fun _ h9 => h9) rfl (by decide +kernel) rfl rfl (Nat.le_of_ble_eq_true rfl) dX9_reach_60 (fun H locs hP hD hS => ?_)
  have hP : va_P g.1 vwCl [(h0, .inr (10, [.int 1, .int 7, .ref h1, .int 7])), (h1, .inl (g.2.1 0, 7, .inl f0))] H := hP
  have hD : va_D A [(h0, .inr (10, [.int 1, .int 7, .ref h1, .int 7])), (h1, .inl (g.2.1 0, 7, .inl f0))] := hD
  have hP9 := hP.sub (ws' := [(h0, .inr (10, [.int 1, .int 7, .ref h1, .int 7])), (h1, .inl (g.2.1 0, 7, .inl f0))]) [0, 1] rfl
  have hD9 := hD.sub (ws' := [(h0, .inr (10, [.int 1, .int 7, .ref h1, .int 7])), (h1, .inl (g.2.1 0, 7, .inl f0))]) [0, 1] (by decide) rfl
  subst hAe
  exact W.vret hx hb hr (fun t ht hW => ⟨⟨(), rfl, trivial, by rw [ht]; exact hP9, hD9⟩, hS.F ht⟩) hS.2.2 dX9_reach_63
def w9_X9_put_15 : List Cond := [.code yX9_put cX9_put 4 none, .fieldLink RX9 28 "Regexloom$Table" "size" "I", .fieldLink RX9 9 "Regexloom$Table" "width" "I", .fieldLink RX9 24 "Regexloom$Table" "cells" "[I"] ++ (u_ws RX9 TX9 4)
set_option maxRecDepth 20000 in
theorem in9_X9_put_15_RX9 : ∀ w ∈ u_ws RX9 TX9 4, w ∈ w9_X9_put_15 := by decide +kernel
set_option maxHeartbeats 4000000 in
set_option maxRecDepth 100000 in
theorem c9_X9_put_15 (l : Launch) (g : G9) (h0 h1 sz : Nat) (f0 : Nat → Int32) : Met l yX9_put w9_X9_put_15 ({ frames := 0, cells := 0, slots := 0, locals := 0 }) (mP g [(h0, .inr (10, [.int 1, .int 7, .ref h1, .int 7])), (h1, .inl (g.2.1 0, 7, .inl f0))] sz [.ref h0, .int 0, .int 0, .int (-1)]) (va_Qv (fun _ : Unit => True) (fun (_ : Unit) (t : State) => mB g [(h0, .inr (10, [.int 1, .int 7, .ref h1, .int 7])), (h1, .inl (g.2.1 0, 7, .inl f0))] sz [(h0, .inr (10, [.int 1, .int 7, .ref h1, .int 7])), (h1, .inl (g.2.1 0, 7, .inl (upd f0 0 (-1))))] t) (va_A [(h0, .inr (10, [.int 1, .int 7, .ref h1, .int 7])), (h1, .inl (g.2.1 0, 7, .inl f0))] sz)) 0 0 (va_A [(h0, .inr (10, [.int 1, .int 7, .ref h1, .int 7])), (h1, .inl (g.2.1 0, 7, .inl f0))] sz) := by
  refine Met.ofW (cc := cX9_put) (maxL := 4) (ret := none) (by decide) rfl ?_
  intro p e s m args below meth c s₁ B hml hv
  obtain ⟨rfl, hsz, hP, hD0, hE⟩ := hv
  have hx := B.exec
  have hb := B.bytes
  have hr := B.returns
  have hts := atoms_spec (ws := w9_X9_put_15) B.pre
  have hown : s.vm.findClass RX9 = some m.cls := findClass_of_methodNamed B.named
  have hlocks := B.notSynchronized
  subst hsz
  have hD := hD0.self (sz := s.heap.size)
  generalize hAe : va_A [(h0, .inr (10, [.int 1, .int 7, .ref h1, .int 7])), (h1, .inl (g.2.1 0, 7, .inl f0))] s.heap.size = A at hD hE ⊢
  have hA : ∀ q : Nat, s.heap.size ≤ q → A q := fun q h => by rw [← hAe]; exact Or.inr h
  have hK := hE.1
  have hS : va_S A s.heap s.heap [] := va_S.rf
  replace hP : va_P g.1 vwCl [(h0, .inr (10, [.int 1, .int 7, .ref h1, .int 7])), (h1, .inl (g.2.1 0, 7, .inl f0))] s.heap := hP
  have hl := lv_entry ([.ref h0, .int 0, .int 0, .int (-1)]) (n := 4) (Nat.le_of_ble_eq_true rfl)
  rw [lg_entry_eq]
  generalize (lg_sl ([.ref h0, .int 0, .int 0, .int (-1)]) ++ List.replicate (4 - (lg_sl ([.ref h0, .int 0, .int 0, .int (-1)])).length) Slot.unset).toArray = ls at hl ⊢
  replace hl : lv_has ls 4 [(0, .ref h0), (1, .int 0), (2, .int 0), (3, .int (-1))] := hl
  have hH0 : s.heap.size ≤ s.heap.size := Nat.le_refl _
  refine lv_iload_n hx hb dX9_put_0 rfl (lv_at hl 1 rfl) ?_
  refine lv_if_lt (tgt := 38) hx hb dX9_put_1 (by decide) (fun c9 => absurd c9 (by decide)) (fun _ => ?_)
  refine lv_iload_n hx hb dX9_put_4 rfl (lv_at hl 1 rfl) ?_
  refine lv_aload_n hx hb dX9_put_5 rfl (lv_at hl 0 rfl) ?_
  refine va_get (D := g.1) (ci := 10) (v := .int 7) (C := RX9) (T := TX9) (N := 4) hx hb hts in9_X9_put_15_RX9 hown hK hP 0 rfl rfl 3 (by decide) (hts (.fieldLink RX9 28 "Regexloom$Table" "size" "I") (List.mem_of_getElem? (i := 1) rfl)) (fun _ h9 => h9) rfl dX9_put_6 ?_
  refine lv_icmp_ge (tgt := 38) hx hb dX9_put_9 (by decide) (fun c9 => absurd c9 (by decide)) (fun _ => ?_)
  refine lv_iload_n hx hb dX9_put_12 rfl (lv_at hl 2 rfl) ?_
  refine lv_if_lt (tgt := 38) hx hb dX9_put_13 (by decide) (fun c9 => absurd c9 (by decide)) (fun _ => ?_)
  refine lv_iload_n hx hb dX9_put_16 rfl (lv_at hl 2 rfl) ?_
  refine lv_aload_n hx hb dX9_put_17 rfl (lv_at hl 0 rfl) ?_
  refine va_get (D := g.1) (ci := 10) (v := .int 1) (C := RX9) (T := TX9) (N := 4) hx hb hts in9_X9_put_15_RX9 hown hK hP 0 rfl rfl 0 (by decide) (hts (.fieldLink RX9 9 "Regexloom$Table" "width" "I") (List.mem_of_getElem? (i := 2) rfl)) (fun _ h9 => h9) rfl dX9_put_18 ?_
  refine lv_icmp_ge (tgt := 38) hx hb dX9_put_21 (by decide) (fun c9 => absurd c9 (by decide)) (fun _ => ?_)
  refine lv_aload_n hx hb dX9_put_24 rfl (lv_at hl 0 rfl) ?_
  refine va_get (D := g.1) (ci := 10) (v := .ref h1) (C := RX9) (T := TX9) (N := 4) hx hb hts in9_X9_put_15_RX9 hown hK hP 0 rfl rfl 2 (by decide) (hts (.fieldLink RX9 24 "Regexloom$Table" "cells" "[I") (List.mem_of_getElem? (i := 3) rfl)) (fun _ h9 => h9) rfl dX9_put_25 ?_
  refine lv_iload_n hx hb dX9_put_28 rfl (lv_at hl 1 rfl) ?_
  refine lv_aload_n hx hb dX9_put_29 rfl (lv_at hl 0 rfl) ?_
  refine va_get (D := g.1) (ci := 10) (v := .int 1) (C := RX9) (T := TX9) (N := 4) hx hb hts in9_X9_put_15_RX9 hown hK hP 0 rfl rfl 0 (by decide) (hts (.fieldLink RX9 9 "Regexloom$Table" "width" "I") (List.mem_of_getElem? (i := 2) rfl)) (fun _ h9 => h9) rfl dX9_put_30 ?_
  refine lv_imul hx hb dX9_put_33 ?_
  refine e_top (y := 0) (by decide) ?_
  refine lv_iload_n hx hb dX9_put_34 rfl (lv_at hl 2 rfl) ?_
  refine lv_iadd hx hb dX9_put_35 ?_
  refine e_top (y := 0) (by decide) ?_
  refine lv_iload_n hx hb dX9_put_36 rfl (lv_at hl 3 rfl) ?_
  refine va_iast hx hb hK hP hD hS 1 0 rfl rfl (vp_in_nI (n := 0) (by decide) (by decide)) dX9_put_37 (fun H locs hP hD hS => ?_)
  have hP : va_P g.1 vwCl [(h0, .inr (10, [.int 1, .int 7, .ref h1, .int 7])), (h1, .inl (g.2.1 0, 7, .inl (upd f0 0 (-1))))] H := hP
  have hD : va_D A [(h0, .inr (10, [.int 1, .int 7, .ref h1, .int 7])), (h1, .inl (g.2.1 0, 7, .inl (upd f0 0 (-1))))] := hD
  have hP9 := hP.sub (ws' := [(h0, .inr (10, [.int 1, .int 7, .ref h1, .int 7])), (h1, .inl (g.2.1 0, 7, .inl (upd f0 0 (-1))))]) [0, 1] rfl
  have hD9 := hD.sub (ws' := [(h0, .inr (10, [.int 1, .int 7, .ref h1, .int 7])), (h1, .inl (g.2.1 0, 7, .inl (upd f0 0 (-1))))]) [0, 1] (by decide) rfl
  subst hAe
  exact W.vret hx hb hr (fun t ht hW => ⟨⟨(), rfl, trivial, by rw [ht]; exact hP9, hD9⟩, hS.F ht⟩) hS.2.2 dX9_put_38
def w9_X9_put_16 : List Cond := [.code yX9_put cX9_put 4 none, .fieldLink RX9 28 "Regexloom$Table" "size" "I", .fieldLink RX9 9 "Regexloom$Table" "width" "I", .fieldLink RX9 24 "Regexloom$Table" "cells" "[I"] ++ (u_ws RX9 TX9 4)
set_option maxRecDepth 20000 in
theorem in9_X9_put_16_RX9 : ∀ w ∈ u_ws RX9 TX9 4, w ∈ w9_X9_put_16 := by decide +kernel
set_option maxHeartbeats 4000000 in
set_option maxRecDepth 100000 in
theorem c9_X9_put_16 (l : Launch) (g : G9) (h0 h1 sz : Nat) (f0 : Nat → Int32) : Met l yX9_put w9_X9_put_16 ({ frames := 0, cells := 0, slots := 0, locals := 0 }) (mP g [(h0, .inr (10, [.int 1, .int 7, .ref h1, .int 7])), (h1, .inl (g.2.1 0, 7, .inl f0))] sz [.ref h0, .int 1, .int 0, .int (-1)]) (va_Qv (fun _ : Unit => True) (fun (_ : Unit) (t : State) => mB g [(h0, .inr (10, [.int 1, .int 7, .ref h1, .int 7])), (h1, .inl (g.2.1 0, 7, .inl f0))] sz [(h0, .inr (10, [.int 1, .int 7, .ref h1, .int 7])), (h1, .inl (g.2.1 0, 7, .inl (upd f0 1 (-1))))] t) (va_A [(h0, .inr (10, [.int 1, .int 7, .ref h1, .int 7])), (h1, .inl (g.2.1 0, 7, .inl f0))] sz)) 0 0 (va_A [(h0, .inr (10, [.int 1, .int 7, .ref h1, .int 7])), (h1, .inl (g.2.1 0, 7, .inl f0))] sz) := by
  refine Met.ofW (cc := cX9_put) (maxL := 4) (ret := none) (by decide) rfl ?_
  intro p e s m args below meth c s₁ B hml hv
  obtain ⟨rfl, hsz, hP, hD0, hE⟩ := hv
  have hx := B.exec
  have hb := B.bytes
  have hr := B.returns
  have hts := atoms_spec (ws := w9_X9_put_16) B.pre
  have hown : s.vm.findClass RX9 = some m.cls := findClass_of_methodNamed B.named
  have hlocks := B.notSynchronized
  subst hsz
  have hD := hD0.self (sz := s.heap.size)
  generalize hAe : va_A [(h0, .inr (10, [.int 1, .int 7, .ref h1, .int 7])), (h1, .inl (g.2.1 0, 7, .inl f0))] s.heap.size = A at hD hE ⊢
  have hA : ∀ q : Nat, s.heap.size ≤ q → A q := fun q h => by rw [← hAe]; exact Or.inr h
  have hK := hE.1
  have hS : va_S A s.heap s.heap [] := va_S.rf
  replace hP : va_P g.1 vwCl [(h0, .inr (10, [.int 1, .int 7, .ref h1, .int 7])), (h1, .inl (g.2.1 0, 7, .inl f0))] s.heap := hP
  have hl := lv_entry ([.ref h0, .int 1, .int 0, .int (-1)]) (n := 4) (Nat.le_of_ble_eq_true rfl)
  rw [lg_entry_eq]
  generalize (lg_sl ([.ref h0, .int 1, .int 0, .int (-1)]) ++ List.replicate (4 - (lg_sl ([.ref h0, .int 1, .int 0, .int (-1)])).length) Slot.unset).toArray = ls at hl ⊢
  replace hl : lv_has ls 4 [(0, .ref h0), (1, .int 1), (2, .int 0), (3, .int (-1))] := hl
  have hH0 : s.heap.size ≤ s.heap.size := Nat.le_refl _
  refine lv_iload_n hx hb dX9_put_0 rfl (lv_at hl 1 rfl) ?_
  refine lv_if_lt (tgt := 38) hx hb dX9_put_1 (by decide) (fun c9 => absurd c9 (by decide)) (fun _ => ?_)
  refine lv_iload_n hx hb dX9_put_4 rfl (lv_at hl 1 rfl) ?_
  refine lv_aload_n hx hb dX9_put_5 rfl (lv_at hl 0 rfl) ?_
  refine va_get (D := g.1) (ci := 10) (v := .int 7) (C := RX9) (T := TX9) (N := 4) hx hb hts in9_X9_put_16_RX9 hown hK hP 0 rfl rfl 3 (by decide) (hts (.fieldLink RX9 28 "Regexloom$Table" "size" "I") (List.mem_of_getElem? (i := 1) rfl)) (fun _ h9 => h9) rfl dX9_put_6 ?_
  refine lv_icmp_ge (tgt := 38) hx hb dX9_put_9 (by decide) (fun c9 => absurd c9 (by decide)) (fun _ => ?_)
  refine lv_iload_n hx hb dX9_put_12 rfl (lv_at hl 2 rfl) ?_
  refine lv_if_lt (tgt := 38) hx hb dX9_put_13 (by decide) (fun c9 => absurd c9 (by decide)) (fun _ => ?_)
  refine lv_iload_n hx hb dX9_put_16 rfl (lv_at hl 2 rfl) ?_
  refine lv_aload_n hx hb dX9_put_17 rfl (lv_at hl 0 rfl) ?_
  refine va_get (D := g.1) (ci := 10) (v := .int 1) (C := RX9) (T := TX9) (N := 4) hx hb hts in9_X9_put_16_RX9 hown hK hP 0 rfl rfl 0 (by decide) (hts (.fieldLink RX9 9 "Regexloom$Table" "width" "I") (List.mem_of_getElem? (i := 2) rfl)) (fun _ h9 => h9) rfl dX9_put_18 ?_
  refine lv_icmp_ge (tgt := 38) hx hb dX9_put_21 (by decide) (fun c9 => absurd c9 (by decide)) (fun _ => ?_)
  refine lv_aload_n hx hb dX9_put_24 rfl (lv_at hl 0 rfl) ?_
  refine va_get (D := g.1) (ci := 10) (v := .ref h1) (C := RX9) (T := TX9) (N := 4) hx hb hts in9_X9_put_16_RX9 hown hK hP 0 rfl rfl 2 (by decide) (hts (.fieldLink RX9 24 "Regexloom$Table" "cells" "[I") (List.mem_of_getElem? (i := 3) rfl)) (fun _ h9 => h9) rfl dX9_put_25 ?_
  refine lv_iload_n hx hb dX9_put_28 rfl (lv_at hl 1 rfl) ?_
  refine lv_aload_n hx hb dX9_put_29 rfl (lv_at hl 0 rfl) ?_
  refine va_get (D := g.1) (ci := 10) (v := .int 1) (C := RX9) (T := TX9) (N := 4) hx hb hts in9_X9_put_16_RX9 hown hK hP 0 rfl rfl 0 (by decide) (hts (.fieldLink RX9 9 "Regexloom$Table" "width" "I") (List.mem_of_getElem? (i := 2) rfl)) (fun _ h9 => h9) rfl dX9_put_30 ?_
  refine lv_imul hx hb dX9_put_33 ?_
  refine e_top (y := 1) (by decide) ?_
  refine lv_iload_n hx hb dX9_put_34 rfl (lv_at hl 2 rfl) ?_
  refine lv_iadd hx hb dX9_put_35 ?_
  refine e_top (y := 1) (by decide) ?_
  refine lv_iload_n hx hb dX9_put_36 rfl (lv_at hl 3 rfl) ?_
  refine va_iast hx hb hK hP hD hS 1 0 rfl rfl (vp_in_nI (n := 1) (by decide) (by decide)) dX9_put_37 (fun H locs hP hD hS => ?_)
  have hP : va_P g.1 vwCl [(h0, .inr (10, [.int 1, .int 7, .ref h1, .int 7])), (h1, .inl (g.2.1 0, 7, .inl (upd f0 1 (-1))))] H := hP
  have hD : va_D A [(h0, .inr (10, [.int 1, .int 7, .ref h1, .int 7])), (h1, .inl (g.2.1 0, 7, .inl (upd f0 1 (-1))))] := hD
  have hP9 := hP.sub (ws' := [(h0, .inr (10, [.int 1, .int 7, .ref h1, .int 7])), (h1, .inl (g.2.1 0, 7, .inl (upd f0 1 (-1))))]) [0, 1] rfl
  have hD9 := hD.sub (ws' := [(h0, .inr (10, [.int 1, .int 7, .ref h1, .int 7])), (h1, .inl (g.2.1 0, 7, .inl (upd f0 1 (-1))))]) [0, 1] (by decide) rfl
  subst hAe
  exact W.vret hx hb hr (fun t ht hW => ⟨⟨(), rfl, trivial, by rw [ht]; exact hP9, hD9⟩, hS.F ht⟩) hS.2.2 dX9_put_38
def w9_X9_put_17 : List Cond := [.code yX9_put cX9_put 4 none, .fieldLink RX9 28 "Regexloom$Table" "size" "I", .fieldLink RX9 9 "Regexloom$Table" "width" "I", .fieldLink RX9 24 "Regexloom$Table" "cells" "[I"] ++ (u_ws RX9 TX9 4)
set_option maxRecDepth 20000 in
theorem in9_X9_put_17_RX9 : ∀ w ∈ u_ws RX9 TX9 4, w ∈ w9_X9_put_17 := by decide +kernel
set_option maxHeartbeats 4000000 in
set_option maxRecDepth 100000 in
theorem c9_X9_put_17 (l : Launch) (g : G9) (h0 h1 sz : Nat) (f0 : Nat → Int32) : Met l yX9_put w9_X9_put_17 ({ frames := 0, cells := 0, slots := 0, locals := 0 }) (mP g [(h0, .inr (10, [.int 1, .int 7, .ref h1, .int 7])), (h1, .inl (g.2.1 0, 7, .inl f0))] sz [.ref h0, .int 2, .int 0, .int (-1)]) (va_Qv (fun _ : Unit => True) (fun (_ : Unit) (t : State) => mB g [(h0, .inr (10, [.int 1, .int 7, .ref h1, .int 7])), (h1, .inl (g.2.1 0, 7, .inl f0))] sz [(h0, .inr (10, [.int 1, .int 7, .ref h1, .int 7])), (h1, .inl (g.2.1 0, 7, .inl (upd f0 2 (-1))))] t) (va_A [(h0, .inr (10, [.int 1, .int 7, .ref h1, .int 7])), (h1, .inl (g.2.1 0, 7, .inl f0))] sz)) 0 0 (va_A [(h0, .inr (10, [.int 1, .int 7, .ref h1, .int 7])), (h1, .inl (g.2.1 0, 7, .inl f0))] sz) := by
  refine Met.ofW (cc := cX9_put) (maxL := 4) (ret := none) (by decide) rfl ?_
  intro p e s m args below meth c s₁ B hml hv
  obtain ⟨rfl, hsz, hP, hD0, hE⟩ := hv
  have hx := B.exec
  have hb := B.bytes
  have hr := B.returns
  have hts := atoms_spec (ws := w9_X9_put_17) B.pre
  have hown : s.vm.findClass RX9 = some m.cls := findClass_of_methodNamed B.named
  have hlocks := B.notSynchronized
  subst hsz
  have hD := hD0.self (sz := s.heap.size)
  generalize hAe : va_A [(h0, .inr (10, [.int 1, .int 7, .ref h1, .int 7])), (h1, .inl (g.2.1 0, 7, .inl f0))] s.heap.size = A at hD hE ⊢
  have hA : ∀ q : Nat, s.heap.size ≤ q → A q := fun q h => by rw [← hAe]; exact Or.inr h
  have hK := hE.1
  have hS : va_S A s.heap s.heap [] := va_S.rf
  replace hP : va_P g.1 vwCl [(h0, .inr (10, [.int 1, .int 7, .ref h1, .int 7])), (h1, .inl (g.2.1 0, 7, .inl f0))] s.heap := hP
  have hl := lv_entry ([.ref h0, .int 2, .int 0, .int (-1)]) (n := 4) (Nat.le_of_ble_eq_true rfl)
  rw [lg_entry_eq]
  generalize (lg_sl ([.ref h0, .int 2, .int 0, .int (-1)]) ++ List.replicate (4 - (lg_sl ([.ref h0, .int 2, .int 0, .int (-1)])).length) Slot.unset).toArray = ls at hl ⊢
  replace hl : lv_has ls 4 [(0, .ref h0), (1, .int 2), (2, .int 0), (3, .int (-1))] := hl
  have hH0 : s.heap.size ≤ s.heap.size := Nat.le_refl _
  refine lv_iload_n hx hb dX9_put_0 rfl (lv_at hl 1 rfl) ?_
  refine lv_if_lt (tgt := 38) hx hb dX9_put_1 (by decide) (fun c9 => absurd c9 (by decide)) (fun _ => ?_)
  refine lv_iload_n hx hb dX9_put_4 rfl (lv_at hl 1 rfl) ?_
  refine lv_aload_n hx hb dX9_put_5 rfl (lv_at hl 0 rfl) ?_
  refine va_get (D := g.1) (ci := 10) (v := .int 7) (C := RX9) (T := TX9) (N := 4) hx hb hts in9_X9_put_17_RX9 hown hK hP 0 rfl rfl 3 (by decide) (hts (.fieldLink RX9 28 "Regexloom$Table" "size" "I") (List.mem_of_getElem? (i := 1) rfl)) (fun _ h9 => h9) rfl dX9_put_6 ?_
  refine lv_icmp_ge (tgt := 38) hx hb dX9_put_9 (by decide) (fun c9 => absurd c9 (by decide)) (fun _ => ?_)
  refine lv_iload_n hx hb dX9_put_12 rfl (lv_at hl 2 rfl) ?_
  refine lv_if_lt (tgt := 38) hx hb dX9_put_13 (by decide) (fun c9 => absurd c9 (by decide)) (fun _ => ?_)
  refine lv_iload_n hx hb dX9_put_16 rfl (lv_at hl 2 rfl) ?_
  refine lv_aload_n hx hb dX9_put_17 rfl (lv_at hl 0 rfl) ?_
  refine va_get (D := g.1) (ci := 10) (v := .int 1) (C := RX9) (T := TX9) (N := 4) hx hb hts in9_X9_put_17_RX9 hown hK hP 0 rfl rfl 0 (by decide) (hts (.fieldLink RX9 9 "Regexloom$Table" "width" "I") (List.mem_of_getElem? (i := 2) rfl)) (fun _ h9 => h9) rfl dX9_put_18 ?_
  refine lv_icmp_ge (tgt := 38) hx hb dX9_put_21 (by decide) (fun c9 => absurd c9 (by decide)) (fun _ => ?_)
  refine lv_aload_n hx hb dX9_put_24 rfl (lv_at hl 0 rfl) ?_
  refine va_get (D := g.1) (ci := 10) (v := .ref h1) (C := RX9) (T := TX9) (N := 4) hx hb hts in9_X9_put_17_RX9 hown hK hP 0 rfl rfl 2 (by decide) (hts (.fieldLink RX9 24 "Regexloom$Table" "cells" "[I") (List.mem_of_getElem? (i := 3) rfl)) (fun _ h9 => h9) rfl dX9_put_25 ?_
  refine lv_iload_n hx hb dX9_put_28 rfl (lv_at hl 1 rfl) ?_
  refine lv_aload_n hx hb dX9_put_29 rfl (lv_at hl 0 rfl) ?_
  refine va_get (D := g.1) (ci := 10) (v := .int 1) (C := RX9) (T := TX9) (N := 4) hx hb hts in9_X9_put_17_RX9 hown hK hP 0 rfl rfl 0 (by decide) (hts (.fieldLink RX9 9 "Regexloom$Table" "width" "I") (List.mem_of_getElem? (i := 2) rfl)) (fun _ h9 => h9) rfl dX9_put_30 ?_
  refine lv_imul hx hb dX9_put_33 ?_
  refine e_top (y := 2) (by decide) ?_
  refine lv_iload_n hx hb dX9_put_34 rfl (lv_at hl 2 rfl) ?_
  refine lv_iadd hx hb dX9_put_35 ?_
  refine e_top (y := 2) (by decide) ?_
  refine lv_iload_n hx hb dX9_put_36 rfl (lv_at hl 3 rfl) ?_
  refine va_iast hx hb hK hP hD hS 1 0 rfl rfl (vp_in_nI (n := 2) (by decide) (by decide)) dX9_put_37 (fun H locs hP hD hS => ?_)
  have hP : va_P g.1 vwCl [(h0, .inr (10, [.int 1, .int 7, .ref h1, .int 7])), (h1, .inl (g.2.1 0, 7, .inl (upd f0 2 (-1))))] H := hP
  have hD : va_D A [(h0, .inr (10, [.int 1, .int 7, .ref h1, .int 7])), (h1, .inl (g.2.1 0, 7, .inl (upd f0 2 (-1))))] := hD
  have hP9 := hP.sub (ws' := [(h0, .inr (10, [.int 1, .int 7, .ref h1, .int 7])), (h1, .inl (g.2.1 0, 7, .inl (upd f0 2 (-1))))]) [0, 1] rfl
  have hD9 := hD.sub (ws' := [(h0, .inr (10, [.int 1, .int 7, .ref h1, .int 7])), (h1, .inl (g.2.1 0, 7, .inl (upd f0 2 (-1))))]) [0, 1] (by decide) rfl
  subst hAe
  exact W.vret hx hb hr (fun t ht hW => ⟨⟨(), rfl, trivial, by rw [ht]; exact hP9, hD9⟩, hS.F ht⟩) hS.2.2 dX9_put_38
def w9_X9_put_18 : List Cond := [.code yX9_put cX9_put 4 none, .fieldLink RX9 28 "Regexloom$Table" "size" "I", .fieldLink RX9 9 "Regexloom$Table" "width" "I", .fieldLink RX9 24 "Regexloom$Table" "cells" "[I"] ++ (u_ws RX9 TX9 4)
set_option maxRecDepth 20000 in
theorem in9_X9_put_18_RX9 : ∀ w ∈ u_ws RX9 TX9 4, w ∈ w9_X9_put_18 := by decide +kernel
set_option maxHeartbeats 4000000 in
set_option maxRecDepth 100000 in
theorem c9_X9_put_18 (l : Launch) (g : G9) (h0 h1 sz : Nat) (f0 : Nat → Int32) : Met l yX9_put w9_X9_put_18 ({ frames := 0, cells := 0, slots := 0, locals := 0 }) (mP g [(h0, .inr (10, [.int 1, .int 7, .ref h1, .int 7])), (h1, .inl (g.2.1 0, 7, .inl f0))] sz [.ref h0, .int 3, .int 0, .int (-1)]) (va_Qv (fun _ : Unit => True) (fun (_ : Unit) (t : State) => mB g [(h0, .inr (10, [.int 1, .int 7, .ref h1, .int 7])), (h1, .inl (g.2.1 0, 7, .inl f0))] sz [(h0, .inr (10, [.int 1, .int 7, .ref h1, .int 7])), (h1, .inl (g.2.1 0, 7, .inl (upd f0 3 (-1))))] t) (va_A [(h0, .inr (10, [.int 1, .int 7, .ref h1, .int 7])), (h1, .inl (g.2.1 0, 7, .inl f0))] sz)) 0 0 (va_A [(h0, .inr (10, [.int 1, .int 7, .ref h1, .int 7])), (h1, .inl (g.2.1 0, 7, .inl f0))] sz) := by
  refine Met.ofW (cc := cX9_put) (maxL := 4) (ret := none) (by decide) rfl ?_
  intro p e s m args below meth c s₁ B hml hv
  obtain ⟨rfl, hsz, hP, hD0, hE⟩ := hv
  have hx := B.exec
  have hb := B.bytes
  have hr := B.returns
  have hts := atoms_spec (ws := w9_X9_put_18) B.pre
  have hown : s.vm.findClass RX9 = some m.cls := findClass_of_methodNamed B.named
  have hlocks := B.notSynchronized
  subst hsz
  have hD := hD0.self (sz := s.heap.size)
  generalize hAe : va_A [(h0, .inr (10, [.int 1, .int 7, .ref h1, .int 7])), (h1, .inl (g.2.1 0, 7, .inl f0))] s.heap.size = A at hD hE ⊢
  have hA : ∀ q : Nat, s.heap.size ≤ q → A q := fun q h => by rw [← hAe]; exact Or.inr h
  have hK := hE.1
  have hS : va_S A s.heap s.heap [] := va_S.rf
  replace hP : va_P g.1 vwCl [(h0, .inr (10, [.int 1, .int 7, .ref h1, .int 7])), (h1, .inl (g.2.1 0, 7, .inl f0))] s.heap := hP
  have hl := lv_entry ([.ref h0, .int 3, .int 0, .int (-1)]) (n := 4) (Nat.le_of_ble_eq_true rfl)
  rw [lg_entry_eq]
  generalize (lg_sl ([.ref h0, .int 3, .int 0, .int (-1)]) ++ List.replicate (4 - (lg_sl ([.ref h0, .int 3, .int 0, .int (-1)])).length) Slot.unset).toArray = ls at hl ⊢
  replace hl : lv_has ls 4 [(0, .ref h0), (1, .int 3), (2, .int 0), (3, .int (-1))] := hl
  have hH0 : s.heap.size ≤ s.heap.size := Nat.le_refl _
  refine lv_iload_n hx hb dX9_put_0 rfl (lv_at hl 1 rfl) ?_
  refine lv_if_lt (tgt := 38) hx hb dX9_put_1 (by decide) (fun c9 => absurd c9 (by decide)) (fun _ => ?_)
  refine lv_iload_n hx hb dX9_put_4 rfl (lv_at hl 1 rfl) ?_
  refine lv_aload_n hx hb dX9_put_5 rfl (lv_at hl 0 rfl) ?_
  refine va_get (D := g.1) (ci := 10) (v := .int 7) (C := RX9) (T := TX9) (N := 4) hx hb hts in9_X9_put_18_RX9 hown hK hP 0 rfl rfl 3 (by decide) (hts (.fieldLink RX9 28 "Regexloom$Table" "size" "I") (List.mem_of_getElem? (i := 1) rfl)) (fun _ h9 => h9) rfl dX9_put_6 ?_
  refine lv_icmp_ge (tgt := 38) hx hb dX9_put_9 (by decide) (fun c9 => absurd c9 (by decide)) (fun _ => ?_)
  refine lv_iload_n hx hb dX9_put_12 rfl (lv_at hl 2 rfl) ?_
  refine lv_if_lt (tgt := 38) hx hb dX9_put_13 (by decide) (fun c9 => absurd c9 (by decide)) (fun _ => ?_)
  refine lv_iload_n hx hb dX9_put_16 rfl (lv_at hl 2 rfl) ?_
  refine lv_aload_n hx hb dX9_put_17 rfl (lv_at hl 0 rfl) ?_
  refine va_get (D := g.1) (ci := 10) (v := .int 1) (C := RX9) (T := TX9) (N := 4) hx hb hts in9_X9_put_18_RX9 hown hK hP 0 rfl rfl 0 (by decide) (hts (.fieldLink RX9 9 "Regexloom$Table" "width" "I") (List.mem_of_getElem? (i := 2) rfl)) (fun _ h9 => h9) rfl dX9_put_18 ?_
  refine lv_icmp_ge (tgt := 38) hx hb dX9_put_21 (by decide) (fun c9 => absurd c9 (by decide)) (fun _ => ?_)
  refine lv_aload_n hx hb dX9_put_24 rfl (lv_at hl 0 rfl) ?_
  refine va_get (D := g.1) (ci := 10) (v := .ref h1) (C := RX9) (T := TX9) (N := 4) hx hb hts in9_X9_put_18_RX9 hown hK hP 0 rfl rfl 2 (by decide) (hts (.fieldLink RX9 24 "Regexloom$Table" "cells" "[I") (List.mem_of_getElem? (i := 3) rfl)) (fun _ h9 => h9) rfl dX9_put_25 ?_
  refine lv_iload_n hx hb dX9_put_28 rfl (lv_at hl 1 rfl) ?_
  refine lv_aload_n hx hb dX9_put_29 rfl (lv_at hl 0 rfl) ?_
  refine va_get (D := g.1) (ci := 10) (v := .int 1) (C := RX9) (T := TX9) (N := 4) hx hb hts in9_X9_put_18_RX9 hown hK hP 0 rfl rfl 0 (by decide) (hts (.fieldLink RX9 9 "Regexloom$Table" "width" "I") (List.mem_of_getElem? (i := 2) rfl)) (fun _ h9 => h9) rfl dX9_put_30 ?_
  refine lv_imul hx hb dX9_put_33 ?_
  refine e_top (y := 3) (by decide) ?_
  refine lv_iload_n hx hb dX9_put_34 rfl (lv_at hl 2 rfl) ?_
  refine lv_iadd hx hb dX9_put_35 ?_
  refine e_top (y := 3) (by decide) ?_
  refine lv_iload_n hx hb dX9_put_36 rfl (lv_at hl 3 rfl) ?_
  refine va_iast hx hb hK hP hD hS 1 0 rfl rfl (vp_in_nI (n := 3) (by decide) (by decide)) dX9_put_37 (fun H locs hP hD hS => ?_)
  have hP : va_P g.1 vwCl [(h0, .inr (10, [.int 1, .int 7, .ref h1, .int 7])), (h1, .inl (g.2.1 0, 7, .inl (upd f0 3 (-1))))] H := hP
  have hD : va_D A [(h0, .inr (10, [.int 1, .int 7, .ref h1, .int 7])), (h1, .inl (g.2.1 0, 7, .inl (upd f0 3 (-1))))] := hD
  have hP9 := hP.sub (ws' := [(h0, .inr (10, [.int 1, .int 7, .ref h1, .int 7])), (h1, .inl (g.2.1 0, 7, .inl (upd f0 3 (-1))))]) [0, 1] rfl
  have hD9 := hD.sub (ws' := [(h0, .inr (10, [.int 1, .int 7, .ref h1, .int 7])), (h1, .inl (g.2.1 0, 7, .inl (upd f0 3 (-1))))]) [0, 1] (by decide) rfl
  subst hAe
  exact W.vret hx hb hr (fun t ht hW => ⟨⟨(), rfl, trivial, by rw [ht]; exact hP9, hD9⟩, hS.F ht⟩) hS.2.2 dX9_put_38
def w9_X9_put_19 : List Cond := [.code yX9_put cX9_put 4 none, .fieldLink RX9 28 "Regexloom$Table" "size" "I", .fieldLink RX9 9 "Regexloom$Table" "width" "I", .fieldLink RX9 24 "Regexloom$Table" "cells" "[I"] ++ (u_ws RX9 TX9 4)
set_option maxRecDepth 20000 in
theorem in9_X9_put_19_RX9 : ∀ w ∈ u_ws RX9 TX9 4, w ∈ w9_X9_put_19 := by decide +kernel
set_option maxHeartbeats 4000000 in
set_option maxRecDepth 100000 in
theorem c9_X9_put_19 (l : Launch) (g : G9) (h0 h1 sz : Nat) (f0 : Nat → Int32) : Met l yX9_put w9_X9_put_19 ({ frames := 0, cells := 0, slots := 0, locals := 0 }) (mP g [(h0, .inr (10, [.int 1, .int 7, .ref h1, .int 7])), (h1, .inl (g.2.1 0, 7, .inl f0))] sz [.ref h0, .int 4, .int 0, .int (-1)]) (va_Qv (fun _ : Unit => True) (fun (_ : Unit) (t : State) => mB g [(h0, .inr (10, [.int 1, .int 7, .ref h1, .int 7])), (h1, .inl (g.2.1 0, 7, .inl f0))] sz [(h0, .inr (10, [.int 1, .int 7, .ref h1, .int 7])), (h1, .inl (g.2.1 0, 7, .inl (upd f0 4 (-1))))] t) (va_A [(h0, .inr (10, [.int 1, .int 7, .ref h1, .int 7])), (h1, .inl (g.2.1 0, 7, .inl f0))] sz)) 0 0 (va_A [(h0, .inr (10, [.int 1, .int 7, .ref h1, .int 7])), (h1, .inl (g.2.1 0, 7, .inl f0))] sz) := by
  refine Met.ofW (cc := cX9_put) (maxL := 4) (ret := none) (by decide) rfl ?_
  intro p e s m args below meth c s₁ B hml hv
  obtain ⟨rfl, hsz, hP, hD0, hE⟩ := hv
  have hx := B.exec
  have hb := B.bytes
  have hr := B.returns
  have hts := atoms_spec (ws := w9_X9_put_19) B.pre
  have hown : s.vm.findClass RX9 = some m.cls := findClass_of_methodNamed B.named
  have hlocks := B.notSynchronized
  subst hsz
  have hD := hD0.self (sz := s.heap.size)
  generalize hAe : va_A [(h0, .inr (10, [.int 1, .int 7, .ref h1, .int 7])), (h1, .inl (g.2.1 0, 7, .inl f0))] s.heap.size = A at hD hE ⊢
  have hA : ∀ q : Nat, s.heap.size ≤ q → A q := fun q h => by rw [← hAe]; exact Or.inr h
  have hK := hE.1
  have hS : va_S A s.heap s.heap [] := va_S.rf
  replace hP : va_P g.1 vwCl [(h0, .inr (10, [.int 1, .int 7, .ref h1, .int 7])), (h1, .inl (g.2.1 0, 7, .inl f0))] s.heap := hP
  have hl := lv_entry ([.ref h0, .int 4, .int 0, .int (-1)]) (n := 4) (Nat.le_of_ble_eq_true rfl)
  rw [lg_entry_eq]
  generalize (lg_sl ([.ref h0, .int 4, .int 0, .int (-1)]) ++ List.replicate (4 - (lg_sl ([.ref h0, .int 4, .int 0, .int (-1)])).length) Slot.unset).toArray = ls at hl ⊢
  replace hl : lv_has ls 4 [(0, .ref h0), (1, .int 4), (2, .int 0), (3, .int (-1))] := hl
  have hH0 : s.heap.size ≤ s.heap.size := Nat.le_refl _
  refine lv_iload_n hx hb dX9_put_0 rfl (lv_at hl 1 rfl) ?_
  refine lv_if_lt (tgt := 38) hx hb dX9_put_1 (by decide) (fun c9 => absurd c9 (by decide)) (fun _ => ?_)
  refine lv_iload_n hx hb dX9_put_4 rfl (lv_at hl 1 rfl) ?_
  refine lv_aload_n hx hb dX9_put_5 rfl (lv_at hl 0 rfl) ?_
  refine va_get (D := g.1) (ci := 10) (v := .int 7) (C := RX9) (T := TX9) (N := 4) hx hb hts in9_X9_put_19_RX9 hown hK hP 0 rfl rfl 3 (by decide) (hts (.fieldLink RX9 28 "Regexloom$Table" "size" "I") (List.mem_of_getElem? (i := 1) rfl)) (fun _ h9 => h9) rfl dX9_put_6 ?_
  refine lv_icmp_ge (tgt := 38) hx hb dX9_put_9 (by decide) (fun c9 => absurd c9 (by decide)) (fun _ => ?_)
  refine lv_iload_n hx hb dX9_put_12 rfl (lv_at hl 2 rfl) ?_
  refine lv_if_lt (tgt := 38) hx hb dX9_put_13 (by decide) (fun c9 => absurd c9 (by decide)) (fun _ => ?_)
  refine lv_iload_n hx hb dX9_put_16 rfl (lv_at hl 2 rfl) ?_
  refine lv_aload_n hx hb dX9_put_17 rfl (lv_at hl 0 rfl) ?_
  refine va_get (D := g.1) (ci := 10) (v := .int 1) (C := RX9) (T := TX9) (N := 4) hx hb hts in9_X9_put_19_RX9 hown hK hP 0 rfl rfl 0 (by decide) (hts (.fieldLink RX9 9 "Regexloom$Table" "width" "I") (List.mem_of_getElem? (i := 2) rfl)) (fun _ h9 => h9) rfl dX9_put_18 ?_
  refine lv_icmp_ge (tgt := 38) hx hb dX9_put_21 (by decide) (fun c9 => absurd c9 (by decide)) (fun _ => ?_)
  refine lv_aload_n hx hb dX9_put_24 rfl (lv_at hl 0 rfl) ?_
  refine va_get (D := g.1) (ci := 10) (v := .ref h1) (C := RX9) (T := TX9) (N := 4) hx hb hts in9_X9_put_19_RX9 hown hK hP 0 rfl rfl 2 (by decide) (hts (.fieldLink RX9 24 "Regexloom$Table" "cells" "[I") (List.mem_of_getElem? (i := 3) rfl)) (fun _ h9 => h9) rfl dX9_put_25 ?_
  refine lv_iload_n hx hb dX9_put_28 rfl (lv_at hl 1 rfl) ?_
  refine lv_aload_n hx hb dX9_put_29 rfl (lv_at hl 0 rfl) ?_
  refine va_get (D := g.1) (ci := 10) (v := .int 1) (C := RX9) (T := TX9) (N := 4) hx hb hts in9_X9_put_19_RX9 hown hK hP 0 rfl rfl 0 (by decide) (hts (.fieldLink RX9 9 "Regexloom$Table" "width" "I") (List.mem_of_getElem? (i := 2) rfl)) (fun _ h9 => h9) rfl dX9_put_30 ?_
  refine lv_imul hx hb dX9_put_33 ?_
  refine e_top (y := 4) (by decide) ?_
  refine lv_iload_n hx hb dX9_put_34 rfl (lv_at hl 2 rfl) ?_
  refine lv_iadd hx hb dX9_put_35 ?_
  refine e_top (y := 4) (by decide) ?_
  refine lv_iload_n hx hb dX9_put_36 rfl (lv_at hl 3 rfl) ?_
  refine va_iast hx hb hK hP hD hS 1 0 rfl rfl (vp_in_nI (n := 4) (by decide) (by decide)) dX9_put_37 (fun H locs hP hD hS => ?_)
  have hP : va_P g.1 vwCl [(h0, .inr (10, [.int 1, .int 7, .ref h1, .int 7])), (h1, .inl (g.2.1 0, 7, .inl (upd f0 4 (-1))))] H := hP
  have hD : va_D A [(h0, .inr (10, [.int 1, .int 7, .ref h1, .int 7])), (h1, .inl (g.2.1 0, 7, .inl (upd f0 4 (-1))))] := hD
  have hP9 := hP.sub (ws' := [(h0, .inr (10, [.int 1, .int 7, .ref h1, .int 7])), (h1, .inl (g.2.1 0, 7, .inl (upd f0 4 (-1))))]) [0, 1] rfl
  have hD9 := hD.sub (ws' := [(h0, .inr (10, [.int 1, .int 7, .ref h1, .int 7])), (h1, .inl (g.2.1 0, 7, .inl (upd f0 4 (-1))))]) [0, 1] (by decide) rfl
  subst hAe
  exact W.vret hx hb hr (fun t ht hW => ⟨⟨(), rfl, trivial, by rw [ht]; exact hP9, hD9⟩, hS.F ht⟩) hS.2.2 dX9_put_38
def w9_X9_put_20 : List Cond := [.code yX9_put cX9_put 4 none, .fieldLink RX9 28 "Regexloom$Table" "size" "I", .fieldLink RX9 9 "Regexloom$Table" "width" "I", .fieldLink RX9 24 "Regexloom$Table" "cells" "[I"] ++ (u_ws RX9 TX9 4)
set_option maxRecDepth 20000 in
theorem in9_X9_put_20_RX9 : ∀ w ∈ u_ws RX9 TX9 4, w ∈ w9_X9_put_20 := by decide +kernel
set_option maxHeartbeats 4000000 in
set_option maxRecDepth 100000 in
theorem c9_X9_put_20 (l : Launch) (g : G9) (h0 h1 sz : Nat) (f0 : Nat → Int32) : Met l yX9_put w9_X9_put_20 ({ frames := 0, cells := 0, slots := 0, locals := 0 }) (mP g [(h0, .inr (10, [.int 1, .int 7, .ref h1, .int 7])), (h1, .inl (g.2.1 0, 7, .inl f0))] sz [.ref h0, .int 5, .int 0, .int (-1)]) (va_Qv (fun _ : Unit => True) (fun (_ : Unit) (t : State) => mB g [(h0, .inr (10, [.int 1, .int 7, .ref h1, .int 7])), (h1, .inl (g.2.1 0, 7, .inl f0))] sz [(h0, .inr (10, [.int 1, .int 7, .ref h1, .int 7])), (h1, .inl (g.2.1 0, 7, .inl (upd f0 5 (-1))))] t) (va_A [(h0, .inr (10, [.int 1, .int 7, .ref h1, .int 7])), (h1, .inl (g.2.1 0, 7, .inl f0))] sz)) 0 0 (va_A [(h0, .inr (10, [.int 1, .int 7, .ref h1, .int 7])), (h1, .inl (g.2.1 0, 7, .inl f0))] sz) := by
  refine Met.ofW (cc := cX9_put) (maxL := 4) (ret := none) (by decide) rfl ?_
  intro p e s m args below meth c s₁ B hml hv
  obtain ⟨rfl, hsz, hP, hD0, hE⟩ := hv
  have hx := B.exec
  have hb := B.bytes
  have hr := B.returns
  have hts := atoms_spec (ws := w9_X9_put_20) B.pre
  have hown : s.vm.findClass RX9 = some m.cls := findClass_of_methodNamed B.named
  have hlocks := B.notSynchronized
  subst hsz
  have hD := hD0.self (sz := s.heap.size)
  generalize hAe : va_A [(h0, .inr (10, [.int 1, .int 7, .ref h1, .int 7])), (h1, .inl (g.2.1 0, 7, .inl f0))] s.heap.size = A at hD hE ⊢
  have hA : ∀ q : Nat, s.heap.size ≤ q → A q := fun q h => by rw [← hAe]; exact Or.inr h
  have hK := hE.1
  have hS : va_S A s.heap s.heap [] := va_S.rf
  replace hP : va_P g.1 vwCl [(h0, .inr (10, [.int 1, .int 7, .ref h1, .int 7])), (h1, .inl (g.2.1 0, 7, .inl f0))] s.heap := hP
  have hl := lv_entry ([.ref h0, .int 5, .int 0, .int (-1)]) (n := 4) (Nat.le_of_ble_eq_true rfl)
  rw [lg_entry_eq]
  generalize (lg_sl ([.ref h0, .int 5, .int 0, .int (-1)]) ++ List.replicate (4 - (lg_sl ([.ref h0, .int 5, .int 0, .int (-1)])).length) Slot.unset).toArray = ls at hl ⊢
  replace hl : lv_has ls 4 [(0, .ref h0), (1, .int 5), (2, .int 0), (3, .int (-1))] := hl
  have hH0 : s.heap.size ≤ s.heap.size := Nat.le_refl _
  refine lv_iload_n hx hb dX9_put_0 rfl (lv_at hl 1 rfl) ?_
  refine lv_if_lt (tgt := 38) hx hb dX9_put_1 (by decide) (fun c9 => absurd c9 (by decide)) (fun _ => ?_)
  refine lv_iload_n hx hb dX9_put_4 rfl (lv_at hl 1 rfl) ?_
  refine lv_aload_n hx hb dX9_put_5 rfl (lv_at hl 0 rfl) ?_
  refine va_get (D := g.1) (ci := 10) (v := .int 7) (C := RX9) (T := TX9) (N := 4) hx hb hts in9_X9_put_20_RX9 hown hK hP 0 rfl rfl 3 (by decide) (hts (.fieldLink RX9 28 "Regexloom$Table" "size" "I") (List.mem_of_getElem? (i := 1) rfl)) (fun _ h9 => h9) rfl dX9_put_6 ?_
  refine lv_icmp_ge (tgt := 38) hx hb dX9_put_9 (by decide) (fun c9 => absurd c9 (by decide)) (fun _ => ?_)
  refine lv_iload_n hx hb dX9_put_12 rfl (lv_at hl 2 rfl) ?_
  refine lv_if_lt (tgt := 38) hx hb dX9_put_13 (by decide) (fun c9 => absurd c9 (by decide)) (fun _ => ?_)
  refine lv_iload_n hx hb dX9_put_16 rfl (lv_at hl 2 rfl) ?_
  refine lv_aload_n hx hb dX9_put_17 rfl (lv_at hl 0 rfl) ?_
  refine va_get (D := g.1) (ci := 10) (v := .int 1) (C := RX9) (T := TX9) (N := 4) hx hb hts in9_X9_put_20_RX9 hown hK hP 0 rfl rfl 0 (by decide) (hts (.fieldLink RX9 9 "Regexloom$Table" "width" "I") (List.mem_of_getElem? (i := 2) rfl)) (fun _ h9 => h9) rfl dX9_put_18 ?_
  refine lv_icmp_ge (tgt := 38) hx hb dX9_put_21 (by decide) (fun c9 => absurd c9 (by decide)) (fun _ => ?_)
  refine lv_aload_n hx hb dX9_put_24 rfl (lv_at hl 0 rfl) ?_
  refine va_get (D := g.1) (ci := 10) (v := .ref h1) (C := RX9) (T := TX9) (N := 4) hx hb hts in9_X9_put_20_RX9 hown hK hP 0 rfl rfl 2 (by decide) (hts (.fieldLink RX9 24 "Regexloom$Table" "cells" "[I") (List.mem_of_getElem? (i := 3) rfl)) (fun _ h9 => h9) rfl dX9_put_25 ?_
  refine lv_iload_n hx hb dX9_put_28 rfl (lv_at hl 1 rfl) ?_
  refine lv_aload_n hx hb dX9_put_29 rfl (lv_at hl 0 rfl) ?_
  refine va_get (D := g.1) (ci := 10) (v := .int 1) (C := RX9) (T := TX9) (N := 4) hx hb hts in9_X9_put_20_RX9 hown hK hP 0 rfl rfl 0 (by decide) (hts (.fieldLink RX9 9 "Regexloom$Table" "width" "I") (List.mem_of_getElem? (i := 2) rfl)) (fun _ h9 => h9) rfl dX9_put_30 ?_
  refine lv_imul hx hb dX9_put_33 ?_
  refine e_top (y := 5) (by decide) ?_
  refine lv_iload_n hx hb dX9_put_34 rfl (lv_at hl 2 rfl) ?_
  refine lv_iadd hx hb dX9_put_35 ?_
  refine e_top (y := 5) (by decide) ?_
  refine lv_iload_n hx hb dX9_put_36 rfl (lv_at hl 3 rfl) ?_
  refine va_iast hx hb hK hP hD hS 1 0 rfl rfl (vp_in_nI (n := 5) (by decide) (by decide)) dX9_put_37 (fun H locs hP hD hS => ?_)
  have hP : va_P g.1 vwCl [(h0, .inr (10, [.int 1, .int 7, .ref h1, .int 7])), (h1, .inl (g.2.1 0, 7, .inl (upd f0 5 (-1))))] H := hP
  have hD : va_D A [(h0, .inr (10, [.int 1, .int 7, .ref h1, .int 7])), (h1, .inl (g.2.1 0, 7, .inl (upd f0 5 (-1))))] := hD
  have hP9 := hP.sub (ws' := [(h0, .inr (10, [.int 1, .int 7, .ref h1, .int 7])), (h1, .inl (g.2.1 0, 7, .inl (upd f0 5 (-1))))]) [0, 1] rfl
  have hD9 := hD.sub (ws' := [(h0, .inr (10, [.int 1, .int 7, .ref h1, .int 7])), (h1, .inl (g.2.1 0, 7, .inl (upd f0 5 (-1))))]) [0, 1] (by decide) rfl
  subst hAe
  exact W.vret hx hb hr (fun t ht hW => ⟨⟨(), rfl, trivial, by rw [ht]; exact hP9, hD9⟩, hS.F ht⟩) hS.2.2 dX9_put_38
def w9_X9_put_21 : List Cond := [.code yX9_put cX9_put 4 none, .fieldLink RX9 28 "Regexloom$Table" "size" "I", .fieldLink RX9 9 "Regexloom$Table" "width" "I", .fieldLink RX9 24 "Regexloom$Table" "cells" "[I"] ++ (u_ws RX9 TX9 4)
set_option maxRecDepth 20000 in
theorem in9_X9_put_21_RX9 : ∀ w ∈ u_ws RX9 TX9 4, w ∈ w9_X9_put_21 := by decide +kernel
set_option maxHeartbeats 4000000 in
set_option maxRecDepth 100000 in
theorem c9_X9_put_21 (l : Launch) (g : G9) (h0 h1 sz : Nat) (f0 : Nat → Int32) : Met l yX9_put w9_X9_put_21 ({ frames := 0, cells := 0, slots := 0, locals := 0 }) (mP g [(h0, .inr (10, [.int 1, .int 7, .ref h1, .int 7])), (h1, .inl (g.2.1 0, 7, .inl f0))] sz [.ref h0, .int 6, .int 0, .int (-1)]) (va_Qv (fun _ : Unit => True) (fun (_ : Unit) (t : State) => mB g [(h0, .inr (10, [.int 1, .int 7, .ref h1, .int 7])), (h1, .inl (g.2.1 0, 7, .inl f0))] sz [(h0, .inr (10, [.int 1, .int 7, .ref h1, .int 7])), (h1, .inl (g.2.1 0, 7, .inl (upd f0 6 (-1))))] t) (va_A [(h0, .inr (10, [.int 1, .int 7, .ref h1, .int 7])), (h1, .inl (g.2.1 0, 7, .inl f0))] sz)) 0 0 (va_A [(h0, .inr (10, [.int 1, .int 7, .ref h1, .int 7])), (h1, .inl (g.2.1 0, 7, .inl f0))] sz) := by
  refine Met.ofW (cc := cX9_put) (maxL := 4) (ret := none) (by decide) rfl ?_
  intro p e s m args below meth c s₁ B hml hv
  obtain ⟨rfl, hsz, hP, hD0, hE⟩ := hv
  have hx := B.exec
  have hb := B.bytes
  have hr := B.returns
  have hts := atoms_spec (ws := w9_X9_put_21) B.pre
  have hown : s.vm.findClass RX9 = some m.cls := findClass_of_methodNamed B.named
  have hlocks := B.notSynchronized
  subst hsz
  have hD := hD0.self (sz := s.heap.size)
  generalize hAe : va_A [(h0, .inr (10, [.int 1, .int 7, .ref h1, .int 7])), (h1, .inl (g.2.1 0, 7, .inl f0))] s.heap.size = A at hD hE ⊢
  have hA : ∀ q : Nat, s.heap.size ≤ q → A q := fun q h => by rw [← hAe]; exact Or.inr h
  have hK := hE.1
  have hS : va_S A s.heap s.heap [] := va_S.rf
  replace hP : va_P g.1 vwCl [(h0, .inr (10, [.int 1, .int 7, .ref h1, .int 7])), (h1, .inl (g.2.1 0, 7, .inl f0))] s.heap := hP
  have hl := lv_entry ([.ref h0, .int 6, .int 0, .int (-1)]) (n := 4) (Nat.le_of_ble_eq_true rfl)
  rw [lg_entry_eq]
  generalize (lg_sl ([.ref h0, .int 6, .int 0, .int (-1)]) ++ List.replicate (4 - (lg_sl ([.ref h0, .int 6, .int 0, .int (-1)])).length) Slot.unset).toArray = ls at hl ⊢
  replace hl : lv_has ls 4 [(0, .ref h0), (1, .int 6), (2, .int 0), (3, .int (-1))] := hl
  have hH0 : s.heap.size ≤ s.heap.size := Nat.le_refl _
  refine lv_iload_n hx hb dX9_put_0 rfl (lv_at hl 1 rfl) ?_
  refine lv_if_lt (tgt := 38) hx hb dX9_put_1 (by decide) (fun c9 => absurd c9 (by decide)) (fun _ => ?_)
  refine lv_iload_n hx hb dX9_put_4 rfl (lv_at hl 1 rfl) ?_
  refine lv_aload_n hx hb dX9_put_5 rfl (lv_at hl 0 rfl) ?_
  refine va_get (D := g.1) (ci := 10) (v := .int 7) (C := RX9) (T := TX9) (N := 4) hx hb hts in9_X9_put_21_RX9 hown hK hP 0 rfl rfl 3 (by decide) (hts (.fieldLink RX9 28 "Regexloom$Table" "size" "I") (List.mem_of_getElem? (i := 1) rfl)) (fun _ h9 => h9) rfl dX9_put_6 ?_
  refine lv_icmp_ge (tgt := 38) hx hb dX9_put_9 (by decide) (fun c9 => absurd c9 (by decide)) (fun _ => ?_)
  refine lv_iload_n hx hb dX9_put_12 rfl (lv_at hl 2 rfl) ?_
  refine lv_if_lt (tgt := 38) hx hb dX9_put_13 (by decide) (fun c9 => absurd c9 (by decide)) (fun _ => ?_)
  refine lv_iload_n hx hb dX9_put_16 rfl (lv_at hl 2 rfl) ?_
  refine lv_aload_n hx hb dX9_put_17 rfl (lv_at hl 0 rfl) ?_
  refine va_get (D := g.1) (ci := 10) (v := .int 1) (C := RX9) (T := TX9) (N := 4) hx hb hts in9_X9_put_21_RX9 hown hK hP 0 rfl rfl 0 (by decide) (hts (.fieldLink RX9 9 "Regexloom$Table" "width" "I") (List.mem_of_getElem? (i := 2) rfl)) (fun _ h9 => h9) rfl dX9_put_18 ?_
  refine lv_icmp_ge (tgt := 38) hx hb dX9_put_21 (by decide) (fun c9 => absurd c9 (by decide)) (fun _ => ?_)
  refine lv_aload_n hx hb dX9_put_24 rfl (lv_at hl 0 rfl) ?_
  refine va_get (D := g.1) (ci := 10) (v := .ref h1) (C := RX9) (T := TX9) (N := 4) hx hb hts in9_X9_put_21_RX9 hown hK hP 0 rfl rfl 2 (by decide) (hts (.fieldLink RX9 24 "Regexloom$Table" "cells" "[I") (List.mem_of_getElem? (i := 3) rfl)) (fun _ h9 => h9) rfl dX9_put_25 ?_
  refine lv_iload_n hx hb dX9_put_28 rfl (lv_at hl 1 rfl) ?_
  refine lv_aload_n hx hb dX9_put_29 rfl (lv_at hl 0 rfl) ?_
  refine va_get (D := g.1) (ci := 10) (v := .int 1) (C := RX9) (T := TX9) (N := 4) hx hb hts in9_X9_put_21_RX9 hown hK hP 0 rfl rfl 0 (by decide) (hts (.fieldLink RX9 9 "Regexloom$Table" "width" "I") (List.mem_of_getElem? (i := 2) rfl)) (fun _ h9 => h9) rfl dX9_put_30 ?_
  refine lv_imul hx hb dX9_put_33 ?_
  refine e_top (y := 6) (by decide) ?_
  refine lv_iload_n hx hb dX9_put_34 rfl (lv_at hl 2 rfl) ?_
  refine lv_iadd hx hb dX9_put_35 ?_
  refine e_top (y := 6) (by decide) ?_
  refine lv_iload_n hx hb dX9_put_36 rfl (lv_at hl 3 rfl) ?_
  refine va_iast hx hb hK hP hD hS 1 0 rfl rfl (vp_in_nI (n := 6) (by decide) (by decide)) dX9_put_37 (fun H locs hP hD hS => ?_)
  have hP : va_P g.1 vwCl [(h0, .inr (10, [.int 1, .int 7, .ref h1, .int 7])), (h1, .inl (g.2.1 0, 7, .inl (upd f0 6 (-1))))] H := hP
  have hD : va_D A [(h0, .inr (10, [.int 1, .int 7, .ref h1, .int 7])), (h1, .inl (g.2.1 0, 7, .inl (upd f0 6 (-1))))] := hD
  have hP9 := hP.sub (ws' := [(h0, .inr (10, [.int 1, .int 7, .ref h1, .int 7])), (h1, .inl (g.2.1 0, 7, .inl (upd f0 6 (-1))))]) [0, 1] rfl
  have hD9 := hD.sub (ws' := [(h0, .inr (10, [.int 1, .int 7, .ref h1, .int 7])), (h1, .inl (g.2.1 0, 7, .inl (upd f0 6 (-1))))]) [0, 1] (by decide) rfl
  subst hAe
  exact W.vret hx hb hr (fun t ht hW => ⟨⟨(), rfl, trivial, by rw [ht]; exact hP9, hD9⟩, hS.F ht⟩) hS.2.2 dX9_put_38
def w9_X3_empty_1 : List Cond := [.code yX3_empty cX3_empty 2 none, .fieldLink RX3 14 "Regexloom$Pattern" "pieces" "LRegexloom$Table;", .methodLink RX3 26 yX9_cutTo, .instanceMethod yX9_cutTo, .selects RX9 yX9_cutTo yX9_cutTo, .initialized RX9, .code yX9_cutTo cX9_cutTo 2 none, .fieldLink RX9 28 "Regexloom$Table" "size" "I", .fieldLink RX3 20 "Regexloom$Pattern" "branches" "LRegexloom$Table;", .fieldLink RX3 23 "Regexloom$Pattern" "firstGroups" "LRegexloom$Table;", .methodLink RX3 30 yX9_reach, .instanceMethod yX9_reach, .selects RX9 yX9_reach yX9_reach, .code yX9_reach cX9_reach 3 none, .fieldLink RX9 15 "Regexloom$Table" "most" "I", .methodLink RX9 18 Lib.Math.min.name, .static Lib.Math.min.name, .initialized "java/lang/Math", .code Lib.Math.min.name Lib.Math.min.code 2 (some .int), .fieldLink RX9 9 "Regexloom$Table" "width" "I", .fieldLink RX9 24 "Regexloom$Table" "cells" "[I", .methodLink RX3 33 yX9_put, .instanceMethod yX9_put, .selects RX9 yX9_put yX9_put, .code yX9_put cX9_put 4 none, .fieldLink RX3 37 "Regexloom$Pattern" "root" "I", .fieldLink RX3 41 "Regexloom$Pattern" "groups" "I", .fieldLink RX3 44 "Regexloom$Pattern" "isTold" "Z", .fieldLink RX3 48 "Regexloom$Pattern" "isPlain" "Z", .fieldLink RX3 51 "Regexloom$Pattern" "isRegular" "Z"] ++ (u_ws RX3 TX3 8 ++ u_ws RX9 TX9 4)
set_option maxRecDepth 20000 in
theorem in9_X3_empty_1_RX3 : ∀ w ∈ u_ws RX3 TX3 8, w ∈ w9_X3_empty_1 := by decide +kernel
set_option maxRecDepth 20000 in
theorem in9_X3_empty_1_RX9 : ∀ w ∈ u_ws RX9 TX9 4, w ∈ w9_X3_empty_1 := by decide +kernel
set_option maxRecDepth 20000 in
theorem g9_X3_empty_1_0 : GoodIn w9_X3_empty_1 (wsV RX3 26 RX9 yX9_cutTo w9_X9_cutTo_1) := goodIn_r _ [2, 3, 4, 5, 6, 7, 38, 39, 40, 41] (by decide +kernel) (by decide +kernel)
set_option maxRecDepth 20000 in
theorem g9_X3_empty_1_1 : GoodIn w9_X3_empty_1 (wsV RX3 26 RX9 yX9_cutTo w9_X9_cutTo_2) := goodIn_r _ [2, 3, 4, 5, 6, 7, 38, 39, 40, 41] (by decide +kernel) (by decide +kernel)
set_option maxRecDepth 20000 in
theorem g9_X3_empty_1_2 : GoodIn w9_X3_empty_1 (wsV RX3 30 RX9 yX9_reach w9_X9_reach_2) := goodIn_r _ [10, 11, 12, 5, 13, 14, 15, 16, 17, 18, 7, 19, 20, 38, 39, 40, 41] (by decide +kernel) (by decide +kernel)
set_option maxRecDepth 20000 in
theorem g9_X3_empty_1_3 : GoodIn w9_X3_empty_1 (wsV RX3 33 RX9 yX9_put w9_X9_put_15) := goodIn_r _ [21, 22, 23, 5, 24, 7, 19, 20, 38, 39, 40, 41] (by decide +kernel) (by decide +kernel)
set_option maxRecDepth 20000 in
theorem g9_X3_empty_1_4 : GoodIn w9_X3_empty_1 (wsV RX3 33 RX9 yX9_put w9_X9_put_16) := goodIn_r _ [21, 22, 23, 5, 24, 7, 19, 20, 38, 39, 40, 41] (by decide +kernel) (by decide +kernel)
set_option maxRecDepth 20000 in
theorem g9_X3_empty_1_5 : GoodIn w9_X3_empty_1 (wsV RX3 33 RX9 yX9_put w9_X9_put_17) := goodIn_r _ [21, 22, 23, 5, 24, 7, 19, 20, 38, 39, 40, 41] (by decide +kernel) (by decide +kernel)
set_option maxRecDepth 20000 in
theorem g9_X3_empty_1_6 : GoodIn w9_X3_empty_1 (wsV RX3 33 RX9 yX9_put w9_X9_put_18) := goodIn_r _ [21, 22, 23, 5, 24, 7, 19, 20, 38, 39, 40, 41] (by decide +kernel) (by decide +kernel)
set_option maxRecDepth 20000 in
theorem g9_X3_empty_1_7 : GoodIn w9_X3_empty_1 (wsV RX3 33 RX9 yX9_put w9_X9_put_19) := goodIn_r _ [21, 22, 23, 5, 24, 7, 19, 20, 38, 39, 40, 41] (by decide +kernel) (by decide +kernel)
set_option maxRecDepth 20000 in
theorem g9_X3_empty_1_8 : GoodIn w9_X3_empty_1 (wsV RX3 33 RX9 yX9_put w9_X9_put_20) := goodIn_r _ [21, 22, 23, 5, 24, 7, 19, 20, 38, 39, 40, 41] (by decide +kernel) (by decide +kernel)
set_option maxRecDepth 20000 in
theorem g9_X3_empty_1_9 : GoodIn w9_X3_empty_1 (wsV RX3 33 RX9 yX9_put w9_X9_put_21) := goodIn_r _ [21, 22, 23, 5, 24, 7, 19, 20, 38, 39, 40, 41] (by decide +kernel) (by decide +kernel)
set_option maxHeartbeats 4000000 in
set_option maxRecDepth 100000 in
theorem c9_X3_empty_1 (l : Launch) (g : G9) (h0 h1 h2 h3 h4 h5 h6 sz : Nat) (f0 : Nat → Int32) : Met l yX3_empty w9_X3_empty_1 ({ frames := 2, cells := 0, slots := 0, locals := 38 }) (mP g [(h0, .inr (6, [.ref h1, .ref h2, .ref h3, .int 0, .int 0, .int 0, .int 0, .int 0])), (h1, .inr (10, [.int 10, .int 33, .ref h4, .int 0])), (h2, .inr (10, [.int 2, .int 33, .ref h5, .int 0])), (h3, .inr (10, [.int 1, .int 7, .ref h6, .int 0])), (h6, .inl (g.2.1 0, 7, .inl f0))] sz [.ref h0]) (va_Qv (fun _ : Unit => True) (fun (_ : Unit) (t : State) => mB g [(h0, .inr (6, [.ref h1, .ref h2, .ref h3, .int 0, .int 0, .int 0, .int 0, .int 0])), (h1, .inr (10, [.int 10, .int 33, .ref h4, .int 0])), (h2, .inr (10, [.int 2, .int 33, .ref h5, .int 0])), (h3, .inr (10, [.int 1, .int 7, .ref h6, .int 0])), (h6, .inl (g.2.1 0, 7, .inl f0))] sz [(h0, .inr (6, [.ref h1, .ref h2, .ref h3, .int (-1), .int 0, .int 0, .int 0, .int 0])), (h1, .inr (10, [.int 10, .int 33, .ref h4, .int 0])), (h2, .inr (10, [.int 2, .int 33, .ref h5, .int 0])), (h3, .inr (10, [.int 1, .int 7, .ref h6, .int 7])), (h6, .inl (g.2.1 0, 7, .inl (upd (upd (upd (upd (upd (upd (upd f0 0 (-1)) 1 (-1)) 2 (-1)) 3 (-1)) 4 (-1)) 5 (-1)) 6 (-1))))] t) (va_A [(h0, .inr (6, [.ref h1, .ref h2, .ref h3, .int 0, .int 0, .int 0, .int 0, .int 0])), (h1, .inr (10, [.int 10, .int 33, .ref h4, .int 0])), (h2, .inr (10, [.int 2, .int 33, .ref h5, .int 0])), (h3, .inr (10, [.int 1, .int 7, .ref h6, .int 0])), (h6, .inl (g.2.1 0, 7, .inl f0))] sz)) 0 0 (va_A [(h0, .inr (6, [.ref h1, .ref h2, .ref h3, .int 0, .int 0, .int 0, .int 0, .int 0])), (h1, .inr (10, [.int 10, .int 33, .ref h4, .int 0])), (h2, .inr (10, [.int 2, .int 33, .ref h5, .int 0])), (h3, .inr (10, [.int 1, .int 7, .ref h6, .int 0])), (h6, .inl (g.2.1 0, 7, .inl f0))] sz) := by
  refine Met.ofW (cc := cX3_empty) (maxL := 2) (ret := none) (by decide) rfl ?_
  intro p e s m args below meth c s₁ B hml hv
  obtain ⟨rfl, hsz, hP, hD0, hE⟩ := hv
  have hx := B.exec
  have hb := B.bytes
  have hr := B.returns
  have hts := atoms_spec (ws := w9_X3_empty_1) B.pre
  have hown : s.vm.findClass RX3 = some m.cls := findClass_of_methodNamed B.named
  have hlocks := B.notSynchronized
  subst hsz
  have hD := hD0.self (sz := s.heap.size)
  generalize hAe : va_A [(h0, .inr (6, [.ref h1, .ref h2, .ref h3, .int 0, .int 0, .int 0, .int 0, .int 0])), (h1, .inr (10, [.int 10, .int 33, .ref h4, .int 0])), (h2, .inr (10, [.int 2, .int 33, .ref h5, .int 0])), (h3, .inr (10, [.int 1, .int 7, .ref h6, .int 0])), (h6, .inl (g.2.1 0, 7, .inl f0))] s.heap.size = A at hD hE ⊢
  have hA : ∀ q : Nat, s.heap.size ≤ q → A q := fun q h => by rw [← hAe]; exact Or.inr h
  have hK := hE.1
  have hS : va_S A s.heap s.heap [] := va_S.rf
  replace hP : va_P g.1 vwCl [(h0, .inr (6, [.ref h1, .ref h2, .ref h3, .int 0, .int 0, .int 0, .int 0, .int 0])), (h1, .inr (10, [.int 10, .int 33, .ref h4, .int 0])), (h2, .inr (10, [.int 2, .int 33, .ref h5, .int 0])), (h3, .inr (10, [.int 1, .int 7, .ref h6, .int 0])), (h6, .inl (g.2.1 0, 7, .inl f0))] s.heap := hP
  have hl := lv_entry ([.ref h0]) (n := 2) (Nat.le_of_ble_eq_true rfl)
  rw [lg_entry_eq]
  generalize (lg_sl ([.ref h0]) ++ List.replicate (2 - (lg_sl ([.ref h0])).length) Slot.unset).toArray = ls at hl ⊢
  replace hl : lv_has ls 2 [(0, .ref h0)] := hl
  have hH0 : s.heap.size ≤ s.heap.size := Nat.le_refl _
  refine lv_aload_n hx hb dX3_empty_0 rfl (lv_at hl 0 rfl) ?_
  refine va_get (D := g.1) (ci := 6) (v := .ref h1) (C := RX3) (T := TX3) (N := 8) hx hb hts in9_X3_empty_1_RX3 hown hK hP 0 rfl rfl 0 (by decide) (hts (.fieldLink RX3 14 "Regexloom$Pattern" "pieces" "LRegexloom$Table;") (List.mem_of_getElem? (i := 1) rfl)) (fun _ h9 => h9) rfl dX3_empty_1 ?_
  refine lv_iconst (v := 0) hx hb dX3_empty_4 (by decide) ?_
  have hPc := hP.sub (ws' := [(h1, .inr (10, [.int 10, .int 33, .ref h4, .int 0]))]) [1] rfl
  have hDc := hD.sub (ws' := [(h1, .inr (10, [.int 10, .int 33, .ref h4, .int 0]))]) [1] (by decide) rfl
  have hFc := va_free (wc := [(h1, .inr (10, [.int 10, .int 33, .ref h4, .int 0]))]) hD hS hA [1] rfl
  refine va_callv (va_runV (As := [.int 0]) (rest := []) ⟨hx, hb, hml, hown, hts⟩ (c9_X9_cutTo_1 l g h1 h4 _) (cwV 1 hts g9_X3_empty_1_0 rfl rfl rfl (by decide +kernel) ⟨Nat.le_of_ble_eq_true rfl, Nat.le_of_ble_eq_true rfl⟩) (mPreV (g := g) (wc := [(h1, .inr (10, [.int 10, .int 33, .ref h4, .int 0]))]) (C := RX9) (ci := 10) (q0 := 0) hE hS hPc hDc hFc rfl rfl) rfl rfl hl.1 rfl (lv_room (Nat.le_of_ble_eq_true rfl)) dX3_empty_5 ⟨Nat.le_of_ble_eq_true rfl, Nat.le_of_ble_eq_true rfl⟩) hS (fun q _ h => hFc q h) hFc (fun u t H1 locs ht hvm hw hB hz1 hk1 hS => ?_)
  obtain ⟨hP1, hD1⟩ := hB
  rw [ht] at hP1
  obtain ⟨hP, hD⟩ := va_join (wr := [(h0, .inr (6, [.ref h1, .ref h2, .ref h3, .int 0, .int 0, .int 0, .int 0, .int 0])), (h2, .inr (10, [.int 2, .int 33, .ref h5, .int 0])), (h3, .inr (10, [.int 1, .int 7, .ref h6, .int 0])), (h6, .inl (g.2.1 0, 7, .inl f0))]) (w1 := [(h1, .inr (10, [.int 10, .int 33, .ref h4, .int 0]))]) hP hD [1] [0, 2, 3, 4] rfl rfl (by decide) (by decide) hk1 hFc hP1 hD1
  clear hP1 hD1 hPc hDc hFc hk1 hz1 hvm ht
  generalize H1 = H at hP hS ⊢
  have hP : va_P g.1 vwCl [(h0, .inr (6, [.ref h1, .ref h2, .ref h3, .int 0, .int 0, .int 0, .int 0, .int 0])), (h2, .inr (10, [.int 2, .int 33, .ref h5, .int 0])), (h3, .inr (10, [.int 1, .int 7, .ref h6, .int 0])), (h6, .inl (g.2.1 0, 7, .inl f0)), (h1, .inr (10, [.int 10, .int 33, .ref h4, .int 0]))] H := hP
  have hD : va_D A [(h0, .inr (6, [.ref h1, .ref h2, .ref h3, .int 0, .int 0, .int 0, .int 0, .int 0])), (h2, .inr (10, [.int 2, .int 33, .ref h5, .int 0])), (h3, .inr (10, [.int 1, .int 7, .ref h6, .int 0])), (h6, .inl (g.2.1 0, 7, .inl f0)), (h1, .inr (10, [.int 10, .int 33, .ref h4, .int 0]))] := hD
  refine lv_aload_n hx hb dX3_empty_8 rfl (lv_at hl 0 rfl) ?_
  refine va_get (D := g.1) (ci := 6) (v := .ref h2) (C := RX3) (T := TX3) (N := 8) hx hb hts in9_X3_empty_1_RX3 hown hK hP 0 rfl rfl 1 (by decide) (hts (.fieldLink RX3 20 "Regexloom$Pattern" "branches" "LRegexloom$Table;") (List.mem_of_getElem? (i := 8) rfl)) (fun _ h9 => h9) rfl dX3_empty_9 ?_
  refine lv_iconst (v := 0) hx hb dX3_empty_12 (by decide) ?_
  have hPc := hP.sub (ws' := [(h2, .inr (10, [.int 2, .int 33, .ref h5, .int 0]))]) [1] rfl
  have hDc := hD.sub (ws' := [(h2, .inr (10, [.int 2, .int 33, .ref h5, .int 0]))]) [1] (by decide) rfl
  have hFc := va_free (wc := [(h2, .inr (10, [.int 2, .int 33, .ref h5, .int 0]))]) hD hS hA [1] rfl
  refine va_callv (va_runV (As := [.int 0]) (rest := []) ⟨hx, hb, hml, hown, hts⟩ (c9_X9_cutTo_2 l g h2 h5 _) (cwV 1 hts g9_X3_empty_1_1 rfl rfl rfl (by decide +kernel) ⟨Nat.le_of_ble_eq_true rfl, Nat.le_of_ble_eq_true rfl⟩) (mPreV (g := g) (wc := [(h2, .inr (10, [.int 2, .int 33, .ref h5, .int 0]))]) (C := RX9) (ci := 10) (q0 := 0) hE hS hPc hDc hFc rfl rfl) rfl rfl hl.1 rfl (lv_room (Nat.le_of_ble_eq_true rfl)) dX3_empty_13 ⟨Nat.le_of_ble_eq_true rfl, Nat.le_of_ble_eq_true rfl⟩) hS (fun q _ h => hFc q h) hFc (fun u t H1 locs ht hvm hw hB hz1 hk1 hS => ?_)
  obtain ⟨hP1, hD1⟩ := hB
  rw [ht] at hP1
  obtain ⟨hP, hD⟩ := va_join (wr := [(h0, .inr (6, [.ref h1, .ref h2, .ref h3, .int 0, .int 0, .int 0, .int 0, .int 0])), (h3, .inr (10, [.int 1, .int 7, .ref h6, .int 0])), (h6, .inl (g.2.1 0, 7, .inl f0)), (h1, .inr (10, [.int 10, .int 33, .ref h4, .int 0]))]) (w1 := [(h2, .inr (10, [.int 2, .int 33, .ref h5, .int 0]))]) hP hD [1] [0, 2, 3, 4] rfl rfl (by decide) (by decide) hk1 hFc hP1 hD1
  clear hP1 hD1 hPc hDc hFc hk1 hz1 hvm ht
  generalize H1 = H at hP hS ⊢
  have hP : va_P g.1 vwCl [(h0, .inr (6, [.ref h1, .ref h2, .ref h3, .int 0, .int 0, .int 0, .int 0, .int 0])), (h3, .inr (10, [.int 1, .int 7, .ref h6, .int 0])), (h6, .inl (g.2.1 0, 7, .inl f0)), (h1, .inr (10, [.int 10, .int 33, .ref h4, .int 0])), (h2, .inr (10, [.int 2, .int 33, .ref h5, .int 0]))] H := hP
  have hD : va_D A [(h0, .inr (6, [.ref h1, .ref h2, .ref h3, .int 0, .int 0, .int 0, .int 0, .int 0])), (h3, .inr (10, [.int 1, .int 7, .ref h6, .int 0])), (h6, .inl (g.2.1 0, 7, .inl f0)), (h1, .inr (10, [.int 10, .int 33, .ref h4, .int 0])), (h2, .inr (10, [.int 2, .int 33, .ref h5, .int 0]))] := hD
  refine lv_aload_n hx hb dX3_empty_16 rfl (lv_at hl 0 rfl) ?_
  refine va_get (D := g.1) (ci := 6) (v := .ref h3) (C := RX3) (T := TX3) (N := 8) hx hb hts in9_X3_empty_1_RX3 hown hK hP 0 rfl rfl 2 (by decide) (hts (.fieldLink RX3 23 "Regexloom$Pattern" "firstGroups" "LRegexloom$Table;") (List.mem_of_getElem? (i := 9) rfl)) (fun _ h9 => h9) rfl dX3_empty_17 ?_
  refine lv_bipush (v := 7) hx hb dX3_empty_20 (by decide) ?_
  have hPc := hP.sub (ws' := [(h3, .inr (10, [.int 1, .int 7, .ref h6, .int 0])), (h6, .inl (g.2.1 0, 7, .inl f0))]) [1, 2] rfl
  have hDc := hD.sub (ws' := [(h3, .inr (10, [.int 1, .int 7, .ref h6, .int 0])), (h6, .inl (g.2.1 0, 7, .inl f0))]) [1, 2] (by decide) rfl
  have hFc := va_free (wc := [(h3, .inr (10, [.int 1, .int 7, .ref h6, .int 0])), (h6, .inl (g.2.1 0, 7, .inl f0))]) hD hS hA [1, 2] rfl
  refine va_callv (va_runV (As := [.int 7]) (rest := []) ⟨hx, hb, hml, hown, hts⟩ (c9_X9_reach_2 l g h3 h6 _ f0) (cwV 1 hts g9_X3_empty_1_2 rfl rfl rfl (by decide +kernel) ⟨Nat.le_of_ble_eq_true rfl, Nat.le_of_ble_eq_true rfl⟩) (mPreV (g := g) (wc := [(h3, .inr (10, [.int 1, .int 7, .ref h6, .int 0])), (h6, .inl (g.2.1 0, 7, .inl f0))]) (C := RX9) (ci := 10) (q0 := 0) hE hS hPc hDc hFc rfl rfl) rfl rfl hl.1 rfl (lv_room (Nat.le_of_ble_eq_true rfl)) dX3_empty_22 ⟨Nat.le_of_ble_eq_true rfl, Nat.le_of_ble_eq_true rfl⟩) hS (fun q _ h => hFc q h) hFc (fun u t H1 locs ht hvm hw hB hz1 hk1 hS => ?_)
  obtain ⟨hP1, hD1⟩ := hB
  rw [ht] at hP1
  obtain ⟨hP, hD⟩ := va_join (wr := [(h0, .inr (6, [.ref h1, .ref h2, .ref h3, .int 0, .int 0, .int 0, .int 0, .int 0])), (h1, .inr (10, [.int 10, .int 33, .ref h4, .int 0])), (h2, .inr (10, [.int 2, .int 33, .ref h5, .int 0]))]) (w1 := [(h3, .inr (10, [.int 1, .int 7, .ref h6, .int 7])), (h6, .inl (g.2.1 0, 7, .inl f0))]) hP hD [1, 2] [0, 3, 4] rfl rfl (by decide) (by decide) hk1 hFc hP1 hD1
  clear hP1 hD1 hPc hDc hFc hk1 hz1 hvm ht
  generalize H1 = H at hP hS ⊢
  have hP : va_P g.1 vwCl [(h0, .inr (6, [.ref h1, .ref h2, .ref h3, .int 0, .int 0, .int 0, .int 0, .int 0])), (h1, .inr (10, [.int 10, .int 33, .ref h4, .int 0])), (h2, .inr (10, [.int 2, .int 33, .ref h5, .int 0])), (h3, .inr (10, [.int 1, .int 7, .ref h6, .int 7])), (h6, .inl (g.2.1 0, 7, .inl f0))] H := hP
  have hD : va_D A [(h0, .inr (6, [.ref h1, .ref h2, .ref h3, .int 0, .int 0, .int 0, .int 0, .int 0])), (h1, .inr (10, [.int 10, .int 33, .ref h4, .int 0])), (h2, .inr (10, [.int 2, .int 33, .ref h5, .int 0])), (h3, .inr (10, [.int 1, .int 7, .ref h6, .int 7])), (h6, .inl (g.2.1 0, 7, .inl f0))] := hD
  refine lv_iconst (v := 0) hx hb dX3_empty_25 (by decide) ?_
  refine lv_istore_n (lv' := [(1, .int 0), (0, .ref h0)]) hx hb dX3_empty_26 rfl hl (by decide) rfl (fun ls hl => ?_)
  refine lv_iload_n hx hb dX3_empty_27 rfl (lv_at hl 0 rfl) ?_
  refine lv_bipush (v := 6) hx hb dX3_empty_28 (by decide) ?_
  refine lv_icmp_gt (tgt := 49) hx hb dX3_empty_30 (by decide) (fun c9 => absurd c9 (by decide)) (fun _ => ?_)
  refine lv_aload_n hx hb dX3_empty_33 rfl (lv_at hl 1 rfl) ?_
  refine va_get (D := g.1) (ci := 6) (v := .ref h3) (C := RX3) (T := TX3) (N := 8) hx hb hts in9_X3_empty_1_RX3 hown hK hP 0 rfl rfl 2 (by decide) (hts (.fieldLink RX3 23 "Regexloom$Pattern" "firstGroups" "LRegexloom$Table;") (List.mem_of_getElem? (i := 9) rfl)) (fun _ h9 => h9) rfl dX3_empty_34 ?_
  refine lv_iload_n hx hb dX3_empty_37 rfl (lv_at hl 0 rfl) ?_
  refine lv_iconst (v := 0) hx hb dX3_empty_38 (by decide) ?_
  refine lv_iconst (v := (-1)) hx hb dX3_empty_39 (by decide) ?_
  have hPc := hP.sub (ws' := [(h3, .inr (10, [.int 1, .int 7, .ref h6, .int 7])), (h6, .inl (g.2.1 0, 7, .inl f0))]) [3, 4] rfl
  have hDc := hD.sub (ws' := [(h3, .inr (10, [.int 1, .int 7, .ref h6, .int 7])), (h6, .inl (g.2.1 0, 7, .inl f0))]) [3, 4] (by decide) rfl
  have hFc := va_free (wc := [(h3, .inr (10, [.int 1, .int 7, .ref h6, .int 7])), (h6, .inl (g.2.1 0, 7, .inl f0))]) hD hS hA [3, 4] rfl
  refine va_callv (va_runV (As := [.int 0, .int 0, .int (-1)]) (rest := []) ⟨hx, hb, hml, hown, hts⟩ (c9_X9_put_15 l g h3 h6 _ f0) (cwV 3 hts g9_X3_empty_1_3 rfl rfl rfl (by decide +kernel) ⟨Nat.le_of_ble_eq_true rfl, Nat.le_of_ble_eq_true rfl⟩) (mPreV (g := g) (wc := [(h3, .inr (10, [.int 1, .int 7, .ref h6, .int 7])), (h6, .inl (g.2.1 0, 7, .inl f0))]) (C := RX9) (ci := 10) (q0 := 0) hE hS hPc hDc hFc rfl rfl) rfl rfl hl.1 rfl (lv_room (Nat.le_of_ble_eq_true rfl)) dX3_empty_40 ⟨Nat.le_of_ble_eq_true rfl, Nat.le_of_ble_eq_true rfl⟩) hS (fun q _ h => hFc q h) hFc (fun u t H1 locs ht hvm hw hB hz1 hk1 hS => ?_)
  obtain ⟨hP1, hD1⟩ := hB
  rw [ht] at hP1
  obtain ⟨hP, hD⟩ := va_join (wr := [(h0, .inr (6, [.ref h1, .ref h2, .ref h3, .int 0, .int 0, .int 0, .int 0, .int 0])), (h1, .inr (10, [.int 10, .int 33, .ref h4, .int 0])), (h2, .inr (10, [.int 2, .int 33, .ref h5, .int 0]))]) (w1 := [(h3, .inr (10, [.int 1, .int 7, .ref h6, .int 7])), (h6, .inl (g.2.1 0, 7, .inl (upd f0 0 (-1))))]) hP hD [3, 4] [0, 1, 2] rfl rfl (by decide) (by decide) hk1 hFc hP1 hD1
  clear hP1 hD1 hPc hDc hFc hk1 hz1 hvm ht
  generalize H1 = H at hP hS ⊢
  have hP : va_P g.1 vwCl [(h0, .inr (6, [.ref h1, .ref h2, .ref h3, .int 0, .int 0, .int 0, .int 0, .int 0])), (h1, .inr (10, [.int 10, .int 33, .ref h4, .int 0])), (h2, .inr (10, [.int 2, .int 33, .ref h5, .int 0])), (h3, .inr (10, [.int 1, .int 7, .ref h6, .int 7])), (h6, .inl (g.2.1 0, 7, .inl (upd f0 0 (-1))))] H := hP
  have hD : va_D A [(h0, .inr (6, [.ref h1, .ref h2, .ref h3, .int 0, .int 0, .int 0, .int 0, .int 0])), (h1, .inr (10, [.int 10, .int 33, .ref h4, .int 0])), (h2, .inr (10, [.int 2, .int 33, .ref h5, .int 0])), (h3, .inr (10, [.int 1, .int 7, .ref h6, .int 7])), (h6, .inl (g.2.1 0, 7, .inl (upd f0 0 (-1))))] := hD
  refine lv_iinc (v := 1) (lv' := [(1, .int 1), (0, .ref h0)]) hx hb dX3_empty_43 hl (k := 0) rfl (by decide) (by decide) rfl (fun ls hl => ?_)
  refine lv_goto (tgt := 27) hx hb dX3_empty_46 (by decide) ?_
  refine lv_iload_n hx hb dX3_empty_27 rfl (lv_at hl 0 rfl) ?_
  refine lv_bipush (v := 6) hx hb dX3_empty_28 (by decide) ?_
  refine lv_icmp_gt (tgt := 49) hx hb dX3_empty_30 (by decide) (fun c9 => absurd c9 (by decide)) (fun _ => ?_)
  refine lv_aload_n hx hb dX3_empty_33 rfl (lv_at hl 1 rfl) ?_
  refine va_get (D := g.1) (ci := 6) (v := .ref h3) (C := RX3) (T := TX3) (N := 8) hx hb hts in9_X3_empty_1_RX3 hown hK hP 0 rfl rfl 2 (by decide) (hts (.fieldLink RX3 23 "Regexloom$Pattern" "firstGroups" "LRegexloom$Table;") (List.mem_of_getElem? (i := 9) rfl)) (fun _ h9 => h9) rfl dX3_empty_34 ?_
  refine lv_iload_n hx hb dX3_empty_37 rfl (lv_at hl 0 rfl) ?_
  refine lv_iconst (v := 0) hx hb dX3_empty_38 (by decide) ?_
  refine lv_iconst (v := (-1)) hx hb dX3_empty_39 (by decide) ?_
  have hPc := hP.sub (ws' := [(h3, .inr (10, [.int 1, .int 7, .ref h6, .int 7])), (h6, .inl (g.2.1 0, 7, .inl (upd f0 0 (-1))))]) [3, 4] rfl
  have hDc := hD.sub (ws' := [(h3, .inr (10, [.int 1, .int 7, .ref h6, .int 7])), (h6, .inl (g.2.1 0, 7, .inl (upd f0 0 (-1))))]) [3, 4] (by decide) rfl
  have hFc := va_free (wc := [(h3, .inr (10, [.int 1, .int 7, .ref h6, .int 7])), (h6, .inl (g.2.1 0, 7, .inl (upd f0 0 (-1))))]) hD hS hA [3, 4] rfl
  refine va_callv (va_runV (As := [.int 1, .int 0, .int (-1)]) (rest := []) ⟨hx, hb, hml, hown, hts⟩ (c9_X9_put_16 l g h3 h6 _ (upd f0 0 (-1))) (cwV 3 hts g9_X3_empty_1_4 rfl rfl rfl (by decide +kernel) ⟨Nat.le_of_ble_eq_true rfl, Nat.le_of_ble_eq_true rfl⟩) (mPreV (g := g) (wc := [(h3, .inr (10, [.int 1, .int 7, .ref h6, .int 7])), (h6, .inl (g.2.1 0, 7, .inl (upd f0 0 (-1))))]) (C := RX9) (ci := 10) (q0 := 0) hE hS hPc hDc hFc rfl rfl) rfl rfl hl.1 rfl (lv_room (Nat.le_of_ble_eq_true rfl)) dX3_empty_40 ⟨Nat.le_of_ble_eq_true rfl, Nat.le_of_ble_eq_true rfl⟩) hS (fun q _ h => hFc q h) hFc (fun u t H1 locs ht hvm hw hB hz1 hk1 hS => ?_)
  obtain ⟨hP1, hD1⟩ := hB
  rw [ht] at hP1
  obtain ⟨hP, hD⟩ := va_join (wr := [(h0, .inr (6, [.ref h1, .ref h2, .ref h3, .int 0, .int 0, .int 0, .int 0, .int 0])), (h1, .inr (10, [.int 10, .int 33, .ref h4, .int 0])), (h2, .inr (10, [.int 2, .int 33, .ref h5, .int 0]))]) (w1 := [(h3, .inr (10, [.int 1, .int 7, .ref h6, .int 7])), (h6, .inl (g.2.1 0, 7, .inl (upd (upd f0 0 (-1)) 1 (-1))))]) hP hD [3, 4] [0, 1, 2] rfl rfl (by decide) (by decide) hk1 hFc hP1 hD1
  clear hP1 hD1 hPc hDc hFc hk1 hz1 hvm ht
  generalize H1 = H at hP hS ⊢
  have hP : va_P g.1 vwCl [(h0, .inr (6, [.ref h1, .ref h2, .ref h3, .int 0, .int 0, .int 0, .int 0, .int 0])), (h1, .inr (10, [.int 10, .int 33, .ref h4, .int 0])), (h2, .inr (10, [.int 2, .int 33, .ref h5, .int 0])), (h3, .inr (10, [.int 1, .int 7, .ref h6, .int 7])), (h6, .inl (g.2.1 0, 7, .inl (upd (upd f0 0 (-1)) 1 (-1))))] H := hP
  have hD : va_D A [(h0, .inr (6, [.ref h1, .ref h2, .ref h3, .int 0, .int 0, .int 0, .int 0, .int 0])), (h1, .inr (10, [.int 10, .int 33, .ref h4, .int 0])), (h2, .inr (10, [.int 2, .int 33, .ref h5, .int 0])), (h3, .inr (10, [.int 1, .int 7, .ref h6, .int 7])), (h6, .inl (g.2.1 0, 7, .inl (upd (upd f0 0 (-1)) 1 (-1))))] := hD
  refine lv_iinc (v := 2) (lv' := [(1, .int 2), (0, .ref h0)]) hx hb dX3_empty_43 hl (k := 0) rfl (by decide) (by decide) rfl (fun ls hl => ?_)
  refine lv_goto (tgt := 27) hx hb dX3_empty_46 (by decide) ?_
  refine lv_iload_n hx hb dX3_empty_27 rfl (lv_at hl 0 rfl) ?_
  refine lv_bipush (v := 6) hx hb dX3_empty_28 (by decide) ?_
  refine lv_icmp_gt (tgt := 49) hx hb dX3_empty_30 (by decide) (fun c9 => absurd c9 (by decide)) (fun _ => ?_)
  refine lv_aload_n hx hb dX3_empty_33 rfl (lv_at hl 1 rfl) ?_
  refine va_get (D := g.1) (ci := 6) (v := .ref h3) (C := RX3) (T := TX3) (N := 8) hx hb hts in9_X3_empty_1_RX3 hown hK hP 0 rfl rfl 2 (by decide) (hts (.fieldLink RX3 23 "Regexloom$Pattern" "firstGroups" "LRegexloom$Table;") (List.mem_of_getElem? (i := 9) rfl)) (fun _ h9 => h9) rfl dX3_empty_34 ?_
  refine lv_iload_n hx hb dX3_empty_37 rfl (lv_at hl 0 rfl) ?_
  refine lv_iconst (v := 0) hx hb dX3_empty_38 (by decide) ?_
  refine lv_iconst (v := (-1)) hx hb dX3_empty_39 (by decide) ?_
  have hPc := hP.sub (ws' := [(h3, .inr (10, [.int 1, .int 7, .ref h6, .int 7])), (h6, .inl (g.2.1 0, 7, .inl (upd (upd f0 0 (-1)) 1 (-1))))]) [3, 4] rfl
  have hDc := hD.sub (ws' := [(h3, .inr (10, [.int 1, .int 7, .ref h6, .int 7])), (h6, .inl (g.2.1 0, 7, .inl (upd (upd f0 0 (-1)) 1 (-1))))]) [3, 4] (by decide) rfl
  have hFc := va_free (wc := [(h3, .inr (10, [.int 1, .int 7, .ref h6, .int 7])), (h6, .inl (g.2.1 0, 7, .inl (upd (upd f0 0 (-1)) 1 (-1))))]) hD hS hA [3, 4] rfl
  refine va_callv (va_runV (As := [.int 2, .int 0, .int (-1)]) (rest := []) ⟨hx, hb, hml, hown, hts⟩ (c9_X9_put_17 l g h3 h6 _ (upd (upd f0 0 (-1)) 1 (-1))) (cwV 3 hts g9_X3_empty_1_5 rfl rfl rfl (by decide +kernel) ⟨Nat.le_of_ble_eq_true rfl, Nat.le_of_ble_eq_true rfl⟩) (mPreV (g := g) (wc := [(h3, .inr (10, [.int 1, .int 7, .ref h6, .int 7])), (h6, .inl (g.2.1 0, 7, .inl (upd (upd f0 0 (-1)) 1 (-1))))]) (C := RX9) (ci := 10) (q0 := 0) hE hS hPc hDc hFc rfl rfl) rfl rfl hl.1 rfl (lv_room (Nat.le_of_ble_eq_true rfl)) dX3_empty_40 ⟨Nat.le_of_ble_eq_true rfl, Nat.le_of_ble_eq_true rfl⟩) hS (fun q _ h => hFc q h) hFc (fun u t H1 locs ht hvm hw hB hz1 hk1 hS => ?_)
  obtain ⟨hP1, hD1⟩ := hB
  rw [ht] at hP1
  obtain ⟨hP, hD⟩ := va_join (wr := [(h0, .inr (6, [.ref h1, .ref h2, .ref h3, .int 0, .int 0, .int 0, .int 0, .int 0])), (h1, .inr (10, [.int 10, .int 33, .ref h4, .int 0])), (h2, .inr (10, [.int 2, .int 33, .ref h5, .int 0]))]) (w1 := [(h3, .inr (10, [.int 1, .int 7, .ref h6, .int 7])), (h6, .inl (g.2.1 0, 7, .inl (upd (upd (upd f0 0 (-1)) 1 (-1)) 2 (-1))))]) hP hD [3, 4] [0, 1, 2] rfl rfl (by decide) (by decide) hk1 hFc hP1 hD1
  clear hP1 hD1 hPc hDc hFc hk1 hz1 hvm ht
  generalize H1 = H at hP hS ⊢
  have hP : va_P g.1 vwCl [(h0, .inr (6, [.ref h1, .ref h2, .ref h3, .int 0, .int 0, .int 0, .int 0, .int 0])), (h1, .inr (10, [.int 10, .int 33, .ref h4, .int 0])), (h2, .inr (10, [.int 2, .int 33, .ref h5, .int 0])), (h3, .inr (10, [.int 1, .int 7, .ref h6, .int 7])), (h6, .inl (g.2.1 0, 7, .inl (upd (upd (upd f0 0 (-1)) 1 (-1)) 2 (-1))))] H := hP
  have hD : va_D A [(h0, .inr (6, [.ref h1, .ref h2, .ref h3, .int 0, .int 0, .int 0, .int 0, .int 0])), (h1, .inr (10, [.int 10, .int 33, .ref h4, .int 0])), (h2, .inr (10, [.int 2, .int 33, .ref h5, .int 0])), (h3, .inr (10, [.int 1, .int 7, .ref h6, .int 7])), (h6, .inl (g.2.1 0, 7, .inl (upd (upd (upd f0 0 (-1)) 1 (-1)) 2 (-1))))] := hD
  refine lv_iinc (v := 3) (lv' := [(1, .int 3), (0, .ref h0)]) hx hb dX3_empty_43 hl (k := 0) rfl (by decide) (by decide) rfl (fun ls hl => ?_)
  refine lv_goto (tgt := 27) hx hb dX3_empty_46 (by decide) ?_
  refine lv_iload_n hx hb dX3_empty_27 rfl (lv_at hl 0 rfl) ?_
  refine lv_bipush (v := 6) hx hb dX3_empty_28 (by decide) ?_
  refine lv_icmp_gt (tgt := 49) hx hb dX3_empty_30 (by decide) (fun c9 => absurd c9 (by decide)) (fun _ => ?_)
  refine lv_aload_n hx hb dX3_empty_33 rfl (lv_at hl 1 rfl) ?_
  refine va_get (D := g.1) (ci := 6) (v := .ref h3) (C := RX3) (T := TX3) (N := 8) hx hb hts in9_X3_empty_1_RX3 hown hK hP 0 rfl rfl 2 (by decide) (hts (.fieldLink RX3 23 "Regexloom$Pattern" "firstGroups" "LRegexloom$Table;") (List.mem_of_getElem? (i := 9) rfl)) (fun _ h9 => h9) rfl dX3_empty_34 ?_
  refine lv_iload_n hx hb dX3_empty_37 rfl (lv_at hl 0 rfl) ?_
  refine lv_iconst (v := 0) hx hb dX3_empty_38 (by decide) ?_
  refine lv_iconst (v := (-1)) hx hb dX3_empty_39 (by decide) ?_
  have hPc := hP.sub (ws' := [(h3, .inr (10, [.int 1, .int 7, .ref h6, .int 7])), (h6, .inl (g.2.1 0, 7, .inl (upd (upd (upd f0 0 (-1)) 1 (-1)) 2 (-1))))]) [3, 4] rfl
  have hDc := hD.sub (ws' := [(h3, .inr (10, [.int 1, .int 7, .ref h6, .int 7])), (h6, .inl (g.2.1 0, 7, .inl (upd (upd (upd f0 0 (-1)) 1 (-1)) 2 (-1))))]) [3, 4] (by decide) rfl
  have hFc := va_free (wc := [(h3, .inr (10, [.int 1, .int 7, .ref h6, .int 7])), (h6, .inl (g.2.1 0, 7, .inl (upd (upd (upd f0 0 (-1)) 1 (-1)) 2 (-1))))]) hD hS hA [3, 4] rfl
  refine va_callv (va_runV (As := [.int 3, .int 0, .int (-1)]) (rest := []) ⟨hx, hb, hml, hown, hts⟩ (c9_X9_put_18 l g h3 h6 _ (upd (upd (upd f0 0 (-1)) 1 (-1)) 2 (-1))) (cwV 3 hts g9_X3_empty_1_6 rfl rfl rfl (by decide +kernel) ⟨Nat.le_of_ble_eq_true rfl, Nat.le_of_ble_eq_true rfl⟩) (mPreV (g := g) (wc := [(h3, .inr (10, [.int 1, .int 7, .ref h6, .int 7])), (h6, .inl (g.2.1 0, 7, .inl (upd (upd (upd f0 0 (-1)) 1 (-1)) 2 (-1))))]) (C := RX9) (ci := 10) (q0 := 0) hE hS hPc hDc hFc rfl rfl) rfl rfl hl.1 rfl (lv_room (Nat.le_of_ble_eq_true rfl)) dX3_empty_40 ⟨Nat.le_of_ble_eq_true rfl, Nat.le_of_ble_eq_true rfl⟩) hS (fun q _ h => hFc q h) hFc (fun u t H1 locs ht hvm hw hB hz1 hk1 hS => ?_)
  obtain ⟨hP1, hD1⟩ := hB
  rw [ht] at hP1
  obtain ⟨hP, hD⟩ := va_join (wr := [(h0, .inr (6, [.ref h1, .ref h2, .ref h3, .int 0, .int 0, .int 0, .int 0, .int 0])), (h1, .inr (10, [.int 10, .int 33, .ref h4, .int 0])), (h2, .inr (10, [.int 2, .int 33, .ref h5, .int 0]))]) (w1 := [(h3, .inr (10, [.int 1, .int 7, .ref h6, .int 7])), (h6, .inl (g.2.1 0, 7, .inl (upd (upd (upd (upd f0 0 (-1)) 1 (-1)) 2 (-1)) 3 (-1))))]) hP hD [3, 4] [0, 1, 2] rfl rfl (by decide) (by decide) hk1 hFc hP1 hD1
  clear hP1 hD1 hPc hDc hFc hk1 hz1 hvm ht
  generalize H1 = H at hP hS ⊢
  have hP : va_P g.1 vwCl [(h0, .inr (6, [.ref h1, .ref h2, .ref h3, .int 0, .int 0, .int 0, .int 0, .int 0])), (h1, .inr (10, [.int 10, .int 33, .ref h4, .int 0])), (h2, .inr (10, [.int 2, .int 33, .ref h5, .int 0])), (h3, .inr (10, [.int 1, .int 7, .ref h6, .int 7])), (h6, .inl (g.2.1 0, 7, .inl (upd (upd (upd (upd f0 0 (-1)) 1 (-1)) 2 (-1)) 3 (-1))))] H := hP
  have hD : va_D A [(h0, .inr (6, [.ref h1, .ref h2, .ref h3, .int 0, .int 0, .int 0, .int 0, .int 0])), (h1, .inr (10, [.int 10, .int 33, .ref h4, .int 0])), (h2, .inr (10, [.int 2, .int 33, .ref h5, .int 0])), (h3, .inr (10, [.int 1, .int 7, .ref h6, .int 7])), (h6, .inl (g.2.1 0, 7, .inl (upd (upd (upd (upd f0 0 (-1)) 1 (-1)) 2 (-1)) 3 (-1))))] := hD
  refine lv_iinc (v := 4) (lv' := [(1, .int 4), (0, .ref h0)]) hx hb dX3_empty_43 hl (k := 0) rfl (by decide) (by decide) rfl (fun ls hl => ?_)
  refine lv_goto (tgt := 27) hx hb dX3_empty_46 (by decide) ?_
  refine lv_iload_n hx hb dX3_empty_27 rfl (lv_at hl 0 rfl) ?_
  refine lv_bipush (v := 6) hx hb dX3_empty_28 (by decide) ?_
  refine lv_icmp_gt (tgt := 49) hx hb dX3_empty_30 (by decide) (fun c9 => absurd c9 (by decide)) (fun _ => ?_)
  refine lv_aload_n hx hb dX3_empty_33 rfl (lv_at hl 1 rfl) ?_
  refine va_get (D := g.1) (ci := 6) (v := .ref h3) (C := RX3) (T := TX3) (N := 8) hx hb hts in9_X3_empty_1_RX3 hown hK hP 0 rfl rfl 2 (by decide) (hts (.fieldLink RX3 23 "Regexloom$Pattern" "firstGroups" "LRegexloom$Table;") (List.mem_of_getElem? (i := 9) rfl)) (fun _ h9 => h9) rfl dX3_empty_34 ?_
  refine lv_iload_n hx hb dX3_empty_37 rfl (lv_at hl 0 rfl) ?_
  refine lv_iconst (v := 0) hx hb dX3_empty_38 (by decide) ?_
  refine lv_iconst (v := (-1)) hx hb dX3_empty_39 (by decide) ?_
  have hPc := hP.sub (ws' := [(h3, .inr (10, [.int 1, .int 7, .ref h6, .int 7])), (h6, .inl (g.2.1 0, 7, .inl (upd (upd (upd (upd f0 0 (-1)) 1 (-1)) 2 (-1)) 3 (-1))))]) [3, 4] rfl
  have hDc := hD.sub (ws' := [(h3, .inr (10, [.int 1, .int 7, .ref h6, .int 7])), (h6, .inl (g.2.1 0, 7, .inl (upd (upd (upd (upd f0 0 (-1)) 1 (-1)) 2 (-1)) 3 (-1))))]) [3, 4] (by decide) rfl
  have hFc := va_free (wc := [(h3, .inr (10, [.int 1, .int 7, .ref h6, .int 7])), (h6, .inl (g.2.1 0, 7, .inl (upd (upd (upd (upd f0 0 (-1)) 1 (-1)) 2 (-1)) 3 (-1))))]) hD hS hA [3, 4] rfl
  refine va_callv (va_runV (As := [.int 4, .int 0, .int (-1)]) (rest := []) ⟨hx, hb, hml, hown, hts⟩ (c9_X9_put_19 l g h3 h6 _ (upd (upd (upd (upd f0 0 (-1)) 1 (-1)) 2 (-1)) 3 (-1))) (cwV 3 hts g9_X3_empty_1_7 rfl rfl rfl (by decide +kernel) ⟨Nat.le_of_ble_eq_true rfl, Nat.le_of_ble_eq_true rfl⟩) (mPreV (g := g) (wc := [(h3, .inr (10, [.int 1, .int 7, .ref h6, .int 7])), (h6, .inl (g.2.1 0, 7, .inl (upd (upd (upd (upd f0 0 (-1)) 1 (-1)) 2 (-1)) 3 (-1))))]) (C := RX9) (ci := 10) (q0 := 0) hE hS hPc hDc hFc rfl rfl) rfl rfl hl.1 rfl (lv_room (Nat.le_of_ble_eq_true rfl)) dX3_empty_40 ⟨Nat.le_of_ble_eq_true rfl, Nat.le_of_ble_eq_true rfl⟩) hS (fun q _ h => hFc q h) hFc (fun u t H1 locs ht hvm hw hB hz1 hk1 hS => ?_)
  obtain ⟨hP1, hD1⟩ := hB
  rw [ht] at hP1
  obtain ⟨hP, hD⟩ := va_join (wr := [(h0, .inr (6, [.ref h1, .ref h2, .ref h3, .int 0, .int 0, .int 0, .int 0, .int 0])), (h1, .inr (10, [.int 10, .int 33, .ref h4, .int 0])), (h2, .inr (10, [.int 2, .int 33, .ref h5, .int 0]))]) (w1 := [(h3, .inr (10, [.int 1, .int 7, .ref h6, .int 7])), (h6, .inl (g.2.1 0, 7, .inl (upd (upd (upd (upd (upd f0 0 (-1)) 1 (-1)) 2 (-1)) 3 (-1)) 4 (-1))))]) hP hD [3, 4] [0, 1, 2] rfl rfl (by decide) (by decide) hk1 hFc hP1 hD1
  clear hP1 hD1 hPc hDc hFc hk1 hz1 hvm ht
  generalize H1 = H at hP hS ⊢
  have hP : va_P g.1 vwCl [(h0, .inr (6, [.ref h1, .ref h2, .ref h3, .int 0, .int 0, .int 0, .int 0, .int 0])), (h1, .inr (10, [.int 10, .int 33, .ref h4, .int 0])), (h2, .inr (10, [.int 2, .int 33, .ref h5, .int 0])), (h3, .inr (10, [.int 1, .int 7, .ref h6, .int 7])), (h6, .inl (g.2.1 0, 7, .inl (upd (upd (upd (upd (upd f0 0 (-1)) 1 (-1)) 2 (-1)) 3 (-1)) 4 (-1))))] H := hP
  have hD : va_D A [(h0, .inr (6, [.ref h1, .ref h2, .ref h3, .int 0, .int 0, .int 0, .int 0, .int 0])), (h1, .inr (10, [.int 10, .int 33, .ref h4, .int 0])), (h2, .inr (10, [.int 2, .int 33, .ref h5, .int 0])), (h3, .inr (10, [.int 1, .int 7, .ref h6, .int 7])), (h6, .inl (g.2.1 0, 7, .inl (upd (upd (upd (upd (upd f0 0 (-1)) 1 (-1)) 2 (-1)) 3 (-1)) 4 (-1))))] := hD
  refine lv_iinc (v := 5) (lv' := [(1, .int 5), (0, .ref h0)]) hx hb dX3_empty_43 hl (k := 0) rfl (by decide) (by decide) rfl (fun ls hl => ?_)
  refine lv_goto (tgt := 27) hx hb dX3_empty_46 (by decide) ?_
  refine lv_iload_n hx hb dX3_empty_27 rfl (lv_at hl 0 rfl) ?_
  refine lv_bipush (v := 6) hx hb dX3_empty_28 (by decide) ?_
  refine lv_icmp_gt (tgt := 49) hx hb dX3_empty_30 (by decide) (fun c9 => absurd c9 (by decide)) (fun _ => ?_)
  refine lv_aload_n hx hb dX3_empty_33 rfl (lv_at hl 1 rfl) ?_
  refine va_get (D := g.1) (ci := 6) (v := .ref h3) (C := RX3) (T := TX3) (N := 8) hx hb hts in9_X3_empty_1_RX3 hown hK hP 0 rfl rfl 2 (by decide) (hts (.fieldLink RX3 23 "Regexloom$Pattern" "firstGroups" "LRegexloom$Table;") (List.mem_of_getElem? (i := 9) rfl)) (fun _ h9 => h9) rfl dX3_empty_34 ?_
  refine lv_iload_n hx hb dX3_empty_37 rfl (lv_at hl 0 rfl) ?_
  refine lv_iconst (v := 0) hx hb dX3_empty_38 (by decide) ?_
  refine lv_iconst (v := (-1)) hx hb dX3_empty_39 (by decide) ?_
  have hPc := hP.sub (ws' := [(h3, .inr (10, [.int 1, .int 7, .ref h6, .int 7])), (h6, .inl (g.2.1 0, 7, .inl (upd (upd (upd (upd (upd f0 0 (-1)) 1 (-1)) 2 (-1)) 3 (-1)) 4 (-1))))]) [3, 4] rfl
  have hDc := hD.sub (ws' := [(h3, .inr (10, [.int 1, .int 7, .ref h6, .int 7])), (h6, .inl (g.2.1 0, 7, .inl (upd (upd (upd (upd (upd f0 0 (-1)) 1 (-1)) 2 (-1)) 3 (-1)) 4 (-1))))]) [3, 4] (by decide) rfl
  have hFc := va_free (wc := [(h3, .inr (10, [.int 1, .int 7, .ref h6, .int 7])), (h6, .inl (g.2.1 0, 7, .inl (upd (upd (upd (upd (upd f0 0 (-1)) 1 (-1)) 2 (-1)) 3 (-1)) 4 (-1))))]) hD hS hA [3, 4] rfl
  refine va_callv (va_runV (As := [.int 5, .int 0, .int (-1)]) (rest := []) ⟨hx, hb, hml, hown, hts⟩ (c9_X9_put_20 l g h3 h6 _ (upd (upd (upd (upd (upd f0 0 (-1)) 1 (-1)) 2 (-1)) 3 (-1)) 4 (-1))) (cwV 3 hts g9_X3_empty_1_8 rfl rfl rfl (by decide +kernel) ⟨Nat.le_of_ble_eq_true rfl, Nat.le_of_ble_eq_true rfl⟩) (mPreV (g := g) (wc := [(h3, .inr (10, [.int 1, .int 7, .ref h6, .int 7])), (h6, .inl (g.2.1 0, 7, .inl (upd (upd (upd (upd (upd f0 0 (-1)) 1 (-1)) 2 (-1)) 3 (-1)) 4 (-1))))]) (C := RX9) (ci := 10) (q0 := 0) hE hS hPc hDc hFc rfl rfl) rfl rfl hl.1 rfl (lv_room (Nat.le_of_ble_eq_true rfl)) dX3_empty_40 ⟨Nat.le_of_ble_eq_true rfl, Nat.le_of_ble_eq_true rfl⟩) hS (fun q _ h => hFc q h) hFc (fun u t H1 locs ht hvm hw hB hz1 hk1 hS => ?_)
  obtain ⟨hP1, hD1⟩ := hB
  rw [ht] at hP1
  obtain ⟨hP, hD⟩ := va_join (wr := [(h0, .inr (6, [.ref h1, .ref h2, .ref h3, .int 0, .int 0, .int 0, .int 0, .int 0])), (h1, .inr (10, [.int 10, .int 33, .ref h4, .int 0])), (h2, .inr (10, [.int 2, .int 33, .ref h5, .int 0]))]) (w1 := [(h3, .inr (10, [.int 1, .int 7, .ref h6, .int 7])), (h6, .inl (g.2.1 0, 7, .inl (upd (upd (upd (upd (upd (upd f0 0 (-1)) 1 (-1)) 2 (-1)) 3 (-1)) 4 (-1)) 5 (-1))))]) hP hD [3, 4] [0, 1, 2] rfl rfl (by decide) (by decide) hk1 hFc hP1 hD1
  clear hP1 hD1 hPc hDc hFc hk1 hz1 hvm ht
  generalize H1 = H at hP hS ⊢
  have hP : va_P g.1 vwCl [(h0, .inr (6, [.ref h1, .ref h2, .ref h3, .int 0, .int 0, .int 0, .int 0, .int 0])), (h1, .inr (10, [.int 10, .int 33, .ref h4, .int 0])), (h2, .inr (10, [.int 2, .int 33, .ref h5, .int 0])), (h3, .inr (10, [.int 1, .int 7, .ref h6, .int 7])), (h6, .inl (g.2.1 0, 7, .inl (upd (upd (upd (upd (upd (upd f0 0 (-1)) 1 (-1)) 2 (-1)) 3 (-1)) 4 (-1)) 5 (-1))))] H := hP
  have hD : va_D A [(h0, .inr (6, [.ref h1, .ref h2, .ref h3, .int 0, .int 0, .int 0, .int 0, .int 0])), (h1, .inr (10, [.int 10, .int 33, .ref h4, .int 0])), (h2, .inr (10, [.int 2, .int 33, .ref h5, .int 0])), (h3, .inr (10, [.int 1, .int 7, .ref h6, .int 7])), (h6, .inl (g.2.1 0, 7, .inl (upd (upd (upd (upd (upd (upd f0 0 (-1)) 1 (-1)) 2 (-1)) 3 (-1)) 4 (-1)) 5 (-1))))] := hD
  refine lv_iinc (v := 6) (lv' := [(1, .int 6), (0, .ref h0)]) hx hb dX3_empty_43 hl (k := 0) rfl (by decide) (by decide) rfl (fun ls hl => ?_)
  refine lv_goto (tgt := 27) hx hb dX3_empty_46 (by decide) ?_
  refine lv_iload_n hx hb dX3_empty_27 rfl (lv_at hl 0 rfl) ?_
  refine lv_bipush (v := 6) hx hb dX3_empty_28 (by decide) ?_
  refine lv_icmp_gt (tgt := 49) hx hb dX3_empty_30 (by decide) (fun c9 => absurd c9 (by decide)) (fun _ => ?_)
  refine lv_aload_n hx hb dX3_empty_33 rfl (lv_at hl 1 rfl) ?_
  refine va_get (D := g.1) (ci := 6) (v := .ref h3) (C := RX3) (T := TX3) (N := 8) hx hb hts in9_X3_empty_1_RX3 hown hK hP 0 rfl rfl 2 (by decide) (hts (.fieldLink RX3 23 "Regexloom$Pattern" "firstGroups" "LRegexloom$Table;") (List.mem_of_getElem? (i := 9) rfl)) (fun _ h9 => h9) rfl dX3_empty_34 ?_
  refine lv_iload_n hx hb dX3_empty_37 rfl (lv_at hl 0 rfl) ?_
  refine lv_iconst (v := 0) hx hb dX3_empty_38 (by decide) ?_
  refine lv_iconst (v := (-1)) hx hb dX3_empty_39 (by decide) ?_
  have hPc := hP.sub (ws' := [(h3, .inr (10, [.int 1, .int 7, .ref h6, .int 7])), (h6, .inl (g.2.1 0, 7, .inl (upd (upd (upd (upd (upd (upd f0 0 (-1)) 1 (-1)) 2 (-1)) 3 (-1)) 4 (-1)) 5 (-1))))]) [3, 4] rfl
  have hDc := hD.sub (ws' := [(h3, .inr (10, [.int 1, .int 7, .ref h6, .int 7])), (h6, .inl (g.2.1 0, 7, .inl (upd (upd (upd (upd (upd (upd f0 0 (-1)) 1 (-1)) 2 (-1)) 3 (-1)) 4 (-1)) 5 (-1))))]) [3, 4] (by decide) rfl
  have hFc := va_free (wc := [(h3, .inr (10, [.int 1, .int 7, .ref h6, .int 7])), (h6, .inl (g.2.1 0, 7, .inl (upd (upd (upd (upd (upd (upd f0 0 (-1)) 1 (-1)) 2 (-1)) 3 (-1)) 4 (-1)) 5 (-1))))]) hD hS hA [3, 4] rfl
  refine va_callv (va_runV (As := [.int 6, .int 0, .int (-1)]) (rest := []) ⟨hx, hb, hml, hown, hts⟩ (c9_X9_put_21 l g h3 h6 _ (upd (upd (upd (upd (upd (upd f0 0 (-1)) 1 (-1)) 2 (-1)) 3 (-1)) 4 (-1)) 5 (-1))) (cwV 3 hts g9_X3_empty_1_9 rfl rfl rfl (by decide +kernel) ⟨Nat.le_of_ble_eq_true rfl, Nat.le_of_ble_eq_true rfl⟩) (mPreV (g := g) (wc := [(h3, .inr (10, [.int 1, .int 7, .ref h6, .int 7])), (h6, .inl (g.2.1 0, 7, .inl (upd (upd (upd (upd (upd (upd f0 0 (-1)) 1 (-1)) 2 (-1)) 3 (-1)) 4 (-1)) 5 (-1))))]) (C := RX9) (ci := 10) (q0 := 0) hE hS hPc hDc hFc rfl rfl) rfl rfl hl.1 rfl (lv_room (Nat.le_of_ble_eq_true rfl)) dX3_empty_40 ⟨Nat.le_of_ble_eq_true rfl, Nat.le_of_ble_eq_true rfl⟩) hS (fun q _ h => hFc q h) hFc (fun u t H1 locs ht hvm hw hB hz1 hk1 hS => ?_)
  obtain ⟨hP1, hD1⟩ := hB
  rw [ht] at hP1
  obtain ⟨hP, hD⟩ := va_join (wr := [(h0, .inr (6, [.ref h1, .ref h2, .ref h3, .int 0, .int 0, .int 0, .int 0, .int 0])), (h1, .inr (10, [.int 10, .int 33, .ref h4, .int 0])), (h2, .inr (10, [.int 2, .int 33, .ref h5, .int 0]))]) (w1 := [(h3, .inr (10, [.int 1, .int 7, .ref h6, .int 7])), (h6, .inl (g.2.1 0, 7, .inl (upd (upd (upd (upd (upd (upd (upd f0 0 (-1)) 1 (-1)) 2 (-1)) 3 (-1)) 4 (-1)) 5 (-1)) 6 (-1))))]) hP hD [3, 4] [0, 1, 2] rfl rfl (by decide) (by decide) hk1 hFc hP1 hD1
  clear hP1 hD1 hPc hDc hFc hk1 hz1 hvm ht
  generalize H1 = H at hP hS ⊢
  have hP : va_P g.1 vwCl [(h0, .inr (6, [.ref h1, .ref h2, .ref h3, .int 0, .int 0, .int 0, .int 0, .int 0])), (h1, .inr (10, [.int 10, .int 33, .ref h4, .int 0])), (h2, .inr (10, [.int 2, .int 33, .ref h5, .int 0])), (h3, .inr (10, [.int 1, .int 7, .ref h6, .int 7])), (h6, .inl (g.2.1 0, 7, .inl (upd (upd (upd (upd (upd (upd (upd f0 0 (-1)) 1 (-1)) 2 (-1)) 3 (-1)) 4 (-1)) 5 (-1)) 6 (-1))))] H := hP
  have hD : va_D A [(h0, .inr (6, [.ref h1, .ref h2, .ref h3, .int 0, .int 0, .int 0, .int 0, .int 0])), (h1, .inr (10, [.int 10, .int 33, .ref h4, .int 0])), (h2, .inr (10, [.int 2, .int 33, .ref h5, .int 0])), (h3, .inr (10, [.int 1, .int 7, .ref h6, .int 7])), (h6, .inl (g.2.1 0, 7, .inl (upd (upd (upd (upd (upd (upd (upd f0 0 (-1)) 1 (-1)) 2 (-1)) 3 (-1)) 4 (-1)) 5 (-1)) 6 (-1))))] := hD
  refine lv_iinc (v := 7) (lv' := [(1, .int 7), (0, .ref h0)]) hx hb dX3_empty_43 hl (k := 0) rfl (by decide) (by decide) rfl (fun ls hl => ?_)
  refine lv_goto (tgt := 27) hx hb dX3_empty_46 (by decide) ?_
  refine lv_iload_n hx hb dX3_empty_27 rfl (lv_at hl 0 rfl) ?_
  refine lv_bipush (v := 6) hx hb dX3_empty_28 (by decide) ?_
  refine lv_icmp_gt (tgt := 49) hx hb dX3_empty_30 (by decide) (fun _ => ?_) (fun c9 => absurd (by decide) c9)
  refine lv_aload_n hx hb dX3_empty_49 rfl (lv_at hl 1 rfl) ?_
  refine lv_iconst (v := (-1)) hx hb dX3_empty_50 (by decide) ?_
  refine va_put (D := g.1) (ci := 6) (v := .int (-1)) (ty := .int) (C := RX3) (T := TX3) (N := 8) hx hb hts in9_X3_empty_1_RX3 tyX3 tyX3_ok nmX3 hown hK hP hD hS 0 rfl rfl 3 (by decide) (hts (.fieldLink RX3 37 "Regexloom$Pattern" "root" "I") (List.mem_of_getElem? (i := 25) rfl)) (fun _ h9 => h9) rfl (by decide +kernel) rfl rfl (Nat.le_of_ble_eq_true rfl) dX3_empty_51 (fun H locs hP hD hS => ?_)
  have hP : va_P g.1 vwCl [(h0, .inr (6, [.ref h1, .ref h2, .ref h3, .int (-1), .int 0, .int 0, .int 0, .int 0])), (h1, .inr (10, [.int 10, .int 33, .ref h4, .int 0])), (h2, .inr (10, [.int 2, .int 33, .ref h5, .int 0])), (h3, .inr (10, [.int 1, .int 7, .ref h6, .int 7])), (h6, .inl (g.2.1 0, 7, .inl (upd (upd (upd (upd (upd (upd (upd f0 0 (-1)) 1 (-1)) 2 (-1)) 3 (-1)) 4 (-1)) 5 (-1)) 6 (-1))))] H := hP
  have hD : va_D A [(h0, .inr (6, [.ref h1, .ref h2, .ref h3, .int (-1), .int 0, .int 0, .int 0, .int 0])), (h1, .inr (10, [.int 10, .int 33, .ref h4, .int 0])), (h2, .inr (10, [.int 2, .int 33, .ref h5, .int 0])), (h3, .inr (10, [.int 1, .int 7, .ref h6, .int 7])), (h6, .inl (g.2.1 0, 7, .inl (upd (upd (upd (upd (upd (upd (upd f0 0 (-1)) 1 (-1)) 2 (-1)) 3 (-1)) 4 (-1)) 5 (-1)) 6 (-1))))] := hD
  refine lv_aload_n hx hb dX3_empty_54 rfl (lv_at hl 1 rfl) ?_
  refine lv_iconst (v := 0) hx hb dX3_empty_55 (by decide) ?_
  refine va_put (D := g.1) (ci := 6) (v := .int 0) (ty := .int) (C := RX3) (T := TX3) (N := 8) hx hb hts in9_X3_empty_1_RX3 tyX3 tyX3_ok nmX3 hown hK hP hD hS 0 rfl rfl 4 (by decide) (hts (.fieldLink RX3 41 "Regexloom$Pattern" "groups" "I") (List.mem_of_getElem? (i := 26) rfl)) (fun _ h9 => h9) rfl (by decide +kernel) rfl rfl (Nat.le_of_ble_eq_true rfl) dX3_empty_56 (fun H locs hP hD hS => ?_)
  have hP : va_P g.1 vwCl [(h0, .inr (6, [.ref h1, .ref h2, .ref h3, .int (-1), .int 0, .int 0, .int 0, .int 0])), (h1, .inr (10, [.int 10, .int 33, .ref h4, .int 0])), (h2, .inr (10, [.int 2, .int 33, .ref h5, .int 0])), (h3, .inr (10, [.int 1, .int 7, .ref h6, .int 7])), (h6, .inl (g.2.1 0, 7, .inl (upd (upd (upd (upd (upd (upd (upd f0 0 (-1)) 1 (-1)) 2 (-1)) 3 (-1)) 4 (-1)) 5 (-1)) 6 (-1))))] H := hP
  have hD : va_D A [(h0, .inr (6, [.ref h1, .ref h2, .ref h3, .int (-1), .int 0, .int 0, .int 0, .int 0])), (h1, .inr (10, [.int 10, .int 33, .ref h4, .int 0])), (h2, .inr (10, [.int 2, .int 33, .ref h5, .int 0])), (h3, .inr (10, [.int 1, .int 7, .ref h6, .int 7])), (h6, .inl (g.2.1 0, 7, .inl (upd (upd (upd (upd (upd (upd (upd f0 0 (-1)) 1 (-1)) 2 (-1)) 3 (-1)) 4 (-1)) 5 (-1)) 6 (-1))))] := hD
  refine lv_aload_n hx hb dX3_empty_59 rfl (lv_at hl 1 rfl) ?_
  refine lv_iconst (v := 0) hx hb dX3_empty_60 (by decide) ?_
  refine va_put (D := g.1) (ci := 6) (v := .int 0) (ty := .boolean) (C := RX3) (T := TX3) (N := 8) hx hb hts in9_X3_empty_1_RX3 tyX3 tyX3_ok nmX3 hown hK hP hD hS 0 rfl rfl 5 (by decide) (hts (.fieldLink RX3 44 "Regexloom$Pattern" "isTold" "Z") (List.mem_of_getElem? (i := 27) rfl)) (fun _ h9 => h9) rfl (by decide +kernel) rfl rfl (Nat.le_of_ble_eq_true rfl) dX3_empty_61 (fun H locs hP hD hS => ?_)
  have hP : va_P g.1 vwCl [(h0, .inr (6, [.ref h1, .ref h2, .ref h3, .int (-1), .int 0, .int 0, .int 0, .int 0])), (h1, .inr (10, [.int 10, .int 33, .ref h4, .int 0])), (h2, .inr (10, [.int 2, .int 33, .ref h5, .int 0])), (h3, .inr (10, [.int 1, .int 7, .ref h6, .int 7])), (h6, .inl (g.2.1 0, 7, .inl (upd (upd (upd (upd (upd (upd (upd f0 0 (-1)) 1 (-1)) 2 (-1)) 3 (-1)) 4 (-1)) 5 (-1)) 6 (-1))))] H := hP
  have hD : va_D A [(h0, .inr (6, [.ref h1, .ref h2, .ref h3, .int (-1), .int 0, .int 0, .int 0, .int 0])), (h1, .inr (10, [.int 10, .int 33, .ref h4, .int 0])), (h2, .inr (10, [.int 2, .int 33, .ref h5, .int 0])), (h3, .inr (10, [.int 1, .int 7, .ref h6, .int 7])), (h6, .inl (g.2.1 0, 7, .inl (upd (upd (upd (upd (upd (upd (upd f0 0 (-1)) 1 (-1)) 2 (-1)) 3 (-1)) 4 (-1)) 5 (-1)) 6 (-1))))] := hD
  refine lv_aload_n hx hb dX3_empty_64 rfl (lv_at hl 1 rfl) ?_
  refine lv_iconst (v := 0) hx hb dX3_empty_65 (by decide) ?_
  refine va_put (D := g.1) (ci := 6) (v := .int 0) (ty := .boolean) (C := RX3) (T := TX3) (N := 8) hx hb hts in9_X3_empty_1_RX3 tyX3 tyX3_ok nmX3 hown hK hP hD hS 0 rfl rfl 6 (by decide) (hts (.fieldLink RX3 48 "Regexloom$Pattern" "isPlain" "Z") (List.mem_of_getElem? (i := 28) rfl)) (fun _ h9 => h9) rfl (by decide +kernel) rfl rfl (Nat.le_of_ble_eq_true rfl) dX3_empty_66 (fun H locs hP hD hS => ?_)
  have hP : va_P g.1 vwCl [(h0, .inr (6, [.ref h1, .ref h2, .ref h3, .int (-1), .int 0, .int 0, .int 0, .int 0])), (h1, .inr (10, [.int 10, .int 33, .ref h4, .int 0])), (h2, .inr (10, [.int 2, .int 33, .ref h5, .int 0])), (h3, .inr (10, [.int 1, .int 7, .ref h6, .int 7])), (h6, .inl (g.2.1 0, 7, .inl (upd (upd (upd (upd (upd (upd (upd f0 0 (-1)) 1 (-1)) 2 (-1)) 3 (-1)) 4 (-1)) 5 (-1)) 6 (-1))))] H := hP
  have hD : va_D A [(h0, .inr (6, [.ref h1, .ref h2, .ref h3, .int (-1), .int 0, .int 0, .int 0, .int 0])), (h1, .inr (10, [.int 10, .int 33, .ref h4, .int 0])), (h2, .inr (10, [.int 2, .int 33, .ref h5, .int 0])), (h3, .inr (10, [.int 1, .int 7, .ref h6, .int 7])), (h6, .inl (g.2.1 0, 7, .inl (upd (upd (upd (upd (upd (upd (upd f0 0 (-1)) 1 (-1)) 2 (-1)) 3 (-1)) 4 (-1)) 5 (-1)) 6 (-1))))] := hD
  refine lv_aload_n hx hb dX3_empty_69 rfl (lv_at hl 1 rfl) ?_
  refine lv_iconst (v := 0) hx hb dX3_empty_70 (by decide) ?_
  refine va_put (D := g.1) (ci := 6) (v := .int 0) (ty := .boolean) (C := RX3) (T := TX3) (N := 8) hx hb hts in9_X3_empty_1_RX3 tyX3 tyX3_ok nmX3 hown hK hP hD hS 0 rfl rfl 7 (by decide) (hts (.fieldLink RX3 51 "Regexloom$Pattern" "isRegular" "Z") (List.mem_of_getElem? (i := 29) rfl)) (fun _ h9 => h9) rfl (by decide +kernel) rfl rfl (Nat.le_of_ble_eq_true rfl) dX3_empty_71 (fun H locs hP hD hS => ?_)
  have hP : va_P g.1 vwCl [(h0, .inr (6, [.ref h1, .ref h2, .ref h3, .int (-1), .int 0, .int 0, .int 0, .int 0])), (h1, .inr (10, [.int 10, .int 33, .ref h4, .int 0])), (h2, .inr (10, [.int 2, .int 33, .ref h5, .int 0])), (h3, .inr (10, [.int 1, .int 7, .ref h6, .int 7])), (h6, .inl (g.2.1 0, 7, .inl (upd (upd (upd (upd (upd (upd (upd f0 0 (-1)) 1 (-1)) 2 (-1)) 3 (-1)) 4 (-1)) 5 (-1)) 6 (-1))))] H := hP
  have hD : va_D A [(h0, .inr (6, [.ref h1, .ref h2, .ref h3, .int (-1), .int 0, .int 0, .int 0, .int 0])), (h1, .inr (10, [.int 10, .int 33, .ref h4, .int 0])), (h2, .inr (10, [.int 2, .int 33, .ref h5, .int 0])), (h3, .inr (10, [.int 1, .int 7, .ref h6, .int 7])), (h6, .inl (g.2.1 0, 7, .inl (upd (upd (upd (upd (upd (upd (upd f0 0 (-1)) 1 (-1)) 2 (-1)) 3 (-1)) 4 (-1)) 5 (-1)) 6 (-1))))] := hD
  have hP9 := hP.sub (ws' := [(h0, .inr (6, [.ref h1, .ref h2, .ref h3, .int (-1), .int 0, .int 0, .int 0, .int 0])), (h1, .inr (10, [.int 10, .int 33, .ref h4, .int 0])), (h2, .inr (10, [.int 2, .int 33, .ref h5, .int 0])), (h3, .inr (10, [.int 1, .int 7, .ref h6, .int 7])), (h6, .inl (g.2.1 0, 7, .inl (upd (upd (upd (upd (upd (upd (upd f0 0 (-1)) 1 (-1)) 2 (-1)) 3 (-1)) 4 (-1)) 5 (-1)) 6 (-1))))]) [0, 1, 2, 3, 4] rfl
  have hD9 := hD.sub (ws' := [(h0, .inr (6, [.ref h1, .ref h2, .ref h3, .int (-1), .int 0, .int 0, .int 0, .int 0])), (h1, .inr (10, [.int 10, .int 33, .ref h4, .int 0])), (h2, .inr (10, [.int 2, .int 33, .ref h5, .int 0])), (h3, .inr (10, [.int 1, .int 7, .ref h6, .int 7])), (h6, .inl (g.2.1 0, 7, .inl (upd (upd (upd (upd (upd (upd (upd f0 0 (-1)) 1 (-1)) 2 (-1)) 3 (-1)) 4 (-1)) 5 (-1)) 6 (-1))))]) [0, 1, 2, 3, 4] (by decide) rfl
  subst hAe
  exact W.vret hx hb hr (fun t ht hW => ⟨⟨(), rfl, trivial, by rw [ht]; exact hP9, hD9⟩, hS.F ht⟩) hS.2.2 dX3_empty_74
def w9_X9_add_1 : List Cond := [.code yX9_add cX9_add 1 (some .int), .fieldLink RX9 28 "Regexloom$Table" "size" "I", .fieldLink RX9 15 "Regexloom$Table" "most" "I", .fieldLink RX9 9 "Regexloom$Table" "width" "I", .fieldLink RX9 24 "Regexloom$Table" "cells" "[I"] ++ (u_ws RX9 TX9 4)
set_option maxRecDepth 20000 in
theorem in9_X9_add_1_RX9 : ∀ w ∈ u_ws RX9 TX9 4, w ∈ w9_X9_add_1 := by decide +kernel
set_option maxHeartbeats 4000000 in
set_option maxRecDepth 100000 in
theorem c9_X9_add_1 (l : Launch) (g : G9) (h0 h1 sz : Nat) (f0 : Nat → Int32) : Met l yX9_add w9_X9_add_1 ({ frames := 0, cells := 0, slots := 0, locals := 0 }) (mP g [(h1, .inl (g.2.1 0, 64, .inl f0)), (h0, .inr (10, [.int 2, .int 33, .ref h1, .int 0]))] sz [.ref h0]) (va_Qi (fun (r : Int32) (_ : Unit) => r = 0) (fun (_ : Unit) (t : State) => mB g [(h1, .inl (g.2.1 0, 64, .inl f0)), (h0, .inr (10, [.int 2, .int 33, .ref h1, .int 0]))] sz [(h1, .inl (g.2.1 0, 64, .inl f0)), (h0, .inr (10, [.int 2, .int 33, .ref h1, .int 1]))] t) (va_A [(h1, .inl (g.2.1 0, 64, .inl f0)), (h0, .inr (10, [.int 2, .int 33, .ref h1, .int 0]))] sz)) 0 0 (va_A [(h1, .inl (g.2.1 0, 64, .inl f0)), (h0, .inr (10, [.int 2, .int 33, .ref h1, .int 0]))] sz) := by
  refine Met.ofW (cc := cX9_add) (maxL := 1) (ret := (some .int)) (by decide) rfl ?_
  intro p e s m args below meth c s₁ B hml hv
  obtain ⟨rfl, hsz, hP, hD0, hE⟩ := hv
  have hx := B.exec
  have hb := B.bytes
  have hr := B.returns
  have hts := atoms_spec (ws := w9_X9_add_1) B.pre
  have hown : s.vm.findClass RX9 = some m.cls := findClass_of_methodNamed B.named
  have hlocks := B.notSynchronized
  subst hsz
  have hD := hD0.self (sz := s.heap.size)
  generalize hAe : va_A [(h1, .inl (g.2.1 0, 64, .inl f0)), (h0, .inr (10, [.int 2, .int 33, .ref h1, .int 0]))] s.heap.size = A at hD hE ⊢
  have hA : ∀ q : Nat, s.heap.size ≤ q → A q := fun q h => by rw [← hAe]; exact Or.inr h
  have hK := hE.1
  have hS : va_S A s.heap s.heap [] := va_S.rf
  replace hP : va_P g.1 vwCl [(h1, .inl (g.2.1 0, 64, .inl f0)), (h0, .inr (10, [.int 2, .int 33, .ref h1, .int 0]))] s.heap := hP
  have hl := lv_entry ([.ref h0]) (n := 1) (Nat.le_of_ble_eq_true rfl)
  rw [lg_entry_eq]
  generalize (lg_sl ([.ref h0]) ++ List.replicate (1 - (lg_sl ([.ref h0])).length) Slot.unset).toArray = ls at hl ⊢
  replace hl : lv_has ls 1 [(0, .ref h0)] := hl
  have hH0 : s.heap.size ≤ s.heap.size := Nat.le_refl _
  refine lv_aload_n hx hb dX9_add_0 rfl (lv_at hl 0 rfl) ?_
  refine va_get (D := g.1) (ci := 10) (v := .int 0) (C := RX9) (T := TX9) (N := 4) hx hb hts in9_X9_add_1_RX9 hown hK hP 1 rfl rfl 3 (by decide) (hts (.fieldLink RX9 28 "Regexloom$Table" "size" "I") (List.mem_of_getElem? (i := 1) rfl)) (fun _ h9 => h9) rfl dX9_add_1 ?_
  refine lv_aload_n hx hb dX9_add_4 rfl (lv_at hl 0 rfl) ?_
  refine va_get (D := g.1) (ci := 10) (v := .int 33) (C := RX9) (T := TX9) (N := 4) hx hb hts in9_X9_add_1_RX9 hown hK hP 1 rfl rfl 1 (by decide) (hts (.fieldLink RX9 15 "Regexloom$Table" "most" "I") (List.mem_of_getElem? (i := 2) rfl)) (fun _ h9 => h9) rfl dX9_add_5 ?_
  refine lv_icmp_lt (tgt := 13) hx hb dX9_add_8 (by decide) (fun _ => ?_) (fun c9 => absurd (by decide) c9)
  refine lv_aload_n hx hb dX9_add_13 rfl (lv_at hl 0 rfl) ?_
  refine va_get (D := g.1) (ci := 10) (v := .int 0) (C := RX9) (T := TX9) (N := 4) hx hb hts in9_X9_add_1_RX9 hown hK hP 1 rfl rfl 3 (by decide) (hts (.fieldLink RX9 28 "Regexloom$Table" "size" "I") (List.mem_of_getElem? (i := 1) rfl)) (fun _ h9 => h9) rfl dX9_add_14 ?_
  refine lv_iconst (v := 1) hx hb dX9_add_17 (by decide) ?_
  refine lv_iadd hx hb dX9_add_18 ?_
  refine e_top (y := 1) (by decide) ?_
  refine lv_aload_n hx hb dX9_add_19 rfl (lv_at hl 0 rfl) ?_
  refine va_get (D := g.1) (ci := 10) (v := .int 2) (C := RX9) (T := TX9) (N := 4) hx hb hts in9_X9_add_1_RX9 hown hK hP 1 rfl rfl 0 (by decide) (hts (.fieldLink RX9 9 "Regexloom$Table" "width" "I") (List.mem_of_getElem? (i := 3) rfl)) (fun _ h9 => h9) rfl dX9_add_20 ?_
  refine lv_imul hx hb dX9_add_23 ?_
  refine e_top (y := 2) (by decide) ?_
  refine lv_aload_n hx hb dX9_add_24 rfl (lv_at hl 0 rfl) ?_
  refine va_get (D := g.1) (ci := 10) (v := .ref h1) (C := RX9) (T := TX9) (N := 4) hx hb hts in9_X9_add_1_RX9 hown hK hP 1 rfl rfl 2 (by decide) (hts (.fieldLink RX9 24 "Regexloom$Table" "cells" "[I") (List.mem_of_getElem? (i := 4) rfl)) (fun _ h9 => h9) rfl dX9_add_25 ?_
  refine va_alen (v := 64) hx hb hK hP 0 0 rfl rfl rfl dX9_add_28 ?_
  refine lv_icmp_le (tgt := 63) hx hb dX9_add_29 (by decide) (fun _ => ?_) (fun c9 => absurd (by decide) c9)
  refine lv_aload_n hx hb dX9_add_63 rfl (lv_at hl 0 rfl) ?_
  refine lv_dup hx hb dX9_add_64 rfl ?_
  refine va_get (D := g.1) (ci := 10) (v := .int 0) (C := RX9) (T := TX9) (N := 4) hx hb hts in9_X9_add_1_RX9 hown hK hP 1 rfl rfl 3 (by decide) (hts (.fieldLink RX9 28 "Regexloom$Table" "size" "I") (List.mem_of_getElem? (i := 1) rfl)) (fun _ h9 => h9) rfl dX9_add_65 ?_
  refine lv_iconst (v := 1) hx hb dX9_add_68 (by decide) ?_
  refine lv_iadd hx hb dX9_add_69 ?_
  refine e_top (y := 1) (by decide) ?_
  refine va_put (D := g.1) (ci := 10) (v := .int 1) (ty := .int) (C := RX9) (T := TX9) (N := 4) hx hb hts in9_X9_add_1_RX9 tyX9 tyX9_ok nmX9 hown hK hP hD hS 1 rfl rfl 3 (by decide) (hts (.fieldLink RX9 28 "Regexloom$Table" "size" "I") (List.mem_of_getElem? (i := 1) rfl)) (fun _ h9 => h9) rfl (by decide +kernel) rfl rfl (Nat.le_of_ble_eq_true rfl) dX9_add_70 (fun H locs hP hD hS => ?_)
  have hP : va_P g.1 vwCl [(h1, .inl (g.2.1 0, 64, .inl f0)), (h0, .inr (10, [.int 2, .int 33, .ref h1, .int 1]))] H := hP
  have hD : va_D A [(h1, .inl (g.2.1 0, 64, .inl f0)), (h0, .inr (10, [.int 2, .int 33, .ref h1, .int 1]))] := hD
  refine lv_aload_n hx hb dX9_add_73 rfl (lv_at hl 0 rfl) ?_
  refine va_get (D := g.1) (ci := 10) (v := .int 1) (C := RX9) (T := TX9) (N := 4) hx hb hts in9_X9_add_1_RX9 hown hK hP 1 rfl rfl 3 (by decide) (hts (.fieldLink RX9 28 "Regexloom$Table" "size" "I") (List.mem_of_getElem? (i := 1) rfl)) (fun _ h9 => h9) rfl dX9_add_74 ?_
  refine lv_iconst (v := 1) hx hb dX9_add_77 (by decide) ?_
  refine lv_isub hx hb dX9_add_78 ?_
  refine e_top (y := 0) (by decide) ?_
  have hP9 := hP.sub (ws' := [(h1, .inl (g.2.1 0, 64, .inl f0)), (h0, .inr (10, [.int 2, .int 33, .ref h1, .int 1]))]) [0, 1] rfl
  have hD9 := hD.sub (ws' := [(h1, .inl (g.2.1 0, 64, .inl f0)), (h0, .inr (10, [.int 2, .int 33, .ref h1, .int 1]))]) [0, 1] (by decide) rfl
  subst hAe
  exact W.iret (v := 0) hx hb hr (fun t ht hW => ⟨⟨0, (), rfl, rfl, by rw [ht]; exact hP9, hD9⟩, hS.F ht⟩) hS.2.2 dX9_add_79
def w9_X9_put_22 : List Cond := [.code yX9_put cX9_put 4 none, .fieldLink RX9 28 "Regexloom$Table" "size" "I", .fieldLink RX9 9 "Regexloom$Table" "width" "I", .fieldLink RX9 24 "Regexloom$Table" "cells" "[I"] ++ (u_ws RX9 TX9 4)
set_option maxRecDepth 20000 in
theorem in9_X9_put_22_RX9 : ∀ w ∈ u_ws RX9 TX9 4, w ∈ w9_X9_put_22 := by decide +kernel
set_option maxHeartbeats 4000000 in
set_option maxRecDepth 100000 in
theorem c9_X9_put_22 (l : Launch) (g : G9) (h0 h1 sz : Nat) (f0 : Nat → Int32) : Met l yX9_put w9_X9_put_22 ({ frames := 0, cells := 0, slots := 0, locals := 0 }) (mP g [(h1, .inl (g.2.1 0, 64, .inl f0)), (h0, .inr (10, [.int 2, .int 33, .ref h1, .int 1]))] sz [.ref h0, .int 0, .int 0, .int (-1)]) (va_Qv (fun _ : Unit => True) (fun (_ : Unit) (t : State) => mB g [(h1, .inl (g.2.1 0, 64, .inl f0)), (h0, .inr (10, [.int 2, .int 33, .ref h1, .int 1]))] sz [(h1, .inl (g.2.1 0, 64, .inl (upd f0 0 (-1)))), (h0, .inr (10, [.int 2, .int 33, .ref h1, .int 1]))] t) (va_A [(h1, .inl (g.2.1 0, 64, .inl f0)), (h0, .inr (10, [.int 2, .int 33, .ref h1, .int 1]))] sz)) 0 0 (va_A [(h1, .inl (g.2.1 0, 64, .inl f0)), (h0, .inr (10, [.int 2, .int 33, .ref h1, .int 1]))] sz) := by
  refine Met.ofW (cc := cX9_put) (maxL := 4) (ret := none) (by decide) rfl ?_
  intro p e s m args below meth c s₁ B hml hv
  obtain ⟨rfl, hsz, hP, hD0, hE⟩ := hv
  have hx := B.exec
  have hb := B.bytes
  have hr := B.returns
  have hts := atoms_spec (ws := w9_X9_put_22) B.pre
  have hown : s.vm.findClass RX9 = some m.cls := findClass_of_methodNamed B.named
  have hlocks := B.notSynchronized
  subst hsz
  have hD := hD0.self (sz := s.heap.size)
  generalize hAe : va_A [(h1, .inl (g.2.1 0, 64, .inl f0)), (h0, .inr (10, [.int 2, .int 33, .ref h1, .int 1]))] s.heap.size = A at hD hE ⊢
  have hA : ∀ q : Nat, s.heap.size ≤ q → A q := fun q h => by rw [← hAe]; exact Or.inr h
  have hK := hE.1
  have hS : va_S A s.heap s.heap [] := va_S.rf
  replace hP : va_P g.1 vwCl [(h1, .inl (g.2.1 0, 64, .inl f0)), (h0, .inr (10, [.int 2, .int 33, .ref h1, .int 1]))] s.heap := hP
  have hl := lv_entry ([.ref h0, .int 0, .int 0, .int (-1)]) (n := 4) (Nat.le_of_ble_eq_true rfl)
  rw [lg_entry_eq]
  generalize (lg_sl ([.ref h0, .int 0, .int 0, .int (-1)]) ++ List.replicate (4 - (lg_sl ([.ref h0, .int 0, .int 0, .int (-1)])).length) Slot.unset).toArray = ls at hl ⊢
  replace hl : lv_has ls 4 [(0, .ref h0), (1, .int 0), (2, .int 0), (3, .int (-1))] := hl
  have hH0 : s.heap.size ≤ s.heap.size := Nat.le_refl _
  refine lv_iload_n hx hb dX9_put_0 rfl (lv_at hl 1 rfl) ?_
  refine lv_if_lt (tgt := 38) hx hb dX9_put_1 (by decide) (fun c9 => absurd c9 (by decide)) (fun _ => ?_)
  refine lv_iload_n hx hb dX9_put_4 rfl (lv_at hl 1 rfl) ?_
  refine lv_aload_n hx hb dX9_put_5 rfl (lv_at hl 0 rfl) ?_
  refine va_get (D := g.1) (ci := 10) (v := .int 1) (C := RX9) (T := TX9) (N := 4) hx hb hts in9_X9_put_22_RX9 hown hK hP 1 rfl rfl 3 (by decide) (hts (.fieldLink RX9 28 "Regexloom$Table" "size" "I") (List.mem_of_getElem? (i := 1) rfl)) (fun _ h9 => h9) rfl dX9_put_6 ?_
  refine lv_icmp_ge (tgt := 38) hx hb dX9_put_9 (by decide) (fun c9 => absurd c9 (by decide)) (fun _ => ?_)
  refine lv_iload_n hx hb dX9_put_12 rfl (lv_at hl 2 rfl) ?_
  refine lv_if_lt (tgt := 38) hx hb dX9_put_13 (by decide) (fun c9 => absurd c9 (by decide)) (fun _ => ?_)
  refine lv_iload_n hx hb dX9_put_16 rfl (lv_at hl 2 rfl) ?_
  refine lv_aload_n hx hb dX9_put_17 rfl (lv_at hl 0 rfl) ?_
  refine va_get (D := g.1) (ci := 10) (v := .int 2) (C := RX9) (T := TX9) (N := 4) hx hb hts in9_X9_put_22_RX9 hown hK hP 1 rfl rfl 0 (by decide) (hts (.fieldLink RX9 9 "Regexloom$Table" "width" "I") (List.mem_of_getElem? (i := 2) rfl)) (fun _ h9 => h9) rfl dX9_put_18 ?_
  refine lv_icmp_ge (tgt := 38) hx hb dX9_put_21 (by decide) (fun c9 => absurd c9 (by decide)) (fun _ => ?_)
  refine lv_aload_n hx hb dX9_put_24 rfl (lv_at hl 0 rfl) ?_
  refine va_get (D := g.1) (ci := 10) (v := .ref h1) (C := RX9) (T := TX9) (N := 4) hx hb hts in9_X9_put_22_RX9 hown hK hP 1 rfl rfl 2 (by decide) (hts (.fieldLink RX9 24 "Regexloom$Table" "cells" "[I") (List.mem_of_getElem? (i := 3) rfl)) (fun _ h9 => h9) rfl dX9_put_25 ?_
  refine lv_iload_n hx hb dX9_put_28 rfl (lv_at hl 1 rfl) ?_
  refine lv_aload_n hx hb dX9_put_29 rfl (lv_at hl 0 rfl) ?_
  refine va_get (D := g.1) (ci := 10) (v := .int 2) (C := RX9) (T := TX9) (N := 4) hx hb hts in9_X9_put_22_RX9 hown hK hP 1 rfl rfl 0 (by decide) (hts (.fieldLink RX9 9 "Regexloom$Table" "width" "I") (List.mem_of_getElem? (i := 2) rfl)) (fun _ h9 => h9) rfl dX9_put_30 ?_
  refine lv_imul hx hb dX9_put_33 ?_
  refine e_top (y := 0) (by decide) ?_
  refine lv_iload_n hx hb dX9_put_34 rfl (lv_at hl 2 rfl) ?_
  refine lv_iadd hx hb dX9_put_35 ?_
  refine e_top (y := 0) (by decide) ?_
  refine lv_iload_n hx hb dX9_put_36 rfl (lv_at hl 3 rfl) ?_
  refine va_iast hx hb hK hP hD hS 0 0 rfl rfl (vp_in_nI (n := 0) (by decide) (by decide)) dX9_put_37 (fun H locs hP hD hS => ?_)
  have hP : va_P g.1 vwCl [(h1, .inl (g.2.1 0, 64, .inl (upd f0 0 (-1)))), (h0, .inr (10, [.int 2, .int 33, .ref h1, .int 1]))] H := hP
  have hD : va_D A [(h1, .inl (g.2.1 0, 64, .inl (upd f0 0 (-1)))), (h0, .inr (10, [.int 2, .int 33, .ref h1, .int 1]))] := hD
  have hP9 := hP.sub (ws' := [(h1, .inl (g.2.1 0, 64, .inl (upd f0 0 (-1)))), (h0, .inr (10, [.int 2, .int 33, .ref h1, .int 1]))]) [0, 1] rfl
  have hD9 := hD.sub (ws' := [(h1, .inl (g.2.1 0, 64, .inl (upd f0 0 (-1)))), (h0, .inr (10, [.int 2, .int 33, .ref h1, .int 1]))]) [0, 1] (by decide) rfl
  subst hAe
  exact W.vret hx hb hr (fun t ht hW => ⟨⟨(), rfl, trivial, by rw [ht]; exact hP9, hD9⟩, hS.F ht⟩) hS.2.2 dX9_put_38
def w9_X9_put_23 : List Cond := [.code yX9_put cX9_put 4 none, .fieldLink RX9 28 "Regexloom$Table" "size" "I", .fieldLink RX9 9 "Regexloom$Table" "width" "I", .fieldLink RX9 24 "Regexloom$Table" "cells" "[I"] ++ (u_ws RX9 TX9 4)
set_option maxRecDepth 20000 in
theorem in9_X9_put_23_RX9 : ∀ w ∈ u_ws RX9 TX9 4, w ∈ w9_X9_put_23 := by decide +kernel
set_option maxHeartbeats 4000000 in
set_option maxRecDepth 100000 in
theorem c9_X9_put_23 (l : Launch) (g : G9) (h0 h1 sz : Nat) (f0 : Nat → Int32) : Met l yX9_put w9_X9_put_23 ({ frames := 0, cells := 0, slots := 0, locals := 0 }) (mP g [(h1, .inl (g.2.1 0, 64, .inl f0)), (h0, .inr (10, [.int 2, .int 33, .ref h1, .int 1]))] sz [.ref h0, .int 0, .int 1, .int (-1)]) (va_Qv (fun _ : Unit => True) (fun (_ : Unit) (t : State) => mB g [(h1, .inl (g.2.1 0, 64, .inl f0)), (h0, .inr (10, [.int 2, .int 33, .ref h1, .int 1]))] sz [(h1, .inl (g.2.1 0, 64, .inl (upd f0 1 (-1)))), (h0, .inr (10, [.int 2, .int 33, .ref h1, .int 1]))] t) (va_A [(h1, .inl (g.2.1 0, 64, .inl f0)), (h0, .inr (10, [.int 2, .int 33, .ref h1, .int 1]))] sz)) 0 0 (va_A [(h1, .inl (g.2.1 0, 64, .inl f0)), (h0, .inr (10, [.int 2, .int 33, .ref h1, .int 1]))] sz) := by
  refine Met.ofW (cc := cX9_put) (maxL := 4) (ret := none) (by decide) rfl ?_
  intro p e s m args below meth c s₁ B hml hv
  obtain ⟨rfl, hsz, hP, hD0, hE⟩ := hv
  have hx := B.exec
  have hb := B.bytes
  have hr := B.returns
  have hts := atoms_spec (ws := w9_X9_put_23) B.pre
  have hown : s.vm.findClass RX9 = some m.cls := findClass_of_methodNamed B.named
  have hlocks := B.notSynchronized
  subst hsz
  have hD := hD0.self (sz := s.heap.size)
  generalize hAe : va_A [(h1, .inl (g.2.1 0, 64, .inl f0)), (h0, .inr (10, [.int 2, .int 33, .ref h1, .int 1]))] s.heap.size = A at hD hE ⊢
  have hA : ∀ q : Nat, s.heap.size ≤ q → A q := fun q h => by rw [← hAe]; exact Or.inr h
  have hK := hE.1
  have hS : va_S A s.heap s.heap [] := va_S.rf
  replace hP : va_P g.1 vwCl [(h1, .inl (g.2.1 0, 64, .inl f0)), (h0, .inr (10, [.int 2, .int 33, .ref h1, .int 1]))] s.heap := hP
  have hl := lv_entry ([.ref h0, .int 0, .int 1, .int (-1)]) (n := 4) (Nat.le_of_ble_eq_true rfl)
  rw [lg_entry_eq]
  generalize (lg_sl ([.ref h0, .int 0, .int 1, .int (-1)]) ++ List.replicate (4 - (lg_sl ([.ref h0, .int 0, .int 1, .int (-1)])).length) Slot.unset).toArray = ls at hl ⊢
  replace hl : lv_has ls 4 [(0, .ref h0), (1, .int 0), (2, .int 1), (3, .int (-1))] := hl
  have hH0 : s.heap.size ≤ s.heap.size := Nat.le_refl _
  refine lv_iload_n hx hb dX9_put_0 rfl (lv_at hl 1 rfl) ?_
  refine lv_if_lt (tgt := 38) hx hb dX9_put_1 (by decide) (fun c9 => absurd c9 (by decide)) (fun _ => ?_)
  refine lv_iload_n hx hb dX9_put_4 rfl (lv_at hl 1 rfl) ?_
  refine lv_aload_n hx hb dX9_put_5 rfl (lv_at hl 0 rfl) ?_
  refine va_get (D := g.1) (ci := 10) (v := .int 1) (C := RX9) (T := TX9) (N := 4) hx hb hts in9_X9_put_23_RX9 hown hK hP 1 rfl rfl 3 (by decide) (hts (.fieldLink RX9 28 "Regexloom$Table" "size" "I") (List.mem_of_getElem? (i := 1) rfl)) (fun _ h9 => h9) rfl dX9_put_6 ?_
  refine lv_icmp_ge (tgt := 38) hx hb dX9_put_9 (by decide) (fun c9 => absurd c9 (by decide)) (fun _ => ?_)
  refine lv_iload_n hx hb dX9_put_12 rfl (lv_at hl 2 rfl) ?_
  refine lv_if_lt (tgt := 38) hx hb dX9_put_13 (by decide) (fun c9 => absurd c9 (by decide)) (fun _ => ?_)
  refine lv_iload_n hx hb dX9_put_16 rfl (lv_at hl 2 rfl) ?_
  refine lv_aload_n hx hb dX9_put_17 rfl (lv_at hl 0 rfl) ?_
  refine va_get (D := g.1) (ci := 10) (v := .int 2) (C := RX9) (T := TX9) (N := 4) hx hb hts in9_X9_put_23_RX9 hown hK hP 1 rfl rfl 0 (by decide) (hts (.fieldLink RX9 9 "Regexloom$Table" "width" "I") (List.mem_of_getElem? (i := 2) rfl)) (fun _ h9 => h9) rfl dX9_put_18 ?_
  refine lv_icmp_ge (tgt := 38) hx hb dX9_put_21 (by decide) (fun c9 => absurd c9 (by decide)) (fun _ => ?_)
  refine lv_aload_n hx hb dX9_put_24 rfl (lv_at hl 0 rfl) ?_
  refine va_get (D := g.1) (ci := 10) (v := .ref h1) (C := RX9) (T := TX9) (N := 4) hx hb hts in9_X9_put_23_RX9 hown hK hP 1 rfl rfl 2 (by decide) (hts (.fieldLink RX9 24 "Regexloom$Table" "cells" "[I") (List.mem_of_getElem? (i := 3) rfl)) (fun _ h9 => h9) rfl dX9_put_25 ?_
  refine lv_iload_n hx hb dX9_put_28 rfl (lv_at hl 1 rfl) ?_
  refine lv_aload_n hx hb dX9_put_29 rfl (lv_at hl 0 rfl) ?_
  refine va_get (D := g.1) (ci := 10) (v := .int 2) (C := RX9) (T := TX9) (N := 4) hx hb hts in9_X9_put_23_RX9 hown hK hP 1 rfl rfl 0 (by decide) (hts (.fieldLink RX9 9 "Regexloom$Table" "width" "I") (List.mem_of_getElem? (i := 2) rfl)) (fun _ h9 => h9) rfl dX9_put_30 ?_
  refine lv_imul hx hb dX9_put_33 ?_
  refine e_top (y := 0) (by decide) ?_
  refine lv_iload_n hx hb dX9_put_34 rfl (lv_at hl 2 rfl) ?_
  refine lv_iadd hx hb dX9_put_35 ?_
  refine e_top (y := 1) (by decide) ?_
  refine lv_iload_n hx hb dX9_put_36 rfl (lv_at hl 3 rfl) ?_
  refine va_iast hx hb hK hP hD hS 0 0 rfl rfl (vp_in_nI (n := 1) (by decide) (by decide)) dX9_put_37 (fun H locs hP hD hS => ?_)
  have hP : va_P g.1 vwCl [(h1, .inl (g.2.1 0, 64, .inl (upd f0 1 (-1)))), (h0, .inr (10, [.int 2, .int 33, .ref h1, .int 1]))] H := hP
  have hD : va_D A [(h1, .inl (g.2.1 0, 64, .inl (upd f0 1 (-1)))), (h0, .inr (10, [.int 2, .int 33, .ref h1, .int 1]))] := hD
  have hP9 := hP.sub (ws' := [(h1, .inl (g.2.1 0, 64, .inl (upd f0 1 (-1)))), (h0, .inr (10, [.int 2, .int 33, .ref h1, .int 1]))]) [0, 1] rfl
  have hD9 := hD.sub (ws' := [(h1, .inl (g.2.1 0, 64, .inl (upd f0 1 (-1)))), (h0, .inr (10, [.int 2, .int 33, .ref h1, .int 1]))]) [0, 1] (by decide) rfl
  subst hAe
  exact W.vret hx hb hr (fun t ht hW => ⟨⟨(), rfl, trivial, by rw [ht]; exact hP9, hD9⟩, hS.F ht⟩) hS.2.2 dX9_put_38
def w9_X3_addBranch_1 : List Cond := [.code yX3_addBranch cX3_addBranch 2 (some .int), .fieldLink RX3 20 "Regexloom$Pattern" "branches" "LRegexloom$Table;", .methodLink RX3 58 yX9_add, .instanceMethod yX9_add, .selects RX9 yX9_add yX9_add, .initialized RX9, .code yX9_add cX9_add 1 (some .int), .fieldLink RX9 28 "Regexloom$Table" "size" "I", .fieldLink RX9 15 "Regexloom$Table" "most" "I", .fieldLink RX9 9 "Regexloom$Table" "width" "I", .fieldLink RX9 24 "Regexloom$Table" "cells" "[I", .methodLink RX3 33 yX9_put, .instanceMethod yX9_put, .selects RX9 yX9_put yX9_put, .code yX9_put cX9_put 4 none] ++ (u_ws RX3 TX3 8 ++ u_ws RX9 TX9 4)
set_option maxRecDepth 20000 in
theorem in9_X3_addBranch_1_RX3 : ∀ w ∈ u_ws RX3 TX3 8, w ∈ w9_X3_addBranch_1 := by decide +kernel
set_option maxRecDepth 20000 in
theorem in9_X3_addBranch_1_RX9 : ∀ w ∈ u_ws RX9 TX9 4, w ∈ w9_X3_addBranch_1 := by decide +kernel
set_option maxRecDepth 20000 in
theorem g9_X3_addBranch_1_0 : GoodIn w9_X3_addBranch_1 (wsV RX3 58 RX9 yX9_add w9_X9_add_1) := goodIn_r _ [2, 3, 4, 5, 6, 7, 8, 9, 10, 23, 24, 25, 26] (by decide +kernel) (by decide +kernel)
set_option maxRecDepth 20000 in
theorem g9_X3_addBranch_1_1 : GoodIn w9_X3_addBranch_1 (wsV RX3 33 RX9 yX9_put w9_X9_put_22) := goodIn_r _ [11, 12, 13, 5, 14, 7, 9, 10, 23, 24, 25, 26] (by decide +kernel) (by decide +kernel)
set_option maxRecDepth 20000 in
theorem g9_X3_addBranch_1_2 : GoodIn w9_X3_addBranch_1 (wsV RX3 33 RX9 yX9_put w9_X9_put_23) := goodIn_r _ [11, 12, 13, 5, 14, 7, 9, 10, 23, 24, 25, 26] (by decide +kernel) (by decide +kernel)
set_option maxHeartbeats 4000000 in
set_option maxRecDepth 100000 in
theorem c9_X3_addBranch_1 (l : Launch) (g : G9) (h0 h1 h2 h3 h4 sz : Nat) (f0 : Nat → Int32) : Met l yX3_addBranch w9_X3_addBranch_1 ({ frames := 1, cells := 0, slots := 0, locals := 23 }) (mP g [(h1, .inl (g.2.1 0, 64, .inl f0)), (h0, .inr (6, [.ref h2, .ref h3, .ref h4, .int (-1), .int 0, .int 0, .int 0, .int 0])), (h3, .inr (10, [.int 2, .int 33, .ref h1, .int 0]))] sz [.ref h0]) (va_Qi (fun (r : Int32) (_ : Unit) => r = 0) (fun (_ : Unit) (t : State) => mB g [(h1, .inl (g.2.1 0, 64, .inl f0)), (h0, .inr (6, [.ref h2, .ref h3, .ref h4, .int (-1), .int 0, .int 0, .int 0, .int 0])), (h3, .inr (10, [.int 2, .int 33, .ref h1, .int 0]))] sz [(h1, .inl (g.2.1 0, 64, .inl (upd (upd f0 0 (-1)) 1 (-1)))), (h0, .inr (6, [.ref h2, .ref h3, .ref h4, .int (-1), .int 0, .int 0, .int 0, .int 0])), (h3, .inr (10, [.int 2, .int 33, .ref h1, .int 1]))] t) (va_A [(h1, .inl (g.2.1 0, 64, .inl f0)), (h0, .inr (6, [.ref h2, .ref h3, .ref h4, .int (-1), .int 0, .int 0, .int 0, .int 0])), (h3, .inr (10, [.int 2, .int 33, .ref h1, .int 0]))] sz)) 0 0 (va_A [(h1, .inl (g.2.1 0, 64, .inl f0)), (h0, .inr (6, [.ref h2, .ref h3, .ref h4, .int (-1), .int 0, .int 0, .int 0, .int 0])), (h3, .inr (10, [.int 2, .int 33, .ref h1, .int 0]))] sz) := by
  refine Met.ofW (cc := cX3_addBranch) (maxL := 2) (ret := (some .int)) (by decide) rfl ?_
  intro p e s m args below meth c s₁ B hml hv
  obtain ⟨rfl, hsz, hP, hD0, hE⟩ := hv
  have hx := B.exec
  have hb := B.bytes
  have hr := B.returns
  have hts := atoms_spec (ws := w9_X3_addBranch_1) B.pre
  have hown : s.vm.findClass RX3 = some m.cls := findClass_of_methodNamed B.named
  have hlocks := B.notSynchronized
  subst hsz
  have hD := hD0.self (sz := s.heap.size)
  generalize hAe : va_A [(h1, .inl (g.2.1 0, 64, .inl f0)), (h0, .inr (6, [.ref h2, .ref h3, .ref h4, .int (-1), .int 0, .int 0, .int 0, .int 0])), (h3, .inr (10, [.int 2, .int 33, .ref h1, .int 0]))] s.heap.size = A at hD hE ⊢
  have hA : ∀ q : Nat, s.heap.size ≤ q → A q := fun q h => by rw [← hAe]; exact Or.inr h
  have hK := hE.1
  have hS : va_S A s.heap s.heap [] := va_S.rf
  replace hP : va_P g.1 vwCl [(h1, .inl (g.2.1 0, 64, .inl f0)), (h0, .inr (6, [.ref h2, .ref h3, .ref h4, .int (-1), .int 0, .int 0, .int 0, .int 0])), (h3, .inr (10, [.int 2, .int 33, .ref h1, .int 0]))] s.heap := hP
  have hl := lv_entry ([.ref h0]) (n := 2) (Nat.le_of_ble_eq_true rfl)
  rw [lg_entry_eq]
  generalize (lg_sl ([.ref h0]) ++ List.replicate (2 - (lg_sl ([.ref h0])).length) Slot.unset).toArray = ls at hl ⊢
  replace hl : lv_has ls 2 [(0, .ref h0)] := hl
  have hH0 : s.heap.size ≤ s.heap.size := Nat.le_refl _
  refine lv_aload_n hx hb dX3_addBranch_0 rfl (lv_at hl 0 rfl) ?_
  refine va_get (D := g.1) (ci := 6) (v := .ref h3) (C := RX3) (T := TX3) (N := 8) hx hb hts in9_X3_addBranch_1_RX3 hown hK hP 1 rfl rfl 1 (by decide) (hts (.fieldLink RX3 20 "Regexloom$Pattern" "branches" "LRegexloom$Table;") (List.mem_of_getElem? (i := 1) rfl)) (fun _ h9 => h9) rfl dX3_addBranch_1 ?_
  have hPc := hP.sub (ws' := [(h1, .inl (g.2.1 0, 64, .inl f0)), (h3, .inr (10, [.int 2, .int 33, .ref h1, .int 0]))]) [0, 2] rfl
  have hDc := hD.sub (ws' := [(h1, .inl (g.2.1 0, 64, .inl f0)), (h3, .inr (10, [.int 2, .int 33, .ref h1, .int 0]))]) [0, 2] (by decide) rfl
  have hFc := va_free (wc := [(h1, .inl (g.2.1 0, 64, .inl f0)), (h3, .inr (10, [.int 2, .int 33, .ref h1, .int 0]))]) hD hS hA [0, 2] rfl
  refine va_calli (va_runV (As := []) (rest := []) ⟨hx, hb, hml, hown, hts⟩ (c9_X9_add_1 l g h3 h1 _ f0) (cwV 0 hts g9_X3_addBranch_1_0 rfl rfl rfl (by decide +kernel) ⟨Nat.le_of_ble_eq_true rfl, Nat.le_of_ble_eq_true rfl⟩) (mPreV (g := g) (wc := [(h1, .inl (g.2.1 0, 64, .inl f0)), (h3, .inr (10, [.int 2, .int 33, .ref h1, .int 0]))]) (C := RX9) (ci := 10) (q0 := 1) hE hS hPc hDc hFc rfl rfl) rfl rfl hl.1 rfl (lv_room (Nat.le_of_ble_eq_true rfl)) dX3_addBranch_4 ⟨Nat.le_of_ble_eq_true rfl, Nat.le_of_ble_eq_true rfl⟩) hS (fun q _ h => hFc q h) hFc (fun r_1 u t H1 locs ht hvm hw hB hz1 hk1 hS => ?_)
  replace hw : 0 = r_1 := Eq.symm hw
  subst hw
  obtain ⟨hP1, hD1⟩ := hB
  rw [ht] at hP1
  obtain ⟨hP, hD⟩ := va_join (wr := [(h0, .inr (6, [.ref h2, .ref h3, .ref h4, .int (-1), .int 0, .int 0, .int 0, .int 0]))]) (w1 := [(h1, .inl (g.2.1 0, 64, .inl f0)), (h3, .inr (10, [.int 2, .int 33, .ref h1, .int 1]))]) hP hD [0, 2] [1] rfl rfl (by decide) (by decide) hk1 hFc hP1 hD1
  clear hP1 hD1 hPc hDc hFc hk1 hz1 hvm ht
  generalize H1 = H at hP hS ⊢
  have hP : va_P g.1 vwCl [(h0, .inr (6, [.ref h2, .ref h3, .ref h4, .int (-1), .int 0, .int 0, .int 0, .int 0])), (h1, .inl (g.2.1 0, 64, .inl f0)), (h3, .inr (10, [.int 2, .int 33, .ref h1, .int 1]))] H := hP
  have hD : va_D A [(h0, .inr (6, [.ref h2, .ref h3, .ref h4, .int (-1), .int 0, .int 0, .int 0, .int 0])), (h1, .inl (g.2.1 0, 64, .inl f0)), (h3, .inr (10, [.int 2, .int 33, .ref h1, .int 1]))] := hD
  refine lv_istore_n (lv' := [(1, .int 0), (0, .ref h0)]) hx hb dX3_addBranch_7 rfl hl (by decide) rfl (fun ls hl => ?_)
  refine lv_aload_n hx hb dX3_addBranch_8 rfl (lv_at hl 1 rfl) ?_
  refine va_get (D := g.1) (ci := 6) (v := .ref h3) (C := RX3) (T := TX3) (N := 8) hx hb hts in9_X3_addBranch_1_RX3 hown hK hP 0 rfl rfl 1 (by decide) (hts (.fieldLink RX3 20 "Regexloom$Pattern" "branches" "LRegexloom$Table;") (List.mem_of_getElem? (i := 1) rfl)) (fun _ h9 => h9) rfl dX3_addBranch_9 ?_
  refine lv_iload_n hx hb dX3_addBranch_12 rfl (lv_at hl 0 rfl) ?_
  refine lv_iconst (v := 0) hx hb dX3_addBranch_13 (by decide) ?_
  refine lv_iconst (v := (-1)) hx hb dX3_addBranch_14 (by decide) ?_
  have hPc := hP.sub (ws' := [(h1, .inl (g.2.1 0, 64, .inl f0)), (h3, .inr (10, [.int 2, .int 33, .ref h1, .int 1]))]) [1, 2] rfl
  have hDc := hD.sub (ws' := [(h1, .inl (g.2.1 0, 64, .inl f0)), (h3, .inr (10, [.int 2, .int 33, .ref h1, .int 1]))]) [1, 2] (by decide) rfl
  have hFc := va_free (wc := [(h1, .inl (g.2.1 0, 64, .inl f0)), (h3, .inr (10, [.int 2, .int 33, .ref h1, .int 1]))]) hD hS hA [1, 2] rfl
  refine va_callv (va_runV (As := [.int 0, .int 0, .int (-1)]) (rest := []) ⟨hx, hb, hml, hown, hts⟩ (c9_X9_put_22 l g h3 h1 _ f0) (cwV 3 hts g9_X3_addBranch_1_1 rfl rfl rfl (by decide +kernel) ⟨Nat.le_of_ble_eq_true rfl, Nat.le_of_ble_eq_true rfl⟩) (mPreV (g := g) (wc := [(h1, .inl (g.2.1 0, 64, .inl f0)), (h3, .inr (10, [.int 2, .int 33, .ref h1, .int 1]))]) (C := RX9) (ci := 10) (q0 := 1) hE hS hPc hDc hFc rfl rfl) rfl rfl hl.1 rfl (lv_room (Nat.le_of_ble_eq_true rfl)) dX3_addBranch_15 ⟨Nat.le_of_ble_eq_true rfl, Nat.le_of_ble_eq_true rfl⟩) hS (fun q _ h => hFc q h) hFc (fun u t H1 locs ht hvm hw hB hz1 hk1 hS => ?_)
  obtain ⟨hP1, hD1⟩ := hB
  rw [ht] at hP1
  obtain ⟨hP, hD⟩ := va_join (wr := [(h0, .inr (6, [.ref h2, .ref h3, .ref h4, .int (-1), .int 0, .int 0, .int 0, .int 0]))]) (w1 := [(h1, .inl (g.2.1 0, 64, .inl (upd f0 0 (-1)))), (h3, .inr (10, [.int 2, .int 33, .ref h1, .int 1]))]) hP hD [1, 2] [0] rfl rfl (by decide) (by decide) hk1 hFc hP1 hD1
  clear hP1 hD1 hPc hDc hFc hk1 hz1 hvm ht
  generalize H1 = H at hP hS ⊢
  have hP : va_P g.1 vwCl [(h0, .inr (6, [.ref h2, .ref h3, .ref h4, .int (-1), .int 0, .int 0, .int 0, .int 0])), (h1, .inl (g.2.1 0, 64, .inl (upd f0 0 (-1)))), (h3, .inr (10, [.int 2, .int 33, .ref h1, .int 1]))] H := hP
  have hD : va_D A [(h0, .inr (6, [.ref h2, .ref h3, .ref h4, .int (-1), .int 0, .int 0, .int 0, .int 0])), (h1, .inl (g.2.1 0, 64, .inl (upd f0 0 (-1)))), (h3, .inr (10, [.int 2, .int 33, .ref h1, .int 1]))] := hD
  refine lv_aload_n hx hb dX3_addBranch_18 rfl (lv_at hl 1 rfl) ?_
  refine va_get (D := g.1) (ci := 6) (v := .ref h3) (C := RX3) (T := TX3) (N := 8) hx hb hts in9_X3_addBranch_1_RX3 hown hK hP 0 rfl rfl 1 (by decide) (hts (.fieldLink RX3 20 "Regexloom$Pattern" "branches" "LRegexloom$Table;") (List.mem_of_getElem? (i := 1) rfl)) (fun _ h9 => h9) rfl dX3_addBranch_19 ?_
  refine lv_iload_n hx hb dX3_addBranch_22 rfl (lv_at hl 0 rfl) ?_
  refine lv_iconst (v := 1) hx hb dX3_addBranch_23 (by decide) ?_
  refine lv_iconst (v := (-1)) hx hb dX3_addBranch_24 (by decide) ?_
  have hPc := hP.sub (ws' := [(h1, .inl (g.2.1 0, 64, .inl (upd f0 0 (-1)))), (h3, .inr (10, [.int 2, .int 33, .ref h1, .int 1]))]) [1, 2] rfl
  have hDc := hD.sub (ws' := [(h1, .inl (g.2.1 0, 64, .inl (upd f0 0 (-1)))), (h3, .inr (10, [.int 2, .int 33, .ref h1, .int 1]))]) [1, 2] (by decide) rfl
  have hFc := va_free (wc := [(h1, .inl (g.2.1 0, 64, .inl (upd f0 0 (-1)))), (h3, .inr (10, [.int 2, .int 33, .ref h1, .int 1]))]) hD hS hA [1, 2] rfl
  refine va_callv (va_runV (As := [.int 0, .int 1, .int (-1)]) (rest := []) ⟨hx, hb, hml, hown, hts⟩ (c9_X9_put_23 l g h3 h1 _ (upd f0 0 (-1))) (cwV 3 hts g9_X3_addBranch_1_2 rfl rfl rfl (by decide +kernel) ⟨Nat.le_of_ble_eq_true rfl, Nat.le_of_ble_eq_true rfl⟩) (mPreV (g := g) (wc := [(h1, .inl (g.2.1 0, 64, .inl (upd f0 0 (-1)))), (h3, .inr (10, [.int 2, .int 33, .ref h1, .int 1]))]) (C := RX9) (ci := 10) (q0 := 1) hE hS hPc hDc hFc rfl rfl) rfl rfl hl.1 rfl (lv_room (Nat.le_of_ble_eq_true rfl)) dX3_addBranch_25 ⟨Nat.le_of_ble_eq_true rfl, Nat.le_of_ble_eq_true rfl⟩) hS (fun q _ h => hFc q h) hFc (fun u t H1 locs ht hvm hw hB hz1 hk1 hS => ?_)
  obtain ⟨hP1, hD1⟩ := hB
  rw [ht] at hP1
  obtain ⟨hP, hD⟩ := va_join (wr := [(h0, .inr (6, [.ref h2, .ref h3, .ref h4, .int (-1), .int 0, .int 0, .int 0, .int 0]))]) (w1 := [(h1, .inl (g.2.1 0, 64, .inl (upd (upd f0 0 (-1)) 1 (-1)))), (h3, .inr (10, [.int 2, .int 33, .ref h1, .int 1]))]) hP hD [1, 2] [0] rfl rfl (by decide) (by decide) hk1 hFc hP1 hD1
  clear hP1 hD1 hPc hDc hFc hk1 hz1 hvm ht
  generalize H1 = H at hP hS ⊢
  have hP : va_P g.1 vwCl [(h0, .inr (6, [.ref h2, .ref h3, .ref h4, .int (-1), .int 0, .int 0, .int 0, .int 0])), (h1, .inl (g.2.1 0, 64, .inl (upd (upd f0 0 (-1)) 1 (-1)))), (h3, .inr (10, [.int 2, .int 33, .ref h1, .int 1]))] H := hP
  have hD : va_D A [(h0, .inr (6, [.ref h2, .ref h3, .ref h4, .int (-1), .int 0, .int 0, .int 0, .int 0])), (h1, .inl (g.2.1 0, 64, .inl (upd (upd f0 0 (-1)) 1 (-1)))), (h3, .inr (10, [.int 2, .int 33, .ref h1, .int 1]))] := hD
  refine lv_iload_n hx hb dX3_addBranch_28 rfl (lv_at hl 0 rfl) ?_
  have hP9 := hP.sub (ws' := [(h1, .inl (g.2.1 0, 64, .inl (upd (upd f0 0 (-1)) 1 (-1)))), (h0, .inr (6, [.ref h2, .ref h3, .ref h4, .int (-1), .int 0, .int 0, .int 0, .int 0])), (h3, .inr (10, [.int 2, .int 33, .ref h1, .int 1]))]) [1, 0, 2] rfl
  have hD9 := hD.sub (ws' := [(h1, .inl (g.2.1 0, 64, .inl (upd (upd f0 0 (-1)) 1 (-1)))), (h0, .inr (6, [.ref h2, .ref h3, .ref h4, .int (-1), .int 0, .int 0, .int 0, .int 0])), (h3, .inr (10, [.int 2, .int 33, .ref h1, .int 1]))]) [1, 0, 2] (by decide) rfl
  subst hAe
  exact W.iret (v := 0) hx hb hr (fun t ht hW => ⟨⟨0, (), rfl, rfl, by rw [ht]; exact hP9, hD9⟩, hS.F ht⟩) hS.2.2 dX3_addBranch_29
def w9_X5_readRow_1 : List Cond := [.code yX5_readRow cX5_readRow 7 none, .fieldLink RX5 22 "Regexloom$Reader" "fault" "I", .fieldLink RX5 19 "Regexloom$Reader" "at" "I", .fieldLink RX5 15 "Regexloom$Reader" "size" "I"] ++ (u_ws RX5 TX5 7)
set_option maxRecDepth 20000 in
theorem in9_X5_readRow_1_RX5 : ∀ w ∈ u_ws RX5 TX5 7, w ∈ w9_X5_readRow_1 := by decide +kernel
set_option maxHeartbeats 4000000 in
set_option maxRecDepth 100000 in
theorem c9_X5_readRow_1 (l : Launch) (g : G9) (h0 h1 h2 sz : Nat) : Met l yX5_readRow w9_X5_readRow_1 ({ frames := 0, cells := 0, slots := 0, locals := 0 }) (mP g [(h0, .inr (8, [.ref h1, .int 0, .int 0, .int (-1), .ref h2, .int 0, .int 0]))] sz [.ref h0, .int 0, .int 0, .int 0]) (va_Qv (fun _ : Unit => True) (fun (_ : Unit) (t : State) => mB g [(h0, .inr (8, [.ref h1, .int 0, .int 0, .int (-1), .ref h2, .int 0, .int 0]))] sz [(h0, .inr (8, [.ref h1, .int 0, .int 0, .int (-1), .ref h2, .int 0, .int 0]))] t) (va_A [(h0, .inr (8, [.ref h1, .int 0, .int 0, .int (-1), .ref h2, .int 0, .int 0]))] sz)) 0 0 (va_A [(h0, .inr (8, [.ref h1, .int 0, .int 0, .int (-1), .ref h2, .int 0, .int 0]))] sz) := by
  refine Met.ofW (cc := cX5_readRow) (maxL := 7) (ret := none) (by decide) rfl ?_
  intro p e s m args below meth c s₁ B hml hv
  obtain ⟨rfl, hsz, hP, hD0, hE⟩ := hv
  have hx := B.exec
  have hb := B.bytes
  have hr := B.returns
  have hts := atoms_spec (ws := w9_X5_readRow_1) B.pre
  have hown : s.vm.findClass RX5 = some m.cls := findClass_of_methodNamed B.named
  have hlocks := B.notSynchronized
  subst hsz
  have hD := hD0.self (sz := s.heap.size)
  generalize hAe : va_A [(h0, .inr (8, [.ref h1, .int 0, .int 0, .int (-1), .ref h2, .int 0, .int 0]))] s.heap.size = A at hD hE ⊢
  have hA : ∀ q : Nat, s.heap.size ≤ q → A q := fun q h => by rw [← hAe]; exact Or.inr h
  have hK := hE.1
  have hS : va_S A s.heap s.heap [] := va_S.rf
  replace hP : va_P g.1 vwCl [(h0, .inr (8, [.ref h1, .int 0, .int 0, .int (-1), .ref h2, .int 0, .int 0]))] s.heap := hP
  have hl := lv_entry ([.ref h0, .int 0, .int 0, .int 0]) (n := 7) (Nat.le_of_ble_eq_true rfl)
  rw [lg_entry_eq]
  generalize (lg_sl ([.ref h0, .int 0, .int 0, .int 0]) ++ List.replicate (7 - (lg_sl ([.ref h0, .int 0, .int 0, .int 0])).length) Slot.unset).toArray = ls at hl ⊢
  replace hl : lv_has ls 7 [(0, .ref h0), (1, .int 0), (2, .int 0), (3, .int 0)] := hl
  have hH0 : s.heap.size ≤ s.heap.size := Nat.le_refl _
  refine lv_iconst (v := (-1)) hx hb dX5_readRow_0 (by decide) ?_
  refine lv_istore (lv' := [(4, .int (-1)), (0, .ref h0), (1, .int 0), (2, .int 0), (3, .int 0)]) hx hb dX5_readRow_1 hl (by decide) rfl (fun ls hl => ?_)
  refine lv_iconst (v := 0) hx hb dX5_readRow_3 (by decide) ?_
  refine lv_istore (lv' := [(5, .int 0), (4, .int (-1)), (0, .ref h0), (1, .int 0), (2, .int 0), (3, .int 0)]) hx hb dX5_readRow_4 hl (by decide) rfl (fun ls hl => ?_)
  refine lv_iload hx hb dX5_readRow_6 (lv_at hl 0 rfl) ?_
  refine lv_bipush (v := 32) hx hb dX5_readRow_8 (by decide) ?_
  refine lv_icmp_ge (tgt := 113) hx hb dX5_readRow_10 (by decide) (fun c9 => absurd c9 (by decide)) (fun _ => ?_)
  refine lv_aload_n hx hb dX5_readRow_13 rfl (lv_at hl 2 rfl) ?_
  refine va_get (D := g.1) (ci := 8) (v := .int (-1)) (C := RX5) (T := TX5) (N := 7) hx hb hts in9_X5_readRow_1_RX5 hown hK hP 0 rfl rfl 3 (by decide) (hts (.fieldLink RX5 22 "Regexloom$Reader" "fault" "I") (List.mem_of_getElem? (i := 1) rfl)) (fun _ h9 => h9) rfl dX5_readRow_14 ?_
  refine lv_iconst (v := (-1)) hx hb dX5_readRow_17 (by decide) ?_
  refine lv_icmp_ne (tgt := 113) hx hb dX5_readRow_18 (by decide) (fun c9 => absurd (by decide) c9) (fun _ => ?_)
  refine lv_aload_n hx hb dX5_readRow_21 rfl (lv_at hl 2 rfl) ?_
  refine va_get (D := g.1) (ci := 8) (v := .int 0) (C := RX5) (T := TX5) (N := 7) hx hb hts in9_X5_readRow_1_RX5 hown hK hP 0 rfl rfl 2 (by decide) (hts (.fieldLink RX5 19 "Regexloom$Reader" "at" "I") (List.mem_of_getElem? (i := 2) rfl)) (fun _ h9 => h9) rfl dX5_readRow_22 ?_
  refine lv_aload_n hx hb dX5_readRow_25 rfl (lv_at hl 2 rfl) ?_
  refine va_get (D := g.1) (ci := 8) (v := .int 0) (C := RX5) (T := TX5) (N := 7) hx hb hts in9_X5_readRow_1_RX5 hown hK hP 0 rfl rfl 1 (by decide) (hts (.fieldLink RX5 15 "Regexloom$Reader" "size" "I") (List.mem_of_getElem? (i := 3) rfl)) (fun _ h9 => h9) rfl dX5_readRow_26 ?_
  refine lv_icmp_ge (tgt := 50) hx hb dX5_readRow_29 (by decide) (fun _ => ?_) (fun c9 => absurd (by decide) c9)
  have hP9 := hP.sub (ws' := [(h0, .inr (8, [.ref h1, .int 0, .int 0, .int (-1), .ref h2, .int 0, .int 0]))]) [0] rfl
  have hD9 := hD.sub (ws' := [(h0, .inr (8, [.ref h1, .int 0, .int 0, .int (-1), .ref h2, .int 0, .int 0]))]) [0] (by decide) rfl
  subst hAe
  exact W.vret hx hb hr (fun t ht hW => ⟨⟨(), rfl, trivial, by rw [ht]; exact hP9, hD9⟩, hS.F ht⟩) hS.2.2 dX5_readRow_50
def w9_X5_peek_1 : List Cond := [.code yX5_peek cX5_peek 1 (some .char), .fieldLink RX5 9 "Regexloom$Reader" "draft" "[C", .fieldLink RX5 19 "Regexloom$Reader" "at" "I", .fieldLink RX5 15 "Regexloom$Reader" "size" "I"] ++ (u_ws RX5 TX5 7)
set_option maxRecDepth 20000 in
theorem in9_X5_peek_1_RX5 : ∀ w ∈ u_ws RX5 TX5 7, w ∈ w9_X5_peek_1 := by decide +kernel
set_option maxHeartbeats 4000000 in
set_option maxRecDepth 100000 in
theorem c9_X5_peek_1 (l : Launch) (g : G9) (h0 h1 h2 sz : Nat) : Met l yX5_peek w9_X5_peek_1 ({ frames := 0, cells := 0, slots := 0, locals := 0 }) (mP g [(h0, .inr (8, [.ref h1, .int 0, .int 0, .int (-1), .ref h2, .int 0, .int 0]))] sz [.ref h0]) (va_Qi (fun (r : Int32) (_ : Unit) => r = 0) (fun (_ : Unit) (t : State) => mB g [(h0, .inr (8, [.ref h1, .int 0, .int 0, .int (-1), .ref h2, .int 0, .int 0]))] sz [(h0, .inr (8, [.ref h1, .int 0, .int 0, .int (-1), .ref h2, .int 0, .int 0]))] t) (va_A [(h0, .inr (8, [.ref h1, .int 0, .int 0, .int (-1), .ref h2, .int 0, .int 0]))] sz)) 0 0 (va_A [(h0, .inr (8, [.ref h1, .int 0, .int 0, .int (-1), .ref h2, .int 0, .int 0]))] sz) := by
  refine Met.ofW (cc := cX5_peek) (maxL := 1) (ret := (some .char)) (by decide) rfl ?_
  intro p e s m args below meth c s₁ B hml hv
  obtain ⟨rfl, hsz, hP, hD0, hE⟩ := hv
  have hx := B.exec
  have hb := B.bytes
  have hr := B.returns
  have hts := atoms_spec (ws := w9_X5_peek_1) B.pre
  have hown : s.vm.findClass RX5 = some m.cls := findClass_of_methodNamed B.named
  have hlocks := B.notSynchronized
  subst hsz
  have hD := hD0.self (sz := s.heap.size)
  generalize hAe : va_A [(h0, .inr (8, [.ref h1, .int 0, .int 0, .int (-1), .ref h2, .int 0, .int 0]))] s.heap.size = A at hD hE ⊢
  have hA : ∀ q : Nat, s.heap.size ≤ q → A q := fun q h => by rw [← hAe]; exact Or.inr h
  have hK := hE.1
  have hS : va_S A s.heap s.heap [] := va_S.rf
  replace hP : va_P g.1 vwCl [(h0, .inr (8, [.ref h1, .int 0, .int 0, .int (-1), .ref h2, .int 0, .int 0]))] s.heap := hP
  have hl := lv_entry ([.ref h0]) (n := 1) (Nat.le_of_ble_eq_true rfl)
  rw [lg_entry_eq]
  generalize (lg_sl ([.ref h0]) ++ List.replicate (1 - (lg_sl ([.ref h0])).length) Slot.unset).toArray = ls at hl ⊢
  replace hl : lv_has ls 1 [(0, .ref h0)] := hl
  have hH0 : s.heap.size ≤ s.heap.size := Nat.le_refl _
  refine lv_aload_n hx hb dX5_peek_0 rfl (lv_at hl 0 rfl) ?_
  refine va_get (D := g.1) (ci := 8) (v := .ref h1) (C := RX5) (T := TX5) (N := 7) hx hb hts in9_X5_peek_1_RX5 hown hK hP 0 rfl rfl 0 (by decide) (hts (.fieldLink RX5 9 "Regexloom$Reader" "draft" "[C") (List.mem_of_getElem? (i := 1) rfl)) (fun _ h9 => h9) rfl dX5_peek_1 ?_
  refine lv_ifnull hx hb dX5_peek_4 ?_
  refine lv_aload_n hx hb dX5_peek_7 rfl (lv_at hl 0 rfl) ?_
  refine va_get (D := g.1) (ci := 8) (v := .int 0) (C := RX5) (T := TX5) (N := 7) hx hb hts in9_X5_peek_1_RX5 hown hK hP 0 rfl rfl 2 (by decide) (hts (.fieldLink RX5 19 "Regexloom$Reader" "at" "I") (List.mem_of_getElem? (i := 2) rfl)) (fun _ h9 => h9) rfl dX5_peek_8 ?_
  refine lv_if_lt (tgt := 49) hx hb dX5_peek_11 (by decide) (fun c9 => absurd c9 (by decide)) (fun _ => ?_)
  refine lv_aload_n hx hb dX5_peek_14 rfl (lv_at hl 0 rfl) ?_
  refine va_get (D := g.1) (ci := 8) (v := .int 0) (C := RX5) (T := TX5) (N := 7) hx hb hts in9_X5_peek_1_RX5 hown hK hP 0 rfl rfl 2 (by decide) (hts (.fieldLink RX5 19 "Regexloom$Reader" "at" "I") (List.mem_of_getElem? (i := 2) rfl)) (fun _ h9 => h9) rfl dX5_peek_15 ?_
  refine lv_aload_n hx hb dX5_peek_18 rfl (lv_at hl 0 rfl) ?_
  refine va_get (D := g.1) (ci := 8) (v := .int 0) (C := RX5) (T := TX5) (N := 7) hx hb hts in9_X5_peek_1_RX5 hown hK hP 0 rfl rfl 1 (by decide) (hts (.fieldLink RX5 15 "Regexloom$Reader" "size" "I") (List.mem_of_getElem? (i := 3) rfl)) (fun _ h9 => h9) rfl dX5_peek_19 ?_
  refine lv_icmp_ge (tgt := 49) hx hb dX5_peek_22 (by decide) (fun _ => ?_) (fun c9 => absurd (by decide) c9)
  refine lv_iconst (v := 0) hx hb dX5_peek_49 (by decide) ?_
  have hP9 := hP.sub (ws' := [(h0, .inr (8, [.ref h1, .int 0, .int 0, .int (-1), .ref h2, .int 0, .int 0]))]) [0] rfl
  have hD9 := hD.sub (ws' := [(h0, .inr (8, [.ref h1, .int 0, .int 0, .int (-1), .ref h2, .int 0, .int 0]))]) [0] (by decide) rfl
  subst hAe
  exact W.zret (v := 0) hx hb hr (by decide) (fun t ht hW => ⟨⟨0, (), rfl, rfl, by rw [ht]; exact hP9, hD9⟩, hS.F ht⟩) hS.2.2 dX5_peek_50
def w9_X5_readBranches_1 : List Cond := [.code yX5_readBranches cX5_readBranches 10 (some .int), .fieldLink RX5 29 "Regexloom$Reader" "number" "I", .fieldLink RX5 25 "Regexloom$Reader" "into" "LRegexloom$Pattern;", .methodLink RX5 57 yX3_addBranch, .instanceMethod yX3_addBranch, .selects RX3 yX3_addBranch yX3_addBranch, .initialized RX3, .code yX3_addBranch cX3_addBranch 2 (some .int), .fieldLink RX3 20 "Regexloom$Pattern" "branches" "LRegexloom$Table;", .methodLink RX3 58 yX9_add, .instanceMethod yX9_add, .selects RX9 yX9_add yX9_add, .initialized RX9, .code yX9_add cX9_add 1 (some .int), .fieldLink RX9 28 "Regexloom$Table" "size" "I", .fieldLink RX9 15 "Regexloom$Table" "most" "I", .fieldLink RX9 9 "Regexloom$Table" "width" "I", .fieldLink RX9 24 "Regexloom$Table" "cells" "[I", .methodLink RX3 33 yX9_put, .instanceMethod yX9_put, .selects RX9 yX9_put yX9_put, .code yX9_put cX9_put 4 none, .methodLink RX5 61 yX5_readRow, .instanceMethod yX5_readRow, .selects RX5 yX5_readRow yX5_readRow, .initialized RX5, .code yX5_readRow cX5_readRow 7 none, .fieldLink RX5 22 "Regexloom$Reader" "fault" "I", .fieldLink RX5 19 "Regexloom$Reader" "at" "I", .fieldLink RX5 15 "Regexloom$Reader" "size" "I", .methodLink RX5 53 yX5_peek, .instanceMethod yX5_peek, .selects RX5 yX5_peek yX5_peek, .code yX5_peek cX5_peek 1 (some .char), .fieldLink RX5 9 "Regexloom$Reader" "draft" "[C", .methodLink RX5 65 Lib.Math.max.name, .static Lib.Math.max.name, .initialized "java/lang/Math", .code Lib.Math.max.name Lib.Math.max.code 2 (some .int)] ++ (u_ws RX5 TX5 7 ++ u_ws RX3 TX3 8 ++ u_ws RX9 TX9 4)
set_option maxRecDepth 20000 in
theorem in9_X5_readBranches_1_RX5 : ∀ w ∈ u_ws RX5 TX5 7, w ∈ w9_X5_readBranches_1 := by decide +kernel
set_option maxRecDepth 20000 in
theorem in9_X5_readBranches_1_RX3 : ∀ w ∈ u_ws RX3 TX3 8, w ∈ w9_X5_readBranches_1 := by decide +kernel
set_option maxRecDepth 20000 in
theorem in9_X5_readBranches_1_RX9 : ∀ w ∈ u_ws RX9 TX9 4, w ∈ w9_X5_readBranches_1 := by decide +kernel
set_option maxRecDepth 20000 in
theorem g9_X5_readBranches_1_0 : GoodIn w9_X5_readBranches_1 (wsV RX5 57 RX3 yX3_addBranch w9_X3_addBranch_1) := goodIn_r _ [3, 4, 5, 6, 7, 8, 9, 10, 11, 12, 13, 14, 15, 16, 17, 18, 19, 20, 21, 46, 47, 48, 49, 50, 51, 52, 53, 54, 55, 56, 57] (by decide +kernel) (by decide +kernel)
set_option maxRecDepth 20000 in
theorem g9_X5_readBranches_1_1 : GoodIn w9_X5_readBranches_1 (wsV RX5 61 RX5 yX5_readRow w9_X5_readRow_1) := goodIn_r _ [22, 23, 24, 25, 26, 27, 28, 29, 39, 40, 41, 42, 43, 44, 45] (by decide +kernel) (by decide +kernel)
set_option maxRecDepth 20000 in
theorem g9_X5_readBranches_1_2 : GoodIn w9_X5_readBranches_1 (wsV RX5 53 RX5 yX5_peek w9_X5_peek_1) := goodIn_r _ [30, 31, 32, 25, 33, 34, 28, 29, 39, 40, 41, 42, 43, 44, 45] (by decide +kernel) (by decide +kernel)
set_option maxHeartbeats 4000000 in
set_option maxRecDepth 100000 in
theorem c9_X5_readBranches_1 (l : Launch) (g : G9) (h0 h1 h2 h3 h4 h5 h6 sz : Nat) (f0 : Nat → Int32) : Met l yX5_readBranches w9_X5_readBranches_1 ({ frames := 2, cells := 0, slots := 0, locals := 44 }) (mP g [(h1, .inl (g.2.1 0, 64, .inl f0)), (h0, .inr (8, [.ref h2, .int 0, .int 0, .int (-1), .ref h3, .int 0, .int 0])), (h3, .inr (6, [.ref h4, .ref h5, .ref h6, .int (-1), .int 0, .int 0, .int 0, .int 0])), (h5, .inr (10, [.int 2, .int 33, .ref h1, .int 0]))] sz [.ref h0, .int 0, .int 0, .int 0]) (va_Qi (fun (r : Int32) (_ : Unit) => r = 0) (fun (_ : Unit) (t : State) => mB g [(h1, .inl (g.2.1 0, 64, .inl f0)), (h0, .inr (8, [.ref h2, .int 0, .int 0, .int (-1), .ref h3, .int 0, .int 0])), (h3, .inr (6, [.ref h4, .ref h5, .ref h6, .int (-1), .int 0, .int 0, .int 0, .int 0])), (h5, .inr (10, [.int 2, .int 33, .ref h1, .int 0]))] sz [(h1, .inl (g.2.1 0, 64, .inl (upd (upd f0 0 (-1)) 1 (-1)))), (h0, .inr (8, [.ref h2, .int 0, .int 0, .int (-1), .ref h3, .int 0, .int 0])), (h3, .inr (6, [.ref h4, .ref h5, .ref h6, .int (-1), .int 0, .int 0, .int 0, .int 0])), (h5, .inr (10, [.int 2, .int 33, .ref h1, .int 1]))] t) (va_A [(h1, .inl (g.2.1 0, 64, .inl f0)), (h0, .inr (8, [.ref h2, .int 0, .int 0, .int (-1), .ref h3, .int 0, .int 0])), (h3, .inr (6, [.ref h4, .ref h5, .ref h6, .int (-1), .int 0, .int 0, .int 0, .int 0])), (h5, .inr (10, [.int 2, .int 33, .ref h1, .int 0]))] sz)) 0 0 (va_A [(h1, .inl (g.2.1 0, 64, .inl f0)), (h0, .inr (8, [.ref h2, .int 0, .int 0, .int (-1), .ref h3, .int 0, .int 0])), (h3, .inr (6, [.ref h4, .ref h5, .ref h6, .int (-1), .int 0, .int 0, .int 0, .int 0])), (h5, .inr (10, [.int 2, .int 33, .ref h1, .int 0]))] sz) := by
  refine Met.ofW (cc := cX5_readBranches) (maxL := 10) (ret := (some .int)) (by decide) rfl ?_
  intro p e s m args below meth c s₁ B hml hv
  obtain ⟨rfl, hsz, hP, hD0, hE⟩ := hv
  have hx := B.exec
  have hb := B.bytes
  have hr := B.returns
  have hts := atoms_spec (ws := w9_X5_readBranches_1) B.pre
  have hown : s.vm.findClass RX5 = some m.cls := findClass_of_methodNamed B.named
  have hlocks := B.notSynchronized
  subst hsz
  have hD := hD0.self (sz := s.heap.size)
  generalize hAe : va_A [(h1, .inl (g.2.1 0, 64, .inl f0)), (h0, .inr (8, [.ref h2, .int 0, .int 0, .int (-1), .ref h3, .int 0, .int 0])), (h3, .inr (6, [.ref h4, .ref h5, .ref h6, .int (-1), .int 0, .int 0, .int 0, .int 0])), (h5, .inr (10, [.int 2, .int 33, .ref h1, .int 0]))] s.heap.size = A at hD hE ⊢
  have hA : ∀ q : Nat, s.heap.size ≤ q → A q := fun q h => by rw [← hAe]; exact Or.inr h
  have hK := hE.1
  have hS : va_S A s.heap s.heap [] := va_S.rf
  replace hP : va_P g.1 vwCl [(h1, .inl (g.2.1 0, 64, .inl f0)), (h0, .inr (8, [.ref h2, .int 0, .int 0, .int (-1), .ref h3, .int 0, .int 0])), (h3, .inr (6, [.ref h4, .ref h5, .ref h6, .int (-1), .int 0, .int 0, .int 0, .int 0])), (h5, .inr (10, [.int 2, .int 33, .ref h1, .int 0]))] s.heap := hP
  have hl := lv_entry ([.ref h0, .int 0, .int 0, .int 0]) (n := 10) (Nat.le_of_ble_eq_true rfl)
  rw [lg_entry_eq]
  generalize (lg_sl ([.ref h0, .int 0, .int 0, .int 0]) ++ List.replicate (10 - (lg_sl ([.ref h0, .int 0, .int 0, .int 0])).length) Slot.unset).toArray = ls at hl ⊢
  replace hl : lv_has ls 10 [(0, .ref h0), (1, .int 0), (2, .int 0), (3, .int 0)] := hl
  have hH0 : s.heap.size ≤ s.heap.size := Nat.le_refl _
  refine lv_iload_n hx hb dX5_readBranches_0 rfl (lv_at hl 3 rfl) ?_
  refine lv_bipush (v := 40) hx hb dX5_readBranches_1 (by decide) ?_
  refine lv_icmp_le (tgt := 12) hx hb dX5_readBranches_3 (by decide) (fun _ => ?_) (fun c9 => absurd (by decide) c9)
  refine lv_aload_n hx hb dX5_readBranches_12 rfl (lv_at hl 0 rfl) ?_
  refine va_get (D := g.1) (ci := 8) (v := .int 0) (C := RX5) (T := TX5) (N := 7) hx hb hts in9_X5_readBranches_1_RX5 hown hK hP 1 rfl rfl 5 (by decide) (hts (.fieldLink RX5 29 "Regexloom$Reader" "number" "I") (List.mem_of_getElem? (i := 1) rfl)) (fun _ h9 => h9) rfl dX5_readBranches_13 ?_
  refine lv_istore (lv' := [(4, .int 0), (0, .ref h0), (1, .int 0), (2, .int 0), (3, .int 0)]) hx hb dX5_readBranches_16 hl (by decide) rfl (fun ls hl => ?_)
  refine lv_aload_n hx hb dX5_readBranches_18 rfl (lv_at hl 1 rfl) ?_
  refine va_get (D := g.1) (ci := 8) (v := .int 0) (C := RX5) (T := TX5) (N := 7) hx hb hts in9_X5_readBranches_1_RX5 hown hK hP 1 rfl rfl 5 (by decide) (hts (.fieldLink RX5 29 "Regexloom$Reader" "number" "I") (List.mem_of_getElem? (i := 1) rfl)) (fun _ h9 => h9) rfl dX5_readBranches_19 ?_
  refine lv_istore (lv' := [(5, .int 0), (4, .int 0), (0, .ref h0), (1, .int 0), (2, .int 0), (3, .int 0)]) hx hb dX5_readBranches_22 hl (by decide) rfl (fun ls hl => ?_)
  refine lv_aload_n hx hb dX5_readBranches_24 rfl (lv_at hl 2 rfl) ?_
  refine va_get (D := g.1) (ci := 8) (v := .ref h3) (C := RX5) (T := TX5) (N := 7) hx hb hts in9_X5_readBranches_1_RX5 hown hK hP 1 rfl rfl 4 (by decide) (hts (.fieldLink RX5 25 "Regexloom$Reader" "into" "LRegexloom$Pattern;") (List.mem_of_getElem? (i := 2) rfl)) (fun _ h9 => h9) rfl dX5_readBranches_25 ?_
  have hPc := hP.sub (ws' := [(h1, .inl (g.2.1 0, 64, .inl f0)), (h3, .inr (6, [.ref h4, .ref h5, .ref h6, .int (-1), .int 0, .int 0, .int 0, .int 0])), (h5, .inr (10, [.int 2, .int 33, .ref h1, .int 0]))]) [0, 2, 3] rfl
  have hDc := hD.sub (ws' := [(h1, .inl (g.2.1 0, 64, .inl f0)), (h3, .inr (6, [.ref h4, .ref h5, .ref h6, .int (-1), .int 0, .int 0, .int 0, .int 0])), (h5, .inr (10, [.int 2, .int 33, .ref h1, .int 0]))]) [0, 2, 3] (by decide) rfl
  have hFc := va_free (wc := [(h1, .inl (g.2.1 0, 64, .inl f0)), (h3, .inr (6, [.ref h4, .ref h5, .ref h6, .int (-1), .int 0, .int 0, .int 0, .int 0])), (h5, .inr (10, [.int 2, .int 33, .ref h1, .int 0]))]) hD hS hA [0, 2, 3] rfl
  refine va_calli (va_runV (As := []) (rest := []) ⟨hx, hb, hml, hown, hts⟩ (c9_X3_addBranch_1 l g h3 h1 h4 h5 h6 _ f0) (cwV 0 hts g9_X5_readBranches_1_0 rfl rfl rfl (by decide +kernel) ⟨Nat.le_of_ble_eq_true rfl, Nat.le_of_ble_eq_true rfl⟩) (mPreV (g := g) (wc := [(h1, .inl (g.2.1 0, 64, .inl f0)), (h3, .inr (6, [.ref h4, .ref h5, .ref h6, .int (-1), .int 0, .int 0, .int 0, .int 0])), (h5, .inr (10, [.int 2, .int 33, .ref h1, .int 0]))]) (C := RX3) (ci := 6) (q0 := 1) hE hS hPc hDc hFc rfl rfl) rfl rfl hl.1 rfl (lv_room (Nat.le_of_ble_eq_true rfl)) dX5_readBranches_28 ⟨Nat.le_of_ble_eq_true rfl, Nat.le_of_ble_eq_true rfl⟩) hS (fun q _ h => hFc q h) hFc (fun r_1 u t H1 locs ht hvm hw hB hz1 hk1 hS => ?_)
  replace hw : 0 = r_1 := Eq.symm hw
  subst hw
  obtain ⟨hP1, hD1⟩ := hB
  rw [ht] at hP1
  obtain ⟨hP, hD⟩ := va_join (wr := [(h0, .inr (8, [.ref h2, .int 0, .int 0, .int (-1), .ref h3, .int 0, .int 0]))]) (w1 := [(h1, .inl (g.2.1 0, 64, .inl (upd (upd f0 0 (-1)) 1 (-1)))), (h3, .inr (6, [.ref h4, .ref h5, .ref h6, .int (-1), .int 0, .int 0, .int 0, .int 0])), (h5, .inr (10, [.int 2, .int 33, .ref h1, .int 1]))]) hP hD [0, 2, 3] [1] rfl rfl (by decide) (by decide) hk1 hFc hP1 hD1
  clear hP1 hD1 hPc hDc hFc hk1 hz1 hvm ht
  generalize H1 = H at hP hS ⊢
  have hP : va_P g.1 vwCl [(h0, .inr (8, [.ref h2, .int 0, .int 0, .int (-1), .ref h3, .int 0, .int 0])), (h1, .inl (g.2.1 0, 64, .inl (upd (upd f0 0 (-1)) 1 (-1)))), (h3, .inr (6, [.ref h4, .ref h5, .ref h6, .int (-1), .int 0, .int 0, .int 0, .int 0])), (h5, .inr (10, [.int 2, .int 33, .ref h1, .int 1]))] H := hP
  have hD : va_D A [(h0, .inr (8, [.ref h2, .int 0, .int 0, .int (-1), .ref h3, .int 0, .int 0])), (h1, .inl (g.2.1 0, 64, .inl (upd (upd f0 0 (-1)) 1 (-1)))), (h3, .inr (6, [.ref h4, .ref h5, .ref h6, .int (-1), .int 0, .int 0, .int 0, .int 0])), (h5, .inr (10, [.int 2, .int 33, .ref h1, .int 1]))] := hD
  refine lv_istore (lv' := [(6, .int 0), (5, .int 0), (4, .int 0), (0, .ref h0), (1, .int 0), (2, .int 0), (3, .int 0)]) hx hb dX5_readBranches_31 hl (by decide) rfl (fun ls hl => ?_)
  refine lv_iload hx hb dX5_readBranches_33 (lv_at hl 0 rfl) ?_
  refine lv_istore (lv' := [(7, .int 0), (6, .int 0), (5, .int 0), (4, .int 0), (0, .ref h0), (1, .int 0), (2, .int 0), (3, .int 0)]) hx hb dX5_readBranches_35 hl (by decide) rfl (fun ls hl => ?_)
  refine lv_aload_n hx hb dX5_readBranches_37 rfl (lv_at hl 4 rfl) ?_
  refine lv_iload hx hb dX5_readBranches_38 (lv_at hl 1 rfl) ?_
  refine lv_iload_n hx hb dX5_readBranches_40 rfl (lv_at hl 6 rfl) ?_
  refine lv_iload_n hx hb dX5_readBranches_41 rfl (lv_at hl 7 rfl) ?_
  have hPc := hP.sub (ws' := [(h0, .inr (8, [.ref h2, .int 0, .int 0, .int (-1), .ref h3, .int 0, .int 0]))]) [0] rfl
  have hDc := hD.sub (ws' := [(h0, .inr (8, [.ref h2, .int 0, .int 0, .int (-1), .ref h3, .int 0, .int 0]))]) [0] (by decide) rfl
  have hFc := va_free (wc := [(h0, .inr (8, [.ref h2, .int 0, .int 0, .int (-1), .ref h3, .int 0, .int 0]))]) hD hS hA [0] rfl
  refine va_callv (va_runV (As := [.int 0, .int 0, .int 0]) (rest := []) ⟨hx, hb, hml, hown, hts⟩ (c9_X5_readRow_1 l g h0 h2 h3 _) (cwV 3 hts g9_X5_readBranches_1_1 rfl rfl rfl (by decide +kernel) ⟨Nat.le_of_ble_eq_true rfl, Nat.le_of_ble_eq_true rfl⟩) (mPreV (g := g) (wc := [(h0, .inr (8, [.ref h2, .int 0, .int 0, .int (-1), .ref h3, .int 0, .int 0]))]) (C := RX5) (ci := 8) (q0 := 0) hE hS hPc hDc hFc rfl rfl) rfl rfl hl.1 rfl (lv_room (Nat.le_of_ble_eq_true rfl)) dX5_readBranches_42 ⟨Nat.le_of_ble_eq_true rfl, Nat.le_of_ble_eq_true rfl⟩) hS (fun q _ h => hFc q h) hFc (fun u t H1 locs ht hvm hw hB hz1 hk1 hS => ?_)
  obtain ⟨hP1, hD1⟩ := hB
  rw [ht] at hP1
  obtain ⟨hP, hD⟩ := va_join (wr := [(h1, .inl (g.2.1 0, 64, .inl (upd (upd f0 0 (-1)) 1 (-1)))), (h3, .inr (6, [.ref h4, .ref h5, .ref h6, .int (-1), .int 0, .int 0, .int 0, .int 0])), (h5, .inr (10, [.int 2, .int 33, .ref h1, .int 1]))]) (w1 := [(h0, .inr (8, [.ref h2, .int 0, .int 0, .int (-1), .ref h3, .int 0, .int 0]))]) hP hD [0] [1, 2, 3] rfl rfl (by decide) (by decide) hk1 hFc hP1 hD1
  clear hP1 hD1 hPc hDc hFc hk1 hz1 hvm ht
  generalize H1 = H at hP hS ⊢
  have hP : va_P g.1 vwCl [(h1, .inl (g.2.1 0, 64, .inl (upd (upd f0 0 (-1)) 1 (-1)))), (h3, .inr (6, [.ref h4, .ref h5, .ref h6, .int (-1), .int 0, .int 0, .int 0, .int 0])), (h5, .inr (10, [.int 2, .int 33, .ref h1, .int 1])), (h0, .inr (8, [.ref h2, .int 0, .int 0, .int (-1), .ref h3, .int 0, .int 0]))] H := hP
  have hD : va_D A [(h1, .inl (g.2.1 0, 64, .inl (upd (upd f0 0 (-1)) 1 (-1)))), (h3, .inr (6, [.ref h4, .ref h5, .ref h6, .int (-1), .int 0, .int 0, .int 0, .int 0])), (h5, .inr (10, [.int 2, .int 33, .ref h1, .int 1])), (h0, .inr (8, [.ref h2, .int 0, .int 0, .int (-1), .ref h3, .int 0, .int 0]))] := hD
  refine lv_iconst (v := 1) hx hb dX5_readBranches_45 (by decide) ?_
  refine lv_istore (lv' := [(8, .int 1), (7, .int 0), (6, .int 0), (5, .int 0), (4, .int 0), (0, .ref h0), (1, .int 0), (2, .int 0), (3, .int 0)]) hx hb dX5_readBranches_46 hl (by decide) rfl (fun ls hl => ?_)
  refine lv_iload hx hb dX5_readBranches_48 (lv_at hl 0 rfl) ?_
  refine lv_bipush (v := 32) hx hb dX5_readBranches_50 (by decide) ?_
  refine lv_icmp_gt (tgt := 164) hx hb dX5_readBranches_52 (by decide) (fun c9 => absurd c9 (by decide)) (fun _ => ?_)
  refine lv_aload_n hx hb dX5_readBranches_55 rfl (lv_at hl 5 rfl) ?_
  refine va_get (D := g.1) (ci := 8) (v := .int (-1)) (C := RX5) (T := TX5) (N := 7) hx hb hts in9_X5_readBranches_1_RX5 hown hK hP 3 rfl rfl 3 (by decide) (hts (.fieldLink RX5 22 "Regexloom$Reader" "fault" "I") (List.mem_of_getElem? (i := 27) rfl)) (fun _ h9 => h9) rfl dX5_readBranches_56 ?_
  refine lv_iconst (v := (-1)) hx hb dX5_readBranches_59 (by decide) ?_
  refine lv_icmp_ne (tgt := 164) hx hb dX5_readBranches_60 (by decide) (fun c9 => absurd (by decide) c9) (fun _ => ?_)
  refine lv_aload_n hx hb dX5_readBranches_63 rfl (lv_at hl 5 rfl) ?_
  have hPc := hP.sub (ws' := [(h0, .inr (8, [.ref h2, .int 0, .int 0, .int (-1), .ref h3, .int 0, .int 0]))]) [3] rfl
  have hDc := hD.sub (ws' := [(h0, .inr (8, [.ref h2, .int 0, .int 0, .int (-1), .ref h3, .int 0, .int 0]))]) [3] (by decide) rfl
  have hFc := va_free (wc := [(h0, .inr (8, [.ref h2, .int 0, .int 0, .int (-1), .ref h3, .int 0, .int 0]))]) hD hS hA [3] rfl
  refine va_calli (va_runV (As := []) (rest := []) ⟨hx, hb, hml, hown, hts⟩ (c9_X5_peek_1 l g h0 h2 h3 _) (cwV 0 hts g9_X5_readBranches_1_2 rfl rfl rfl (by decide +kernel) ⟨Nat.le_of_ble_eq_true rfl, Nat.le_of_ble_eq_true rfl⟩) (mPreV (g := g) (wc := [(h0, .inr (8, [.ref h2, .int 0, .int 0, .int (-1), .ref h3, .int 0, .int 0]))]) (C := RX5) (ci := 8) (q0 := 0) hE hS hPc hDc hFc rfl rfl) rfl rfl hl.1 rfl (lv_room (Nat.le_of_ble_eq_true rfl)) dX5_readBranches_64 ⟨Nat.le_of_ble_eq_true rfl, Nat.le_of_ble_eq_true rfl⟩) hS (fun q _ h => hFc q h) hFc (fun r_2 u t H1 locs ht hvm hw hB hz1 hk1 hS => ?_)
  replace hw : 0 = r_2 := Eq.symm hw
  subst hw
  obtain ⟨hP1, hD1⟩ := hB
  rw [ht] at hP1
  obtain ⟨hP, hD⟩ := va_join (wr := [(h1, .inl (g.2.1 0, 64, .inl (upd (upd f0 0 (-1)) 1 (-1)))), (h3, .inr (6, [.ref h4, .ref h5, .ref h6, .int (-1), .int 0, .int 0, .int 0, .int 0])), (h5, .inr (10, [.int 2, .int 33, .ref h1, .int 1]))]) (w1 := [(h0, .inr (8, [.ref h2, .int 0, .int 0, .int (-1), .ref h3, .int 0, .int 0]))]) hP hD [3] [0, 1, 2] rfl rfl (by decide) (by decide) hk1 hFc hP1 hD1
  clear hP1 hD1 hPc hDc hFc hk1 hz1 hvm ht
  generalize H1 = H at hP hS ⊢
  have hP : va_P g.1 vwCl [(h1, .inl (g.2.1 0, 64, .inl (upd (upd f0 0 (-1)) 1 (-1)))), (h3, .inr (6, [.ref h4, .ref h5, .ref h6, .int (-1), .int 0, .int 0, .int 0, .int 0])), (h5, .inr (10, [.int 2, .int 33, .ref h1, .int 1])), (h0, .inr (8, [.ref h2, .int 0, .int 0, .int (-1), .ref h3, .int 0, .int 0]))] H := hP
  have hD : va_D A [(h1, .inl (g.2.1 0, 64, .inl (upd (upd f0 0 (-1)) 1 (-1)))), (h3, .inr (6, [.ref h4, .ref h5, .ref h6, .int (-1), .int 0, .int 0, .int 0, .int 0])), (h5, .inr (10, [.int 2, .int 33, .ref h1, .int 1])), (h0, .inr (8, [.ref h2, .int 0, .int 0, .int (-1), .ref h3, .int 0, .int 0]))] := hD
  refine lv_bipush (v := 124) hx hb dX5_readBranches_67 (by decide) ?_
  refine lv_icmp_ne (tgt := 164) hx hb dX5_readBranches_69 (by decide) (fun _ => ?_) (fun c9 => absurd c9 (by decide))
  refine lv_aload_n hx hb dX5_readBranches_164 rfl (lv_at hl 5 rfl) ?_
  refine lv_iload hx hb dX5_readBranches_165 (lv_at hl 3 rfl) ?_
  refine lv_aload_n hx hb dX5_readBranches_167 rfl (lv_at hl 5 rfl) ?_
  refine va_get (D := g.1) (ci := 8) (v := .int 0) (C := RX5) (T := TX5) (N := 7) hx hb hts in9_X5_readBranches_1_RX5 hown hK hP 3 rfl rfl 5 (by decide) (hts (.fieldLink RX5 29 "Regexloom$Reader" "number" "I") (List.mem_of_getElem? (i := 1) rfl)) (fun _ h9 => h9) rfl dX5_readBranches_168 ?_
  refine va_mmax hx hb (by rw [hml]; exact hl.1.symm) hown (hts (.methodLink RX5 65 Lib.Math.max.name) (List.mem_of_getElem? (i := 35) rfl)) (hts (.static Lib.Math.max.name) (List.mem_of_getElem? (i := 36) rfl)) (hts (.initialized "java/lang/Math") (List.mem_of_getElem? (i := 37) rfl)) (hts (.code Lib.Math.max.name Lib.Math.max.code 2 (some .int)) (List.mem_of_getElem? (i := 38) rfl)) (Nat.le_of_ble_eq_true rfl) (Nat.le_of_ble_eq_true rfl) (Nat.le_of_ble_eq_true rfl) (Nat.le_of_ble_eq_true rfl) dX5_readBranches_171 ?_
  refine e_top (y := 0) (by decide) ?_
  refine va_put (D := g.1) (ci := 8) (v := .int 0) (ty := .int) (C := RX5) (T := TX5) (N := 7) hx hb hts in9_X5_readBranches_1_RX5 tyX5 tyX5_ok nmX5 hown hK hP hD hS 3 rfl rfl 5 (by decide) (hts (.fieldLink RX5 29 "Regexloom$Reader" "number" "I") (List.mem_of_getElem? (i := 1) rfl)) (fun _ h9 => h9) rfl (by decide +kernel) rfl rfl (Nat.le_of_ble_eq_true rfl) dX5_readBranches_174 (fun H locs hP hD hS => ?_)
  have hP : va_P g.1 vwCl [(h1, .inl (g.2.1 0, 64, .inl (upd (upd f0 0 (-1)) 1 (-1)))), (h3, .inr (6, [.ref h4, .ref h5, .ref h6, .int (-1), .int 0, .int 0, .int 0, .int 0])), (h5, .inr (10, [.int 2, .int 33, .ref h1, .int 1])), (h0, .inr (8, [.ref h2, .int 0, .int 0, .int (-1), .ref h3, .int 0, .int 0]))] H := hP
  have hD : va_D A [(h1, .inl (g.2.1 0, 64, .inl (upd (upd f0 0 (-1)) 1 (-1)))), (h3, .inr (6, [.ref h4, .ref h5, .ref h6, .int (-1), .int 0, .int 0, .int 0, .int 0])), (h5, .inr (10, [.int 2, .int 33, .ref h1, .int 1])), (h0, .inr (8, [.ref h2, .int 0, .int 0, .int (-1), .ref h3, .int 0, .int 0]))] := hD
  refine lv_iload hx hb dX5_readBranches_177 (lv_at hl 2 rfl) ?_
  have hP9 := hP.sub (ws' := [(h1, .inl (g.2.1 0, 64, .inl (upd (upd f0 0 (-1)) 1 (-1)))), (h0, .inr (8, [.ref h2, .int 0, .int 0, .int (-1), .ref h3, .int 0, .int 0])), (h3, .inr (6, [.ref h4, .ref h5, .ref h6, .int (-1), .int 0, .int 0, .int 0, .int 0])), (h5, .inr (10, [.int 2, .int 33, .ref h1, .int 1]))]) [0, 3, 1, 2] rfl
  have hD9 := hD.sub (ws' := [(h1, .inl (g.2.1 0, 64, .inl (upd (upd f0 0 (-1)) 1 (-1)))), (h0, .inr (8, [.ref h2, .int 0, .int 0, .int (-1), .ref h3, .int 0, .int 0])), (h3, .inr (6, [.ref h4, .ref h5, .ref h6, .int (-1), .int 0, .int 0, .int 0, .int 0])), (h5, .inr (10, [.int 2, .int 33, .ref h1, .int 1]))]) [0, 3, 1, 2] (by decide) rfl
  subst hAe
  exact W.iret (v := 0) hx hb hr (fun t ht hW => ⟨⟨0, (), rfl, rfl, by rw [ht]; exact hP9, hD9⟩, hS.F ht⟩) hS.2.2 dX5_readBranches_179
def w9_X5_read_1 : List Cond := [.code yX5_read cX5_read 4 (some .int), .fieldLink RX5 9 "Regexloom$Reader" "draft" "[C", .fieldLink RX5 15 "Regexloom$Reader" "size" "I", .fieldLink RX5 19 "Regexloom$Reader" "at" "I", .fieldLink RX5 22 "Regexloom$Reader" "fault" "I", .fieldLink RX5 25 "Regexloom$Reader" "into" "LRegexloom$Pattern;", .fieldLink RX5 29 "Regexloom$Reader" "number" "I", .fieldLink RX5 32 "Regexloom$Reader" "highestNeeded" "I", .methodLink RX5 35 yX3_empty, .instanceMethod yX3_empty, .selects RX3 yX3_empty yX3_empty, .initialized RX3, .code yX3_empty cX3_empty 2 none, .fieldLink RX3 14 "Regexloom$Pattern" "pieces" "LRegexloom$Table;", .methodLink RX3 26 yX9_cutTo, .instanceMethod yX9_cutTo, .selects RX9 yX9_cutTo yX9_cutTo, .initialized RX9, .code yX9_cutTo cX9_cutTo 2 none, .fieldLink RX9 28 "Regexloom$Table" "size" "I", .fieldLink RX3 20 "Regexloom$Pattern" "branches" "LRegexloom$Table;", .fieldLink RX3 23 "Regexloom$Pattern" "firstGroups" "LRegexloom$Table;", .methodLink RX3 30 yX9_reach, .instanceMethod yX9_reach, .selects RX9 yX9_reach yX9_reach, .code yX9_reach cX9_reach 3 none, .fieldLink RX9 15 "Regexloom$Table" "most" "I", .methodLink RX9 18 Lib.Math.min.name, .static Lib.Math.min.name, .initialized "java/lang/Math", .code Lib.Math.min.name Lib.Math.min.code 2 (some .int), .fieldLink RX9 9 "Regexloom$Table" "width" "I", .fieldLink RX9 24 "Regexloom$Table" "cells" "[I", .methodLink RX3 33 yX9_put, .instanceMethod yX9_put, .selects RX9 yX9_put yX9_put, .code yX9_put cX9_put 4 none, .fieldLink RX3 37 "Regexloom$Pattern" "root" "I", .fieldLink RX3 41 "Regexloom$Pattern" "groups" "I", .fieldLink RX3 44 "Regexloom$Pattern" "isTold" "Z", .fieldLink RX3 48 "Regexloom$Pattern" "isPlain" "Z", .fieldLink RX3 51 "Regexloom$Pattern" "isRegular" "Z", .methodLink RX5 40 yX5_readBranches, .instanceMethod yX5_readBranches, .selects RX5 yX5_readBranches yX5_readBranches, .initialized RX5, .code yX5_readBranches cX5_readBranches 10 (some .int), .methodLink RX5 57 yX3_addBranch, .instanceMethod yX3_addBranch, .selects RX3 yX3_addBranch yX3_addBranch, .code yX3_addBranch cX3_addBranch 2 (some .int), .methodLink RX3 58 yX9_add, .instanceMethod yX9_add, .selects RX9 yX9_add yX9_add, .code yX9_add cX9_add 1 (some .int), .methodLink RX5 61 yX5_readRow, .instanceMethod yX5_readRow, .selects RX5 yX5_readRow yX5_readRow, .code yX5_readRow cX5_readRow 7 none, .methodLink RX5 53 yX5_peek, .instanceMethod yX5_peek, .selects RX5 yX5_peek yX5_peek, .code yX5_peek cX5_peek 1 (some .char), .methodLink RX5 65 Lib.Math.max.name, .static Lib.Math.max.name, .code Lib.Math.max.name Lib.Math.max.code 2 (some .int), .fieldLink RX5 44 "Regexloom$Pattern" "root" "I", .fieldLink RX5 50 "Regexloom$Pattern" "groups" "I"] ++ (u_ws RX5 TX5 7 ++ u_ws RX3 TX3 8 ++ u_ws RX9 TX9 4)
set_option maxRecDepth 20000 in
theorem in9_X5_read_1_RX5 : ∀ w ∈ u_ws RX5 TX5 7, w ∈ w9_X5_read_1 := by decide +kernel
set_option maxRecDepth 20000 in
theorem in9_X5_read_1_RX3 : ∀ w ∈ u_ws RX3 TX3 8, w ∈ w9_X5_read_1 := by decide +kernel
set_option maxRecDepth 20000 in
theorem in9_X5_read_1_RX9 : ∀ w ∈ u_ws RX9 TX9 4, w ∈ w9_X5_read_1 := by decide +kernel
set_option maxRecDepth 20000 in
theorem g9_X5_read_1_0 : GoodIn w9_X5_read_1 (wsV RX5 35 RX3 yX3_empty w9_X3_empty_1) := goodIn_r _ [8, 9, 10, 11, 12, 13, 14, 15, 16, 17, 18, 19, 20, 21, 22, 23, 24, 25, 26, 27, 28, 29, 30, 31, 32, 33, 34, 35, 36, 37, 38, 39, 40, 41, 75, 76, 77, 78, 79, 80, 81, 82, 83, 84, 85, 86] (by decide +kernel) (by decide +kernel)
set_option maxRecDepth 20000 in
theorem g9_X5_read_1_1 : GoodIn w9_X5_read_1 (wsV RX5 40 RX5 yX5_readBranches w9_X5_readBranches_1) := goodIn_r _ [42, 43, 44, 45, 46, 6, 5, 47, 48, 49, 11, 50, 20, 51, 52, 53, 17, 54, 19, 26, 31, 32, 33, 34, 35, 36, 55, 56, 57, 45, 58, 4, 3, 2, 59, 60, 61, 62, 1, 63, 64, 29, 65, 68, 69, 70, 71, 72, 73, 74, 75, 76, 77, 78, 79, 80, 81, 82, 83, 84, 85, 86] (by decide +kernel) (by decide +kernel)
set_option maxHeartbeats 4000000 in
set_option maxRecDepth 100000 in
theorem c9_X5_read_1 (l : Launch) (g : G9) (h0 h1 h2 h3 h4 h5 h6 h7 h8 sz : Nat) (f0 : Nat → Int32) (f1 : Nat → Int32) : Met l yX5_read w9_X5_read_1 ({ frames := 3, cells := 0, slots := 0, locals := 73 }) (mP g [(h2, .inr (6, [.ref h3, .ref h4, .ref h5, .int 0, .int 0, .int 0, .int 0, .int 0])), (h3, .inr (10, [.int 10, .int 33, .ref h6, .int 0])), (h4, .inr (10, [.int 2, .int 33, .ref h7, .int 0])), (h7, .inl (g.2.1 0, 64, .inl f0)), (h5, .inr (10, [.int 1, .int 7, .ref h8, .int 0])), (h8, .inl (g.2.1 0, 7, .inl f1)), (h0, .inr (8, [.null, .int 0, .int 0, .int 0, .null, .int 0, .int 0]))] sz [.ref h0, .ref h1, .int 0, .ref h2]) (va_Qi (fun (r : Int32) (_ : Unit) => r = (-1)) (fun (_ : Unit) (t : State) => mB g [(h2, .inr (6, [.ref h3, .ref h4, .ref h5, .int 0, .int 0, .int 0, .int 0, .int 0])), (h3, .inr (10, [.int 10, .int 33, .ref h6, .int 0])), (h4, .inr (10, [.int 2, .int 33, .ref h7, .int 0])), (h7, .inl (g.2.1 0, 64, .inl f0)), (h5, .inr (10, [.int 1, .int 7, .ref h8, .int 0])), (h8, .inl (g.2.1 0, 7, .inl f1)), (h0, .inr (8, [.null, .int 0, .int 0, .int 0, .null, .int 0, .int 0]))] sz [(h2, .inr (6, [.ref h3, .ref h4, .ref h5, .int 0, .int 0, .int 0, .int 0, .int 0])), (h3, .inr (10, [.int 10, .int 33, .ref h6, .int 0])), (h4, .inr (10, [.int 2, .int 33, .ref h7, .int 1])), (h7, .inl (g.2.1 0, 64, .inl (upd (upd f0 0 (-1)) 1 (-1)))), (h5, .inr (10, [.int 1, .int 7, .ref h8, .int 7])), (h8, .inl (g.2.1 0, 7, .inl (upd (upd (upd (upd (upd (upd (upd f1 0 (-1)) 1 (-1)) 2 (-1)) 3 (-1)) 4 (-1)) 5 (-1)) 6 (-1)))), (h0, .inr (8, [.ref h1, .int 0, .int 0, .int (-1), .ref h2, .int 0, .int 0]))] t) (va_A [(h2, .inr (6, [.ref h3, .ref h4, .ref h5, .int 0, .int 0, .int 0, .int 0, .int 0])), (h3, .inr (10, [.int 10, .int 33, .ref h6, .int 0])), (h4, .inr (10, [.int 2, .int 33, .ref h7, .int 0])), (h7, .inl (g.2.1 0, 64, .inl f0)), (h5, .inr (10, [.int 1, .int 7, .ref h8, .int 0])), (h8, .inl (g.2.1 0, 7, .inl f1)), (h0, .inr (8, [.null, .int 0, .int 0, .int 0, .null, .int 0, .int 0]))] sz)) 0 0 (va_A [(h2, .inr (6, [.ref h3, .ref h4, .ref h5, .int 0, .int 0, .int 0, .int 0, .int 0])), (h3, .inr (10, [.int 10, .int 33, .ref h6, .int 0])), (h4, .inr (10, [.int 2, .int 33, .ref h7, .int 0])), (h7, .inl (g.2.1 0, 64, .inl f0)), (h5, .inr (10, [.int 1, .int 7, .ref h8, .int 0])), (h8, .inl (g.2.1 0, 7, .inl f1)), (h0, .inr (8, [.null, .int 0, .int 0, .int 0, .null, .int 0, .int 0]))] sz) := by
  refine Met.ofW (cc := cX5_read) (maxL := 4) (ret := (some .int)) (by decide) rfl ?_
  intro p e s m args below meth c s₁ B hml hv
  obtain ⟨rfl, hsz, hP, hD0, hE⟩ := hv
  have hx := B.exec
  have hb := B.bytes
  have hr := B.returns
  have hts := atoms_spec (ws := w9_X5_read_1) B.pre
  have hown : s.vm.findClass RX5 = some m.cls := findClass_of_methodNamed B.named
  have hlocks := B.notSynchronized
  subst hsz
  have hD := hD0.self (sz := s.heap.size)
  generalize hAe : va_A [(h2, .inr (6, [.ref h3, .ref h4, .ref h5, .int 0, .int 0, .int 0, .int 0, .int 0])), (h3, .inr (10, [.int 10, .int 33, .ref h6, .int 0])), (h4, .inr (10, [.int 2, .int 33, .ref h7, .int 0])), (h7, .inl (g.2.1 0, 64, .inl f0)), (h5, .inr (10, [.int 1, .int 7, .ref h8, .int 0])), (h8, .inl (g.2.1 0, 7, .inl f1)), (h0, .inr (8, [.null, .int 0, .int 0, .int 0, .null, .int 0, .int 0]))] s.heap.size = A at hD hE ⊢
  have hA : ∀ q : Nat, s.heap.size ≤ q → A q := fun q h => by rw [← hAe]; exact Or.inr h
  have hK := hE.1
  have hS : va_S A s.heap s.heap [] := va_S.rf
  replace hP : va_P g.1 vwCl [(h2, .inr (6, [.ref h3, .ref h4, .ref h5, .int 0, .int 0, .int 0, .int 0, .int 0])), (h3, .inr (10, [.int 10, .int 33, .ref h6, .int 0])), (h4, .inr (10, [.int 2, .int 33, .ref h7, .int 0])), (h7, .inl (g.2.1 0, 64, .inl f0)), (h5, .inr (10, [.int 1, .int 7, .ref h8, .int 0])), (h8, .inl (g.2.1 0, 7, .inl f1)), (h0, .inr (8, [.null, .int 0, .int 0, .int 0, .null, .int 0, .int 0]))] s.heap := hP
  have hl := lv_entry ([.ref h0, .ref h1, .int 0, .ref h2]) (n := 4) (Nat.le_of_ble_eq_true rfl)
  rw [lg_entry_eq]
  generalize (lg_sl ([.ref h0, .ref h1, .int 0, .ref h2]) ++ List.replicate (4 - (lg_sl ([.ref h0, .ref h1, .int 0, .ref h2])).length) Slot.unset).toArray = ls at hl ⊢
  replace hl : lv_has ls 4 [(0, .ref h0), (1, .ref h1), (2, .int 0), (3, .ref h2)] := hl
  have hH0 : s.heap.size ≤ s.heap.size := Nat.le_refl _
  refine lv_aload_n hx hb dX5_read_0 rfl (lv_at hl 0 rfl) ?_
  refine lv_aload_n hx hb dX5_read_1 rfl (lv_at hl 1 rfl) ?_
  refine va_put (D := g.1) (ci := 8) (v := .ref h1) (ty := (.array .char)) (C := RX5) (T := TX5) (N := 7) hx hb hts in9_X5_read_1_RX5 tyX5 tyX5_ok nmX5 hown hK hP hD hS 6 rfl rfl 0 (by decide) (hts (.fieldLink RX5 9 "Regexloom$Reader" "draft" "[C") (List.mem_of_getElem? (i := 1) rfl)) (fun _ h9 => h9) rfl (by decide +kernel) rfl rfl (Nat.le_of_ble_eq_true rfl) dX5_read_2 (fun H locs hP hD hS => ?_)
  have hP : va_P g.1 vwCl [(h2, .inr (6, [.ref h3, .ref h4, .ref h5, .int 0, .int 0, .int 0, .int 0, .int 0])), (h3, .inr (10, [.int 10, .int 33, .ref h6, .int 0])), (h4, .inr (10, [.int 2, .int 33, .ref h7, .int 0])), (h7, .inl (g.2.1 0, 64, .inl f0)), (h5, .inr (10, [.int 1, .int 7, .ref h8, .int 0])), (h8, .inl (g.2.1 0, 7, .inl f1)), (h0, .inr (8, [.ref h1, .int 0, .int 0, .int 0, .null, .int 0, .int 0]))] H := hP
  have hD : va_D A [(h2, .inr (6, [.ref h3, .ref h4, .ref h5, .int 0, .int 0, .int 0, .int 0, .int 0])), (h3, .inr (10, [.int 10, .int 33, .ref h6, .int 0])), (h4, .inr (10, [.int 2, .int 33, .ref h7, .int 0])), (h7, .inl (g.2.1 0, 64, .inl f0)), (h5, .inr (10, [.int 1, .int 7, .ref h8, .int 0])), (h8, .inl (g.2.1 0, 7, .inl f1)), (h0, .inr (8, [.ref h1, .int 0, .int 0, .int 0, .null, .int 0, .int 0]))] := hD
  refine lv_aload_n hx hb dX5_read_5 rfl (lv_at hl 0 rfl) ?_
  refine lv_iload_n hx hb dX5_read_6 rfl (lv_at hl 2 rfl) ?_
  refine va_put (D := g.1) (ci := 8) (v := .int 0) (ty := .int) (C := RX5) (T := TX5) (N := 7) hx hb hts in9_X5_read_1_RX5 tyX5 tyX5_ok nmX5 hown hK hP hD hS 6 rfl rfl 1 (by decide) (hts (.fieldLink RX5 15 "Regexloom$Reader" "size" "I") (List.mem_of_getElem? (i := 2) rfl)) (fun _ h9 => h9) rfl (by decide +kernel) rfl rfl (Nat.le_of_ble_eq_true rfl) dX5_read_7 (fun H locs hP hD hS => ?_)
  have hP : va_P g.1 vwCl [(h2, .inr (6, [.ref h3, .ref h4, .ref h5, .int 0, .int 0, .int 0, .int 0, .int 0])), (h3, .inr (10, [.int 10, .int 33, .ref h6, .int 0])), (h4, .inr (10, [.int 2, .int 33, .ref h7, .int 0])), (h7, .inl (g.2.1 0, 64, .inl f0)), (h5, .inr (10, [.int 1, .int 7, .ref h8, .int 0])), (h8, .inl (g.2.1 0, 7, .inl f1)), (h0, .inr (8, [.ref h1, .int 0, .int 0, .int 0, .null, .int 0, .int 0]))] H := hP
  have hD : va_D A [(h2, .inr (6, [.ref h3, .ref h4, .ref h5, .int 0, .int 0, .int 0, .int 0, .int 0])), (h3, .inr (10, [.int 10, .int 33, .ref h6, .int 0])), (h4, .inr (10, [.int 2, .int 33, .ref h7, .int 0])), (h7, .inl (g.2.1 0, 64, .inl f0)), (h5, .inr (10, [.int 1, .int 7, .ref h8, .int 0])), (h8, .inl (g.2.1 0, 7, .inl f1)), (h0, .inr (8, [.ref h1, .int 0, .int 0, .int 0, .null, .int 0, .int 0]))] := hD
  refine lv_aload_n hx hb dX5_read_10 rfl (lv_at hl 0 rfl) ?_
  refine lv_iconst (v := 0) hx hb dX5_read_11 (by decide) ?_
  refine va_put (D := g.1) (ci := 8) (v := .int 0) (ty := .int) (C := RX5) (T := TX5) (N := 7) hx hb hts in9_X5_read_1_RX5 tyX5 tyX5_ok nmX5 hown hK hP hD hS 6 rfl rfl 2 (by decide) (hts (.fieldLink RX5 19 "Regexloom$Reader" "at" "I") (List.mem_of_getElem? (i := 3) rfl)) (fun _ h9 => h9) rfl (by decide +kernel) rfl rfl (Nat.le_of_ble_eq_true rfl) dX5_read_12 (fun H locs hP hD hS => ?_)
  have hP : va_P g.1 vwCl [(h2, .inr (6, [.ref h3, .ref h4, .ref h5, .int 0, .int 0, .int 0, .int 0, .int 0])), (h3, .inr (10, [.int 10, .int 33, .ref h6, .int 0])), (h4, .inr (10, [.int 2, .int 33, .ref h7, .int 0])), (h7, .inl (g.2.1 0, 64, .inl f0)), (h5, .inr (10, [.int 1, .int 7, .ref h8, .int 0])), (h8, .inl (g.2.1 0, 7, .inl f1)), (h0, .inr (8, [.ref h1, .int 0, .int 0, .int 0, .null, .int 0, .int 0]))] H := hP
  have hD : va_D A [(h2, .inr (6, [.ref h3, .ref h4, .ref h5, .int 0, .int 0, .int 0, .int 0, .int 0])), (h3, .inr (10, [.int 10, .int 33, .ref h6, .int 0])), (h4, .inr (10, [.int 2, .int 33, .ref h7, .int 0])), (h7, .inl (g.2.1 0, 64, .inl f0)), (h5, .inr (10, [.int 1, .int 7, .ref h8, .int 0])), (h8, .inl (g.2.1 0, 7, .inl f1)), (h0, .inr (8, [.ref h1, .int 0, .int 0, .int 0, .null, .int 0, .int 0]))] := hD
  refine lv_aload_n hx hb dX5_read_15 rfl (lv_at hl 0 rfl) ?_
  refine lv_iconst (v := (-1)) hx hb dX5_read_16 (by decide) ?_
  refine va_put (D := g.1) (ci := 8) (v := .int (-1)) (ty := .int) (C := RX5) (T := TX5) (N := 7) hx hb hts in9_X5_read_1_RX5 tyX5 tyX5_ok nmX5 hown hK hP hD hS 6 rfl rfl 3 (by decide) (hts (.fieldLink RX5 22 "Regexloom$Reader" "fault" "I") (List.mem_of_getElem? (i := 4) rfl)) (fun _ h9 => h9) rfl (by decide +kernel) rfl rfl (Nat.le_of_ble_eq_true rfl) dX5_read_17 (fun H locs hP hD hS => ?_)
  have hP : va_P g.1 vwCl [(h2, .inr (6, [.ref h3, .ref h4, .ref h5, .int 0, .int 0, .int 0, .int 0, .int 0])), (h3, .inr (10, [.int 10, .int 33, .ref h6, .int 0])), (h4, .inr (10, [.int 2, .int 33, .ref h7, .int 0])), (h7, .inl (g.2.1 0, 64, .inl f0)), (h5, .inr (10, [.int 1, .int 7, .ref h8, .int 0])), (h8, .inl (g.2.1 0, 7, .inl f1)), (h0, .inr (8, [.ref h1, .int 0, .int 0, .int (-1), .null, .int 0, .int 0]))] H := hP
  have hD : va_D A [(h2, .inr (6, [.ref h3, .ref h4, .ref h5, .int 0, .int 0, .int 0, .int 0, .int 0])), (h3, .inr (10, [.int 10, .int 33, .ref h6, .int 0])), (h4, .inr (10, [.int 2, .int 33, .ref h7, .int 0])), (h7, .inl (g.2.1 0, 64, .inl f0)), (h5, .inr (10, [.int 1, .int 7, .ref h8, .int 0])), (h8, .inl (g.2.1 0, 7, .inl f1)), (h0, .inr (8, [.ref h1, .int 0, .int 0, .int (-1), .null, .int 0, .int 0]))] := hD
  refine lv_aload_n hx hb dX5_read_20 rfl (lv_at hl 0 rfl) ?_
  refine lv_aload_n hx hb dX5_read_21 rfl (lv_at hl 3 rfl) ?_
  refine va_put (D := g.1) (ci := 8) (v := .ref h2) (ty := (.object "Regexloom$Pattern")) (C := RX5) (T := TX5) (N := 7) hx hb hts in9_X5_read_1_RX5 tyX5 tyX5_ok nmX5 hown hK hP hD hS 6 rfl rfl 4 (by decide) (hts (.fieldLink RX5 25 "Regexloom$Reader" "into" "LRegexloom$Pattern;") (List.mem_of_getElem? (i := 5) rfl)) (fun _ h9 => h9) rfl (by decide +kernel) rfl rfl (Nat.le_of_ble_eq_true rfl) dX5_read_22 (fun H locs hP hD hS => ?_)
  have hP : va_P g.1 vwCl [(h2, .inr (6, [.ref h3, .ref h4, .ref h5, .int 0, .int 0, .int 0, .int 0, .int 0])), (h3, .inr (10, [.int 10, .int 33, .ref h6, .int 0])), (h4, .inr (10, [.int 2, .int 33, .ref h7, .int 0])), (h7, .inl (g.2.1 0, 64, .inl f0)), (h5, .inr (10, [.int 1, .int 7, .ref h8, .int 0])), (h8, .inl (g.2.1 0, 7, .inl f1)), (h0, .inr (8, [.ref h1, .int 0, .int 0, .int (-1), .ref h2, .int 0, .int 0]))] H := hP
  have hD : va_D A [(h2, .inr (6, [.ref h3, .ref h4, .ref h5, .int 0, .int 0, .int 0, .int 0, .int 0])), (h3, .inr (10, [.int 10, .int 33, .ref h6, .int 0])), (h4, .inr (10, [.int 2, .int 33, .ref h7, .int 0])), (h7, .inl (g.2.1 0, 64, .inl f0)), (h5, .inr (10, [.int 1, .int 7, .ref h8, .int 0])), (h8, .inl (g.2.1 0, 7, .inl f1)), (h0, .inr (8, [.ref h1, .int 0, .int 0, .int (-1), .ref h2, .int 0, .int 0]))] := hD
  refine lv_aload_n hx hb dX5_read_25 rfl (lv_at hl 0 rfl) ?_
  refine lv_iconst (v := 0) hx hb dX5_read_26 (by decide) ?_
  refine va_put (D := g.1) (ci := 8) (v := .int 0) (ty := .int) (C := RX5) (T := TX5) (N := 7) hx hb hts in9_X5_read_1_RX5 tyX5 tyX5_ok nmX5 hown hK hP hD hS 6 rfl rfl 5 (by decide) (hts (.fieldLink RX5 29 "Regexloom$Reader" "number" "I") (List.mem_of_getElem? (i := 6) rfl)) (fun _ h9 => h9) rfl (by decide +kernel) rfl rfl (Nat.le_of_ble_eq_true rfl) dX5_read_27 (fun H locs hP hD hS => ?_)
  have hP : va_P g.1 vwCl [(h2, .inr (6, [.ref h3, .ref h4, .ref h5, .int 0, .int 0, .int 0, .int 0, .int 0])), (h3, .inr (10, [.int 10, .int 33, .ref h6, .int 0])), (h4, .inr (10, [.int 2, .int 33, .ref h7, .int 0])), (h7, .inl (g.2.1 0, 64, .inl f0)), (h5, .inr (10, [.int 1, .int 7, .ref h8, .int 0])), (h8, .inl (g.2.1 0, 7, .inl f1)), (h0, .inr (8, [.ref h1, .int 0, .int 0, .int (-1), .ref h2, .int 0, .int 0]))] H := hP
  have hD : va_D A [(h2, .inr (6, [.ref h3, .ref h4, .ref h5, .int 0, .int 0, .int 0, .int 0, .int 0])), (h3, .inr (10, [.int 10, .int 33, .ref h6, .int 0])), (h4, .inr (10, [.int 2, .int 33, .ref h7, .int 0])), (h7, .inl (g.2.1 0, 64, .inl f0)), (h5, .inr (10, [.int 1, .int 7, .ref h8, .int 0])), (h8, .inl (g.2.1 0, 7, .inl f1)), (h0, .inr (8, [.ref h1, .int 0, .int 0, .int (-1), .ref h2, .int 0, .int 0]))] := hD
  refine lv_aload_n hx hb dX5_read_30 rfl (lv_at hl 0 rfl) ?_
  refine lv_iconst (v := 0) hx hb dX5_read_31 (by decide) ?_
  refine va_put (D := g.1) (ci := 8) (v := .int 0) (ty := .int) (C := RX5) (T := TX5) (N := 7) hx hb hts in9_X5_read_1_RX5 tyX5 tyX5_ok nmX5 hown hK hP hD hS 6 rfl rfl 6 (by decide) (hts (.fieldLink RX5 32 "Regexloom$Reader" "highestNeeded" "I") (List.mem_of_getElem? (i := 7) rfl)) (fun _ h9 => h9) rfl (by decide +kernel) rfl rfl (Nat.le_of_ble_eq_true rfl) dX5_read_32 (fun H locs hP hD hS => ?_)
  have hP : va_P g.1 vwCl [(h2, .inr (6, [.ref h3, .ref h4, .ref h5, .int 0, .int 0, .int 0, .int 0, .int 0])), (h3, .inr (10, [.int 10, .int 33, .ref h6, .int 0])), (h4, .inr (10, [.int 2, .int 33, .ref h7, .int 0])), (h7, .inl (g.2.1 0, 64, .inl f0)), (h5, .inr (10, [.int 1, .int 7, .ref h8, .int 0])), (h8, .inl (g.2.1 0, 7, .inl f1)), (h0, .inr (8, [.ref h1, .int 0, .int 0, .int (-1), .ref h2, .int 0, .int 0]))] H := hP
  have hD : va_D A [(h2, .inr (6, [.ref h3, .ref h4, .ref h5, .int 0, .int 0, .int 0, .int 0, .int 0])), (h3, .inr (10, [.int 10, .int 33, .ref h6, .int 0])), (h4, .inr (10, [.int 2, .int 33, .ref h7, .int 0])), (h7, .inl (g.2.1 0, 64, .inl f0)), (h5, .inr (10, [.int 1, .int 7, .ref h8, .int 0])), (h8, .inl (g.2.1 0, 7, .inl f1)), (h0, .inr (8, [.ref h1, .int 0, .int 0, .int (-1), .ref h2, .int 0, .int 0]))] := hD
  refine lv_aload_n hx hb dX5_read_35 rfl (lv_at hl 0 rfl) ?_
  refine va_get (D := g.1) (ci := 8) (v := .ref h2) (C := RX5) (T := TX5) (N := 7) hx hb hts in9_X5_read_1_RX5 hown hK hP 6 rfl rfl 4 (by decide) (hts (.fieldLink RX5 25 "Regexloom$Reader" "into" "LRegexloom$Pattern;") (List.mem_of_getElem? (i := 5) rfl)) (fun _ h9 => h9) rfl dX5_read_36 ?_
  have hPc := hP.sub (ws' := [(h2, .inr (6, [.ref h3, .ref h4, .ref h5, .int 0, .int 0, .int 0, .int 0, .int 0])), (h3, .inr (10, [.int 10, .int 33, .ref h6, .int 0])), (h4, .inr (10, [.int 2, .int 33, .ref h7, .int 0])), (h5, .inr (10, [.int 1, .int 7, .ref h8, .int 0])), (h8, .inl (g.2.1 0, 7, .inl f1))]) [0, 1, 2, 4, 5] rfl
  have hDc := hD.sub (ws' := [(h2, .inr (6, [.ref h3, .ref h4, .ref h5, .int 0, .int 0, .int 0, .int 0, .int 0])), (h3, .inr (10, [.int 10, .int 33, .ref h6, .int 0])), (h4, .inr (10, [.int 2, .int 33, .ref h7, .int 0])), (h5, .inr (10, [.int 1, .int 7, .ref h8, .int 0])), (h8, .inl (g.2.1 0, 7, .inl f1))]) [0, 1, 2, 4, 5] (by decide) rfl
  have hFc := va_free (wc := [(h2, .inr (6, [.ref h3, .ref h4, .ref h5, .int 0, .int 0, .int 0, .int 0, .int 0])), (h3, .inr (10, [.int 10, .int 33, .ref h6, .int 0])), (h4, .inr (10, [.int 2, .int 33, .ref h7, .int 0])), (h5, .inr (10, [.int 1, .int 7, .ref h8, .int 0])), (h8, .inl (g.2.1 0, 7, .inl f1))]) hD hS hA [0, 1, 2, 4, 5] rfl
  refine va_callv (va_runV (As := []) (rest := []) ⟨hx, hb, hml, hown, hts⟩ (c9_X3_empty_1 l g h2 h3 h4 h5 h6 h7 h8 _ f1) (cwV 0 hts g9_X5_read_1_0 rfl rfl rfl (by decide +kernel) ⟨Nat.le_of_ble_eq_true rfl, Nat.le_of_ble_eq_true rfl⟩) (mPreV (g := g) (wc := [(h2, .inr (6, [.ref h3, .ref h4, .ref h5, .int 0, .int 0, .int 0, .int 0, .int 0])), (h3, .inr (10, [.int 10, .int 33, .ref h6, .int 0])), (h4, .inr (10, [.int 2, .int 33, .ref h7, .int 0])), (h5, .inr (10, [.int 1, .int 7, .ref h8, .int 0])), (h8, .inl (g.2.1 0, 7, .inl f1))]) (C := RX3) (ci := 6) (q0 := 0) hE hS hPc hDc hFc rfl rfl) rfl rfl hl.1 rfl (lv_room (Nat.le_of_ble_eq_true rfl)) dX5_read_39 ⟨Nat.le_of_ble_eq_true rfl, Nat.le_of_ble_eq_true rfl⟩) hS (fun q _ h => hFc q h) hFc (fun u t H1 locs ht hvm hw hB hz1 hk1 hS => ?_)
  obtain ⟨hP1, hD1⟩ := hB
  rw [ht] at hP1
  obtain ⟨hP, hD⟩ := va_join (wr := [(h7, .inl (g.2.1 0, 64, .inl f0)), (h0, .inr (8, [.ref h1, .int 0, .int 0, .int (-1), .ref h2, .int 0, .int 0]))]) (w1 := [(h2, .inr (6, [.ref h3, .ref h4, .ref h5, .int (-1), .int 0, .int 0, .int 0, .int 0])), (h3, .inr (10, [.int 10, .int 33, .ref h6, .int 0])), (h4, .inr (10, [.int 2, .int 33, .ref h7, .int 0])), (h5, .inr (10, [.int 1, .int 7, .ref h8, .int 7])), (h8, .inl (g.2.1 0, 7, .inl (upd (upd (upd (upd (upd (upd (upd f1 0 (-1)) 1 (-1)) 2 (-1)) 3 (-1)) 4 (-1)) 5 (-1)) 6 (-1))))]) hP hD [0, 1, 2, 4, 5] [3, 6] rfl rfl (by decide) (by decide) hk1 hFc hP1 hD1
  clear hP1 hD1 hPc hDc hFc hk1 hz1 hvm ht
  generalize H1 = H at hP hS ⊢
  have hP : va_P g.1 vwCl [(h7, .inl (g.2.1 0, 64, .inl f0)), (h0, .inr (8, [.ref h1, .int 0, .int 0, .int (-1), .ref h2, .int 0, .int 0])), (h2, .inr (6, [.ref h3, .ref h4, .ref h5, .int (-1), .int 0, .int 0, .int 0, .int 0])), (h3, .inr (10, [.int 10, .int 33, .ref h6, .int 0])), (h4, .inr (10, [.int 2, .int 33, .ref h7, .int 0])), (h5, .inr (10, [.int 1, .int 7, .ref h8, .int 7])), (h8, .inl (g.2.1 0, 7, .inl (upd (upd (upd (upd (upd (upd (upd f1 0 (-1)) 1 (-1)) 2 (-1)) 3 (-1)) 4 (-1)) 5 (-1)) 6 (-1))))] H := hP
  have hD : va_D A [(h7, .inl (g.2.1 0, 64, .inl f0)), (h0, .inr (8, [.ref h1, .int 0, .int 0, .int (-1), .ref h2, .int 0, .int 0])), (h2, .inr (6, [.ref h3, .ref h4, .ref h5, .int (-1), .int 0, .int 0, .int 0, .int 0])), (h3, .inr (10, [.int 10, .int 33, .ref h6, .int 0])), (h4, .inr (10, [.int 2, .int 33, .ref h7, .int 0])), (h5, .inr (10, [.int 1, .int 7, .ref h8, .int 7])), (h8, .inl (g.2.1 0, 7, .inl (upd (upd (upd (upd (upd (upd (upd f1 0 (-1)) 1 (-1)) 2 (-1)) 3 (-1)) 4 (-1)) 5 (-1)) 6 (-1))))] := hD
  refine lv_aload_n hx hb dX5_read_42 rfl (lv_at hl 0 rfl) ?_
  refine va_get (D := g.1) (ci := 8) (v := .ref h2) (C := RX5) (T := TX5) (N := 7) hx hb hts in9_X5_read_1_RX5 hown hK hP 1 rfl rfl 4 (by decide) (hts (.fieldLink RX5 25 "Regexloom$Reader" "into" "LRegexloom$Pattern;") (List.mem_of_getElem? (i := 5) rfl)) (fun _ h9 => h9) rfl dX5_read_43 ?_
  refine lv_aload_n hx hb dX5_read_46 rfl (lv_at hl 0 rfl) ?_
  refine lv_iconst (v := 0) hx hb dX5_read_47 (by decide) ?_
  refine lv_iconst (v := 0) hx hb dX5_read_48 (by decide) ?_
  refine lv_iconst (v := 0) hx hb dX5_read_49 (by decide) ?_
  have hPc := hP.sub (ws' := [(h7, .inl (g.2.1 0, 64, .inl f0)), (h0, .inr (8, [.ref h1, .int 0, .int 0, .int (-1), .ref h2, .int 0, .int 0])), (h2, .inr (6, [.ref h3, .ref h4, .ref h5, .int (-1), .int 0, .int 0, .int 0, .int 0])), (h4, .inr (10, [.int 2, .int 33, .ref h7, .int 0]))]) [0, 1, 2, 4] rfl
  have hDc := hD.sub (ws' := [(h7, .inl (g.2.1 0, 64, .inl f0)), (h0, .inr (8, [.ref h1, .int 0, .int 0, .int (-1), .ref h2, .int 0, .int 0])), (h2, .inr (6, [.ref h3, .ref h4, .ref h5, .int (-1), .int 0, .int 0, .int 0, .int 0])), (h4, .inr (10, [.int 2, .int 33, .ref h7, .int 0]))]) [0, 1, 2, 4] (by decide) rfl
  have hFc := va_free (wc := [(h7, .inl (g.2.1 0, 64, .inl f0)), (h0, .inr (8, [.ref h1, .int 0, .int 0, .int (-1), .ref h2, .int 0, .int 0])), (h2, .inr (6, [.ref h3, .ref h4, .ref h5, .int (-1), .int 0, .int 0, .int 0, .int 0])), (h4, .inr (10, [.int 2, .int 33, .ref h7, .int 0]))]) hD hS hA [0, 1, 2, 4] rfl
  refine va_calli (va_runV (As := [.int 0, .int 0, .int 0]) (rest := [.ref h2]) ⟨hx, hb, hml, hown, hts⟩ (c9_X5_readBranches_1 l g h0 h7 h1 h2 h3 h4 h5 _ f0) (cwV 3 hts g9_X5_read_1_1 rfl rfl rfl (by decide +kernel) ⟨Nat.le_of_ble_eq_true rfl, Nat.le_of_ble_eq_true rfl⟩) (mPreV (g := g) (wc := [(h7, .inl (g.2.1 0, 64, .inl f0)), (h0, .inr (8, [.ref h1, .int 0, .int 0, .int (-1), .ref h2, .int 0, .int 0])), (h2, .inr (6, [.ref h3, .ref h4, .ref h5, .int (-1), .int 0, .int 0, .int 0, .int 0])), (h4, .inr (10, [.int 2, .int 33, .ref h7, .int 0]))]) (C := RX5) (ci := 8) (q0 := 1) hE hS hPc hDc hFc rfl rfl) rfl rfl hl.1 rfl (lv_room (Nat.le_of_ble_eq_true rfl)) dX5_read_50 ⟨Nat.le_of_ble_eq_true rfl, Nat.le_of_ble_eq_true rfl⟩) hS (fun q _ h => hFc q h) hFc (fun r_1 u t H1 locs ht hvm hw hB hz1 hk1 hS => ?_)
  replace hw : 0 = r_1 := Eq.symm hw
  subst hw
  obtain ⟨hP1, hD1⟩ := hB
  rw [ht] at hP1
  obtain ⟨hP, hD⟩ := va_join (wr := [(h3, .inr (10, [.int 10, .int 33, .ref h6, .int 0])), (h5, .inr (10, [.int 1, .int 7, .ref h8, .int 7])), (h8, .inl (g.2.1 0, 7, .inl (upd (upd (upd (upd (upd (upd (upd f1 0 (-1)) 1 (-1)) 2 (-1)) 3 (-1)) 4 (-1)) 5 (-1)) 6 (-1))))]) (w1 := [(h7, .inl (g.2.1 0, 64, .inl (upd (upd f0 0 (-1)) 1 (-1)))), (h0, .inr (8, [.ref h1, .int 0, .int 0, .int (-1), .ref h2, .int 0, .int 0])), (h2, .inr (6, [.ref h3, .ref h4, .ref h5, .int (-1), .int 0, .int 0, .int 0, .int 0])), (h4, .inr (10, [.int 2, .int 33, .ref h7, .int 1]))]) hP hD [0, 1, 2, 4] [3, 5, 6] rfl rfl (by decide) (by decide) hk1 hFc hP1 hD1
  clear hP1 hD1 hPc hDc hFc hk1 hz1 hvm ht
  generalize H1 = H at hP hS ⊢
  have hP : va_P g.1 vwCl [(h3, .inr (10, [.int 10, .int 33, .ref h6, .int 0])), (h5, .inr (10, [.int 1, .int 7, .ref h8, .int 7])), (h8, .inl (g.2.1 0, 7, .inl (upd (upd (upd (upd (upd (upd (upd f1 0 (-1)) 1 (-1)) 2 (-1)) 3 (-1)) 4 (-1)) 5 (-1)) 6 (-1)))), (h7, .inl (g.2.1 0, 64, .inl (upd (upd f0 0 (-1)) 1 (-1)))), (h0, .inr (8, [.ref h1, .int 0, .int 0, .int (-1), .ref h2, .int 0, .int 0])), (h2, .inr (6, [.ref h3, .ref h4, .ref h5, .int (-1), .int 0, .int 0, .int 0, .int 0])), (h4, .inr (10, [.int 2, .int 33, .ref h7, .int 1]))] H := hP
  have hD : va_D A [(h3, .inr (10, [.int 10, .int 33, .ref h6, .int 0])), (h5, .inr (10, [.int 1, .int 7, .ref h8, .int 7])), (h8, .inl (g.2.1 0, 7, .inl (upd (upd (upd (upd (upd (upd (upd f1 0 (-1)) 1 (-1)) 2 (-1)) 3 (-1)) 4 (-1)) 5 (-1)) 6 (-1)))), (h7, .inl (g.2.1 0, 64, .inl (upd (upd f0 0 (-1)) 1 (-1)))), (h0, .inr (8, [.ref h1, .int 0, .int 0, .int (-1), .ref h2, .int 0, .int 0])), (h2, .inr (6, [.ref h3, .ref h4, .ref h5, .int (-1), .int 0, .int 0, .int 0, .int 0])), (h4, .inr (10, [.int 2, .int 33, .ref h7, .int 1]))] := hD
  refine va_put (D := g.1) (ci := 6) (v := .int 0) (ty := .int) (C := RX3) (T := TX3) (N := 8) hx hb hts in9_X5_read_1_RX3 tyX3 tyX3_ok nmX3 hown hK hP hD hS 5 rfl rfl 3 (by decide) (hts (.fieldLink RX5 44 "Regexloom$Pattern" "root" "I") (List.mem_of_getElem? (i := 66) rfl)) (fun _ h9 => h9) rfl (by decide +kernel) rfl rfl (Nat.le_of_ble_eq_true rfl) dX5_read_53 (fun H locs hP hD hS => ?_)
  have hP : va_P g.1 vwCl [(h3, .inr (10, [.int 10, .int 33, .ref h6, .int 0])), (h5, .inr (10, [.int 1, .int 7, .ref h8, .int 7])), (h8, .inl (g.2.1 0, 7, .inl (upd (upd (upd (upd (upd (upd (upd f1 0 (-1)) 1 (-1)) 2 (-1)) 3 (-1)) 4 (-1)) 5 (-1)) 6 (-1)))), (h7, .inl (g.2.1 0, 64, .inl (upd (upd f0 0 (-1)) 1 (-1)))), (h0, .inr (8, [.ref h1, .int 0, .int 0, .int (-1), .ref h2, .int 0, .int 0])), (h2, .inr (6, [.ref h3, .ref h4, .ref h5, .int 0, .int 0, .int 0, .int 0, .int 0])), (h4, .inr (10, [.int 2, .int 33, .ref h7, .int 1]))] H := hP
  have hD : va_D A [(h3, .inr (10, [.int 10, .int 33, .ref h6, .int 0])), (h5, .inr (10, [.int 1, .int 7, .ref h8, .int 7])), (h8, .inl (g.2.1 0, 7, .inl (upd (upd (upd (upd (upd (upd (upd f1 0 (-1)) 1 (-1)) 2 (-1)) 3 (-1)) 4 (-1)) 5 (-1)) 6 (-1)))), (h7, .inl (g.2.1 0, 64, .inl (upd (upd f0 0 (-1)) 1 (-1)))), (h0, .inr (8, [.ref h1, .int 0, .int 0, .int (-1), .ref h2, .int 0, .int 0])), (h2, .inr (6, [.ref h3, .ref h4, .ref h5, .int 0, .int 0, .int 0, .int 0, .int 0])), (h4, .inr (10, [.int 2, .int 33, .ref h7, .int 1]))] := hD
  refine lv_aload_n hx hb dX5_read_56 rfl (lv_at hl 0 rfl) ?_
  refine va_get (D := g.1) (ci := 8) (v := .int 0) (C := RX5) (T := TX5) (N := 7) hx hb hts in9_X5_read_1_RX5 hown hK hP 4 rfl rfl 2 (by decide) (hts (.fieldLink RX5 19 "Regexloom$Reader" "at" "I") (List.mem_of_getElem? (i := 3) rfl)) (fun _ h9 => h9) rfl dX5_read_57 ?_
  refine lv_aload_n hx hb dX5_read_60 rfl (lv_at hl 0 rfl) ?_
  refine va_get (D := g.1) (ci := 8) (v := .int 0) (C := RX5) (T := TX5) (N := 7) hx hb hts in9_X5_read_1_RX5 hown hK hP 4 rfl rfl 1 (by decide) (hts (.fieldLink RX5 15 "Regexloom$Reader" "size" "I") (List.mem_of_getElem? (i := 2) rfl)) (fun _ h9 => h9) rfl dX5_read_61 ?_
  refine lv_icmp_ge (tgt := 71) hx hb dX5_read_64 (by decide) (fun _ => ?_) (fun c9 => absurd (by decide) c9)
  refine lv_aload_n hx hb dX5_read_71 rfl (lv_at hl 0 rfl) ?_
  refine va_get (D := g.1) (ci := 8) (v := .int (-1)) (C := RX5) (T := TX5) (N := 7) hx hb hts in9_X5_read_1_RX5 hown hK hP 4 rfl rfl 3 (by decide) (hts (.fieldLink RX5 22 "Regexloom$Reader" "fault" "I") (List.mem_of_getElem? (i := 4) rfl)) (fun _ h9 => h9) rfl dX5_read_72 ?_
  refine lv_iconst (v := (-1)) hx hb dX5_read_75 (by decide) ?_
  refine lv_icmp_ne (tgt := 100) hx hb dX5_read_76 (by decide) (fun c9 => absurd (by decide) c9) (fun _ => ?_)
  refine lv_aload_n hx hb dX5_read_79 rfl (lv_at hl 0 rfl) ?_
  refine va_get (D := g.1) (ci := 8) (v := .int 0) (C := RX5) (T := TX5) (N := 7) hx hb hts in9_X5_read_1_RX5 hown hK hP 4 rfl rfl 6 (by decide) (hts (.fieldLink RX5 32 "Regexloom$Reader" "highestNeeded" "I") (List.mem_of_getElem? (i := 7) rfl)) (fun _ h9 => h9) rfl dX5_read_80 ?_
  refine lv_aload_n hx hb dX5_read_83 rfl (lv_at hl 0 rfl) ?_
  refine va_get (D := g.1) (ci := 8) (v := .int 0) (C := RX5) (T := TX5) (N := 7) hx hb hts in9_X5_read_1_RX5 hown hK hP 4 rfl rfl 5 (by decide) (hts (.fieldLink RX5 29 "Regexloom$Reader" "number" "I") (List.mem_of_getElem? (i := 6) rfl)) (fun _ h9 => h9) rfl dX5_read_84 ?_
  refine lv_icmp_le (tgt := 100) hx hb dX5_read_87 (by decide) (fun _ => ?_) (fun c9 => absurd (by decide) c9)
  refine lv_aload_n hx hb dX5_read_100 rfl (lv_at hl 0 rfl) ?_
  refine va_get (D := g.1) (ci := 8) (v := .ref h2) (C := RX5) (T := TX5) (N := 7) hx hb hts in9_X5_read_1_RX5 hown hK hP 4 rfl rfl 4 (by decide) (hts (.fieldLink RX5 25 "Regexloom$Reader" "into" "LRegexloom$Pattern;") (List.mem_of_getElem? (i := 5) rfl)) (fun _ h9 => h9) rfl dX5_read_101 ?_
  refine lv_aload_n hx hb dX5_read_104 rfl (lv_at hl 0 rfl) ?_
  refine va_get (D := g.1) (ci := 8) (v := .int 0) (C := RX5) (T := TX5) (N := 7) hx hb hts in9_X5_read_1_RX5 hown hK hP 4 rfl rfl 5 (by decide) (hts (.fieldLink RX5 29 "Regexloom$Reader" "number" "I") (List.mem_of_getElem? (i := 6) rfl)) (fun _ h9 => h9) rfl dX5_read_105 ?_
  refine va_put (D := g.1) (ci := 6) (v := .int 0) (ty := .int) (C := RX3) (T := TX3) (N := 8) hx hb hts in9_X5_read_1_RX3 tyX3 tyX3_ok nmX3 hown hK hP hD hS 5 rfl rfl 4 (by decide) (hts (.fieldLink RX5 50 "Regexloom$Pattern" "groups" "I") (List.mem_of_getElem? (i := 67) rfl)) (fun _ h9 => h9) rfl (by decide +kernel) rfl rfl (Nat.le_of_ble_eq_true rfl) dX5_read_108 (fun H locs hP hD hS => ?_)
  have hP : va_P g.1 vwCl [(h3, .inr (10, [.int 10, .int 33, .ref h6, .int 0])), (h5, .inr (10, [.int 1, .int 7, .ref h8, .int 7])), (h8, .inl (g.2.1 0, 7, .inl (upd (upd (upd (upd (upd (upd (upd f1 0 (-1)) 1 (-1)) 2 (-1)) 3 (-1)) 4 (-1)) 5 (-1)) 6 (-1)))), (h7, .inl (g.2.1 0, 64, .inl (upd (upd f0 0 (-1)) 1 (-1)))), (h0, .inr (8, [.ref h1, .int 0, .int 0, .int (-1), .ref h2, .int 0, .int 0])), (h2, .inr (6, [.ref h3, .ref h4, .ref h5, .int 0, .int 0, .int 0, .int 0, .int 0])), (h4, .inr (10, [.int 2, .int 33, .ref h7, .int 1]))] H := hP
  have hD : va_D A [(h3, .inr (10, [.int 10, .int 33, .ref h6, .int 0])), (h5, .inr (10, [.int 1, .int 7, .ref h8, .int 7])), (h8, .inl (g.2.1 0, 7, .inl (upd (upd (upd (upd (upd (upd (upd f1 0 (-1)) 1 (-1)) 2 (-1)) 3 (-1)) 4 (-1)) 5 (-1)) 6 (-1)))), (h7, .inl (g.2.1 0, 64, .inl (upd (upd f0 0 (-1)) 1 (-1)))), (h0, .inr (8, [.ref h1, .int 0, .int 0, .int (-1), .ref h2, .int 0, .int 0])), (h2, .inr (6, [.ref h3, .ref h4, .ref h5, .int 0, .int 0, .int 0, .int 0, .int 0])), (h4, .inr (10, [.int 2, .int 33, .ref h7, .int 1]))] := hD
  refine lv_aload_n hx hb dX5_read_111 rfl (lv_at hl 0 rfl) ?_
  refine va_get (D := g.1) (ci := 8) (v := .int (-1)) (C := RX5) (T := TX5) (N := 7) hx hb hts in9_X5_read_1_RX5 hown hK hP 4 rfl rfl 3 (by decide) (hts (.fieldLink RX5 22 "Regexloom$Reader" "fault" "I") (List.mem_of_getElem? (i := 4) rfl)) (fun _ h9 => h9) rfl dX5_read_112 ?_
  have hP9 := hP.sub (ws' := [(h2, .inr (6, [.ref h3, .ref h4, .ref h5, .int 0, .int 0, .int 0, .int 0, .int 0])), (h3, .inr (10, [.int 10, .int 33, .ref h6, .int 0])), (h4, .inr (10, [.int 2, .int 33, .ref h7, .int 1])), (h7, .inl (g.2.1 0, 64, .inl (upd (upd f0 0 (-1)) 1 (-1)))), (h5, .inr (10, [.int 1, .int 7, .ref h8, .int 7])), (h8, .inl (g.2.1 0, 7, .inl (upd (upd (upd (upd (upd (upd (upd f1 0 (-1)) 1 (-1)) 2 (-1)) 3 (-1)) 4 (-1)) 5 (-1)) 6 (-1)))), (h0, .inr (8, [.ref h1, .int 0, .int 0, .int (-1), .ref h2, .int 0, .int 0]))]) [5, 0, 6, 3, 1, 2, 4] rfl
  have hD9 := hD.sub (ws' := [(h2, .inr (6, [.ref h3, .ref h4, .ref h5, .int 0, .int 0, .int 0, .int 0, .int 0])), (h3, .inr (10, [.int 10, .int 33, .ref h6, .int 0])), (h4, .inr (10, [.int 2, .int 33, .ref h7, .int 1])), (h7, .inl (g.2.1 0, 64, .inl (upd (upd f0 0 (-1)) 1 (-1)))), (h5, .inr (10, [.int 1, .int 7, .ref h8, .int 7])), (h8, .inl (g.2.1 0, 7, .inl (upd (upd (upd (upd (upd (upd (upd f1 0 (-1)) 1 (-1)) 2 (-1)) 3 (-1)) 4 (-1)) 5 (-1)) 6 (-1)))), (h0, .inr (8, [.ref h1, .int 0, .int 0, .int (-1), .ref h2, .int 0, .int 0]))]) [5, 0, 6, 3, 1, 2, 4] (by decide) rfl
  subst hAe
  exact W.iret (v := (-1)) hx hb hr (fun t ht hW => ⟨⟨(-1), (), rfl, rfl, by rw [ht]; exact hP9, hD9⟩, hS.F ht⟩) hS.2.2 dX5_read_115
def w9_X11_fault_1 : List Cond := [.code yX11_fault cX11_fault 1 (some .int), .fieldLink RX11 34 "Regexloom" "reader" "LRegexloom$Reader;", .fieldLink RX11 9 "Regexloom" "draft" "[C", .fieldLink RX11 116 "Regexloom" "drafted" "I", .fieldLink RX11 27 "Regexloom" "spare" "LRegexloom$Pattern;", .methodLink RX11 127 yX5_read, .instanceMethod yX5_read, .selects RX5 yX5_read yX5_read, .initialized RX5, .code yX5_read cX5_read 4 (some .int), .fieldLink RX5 9 "Regexloom$Reader" "draft" "[C", .fieldLink RX5 15 "Regexloom$Reader" "size" "I", .fieldLink RX5 19 "Regexloom$Reader" "at" "I", .fieldLink RX5 22 "Regexloom$Reader" "fault" "I", .fieldLink RX5 25 "Regexloom$Reader" "into" "LRegexloom$Pattern;", .fieldLink RX5 29 "Regexloom$Reader" "number" "I", .fieldLink RX5 32 "Regexloom$Reader" "highestNeeded" "I", .methodLink RX5 35 yX3_empty, .instanceMethod yX3_empty, .selects RX3 yX3_empty yX3_empty, .initialized RX3, .code yX3_empty cX3_empty 2 none, .fieldLink RX3 14 "Regexloom$Pattern" "pieces" "LRegexloom$Table;", .methodLink RX3 26 yX9_cutTo, .instanceMethod yX9_cutTo, .selects RX9 yX9_cutTo yX9_cutTo, .initialized RX9, .code yX9_cutTo cX9_cutTo 2 none, .fieldLink RX9 28 "Regexloom$Table" "size" "I", .fieldLink RX3 20 "Regexloom$Pattern" "branches" "LRegexloom$Table;", .fieldLink RX3 23 "Regexloom$Pattern" "firstGroups" "LRegexloom$Table;", .methodLink RX3 30 yX9_reach, .instanceMethod yX9_reach, .selects RX9 yX9_reach yX9_reach, .code yX9_reach cX9_reach 3 none, .fieldLink RX9 15 "Regexloom$Table" "most" "I", .methodLink RX9 18 Lib.Math.min.name, .static Lib.Math.min.name, .initialized "java/lang/Math", .code Lib.Math.min.name Lib.Math.min.code 2 (some .int), .fieldLink RX9 9 "Regexloom$Table" "width" "I", .fieldLink RX9 24 "Regexloom$Table" "cells" "[I", .methodLink RX3 33 yX9_put, .instanceMethod yX9_put, .selects RX9 yX9_put yX9_put, .code yX9_put cX9_put 4 none, .fieldLink RX3 37 "Regexloom$Pattern" "root" "I", .fieldLink RX3 41 "Regexloom$Pattern" "groups" "I", .fieldLink RX3 44 "Regexloom$Pattern" "isTold" "Z", .fieldLink RX3 48 "Regexloom$Pattern" "isPlain" "Z", .fieldLink RX3 51 "Regexloom$Pattern" "isRegular" "Z", .methodLink RX5 40 yX5_readBranches, .instanceMethod yX5_readBranches, .selects RX5 yX5_readBranches yX5_readBranches, .code yX5_readBranches cX5_readBranches 10 (some .int), .methodLink RX5 57 yX3_addBranch, .instanceMethod yX3_addBranch, .selects RX3 yX3_addBranch yX3_addBranch, .code yX3_addBranch cX3_addBranch 2 (some .int), .methodLink RX3 58 yX9_add, .instanceMethod yX9_add, .selects RX9 yX9_add yX9_add, .code yX9_add cX9_add 1 (some .int), .methodLink RX5 61 yX5_readRow, .instanceMethod yX5_readRow, .selects RX5 yX5_readRow yX5_readRow, .code yX5_readRow cX5_readRow 7 none, .methodLink RX5 53 yX5_peek, .instanceMethod yX5_peek, .selects RX5 yX5_peek yX5_peek, .code yX5_peek cX5_peek 1 (some .char), .methodLink RX5 65 Lib.Math.max.name, .static Lib.Math.max.name, .code Lib.Math.max.name Lib.Math.max.code 2 (some .int), .fieldLink RX5 44 "Regexloom$Pattern" "root" "I", .fieldLink RX5 50 "Regexloom$Pattern" "groups" "I"] ++ (u_ws RX11 TX11 17 ++ u_ws RX5 TX5 7 ++ u_ws RX3 TX3 8 ++ u_ws RX9 TX9 4)
set_option maxRecDepth 20000 in
theorem in9_X11_fault_1_RX11 : ∀ w ∈ u_ws RX11 TX11 17, w ∈ w9_X11_fault_1 := by decide +kernel
set_option maxRecDepth 20000 in
theorem in9_X11_fault_1_RX5 : ∀ w ∈ u_ws RX5 TX5 7, w ∈ w9_X11_fault_1 := by decide +kernel
set_option maxRecDepth 20000 in
theorem in9_X11_fault_1_RX3 : ∀ w ∈ u_ws RX3 TX3 8, w ∈ w9_X11_fault_1 := by decide +kernel
set_option maxRecDepth 20000 in
theorem in9_X11_fault_1_RX9 : ∀ w ∈ u_ws RX9 TX9 4, w ∈ w9_X11_fault_1 := by decide +kernel
set_option maxRecDepth 20000 in
theorem g9_X11_fault_1_0 : GoodIn w9_X11_fault_1 (wsV RX11 127 RX5 yX5_read w9_X5_read_1) := goodIn_r _ [5, 6, 7, 8, 9, 10, 11, 12, 13, 14, 15, 16, 17, 18, 19, 20, 21, 22, 23, 24, 25, 26, 27, 28, 29, 30, 31, 32, 33, 34, 35, 36, 37, 38, 39, 40, 41, 42, 43, 44, 45, 46, 47, 48, 49, 50, 51, 52, 53, 8, 54, 55, 56, 57, 58, 59, 60, 61, 62, 63, 64, 65, 66, 67, 68, 69, 70, 71, 72, 73, 74, 75, 93, 94, 95, 96, 97, 98, 99, 100, 101, 102, 103, 104, 105, 106, 107, 108, 109, 110, 111] (by decide +kernel) (by decide +kernel)
set_option maxHeartbeats 4000000 in
set_option maxRecDepth 100000 in
theorem c9_X11_fault_1 (l : Launch) (g : G9) (h0 h1 h2 h3 h4 h5 h6 h7 h8 h9 h10 h11 h12 h13 h14 h15 h16 h17 h18 h19 sz : Nat) (f0 : Nat → Int32) (f1 : Nat → Int32) : Met l yX11_fault w9_X11_fault_1 ({ frames := 4, cells := 0, slots := 0, locals := 96 }) (mP g [(h0, .inr (12, [.ref h1, .int 0, .ref h2, .ref h3, .ref h4, .ref h5, .ref h6, .ref h7, .int (-1), .ref h8, .ref h9, .int 250, .ref h10, .int 0, .ref h11, .ref h12, .ref h13])), (h4, .inr (6, [.ref h14, .ref h15, .ref h16, .int 0, .int 0, .int 0, .int 0, .int 0])), (h14, .inr (10, [.int 10, .int 33, .ref h17, .int 0])), (h15, .inr (10, [.int 2, .int 33, .ref h18, .int 0])), (h18, .inl (g.2.1 0, 64, .inl f0)), (h16, .inr (10, [.int 1, .int 7, .ref h19, .int 0])), (h19, .inl (g.2.1 0, 7, .inl f1)), (h5, .inr (8, [.null, .int 0, .int 0, .int 0, .null, .int 0, .int 0]))] sz [.ref h0]) (va_Qi (fun (r : Int32) (_ : Unit) => r = (-1)) (fun (_ : Unit) (t : State) => mB g [(h0, .inr (12, [.ref h1, .int 0, .ref h2, .ref h3, .ref h4, .ref h5, .ref h6, .ref h7, .int (-1), .ref h8, .ref h9, .int 250, .ref h10, .int 0, .ref h11, .ref h12, .ref h13])), (h4, .inr (6, [.ref h14, .ref h15, .ref h16, .int 0, .int 0, .int 0, .int 0, .int 0])), (h14, .inr (10, [.int 10, .int 33, .ref h17, .int 0])), (h15, .inr (10, [.int 2, .int 33, .ref h18, .int 0])), (h18, .inl (g.2.1 0, 64, .inl f0)), (h16, .inr (10, [.int 1, .int 7, .ref h19, .int 0])), (h19, .inl (g.2.1 0, 7, .inl f1)), (h5, .inr (8, [.null, .int 0, .int 0, .int 0, .null, .int 0, .int 0]))] sz [(h0, .inr (12, [.ref h1, .int 0, .ref h2, .ref h3, .ref h4, .ref h5, .ref h6, .ref h7, .int (-1), .ref h8, .ref h9, .int 250, .ref h10, .int 0, .ref h11, .ref h12, .ref h13])), (h4, .inr (6, [.ref h14, .ref h15, .ref h16, .int 0, .int 0, .int 0, .int 0, .int 0])), (h14, .inr (10, [.int 10, .int 33, .ref h17, .int 0])), (h15, .inr (10, [.int 2, .int 33, .ref h18, .int 1])), (h18, .inl (g.2.1 0, 64, .inl (upd (upd f0 0 (-1)) 1 (-1)))), (h16, .inr (10, [.int 1, .int 7, .ref h19, .int 7])), (h19, .inl (g.2.1 0, 7, .inl (upd (upd (upd (upd (upd (upd (upd f1 0 (-1)) 1 (-1)) 2 (-1)) 3 (-1)) 4 (-1)) 5 (-1)) 6 (-1)))), (h5, .inr (8, [.ref h1, .int 0, .int 0, .int (-1), .ref h4, .int 0, .int 0]))] t) (va_A [(h0, .inr (12, [.ref h1, .int 0, .ref h2, .ref h3, .ref h4, .ref h5, .ref h6, .ref h7, .int (-1), .ref h8, .ref h9, .int 250, .ref h10, .int 0, .ref h11, .ref h12, .ref h13])), (h4, .inr (6, [.ref h14, .ref h15, .ref h16, .int 0, .int 0, .int 0, .int 0, .int 0])), (h14, .inr (10, [.int 10, .int 33, .ref h17, .int 0])), (h15, .inr (10, [.int 2, .int 33, .ref h18, .int 0])), (h18, .inl (g.2.1 0, 64, .inl f0)), (h16, .inr (10, [.int 1, .int 7, .ref h19, .int 0])), (h19, .inl (g.2.1 0, 7, .inl f1)), (h5, .inr (8, [.null, .int 0, .int 0, .int 0, .null, .int 0, .int 0]))] sz)) 0 0 (va_A [(h0, .inr (12, [.ref h1, .int 0, .ref h2, .ref h3, .ref h4, .ref h5, .ref h6, .ref h7, .int (-1), .ref h8, .ref h9, .int 250, .ref h10, .int 0, .ref h11, .ref h12, .ref h13])), (h4, .inr (6, [.ref h14, .ref h15, .ref h16, .int 0, .int 0, .int 0, .int 0, .int 0])), (h14, .inr (10, [.int 10, .int 33, .ref h17, .int 0])), (h15, .inr (10, [.int 2, .int 33, .ref h18, .int 0])), (h18, .inl (g.2.1 0, 64, .inl f0)), (h16, .inr (10, [.int 1, .int 7, .ref h19, .int 0])), (h19, .inl (g.2.1 0, 7, .inl f1)), (h5, .inr (8, [.null, .int 0, .int 0, .int 0, .null, .int 0, .int 0]))] sz) := by
  refine Met.ofW (cc := cX11_fault) (maxL := 1) (ret := (some .int)) (by decide) rfl ?_
  intro p e s m args below meth c s₁ B hml hv
  obtain ⟨rfl, hsz, hP, hD0, hE⟩ := hv
  have hx := B.exec
  have hb := B.bytes
  have hr := B.returns
  have hts := atoms_spec (ws := w9_X11_fault_1) B.pre
  have hown : s.vm.findClass RX11 = some m.cls := findClass_of_methodNamed B.named
  have hlocks := B.notSynchronized
  subst hsz
  have hD := hD0.self (sz := s.heap.size)
  generalize hAe : va_A [(h0, .inr (12, [.ref h1, .int 0, .ref h2, .ref h3, .ref h4, .ref h5, .ref h6, .ref h7, .int (-1), .ref h8, .ref h9, .int 250, .ref h10, .int 0, .ref h11, .ref h12, .ref h13])), (h4, .inr (6, [.ref h14, .ref h15, .ref h16, .int 0, .int 0, .int 0, .int 0, .int 0])), (h14, .inr (10, [.int 10, .int 33, .ref h17, .int 0])), (h15, .inr (10, [.int 2, .int 33, .ref h18, .int 0])), (h18, .inl (g.2.1 0, 64, .inl f0)), (h16, .inr (10, [.int 1, .int 7, .ref h19, .int 0])), (h19, .inl (g.2.1 0, 7, .inl f1)), (h5, .inr (8, [.null, .int 0, .int 0, .int 0, .null, .int 0, .int 0]))] s.heap.size = A at hD hE ⊢
  have hA : ∀ q : Nat, s.heap.size ≤ q → A q := fun q h => by rw [← hAe]; exact Or.inr h
  have hK := hE.1
  have hS : va_S A s.heap s.heap [] := va_S.rf
  replace hP : va_P g.1 vwCl [(h0, .inr (12, [.ref h1, .int 0, .ref h2, .ref h3, .ref h4, .ref h5, .ref h6, .ref h7, .int (-1), .ref h8, .ref h9, .int 250, .ref h10, .int 0, .ref h11, .ref h12, .ref h13])), (h4, .inr (6, [.ref h14, .ref h15, .ref h16, .int 0, .int 0, .int 0, .int 0, .int 0])), (h14, .inr (10, [.int 10, .int 33, .ref h17, .int 0])), (h15, .inr (10, [.int 2, .int 33, .ref h18, .int 0])), (h18, .inl (g.2.1 0, 64, .inl f0)), (h16, .inr (10, [.int 1, .int 7, .ref h19, .int 0])), (h19, .inl (g.2.1 0, 7, .inl f1)), (h5, .inr (8, [.null, .int 0, .int 0, .int 0, .null, .int 0, .int 0]))] s.heap := hP
  have hl := lv_entry ([.ref h0]) (n := 1) (Nat.le_of_ble_eq_true rfl)
  rw [lg_entry_eq]
  generalize (lg_sl ([.ref h0]) ++ List.replicate (1 - (lg_sl ([.ref h0])).length) Slot.unset).toArray = ls at hl ⊢
  replace hl : lv_has ls 1 [(0, .ref h0)] := hl
  have hH0 : s.heap.size ≤ s.heap.size := Nat.le_refl _
  refine lv_aload_n hx hb dX11_fault_0 rfl (lv_at hl 0 rfl) ?_
  refine va_get (D := g.1) (ci := 12) (v := .ref h5) (C := RX11) (T := TX11) (N := 17) hx hb hts in9_X11_fault_1_RX11 hown hK hP 0 rfl rfl 5 (by decide) (hts (.fieldLink RX11 34 "Regexloom" "reader" "LRegexloom$Reader;") (List.mem_of_getElem? (i := 1) rfl)) (fun _ h9 => h9) rfl dX11_fault_1 ?_
  refine lv_aload_n hx hb dX11_fault_4 rfl (lv_at hl 0 rfl) ?_
  refine va_get (D := g.1) (ci := 12) (v := .ref h1) (C := RX11) (T := TX11) (N := 17) hx hb hts in9_X11_fault_1_RX11 hown hK hP 0 rfl rfl 0 (by decide) (hts (.fieldLink RX11 9 "Regexloom" "draft" "[C") (List.mem_of_getElem? (i := 2) rfl)) (fun _ h9 => h9) rfl dX11_fault_5 ?_
  refine lv_aload_n hx hb dX11_fault_8 rfl (lv_at hl 0 rfl) ?_
  refine va_get (D := g.1) (ci := 12) (v := .int 0) (C := RX11) (T := TX11) (N := 17) hx hb hts in9_X11_fault_1_RX11 hown hK hP 0 rfl rfl 1 (by decide) (hts (.fieldLink RX11 116 "Regexloom" "drafted" "I") (List.mem_of_getElem? (i := 3) rfl)) (fun _ h9 => h9) rfl dX11_fault_9 ?_
  refine lv_aload_n hx hb dX11_fault_12 rfl (lv_at hl 0 rfl) ?_
  refine va_get (D := g.1) (ci := 12) (v := .ref h4) (C := RX11) (T := TX11) (N := 17) hx hb hts in9_X11_fault_1_RX11 hown hK hP 0 rfl rfl 4 (by decide) (hts (.fieldLink RX11 27 "Regexloom" "spare" "LRegexloom$Pattern;") (List.mem_of_getElem? (i := 4) rfl)) (fun _ h9 => h9) rfl dX11_fault_13 ?_
  have hPc := hP.sub (ws' := [(h4, .inr (6, [.ref h14, .ref h15, .ref h16, .int 0, .int 0, .int 0, .int 0, .int 0])), (h14, .inr (10, [.int 10, .int 33, .ref h17, .int 0])), (h15, .inr (10, [.int 2, .int 33, .ref h18, .int 0])), (h18, .inl (g.2.1 0, 64, .inl f0)), (h16, .inr (10, [.int 1, .int 7, .ref h19, .int 0])), (h19, .inl (g.2.1 0, 7, .inl f1)), (h5, .inr (8, [.null, .int 0, .int 0, .int 0, .null, .int 0, .int 0]))]) [1, 2, 3, 4, 5, 6, 7] rfl
  have hDc := hD.sub (ws' := [(h4, .inr (6, [.ref h14, .ref h15, .ref h16, .int 0, .int 0, .int 0, .int 0, .int 0])), (h14, .inr (10, [.int 10, .int 33, .ref h17, .int 0])), (h15, .inr (10, [.int 2, .int 33, .ref h18, .int 0])), (h18, .inl (g.2.1 0, 64, .inl f0)), (h16, .inr (10, [.int 1, .int 7, .ref h19, .int 0])), (h19, .inl (g.2.1 0, 7, .inl f1)), (h5, .inr (8, [.null, .int 0, .int 0, .int 0, .null, .int 0, .int 0]))]) [1, 2, 3, 4, 5, 6, 7] (by decide) rfl
  have hFc := va_free (wc := [(h4, .inr (6, [.ref h14, .ref h15, .ref h16, .int 0, .int 0, .int 0, .int 0, .int 0])), (h14, .inr (10, [.int 10, .int 33, .ref h17, .int 0])), (h15, .inr (10, [.int 2, .int 33, .ref h18, .int 0])), (h18, .inl (g.2.1 0, 64, .inl f0)), (h16, .inr (10, [.int 1, .int 7, .ref h19, .int 0])), (h19, .inl (g.2.1 0, 7, .inl f1)), (h5, .inr (8, [.null, .int 0, .int 0, .int 0, .null, .int 0, .int 0]))]) hD hS hA [1, 2, 3, 4, 5, 6, 7] rfl
  refine va_calli (va_runV (As := [.ref h1, .int 0, .ref h4]) (rest := []) ⟨hx, hb, hml, hown, hts⟩ (c9_X5_read_1 l g h5 h1 h4 h14 h15 h16 h17 h18 h19 _ f0 f1) (cwV 3 hts g9_X11_fault_1_0 rfl rfl rfl (by decide +kernel) ⟨Nat.le_of_ble_eq_true rfl, Nat.le_of_ble_eq_true rfl⟩) (mPreV (g := g) (wc := [(h4, .inr (6, [.ref h14, .ref h15, .ref h16, .int 0, .int 0, .int 0, .int 0, .int 0])), (h14, .inr (10, [.int 10, .int 33, .ref h17, .int 0])), (h15, .inr (10, [.int 2, .int 33, .ref h18, .int 0])), (h18, .inl (g.2.1 0, 64, .inl f0)), (h16, .inr (10, [.int 1, .int 7, .ref h19, .int 0])), (h19, .inl (g.2.1 0, 7, .inl f1)), (h5, .inr (8, [.null, .int 0, .int 0, .int 0, .null, .int 0, .int 0]))]) (C := RX5) (ci := 8) (q0 := 6) hE hS hPc hDc hFc rfl rfl) rfl rfl hl.1 rfl (lv_room (Nat.le_of_ble_eq_true rfl)) dX11_fault_16 ⟨Nat.le_of_ble_eq_true rfl, Nat.le_of_ble_eq_true rfl⟩) hS (fun q _ h => hFc q h) hFc (fun r_1 u t H1 locs ht hvm hw hB hz1 hk1 hS => ?_)
  replace hw : (-1) = r_1 := Eq.symm hw
  subst hw
  obtain ⟨hP1, hD1⟩ := hB
  rw [ht] at hP1
  obtain ⟨hP, hD⟩ := va_join (wr := [(h0, .inr (12, [.ref h1, .int 0, .ref h2, .ref h3, .ref h4, .ref h5, .ref h6, .ref h7, .int (-1), .ref h8, .ref h9, .int 250, .ref h10, .int 0, .ref h11, .ref h12, .ref h13]))]) (w1 := [(h4, .inr (6, [.ref h14, .ref h15, .ref h16, .int 0, .int 0, .int 0, .int 0, .int 0])), (h14, .inr (10, [.int 10, .int 33, .ref h17, .int 0])), (h15, .inr (10, [.int 2, .int 33, .ref h18, .int 1])), (h18, .inl (g.2.1 0, 64, .inl (upd (upd f0 0 (-1)) 1 (-1)))), (h16, .inr (10, [.int 1, .int 7, .ref h19, .int 7])), (h19, .inl (g.2.1 0, 7, .inl (upd (upd (upd (upd (upd (upd (upd f1 0 (-1)) 1 (-1)) 2 (-1)) 3 (-1)) 4 (-1)) 5 (-1)) 6 (-1)))), (h5, .inr (8, [.ref h1, .int 0, .int 0, .int (-1), .ref h4, .int 0, .int 0]))]) hP hD [1, 2, 3, 4, 5, 6, 7] [0] rfl rfl (by decide) (by decide) hk1 hFc hP1 hD1
  clear hP1 hD1 hPc hDc hFc hk1 hz1 hvm ht
  generalize H1 = H at hP hS ⊢
  have hP : va_P g.1 vwCl [(h0, .inr (12, [.ref h1, .int 0, .ref h2, .ref h3, .ref h4, .ref h5, .ref h6, .ref h7, .int (-1), .ref h8, .ref h9, .int 250, .ref h10, .int 0, .ref h11, .ref h12, .ref h13])), (h4, .inr (6, [.ref h14, .ref h15, .ref h16, .int 0, .int 0, .int 0, .int 0, .int 0])), (h14, .inr (10, [.int 10, .int 33, .ref h17, .int 0])), (h15, .inr (10, [.int 2, .int 33, .ref h18, .int 1])), (h18, .inl (g.2.1 0, 64, .inl (upd (upd f0 0 (-1)) 1 (-1)))), (h16, .inr (10, [.int 1, .int 7, .ref h19, .int 7])), (h19, .inl (g.2.1 0, 7, .inl (upd (upd (upd (upd (upd (upd (upd f1 0 (-1)) 1 (-1)) 2 (-1)) 3 (-1)) 4 (-1)) 5 (-1)) 6 (-1)))), (h5, .inr (8, [.ref h1, .int 0, .int 0, .int (-1), .ref h4, .int 0, .int 0]))] H := hP
  have hD : va_D A [(h0, .inr (12, [.ref h1, .int 0, .ref h2, .ref h3, .ref h4, .ref h5, .ref h6, .ref h7, .int (-1), .ref h8, .ref h9, .int 250, .ref h10, .int 0, .ref h11, .ref h12, .ref h13])), (h4, .inr (6, [.ref h14, .ref h15, .ref h16, .int 0, .int 0, .int 0, .int 0, .int 0])), (h14, .inr (10, [.int 10, .int 33, .ref h17, .int 0])), (h15, .inr (10, [.int 2, .int 33, .ref h18, .int 1])), (h18, .inl (g.2.1 0, 64, .inl (upd (upd f0 0 (-1)) 1 (-1)))), (h16, .inr (10, [.int 1, .int 7, .ref h19, .int 7])), (h19, .inl (g.2.1 0, 7, .inl (upd (upd (upd (upd (upd (upd (upd f1 0 (-1)) 1 (-1)) 2 (-1)) 3 (-1)) 4 (-1)) 5 (-1)) 6 (-1)))), (h5, .inr (8, [.ref h1, .int 0, .int 0, .int (-1), .ref h4, .int 0, .int 0]))] := hD
  have hP9 := hP.sub (ws' := [(h0, .inr (12, [.ref h1, .int 0, .ref h2, .ref h3, .ref h4, .ref h5, .ref h6, .ref h7, .int (-1), .ref h8, .ref h9, .int 250, .ref h10, .int 0, .ref h11, .ref h12, .ref h13])), (h4, .inr (6, [.ref h14, .ref h15, .ref h16, .int 0, .int 0, .int 0, .int 0, .int 0])), (h14, .inr (10, [.int 10, .int 33, .ref h17, .int 0])), (h15, .inr (10, [.int 2, .int 33, .ref h18, .int 1])), (h18, .inl (g.2.1 0, 64, .inl (upd (upd f0 0 (-1)) 1 (-1)))), (h16, .inr (10, [.int 1, .int 7, .ref h19, .int 7])), (h19, .inl (g.2.1 0, 7, .inl (upd (upd (upd (upd (upd (upd (upd f1 0 (-1)) 1 (-1)) 2 (-1)) 3 (-1)) 4 (-1)) 5 (-1)) 6 (-1)))), (h5, .inr (8, [.ref h1, .int 0, .int 0, .int (-1), .ref h4, .int 0, .int 0]))]) [0, 1, 2, 3, 4, 5, 6, 7] rfl
  have hD9 := hD.sub (ws' := [(h0, .inr (12, [.ref h1, .int 0, .ref h2, .ref h3, .ref h4, .ref h5, .ref h6, .ref h7, .int (-1), .ref h8, .ref h9, .int 250, .ref h10, .int 0, .ref h11, .ref h12, .ref h13])), (h4, .inr (6, [.ref h14, .ref h15, .ref h16, .int 0, .int 0, .int 0, .int 0, .int 0])), (h14, .inr (10, [.int 10, .int 33, .ref h17, .int 0])), (h15, .inr (10, [.int 2, .int 33, .ref h18, .int 1])), (h18, .inl (g.2.1 0, 64, .inl (upd (upd f0 0 (-1)) 1 (-1)))), (h16, .inr (10, [.int 1, .int 7, .ref h19, .int 7])), (h19, .inl (g.2.1 0, 7, .inl (upd (upd (upd (upd (upd (upd (upd f1 0 (-1)) 1 (-1)) 2 (-1)) 3 (-1)) 4 (-1)) 5 (-1)) 6 (-1)))), (h5, .inr (8, [.ref h1, .int 0, .int 0, .int (-1), .ref h4, .int 0, .int 0]))]) [0, 1, 2, 3, 4, 5, 6, 7] (by decide) rfl
  subst hAe
  exact W.iret (v := (-1)) hx hb hr (fun t ht hW => ⟨⟨(-1), (), rfl, rfl, by rw [ht]; exact hP9, hD9⟩, hS.F ht⟩) hS.2.2 dX11_fault_19
def w9_X15_init_1 : List Cond := [.code yX15_init cX15_init 1 none, .methodLink RX15 3 objectInit, .instanceMethod objectInit, .code objectInit ⟨#[0xb1]⟩ 1 none, .classLink RX15 9 "RegexloomModel$Node", .fieldLink RX15 11 "RegexloomModel$Pattern" "byNumber" "[LRegexloomModel$Node;"] ++ (u_ws RX15 TX15 6)
set_option maxRecDepth 20000 in
theorem in9_X15_init_1_RX15 : ∀ w ∈ u_ws RX15 TX15 6, w ∈ w9_X15_init_1 := by decide +kernel
set_option maxHeartbeats 4000000 in
set_option maxRecDepth 100000 in
theorem c9_X15_init_1 (l : Launch) (g : G9) (h0 sz : Nat) : Met l yX15_init w9_X15_init_1 ({ frames := 1, cells := 1, slots := 7, locals := 12 }) (mP g [(h0, .inr (16, [.null, .int 0, .null, .int 0, .int 0, .null]))] sz [.ref h0]) (va_Qv (fun _ : Nat => True) (fun (q_1 : Nat) (t : State) => mB g [(h0, .inr (16, [.null, .int 0, .null, .int 0, .int 0, .null]))] sz [(h0, .inr (16, [.null, .int 0, .ref q_1, .int 0, .int 0, .null])), (q_1, .inl (g.2.1 5, 7, .inr (.inr (.inr (.inr (fun _ => none))))))] t) (va_A [(h0, .inr (16, [.null, .int 0, .null, .int 0, .int 0, .null]))] sz)) 1 7 (va_A [(h0, .inr (16, [.null, .int 0, .null, .int 0, .int 0, .null]))] sz) := by
  refine Met.ofW (cc := cX15_init) (maxL := 1) (ret := none) (by decide) rfl ?_
  intro p e s m args below meth c s₁ B hml hv
  obtain ⟨rfl, hsz, hP, hD0, hE⟩ := hv
  have hx := B.exec
  have hb := B.bytes
  have hr := B.returns
  have hts := atoms_spec (ws := w9_X15_init_1) B.pre
  have hown : s.vm.findClass RX15 = some m.cls := findClass_of_methodNamed B.named
  have hlocks := B.notSynchronized
  have hin : meth.name = "<init>" := (name_of_methodNamed B.named B.method).1
  subst hsz
  have hD := hD0.self (sz := s.heap.size)
  generalize hAe : va_A [(h0, .inr (16, [.null, .int 0, .null, .int 0, .int 0, .null]))] s.heap.size = A at hD hE ⊢
  have hA : ∀ q : Nat, s.heap.size ≤ q → A q := fun q h => by rw [← hAe]; exact Or.inr h
  have hK := hE.1
  have hS : va_S A s.heap s.heap [] := va_S.rf
  replace hP : va_P g.1 vwCl [(h0, .inr (16, [.null, .int 0, .null, .int 0, .int 0, .null]))] s.heap := hP
  have hl := lv_entry ([.ref h0]) (n := 1) (Nat.le_of_ble_eq_true rfl)
  rw [lg_entry_eq]
  generalize (lg_sl ([.ref h0]) ++ List.replicate (1 - (lg_sl ([.ref h0])).length) Slot.unset).toArray = ls at hl ⊢
  replace hl : lv_has ls 1 [(0, .ref h0)] := hl
  have hH0 : s.heap.size ≤ s.heap.size := Nat.le_refl _
  refine lv_aload_n hx hb dX15_init_0 rfl (lv_at hl 0 rfl) ?_
  refine W.objInit hx hb hown (hts (.methodLink RX15 3 objectInit) (List.mem_of_getElem? (i := 1) rfl)) (hts (.instanceMethod objectInit) (List.mem_of_getElem? (i := 2) rfl)) (hts (.code objectInit ⟨#[0xb1]⟩ 1 none) (List.mem_of_getElem? (i := 3) rfl)) rfl (by rw [hml]; exact hl.1) rfl dX15_init_1 (Nat.le_of_ble_eq_true rfl) (Nat.le_of_ble_eq_true rfl) ?_
  refine W.eq (g2 := F0 m 4 ls []) rfl ?_
  refine lv_aload_n hx hb dX15_init_4 rfl (lv_at hl 0 rfl) ?_
  refine lv_bipush (v := 7) hx hb dX15_init_5 (by decide) ?_
  refine e_newq (c0 := g.2.1 5) (C := "RegexloomModel$Node") hx hb hown (hts (.classLink RX15 9 "RegexloomModel$Node") (List.mem_of_getElem? (i := 4) rfl)) (hE.ao "RegexloomModel$Node" (by decide)) hK 5 rfl hP hD hS hA 7 (by decide) (by decide) (Nat.le_of_ble_eq_true rfl) (Nat.le_of_ble_eq_true rfl) (Nat.le_of_ble_eq_true rfl) dX15_init_7 (fun q_1 H hP hD hS => ?_)
  have hP : va_P g.1 vwCl [(h0, .inr (16, [.null, .int 0, .null, .int 0, .int 0, .null])), (q_1, .inl (g.2.1 5, 7, .inr (.inr (.inr (.inr (fun _ => none))))))] H := hP
  have hD : va_D A [(h0, .inr (16, [.null, .int 0, .null, .int 0, .int 0, .null])), (q_1, .inl (g.2.1 5, 7, .inr (.inr (.inr (.inr (fun _ => none))))))] := hD
  refine va_putF (D := g.1) (ci := 16) (v := .ref q_1) (ty := (.array (.object "RegexloomModel$Node"))) (C := RX15) (T := TX15) (N := 6) hx hb hts in9_X15_init_1_RX15 tyX15 tyX15_ok nmX15 hown hK hP hD hS 0 rfl rfl 2 (by decide) (hts (.fieldLink RX15 11 "RegexloomModel$Pattern" "byNumber" "[LRegexloomModel$Node;") (List.mem_of_getElem? (i := 5) rfl)) (fun _ h9 => h9) rfl hin rfl (by decide +kernel) rfl rfl (Nat.le_of_ble_eq_true rfl) dX15_init_10 (fun H locs hP hD hS => ?_)
  have hP : va_P g.1 vwCl [(h0, .inr (16, [.null, .int 0, .ref q_1, .int 0, .int 0, .null])), (q_1, .inl (g.2.1 5, 7, .inr (.inr (.inr (.inr (fun _ => none))))))] H := hP
  have hD : va_D A [(h0, .inr (16, [.null, .int 0, .ref q_1, .int 0, .int 0, .null])), (q_1, .inl (g.2.1 5, 7, .inr (.inr (.inr (.inr (fun _ => none))))))] := hD
  have hP9 := hP.sub (ws' := [(h0, .inr (16, [.null, .int 0, .ref q_1, .int 0, .int 0, .null])), (q_1, .inl (g.2.1 5, 7, .inr (.inr (.inr (.inr (fun _ => none))))))]) [0, 1] rfl
  have hD9 := hD.sub (ws' := [(h0, .inr (16, [.null, .int 0, .ref q_1, .int 0, .int 0, .null])), (q_1, .inl (g.2.1 5, 7, .inr (.inr (.inr (.inr (fun _ => none))))))]) [0, 1] (by decide) rfl
  subst hAe
  exact W.vret hx hb hr (fun t ht hW => ⟨⟨q_1, rfl, trivial, by rw [ht]; exact hP9, hD9⟩, hS.F ht⟩) hS.2.2 dX15_init_13
def w9_X16_init_1 : List Cond := [.code yX16_init cX16_init 3 none, .methodLink RX16 3 objectInit, .instanceMethod objectInit, .code objectInit ⟨#[0xb1]⟩ 1 none, .classLink RX16 9 RX15, .instantiable RX15 6, .initialized RX15, .code yX15_init cX15_init 1 none, .methodLink RX15 3 objectInit, .classLink RX15 9 "RegexloomModel$Node", .fieldLink RX15 11 "RegexloomModel$Pattern" "byNumber" "[LRegexloomModel$Node;", .instanceMethod yX15_init, .fieldLink RX16 12 "RegexloomModel$Reader" "made" "LRegexloomModel$Pattern;", .fieldLink RX16 18 "RegexloomModel$Reader" "draft" "[I", .fieldLink RX16 22 "RegexloomModel$Reader" "size" "I"] ++ (u_ws RX15 TX15 6 ++ u_ws RX16 TX16 8)
set_option maxRecDepth 20000 in
theorem in9_X16_init_1_RX15 : ∀ w ∈ u_ws RX15 TX15 6, w ∈ w9_X16_init_1 := by decide +kernel
set_option maxRecDepth 20000 in
theorem in9_X16_init_1_RX16 : ∀ w ∈ u_ws RX16 TX16 8, w ∈ w9_X16_init_1 := by decide +kernel
set_option maxRecDepth 20000 in
theorem g9_X16_init_1_0 : GoodIn w9_X16_init_1 (w9_X15_init_1) := goodIn_r _ [7, 8, 2, 3, 9, 10, 15, 16, 17, 18, 19, 20] (by decide +kernel) (by decide +kernel)
set_option maxHeartbeats 4000000 in
set_option maxRecDepth 100000 in
theorem c9_X16_init_1 (l : Launch) (g : G9) (h0 h1 sz : Nat) : Met l yX16_init w9_X16_init_1 ({ frames := 2, cells := 2, slots := 13, locals := 32 }) (mP g [(h0, .inr (17, [.null, .int 0, .int 0, .int 0, .int 0, .int 0, .int 0, .null]))] sz [.ref h0, .ref h1, .int 0]) (va_Qv (fun _ : Nat × Nat => True) (fun (u : Nat × Nat) (t : State) => match u with | (q_1, q_2) => mB g [(h0, .inr (17, [.null, .int 0, .int 0, .int 0, .int 0, .int 0, .int 0, .null]))] sz [(h0, .inr (17, [.ref h1, .int 0, .int 0, .int 0, .int 0, .int 0, .int 0, .ref q_1])), (q_1, .inr (16, [.null, .int 0, .ref q_2, .int 0, .int 0, .null])), (q_2, .inl (g.2.1 5, 7, .inr (.inr (.inr (.inr (fun _ => none))))))] t) (va_A [(h0, .inr (17, [.null, .int 0, .int 0, .int 0, .int 0, .int 0, .int 0, .null]))] sz)) 2 13 (va_A [(h0, .inr (17, [.null, .int 0, .int 0, .int 0, .int 0, .int 0, .int 0, .null]))] sz) := by
  refine Met.ofW (cc := cX16_init) (maxL := 3) (ret := none) (by decide) rfl ?_
  intro p e s m args below meth c s₁ B hml hv
  obtain ⟨rfl, hsz, hP, hD0, hE⟩ := hv
  have hx := B.exec
  have hb := B.bytes
  have hr := B.returns
  have hts := atoms_spec (ws := w9_X16_init_1) B.pre
  have hown : s.vm.findClass RX16 = some m.cls := findClass_of_methodNamed B.named
  have hlocks := B.notSynchronized
  have hin : meth.name = "<init>" := (name_of_methodNamed B.named B.method).1
  subst hsz
  have hD := hD0.self (sz := s.heap.size)
  generalize hAe : va_A [(h0, .inr (17, [.null, .int 0, .int 0, .int 0, .int 0, .int 0, .int 0, .null]))] s.heap.size = A at hD hE ⊢
  have hA : ∀ q : Nat, s.heap.size ≤ q → A q := fun q h => by rw [← hAe]; exact Or.inr h
  have hK := hE.1
  have hS : va_S A s.heap s.heap [] := va_S.rf
  replace hP : va_P g.1 vwCl [(h0, .inr (17, [.null, .int 0, .int 0, .int 0, .int 0, .int 0, .int 0, .null]))] s.heap := hP
  have hl := lv_entry ([.ref h0, .ref h1, .int 0]) (n := 3) (Nat.le_of_ble_eq_true rfl)
  rw [lg_entry_eq]
  generalize (lg_sl ([.ref h0, .ref h1, .int 0]) ++ List.replicate (3 - (lg_sl ([.ref h0, .ref h1, .int 0])).length) Slot.unset).toArray = ls at hl ⊢
  replace hl : lv_has ls 3 [(0, .ref h0), (1, .ref h1), (2, .int 0)] := hl
  have hH0 : s.heap.size ≤ s.heap.size := Nat.le_refl _
  refine lv_aload_n hx hb dX16_init_0 rfl (lv_at hl 0 rfl) ?_
  refine W.objInit hx hb hown (hts (.methodLink RX16 3 objectInit) (List.mem_of_getElem? (i := 1) rfl)) (hts (.instanceMethod objectInit) (List.mem_of_getElem? (i := 2) rfl)) (hts (.code objectInit ⟨#[0xb1]⟩ 1 none) (List.mem_of_getElem? (i := 3) rfl)) rfl (by rw [hml]; exact hl.1) rfl dX16_init_1 (Nat.le_of_ble_eq_true rfl) (Nat.le_of_ble_eq_true rfl) ?_
  refine W.eq (g2 := F0 m 4 ls []) rfl ?_
  refine lv_aload_n hx hb dX16_init_4 rfl (lv_at hl 0 rfl) ?_
  refine va_new (ci := 16) (fs := [.null, .int 0, .null, .int 0, .int 0, .null]) (C := RX15) (T := TX15) (N := 6) hx hb hts in9_X16_init_1_RX15 tyX15 tyX15_ok hown (hts (.classLink RX16 9 RX15) (List.mem_of_getElem? (i := 4) rfl)) (hts (.instantiable RX15 6) (List.mem_of_getElem? (i := 5) rfl)) (hts (.initialized RX15) (List.mem_of_getElem? (i := 6) rfl)) hK hP hD hS hA rfl (fun j hj => by rcases (show j = 0 ∨ j = 1 ∨ j = 2 ∨ j = 3 ∨ j = 4 ∨ j = 5 by omega) with rfl | rfl | rfl | rfl | rfl | rfl <;> rfl) (Nat.le_of_ble_eq_true rfl) (Nat.le_of_ble_eq_true rfl) dX16_init_5 (fun q_1 H hP hD hS => ?_)
  have hP : va_P g.1 vwCl [(h0, .inr (17, [.null, .int 0, .int 0, .int 0, .int 0, .int 0, .int 0, .null])), (q_1, .inr (16, [.null, .int 0, .null, .int 0, .int 0, .null]))] H := hP
  have hD : va_D A [(h0, .inr (17, [.null, .int 0, .int 0, .int 0, .int 0, .int 0, .int 0, .null])), (q_1, .inr (16, [.null, .int 0, .null, .int 0, .int 0, .null]))] := hD
  refine lv_dup hx hb dX16_init_8 rfl ?_
  have hPc := hP.sub (ws' := [(q_1, .inr (16, [.null, .int 0, .null, .int 0, .int 0, .null]))]) [1] rfl
  have hDc := hD.sub (ws' := [(q_1, .inr (16, [.null, .int 0, .null, .int 0, .int 0, .null]))]) [1] (by decide) rfl
  have hFc := va_free (wc := [(q_1, .inr (16, [.null, .int 0, .null, .int 0, .int 0, .null]))]) hD hS hA [1] rfl
  refine va_callv (va_runIN (As := []) (rest := [.ref q_1, .ref h0]) ⟨hx, hb, hml, hown, hts⟩ (c9_X15_init_1 l g q_1 _) ⟨va_cnB 0 hts g9_X16_init_1_0 rfl rfl rfl hE.nm (hts (.initialized RX15) (List.mem_of_getElem? (i := 6) rfl)) (by decide +kernel) ⟨Nat.le_of_ble_eq_true rfl, Nat.le_of_ble_eq_true rfl⟩, rfl, (hts (.instanceMethod yX15_init) (List.mem_of_getElem? (i := 11) rfl))⟩ (mPreS (g := g) (wc := [(q_1, .inr (16, [.null, .int 0, .null, .int 0, .int 0, .null]))]) hE hS hPc hDc hFc) rfl rfl hl.1 rfl (lv_room (Nat.le_of_ble_eq_true rfl)) dX16_init_9 ⟨Nat.le_of_ble_eq_true rfl, Nat.le_of_ble_eq_true rfl⟩) hS (fun q _ h => hFc q h) hFc (fun u t H1 locs ht hvm hw hB hz1 hk1 hS => ?_)
  obtain ⟨q_2, rfl⟩ : ∃ z, z = u := ⟨_, rfl⟩
  obtain ⟨hP1, hD1⟩ := hB
  rw [ht] at hP1
  obtain ⟨hP, hD⟩ := va_join (wr := [(h0, .inr (17, [.null, .int 0, .int 0, .int 0, .int 0, .int 0, .int 0, .null]))]) (w1 := [(q_1, .inr (16, [.null, .int 0, .ref q_2, .int 0, .int 0, .null])), (q_2, .inl (g.2.1 5, 7, .inr (.inr (.inr (.inr (fun _ => none))))))]) hP hD [1] [0] rfl rfl (by decide) (by decide) hk1 hFc hP1 hD1
  clear hP1 hD1 hPc hDc hFc hk1 hz1 hvm ht
  generalize H1 = H at hP hS ⊢
  have hP : va_P g.1 vwCl [(h0, .inr (17, [.null, .int 0, .int 0, .int 0, .int 0, .int 0, .int 0, .null])), (q_1, .inr (16, [.null, .int 0, .ref q_2, .int 0, .int 0, .null])), (q_2, .inl (g.2.1 5, 7, .inr (.inr (.inr (.inr (fun _ => none))))))] H := hP
  have hD : va_D A [(h0, .inr (17, [.null, .int 0, .int 0, .int 0, .int 0, .int 0, .int 0, .null])), (q_1, .inr (16, [.null, .int 0, .ref q_2, .int 0, .int 0, .null])), (q_2, .inl (g.2.1 5, 7, .inr (.inr (.inr (.inr (fun _ => none))))))] := hD
  refine va_putF (D := g.1) (ci := 17) (v := .ref q_1) (ty := (.object "RegexloomModel$Pattern")) (C := RX16) (T := TX16) (N := 8) hx hb hts in9_X16_init_1_RX16 tyX16 tyX16_ok nmX16 hown hK hP hD hS 0 rfl rfl 7 (by decide) (hts (.fieldLink RX16 12 "RegexloomModel$Reader" "made" "LRegexloomModel$Pattern;") (List.mem_of_getElem? (i := 12) rfl)) (fun _ h9 => h9) rfl hin rfl (by decide +kernel) rfl rfl (Nat.le_of_ble_eq_true rfl) dX16_init_12 (fun H locs hP hD hS => ?_)
  have hP : va_P g.1 vwCl [(h0, .inr (17, [.null, .int 0, .int 0, .int 0, .int 0, .int 0, .int 0, .ref q_1])), (q_1, .inr (16, [.null, .int 0, .ref q_2, .int 0, .int 0, .null])), (q_2, .inl (g.2.1 5, 7, .inr (.inr (.inr (.inr (fun _ => none))))))] H := hP
  have hD : va_D A [(h0, .inr (17, [.null, .int 0, .int 0, .int 0, .int 0, .int 0, .int 0, .ref q_1])), (q_1, .inr (16, [.null, .int 0, .ref q_2, .int 0, .int 0, .null])), (q_2, .inl (g.2.1 5, 7, .inr (.inr (.inr (.inr (fun _ => none))))))] := hD
  refine lv_aload_n hx hb dX16_init_15 rfl (lv_at hl 0 rfl) ?_
  refine lv_aload_n hx hb dX16_init_16 rfl (lv_at hl 1 rfl) ?_
  refine va_putF (D := g.1) (ci := 17) (v := .ref h1) (ty := (.array .int)) (C := RX16) (T := TX16) (N := 8) hx hb hts in9_X16_init_1_RX16 tyX16 tyX16_ok nmX16 hown hK hP hD hS 0 rfl rfl 0 (by decide) (hts (.fieldLink RX16 18 "RegexloomModel$Reader" "draft" "[I") (List.mem_of_getElem? (i := 13) rfl)) (fun _ h9 => h9) rfl hin rfl (by decide +kernel) rfl rfl (Nat.le_of_ble_eq_true rfl) dX16_init_17 (fun H locs hP hD hS => ?_)
  have hP : va_P g.1 vwCl [(h0, .inr (17, [.ref h1, .int 0, .int 0, .int 0, .int 0, .int 0, .int 0, .ref q_1])), (q_1, .inr (16, [.null, .int 0, .ref q_2, .int 0, .int 0, .null])), (q_2, .inl (g.2.1 5, 7, .inr (.inr (.inr (.inr (fun _ => none))))))] H := hP
  have hD : va_D A [(h0, .inr (17, [.ref h1, .int 0, .int 0, .int 0, .int 0, .int 0, .int 0, .ref q_1])), (q_1, .inr (16, [.null, .int 0, .ref q_2, .int 0, .int 0, .null])), (q_2, .inl (g.2.1 5, 7, .inr (.inr (.inr (.inr (fun _ => none))))))] := hD
  refine lv_aload_n hx hb dX16_init_20 rfl (lv_at hl 0 rfl) ?_
  refine lv_iload_n hx hb dX16_init_21 rfl (lv_at hl 2 rfl) ?_
  refine va_putF (D := g.1) (ci := 17) (v := .int 0) (ty := .int) (C := RX16) (T := TX16) (N := 8) hx hb hts in9_X16_init_1_RX16 tyX16 tyX16_ok nmX16 hown hK hP hD hS 0 rfl rfl 1 (by decide) (hts (.fieldLink RX16 22 "RegexloomModel$Reader" "size" "I") (List.mem_of_getElem? (i := 14) rfl)) (fun _ h9 => h9) rfl hin rfl (by decide +kernel) rfl rfl (Nat.le_of_ble_eq_true rfl) dX16_init_22 (fun H locs hP hD hS => ?_)
  have hP : va_P g.1 vwCl [(h0, .inr (17, [.ref h1, .int 0, .int 0, .int 0, .int 0, .int 0, .int 0, .ref q_1])), (q_1, .inr (16, [.null, .int 0, .ref q_2, .int 0, .int 0, .null])), (q_2, .inl (g.2.1 5, 7, .inr (.inr (.inr (.inr (fun _ => none))))))] H := hP
  have hD : va_D A [(h0, .inr (17, [.ref h1, .int 0, .int 0, .int 0, .int 0, .int 0, .int 0, .ref q_1])), (q_1, .inr (16, [.null, .int 0, .ref q_2, .int 0, .int 0, .null])), (q_2, .inl (g.2.1 5, 7, .inr (.inr (.inr (.inr (fun _ => none))))))] := hD
  have hP9 := hP.sub (ws' := [(h0, .inr (17, [.ref h1, .int 0, .int 0, .int 0, .int 0, .int 0, .int 0, .ref q_1])), (q_1, .inr (16, [.null, .int 0, .ref q_2, .int 0, .int 0, .null])), (q_2, .inl (g.2.1 5, 7, .inr (.inr (.inr (.inr (fun _ => none))))))]) [0, 1, 2] rfl
  have hD9 := hD.sub (ws' := [(h0, .inr (17, [.ref h1, .int 0, .int 0, .int 0, .int 0, .int 0, .int 0, .ref q_1])), (q_1, .inr (16, [.null, .int 0, .ref q_2, .int 0, .int 0, .null])), (q_2, .inl (g.2.1 5, 7, .inr (.inr (.inr (.inr (fun _ => none))))))]) [0, 1, 2] (by decide) rfl
  subst hAe
  exact W.vret hx hb hr (fun t ht hW => ⟨⟨(q_1, q_2), rfl, trivial, by rw [ht]; exact hP9, hD9⟩, hS.F ht⟩) hS.2.2 dX16_init_25
def w9_X14_init_1 : List Cond := [.code yX14_init cX14_init 2 none, .methodLink RX14 3 objectInit, .instanceMethod objectInit, .code objectInit ⟨#[0xb1]⟩ 1 none, .classLink RX14 9 RJx4a65c, .instantiable RJx4a65c 3, .initialized RJx4a65c, .code yJx4a65c_init_da8c8 cJx4a65c_init_da8c8 1 none, .code yJxc12de_init_da8c8 cJxc12de_init_da8c8 1 none, .code yJxa1e45_init_da8c8 cJxa1e45_init_da8c8 1 none, .methodLink RJxa1e45 1 objectInit, .initialized RJxa1e45, .methodLink RJxc12de 1 yJxa1e45_init_da8c8, .instanceMethod yJxa1e45_init_da8c8, .fieldLink RJxc12de 7 "java/util/AbstractList" "modCount" "I", .initialized RJxc12de, .methodLink RJx4a65c 1 yJxc12de_init_da8c8, .instanceMethod yJxc12de_init_da8c8, .fieldLink RJx4a65c 39 "java/util/ArrayList" "DEFAULTCAPACITY_EMPTY_ELEMENTDATA" "[Ljava/lang/Object;", .fieldLink RJx4a65c 9 "java/util/ArrayList" "elementData" "[Ljava/lang/Object;", .methodLink RX14 11 yJx4a65c_init_da8c8, .instanceMethod yJx4a65c_init_da8c8, .fieldLink RX14 12 "RegexloomModel$Node" "branches" "Ljava/util/ArrayList;", .fieldLink RX14 18 "RegexloomModel$Node" "kind" "I"] ++ (u_ws RJx4a65c TJx4a65c 3 ++ u_ws RX14 TX14 9)
set_option maxRecDepth 20000 in
theorem in9_X14_init_1_RJx4a65c : ∀ w ∈ u_ws RJx4a65c TJx4a65c 3, w ∈ w9_X14_init_1 := by decide +kernel
set_option maxRecDepth 20000 in
theorem in9_X14_init_1_RX14 : ∀ w ∈ u_ws RX14 TX14 9, w ∈ w9_X14_init_1 := by decide +kernel
set_option maxRecDepth 20000 in
theorem g9_X14_init_1_0 : GoodIn w9_X14_init_1 (w9_Jx4a65c_init_da8c8_1) := goodIn_r _ [7, 8, 9, 10, 2, 3, 11, 12, 13, 14, 15, 16, 17, 18, 19, 24, 25, 26] (by decide +kernel) (by decide +kernel)
set_option maxHeartbeats 4000000 in
set_option maxRecDepth 100000 in
theorem c9_X14_init_1 (l : Launch) (g : G9) (h0 sz : Nat) : Met l yX14_init w9_X14_init_1 ({ frames := 4, cells := 1, slots := 3, locals := 72 }) (mP g [(h0, .inr (15, [.int 0, .long 0, .int 0, .int 0, .null, .null, .int 0, .int 0, .int 0]))] sz [.ref h0, .int 6]) (va_Qv (fun _ : Nat => True) (fun (q_1 : Nat) (t : State) => mB g [(h0, .inr (15, [.int 0, .long 0, .int 0, .int 0, .null, .null, .int 0, .int 0, .int 0]))] sz [(h0, .inr (15, [.int 6, .long 0, .int 0, .int 0, .ref q_1, .null, .int 0, .int 0, .int 0])), (q_1, .inr (2, [.int 0, .ref (g.2.2 0), .int 0]))] t) (va_A [(h0, .inr (15, [.int 0, .long 0, .int 0, .int 0, .null, .null, .int 0, .int 0, .int 0]))] sz)) 1 3 (va_A [(h0, .inr (15, [.int 0, .long 0, .int 0, .int 0, .null, .null, .int 0, .int 0, .int 0]))] sz) := by
  refine Met.ofW (cc := cX14_init) (maxL := 2) (ret := none) (by decide) rfl ?_
  intro p e s m args below meth c s₁ B hml hv
  obtain ⟨rfl, hsz, hP, hD0, hE⟩ := hv
  have hx := B.exec
  have hb := B.bytes
  have hr := B.returns
  have hts := atoms_spec (ws := w9_X14_init_1) B.pre
  have hown : s.vm.findClass RX14 = some m.cls := findClass_of_methodNamed B.named
  have hlocks := B.notSynchronized
  have hin : meth.name = "<init>" := (name_of_methodNamed B.named B.method).1
  subst hsz
  have hD := hD0.self (sz := s.heap.size)
  generalize hAe : va_A [(h0, .inr (15, [.int 0, .long 0, .int 0, .int 0, .null, .null, .int 0, .int 0, .int 0]))] s.heap.size = A at hD hE ⊢
  have hA : ∀ q : Nat, s.heap.size ≤ q → A q := fun q h => by rw [← hAe]; exact Or.inr h
  have hK := hE.1
  have hS : va_S A s.heap s.heap [] := va_S.rf
  replace hP : va_P g.1 vwCl [(h0, .inr (15, [.int 0, .long 0, .int 0, .int 0, .null, .null, .int 0, .int 0, .int 0]))] s.heap := hP
  have hl := lv_entry ([.ref h0, .int 6]) (n := 2) (Nat.le_of_ble_eq_true rfl)
  rw [lg_entry_eq]
  generalize (lg_sl ([.ref h0, .int 6]) ++ List.replicate (2 - (lg_sl ([.ref h0, .int 6])).length) Slot.unset).toArray = ls at hl ⊢
  replace hl : lv_has ls 2 [(0, .ref h0), (1, .int 6)] := hl
  have hH0 : s.heap.size ≤ s.heap.size := Nat.le_refl _
  refine lv_aload_n hx hb dX14_init_0 rfl (lv_at hl 0 rfl) ?_
  refine W.objInit hx hb hown (hts (.methodLink RX14 3 objectInit) (List.mem_of_getElem? (i := 1) rfl)) (hts (.instanceMethod objectInit) (List.mem_of_getElem? (i := 2) rfl)) (hts (.code objectInit ⟨#[0xb1]⟩ 1 none) (List.mem_of_getElem? (i := 3) rfl)) rfl (by rw [hml]; exact hl.1) rfl dX14_init_1 (Nat.le_of_ble_eq_true rfl) (Nat.le_of_ble_eq_true rfl) ?_
  refine W.eq (g2 := F0 m 4 ls []) rfl ?_
  refine lv_aload_n hx hb dX14_init_4 rfl (lv_at hl 0 rfl) ?_
  refine va_new (ci := 2) (fs := [.int 0, .null, .int 0]) (C := RJx4a65c) (T := TJx4a65c) (N := 3) hx hb hts in9_X14_init_1_RJx4a65c tyJx4a65c tyJx4a65c_ok hown (hts (.classLink RX14 9 RJx4a65c) (List.mem_of_getElem? (i := 4) rfl)) (hts (.instantiable RJx4a65c 3) (List.mem_of_getElem? (i := 5) rfl)) (hts (.initialized RJx4a65c) (List.mem_of_getElem? (i := 6) rfl)) hK hP hD hS hA rfl (fun j hj => by rcases (show j = 0 ∨ j = 1 ∨ j = 2 by omega) with rfl | rfl | rfl <;> rfl) (Nat.le_of_ble_eq_true rfl) (Nat.le_of_ble_eq_true rfl) dX14_init_5 (fun q_1 H hP hD hS => ?_)
  have hP : va_P g.1 vwCl [(h0, .inr (15, [.int 0, .long 0, .int 0, .int 0, .null, .null, .int 0, .int 0, .int 0])), (q_1, .inr (2, [.int 0, .null, .int 0]))] H := hP
  have hD : va_D A [(h0, .inr (15, [.int 0, .long 0, .int 0, .int 0, .null, .null, .int 0, .int 0, .int 0])), (q_1, .inr (2, [.int 0, .null, .int 0]))] := hD
  refine lv_dup hx hb dX14_init_8 rfl ?_
  have hPc := hP.sub (ws' := [(q_1, .inr (2, [.int 0, .null, .int 0]))]) [1] rfl
  have hDc := hD.sub (ws' := [(q_1, .inr (2, [.int 0, .null, .int 0]))]) [1] (by decide) rfl
  have hFc := va_free (wc := [(q_1, .inr (2, [.int 0, .null, .int 0]))]) hD hS hA [1] rfl
  refine va_callv (va_runI (As := []) (rest := [.ref q_1, .ref h0]) ⟨hx, hb, hml, hown, hts⟩ (c9_Jx4a65c_init_da8c8_1 l g q_1 _) (cwI 0 hts g9_X14_init_1_0 rfl rfl rfl (hts (.initialized RJx4a65c) (List.mem_of_getElem? (i := 6) rfl)) (hts (.methodLink RX14 11 yJx4a65c_init_da8c8) (List.mem_of_getElem? (i := 20) rfl)) (hts (.instanceMethod yJx4a65c_init_da8c8) (List.mem_of_getElem? (i := 21) rfl)) rfl (by decide +kernel) ⟨Nat.le_of_ble_eq_true rfl, Nat.le_of_ble_eq_true rfl⟩) (mPreS (g := g) (wc := [(q_1, .inr (2, [.int 0, .null, .int 0]))]) hE hS hPc hDc hFc) rfl rfl hl.1 rfl (lv_room (Nat.le_of_ble_eq_true rfl)) dX14_init_9 ⟨Nat.le_of_ble_eq_true rfl, Nat.le_of_ble_eq_true rfl⟩) hS (fun q _ h => hFc q h) hFc (fun u t H1 locs ht hvm hw hB hz1 hk1 hS => ?_)
  obtain ⟨hP1, hD1⟩ := hB
  rw [ht] at hP1
  obtain ⟨hP, hD⟩ := va_join (wr := [(h0, .inr (15, [.int 0, .long 0, .int 0, .int 0, .null, .null, .int 0, .int 0, .int 0]))]) (w1 := [(q_1, .inr (2, [.int 0, .ref (g.2.2 0), .int 0]))]) hP hD [1] [0] rfl rfl (by decide) (by decide) hk1 hFc hP1 hD1
  clear hP1 hD1 hPc hDc hFc hk1 hz1 hvm ht
  generalize H1 = H at hP hS ⊢
  have hP : va_P g.1 vwCl [(h0, .inr (15, [.int 0, .long 0, .int 0, .int 0, .null, .null, .int 0, .int 0, .int 0])), (q_1, .inr (2, [.int 0, .ref (g.2.2 0), .int 0]))] H := hP
  have hD : va_D A [(h0, .inr (15, [.int 0, .long 0, .int 0, .int 0, .null, .null, .int 0, .int 0, .int 0])), (q_1, .inr (2, [.int 0, .ref (g.2.2 0), .int 0]))] := hD
  refine va_putF (D := g.1) (ci := 15) (v := .ref q_1) (ty := (.object "java/util/ArrayList")) (C := RX14) (T := TX14) (N := 9) hx hb hts in9_X14_init_1_RX14 tyX14 tyX14_ok nmX14 hown hK hP hD hS 0 rfl rfl 4 (by decide) (hts (.fieldLink RX14 12 "RegexloomModel$Node" "branches" "Ljava/util/ArrayList;") (List.mem_of_getElem? (i := 22) rfl)) (fun _ h9 => h9) rfl hin rfl (by decide +kernel) rfl rfl (Nat.le_of_ble_eq_true rfl) dX14_init_12 (fun H locs hP hD hS => ?_)
  have hP : va_P g.1 vwCl [(h0, .inr (15, [.int 0, .long 0, .int 0, .int 0, .ref q_1, .null, .int 0, .int 0, .int 0])), (q_1, .inr (2, [.int 0, .ref (g.2.2 0), .int 0]))] H := hP
  have hD : va_D A [(h0, .inr (15, [.int 0, .long 0, .int 0, .int 0, .ref q_1, .null, .int 0, .int 0, .int 0])), (q_1, .inr (2, [.int 0, .ref (g.2.2 0), .int 0]))] := hD
  refine lv_aload_n hx hb dX14_init_15 rfl (lv_at hl 0 rfl) ?_
  refine lv_iload_n hx hb dX14_init_16 rfl (lv_at hl 1 rfl) ?_
  refine va_putF (D := g.1) (ci := 15) (v := .int 6) (ty := .int) (C := RX14) (T := TX14) (N := 9) hx hb hts in9_X14_init_1_RX14 tyX14 tyX14_ok nmX14 hown hK hP hD hS 0 rfl rfl 0 (by decide) (hts (.fieldLink RX14 18 "RegexloomModel$Node" "kind" "I") (List.mem_of_getElem? (i := 23) rfl)) (fun _ h9 => h9) rfl hin rfl (by decide +kernel) rfl rfl (Nat.le_of_ble_eq_true rfl) dX14_init_17 (fun H locs hP hD hS => ?_)
  have hP : va_P g.1 vwCl [(h0, .inr (15, [.int 6, .long 0, .int 0, .int 0, .ref q_1, .null, .int 0, .int 0, .int 0])), (q_1, .inr (2, [.int 0, .ref (g.2.2 0), .int 0]))] H := hP
  have hD : va_D A [(h0, .inr (15, [.int 6, .long 0, .int 0, .int 0, .ref q_1, .null, .int 0, .int 0, .int 0])), (q_1, .inr (2, [.int 0, .ref (g.2.2 0), .int 0]))] := hD
  have hP9 := hP.sub (ws' := [(h0, .inr (15, [.int 6, .long 0, .int 0, .int 0, .ref q_1, .null, .int 0, .int 0, .int 0])), (q_1, .inr (2, [.int 0, .ref (g.2.2 0), .int 0]))]) [0, 1] rfl
  have hD9 := hD.sub (ws' := [(h0, .inr (15, [.int 6, .long 0, .int 0, .int 0, .ref q_1, .null, .int 0, .int 0, .int 0])), (q_1, .inr (2, [.int 0, .ref (g.2.2 0), .int 0]))]) [0, 1] (by decide) rfl
  subst hAe
  exact W.vret hx hb hr (fun t ht hW => ⟨⟨q_1, rfl, trivial, by rw [ht]; exact hP9, hD9⟩, hS.F ht⟩) hS.2.2 dX14_init_20
def w9_Jx4a65c_grow_92f84_1 : List Cond := [.code yJx4a65c_grow_92f84 cJx4a65c_grow_92f84 4 (some (.array (.object "java/lang/Object"))), .fieldLink RJx4a65c 9 "java/util/ArrayList" "elementData" "[Ljava/lang/Object;", .fieldLink RJx4a65c 39 "java/util/ArrayList" "DEFAULTCAPACITY_EMPTY_ELEMENTDATA" "[Ljava/lang/Object;", .methodLink RJx4a65c 79 Lib.Math.max.name, .static Lib.Math.max.name, .initialized "java/lang/Math", .code Lib.Math.max.name Lib.Math.max.code 2 (some .int), .classLink RJx4a65c 7 "java/lang/Object"] ++ (u_ws RJx4a65c TJx4a65c 3)
set_option maxRecDepth 20000 in
theorem in9_Jx4a65c_grow_92f84_1_RJx4a65c : ∀ w ∈ u_ws RJx4a65c TJx4a65c 3, w ∈ w9_Jx4a65c_grow_92f84_1 := by decide +kernel
set_option maxHeartbeats 4000000 in
set_option maxRecDepth 100000 in
theorem c9_Jx4a65c_grow_92f84_1 (l : Launch) (g : G9) (h0 sz : Nat) : Met l yJx4a65c_grow_92f84 w9_Jx4a65c_grow_92f84_1 ({ frames := 1, cells := 1, slots := 10, locals := 17 }) (mP g [(h0, .inr (2, [.int 1, .ref (g.2.2 0), .int 0]))] sz [.ref h0, .int 1]) (va_Qr (fun _ : Nat => True) (fun (q_1 : Nat) (ra : Nat) (t : State) => ra = q_1 ∧ mB g [(h0, .inr (2, [.int 1, .ref (g.2.2 0), .int 0]))] sz [(h0, .inr (2, [.int 1, .ref q_1, .int 0])), (q_1, .inl (g.2.1 6, 10, .inr (.inr (.inr (.inr (fun _ => none))))))] t) (va_A [(h0, .inr (2, [.int 1, .ref (g.2.2 0), .int 0]))] sz)) 1 10 (va_A [(h0, .inr (2, [.int 1, .ref (g.2.2 0), .int 0]))] sz) := by
  refine Met.ofW (cc := cJx4a65c_grow_92f84) (maxL := 4) (ret := (some (.array (.object "java/lang/Object")))) (by decide) rfl ?_
  intro p e s m args below meth c s₁ B hml hv
  obtain ⟨rfl, hsz, hP, hD0, hE⟩ := hv
  have hx := B.exec
  have hb := B.bytes
  have hr := B.returns
  have hts := atoms_spec (ws := w9_Jx4a65c_grow_92f84_1) B.pre
  have hown : s.vm.findClass RJx4a65c = some m.cls := findClass_of_methodNamed B.named
  have hlocks := B.notSynchronized
  subst hsz
  have hD := hD0.self (sz := s.heap.size)
  generalize hAe : va_A [(h0, .inr (2, [.int 1, .ref (g.2.2 0), .int 0]))] s.heap.size = A at hD hE ⊢
  have hA : ∀ q : Nat, s.heap.size ≤ q → A q := fun q h => by rw [← hAe]; exact Or.inr h
  have hK := hE.1
  have hS : va_S A s.heap s.heap [] := va_S.rf
  replace hP : va_P g.1 vwCl [(h0, .inr (2, [.int 1, .ref (g.2.2 0), .int 0]))] s.heap := hP
  have hl := lv_entry ([.ref h0, .int 1]) (n := 4) (Nat.le_of_ble_eq_true rfl)
  rw [lg_entry_eq]
  generalize (lg_sl ([.ref h0, .int 1]) ++ List.replicate (4 - (lg_sl ([.ref h0, .int 1])).length) Slot.unset).toArray = ls at hl ⊢
  replace hl : lv_has ls 4 [(0, .ref h0), (1, .int 1)] := hl
  have hH0 : s.heap.size ≤ s.heap.size := Nat.le_refl _
  refine lv_aload_n hx hb dJx4a65c_grow_92f84_0 rfl (lv_at hl 0 rfl) ?_
  refine va_get (D := g.1) (ci := 2) (v := .ref (g.2.2 0)) (C := RJx4a65c) (T := TJx4a65c) (N := 3) hx hb hts in9_Jx4a65c_grow_92f84_1_RJx4a65c hown hK hP 0 rfl rfl 1 (by decide) (hts (.fieldLink RJx4a65c 9 "java/util/ArrayList" "elementData" "[Ljava/lang/Object;") (List.mem_of_getElem? (i := 1) rfl)) (fun _ h9 => h9) rfl dJx4a65c_grow_92f84_1 ?_
  refine va_tlen (v := 0) hx hb hE.td hS (by decide) dJx4a65c_grow_92f84_4 ?_
  refine lv_istore_n (lv' := [(2, .int 0), (0, .ref h0), (1, .int 1)]) hx hb dJx4a65c_grow_92f84_5 rfl hl (by decide) rfl (fun ls hl => ?_)
  refine lv_iload_n hx hb dJx4a65c_grow_92f84_6 rfl (lv_at hl 0 rfl) ?_
  refine lv_if_gt (tgt := 20) hx hb dJx4a65c_grow_92f84_7 (by decide) (fun c9 => absurd c9 (by decide)) (fun _ => ?_)
  refine lv_aload_n hx hb dJx4a65c_grow_92f84_10 rfl (lv_at hl 1 rfl) ?_
  refine va_get (D := g.1) (ci := 2) (v := .ref (g.2.2 0)) (C := RJx4a65c) (T := TJx4a65c) (N := 3) hx hb hts in9_Jx4a65c_grow_92f84_1_RJx4a65c hown hK hP 0 rfl rfl 1 (by decide) (hts (.fieldLink RJx4a65c 9 "java/util/ArrayList" "elementData" "[Ljava/lang/Object;") (List.mem_of_getElem? (i := 1) rfl)) (fun _ h9 => h9) rfl dJx4a65c_grow_92f84_11 ?_
  refine va_gets hx hb hE.zd hS hown (hts (.fieldLink RJx4a65c 39 "java/util/ArrayList" "DEFAULTCAPACITY_EMPTY_ELEMENTDATA" "[Ljava/lang/Object;") (List.mem_of_getElem? (i := 2) rfl)) (fun _ h9 => h9) dJx4a65c_grow_92f84_14 ?_
  refine W.eq (g2 := F0 m 17 ls (va_rf (some (g.2.2 0)) :: va_rf (some (g.2.2 0)) :: [])) rfl ?_
  refine lv_acmp_eq (tgt := 45) hx hb dJx4a65c_grow_92f84_17 (by decide) (fun _ => ?_) (fun c9 => absurd rfl c9)
  refine lv_aload_n hx hb dJx4a65c_grow_92f84_45 rfl (lv_at hl 1 rfl) ?_
  refine lv_bipush (v := 10) hx hb dJx4a65c_grow_92f84_46 (by decide) ?_
  refine lv_iload_n hx hb dJx4a65c_grow_92f84_48 rfl (lv_at hl 2 rfl) ?_
  refine va_mmax hx hb (by rw [hml]; exact hl.1.symm) hown (hts (.methodLink RJx4a65c 79 Lib.Math.max.name) (List.mem_of_getElem? (i := 3) rfl)) (hts (.static Lib.Math.max.name) (List.mem_of_getElem? (i := 4) rfl)) (hts (.initialized "java/lang/Math") (List.mem_of_getElem? (i := 5) rfl)) (hts (.code Lib.Math.max.name Lib.Math.max.code 2 (some .int)) (List.mem_of_getElem? (i := 6) rfl)) (Nat.le_of_ble_eq_true rfl) (Nat.le_of_ble_eq_true rfl) (Nat.le_of_ble_eq_true rfl) (Nat.le_of_ble_eq_true rfl) dJx4a65c_grow_92f84_49 ?_
  refine e_top (y := 10) (by decide) ?_
  refine e_newq (c0 := g.2.1 6) (C := "java/lang/Object") hx hb hown (hts (.classLink RJx4a65c 7 "java/lang/Object") (List.mem_of_getElem? (i := 7) rfl)) (hE.ao "java/lang/Object" (by decide)) hK 6 rfl hP hD hS hA 10 (by decide) (by decide) (Nat.le_of_ble_eq_true rfl) (Nat.le_of_ble_eq_true rfl) (Nat.le_of_ble_eq_true rfl) dJx4a65c_grow_92f84_52 (fun q_1 H hP hD hS => ?_)
  have hP : va_P g.1 vwCl [(h0, .inr (2, [.int 1, .ref (g.2.2 0), .int 0])), (q_1, .inl (g.2.1 6, 10, .inr (.inr (.inr (.inr (fun _ => none))))))] H := hP
  have hD : va_D A [(h0, .inr (2, [.int 1, .ref (g.2.2 0), .int 0])), (q_1, .inl (g.2.1 6, 10, .inr (.inr (.inr (.inr (fun _ => none))))))] := hD
  refine lv_dup_x1 hx hb dJx4a65c_grow_92f84_55 rfl rfl ?_
  refine va_put (D := g.1) (ci := 2) (v := .ref q_1) (ty := (.array (.object "java/lang/Object"))) (C := RJx4a65c) (T := TJx4a65c) (N := 3) hx hb hts in9_Jx4a65c_grow_92f84_1_RJx4a65c tyJx4a65c tyJx4a65c_ok nmJx4a65c hown hK hP hD hS 0 rfl rfl 1 (by decide) (hts (.fieldLink RJx4a65c 9 "java/util/ArrayList" "elementData" "[Ljava/lang/Object;") (List.mem_of_getElem? (i := 1) rfl)) (fun _ h9 => h9) rfl (by decide +kernel) rfl rfl (Nat.le_of_ble_eq_true rfl) dJx4a65c_grow_92f84_56 (fun H locs hP hD hS => ?_)
  have hP : va_P g.1 vwCl [(h0, .inr (2, [.int 1, .ref q_1, .int 0])), (q_1, .inl (g.2.1 6, 10, .inr (.inr (.inr (.inr (fun _ => none))))))] H := hP
  have hD : va_D A [(h0, .inr (2, [.int 1, .ref q_1, .int 0])), (q_1, .inl (g.2.1 6, 10, .inr (.inr (.inr (.inr (fun _ => none))))))] := hD
  have hP9 := hP.sub (ws' := [(h0, .inr (2, [.int 1, .ref q_1, .int 0])), (q_1, .inl (g.2.1 6, 10, .inr (.inr (.inr (.inr (fun _ => none))))))]) [0, 1] rfl
  have hD9 := hD.sub (ws' := [(h0, .inr (2, [.int 1, .ref q_1, .int 0])), (q_1, .inl (g.2.1 6, 10, .inr (.inr (.inr (.inr (fun _ => none))))))]) [0, 1] (by decide) rfl
  subst hAe
  exact W.aret (v := .ref q_1) hx hb hr (by first | exact Or.inl ⟨_, rfl⟩ | exact Or.inr ⟨_, rfl⟩) (Or.inr ⟨_, rfl⟩) (fun t ht hW => ⟨⟨q_1, q_1, rfl, trivial, rfl, by rw [ht]; exact hP9, hD9⟩, hS.F ht⟩) hS.2.2 dJx4a65c_grow_92f84_59
def w9_Jx4a65c_grow_d5877_1 : List Cond := [.code yJx4a65c_grow_d5877 cJx4a65c_grow_d5877 1 (some (.array (.object "java/lang/Object"))), .fieldLink RJx4a65c 48 "java/util/ArrayList" "size" "I", .methodLink RJx4a65c 69 yJx4a65c_grow_92f84, .instanceMethod yJx4a65c_grow_92f84, .selects RJx4a65c yJx4a65c_grow_92f84 yJx4a65c_grow_92f84, .initialized RJx4a65c, .code yJx4a65c_grow_92f84 cJx4a65c_grow_92f84 4 (some (.array (.object "java/lang/Object"))), .fieldLink RJx4a65c 9 "java/util/ArrayList" "elementData" "[Ljava/lang/Object;", .fieldLink RJx4a65c 39 "java/util/ArrayList" "DEFAULTCAPACITY_EMPTY_ELEMENTDATA" "[Ljava/lang/Object;", .methodLink RJx4a65c 79 Lib.Math.max.name, .static Lib.Math.max.name, .initialized "java/lang/Math", .code Lib.Math.max.name Lib.Math.max.code 2 (some .int), .classLink RJx4a65c 7 "java/lang/Object"] ++ (u_ws RJx4a65c TJx4a65c 3)
set_option maxRecDepth 20000 in
theorem in9_Jx4a65c_grow_d5877_1_RJx4a65c : ∀ w ∈ u_ws RJx4a65c TJx4a65c 3, w ∈ w9_Jx4a65c_grow_d5877_1 := by decide +kernel
set_option maxRecDepth 20000 in
theorem g9_Jx4a65c_grow_d5877_1_0 : GoodIn w9_Jx4a65c_grow_d5877_1 (wsV RJx4a65c 69 RJx4a65c yJx4a65c_grow_92f84 w9_Jx4a65c_grow_92f84_1) := goodIn_r _ [2, 3, 4, 5, 6, 7, 8, 9, 10, 11, 12, 13, 14, 15, 16] (by decide +kernel) (by decide +kernel)
set_option maxHeartbeats 4000000 in
set_option maxRecDepth 100000 in
theorem c9_Jx4a65c_grow_d5877_1 (l : Launch) (g : G9) (h0 sz : Nat) : Met l yJx4a65c_grow_d5877 w9_Jx4a65c_grow_d5877_1 ({ frames := 2, cells := 1, slots := 10, locals := 40 }) (mP g [(h0, .inr (2, [.int 1, .ref (g.2.2 0), .int 0]))] sz [.ref h0]) (va_Qr (fun _ : Nat => True) (fun (q_1 : Nat) (ra : Nat) (t : State) => ra = q_1 ∧ mB g [(h0, .inr (2, [.int 1, .ref (g.2.2 0), .int 0]))] sz [(h0, .inr (2, [.int 1, .ref q_1, .int 0])), (q_1, .inl (g.2.1 6, 10, .inr (.inr (.inr (.inr (fun _ => none))))))] t) (va_A [(h0, .inr (2, [.int 1, .ref (g.2.2 0), .int 0]))] sz)) 1 10 (va_A [(h0, .inr (2, [.int 1, .ref (g.2.2 0), .int 0]))] sz) := by
  refine Met.ofW (cc := cJx4a65c_grow_d5877) (maxL := 1) (ret := (some (.array (.object "java/lang/Object")))) (by decide) rfl ?_
  intro p e s m args below meth c s₁ B hml hv
  obtain ⟨rfl, hsz, hP, hD0, hE⟩ := hv
  have hx := B.exec
  have hb := B.bytes
  have hr := B.returns
  have hts := atoms_spec (ws := w9_Jx4a65c_grow_d5877_1) B.pre
  have hown : s.vm.findClass RJx4a65c = some m.cls := findClass_of_methodNamed B.named
  have hlocks := B.notSynchronized
  subst hsz
  have hD := hD0.self (sz := s.heap.size)
  generalize hAe : va_A [(h0, .inr (2, [.int 1, .ref (g.2.2 0), .int 0]))] s.heap.size = A at hD hE ⊢
  have hA : ∀ q : Nat, s.heap.size ≤ q → A q := fun q h => by rw [← hAe]; exact Or.inr h
  have hK := hE.1
  have hS : va_S A s.heap s.heap [] := va_S.rf
  replace hP : va_P g.1 vwCl [(h0, .inr (2, [.int 1, .ref (g.2.2 0), .int 0]))] s.heap := hP
  have hl := lv_entry ([.ref h0]) (n := 1) (Nat.le_of_ble_eq_true rfl)
  rw [lg_entry_eq]
  generalize (lg_sl ([.ref h0]) ++ List.replicate (1 - (lg_sl ([.ref h0])).length) Slot.unset).toArray = ls at hl ⊢
  replace hl : lv_has ls 1 [(0, .ref h0)] := hl
  have hH0 : s.heap.size ≤ s.heap.size := Nat.le_refl _
  refine lv_aload_n hx hb dJx4a65c_grow_d5877_0 rfl (lv_at hl 0 rfl) ?_
  refine lv_aload_n hx hb dJx4a65c_grow_d5877_1 rfl (lv_at hl 0 rfl) ?_
  refine va_get (D := g.1) (ci := 2) (v := .int 0) (C := RJx4a65c) (T := TJx4a65c) (N := 3) hx hb hts in9_Jx4a65c_grow_d5877_1_RJx4a65c hown hK hP 0 rfl rfl 2 (by decide) (hts (.fieldLink RJx4a65c 48 "java/util/ArrayList" "size" "I") (List.mem_of_getElem? (i := 1) rfl)) (fun _ h9 => h9) rfl dJx4a65c_grow_d5877_2 ?_
  refine lv_iconst (v := 1) hx hb dJx4a65c_grow_d5877_5 (by decide) ?_
  refine lv_iadd hx hb dJx4a65c_grow_d5877_6 ?_
  refine e_top (y := 1) (by decide) ?_
  have hPc := hP.sub (ws' := [(h0, .inr (2, [.int 1, .ref (g.2.2 0), .int 0]))]) [0] rfl
  have hDc := hD.sub (ws' := [(h0, .inr (2, [.int 1, .ref (g.2.2 0), .int 0]))]) [0] (by decide) rfl
  have hFc := va_free (wc := [(h0, .inr (2, [.int 1, .ref (g.2.2 0), .int 0]))]) hD hS hA [0] rfl
  refine va_callr (va_runV (As := [.int 1]) (rest := []) ⟨hx, hb, hml, hown, hts⟩ (c9_Jx4a65c_grow_92f84_1 l g h0 _) (cwV 1 hts g9_Jx4a65c_grow_d5877_1_0 rfl rfl rfl (by decide +kernel) ⟨Nat.le_of_ble_eq_true rfl, Nat.le_of_ble_eq_true rfl⟩) (mPreV (g := g) (wc := [(h0, .inr (2, [.int 1, .ref (g.2.2 0), .int 0]))]) (C := RJx4a65c) (ci := 2) (q0 := 0) hE hS hPc hDc hFc rfl rfl) rfl rfl hl.1 rfl (lv_room (Nat.le_of_ble_eq_true rfl)) dJx4a65c_grow_d5877_7 ⟨Nat.le_of_ble_eq_true rfl, Nat.le_of_ble_eq_true rfl⟩) hS (fun q _ h => hFc q h) hFc (fun u r_1 t H1 locs ht hvm hw hB hz1 hk1 hS => ?_)
  obtain ⟨q_1, rfl⟩ : ∃ z, z = u := ⟨_, rfl⟩
  obtain ⟨hR1, hP1, hD1⟩ := hB
  replace hR1 : q_1 = r_1 := Eq.symm hR1
  subst hR1
  rw [ht] at hP1
  obtain ⟨hP, hD⟩ := va_join (wr := []) (w1 := [(h0, .inr (2, [.int 1, .ref q_1, .int 0])), (q_1, .inl (g.2.1 6, 10, .inr (.inr (.inr (.inr (fun _ => none))))))]) hP hD [0] [] rfl rfl (by decide) (by decide) hk1 hFc hP1 hD1
  clear hP1 hD1 hPc hDc hFc hk1 hz1 hvm ht
  generalize H1 = H at hP hS ⊢
  have hP : va_P g.1 vwCl [(h0, .inr (2, [.int 1, .ref q_1, .int 0])), (q_1, .inl (g.2.1 6, 10, .inr (.inr (.inr (.inr (fun _ => none))))))] H := hP
  have hD : va_D A [(h0, .inr (2, [.int 1, .ref q_1, .int 0])), (q_1, .inl (g.2.1 6, 10, .inr (.inr (.inr (.inr (fun _ => none))))))] := hD
  have hP9 := hP.sub (ws' := [(h0, .inr (2, [.int 1, .ref q_1, .int 0])), (q_1, .inl (g.2.1 6, 10, .inr (.inr (.inr (.inr (fun _ => none))))))]) [0, 1] rfl
  have hD9 := hD.sub (ws' := [(h0, .inr (2, [.int 1, .ref q_1, .int 0])), (q_1, .inl (g.2.1 6, 10, .inr (.inr (.inr (.inr (fun _ => none))))))]) [0, 1] (by decide) rfl
  subst hAe
  exact W.aret (v := .ref q_1) hx hb hr (by first | exact Or.inl ⟨_, rfl⟩ | exact Or.inr ⟨_, rfl⟩) (Or.inr ⟨_, rfl⟩) (fun t ht hW => ⟨⟨q_1, q_1, rfl, trivial, rfl, by rw [ht]; exact hP9, hD9⟩, hS.F ht⟩) hS.2.2 dJx4a65c_grow_d5877_10
def w9_Jx4a65c_add_72be8_1 : List Cond := [.code yJx4a65c_add_72be8 cJx4a65c_add_72be8 4 none, .methodLink RJx4a65c 129 yJx4a65c_grow_d5877, .instanceMethod yJx4a65c_grow_d5877, .selects RJx4a65c yJx4a65c_grow_d5877 yJx4a65c_grow_d5877, .initialized RJx4a65c, .code yJx4a65c_grow_d5877 cJx4a65c_grow_d5877 1 (some (.array (.object "java/lang/Object"))), .fieldLink RJx4a65c 48 "java/util/ArrayList" "size" "I", .methodLink RJx4a65c 69 yJx4a65c_grow_92f84, .instanceMethod yJx4a65c_grow_92f84, .selects RJx4a65c yJx4a65c_grow_92f84 yJx4a65c_grow_92f84, .code yJx4a65c_grow_92f84 cJx4a65c_grow_92f84 4 (some (.array (.object "java/lang/Object"))), .fieldLink RJx4a65c 9 "java/util/ArrayList" "elementData" "[Ljava/lang/Object;", .fieldLink RJx4a65c 39 "java/util/ArrayList" "DEFAULTCAPACITY_EMPTY_ELEMENTDATA" "[Ljava/lang/Object;", .methodLink RJx4a65c 79 Lib.Math.max.name, .static Lib.Math.max.name, .initialized "java/lang/Math", .code Lib.Math.max.name Lib.Math.max.code 2 (some .int), .classLink RJx4a65c 7 "java/lang/Object"] ++ (u_ws RJx4a65c TJx4a65c 3)
set_option maxRecDepth 20000 in
theorem in9_Jx4a65c_add_72be8_1_RJx4a65c : ∀ w ∈ u_ws RJx4a65c TJx4a65c 3, w ∈ w9_Jx4a65c_add_72be8_1 := by decide +kernel
set_option maxRecDepth 20000 in
theorem g9_Jx4a65c_add_72be8_1_0 : GoodIn w9_Jx4a65c_add_72be8_1 (wsV RJx4a65c 129 RJx4a65c yJx4a65c_grow_d5877 w9_Jx4a65c_grow_d5877_1) := goodIn_r _ [1, 2, 3, 4, 5, 6, 7, 8, 9, 4, 10, 11, 12, 13, 14, 15, 16, 17, 18, 19, 20] (by decide +kernel) (by decide +kernel)
set_option maxHeartbeats 4000000 in
set_option maxRecDepth 100000 in
theorem c9_Jx4a65c_add_72be8_1 (l : Launch) (g : G9) (h0 h1 sz : Nat) : Met l yJx4a65c_add_72be8 w9_Jx4a65c_add_72be8_1 ({ frames := 3, cells := 1, slots := 10, locals := 60 }) (mP g [(h0, .inr (2, [.int 1, .ref (g.2.2 0), .int 0])), (h1, .inr (2, [.int 0, .ref (g.2.2 0), .int 0]))] sz [.ref h0, .ref h1, .ref (g.2.2 0), .int 0]) (va_Qv (fun _ : Nat => True) (fun (q_1 : Nat) (t : State) => mB g [(h0, .inr (2, [.int 1, .ref (g.2.2 0), .int 0])), (h1, .inr (2, [.int 0, .ref (g.2.2 0), .int 0]))] sz [(h0, .inr (2, [.int 1, .ref q_1, .int 1])), (h1, .inr (2, [.int 0, .ref (g.2.2 0), .int 0])), (q_1, .inl (g.2.1 6, 10, .inr (.inr (.inr (.inr (va_up (fun _ => none) 0 (some h1)))))))] t) (va_A [(h0, .inr (2, [.int 1, .ref (g.2.2 0), .int 0])), (h1, .inr (2, [.int 0, .ref (g.2.2 0), .int 0]))] sz)) 1 10 (va_A [(h0, .inr (2, [.int 1, .ref (g.2.2 0), .int 0])), (h1, .inr (2, [.int 0, .ref (g.2.2 0), .int 0]))] sz) := by
  refine Met.ofW (cc := cJx4a65c_add_72be8) (maxL := 4) (ret := none) (by decide) rfl ?_
  intro p e s m args below meth c s₁ B hml hv
  obtain ⟨rfl, hsz, hP, hD0, hE⟩ := hv
  have hx := B.exec
  have hb := B.bytes
  have hr := B.returns
  have hts := atoms_spec (ws := w9_Jx4a65c_add_72be8_1) B.pre
  have hown : s.vm.findClass RJx4a65c = some m.cls := findClass_of_methodNamed B.named
  have hlocks := B.notSynchronized
  subst hsz
  have hD := hD0.self (sz := s.heap.size)
  generalize hAe : va_A [(h0, .inr (2, [.int 1, .ref (g.2.2 0), .int 0])), (h1, .inr (2, [.int 0, .ref (g.2.2 0), .int 0]))] s.heap.size = A at hD hE ⊢
  have hA : ∀ q : Nat, s.heap.size ≤ q → A q := fun q h => by rw [← hAe]; exact Or.inr h
  have hK := hE.1
  have hS : va_S A s.heap s.heap [] := va_S.rf
  replace hP : va_P g.1 vwCl [(h0, .inr (2, [.int 1, .ref (g.2.2 0), .int 0])), (h1, .inr (2, [.int 0, .ref (g.2.2 0), .int 0]))] s.heap := hP
  have hl := lv_entry ([.ref h0, .ref h1, .ref (g.2.2 0), .int 0]) (n := 4) (Nat.le_of_ble_eq_true rfl)
  rw [lg_entry_eq]
  generalize (lg_sl ([.ref h0, .ref h1, .ref (g.2.2 0), .int 0]) ++ List.replicate (4 - (lg_sl ([.ref h0, .ref h1, .ref (g.2.2 0), .int 0])).length) Slot.unset).toArray = ls at hl ⊢
  replace hl : lv_has ls 4 [(0, .ref h0), (1, .ref h1), (2, .ref (g.2.2 0)), (3, .int 0)] := hl
  have hH0 : s.heap.size ≤ s.heap.size := Nat.le_refl _
  refine lv_iload_n hx hb dJx4a65c_add_72be8_0 rfl (lv_at hl 3 rfl) ?_
  refine lv_aload_n hx hb dJx4a65c_add_72be8_1 rfl (lv_at hl 2 rfl) ?_
  refine va_tlen (v := 0) hx hb hE.td hS (by decide) dJx4a65c_add_72be8_2 ?_
  refine lv_icmp_ne (tgt := 11) hx hb dJx4a65c_add_72be8_3 (by decide) (fun c9 => absurd (by decide) c9) (fun _ => ?_)
  refine lv_aload_n hx hb dJx4a65c_add_72be8_6 rfl (lv_at hl 0 rfl) ?_
  have hPc := hP.sub (ws' := [(h0, .inr (2, [.int 1, .ref (g.2.2 0), .int 0]))]) [0] rfl
  have hDc := hD.sub (ws' := [(h0, .inr (2, [.int 1, .ref (g.2.2 0), .int 0]))]) [0] (by decide) rfl
  have hFc := va_free (wc := [(h0, .inr (2, [.int 1, .ref (g.2.2 0), .int 0]))]) hD hS hA [0] rfl
  refine va_callr (va_runV (As := []) (rest := []) ⟨hx, hb, hml, hown, hts⟩ (c9_Jx4a65c_grow_d5877_1 l g h0 _) (cwV 0 hts g9_Jx4a65c_add_72be8_1_0 rfl rfl rfl (by decide +kernel) ⟨Nat.le_of_ble_eq_true rfl, Nat.le_of_ble_eq_true rfl⟩) (mPreV (g := g) (wc := [(h0, .inr (2, [.int 1, .ref (g.2.2 0), .int 0]))]) (C := RJx4a65c) (ci := 2) (q0 := 0) hE hS hPc hDc hFc rfl rfl) rfl rfl hl.1 rfl (lv_room (Nat.le_of_ble_eq_true rfl)) dJx4a65c_add_72be8_7 ⟨Nat.le_of_ble_eq_true rfl, Nat.le_of_ble_eq_true rfl⟩) hS (fun q _ h => hFc q h) hFc (fun u r_1 t H1 locs ht hvm hw hB hz1 hk1 hS => ?_)
  obtain ⟨q_1, rfl⟩ : ∃ z, z = u := ⟨_, rfl⟩
  obtain ⟨hR1, hP1, hD1⟩ := hB
  replace hR1 : q_1 = r_1 := Eq.symm hR1
  subst hR1
  rw [ht] at hP1
  obtain ⟨hP, hD⟩ := va_join (wr := [(h1, .inr (2, [.int 0, .ref (g.2.2 0), .int 0]))]) (w1 := [(h0, .inr (2, [.int 1, .ref q_1, .int 0])), (q_1, .inl (g.2.1 6, 10, .inr (.inr (.inr (.inr (fun _ => none))))))]) hP hD [0] [1] rfl rfl (by decide) (by decide) hk1 hFc hP1 hD1
  clear hP1 hD1 hPc hDc hFc hk1 hz1 hvm ht
  generalize H1 = H at hP hS ⊢
  have hP : va_P g.1 vwCl [(h1, .inr (2, [.int 0, .ref (g.2.2 0), .int 0])), (h0, .inr (2, [.int 1, .ref q_1, .int 0])), (q_1, .inl (g.2.1 6, 10, .inr (.inr (.inr (.inr (fun _ => none))))))] H := hP
  have hD : va_D A [(h1, .inr (2, [.int 0, .ref (g.2.2 0), .int 0])), (h0, .inr (2, [.int 1, .ref q_1, .int 0])), (q_1, .inl (g.2.1 6, 10, .inr (.inr (.inr (.inr (fun _ => none))))))] := hD
  refine lv_astore_n (lv' := [(2, .ref q_1), (0, .ref h0), (1, .ref h1), (3, .int 0)]) hx hb dJx4a65c_add_72be8_10 rfl hl (by decide) rfl (fun ls hl => ?_)
  refine lv_aload_n hx hb dJx4a65c_add_72be8_11 rfl (lv_at hl 0 rfl) ?_
  refine lv_iload_n hx hb dJx4a65c_add_72be8_12 rfl (lv_at hl 3 rfl) ?_
  refine lv_aload_n hx hb dJx4a65c_add_72be8_13 rfl (lv_at hl 2 rfl) ?_
  refine va_astqO (E := "java/lang/Object") hx hb hK hP hD hS 2 6 0 2 rfl rfl (hE.cast ("java/util/ArrayList", "java/lang/Object") (by decide)) rfl rfl (vp_in_nI (n := 0) (by decide) (by decide)) dJx4a65c_add_72be8_14 (fun H locs hP hD hS => ?_)
  have hP : va_P g.1 vwCl [(h1, .inr (2, [.int 0, .ref (g.2.2 0), .int 0])), (h0, .inr (2, [.int 1, .ref q_1, .int 0])), (q_1, .inl (g.2.1 6, 10, .inr (.inr (.inr (.inr (va_up (fun _ => none) 0 (some h1)))))))] H := hP
  have hD : va_D A [(h1, .inr (2, [.int 0, .ref (g.2.2 0), .int 0])), (h0, .inr (2, [.int 1, .ref q_1, .int 0])), (q_1, .inl (g.2.1 6, 10, .inr (.inr (.inr (.inr (va_up (fun _ => none) 0 (some h1)))))))] := hD
  refine lv_aload_n hx hb dJx4a65c_add_72be8_15 rfl (lv_at hl 1 rfl) ?_
  refine lv_iload_n hx hb dJx4a65c_add_72be8_16 rfl (lv_at hl 3 rfl) ?_
  refine lv_iconst (v := 1) hx hb dJx4a65c_add_72be8_17 (by decide) ?_
  refine lv_iadd hx hb dJx4a65c_add_72be8_18 ?_
  refine e_top (y := 1) (by decide) ?_
  refine va_put (D := g.1) (ci := 2) (v := .int 1) (ty := .int) (C := RJx4a65c) (T := TJx4a65c) (N := 3) hx hb hts in9_Jx4a65c_add_72be8_1_RJx4a65c tyJx4a65c tyJx4a65c_ok nmJx4a65c hown hK hP hD hS 1 rfl rfl 2 (by decide) (hts (.fieldLink RJx4a65c 48 "java/util/ArrayList" "size" "I") (List.mem_of_getElem? (i := 6) rfl)) (fun _ h9 => h9) rfl (by decide +kernel) rfl rfl (Nat.le_of_ble_eq_true rfl) dJx4a65c_add_72be8_19 (fun H locs hP hD hS => ?_)
  have hP : va_P g.1 vwCl [(h1, .inr (2, [.int 0, .ref (g.2.2 0), .int 0])), (h0, .inr (2, [.int 1, .ref q_1, .int 1])), (q_1, .inl (g.2.1 6, 10, .inr (.inr (.inr (.inr (va_up (fun _ => none) 0 (some h1)))))))] H := hP
  have hD : va_D A [(h1, .inr (2, [.int 0, .ref (g.2.2 0), .int 0])), (h0, .inr (2, [.int 1, .ref q_1, .int 1])), (q_1, .inl (g.2.1 6, 10, .inr (.inr (.inr (.inr (va_up (fun _ => none) 0 (some h1)))))))] := hD
  have hP9 := hP.sub (ws' := [(h0, .inr (2, [.int 1, .ref q_1, .int 1])), (h1, .inr (2, [.int 0, .ref (g.2.2 0), .int 0])), (q_1, .inl (g.2.1 6, 10, .inr (.inr (.inr (.inr (va_up (fun _ => none) 0 (some h1)))))))]) [1, 0, 2] rfl
  have hD9 := hD.sub (ws' := [(h0, .inr (2, [.int 1, .ref q_1, .int 1])), (h1, .inr (2, [.int 0, .ref (g.2.2 0), .int 0])), (q_1, .inl (g.2.1 6, 10, .inr (.inr (.inr (.inr (va_up (fun _ => none) 0 (some h1)))))))]) [1, 0, 2] (by decide) rfl
  subst hAe
  exact W.vret hx hb hr (fun t ht hW => ⟨⟨q_1, rfl, trivial, by rw [ht]; exact hP9, hD9⟩, hS.F ht⟩) hS.2.2 dJx4a65c_add_72be8_22
def w9_Jx4a65c_add_9ea2d_1 : List Cond := [.code yJx4a65c_add_9ea2d cJx4a65c_add_9ea2d 2 (some .boolean), .fieldLink RJx4a65c 63 "java/util/ArrayList" "modCount" "I", .sameField "java/util/ArrayList" "java/util/AbstractList" "modCount" "I", .fieldLink RJx4a65c 9 "java/util/ArrayList" "elementData" "[Ljava/lang/Object;", .fieldLink RJx4a65c 48 "java/util/ArrayList" "size" "I", .methodLink RJx4a65c 131 yJx4a65c_add_72be8, .instanceMethod yJx4a65c_add_72be8, .selects RJx4a65c yJx4a65c_add_72be8 yJx4a65c_add_72be8, .initialized RJx4a65c, .code yJx4a65c_add_72be8 cJx4a65c_add_72be8 4 none, .methodLink RJx4a65c 129 yJx4a65c_grow_d5877, .instanceMethod yJx4a65c_grow_d5877, .selects RJx4a65c yJx4a65c_grow_d5877 yJx4a65c_grow_d5877, .code yJx4a65c_grow_d5877 cJx4a65c_grow_d5877 1 (some (.array (.object "java/lang/Object"))), .methodLink RJx4a65c 69 yJx4a65c_grow_92f84, .instanceMethod yJx4a65c_grow_92f84, .selects RJx4a65c yJx4a65c_grow_92f84 yJx4a65c_grow_92f84, .code yJx4a65c_grow_92f84 cJx4a65c_grow_92f84 4 (some (.array (.object "java/lang/Object"))), .fieldLink RJx4a65c 39 "java/util/ArrayList" "DEFAULTCAPACITY_EMPTY_ELEMENTDATA" "[Ljava/lang/Object;", .methodLink RJx4a65c 79 Lib.Math.max.name, .static Lib.Math.max.name, .initialized "java/lang/Math", .code Lib.Math.max.name Lib.Math.max.code 2 (some .int), .classLink RJx4a65c 7 "java/lang/Object"] ++ (u_ws RJx4a65c TJx4a65c 3)
set_option maxRecDepth 20000 in
theorem in9_Jx4a65c_add_9ea2d_1_RJx4a65c : ∀ w ∈ u_ws RJx4a65c TJx4a65c 3, w ∈ w9_Jx4a65c_add_9ea2d_1 := by decide +kernel
set_option maxRecDepth 20000 in
theorem g9_Jx4a65c_add_9ea2d_1_0 : GoodIn w9_Jx4a65c_add_9ea2d_1 (wsV RJx4a65c 131 RJx4a65c yJx4a65c_add_72be8 w9_Jx4a65c_add_72be8_1) := goodIn_r _ [5, 6, 7, 8, 9, 10, 11, 12, 8, 13, 4, 14, 15, 16, 17, 3, 18, 19, 20, 21, 22, 23, 24, 25, 26] (by decide +kernel) (by decide +kernel)
set_option maxHeartbeats 4000000 in
set_option maxRecDepth 100000 in
theorem c9_Jx4a65c_add_9ea2d_1 (l : Launch) (g : G9) (h0 h1 sz : Nat) : Met l yJx4a65c_add_9ea2d w9_Jx4a65c_add_9ea2d_1 ({ frames := 4, cells := 1, slots := 10, locals := 83 }) (mP g [(h0, .inr (2, [.int 0, .ref (g.2.2 0), .int 0])), (h1, .inr (2, [.int 0, .ref (g.2.2 0), .int 0]))] sz [.ref h0, .ref h1]) (va_Qi (fun (r : Int32) (_ : Nat) => r = 1) (fun (q_1 : Nat) (t : State) => mB g [(h0, .inr (2, [.int 0, .ref (g.2.2 0), .int 0])), (h1, .inr (2, [.int 0, .ref (g.2.2 0), .int 0]))] sz [(h0, .inr (2, [.int 1, .ref q_1, .int 1])), (h1, .inr (2, [.int 0, .ref (g.2.2 0), .int 0])), (q_1, .inl (g.2.1 6, 10, .inr (.inr (.inr (.inr (va_up (fun _ => none) 0 (some h1)))))))] t) (va_A [(h0, .inr (2, [.int 0, .ref (g.2.2 0), .int 0])), (h1, .inr (2, [.int 0, .ref (g.2.2 0), .int 0]))] sz)) 1 10 (va_A [(h0, .inr (2, [.int 0, .ref (g.2.2 0), .int 0])), (h1, .inr (2, [.int 0, .ref (g.2.2 0), .int 0]))] sz) := by
  refine Met.ofW (cc := cJx4a65c_add_9ea2d) (maxL := 2) (ret := (some .boolean)) (by decide) rfl ?_
  intro p e s m args below meth c s₁ B hml hv
  obtain ⟨rfl, hsz, hP, hD0, hE⟩ := hv
  have hx := B.exec
  have hb := B.bytes
  have hr := B.returns
  have hts := atoms_spec (ws := w9_Jx4a65c_add_9ea2d_1) B.pre
  have hown : s.vm.findClass RJx4a65c = some m.cls := findClass_of_methodNamed B.named
  have hlocks := B.notSynchronized
  subst hsz
  have hD := hD0.self (sz := s.heap.size)
  generalize hAe : va_A [(h0, .inr (2, [.int 0, .ref (g.2.2 0), .int 0])), (h1, .inr (2, [.int 0, .ref (g.2.2 0), .int 0]))] s.heap.size = A at hD hE ⊢
  have hA : ∀ q : Nat, s.heap.size ≤ q → A q := fun q h => by rw [← hAe]; exact Or.inr h
  have hK := hE.1
  have hS : va_S A s.heap s.heap [] := va_S.rf
  replace hP : va_P g.1 vwCl [(h0, .inr (2, [.int 0, .ref (g.2.2 0), .int 0])), (h1, .inr (2, [.int 0, .ref (g.2.2 0), .int 0]))] s.heap := hP
  have hl := lv_entry ([.ref h0, .ref h1]) (n := 2) (Nat.le_of_ble_eq_true rfl)
  rw [lg_entry_eq]
  generalize (lg_sl ([.ref h0, .ref h1]) ++ List.replicate (2 - (lg_sl ([.ref h0, .ref h1])).length) Slot.unset).toArray = ls at hl ⊢
  replace hl : lv_has ls 2 [(0, .ref h0), (1, .ref h1)] := hl
  have hH0 : s.heap.size ≤ s.heap.size := Nat.le_refl _
  refine lv_aload_n hx hb dJx4a65c_add_9ea2d_0 rfl (lv_at hl 0 rfl) ?_
  refine lv_dup hx hb dJx4a65c_add_9ea2d_1 rfl ?_
  refine va_get (D := g.1) (ci := 2) (v := .int 0) (C := RJx4a65c) (T := TJx4a65c) (N := 3) hx hb hts in9_Jx4a65c_add_9ea2d_1_RJx4a65c hown hK hP 0 rfl rfl 0 (by decide) (hts (.fieldLink RJx4a65c 63 "java/util/ArrayList" "modCount" "I") (List.mem_of_getElem? (i := 1) rfl)) (fun x9 h9 => u_same (hts (.sameField "java/util/ArrayList" "java/util/AbstractList" "modCount" "I") (List.mem_of_getElem? (i := 2) rfl)) x9 h9) rfl dJx4a65c_add_9ea2d_2 ?_
  refine lv_iconst (v := 1) hx hb dJx4a65c_add_9ea2d_5 (by decide) ?_
  refine lv_iadd hx hb dJx4a65c_add_9ea2d_6 ?_
  refine e_top (y := 1) (by decide) ?_
  refine va_put (D := g.1) (ci := 2) (v := .int 1) (ty := .int) (C := RJx4a65c) (T := TJx4a65c) (N := 3) hx hb hts in9_Jx4a65c_add_9ea2d_1_RJx4a65c tyJx4a65c tyJx4a65c_ok nmJx4a65c hown hK hP hD hS 0 rfl rfl 0 (by decide) (hts (.fieldLink RJx4a65c 63 "java/util/ArrayList" "modCount" "I") (List.mem_of_getElem? (i := 1) rfl)) (fun x9 h9 => u_same (hts (.sameField "java/util/ArrayList" "java/util/AbstractList" "modCount" "I") (List.mem_of_getElem? (i := 2) rfl)) x9 h9) rfl (by decide +kernel) rfl rfl (Nat.le_of_ble_eq_true rfl) dJx4a65c_add_9ea2d_7 (fun H locs hP hD hS => ?_)
  have hP : va_P g.1 vwCl [(h0, .inr (2, [.int 1, .ref (g.2.2 0), .int 0])), (h1, .inr (2, [.int 0, .ref (g.2.2 0), .int 0]))] H := hP
  have hD : va_D A [(h0, .inr (2, [.int 1, .ref (g.2.2 0), .int 0])), (h1, .inr (2, [.int 0, .ref (g.2.2 0), .int 0]))] := hD
  refine lv_aload_n hx hb dJx4a65c_add_9ea2d_10 rfl (lv_at hl 0 rfl) ?_
  refine lv_aload_n hx hb dJx4a65c_add_9ea2d_11 rfl (lv_at hl 1 rfl) ?_
  refine lv_aload_n hx hb dJx4a65c_add_9ea2d_12 rfl (lv_at hl 0 rfl) ?_
  refine va_get (D := g.1) (ci := 2) (v := .ref (g.2.2 0)) (C := RJx4a65c) (T := TJx4a65c) (N := 3) hx hb hts in9_Jx4a65c_add_9ea2d_1_RJx4a65c hown hK hP 0 rfl rfl 1 (by decide) (hts (.fieldLink RJx4a65c 9 "java/util/ArrayList" "elementData" "[Ljava/lang/Object;") (List.mem_of_getElem? (i := 3) rfl)) (fun _ h9 => h9) rfl dJx4a65c_add_9ea2d_13 ?_
  refine lv_aload_n hx hb dJx4a65c_add_9ea2d_16 rfl (lv_at hl 0 rfl) ?_
  refine va_get (D := g.1) (ci := 2) (v := .int 0) (C := RJx4a65c) (T := TJx4a65c) (N := 3) hx hb hts in9_Jx4a65c_add_9ea2d_1_RJx4a65c hown hK hP 0 rfl rfl 2 (by decide) (hts (.fieldLink RJx4a65c 48 "java/util/ArrayList" "size" "I") (List.mem_of_getElem? (i := 4) rfl)) (fun _ h9 => h9) rfl dJx4a65c_add_9ea2d_17 ?_
  have hPc := hP.sub (ws' := [(h0, .inr (2, [.int 1, .ref (g.2.2 0), .int 0])), (h1, .inr (2, [.int 0, .ref (g.2.2 0), .int 0]))]) [0, 1] rfl
  have hDc := hD.sub (ws' := [(h0, .inr (2, [.int 1, .ref (g.2.2 0), .int 0])), (h1, .inr (2, [.int 0, .ref (g.2.2 0), .int 0]))]) [0, 1] (by decide) rfl
  have hFc := va_free (wc := [(h0, .inr (2, [.int 1, .ref (g.2.2 0), .int 0])), (h1, .inr (2, [.int 0, .ref (g.2.2 0), .int 0]))]) hD hS hA [0, 1] rfl
  refine va_callv (va_runV (As := [.ref h1, .ref (g.2.2 0), .int 0]) (rest := []) ⟨hx, hb, hml, hown, hts⟩ (c9_Jx4a65c_add_72be8_1 l g h0 h1 _) (cwV 3 hts g9_Jx4a65c_add_9ea2d_1_0 rfl rfl rfl (by decide +kernel) ⟨Nat.le_of_ble_eq_true rfl, Nat.le_of_ble_eq_true rfl⟩) (mPreV (g := g) (wc := [(h0, .inr (2, [.int 1, .ref (g.2.2 0), .int 0])), (h1, .inr (2, [.int 0, .ref (g.2.2 0), .int 0]))]) (C := RJx4a65c) (ci := 2) (q0 := 0) hE hS hPc hDc hFc rfl rfl) rfl rfl hl.1 rfl (lv_room (Nat.le_of_ble_eq_true rfl)) dJx4a65c_add_9ea2d_20 ⟨Nat.le_of_ble_eq_true rfl, Nat.le_of_ble_eq_true rfl⟩) hS (fun q _ h => hFc q h) hFc (fun u t H1 locs ht hvm hw hB hz1 hk1 hS => ?_)
  obtain ⟨q_1, rfl⟩ : ∃ z, z = u := ⟨_, rfl⟩
  obtain ⟨hP1, hD1⟩ := hB
  rw [ht] at hP1
  obtain ⟨hP, hD⟩ := va_join (wr := []) (w1 := [(h0, .inr (2, [.int 1, .ref q_1, .int 1])), (h1, .inr (2, [.int 0, .ref (g.2.2 0), .int 0])), (q_1, .inl (g.2.1 6, 10, .inr (.inr (.inr (.inr (va_up (fun _ => none) 0 (some h1)))))))]) hP hD [0, 1] [] rfl rfl (by decide) (by decide) hk1 hFc hP1 hD1
  clear hP1 hD1 hPc hDc hFc hk1 hz1 hvm ht
  generalize H1 = H at hP hS ⊢
  have hP : va_P g.1 vwCl [(h0, .inr (2, [.int 1, .ref q_1, .int 1])), (h1, .inr (2, [.int 0, .ref (g.2.2 0), .int 0])), (q_1, .inl (g.2.1 6, 10, .inr (.inr (.inr (.inr (va_up (fun _ => none) 0 (some h1)))))))] H := hP
  have hD : va_D A [(h0, .inr (2, [.int 1, .ref q_1, .int 1])), (h1, .inr (2, [.int 0, .ref (g.2.2 0), .int 0])), (q_1, .inl (g.2.1 6, 10, .inr (.inr (.inr (.inr (va_up (fun _ => none) 0 (some h1)))))))] := hD
  refine lv_iconst (v := 1) hx hb dJx4a65c_add_9ea2d_23 (by decide) ?_
  have hP9 := hP.sub (ws' := [(h0, .inr (2, [.int 1, .ref q_1, .int 1])), (h1, .inr (2, [.int 0, .ref (g.2.2 0), .int 0])), (q_1, .inl (g.2.1 6, 10, .inr (.inr (.inr (.inr (va_up (fun _ => none) 0 (some h1)))))))]) [0, 1, 2] rfl
  have hD9 := hD.sub (ws' := [(h0, .inr (2, [.int 1, .ref q_1, .int 1])), (h1, .inr (2, [.int 0, .ref (g.2.2 0), .int 0])), (q_1, .inl (g.2.1 6, 10, .inr (.inr (.inr (.inr (va_up (fun _ => none) 0 (some h1)))))))]) [0, 1, 2] (by decide) rfl
  subst hAe
  exact W.zret (v := 1) hx hb hr (by decide) (fun t ht hW => ⟨⟨1, q_1, rfl, rfl, by rw [ht]; exact hP9, hD9⟩, hS.F ht⟩) hS.2.2 dJx4a65c_add_9ea2d_24
def w9_X16_here_1 : List Cond := [.code yX16_here cX16_here 1 (some .int), .fieldLink RX16 39 "RegexloomModel$Reader" "at" "I", .fieldLink RX16 22 "RegexloomModel$Reader" "size" "I"] ++ (u_ws RX16 TX16 8)
set_option maxRecDepth 20000 in
theorem in9_X16_here_1_RX16 : ∀ w ∈ u_ws RX16 TX16 8, w ∈ w9_X16_here_1 := by decide +kernel
set_option maxHeartbeats 4000000 in
set_option maxRecDepth 100000 in
theorem c9_X16_here_1 (l : Launch) (g : G9) (h0 h1 h2 sz : Nat) : Met l yX16_here w9_X16_here_1 ({ frames := 0, cells := 0, slots := 0, locals := 0 }) (mP g [(h0, .inr (17, [.ref h1, .int 0, .int 0, .int 0, .int 0, .int 0, .int 0, .ref h2]))] sz [.ref h0]) (va_Qi (fun (r : Int32) (_ : Unit) => r = (-1)) (fun (_ : Unit) (t : State) => mB g [(h0, .inr (17, [.ref h1, .int 0, .int 0, .int 0, .int 0, .int 0, .int 0, .ref h2]))] sz [(h0, .inr (17, [.ref h1, .int 0, .int 0, .int 0, .int 0, .int 0, .int 0, .ref h2]))] t) (va_A [(h0, .inr (17, [.ref h1, .int 0, .int 0, .int 0, .int 0, .int 0, .int 0, .ref h2]))] sz)) 0 0 (va_A [(h0, .inr (17, [.ref h1, .int 0, .int 0, .int 0, .int 0, .int 0, .int 0, .ref h2]))] sz) := by
  refine Met.ofW (cc := cX16_here) (maxL := 1) (ret := (some .int)) (by decide) rfl ?_
  intro p e s m args below meth c s₁ B hml hv
  obtain ⟨rfl, hsz, hP, hD0, hE⟩ := hv
  have hx := B.exec
  have hb := B.bytes
  have hr := B.returns
  have hts := atoms_spec (ws := w9_X16_here_1) B.pre
  have hown : s.vm.findClass RX16 = some m.cls := findClass_of_methodNamed B.named
  have hlocks := B.notSynchronized
  subst hsz
  have hD := hD0.self (sz := s.heap.size)
  generalize hAe : va_A [(h0, .inr (17, [.ref h1, .int 0, .int 0, .int 0, .int 0, .int 0, .int 0, .ref h2]))] s.heap.size = A at hD hE ⊢
  have hA : ∀ q : Nat, s.heap.size ≤ q → A q := fun q h => by rw [← hAe]; exact Or.inr h
  have hK := hE.1
  have hS : va_S A s.heap s.heap [] := va_S.rf
  replace hP : va_P g.1 vwCl [(h0, .inr (17, [.ref h1, .int 0, .int 0, .int 0, .int 0, .int 0, .int 0, .ref h2]))] s.heap := hP
  have hl := lv_entry ([.ref h0]) (n := 1) (Nat.le_of_ble_eq_true rfl)
  rw [lg_entry_eq]
  generalize (lg_sl ([.ref h0]) ++ List.replicate (1 - (lg_sl ([.ref h0])).length) Slot.unset).toArray = ls at hl ⊢
  replace hl : lv_has ls 1 [(0, .ref h0)] := hl
  have hH0 : s.heap.size ≤ s.heap.size := Nat.le_refl _
  refine lv_aload_n hx hb dX16_here_0 rfl (lv_at hl 0 rfl) ?_
  refine va_get (D := g.1) (ci := 17) (v := .int 0) (C := RX16) (T := TX16) (N := 8) hx hb hts in9_X16_here_1_RX16 hown hK hP 0 rfl rfl 2 (by decide) (hts (.fieldLink RX16 39 "RegexloomModel$Reader" "at" "I") (List.mem_of_getElem? (i := 1) rfl)) (fun _ h9 => h9) rfl dX16_here_1 ?_
  refine lv_aload_n hx hb dX16_here_4 rfl (lv_at hl 0 rfl) ?_
  refine va_get (D := g.1) (ci := 17) (v := .int 0) (C := RX16) (T := TX16) (N := 8) hx hb hts in9_X16_here_1_RX16 hown hK hP 0 rfl rfl 1 (by decide) (hts (.fieldLink RX16 22 "RegexloomModel$Reader" "size" "I") (List.mem_of_getElem? (i := 2) rfl)) (fun _ h9 => h9) rfl dX16_here_5 ?_
  refine lv_icmp_ge (tgt := 23) hx hb dX16_here_8 (by decide) (fun _ => ?_) (fun c9 => absurd (by decide) c9)
  refine lv_iconst (v := (-1)) hx hb dX16_here_23 (by decide) ?_
  have hP9 := hP.sub (ws' := [(h0, .inr (17, [.ref h1, .int 0, .int 0, .int 0, .int 0, .int 0, .int 0, .ref h2]))]) [0] rfl
  have hD9 := hD.sub (ws' := [(h0, .inr (17, [.ref h1, .int 0, .int 0, .int 0, .int 0, .int 0, .int 0, .ref h2]))]) [0] (by decide) rfl
  subst hAe
  exact W.iret (v := (-1)) hx hb hr (fun t ht hW => ⟨⟨(-1), (), rfl, rfl, by rw [ht]; exact hP9, hD9⟩, hS.F ht⟩) hS.2.2 dX16_here_24
def w9_X16_branches_1 : List Cond := [.code yX16_branches cX16_branches 8 none, .fieldLink RX16 58 "RegexloomModel$Reader" "groups" "I", .classLink RX16 59 RJx4a65c, .instantiable RJx4a65c 3, .initialized RJx4a65c, .code yJx4a65c_init_da8c8 cJx4a65c_init_da8c8 1 none, .code yJxc12de_init_da8c8 cJxc12de_init_da8c8 1 none, .code yJxa1e45_init_da8c8 cJxa1e45_init_da8c8 1 none, .methodLink RJxa1e45 1 objectInit, .instanceMethod objectInit, .code objectInit ⟨#[0xb1]⟩ 1 none, .initialized RJxa1e45, .methodLink RJxc12de 1 yJxa1e45_init_da8c8, .instanceMethod yJxa1e45_init_da8c8, .fieldLink RJxc12de 7 "java/util/AbstractList" "modCount" "I", .initialized RJxc12de, .methodLink RJx4a65c 1 yJxc12de_init_da8c8, .instanceMethod yJxc12de_init_da8c8, .fieldLink RJx4a65c 39 "java/util/ArrayList" "DEFAULTCAPACITY_EMPTY_ELEMENTDATA" "[Ljava/lang/Object;", .fieldLink RJx4a65c 9 "java/util/ArrayList" "elementData" "[Ljava/lang/Object;", .methodLink RX16 61 yJx4a65c_init_da8c8, .instanceMethod yJx4a65c_init_da8c8, .fieldLink RX16 39 "RegexloomModel$Reader" "at" "I", .fieldLink RX16 22 "RegexloomModel$Reader" "size" "I", .methodLink RX16 73 Lib.Math.max.name, .static Lib.Math.max.name, .initialized "java/lang/Math", .code Lib.Math.max.name Lib.Math.max.code 2 (some .int), .fieldLink RX16 79 "RegexloomModel$Node" "branches" "Ljava/util/ArrayList;", .methodLink RX16 69 yJx4a65c_add_9ea2d, .instanceMethod yJx4a65c_add_9ea2d, .selects RJx4a65c yJx4a65c_add_9ea2d yJx4a65c_add_9ea2d, .code yJx4a65c_add_9ea2d cJx4a65c_add_9ea2d 2 (some .boolean), .fieldLink RJx4a65c 63 "java/util/ArrayList" "modCount" "I", .sameField "java/util/ArrayList" "java/util/AbstractList" "modCount" "I", .fieldLink RJx4a65c 48 "java/util/ArrayList" "size" "I", .methodLink RJx4a65c 131 yJx4a65c_add_72be8, .instanceMethod yJx4a65c_add_72be8, .selects RJx4a65c yJx4a65c_add_72be8 yJx4a65c_add_72be8, .code yJx4a65c_add_72be8 cJx4a65c_add_72be8 4 none, .methodLink RJx4a65c 129 yJx4a65c_grow_d5877, .instanceMethod yJx4a65c_grow_d5877, .selects RJx4a65c yJx4a65c_grow_d5877 yJx4a65c_grow_d5877, .code yJx4a65c_grow_d5877 cJx4a65c_grow_d5877 1 (some (.array (.object "java/lang/Object"))), .methodLink RJx4a65c 69 yJx4a65c_grow_92f84, .instanceMethod yJx4a65c_grow_92f84, .selects RJx4a65c yJx4a65c_grow_92f84 yJx4a65c_grow_92f84, .code yJx4a65c_grow_92f84 cJx4a65c_grow_92f84 4 (some (.array (.object "java/lang/Object"))), .methodLink RJx4a65c 79 Lib.Math.max.name, .classLink RJx4a65c 7 "java/lang/Object", .methodLink RX16 62 yX16_here, .instanceMethod yX16_here, .selects RX16 yX16_here yX16_here, .initialized RX16, .code yX16_here cX16_here 1 (some .int)] ++ (u_ws RX16 TX16 8 ++ u_ws RJx4a65c TJx4a65c 3 ++ u_ws RX14 TX14 9)
set_option maxRecDepth 20000 in
theorem in9_X16_branches_1_RX16 : ∀ w ∈ u_ws RX16 TX16 8, w ∈ w9_X16_branches_1 := by decide +kernel
set_option maxRecDepth 20000 in
theorem in9_X16_branches_1_RJx4a65c : ∀ w ∈ u_ws RJx4a65c TJx4a65c 3, w ∈ w9_X16_branches_1 := by decide +kernel
set_option maxRecDepth 20000 in
theorem in9_X16_branches_1_RX14 : ∀ w ∈ u_ws RX14 TX14 9, w ∈ w9_X16_branches_1 := by decide +kernel
set_option maxRecDepth 20000 in
theorem g9_X16_branches_1_0 : GoodIn w9_X16_branches_1 (w9_Jx4a65c_init_da8c8_1) := goodIn_r _ [5, 6, 7, 8, 9, 10, 11, 12, 13, 14, 15, 16, 17, 18, 19, 63, 64, 65] (by decide +kernel) (by decide +kernel)
set_option maxRecDepth 20000 in
theorem g9_X16_branches_1_1 : GoodIn w9_X16_branches_1 (wsV RX16 69 RJx4a65c yJx4a65c_add_9ea2d w9_Jx4a65c_add_9ea2d_1) := goodIn_r _ [29, 30, 31, 4, 32, 33, 34, 19, 35, 36, 37, 38, 4, 39, 40, 41, 42, 43, 44, 45, 46, 47, 18, 48, 25, 26, 27, 49, 63, 64, 65] (by decide +kernel) (by decide +kernel)
set_option maxRecDepth 20000 in
theorem g9_X16_branches_1_2 : GoodIn w9_X16_branches_1 (wsV RX16 62 RX16 yX16_here w9_X16_here_1) := goodIn_r _ [50, 51, 52, 53, 54, 22, 23, 55, 56, 57, 58, 59, 60, 61, 62] (by decide +kernel) (by decide +kernel)
set_option maxHeartbeats 4000000 in
set_option maxRecDepth 100000 in
theorem c9_X16_branches_1 (l : Launch) (g : G9) (h0 h1 h2 h3 h4 sz : Nat) : Met l yX16_branches w9_X16_branches_1 ({ frames := 5, cells := 2, slots := 13, locals := 104 }) (mP g [(h0, .inr (17, [.ref h2, .int 0, .int 0, .int 0, .int 0, .int 0, .int 0, .ref h3])), (h1, .inr (15, [.int 6, .long 0, .int 0, .int 0, .ref h4, .null, .int 0, .int 0, .int 0])), (h4, .inr (2, [.int 0, .ref (g.2.2 0), .int 0]))] sz [.ref h0, .ref h1, .int 99, .int 0]) (va_Qv (fun _ : Nat × Nat => True) (fun (u : Nat × Nat) (t : State) => match u with | (q_1, q_2) => mB g [(h0, .inr (17, [.ref h2, .int 0, .int 0, .int 0, .int 0, .int 0, .int 0, .ref h3])), (h1, .inr (15, [.int 6, .long 0, .int 0, .int 0, .ref h4, .null, .int 0, .int 0, .int 0])), (h4, .inr (2, [.int 0, .ref (g.2.2 0), .int 0]))] sz [(h0, .inr (17, [.ref h2, .int 0, .int 0, .int 0, .int 0, .int 0, .int 0, .ref h3])), (h1, .inr (15, [.int 6, .long 0, .int 0, .int 0, .ref h4, .null, .int 0, .int 0, .int 0])), (h4, .inr (2, [.int 1, .ref q_2, .int 1])), (q_1, .inr (2, [.int 0, .ref (g.2.2 0), .int 0])), (q_2, .inl (g.2.1 6, 10, .inr (.inr (.inr (.inr (va_up (fun _ => none) 0 (some q_1)))))))] t) (va_A [(h0, .inr (17, [.ref h2, .int 0, .int 0, .int 0, .int 0, .int 0, .int 0, .ref h3])), (h1, .inr (15, [.int 6, .long 0, .int 0, .int 0, .ref h4, .null, .int 0, .int 0, .int 0])), (h4, .inr (2, [.int 0, .ref (g.2.2 0), .int 0]))] sz)) 2 13 (va_A [(h0, .inr (17, [.ref h2, .int 0, .int 0, .int 0, .int 0, .int 0, .int 0, .ref h3])), (h1, .inr (15, [.int 6, .long 0, .int 0, .int 0, .ref h4, .null, .int 0, .int 0, .int 0])), (h4, .inr (2, [.int 0, .ref (g.2.2 0), .int 0]))] sz) := by
  refine Met.ofW (cc := cX16_branches) (maxL := 8) (ret := none) (by decide) rfl ?_
  intro p e s m args below meth c s₁ B hml hv
  obtain ⟨rfl, hsz, hP, hD0, hE⟩ := hv
  have hx := B.exec
  have hb := B.bytes
  have hr := B.returns
  have hts := atoms_spec (ws := w9_X16_branches_1) B.pre
  have hown : s.vm.findClass RX16 = some m.cls := findClass_of_methodNamed B.named
  have hlocks := B.notSynchronized
  subst hsz
  have hD := hD0.self (sz := s.heap.size)
  generalize hAe : va_A [(h0, .inr (17, [.ref h2, .int 0, .int 0, .int 0, .int 0, .int 0, .int 0, .ref h3])), (h1, .inr (15, [.int 6, .long 0, .int 0, .int 0, .ref h4, .null, .int 0, .int 0, .int 0])), (h4, .inr (2, [.int 0, .ref (g.2.2 0), .int 0]))] s.heap.size = A at hD hE ⊢
  have hA : ∀ q : Nat, s.heap.size ≤ q → A q := fun q h => by rw [← hAe]; exact Or.inr h
  have hK := hE.1
  have hS : va_S A s.heap s.heap [] := va_S.rf
  replace hP : va_P g.1 vwCl [(h0, .inr (17, [.ref h2, .int 0, .int 0, .int 0, .int 0, .int 0, .int 0, .ref h3])), (h1, .inr (15, [.int 6, .long 0, .int 0, .int 0, .ref h4, .null, .int 0, .int 0, .int 0])), (h4, .inr (2, [.int 0, .ref (g.2.2 0), .int 0]))] s.heap := hP
  have hl := lv_entry ([.ref h0, .ref h1, .int 99, .int 0]) (n := 8) (Nat.le_of_ble_eq_true rfl)
  rw [lg_entry_eq]
  generalize (lg_sl ([.ref h0, .ref h1, .int 99, .int 0]) ++ List.replicate (8 - (lg_sl ([.ref h0, .ref h1, .int 99, .int 0])).length) Slot.unset).toArray = ls at hl ⊢
  replace hl : lv_has ls 8 [(0, .ref h0), (1, .ref h1), (2, .int 99), (3, .int 0)] := hl
  have hH0 : s.heap.size ≤ s.heap.size := Nat.le_refl _
  refine lv_aload_n hx hb dX16_branches_0 rfl (lv_at hl 0 rfl) ?_
  refine va_get (D := g.1) (ci := 17) (v := .int 0) (C := RX16) (T := TX16) (N := 8) hx hb hts in9_X16_branches_1_RX16 hown hK hP 0 rfl rfl 3 (by decide) (hts (.fieldLink RX16 58 "RegexloomModel$Reader" "groups" "I") (List.mem_of_getElem? (i := 1) rfl)) (fun _ h9 => h9) rfl dX16_branches_1 ?_
  refine lv_istore (lv' := [(4, .int 0), (0, .ref h0), (1, .ref h1), (2, .int 99), (3, .int 0)]) hx hb dX16_branches_4 hl (by decide) rfl (fun ls hl => ?_)
  refine lv_aload_n hx hb dX16_branches_6 rfl (lv_at hl 1 rfl) ?_
  refine va_get (D := g.1) (ci := 17) (v := .int 0) (C := RX16) (T := TX16) (N := 8) hx hb hts in9_X16_branches_1_RX16 hown hK hP 0 rfl rfl 3 (by decide) (hts (.fieldLink RX16 58 "RegexloomModel$Reader" "groups" "I") (List.mem_of_getElem? (i := 1) rfl)) (fun _ h9 => h9) rfl dX16_branches_7 ?_
  refine lv_istore (lv' := [(5, .int 0), (4, .int 0), (0, .ref h0), (1, .ref h1), (2, .int 99), (3, .int 0)]) hx hb dX16_branches_10 hl (by decide) rfl (fun ls hl => ?_)
  refine lv_iconst (v := 1) hx hb dX16_branches_12 (by decide) ?_
  refine lv_istore (lv' := [(6, .int 1), (5, .int 0), (4, .int 0), (0, .ref h0), (1, .ref h1), (2, .int 99), (3, .int 0)]) hx hb dX16_branches_13 hl (by decide) rfl (fun ls hl => ?_)
  refine lv_iload hx hb dX16_branches_15 (lv_at hl 0 rfl) ?_
  refine lv_if_eq (tgt := 158) hx hb dX16_branches_17 (by decide) (fun c9 => absurd c9 (by decide)) (fun _ => ?_)
  refine lv_aload_n hx hb dX16_branches_20 rfl (lv_at hl 3 rfl) ?_
  refine lv_iload_n hx hb dX16_branches_21 rfl (lv_at hl 6 rfl) ?_
  refine lv_if_eq (tgt := 30) hx hb dX16_branches_22 (by decide) (fun _ => ?_) (fun c9 => absurd (by decide) c9)
  refine lv_aload_n hx hb dX16_branches_30 rfl (lv_at hl 3 rfl) ?_
  refine va_get (D := g.1) (ci := 17) (v := .int 0) (C := RX16) (T := TX16) (N := 8) hx hb hts in9_X16_branches_1_RX16 hown hK hP 0 rfl rfl 3 (by decide) (hts (.fieldLink RX16 58 "RegexloomModel$Reader" "groups" "I") (List.mem_of_getElem? (i := 1) rfl)) (fun _ h9 => h9) rfl dX16_branches_31 ?_
  refine va_put (D := g.1) (ci := 17) (v := .int 0) (ty := .int) (C := RX16) (T := TX16) (N := 8) hx hb hts in9_X16_branches_1_RX16 tyX16 tyX16_ok nmX16 hown hK hP hD hS 0 rfl rfl 3 (by decide) (hts (.fieldLink RX16 58 "RegexloomModel$Reader" "groups" "I") (List.mem_of_getElem? (i := 1) rfl)) (fun _ h9 => h9) rfl (by decide +kernel) rfl rfl (Nat.le_of_ble_eq_true rfl) dX16_branches_34 (fun H locs hP hD hS => ?_)
  have hP : va_P g.1 vwCl [(h0, .inr (17, [.ref h2, .int 0, .int 0, .int 0, .int 0, .int 0, .int 0, .ref h3])), (h1, .inr (15, [.int 6, .long 0, .int 0, .int 0, .ref h4, .null, .int 0, .int 0, .int 0])), (h4, .inr (2, [.int 0, .ref (g.2.2 0), .int 0]))] H := hP
  have hD : va_D A [(h0, .inr (17, [.ref h2, .int 0, .int 0, .int 0, .int 0, .int 0, .int 0, .ref h3])), (h1, .inr (15, [.int 6, .long 0, .int 0, .int 0, .ref h4, .null, .int 0, .int 0, .int 0])), (h4, .inr (2, [.int 0, .ref (g.2.2 0), .int 0]))] := hD
  refine va_new (ci := 2) (fs := [.int 0, .null, .int 0]) (C := RJx4a65c) (T := TJx4a65c) (N := 3) hx hb hts in9_X16_branches_1_RJx4a65c tyJx4a65c tyJx4a65c_ok hown (hts (.classLink RX16 59 RJx4a65c) (List.mem_of_getElem? (i := 2) rfl)) (hts (.instantiable RJx4a65c 3) (List.mem_of_getElem? (i := 3) rfl)) (hts (.initialized RJx4a65c) (List.mem_of_getElem? (i := 4) rfl)) hK hP hD hS hA rfl (fun j hj => by rcases (show j = 0 ∨ j = 1 ∨ j = 2 by omega) with rfl | rfl | rfl <;> rfl) (Nat.le_of_ble_eq_true rfl) (Nat.le_of_ble_eq_true rfl) dX16_branches_37 (fun q_1 H hP hD hS => ?_)
  have hP : va_P g.1 vwCl [(h0, .inr (17, [.ref h2, .int 0, .int 0, .int 0, .int 0, .int 0, .int 0, .ref h3])), (h1, .inr (15, [.int 6, .long 0, .int 0, .int 0, .ref h4, .null, .int 0, .int 0, .int 0])), (h4, .inr (2, [.int 0, .ref (g.2.2 0), .int 0])), (q_1, .inr (2, [.int 0, .null, .int 0]))] H := hP
  have hD : va_D A [(h0, .inr (17, [.ref h2, .int 0, .int 0, .int 0, .int 0, .int 0, .int 0, .ref h3])), (h1, .inr (15, [.int 6, .long 0, .int 0, .int 0, .ref h4, .null, .int 0, .int 0, .int 0])), (h4, .inr (2, [.int 0, .ref (g.2.2 0), .int 0])), (q_1, .inr (2, [.int 0, .null, .int 0]))] := hD
  refine lv_dup hx hb dX16_branches_40 rfl ?_
  have hPc := hP.sub (ws' := [(q_1, .inr (2, [.int 0, .null, .int 0]))]) [3] rfl
  have hDc := hD.sub (ws' := [(q_1, .inr (2, [.int 0, .null, .int 0]))]) [3] (by decide) rfl
  have hFc := va_free (wc := [(q_1, .inr (2, [.int 0, .null, .int 0]))]) hD hS hA [3] rfl
  refine va_callv (va_runI (As := []) (rest := [.ref q_1]) ⟨hx, hb, hml, hown, hts⟩ (c9_Jx4a65c_init_da8c8_1 l g q_1 _) (cwI 0 hts g9_X16_branches_1_0 rfl rfl rfl (hts (.initialized RJx4a65c) (List.mem_of_getElem? (i := 4) rfl)) (hts (.methodLink RX16 61 yJx4a65c_init_da8c8) (List.mem_of_getElem? (i := 20) rfl)) (hts (.instanceMethod yJx4a65c_init_da8c8) (List.mem_of_getElem? (i := 21) rfl)) rfl (by decide +kernel) ⟨Nat.le_of_ble_eq_true rfl, Nat.le_of_ble_eq_true rfl⟩) (mPreS (g := g) (wc := [(q_1, .inr (2, [.int 0, .null, .int 0]))]) hE hS hPc hDc hFc) rfl rfl hl.1 rfl (lv_room (Nat.le_of_ble_eq_true rfl)) dX16_branches_41 ⟨Nat.le_of_ble_eq_true rfl, Nat.le_of_ble_eq_true rfl⟩) hS (fun q _ h => hFc q h) hFc (fun u t H1 locs ht hvm hw hB hz1 hk1 hS => ?_)
  obtain ⟨hP1, hD1⟩ := hB
  rw [ht] at hP1
  obtain ⟨hP, hD⟩ := va_join (wr := [(h0, .inr (17, [.ref h2, .int 0, .int 0, .int 0, .int 0, .int 0, .int 0, .ref h3])), (h1, .inr (15, [.int 6, .long 0, .int 0, .int 0, .ref h4, .null, .int 0, .int 0, .int 0])), (h4, .inr (2, [.int 0, .ref (g.2.2 0), .int 0]))]) (w1 := [(q_1, .inr (2, [.int 0, .ref (g.2.2 0), .int 0]))]) hP hD [3] [0, 1, 2] rfl rfl (by decide) (by decide) hk1 hFc hP1 hD1
  clear hP1 hD1 hPc hDc hFc hk1 hz1 hvm ht
  generalize H1 = H at hP hS ⊢
  have hP : va_P g.1 vwCl [(h0, .inr (17, [.ref h2, .int 0, .int 0, .int 0, .int 0, .int 0, .int 0, .ref h3])), (h1, .inr (15, [.int 6, .long 0, .int 0, .int 0, .ref h4, .null, .int 0, .int 0, .int 0])), (h4, .inr (2, [.int 0, .ref (g.2.2 0), .int 0])), (q_1, .inr (2, [.int 0, .ref (g.2.2 0), .int 0]))] H := hP
  have hD : va_D A [(h0, .inr (17, [.ref h2, .int 0, .int 0, .int 0, .int 0, .int 0, .int 0, .ref h3])), (h1, .inr (15, [.int 6, .long 0, .int 0, .int 0, .ref h4, .null, .int 0, .int 0, .int 0])), (h4, .inr (2, [.int 0, .ref (g.2.2 0), .int 0])), (q_1, .inr (2, [.int 0, .ref (g.2.2 0), .int 0]))] := hD
  refine lv_astore (lv' := [(7, .ref q_1), (6, .int 1), (5, .int 0), (4, .int 0), (0, .ref h0), (1, .ref h1), (2, .int 99), (3, .int 0)]) hx hb dX16_branches_44 hl (by decide) rfl (fun ls hl => ?_)
  refine lv_aload_n hx hb dX16_branches_46 rfl (lv_at hl 4 rfl) ?_
  refine va_get (D := g.1) (ci := 17) (v := .int 0) (C := RX16) (T := TX16) (N := 8) hx hb hts in9_X16_branches_1_RX16 hown hK hP 0 rfl rfl 2 (by decide) (hts (.fieldLink RX16 39 "RegexloomModel$Reader" "at" "I") (List.mem_of_getElem? (i := 22) rfl)) (fun _ h9 => h9) rfl dX16_branches_47 ?_
  refine lv_aload_n hx hb dX16_branches_50 rfl (lv_at hl 4 rfl) ?_
  refine va_get (D := g.1) (ci := 17) (v := .int 0) (C := RX16) (T := TX16) (N := 8) hx hb hts in9_X16_branches_1_RX16 hown hK hP 0 rfl rfl 1 (by decide) (hts (.fieldLink RX16 22 "RegexloomModel$Reader" "size" "I") (List.mem_of_getElem? (i := 23) rfl)) (fun _ h9 => h9) rfl dX16_branches_51 ?_
  refine lv_icmp_ge (tgt := 88) hx hb dX16_branches_54 (by decide) (fun _ => ?_) (fun c9 => absurd (by decide) c9)
  refine lv_iload hx hb dX16_branches_88 (lv_at hl 2 rfl) ?_
  refine lv_aload_n hx hb dX16_branches_90 rfl (lv_at hl 4 rfl) ?_
  refine va_get (D := g.1) (ci := 17) (v := .int 0) (C := RX16) (T := TX16) (N := 8) hx hb hts in9_X16_branches_1_RX16 hown hK hP 0 rfl rfl 3 (by decide) (hts (.fieldLink RX16 58 "RegexloomModel$Reader" "groups" "I") (List.mem_of_getElem? (i := 1) rfl)) (fun _ h9 => h9) rfl dX16_branches_91 ?_
  refine va_mmax hx hb (by rw [hml]; exact hl.1.symm) hown (hts (.methodLink RX16 73 Lib.Math.max.name) (List.mem_of_getElem? (i := 24) rfl)) (hts (.static Lib.Math.max.name) (List.mem_of_getElem? (i := 25) rfl)) (hts (.initialized "java/lang/Math") (List.mem_of_getElem? (i := 26) rfl)) (hts (.code Lib.Math.max.name Lib.Math.max.code 2 (some .int)) (List.mem_of_getElem? (i := 27) rfl)) (Nat.le_of_ble_eq_true rfl) (Nat.le_of_ble_eq_true rfl) (Nat.le_of_ble_eq_true rfl) (Nat.le_of_ble_eq_true rfl) dX16_branches_94 ?_
  refine e_top (y := 0) (by decide) ?_
  refine lv_istore (lv' := [(5, .int 0), (7, .ref q_1), (6, .int 1), (4, .int 0), (0, .ref h0), (1, .ref h1), (2, .int 99), (3, .int 0)]) hx hb dX16_branches_97 hl (by decide) rfl (fun ls hl => ?_)
  refine lv_aload_n hx hb dX16_branches_99 rfl (lv_at hl 5 rfl) ?_
  refine va_get (D := g.1) (ci := 15) (v := .ref h4) (C := RX14) (T := TX14) (N := 9) hx hb hts in9_X16_branches_1_RX14 hown hK hP 1 rfl rfl 4 (by decide) (hts (.fieldLink RX16 79 "RegexloomModel$Node" "branches" "Ljava/util/ArrayList;") (List.mem_of_getElem? (i := 28) rfl)) (fun _ h9 => h9) rfl dX16_branches_100 ?_
  refine lv_aload hx hb dX16_branches_103 (lv_at hl 1 rfl) ?_
  have hPc := hP.sub (ws' := [(h4, .inr (2, [.int 0, .ref (g.2.2 0), .int 0])), (q_1, .inr (2, [.int 0, .ref (g.2.2 0), .int 0]))]) [2, 3] rfl
  have hDc := hD.sub (ws' := [(h4, .inr (2, [.int 0, .ref (g.2.2 0), .int 0])), (q_1, .inr (2, [.int 0, .ref (g.2.2 0), .int 0]))]) [2, 3] (by decide) rfl
  have hFc := va_free (wc := [(h4, .inr (2, [.int 0, .ref (g.2.2 0), .int 0])), (q_1, .inr (2, [.int 0, .ref (g.2.2 0), .int 0]))]) hD hS hA [2, 3] rfl
  refine va_calli (va_runV (As := [.ref q_1]) (rest := []) ⟨hx, hb, hml, hown, hts⟩ (c9_Jx4a65c_add_9ea2d_1 l g h4 q_1 _) (cwV 1 hts g9_X16_branches_1_1 rfl rfl rfl (by decide +kernel) ⟨Nat.le_of_ble_eq_true rfl, Nat.le_of_ble_eq_true rfl⟩) (mPreV (g := g) (wc := [(h4, .inr (2, [.int 0, .ref (g.2.2 0), .int 0])), (q_1, .inr (2, [.int 0, .ref (g.2.2 0), .int 0]))]) (C := RJx4a65c) (ci := 2) (q0 := 0) hE hS hPc hDc hFc rfl rfl) rfl rfl hl.1 rfl (lv_room (Nat.le_of_ble_eq_true rfl)) dX16_branches_105 ⟨Nat.le_of_ble_eq_true rfl, Nat.le_of_ble_eq_true rfl⟩) hS (fun q _ h => hFc q h) hFc (fun r_1 u t H1 locs ht hvm hw hB hz1 hk1 hS => ?_)
  obtain ⟨q_2, rfl⟩ : ∃ z, z = u := ⟨_, rfl⟩
  replace hw : 1 = r_1 := Eq.symm hw
  subst hw
  obtain ⟨hP1, hD1⟩ := hB
  rw [ht] at hP1
  obtain ⟨hP, hD⟩ := va_join (wr := [(h0, .inr (17, [.ref h2, .int 0, .int 0, .int 0, .int 0, .int 0, .int 0, .ref h3])), (h1, .inr (15, [.int 6, .long 0, .int 0, .int 0, .ref h4, .null, .int 0, .int 0, .int 0]))]) (w1 := [(h4, .inr (2, [.int 1, .ref q_2, .int 1])), (q_1, .inr (2, [.int 0, .ref (g.2.2 0), .int 0])), (q_2, .inl (g.2.1 6, 10, .inr (.inr (.inr (.inr (va_up (fun _ => none) 0 (some q_1)))))))]) hP hD [2, 3] [0, 1] rfl rfl (by decide) (by decide) hk1 hFc hP1 hD1
  clear hP1 hD1 hPc hDc hFc hk1 hz1 hvm ht
  generalize H1 = H at hP hS ⊢
  have hP : va_P g.1 vwCl [(h0, .inr (17, [.ref h2, .int 0, .int 0, .int 0, .int 0, .int 0, .int 0, .ref h3])), (h1, .inr (15, [.int 6, .long 0, .int 0, .int 0, .ref h4, .null, .int 0, .int 0, .int 0])), (h4, .inr (2, [.int 1, .ref q_2, .int 1])), (q_1, .inr (2, [.int 0, .ref (g.2.2 0), .int 0])), (q_2, .inl (g.2.1 6, 10, .inr (.inr (.inr (.inr (va_up (fun _ => none) 0 (some q_1)))))))] H := hP
  have hD : va_D A [(h0, .inr (17, [.ref h2, .int 0, .int 0, .int 0, .int 0, .int 0, .int 0, .ref h3])), (h1, .inr (15, [.int 6, .long 0, .int 0, .int 0, .ref h4, .null, .int 0, .int 0, .int 0])), (h4, .inr (2, [.int 1, .ref q_2, .int 1])), (q_1, .inr (2, [.int 0, .ref (g.2.2 0), .int 0])), (q_2, .inl (g.2.1 6, 10, .inr (.inr (.inr (.inr (va_up (fun _ => none) 0 (some q_1)))))))] := hD
  refine lv_pop hx hb dX16_branches_108 rfl ?_
  refine lv_aload_n hx hb dX16_branches_109 rfl (lv_at hl 4 rfl) ?_
  have hPc := hP.sub (ws' := [(h0, .inr (17, [.ref h2, .int 0, .int 0, .int 0, .int 0, .int 0, .int 0, .ref h3]))]) [0] rfl
  have hDc := hD.sub (ws' := [(h0, .inr (17, [.ref h2, .int 0, .int 0, .int 0, .int 0, .int 0, .int 0, .ref h3]))]) [0] (by decide) rfl
  have hFc := va_free (wc := [(h0, .inr (17, [.ref h2, .int 0, .int 0, .int 0, .int 0, .int 0, .int 0, .ref h3]))]) hD hS hA [0] rfl
  refine va_calli (va_runV (As := []) (rest := []) ⟨hx, hb, hml, hown, hts⟩ (c9_X16_here_1 l g h0 h2 h3 _) (cwV 0 hts g9_X16_branches_1_2 rfl rfl rfl (by decide +kernel) ⟨Nat.le_of_ble_eq_true rfl, Nat.le_of_ble_eq_true rfl⟩) (mPreV (g := g) (wc := [(h0, .inr (17, [.ref h2, .int 0, .int 0, .int 0, .int 0, .int 0, .int 0, .ref h3]))]) (C := RX16) (ci := 17) (q0 := 0) hE hS hPc hDc hFc rfl rfl) rfl rfl hl.1 rfl (lv_room (Nat.le_of_ble_eq_true rfl)) dX16_branches_110 ⟨Nat.le_of_ble_eq_true rfl, Nat.le_of_ble_eq_true rfl⟩) hS (fun q _ h => hFc q h) hFc (fun r_2 u t H1 locs ht hvm hw hB hz1 hk1 hS => ?_)
  replace hw : (-1) = r_2 := Eq.symm hw
  subst hw
  obtain ⟨hP1, hD1⟩ := hB
  rw [ht] at hP1
  obtain ⟨hP, hD⟩ := va_join (wr := [(h1, .inr (15, [.int 6, .long 0, .int 0, .int 0, .ref h4, .null, .int 0, .int 0, .int 0])), (h4, .inr (2, [.int 1, .ref q_2, .int 1])), (q_1, .inr (2, [.int 0, .ref (g.2.2 0), .int 0])), (q_2, .inl (g.2.1 6, 10, .inr (.inr (.inr (.inr (va_up (fun _ => none) 0 (some q_1)))))))]) (w1 := [(h0, .inr (17, [.ref h2, .int 0, .int 0, .int 0, .int 0, .int 0, .int 0, .ref h3]))]) hP hD [0] [1, 2, 3, 4] rfl rfl (by decide) (by decide) hk1 hFc hP1 hD1
  clear hP1 hD1 hPc hDc hFc hk1 hz1 hvm ht
  generalize H1 = H at hP hS ⊢
  have hP : va_P g.1 vwCl [(h1, .inr (15, [.int 6, .long 0, .int 0, .int 0, .ref h4, .null, .int 0, .int 0, .int 0])), (h4, .inr (2, [.int 1, .ref q_2, .int 1])), (q_1, .inr (2, [.int 0, .ref (g.2.2 0), .int 0])), (q_2, .inl (g.2.1 6, 10, .inr (.inr (.inr (.inr (va_up (fun _ => none) 0 (some q_1))))))), (h0, .inr (17, [.ref h2, .int 0, .int 0, .int 0, .int 0, .int 0, .int 0, .ref h3]))] H := hP
  have hD : va_D A [(h1, .inr (15, [.int 6, .long 0, .int 0, .int 0, .ref h4, .null, .int 0, .int 0, .int 0])), (h4, .inr (2, [.int 1, .ref q_2, .int 1])), (q_1, .inr (2, [.int 0, .ref (g.2.2 0), .int 0])), (q_2, .inl (g.2.1 6, 10, .inr (.inr (.inr (.inr (va_up (fun _ => none) 0 (some q_1))))))), (h0, .inr (17, [.ref h2, .int 0, .int 0, .int 0, .int 0, .int 0, .int 0, .ref h3]))] := hD
  refine lv_bipush (v := 124) hx hb dX16_branches_113 (by decide) ?_
  refine lv_icmp_ne (tgt := 133) hx hb dX16_branches_115 (by decide) (fun _ => ?_) (fun c9 => absurd c9 (by decide))
  refine lv_iconst (v := 0) hx hb dX16_branches_133 (by decide) ?_
  refine lv_istore (lv' := [(6, .int 0), (5, .int 0), (7, .ref q_1), (4, .int 0), (0, .ref h0), (1, .ref h1), (2, .int 99), (3, .int 0)]) hx hb dX16_branches_134 hl (by decide) rfl (fun ls hl => ?_)
  refine lv_aload_n hx hb dX16_branches_136 rfl (lv_at hl 4 rfl) ?_
  refine lv_dup hx hb dX16_branches_137 rfl ?_
  refine va_get (D := g.1) (ci := 17) (v := .int 0) (C := RX16) (T := TX16) (N := 8) hx hb hts in9_X16_branches_1_RX16 hown hK hP 4 rfl rfl 2 (by decide) (hts (.fieldLink RX16 39 "RegexloomModel$Reader" "at" "I") (List.mem_of_getElem? (i := 22) rfl)) (fun _ h9 => h9) rfl dX16_branches_138 ?_
  refine lv_iload hx hb dX16_branches_141 (lv_at hl 0 rfl) ?_
  refine lv_if_eq (tgt := 150) hx hb dX16_branches_143 (by decide) (fun _ => ?_) (fun c9 => absurd (by decide) c9)
  refine lv_iconst (v := 0) hx hb dX16_branches_150 (by decide) ?_
  refine lv_iadd hx hb dX16_branches_151 ?_
  refine e_top (y := 0) (by decide) ?_
  refine va_put (D := g.1) (ci := 17) (v := .int 0) (ty := .int) (C := RX16) (T := TX16) (N := 8) hx hb hts in9_X16_branches_1_RX16 tyX16 tyX16_ok nmX16 hown hK hP hD hS 4 rfl rfl 2 (by decide) (hts (.fieldLink RX16 39 "RegexloomModel$Reader" "at" "I") (List.mem_of_getElem? (i := 22) rfl)) (fun _ h9 => h9) rfl (by decide +kernel) rfl rfl (Nat.le_of_ble_eq_true rfl) dX16_branches_152 (fun H locs hP hD hS => ?_)
  have hP : va_P g.1 vwCl [(h1, .inr (15, [.int 6, .long 0, .int 0, .int 0, .ref h4, .null, .int 0, .int 0, .int 0])), (h4, .inr (2, [.int 1, .ref q_2, .int 1])), (q_1, .inr (2, [.int 0, .ref (g.2.2 0), .int 0])), (q_2, .inl (g.2.1 6, 10, .inr (.inr (.inr (.inr (va_up (fun _ => none) 0 (some q_1))))))), (h0, .inr (17, [.ref h2, .int 0, .int 0, .int 0, .int 0, .int 0, .int 0, .ref h3]))] H := hP
  have hD : va_D A [(h1, .inr (15, [.int 6, .long 0, .int 0, .int 0, .ref h4, .null, .int 0, .int 0, .int 0])), (h4, .inr (2, [.int 1, .ref q_2, .int 1])), (q_1, .inr (2, [.int 0, .ref (g.2.2 0), .int 0])), (q_2, .inl (g.2.1 6, 10, .inr (.inr (.inr (.inr (va_up (fun _ => none) 0 (some q_1))))))), (h0, .inr (17, [.ref h2, .int 0, .int 0, .int 0, .int 0, .int 0, .int 0, .ref h3]))] := hD
  refine lv_goto (tgt := 15) hx hb dX16_branches_155 (by decide) ?_
  refine lv_iload hx hb dX16_branches_15 (lv_at hl 0 rfl) ?_
  refine lv_if_eq (tgt := 158) hx hb dX16_branches_17 (by decide) (fun _ => ?_) (fun c9 => absurd (by decide) c9)
  refine lv_aload_n hx hb dX16_branches_158 rfl (lv_at hl 4 rfl) ?_
  refine lv_iload_n hx hb dX16_branches_159 rfl (lv_at hl 7 rfl) ?_
  refine lv_if_eq (tgt := 168) hx hb dX16_branches_160 (by decide) (fun _ => ?_) (fun c9 => absurd (by decide) c9)
  refine lv_aload_n hx hb dX16_branches_168 rfl (lv_at hl 4 rfl) ?_
  refine va_get (D := g.1) (ci := 17) (v := .int 0) (C := RX16) (T := TX16) (N := 8) hx hb hts in9_X16_branches_1_RX16 hown hK hP 4 rfl rfl 3 (by decide) (hts (.fieldLink RX16 58 "RegexloomModel$Reader" "groups" "I") (List.mem_of_getElem? (i := 1) rfl)) (fun _ h9 => h9) rfl dX16_branches_169 ?_
  refine va_put (D := g.1) (ci := 17) (v := .int 0) (ty := .int) (C := RX16) (T := TX16) (N := 8) hx hb hts in9_X16_branches_1_RX16 tyX16 tyX16_ok nmX16 hown hK hP hD hS 4 rfl rfl 3 (by decide) (hts (.fieldLink RX16 58 "RegexloomModel$Reader" "groups" "I") (List.mem_of_getElem? (i := 1) rfl)) (fun _ h9 => h9) rfl (by decide +kernel) rfl rfl (Nat.le_of_ble_eq_true rfl) dX16_branches_172 (fun H locs hP hD hS => ?_)
  have hP : va_P g.1 vwCl [(h1, .inr (15, [.int 6, .long 0, .int 0, .int 0, .ref h4, .null, .int 0, .int 0, .int 0])), (h4, .inr (2, [.int 1, .ref q_2, .int 1])), (q_1, .inr (2, [.int 0, .ref (g.2.2 0), .int 0])), (q_2, .inl (g.2.1 6, 10, .inr (.inr (.inr (.inr (va_up (fun _ => none) 0 (some q_1))))))), (h0, .inr (17, [.ref h2, .int 0, .int 0, .int 0, .int 0, .int 0, .int 0, .ref h3]))] H := hP
  have hD : va_D A [(h1, .inr (15, [.int 6, .long 0, .int 0, .int 0, .ref h4, .null, .int 0, .int 0, .int 0])), (h4, .inr (2, [.int 1, .ref q_2, .int 1])), (q_1, .inr (2, [.int 0, .ref (g.2.2 0), .int 0])), (q_2, .inl (g.2.1 6, 10, .inr (.inr (.inr (.inr (va_up (fun _ => none) 0 (some q_1))))))), (h0, .inr (17, [.ref h2, .int 0, .int 0, .int 0, .int 0, .int 0, .int 0, .ref h3]))] := hD
  have hP9 := hP.sub (ws' := [(h0, .inr (17, [.ref h2, .int 0, .int 0, .int 0, .int 0, .int 0, .int 0, .ref h3])), (h1, .inr (15, [.int 6, .long 0, .int 0, .int 0, .ref h4, .null, .int 0, .int 0, .int 0])), (h4, .inr (2, [.int 1, .ref q_2, .int 1])), (q_1, .inr (2, [.int 0, .ref (g.2.2 0), .int 0])), (q_2, .inl (g.2.1 6, 10, .inr (.inr (.inr (.inr (va_up (fun _ => none) 0 (some q_1)))))))]) [4, 0, 1, 2, 3] rfl
  have hD9 := hD.sub (ws' := [(h0, .inr (17, [.ref h2, .int 0, .int 0, .int 0, .int 0, .int 0, .int 0, .ref h3])), (h1, .inr (15, [.int 6, .long 0, .int 0, .int 0, .ref h4, .null, .int 0, .int 0, .int 0])), (h4, .inr (2, [.int 1, .ref q_2, .int 1])), (q_1, .inr (2, [.int 0, .ref (g.2.2 0), .int 0])), (q_2, .inl (g.2.1 6, 10, .inr (.inr (.inr (.inr (va_up (fun _ => none) 0 (some q_1)))))))]) [4, 0, 1, 2, 3] (by decide) rfl
  subst hAe
  exact W.vret hx hb hr (fun t ht hW => ⟨⟨(q_1, q_2), rfl, trivial, by rw [ht]; exact hP9, hD9⟩, hS.F ht⟩) hS.2.2 dX16_branches_175
def w9_X16_all_1 : List Cond := [.code yX16_all cX16_all 1 (some (.object "RegexloomModel$Pattern")), .fieldLink RX16 12 "RegexloomModel$Reader" "made" "LRegexloomModel$Pattern;", .classLink RX16 26 RX14, .instantiable RX14 9, .initialized RX14, .code yX14_init cX14_init 2 none, .methodLink RX14 3 objectInit, .instanceMethod objectInit, .code objectInit ⟨#[0xb1]⟩ 1 none, .classLink RX14 9 RJx4a65c, .instantiable RJx4a65c 3, .initialized RJx4a65c, .code yJx4a65c_init_da8c8 cJx4a65c_init_da8c8 1 none, .code yJxc12de_init_da8c8 cJxc12de_init_da8c8 1 none, .code yJxa1e45_init_da8c8 cJxa1e45_init_da8c8 1 none, .methodLink RJxa1e45 1 objectInit, .initialized RJxa1e45, .methodLink RJxc12de 1 yJxa1e45_init_da8c8, .instanceMethod yJxa1e45_init_da8c8, .fieldLink RJxc12de 7 "java/util/AbstractList" "modCount" "I", .initialized RJxc12de, .methodLink RJx4a65c 1 yJxc12de_init_da8c8, .instanceMethod yJxc12de_init_da8c8, .fieldLink RJx4a65c 39 "java/util/ArrayList" "DEFAULTCAPACITY_EMPTY_ELEMENTDATA" "[Ljava/lang/Object;", .fieldLink RJx4a65c 9 "java/util/ArrayList" "elementData" "[Ljava/lang/Object;", .methodLink RX14 11 yJx4a65c_init_da8c8, .instanceMethod yJx4a65c_init_da8c8, .fieldLink RX14 12 "RegexloomModel$Node" "branches" "Ljava/util/ArrayList;", .fieldLink RX14 18 "RegexloomModel$Node" "kind" "I", .methodLink RX16 28 yX14_init, .instanceMethod yX14_init, .fieldLink RX16 31 "RegexloomModel$Pattern" "whole" "LRegexloomModel$Node;", .methodLink RX16 35 yX16_branches, .instanceMethod yX16_branches, .selects RX16 yX16_branches yX16_branches, .initialized RX16, .code yX16_branches cX16_branches 8 none, .fieldLink RX16 58 "RegexloomModel$Reader" "groups" "I", .classLink RX16 59 RJx4a65c, .methodLink RX16 61 yJx4a65c_init_da8c8, .fieldLink RX16 39 "RegexloomModel$Reader" "at" "I", .fieldLink RX16 22 "RegexloomModel$Reader" "size" "I", .methodLink RX16 73 Lib.Math.max.name, .static Lib.Math.max.name, .initialized "java/lang/Math", .code Lib.Math.max.name Lib.Math.max.code 2 (some .int), .fieldLink RX16 79 "RegexloomModel$Node" "branches" "Ljava/util/ArrayList;", .methodLink RX16 69 yJx4a65c_add_9ea2d, .instanceMethod yJx4a65c_add_9ea2d, .selects RJx4a65c yJx4a65c_add_9ea2d yJx4a65c_add_9ea2d, .code yJx4a65c_add_9ea2d cJx4a65c_add_9ea2d 2 (some .boolean), .fieldLink RJx4a65c 63 "java/util/ArrayList" "modCount" "I", .sameField "java/util/ArrayList" "java/util/AbstractList" "modCount" "I", .fieldLink RJx4a65c 48 "java/util/ArrayList" "size" "I", .methodLink RJx4a65c 131 yJx4a65c_add_72be8, .instanceMethod yJx4a65c_add_72be8, .selects RJx4a65c yJx4a65c_add_72be8 yJx4a65c_add_72be8, .code yJx4a65c_add_72be8 cJx4a65c_add_72be8 4 none, .methodLink RJx4a65c 129 yJx4a65c_grow_d5877, .instanceMethod yJx4a65c_grow_d5877, .selects RJx4a65c yJx4a65c_grow_d5877 yJx4a65c_grow_d5877, .code yJx4a65c_grow_d5877 cJx4a65c_grow_d5877 1 (some (.array (.object "java/lang/Object"))), .methodLink RJx4a65c 69 yJx4a65c_grow_92f84, .instanceMethod yJx4a65c_grow_92f84, .selects RJx4a65c yJx4a65c_grow_92f84 yJx4a65c_grow_92f84, .code yJx4a65c_grow_92f84 cJx4a65c_grow_92f84 4 (some (.array (.object "java/lang/Object"))), .methodLink RJx4a65c 79 Lib.Math.max.name, .classLink RJx4a65c 7 "java/lang/Object", .methodLink RX16 62 yX16_here, .instanceMethod yX16_here, .selects RX16 yX16_here yX16_here, .code yX16_here cX16_here 1 (some .int), .fieldLink RX16 45 "RegexloomModel$Reader" "referred" "I", .fieldLink RX16 48 "RegexloomModel$Reader" "told" "I", .fieldLink RX16 51 "RegexloomModel$Pattern" "groups" "I"] ++ (u_ws RX16 TX16 8 ++ u_ws RX14 TX14 9 ++ u_ws RJx4a65c TJx4a65c 3 ++ u_ws RX15 TX15 6)
set_option maxRecDepth 20000 in
theorem in9_X16_all_1_RX16 : ∀ w ∈ u_ws RX16 TX16 8, w ∈ w9_X16_all_1 := by decide +kernel
set_option maxRecDepth 20000 in
theorem in9_X16_all_1_RX14 : ∀ w ∈ u_ws RX14 TX14 9, w ∈ w9_X16_all_1 := by decide +kernel
set_option maxRecDepth 20000 in
theorem in9_X16_all_1_RJx4a65c : ∀ w ∈ u_ws RJx4a65c TJx4a65c 3, w ∈ w9_X16_all_1 := by decide +kernel
set_option maxRecDepth 20000 in
theorem in9_X16_all_1_RX15 : ∀ w ∈ u_ws RX15 TX15 6, w ∈ w9_X16_all_1 := by decide +kernel
set_option maxRecDepth 20000 in
theorem g9_X16_all_1_0 : GoodIn w9_X16_all_1 (w9_X14_init_1) := goodIn_r _ [5, 6, 7, 8, 9, 10, 11, 12, 13, 14, 15, 16, 17, 18, 19, 20, 21, 22, 23, 24, 25, 26, 27, 28, 92, 93, 94, 83, 84, 85, 86, 87, 88, 89, 90, 91] (by decide +kernel) (by decide +kernel)
set_option maxRecDepth 20000 in
theorem g9_X16_all_1_1 : GoodIn w9_X16_all_1 (wsV RX16 35 RX16 yX16_branches w9_X16_branches_1) := goodIn_r _ [32, 33, 34, 35, 36, 37, 38, 10, 11, 12, 13, 14, 15, 7, 8, 16, 17, 18, 19, 20, 21, 22, 23, 24, 39, 26, 40, 41, 42, 43, 44, 45, 46, 47, 48, 49, 50, 51, 52, 53, 54, 55, 56, 57, 58, 59, 60, 61, 62, 63, 64, 65, 66, 67, 68, 69, 70, 35, 71, 75, 76, 77, 78, 79, 80, 81, 82, 92, 93, 94, 83, 84, 85, 86, 87, 88, 89, 90, 91] (by decide +kernel) (by decide +kernel)
set_option maxHeartbeats 4000000 in
set_option maxRecDepth 100000 in
theorem c9_X16_all_1 (l : Launch) (g : G9) (h0 h1 h2 h3 sz : Nat) : Met l yX16_all w9_X16_all_1 ({ frames := 6, cells := 4, slots := 25, locals := 131 }) (mP g [(h0, .inr (17, [.ref h1, .int 0, .int 0, .int 0, .int 0, .int 0, .int 0, .ref h2])), (h2, .inr (16, [.null, .int 0, .ref h3, .int 0, .int 0, .null]))] sz [.ref h0]) (va_Qr (fun _ : Nat × Nat × Nat × Nat => True) (fun (u : Nat × Nat × Nat × Nat) (ra : Nat) (t : State) => match u with | (q_1, q_2, q_3, q_4) => ra = h2 ∧ mB g [(h0, .inr (17, [.ref h1, .int 0, .int 0, .int 0, .int 0, .int 0, .int 0, .ref h2])), (h2, .inr (16, [.null, .int 0, .ref h3, .int 0, .int 0, .null]))] sz [(h0, .inr (17, [.ref h1, .int 0, .int 0, .int 0, .int 0, .int 0, .int 0, .ref h2])), (h2, .inr (16, [.ref q_1, .int 0, .ref h3, .int 0, .int 0, .null])), (q_1, .inr (15, [.int 6, .long 0, .int 0, .int 0, .ref q_2, .null, .int 0, .int 0, .int 0])), (q_2, .inr (2, [.int 1, .ref q_4, .int 1])), (q_3, .inr (2, [.int 0, .ref (g.2.2 0), .int 0])), (q_4, .inl (g.2.1 6, 10, .inr (.inr (.inr (.inr (va_up (fun _ => none) 0 (some q_3)))))))] t) (va_A [(h0, .inr (17, [.ref h1, .int 0, .int 0, .int 0, .int 0, .int 0, .int 0, .ref h2])), (h2, .inr (16, [.null, .int 0, .ref h3, .int 0, .int 0, .null]))] sz)) 4 25 (va_A [(h0, .inr (17, [.ref h1, .int 0, .int 0, .int 0, .int 0, .int 0, .int 0, .ref h2])), (h2, .inr (16, [.null, .int 0, .ref h3, .int 0, .int 0, .null]))] sz) := by
  refine Met.ofW (cc := cX16_all) (maxL := 1) (ret := (some (.object "RegexloomModel$Pattern"))) (by decide) rfl ?_
  intro p e s m args below meth c s₁ B hml hv
  obtain ⟨rfl, hsz, hP, hD0, hE⟩ := hv
  have hx := B.exec
  have hb := B.bytes
  have hr := B.returns
  have hts := atoms_spec (ws := w9_X16_all_1) B.pre
  have hown : s.vm.findClass RX16 = some m.cls := findClass_of_methodNamed B.named
  have hlocks := B.notSynchronized
  subst hsz
  have hD := hD0.self (sz := s.heap.size)
  generalize hAe : va_A [(h0, .inr (17, [.ref h1, .int 0, .int 0, .int 0, .int 0, .int 0, .int 0, .ref h2])), (h2, .inr (16, [.null, .int 0, .ref h3, .int 0, .int 0, .null]))] s.heap.size = A at hD hE ⊢
  have hA : ∀ q : Nat, s.heap.size ≤ q → A q := fun q h => by rw [← hAe]; exact Or.inr h
  have hK := hE.1
  have hS : va_S A s.heap s.heap [] := va_S.rf
  replace hP : va_P g.1 vwCl [(h0, .inr (17, [.ref h1, .int 0, .int 0, .int 0, .int 0, .int 0, .int 0, .ref h2])), (h2, .inr (16, [.null, .int 0, .ref h3, .int 0, .int 0, .null]))] s.heap := hP
  have hl := lv_entry ([.ref h0]) (n := 1) (Nat.le_of_ble_eq_true rfl)
  rw [lg_entry_eq]
  generalize (lg_sl ([.ref h0]) ++ List.replicate (1 - (lg_sl ([.ref h0])).length) Slot.unset).toArray = ls at hl ⊢
  replace hl : lv_has ls 1 [(0, .ref h0)] := hl
  have hH0 : s.heap.size ≤ s.heap.size := Nat.le_refl _
  refine lv_aload_n hx hb dX16_all_0 rfl (lv_at hl 0 rfl) ?_
  refine va_get (D := g.1) (ci := 17) (v := .ref h2) (C := RX16) (T := TX16) (N := 8) hx hb hts in9_X16_all_1_RX16 hown hK hP 0 rfl rfl 7 (by decide) (hts (.fieldLink RX16 12 "RegexloomModel$Reader" "made" "LRegexloomModel$Pattern;") (List.mem_of_getElem? (i := 1) rfl)) (fun _ h9 => h9) rfl dX16_all_1 ?_
  refine va_new (ci := 15) (fs := [.int 0, .long 0, .int 0, .int 0, .null, .null, .int 0, .int 0, .int 0]) (C := RX14) (T := TX14) (N := 9) hx hb hts in9_X16_all_1_RX14 tyX14 tyX14_ok hown (hts (.classLink RX16 26 RX14) (List.mem_of_getElem? (i := 2) rfl)) (hts (.instantiable RX14 9) (List.mem_of_getElem? (i := 3) rfl)) (hts (.initialized RX14) (List.mem_of_getElem? (i := 4) rfl)) hK hP hD hS hA rfl (fun j hj => by rcases (show j = 0 ∨ j = 1 ∨ j = 2 ∨ j = 3 ∨ j = 4 ∨ j = 5 ∨ j = 6 ∨ j = 7 ∨ j = 8 by omega) with rfl | rfl | rfl | rfl | rfl | rfl | rfl | rfl | rfl <;> rfl) (Nat.le_of_ble_eq_true rfl) (Nat.le_of_ble_eq_true rfl) dX16_all_4 (fun q_1 H hP hD hS => ?_)
  have hP : va_P g.1 vwCl [(h0, .inr (17, [.ref h1, .int 0, .int 0, .int 0, .int 0, .int 0, .int 0, .ref h2])), (h2, .inr (16, [.null, .int 0, .ref h3, .int 0, .int 0, .null])), (q_1, .inr (15, [.int 0, .long 0, .int 0, .int 0, .null, .null, .int 0, .int 0, .int 0]))] H := hP
  have hD : va_D A [(h0, .inr (17, [.ref h1, .int 0, .int 0, .int 0, .int 0, .int 0, .int 0, .ref h2])), (h2, .inr (16, [.null, .int 0, .ref h3, .int 0, .int 0, .null])), (q_1, .inr (15, [.int 0, .long 0, .int 0, .int 0, .null, .null, .int 0, .int 0, .int 0]))] := hD
  refine lv_dup hx hb dX16_all_7 rfl ?_
  refine lv_bipush (v := 6) hx hb dX16_all_8 (by decide) ?_
  have hPc := hP.sub (ws' := [(q_1, .inr (15, [.int 0, .long 0, .int 0, .int 0, .null, .null, .int 0, .int 0, .int 0]))]) [2] rfl
  have hDc := hD.sub (ws' := [(q_1, .inr (15, [.int 0, .long 0, .int 0, .int 0, .null, .null, .int 0, .int 0, .int 0]))]) [2] (by decide) rfl
  have hFc := va_free (wc := [(q_1, .inr (15, [.int 0, .long 0, .int 0, .int 0, .null, .null, .int 0, .int 0, .int 0]))]) hD hS hA [2] rfl
  refine va_callv (va_runI (As := [.int 6]) (rest := [.ref q_1, .ref h2]) ⟨hx, hb, hml, hown, hts⟩ (c9_X14_init_1 l g q_1 _) (cwI 1 hts g9_X16_all_1_0 rfl rfl rfl (hts (.initialized RX14) (List.mem_of_getElem? (i := 4) rfl)) (hts (.methodLink RX16 28 yX14_init) (List.mem_of_getElem? (i := 29) rfl)) (hts (.instanceMethod yX14_init) (List.mem_of_getElem? (i := 30) rfl)) rfl (by decide +kernel) ⟨Nat.le_of_ble_eq_true rfl, Nat.le_of_ble_eq_true rfl⟩) (mPreS (g := g) (wc := [(q_1, .inr (15, [.int 0, .long 0, .int 0, .int 0, .null, .null, .int 0, .int 0, .int 0]))]) hE hS hPc hDc hFc) rfl rfl hl.1 rfl (lv_room (Nat.le_of_ble_eq_true rfl)) dX16_all_10 ⟨Nat.le_of_ble_eq_true rfl, Nat.le_of_ble_eq_true rfl⟩) hS (fun q _ h => hFc q h) hFc (fun u t H1 locs ht hvm hw hB hz1 hk1 hS => ?_)
  obtain ⟨q_2, rfl⟩ : ∃ z, z = u := ⟨_, rfl⟩
  obtain ⟨hP1, hD1⟩ := hB
  rw [ht] at hP1
  obtain ⟨hP, hD⟩ := va_join (wr := [(h0, .inr (17, [.ref h1, .int 0, .int 0, .int 0, .int 0, .int 0, .int 0, .ref h2])), (h2, .inr (16, [.null, .int 0, .ref h3, .int 0, .int 0, .null]))]) (w1 := [(q_1, .inr (15, [.int 6, .long 0, .int 0, .int 0, .ref q_2, .null, .int 0, .int 0, .int 0])), (q_2, .inr (2, [.int 0, .ref (g.2.2 0), .int 0]))]) hP hD [2] [0, 1] rfl rfl (by decide) (by decide) hk1 hFc hP1 hD1
  clear hP1 hD1 hPc hDc hFc hk1 hz1 hvm ht
  generalize H1 = H at hP hS ⊢
  have hP : va_P g.1 vwCl [(h0, .inr (17, [.ref h1, .int 0, .int 0, .int 0, .int 0, .int 0, .int 0, .ref h2])), (h2, .inr (16, [.null, .int 0, .ref h3, .int 0, .int 0, .null])), (q_1, .inr (15, [.int 6, .long 0, .int 0, .int 0, .ref q_2, .null, .int 0, .int 0, .int 0])), (q_2, .inr (2, [.int 0, .ref (g.2.2 0), .int 0]))] H := hP
  have hD : va_D A [(h0, .inr (17, [.ref h1, .int 0, .int 0, .int 0, .int 0, .int 0, .int 0, .ref h2])), (h2, .inr (16, [.null, .int 0, .ref h3, .int 0, .int 0, .null])), (q_1, .inr (15, [.int 6, .long 0, .int 0, .int 0, .ref q_2, .null, .int 0, .int 0, .int 0])), (q_2, .inr (2, [.int 0, .ref (g.2.2 0), .int 0]))] := hD
  refine va_put (D := g.1) (ci := 16) (v := .ref q_1) (ty := (.object "RegexloomModel$Node")) (C := RX15) (T := TX15) (N := 6) hx hb hts in9_X16_all_1_RX15 tyX15 tyX15_ok nmX15 hown hK hP hD hS 1 rfl rfl 0 (by decide) (hts (.fieldLink RX16 31 "RegexloomModel$Pattern" "whole" "LRegexloomModel$Node;") (List.mem_of_getElem? (i := 31) rfl)) (fun _ h9 => h9) rfl (by decide +kernel) rfl rfl (Nat.le_of_ble_eq_true rfl) dX16_all_13 (fun H locs hP hD hS => ?_)
  have hP : va_P g.1 vwCl [(h0, .inr (17, [.ref h1, .int 0, .int 0, .int 0, .int 0, .int 0, .int 0, .ref h2])), (h2, .inr (16, [.ref q_1, .int 0, .ref h3, .int 0, .int 0, .null])), (q_1, .inr (15, [.int 6, .long 0, .int 0, .int 0, .ref q_2, .null, .int 0, .int 0, .int 0])), (q_2, .inr (2, [.int 0, .ref (g.2.2 0), .int 0]))] H := hP
  have hD : va_D A [(h0, .inr (17, [.ref h1, .int 0, .int 0, .int 0, .int 0, .int 0, .int 0, .ref h2])), (h2, .inr (16, [.ref q_1, .int 0, .ref h3, .int 0, .int 0, .null])), (q_1, .inr (15, [.int 6, .long 0, .int 0, .int 0, .ref q_2, .null, .int 0, .int 0, .int 0])), (q_2, .inr (2, [.int 0, .ref (g.2.2 0), .int 0]))] := hD
  refine lv_aload_n hx hb dX16_all_16 rfl (lv_at hl 0 rfl) ?_
  refine lv_aload_n hx hb dX16_all_17 rfl (lv_at hl 0 rfl) ?_
  refine va_get (D := g.1) (ci := 17) (v := .ref h2) (C := RX16) (T := TX16) (N := 8) hx hb hts in9_X16_all_1_RX16 hown hK hP 0 rfl rfl 7 (by decide) (hts (.fieldLink RX16 12 "RegexloomModel$Reader" "made" "LRegexloomModel$Pattern;") (List.mem_of_getElem? (i := 1) rfl)) (fun _ h9 => h9) rfl dX16_all_18 ?_
  refine va_get (D := g.1) (ci := 16) (v := .ref q_1) (C := RX15) (T := TX15) (N := 6) hx hb hts in9_X16_all_1_RX15 hown hK hP 1 rfl rfl 0 (by decide) (hts (.fieldLink RX16 31 "RegexloomModel$Pattern" "whole" "LRegexloomModel$Node;") (List.mem_of_getElem? (i := 31) rfl)) (fun _ h9 => h9) rfl dX16_all_21 ?_
  refine lv_bipush (v := 99) hx hb dX16_all_24 (by decide) ?_
  refine lv_iconst (v := 0) hx hb dX16_all_26 (by decide) ?_
  have hPc := hP.sub (ws' := [(h0, .inr (17, [.ref h1, .int 0, .int 0, .int 0, .int 0, .int 0, .int 0, .ref h2])), (q_1, .inr (15, [.int 6, .long 0, .int 0, .int 0, .ref q_2, .null, .int 0, .int 0, .int 0])), (q_2, .inr (2, [.int 0, .ref (g.2.2 0), .int 0]))]) [0, 2, 3] rfl
  have hDc := hD.sub (ws' := [(h0, .inr (17, [.ref h1, .int 0, .int 0, .int 0, .int 0, .int 0, .int 0, .ref h2])), (q_1, .inr (15, [.int 6, .long 0, .int 0, .int 0, .ref q_2, .null, .int 0, .int 0, .int 0])), (q_2, .inr (2, [.int 0, .ref (g.2.2 0), .int 0]))]) [0, 2, 3] (by decide) rfl
  have hFc := va_free (wc := [(h0, .inr (17, [.ref h1, .int 0, .int 0, .int 0, .int 0, .int 0, .int 0, .ref h2])), (q_1, .inr (15, [.int 6, .long 0, .int 0, .int 0, .ref q_2, .null, .int 0, .int 0, .int 0])), (q_2, .inr (2, [.int 0, .ref (g.2.2 0), .int 0]))]) hD hS hA [0, 2, 3] rfl
  refine va_callv (va_runV (As := [.ref q_1, .int 99, .int 0]) (rest := []) ⟨hx, hb, hml, hown, hts⟩ (c9_X16_branches_1 l g h0 q_1 h1 h2 q_2 _) (cwV 3 hts g9_X16_all_1_1 rfl rfl rfl (by decide +kernel) ⟨Nat.le_of_ble_eq_true rfl, Nat.le_of_ble_eq_true rfl⟩) (mPreV (g := g) (wc := [(h0, .inr (17, [.ref h1, .int 0, .int 0, .int 0, .int 0, .int 0, .int 0, .ref h2])), (q_1, .inr (15, [.int 6, .long 0, .int 0, .int 0, .ref q_2, .null, .int 0, .int 0, .int 0])), (q_2, .inr (2, [.int 0, .ref (g.2.2 0), .int 0]))]) (C := RX16) (ci := 17) (q0 := 0) hE hS hPc hDc hFc rfl rfl) rfl rfl hl.1 rfl (lv_room (Nat.le_of_ble_eq_true rfl)) dX16_all_27 ⟨Nat.le_of_ble_eq_true rfl, Nat.le_of_ble_eq_true rfl⟩) hS (fun q _ h => hFc q h) hFc (fun u t H1 locs ht hvm hw hB hz1 hk1 hS => ?_)
  obtain ⟨q_3, q_4⟩ := u
  obtain ⟨hP1, hD1⟩ := hB
  rw [ht] at hP1
  obtain ⟨hP, hD⟩ := va_join (wr := [(h2, .inr (16, [.ref q_1, .int 0, .ref h3, .int 0, .int 0, .null]))]) (w1 := [(h0, .inr (17, [.ref h1, .int 0, .int 0, .int 0, .int 0, .int 0, .int 0, .ref h2])), (q_1, .inr (15, [.int 6, .long 0, .int 0, .int 0, .ref q_2, .null, .int 0, .int 0, .int 0])), (q_2, .inr (2, [.int 1, .ref q_4, .int 1])), (q_3, .inr (2, [.int 0, .ref (g.2.2 0), .int 0])), (q_4, .inl (g.2.1 6, 10, .inr (.inr (.inr (.inr (va_up (fun _ => none) 0 (some q_3)))))))]) hP hD [0, 2, 3] [1] rfl rfl (by decide) (by decide) hk1 hFc hP1 hD1
  clear hP1 hD1 hPc hDc hFc hk1 hz1 hvm ht
  generalize H1 = H at hP hS ⊢
  have hP : va_P g.1 vwCl [(h2, .inr (16, [.ref q_1, .int 0, .ref h3, .int 0, .int 0, .null])), (h0, .inr (17, [.ref h1, .int 0, .int 0, .int 0, .int 0, .int 0, .int 0, .ref h2])), (q_1, .inr (15, [.int 6, .long 0, .int 0, .int 0, .ref q_2, .null, .int 0, .int 0, .int 0])), (q_2, .inr (2, [.int 1, .ref q_4, .int 1])), (q_3, .inr (2, [.int 0, .ref (g.2.2 0), .int 0])), (q_4, .inl (g.2.1 6, 10, .inr (.inr (.inr (.inr (va_up (fun _ => none) 0 (some q_3)))))))] H := hP
  have hD : va_D A [(h2, .inr (16, [.ref q_1, .int 0, .ref h3, .int 0, .int 0, .null])), (h0, .inr (17, [.ref h1, .int 0, .int 0, .int 0, .int 0, .int 0, .int 0, .ref h2])), (q_1, .inr (15, [.int 6, .long 0, .int 0, .int 0, .ref q_2, .null, .int 0, .int 0, .int 0])), (q_2, .inr (2, [.int 1, .ref q_4, .int 1])), (q_3, .inr (2, [.int 0, .ref (g.2.2 0), .int 0])), (q_4, .inl (g.2.1 6, 10, .inr (.inr (.inr (.inr (va_up (fun _ => none) 0 (some q_3)))))))] := hD
  refine lv_aload_n hx hb dX16_all_30 rfl (lv_at hl 0 rfl) ?_
  refine va_get (D := g.1) (ci := 17) (v := .int 0) (C := RX16) (T := TX16) (N := 8) hx hb hts in9_X16_all_1_RX16 hown hK hP 1 rfl rfl 2 (by decide) (hts (.fieldLink RX16 39 "RegexloomModel$Reader" "at" "I") (List.mem_of_getElem? (i := 40) rfl)) (fun _ h9 => h9) rfl dX16_all_31 ?_
  refine lv_aload_n hx hb dX16_all_34 rfl (lv_at hl 0 rfl) ?_
  refine va_get (D := g.1) (ci := 17) (v := .int 0) (C := RX16) (T := TX16) (N := 8) hx hb hts in9_X16_all_1_RX16 hown hK hP 1 rfl rfl 1 (by decide) (hts (.fieldLink RX16 22 "RegexloomModel$Reader" "size" "I") (List.mem_of_getElem? (i := 41) rfl)) (fun _ h9 => h9) rfl dX16_all_35 ?_
  refine lv_icmp_ge (tgt := 53) hx hb dX16_all_38 (by decide) (fun _ => ?_) (fun c9 => absurd (by decide) c9)
  refine lv_aload_n hx hb dX16_all_53 rfl (lv_at hl 0 rfl) ?_
  refine va_get (D := g.1) (ci := 17) (v := .int 0) (C := RX16) (T := TX16) (N := 8) hx hb hts in9_X16_all_1_RX16 hown hK hP 1 rfl rfl 5 (by decide) (hts (.fieldLink RX16 45 "RegexloomModel$Reader" "referred" "I") (List.mem_of_getElem? (i := 72) rfl)) (fun _ h9 => h9) rfl dX16_all_54 ?_
  refine lv_aload_n hx hb dX16_all_57 rfl (lv_at hl 0 rfl) ?_
  refine va_get (D := g.1) (ci := 17) (v := .int 0) (C := RX16) (T := TX16) (N := 8) hx hb hts in9_X16_all_1_RX16 hown hK hP 1 rfl rfl 4 (by decide) (hts (.fieldLink RX16 48 "RegexloomModel$Reader" "told" "I") (List.mem_of_getElem? (i := 73) rfl)) (fun _ h9 => h9) rfl dX16_all_58 ?_
  refine lv_icmp_le (tgt := 78) hx hb dX16_all_61 (by decide) (fun _ => ?_) (fun c9 => absurd (by decide) c9)
  refine lv_aload_n hx hb dX16_all_78 rfl (lv_at hl 0 rfl) ?_
  refine va_get (D := g.1) (ci := 17) (v := .ref h2) (C := RX16) (T := TX16) (N := 8) hx hb hts in9_X16_all_1_RX16 hown hK hP 1 rfl rfl 7 (by decide) (hts (.fieldLink RX16 12 "RegexloomModel$Reader" "made" "LRegexloomModel$Pattern;") (List.mem_of_getElem? (i := 1) rfl)) (fun _ h9 => h9) rfl dX16_all_79 ?_
  refine lv_aload_n hx hb dX16_all_82 rfl (lv_at hl 0 rfl) ?_
  refine va_get (D := g.1) (ci := 17) (v := .int 0) (C := RX16) (T := TX16) (N := 8) hx hb hts in9_X16_all_1_RX16 hown hK hP 1 rfl rfl 4 (by decide) (hts (.fieldLink RX16 48 "RegexloomModel$Reader" "told" "I") (List.mem_of_getElem? (i := 73) rfl)) (fun _ h9 => h9) rfl dX16_all_83 ?_
  refine va_put (D := g.1) (ci := 16) (v := .int 0) (ty := .int) (C := RX15) (T := TX15) (N := 6) hx hb hts in9_X16_all_1_RX15 tyX15 tyX15_ok nmX15 hown hK hP hD hS 0 rfl rfl 1 (by decide) (hts (.fieldLink RX16 51 "RegexloomModel$Pattern" "groups" "I") (List.mem_of_getElem? (i := 74) rfl)) (fun _ h9 => h9) rfl (by decide +kernel) rfl rfl (Nat.le_of_ble_eq_true rfl) dX16_all_86 (fun H locs hP hD hS => ?_)
  have hP : va_P g.1 vwCl [(h2, .inr (16, [.ref q_1, .int 0, .ref h3, .int 0, .int 0, .null])), (h0, .inr (17, [.ref h1, .int 0, .int 0, .int 0, .int 0, .int 0, .int 0, .ref h2])), (q_1, .inr (15, [.int 6, .long 0, .int 0, .int 0, .ref q_2, .null, .int 0, .int 0, .int 0])), (q_2, .inr (2, [.int 1, .ref q_4, .int 1])), (q_3, .inr (2, [.int 0, .ref (g.2.2 0), .int 0])), (q_4, .inl (g.2.1 6, 10, .inr (.inr (.inr (.inr (va_up (fun _ => none) 0 (some q_3)))))))] H := hP
  have hD : va_D A [(h2, .inr (16, [.ref q_1, .int 0, .ref h3, .int 0, .int 0, .null])), (h0, .inr (17, [.ref h1, .int 0, .int 0, .int 0, .int 0, .int 0, .int 0, .ref h2])), (q_1, .inr (15, [.int 6, .long 0, .int 0, .int 0, .ref q_2, .null, .int 0, .int 0, .int 0])), (q_2, .inr (2, [.int 1, .ref q_4, .int 1])), (q_3, .inr (2, [.int 0, .ref (g.2.2 0), .int 0])), (q_4, .inl (g.2.1 6, 10, .inr (.inr (.inr (.inr (va_up (fun _ => none) 0 (some q_3)))))))] := hD
  refine lv_aload_n hx hb dX16_all_89 rfl (lv_at hl 0 rfl) ?_
  refine va_get (D := g.1) (ci := 17) (v := .ref h2) (C := RX16) (T := TX16) (N := 8) hx hb hts in9_X16_all_1_RX16 hown hK hP 1 rfl rfl 7 (by decide) (hts (.fieldLink RX16 12 "RegexloomModel$Reader" "made" "LRegexloomModel$Pattern;") (List.mem_of_getElem? (i := 1) rfl)) (fun _ h9 => h9) rfl dX16_all_90 ?_
  have hP9 := hP.sub (ws' := [(h0, .inr (17, [.ref h1, .int 0, .int 0, .int 0, .int 0, .int 0, .int 0, .ref h2])), (h2, .inr (16, [.ref q_1, .int 0, .ref h3, .int 0, .int 0, .null])), (q_1, .inr (15, [.int 6, .long 0, .int 0, .int 0, .ref q_2, .null, .int 0, .int 0, .int 0])), (q_2, .inr (2, [.int 1, .ref q_4, .int 1])), (q_3, .inr (2, [.int 0, .ref (g.2.2 0), .int 0])), (q_4, .inl (g.2.1 6, 10, .inr (.inr (.inr (.inr (va_up (fun _ => none) 0 (some q_3)))))))]) [1, 0, 2, 3, 4, 5] rfl
  have hD9 := hD.sub (ws' := [(h0, .inr (17, [.ref h1, .int 0, .int 0, .int 0, .int 0, .int 0, .int 0, .ref h2])), (h2, .inr (16, [.ref q_1, .int 0, .ref h3, .int 0, .int 0, .null])), (q_1, .inr (15, [.int 6, .long 0, .int 0, .int 0, .ref q_2, .null, .int 0, .int 0, .int 0])), (q_2, .inr (2, [.int 1, .ref q_4, .int 1])), (q_3, .inr (2, [.int 0, .ref (g.2.2 0), .int 0])), (q_4, .inl (g.2.1 6, 10, .inr (.inr (.inr (.inr (va_up (fun _ => none) 0 (some q_3)))))))]) [1, 0, 2, 3, 4, 5] (by decide) rfl
  subst hAe
  exact W.aret (v := .ref h2) hx hb hr (by first | exact Or.inl ⟨_, rfl⟩ | exact Or.inr ⟨_, rfl⟩) (Or.inr ⟨_, rfl⟩) (fun t ht hW => ⟨⟨(q_1, q_2, q_3, q_4), h2, rfl, trivial, rfl, by rw [ht]; exact hP9, hD9⟩, hS.F ht⟩) hS.2.2 dX16_all_93
def w9_X21_fault_1 : List Cond := [.codeWith yX21_fault cX21_fault 2 (some .int) [(5, 25, 26, 191)], .fieldLink RX21 144 "RegexloomModel" "refusal" "I", .classLink RX21 170 RX16, .instantiable RX16 8, .initialized RX16, .fieldLink RX21 81 "RegexloomModel" "draft" "[I", .fieldLink RX21 151 "RegexloomModel" "drafted" "I", .code yX16_init cX16_init 3 none, .methodLink RX16 3 objectInit, .instanceMethod objectInit, .code objectInit ⟨#[0xb1]⟩ 1 none, .classLink RX16 9 RX15, .instantiable RX15 6, .initialized RX15, .code yX15_init cX15_init 1 none, .methodLink RX15 3 objectInit, .classLink RX15 9 "RegexloomModel$Node", .fieldLink RX15 11 "RegexloomModel$Pattern" "byNumber" "[LRegexloomModel$Node;", .instanceMethod yX15_init, .fieldLink RX16 12 "RegexloomModel$Reader" "made" "LRegexloomModel$Pattern;", .fieldLink RX16 18 "RegexloomModel$Reader" "draft" "[I", .fieldLink RX16 22 "RegexloomModel$Reader" "size" "I", .methodLink RX21 172 yX16_init, .instanceMethod yX16_init, .methodLink RX21 174 yX16_all, .instanceMethod yX16_all, .selects RX16 yX16_all yX16_all, .code yX16_all cX16_all 1 (some (.object "RegexloomModel$Pattern")), .classLink RX16 26 RX14, .instantiable RX14 9, .initialized RX14, .code yX14_init cX14_init 2 none, .methodLink RX14 3 objectInit, .classLink RX14 9 RJx4a65c, .instantiable RJx4a65c 3, .initialized RJx4a65c, .code yJx4a65c_init_da8c8 cJx4a65c_init_da8c8 1 none, .code yJxc12de_init_da8c8 cJxc12de_init_da8c8 1 none, .code yJxa1e45_init_da8c8 cJxa1e45_init_da8c8 1 none, .methodLink RJxa1e45 1 objectInit, .initialized RJxa1e45, .methodLink RJxc12de 1 yJxa1e45_init_da8c8, .instanceMethod yJxa1e45_init_da8c8, .fieldLink RJxc12de 7 "java/util/AbstractList" "modCount" "I", .initialized RJxc12de, .methodLink RJx4a65c 1 yJxc12de_init_da8c8, .instanceMethod yJxc12de_init_da8c8, .fieldLink RJx4a65c 39 "java/util/ArrayList" "DEFAULTCAPACITY_EMPTY_ELEMENTDATA" "[Ljava/lang/Object;", .fieldLink RJx4a65c 9 "java/util/ArrayList" "elementData" "[Ljava/lang/Object;", .methodLink RX14 11 yJx4a65c_init_da8c8, .instanceMethod yJx4a65c_init_da8c8, .fieldLink RX14 12 "RegexloomModel$Node" "branches" "Ljava/util/ArrayList;", .fieldLink RX14 18 "RegexloomModel$Node" "kind" "I", .methodLink RX16 28 yX14_init, .instanceMethod yX14_init, .fieldLink RX16 31 "RegexloomModel$Pattern" "whole" "LRegexloomModel$Node;", .methodLink RX16 35 yX16_branches, .instanceMethod yX16_branches, .selects RX16 yX16_branches yX16_branches, .code yX16_branches cX16_branches 8 none, .fieldLink RX16 58 "RegexloomModel$Reader" "groups" "I", .classLink RX16 59 RJx4a65c, .methodLink RX16 61 yJx4a65c_init_da8c8, .fieldLink RX16 39 "RegexloomModel$Reader" "at" "I", .methodLink RX16 73 Lib.Math.max.name, .static Lib.Math.max.name, .initialized "java/lang/Math", .code Lib.Math.max.name Lib.Math.max.code 2 (some .int), .fieldLink RX16 79 "RegexloomModel$Node" "branches" "Ljava/util/ArrayList;", .methodLink RX16 69 yJx4a65c_add_9ea2d, .instanceMethod yJx4a65c_add_9ea2d, .selects RJx4a65c yJx4a65c_add_9ea2d yJx4a65c_add_9ea2d, .code yJx4a65c_add_9ea2d cJx4a65c_add_9ea2d 2 (some .boolean), .fieldLink RJx4a65c 63 "java/util/ArrayList" "modCount" "I", .sameField "java/util/ArrayList" "java/util/AbstractList" "modCount" "I", .fieldLink RJx4a65c 48 "java/util/ArrayList" "size" "I", .methodLink RJx4a65c 131 yJx4a65c_add_72be8, .instanceMethod yJx4a65c_add_72be8, .selects RJx4a65c yJx4a65c_add_72be8 yJx4a65c_add_72be8, .code yJx4a65c_add_72be8 cJx4a65c_add_72be8 4 none, .methodLink RJx4a65c 129 yJx4a65c_grow_d5877, .instanceMethod yJx4a65c_grow_d5877, .selects RJx4a65c yJx4a65c_grow_d5877 yJx4a65c_grow_d5877, .code yJx4a65c_grow_d5877 cJx4a65c_grow_d5877 1 (some (.array (.object "java/lang/Object"))), .methodLink RJx4a65c 69 yJx4a65c_grow_92f84, .instanceMethod yJx4a65c_grow_92f84, .selects RJx4a65c yJx4a65c_grow_92f84 yJx4a65c_grow_92f84, .code yJx4a65c_grow_92f84 cJx4a65c_grow_92f84 4 (some (.array (.object "java/lang/Object"))), .methodLink RJx4a65c 79 Lib.Math.max.name, .classLink RJx4a65c 7 "java/lang/Object", .methodLink RX16 62 yX16_here, .instanceMethod yX16_here, .selects RX16 yX16_here yX16_here, .code yX16_here cX16_here 1 (some .int), .fieldLink RX16 45 "RegexloomModel$Reader" "referred" "I", .fieldLink RX16 48 "RegexloomModel$Reader" "told" "I", .fieldLink RX16 51 "RegexloomModel$Pattern" "groups" "I"] ++ (u_ws RX21 TX21 32 ++ u_ws RX16 TX16 8 ++ u_ws RX15 TX15 6 ++ u_ws RX14 TX14 9 ++ u_ws RJx4a65c TJx4a65c 3)
set_option maxRecDepth 20000 in
theorem in9_X21_fault_1_RX21 : ∀ w ∈ u_ws RX21 TX21 32, w ∈ w9_X21_fault_1 := by decide +kernel
set_option maxRecDepth 20000 in
theorem in9_X21_fault_1_RX16 : ∀ w ∈ u_ws RX16 TX16 8, w ∈ w9_X21_fault_1 := by decide +kernel
set_option maxRecDepth 20000 in
theorem in9_X21_fault_1_RX15 : ∀ w ∈ u_ws RX15 TX15 6, w ∈ w9_X21_fault_1 := by decide +kernel
set_option maxRecDepth 20000 in
theorem in9_X21_fault_1_RX14 : ∀ w ∈ u_ws RX14 TX14 9, w ∈ w9_X21_fault_1 := by decide +kernel
set_option maxRecDepth 20000 in
theorem in9_X21_fault_1_RJx4a65c : ∀ w ∈ u_ws RJx4a65c TJx4a65c 3, w ∈ w9_X21_fault_1 := by decide +kernel
set_option maxRecDepth 20000 in
theorem g9_X21_fault_1_0 : GoodIn w9_X21_fault_1 (w9_X16_init_1) := goodIn_r _ [7, 8, 9, 10, 11, 12, 13, 14, 15, 16, 17, 18, 19, 20, 21, 137, 138, 139, 140, 141, 142, 129, 130, 131, 132, 133, 134, 135, 136] (by decide +kernel) (by decide +kernel)
set_option maxRecDepth 20000 in
theorem g9_X21_fault_1_1 : GoodIn w9_X21_fault_1 (wsV RX21 174 RX16 yX16_all w9_X16_all_1) := goodIn_r _ [24, 25, 26, 4, 27, 19, 28, 29, 30, 31, 32, 9, 10, 33, 34, 35, 36, 37, 38, 39, 40, 41, 42, 43, 44, 45, 46, 47, 48, 49, 50, 51, 52, 53, 54, 55, 56, 57, 58, 4, 59, 60, 61, 62, 63, 21, 64, 65, 66, 67, 68, 69, 70, 71, 72, 73, 74, 75, 76, 77, 78, 79, 80, 81, 82, 83, 84, 85, 86, 87, 88, 89, 90, 91, 92, 93, 94, 95, 96, 129, 130, 131, 132, 133, 134, 135, 136, 143, 144, 145, 146, 147, 148, 149, 150, 151, 152, 153, 154, 137, 138, 139, 140, 141, 142] (by decide +kernel) (by decide +kernel)
set_option maxHeartbeats 4000000 in
set_option maxRecDepth 100000 in
theorem c9_X21_fault_1 (l : Launch) (g : G9) (h0 h1 h2 h3 h4 h5 h6 h7 h8 h9 h10 h11 h12 h13 h14 h15 h16 sz : Nat) : Met l yX21_fault w9_X21_fault_1 ({ frames := 7, cells := 7, slots := 46, locals := 151 }) (mP g [(h0, .inr (22, [.int 0, .ref h1, .int 0, .ref h2, .int 0, .ref h3, .int 250, .ref h4, .int 0, .ref h5, .ref h6, .ref h7, .int 0, .ref h8, .ref h9, .ref h10, .int 0, .null, .int 0, .null, .int 0, .int 0, .int 0, .ref h11, .int 0, .ref h12, .ref h13, .ref h14, .int 0, .ref h15, .ref h16, .int 0]))] sz [.ref h0]) (va_Qi (fun (r : Int32) (_ : Unit) => r = (-1)) (fun (_ : Unit) (t : State) => mB g [(h0, .inr (22, [.int 0, .ref h1, .int 0, .ref h2, .int 0, .ref h3, .int 250, .ref h4, .int 0, .ref h5, .ref h6, .ref h7, .int 0, .ref h8, .ref h9, .ref h10, .int 0, .null, .int 0, .null, .int 0, .int 0, .int 0, .ref h11, .int 0, .ref h12, .ref h13, .ref h14, .int 0, .ref h15, .ref h16, .int 0]))] sz [(h0, .inr (22, [.int 0, .ref h1, .int 0, .ref h2, .int 0, .ref h3, .int 250, .ref h4, .int 0, .ref h5, .ref h6, .ref h7, .int 0, .ref h8, .ref h9, .ref h10, .int 0, .null, .int 0, .null, .int 0, .int 0, .int 0, .ref h11, .int 0, .ref h12, .ref h13, .ref h14, .int 0, .ref h15, .ref h16, .int 0]))] t) (va_A [(h0, .inr (22, [.int 0, .ref h1, .int 0, .ref h2, .int 0, .ref h3, .int 250, .ref h4, .int 0, .ref h5, .ref h6, .ref h7, .int 0, .ref h8, .ref h9, .ref h10, .int 0, .null, .int 0, .null, .int 0, .int 0, .int 0, .ref h11, .int 0, .ref h12, .ref h13, .ref h14, .int 0, .ref h15, .ref h16, .int 0]))] sz)) 7 46 (va_A [(h0, .inr (22, [.int 0, .ref h1, .int 0, .ref h2, .int 0, .ref h3, .int 250, .ref h4, .int 0, .ref h5, .ref h6, .ref h7, .int 0, .ref h8, .ref h9, .ref h10, .int 0, .null, .int 0, .null, .int 0, .int 0, .int 0, .ref h11, .int 0, .ref h12, .ref h13, .ref h14, .int 0, .ref h15, .ref h16, .int 0]))] sz) := by
  refine va_MetW (cc := cX21_fault) (maxL := 2) (ret := (some .int)) (by decide) rfl ?_
  intro p e s m args below meth c s₁ B hml hv
  obtain ⟨rfl, hsz, hP, hD0, hE⟩ := hv
  have hx := B.exec
  have hb := B.bytes
  have hr := B.returns
  have hts := atoms_spec (ws := w9_X21_fault_1) B.pre
  have hown : s.vm.findClass RX21 = some m.cls := findClass_of_methodNamed B.named
  have hlocks := B.notSynchronized
  have htab := vx_table (x := yX21_fault) B (hts (.codeWith yX21_fault cX21_fault 2 (some .int) [(5, 25, 26, 191)]) (List.mem_of_getElem? (i := 0) rfl))
  subst hsz
  have hD := hD0.self (sz := s.heap.size)
  generalize hAe : va_A [(h0, .inr (22, [.int 0, .ref h1, .int 0, .ref h2, .int 0, .ref h3, .int 250, .ref h4, .int 0, .ref h5, .ref h6, .ref h7, .int 0, .ref h8, .ref h9, .ref h10, .int 0, .null, .int 0, .null, .int 0, .int 0, .int 0, .ref h11, .int 0, .ref h12, .ref h13, .ref h14, .int 0, .ref h15, .ref h16, .int 0]))] s.heap.size = A at hD hE ⊢
  have hA : ∀ q : Nat, s.heap.size ≤ q → A q := fun q h => by rw [← hAe]; exact Or.inr h
  have hK := hE.1
  have hS : va_S A s.heap s.heap [] := va_S.rf
  replace hP : va_P g.1 vwCl [(h0, .inr (22, [.int 0, .ref h1, .int 0, .ref h2, .int 0, .ref h3, .int 250, .ref h4, .int 0, .ref h5, .ref h6, .ref h7, .int 0, .ref h8, .ref h9, .ref h10, .int 0, .null, .int 0, .null, .int 0, .int 0, .int 0, .ref h11, .int 0, .ref h12, .ref h13, .ref h14, .int 0, .ref h15, .ref h16, .int 0]))] s.heap := hP
  have hl := lv_entry ([.ref h0]) (n := 2) (Nat.le_of_ble_eq_true rfl)
  rw [lg_entry_eq]
  generalize (lg_sl ([.ref h0]) ++ List.replicate (2 - (lg_sl ([.ref h0])).length) Slot.unset).toArray = ls at hl ⊢
  replace hl : lv_has ls 2 [(0, .ref h0)] := hl
  have hH0 : s.heap.size ≤ s.heap.size := Nat.le_refl _
  refine lv_aload_n hx hb dX21_fault_0 rfl (lv_at hl 0 rfl) ?_
  refine lv_iconst (v := 0) hx hb dX21_fault_1 (by decide) ?_
  refine va_put (D := g.1) (ci := 22) (v := .int 0) (ty := .int) (C := RX21) (T := TX21) (N := 32) hx hb hts in9_X21_fault_1_RX21 tyX21 tyX21_ok nmX21 hown hK hP hD hS 0 rfl rfl 0 (by decide) (hts (.fieldLink RX21 144 "RegexloomModel" "refusal" "I") (List.mem_of_getElem? (i := 1) rfl)) (fun _ h9 => h9) rfl (by decide +kernel) rfl rfl (Nat.le_of_ble_eq_true rfl) dX21_fault_2 (fun H locs hP hD hS => ?_)
  have hP : va_P g.1 vwCl [(h0, .inr (22, [.int 0, .ref h1, .int 0, .ref h2, .int 0, .ref h3, .int 250, .ref h4, .int 0, .ref h5, .ref h6, .ref h7, .int 0, .ref h8, .ref h9, .ref h10, .int 0, .null, .int 0, .null, .int 0, .int 0, .int 0, .ref h11, .int 0, .ref h12, .ref h13, .ref h14, .int 0, .ref h15, .ref h16, .int 0]))] H := hP
  have hD : va_D A [(h0, .inr (22, [.int 0, .ref h1, .int 0, .ref h2, .int 0, .ref h3, .int 250, .ref h4, .int 0, .ref h5, .ref h6, .ref h7, .int 0, .ref h8, .ref h9, .ref h10, .int 0, .null, .int 0, .null, .int 0, .int 0, .int 0, .ref h11, .int 0, .ref h12, .ref h13, .ref h14, .int 0, .ref h15, .ref h16, .int 0]))] := hD
  refine va_new (ci := 17) (fs := [.null, .int 0, .int 0, .int 0, .int 0, .int 0, .int 0, .null]) (C := RX16) (T := TX16) (N := 8) hx hb hts in9_X21_fault_1_RX16 tyX16 tyX16_ok hown (hts (.classLink RX21 170 RX16) (List.mem_of_getElem? (i := 2) rfl)) (hts (.instantiable RX16 8) (List.mem_of_getElem? (i := 3) rfl)) (hts (.initialized RX16) (List.mem_of_getElem? (i := 4) rfl)) hK hP hD hS hA rfl (fun j hj => by rcases (show j = 0 ∨ j = 1 ∨ j = 2 ∨ j = 3 ∨ j = 4 ∨ j = 5 ∨ j = 6 ∨ j = 7 by omega) with rfl | rfl | rfl | rfl | rfl | rfl | rfl | rfl <;> rfl) (Nat.le_of_ble_eq_true rfl) (Nat.le_of_ble_eq_true rfl) dX21_fault_5 (fun q_1 H hP hD hS => ?_)
  have hP : va_P g.1 vwCl [(h0, .inr (22, [.int 0, .ref h1, .int 0, .ref h2, .int 0, .ref h3, .int 250, .ref h4, .int 0, .ref h5, .ref h6, .ref h7, .int 0, .ref h8, .ref h9, .ref h10, .int 0, .null, .int 0, .null, .int 0, .int 0, .int 0, .ref h11, .int 0, .ref h12, .ref h13, .ref h14, .int 0, .ref h15, .ref h16, .int 0])), (q_1, .inr (17, [.null, .int 0, .int 0, .int 0, .int 0, .int 0, .int 0, .null]))] H := hP
  have hD : va_D A [(h0, .inr (22, [.int 0, .ref h1, .int 0, .ref h2, .int 0, .ref h3, .int 250, .ref h4, .int 0, .ref h5, .ref h6, .ref h7, .int 0, .ref h8, .ref h9, .ref h10, .int 0, .null, .int 0, .null, .int 0, .int 0, .int 0, .ref h11, .int 0, .ref h12, .ref h13, .ref h14, .int 0, .ref h15, .ref h16, .int 0])), (q_1, .inr (17, [.null, .int 0, .int 0, .int 0, .int 0, .int 0, .int 0, .null]))] := hD
  refine lv_dup hx hb dX21_fault_8 rfl ?_
  refine lv_aload_n hx hb dX21_fault_9 rfl (lv_at hl 0 rfl) ?_
  refine va_get (D := g.1) (ci := 22) (v := .ref h1) (C := RX21) (T := TX21) (N := 32) hx hb hts in9_X21_fault_1_RX21 hown hK hP 0 rfl rfl 1 (by decide) (hts (.fieldLink RX21 81 "RegexloomModel" "draft" "[I") (List.mem_of_getElem? (i := 5) rfl)) (fun _ h9 => h9) rfl dX21_fault_10 ?_
  refine lv_aload_n hx hb dX21_fault_13 rfl (lv_at hl 0 rfl) ?_
  refine va_get (D := g.1) (ci := 22) (v := .int 0) (C := RX21) (T := TX21) (N := 32) hx hb hts in9_X21_fault_1_RX21 hown hK hP 0 rfl rfl 2 (by decide) (hts (.fieldLink RX21 151 "RegexloomModel" "drafted" "I") (List.mem_of_getElem? (i := 6) rfl)) (fun _ h9 => h9) rfl dX21_fault_14 ?_
  have hPc := hP.sub (ws' := [(q_1, .inr (17, [.null, .int 0, .int 0, .int 0, .int 0, .int 0, .int 0, .null]))]) [1] rfl
  have hDc := hD.sub (ws' := [(q_1, .inr (17, [.null, .int 0, .int 0, .int 0, .int 0, .int 0, .int 0, .null]))]) [1] (by decide) rfl
  have hFc := va_free (wc := [(q_1, .inr (17, [.null, .int 0, .int 0, .int 0, .int 0, .int 0, .int 0, .null]))]) hD hS hA [1] rfl
  refine va_callv (va_runI (As := [.ref h1, .int 0]) (rest := [.ref q_1]) ⟨hx, hb, hml, hown, hts⟩ (c9_X16_init_1 l g q_1 h1 _) (cwI 2 hts g9_X21_fault_1_0 rfl rfl rfl (hts (.initialized RX16) (List.mem_of_getElem? (i := 4) rfl)) (hts (.methodLink RX21 172 yX16_init) (List.mem_of_getElem? (i := 22) rfl)) (hts (.instanceMethod yX16_init) (List.mem_of_getElem? (i := 23) rfl)) rfl (by decide +kernel) ⟨Nat.le_of_ble_eq_true rfl, Nat.le_of_ble_eq_true rfl⟩) (mPreS (g := g) (wc := [(q_1, .inr (17, [.null, .int 0, .int 0, .int 0, .int 0, .int 0, .int 0, .null]))]) hE hS hPc hDc hFc) rfl rfl hl.1 rfl (lv_room (Nat.le_of_ble_eq_true rfl)) dX21_fault_17 ⟨Nat.le_of_ble_eq_true rfl, Nat.le_of_ble_eq_true rfl⟩) hS (fun q _ h => hFc q h) hFc (fun u t H1 locs ht hvm hw hB hz1 hk1 hS => ?_)
  obtain ⟨q_2, q_3⟩ := u
  obtain ⟨hP1, hD1⟩ := hB
  rw [ht] at hP1
  obtain ⟨hP, hD⟩ := va_join (wr := [(h0, .inr (22, [.int 0, .ref h1, .int 0, .ref h2, .int 0, .ref h3, .int 250, .ref h4, .int 0, .ref h5, .ref h6, .ref h7, .int 0, .ref h8, .ref h9, .ref h10, .int 0, .null, .int 0, .null, .int 0, .int 0, .int 0, .ref h11, .int 0, .ref h12, .ref h13, .ref h14, .int 0, .ref h15, .ref h16, .int 0]))]) (w1 := [(q_1, .inr (17, [.ref h1, .int 0, .int 0, .int 0, .int 0, .int 0, .int 0, .ref q_2])), (q_2, .inr (16, [.null, .int 0, .ref q_3, .int 0, .int 0, .null])), (q_3, .inl (g.2.1 5, 7, .inr (.inr (.inr (.inr (fun _ => none))))))]) hP hD [1] [0] rfl rfl (by decide) (by decide) hk1 hFc hP1 hD1
  clear hP1 hD1 hPc hDc hFc hk1 hz1 hvm ht
  generalize H1 = H at hP hS ⊢
  have hP : va_P g.1 vwCl [(h0, .inr (22, [.int 0, .ref h1, .int 0, .ref h2, .int 0, .ref h3, .int 250, .ref h4, .int 0, .ref h5, .ref h6, .ref h7, .int 0, .ref h8, .ref h9, .ref h10, .int 0, .null, .int 0, .null, .int 0, .int 0, .int 0, .ref h11, .int 0, .ref h12, .ref h13, .ref h14, .int 0, .ref h15, .ref h16, .int 0])), (q_1, .inr (17, [.ref h1, .int 0, .int 0, .int 0, .int 0, .int 0, .int 0, .ref q_2])), (q_2, .inr (16, [.null, .int 0, .ref q_3, .int 0, .int 0, .null])), (q_3, .inl (g.2.1 5, 7, .inr (.inr (.inr (.inr (fun _ => none))))))] H := hP
  have hD : va_D A [(h0, .inr (22, [.int 0, .ref h1, .int 0, .ref h2, .int 0, .ref h3, .int 250, .ref h4, .int 0, .ref h5, .ref h6, .ref h7, .int 0, .ref h8, .ref h9, .ref h10, .int 0, .null, .int 0, .null, .int 0, .int 0, .int 0, .ref h11, .int 0, .ref h12, .ref h13, .ref h14, .int 0, .ref h15, .ref h16, .int 0])), (q_1, .inr (17, [.ref h1, .int 0, .int 0, .int 0, .int 0, .int 0, .int 0, .ref q_2])), (q_2, .inr (16, [.null, .int 0, .ref q_3, .int 0, .int 0, .null])), (q_3, .inl (g.2.1 5, 7, .inr (.inr (.inr (.inr (fun _ => none))))))] := hD
  have hPc := hP.sub (ws' := [(q_1, .inr (17, [.ref h1, .int 0, .int 0, .int 0, .int 0, .int 0, .int 0, .ref q_2])), (q_2, .inr (16, [.null, .int 0, .ref q_3, .int 0, .int 0, .null]))]) [1, 2] rfl
  have hDc := hD.sub (ws' := [(q_1, .inr (17, [.ref h1, .int 0, .int 0, .int 0, .int 0, .int 0, .int 0, .ref q_2])), (q_2, .inr (16, [.null, .int 0, .ref q_3, .int 0, .int 0, .null]))]) [1, 2] (by decide) rfl
  have hFc := va_free (wc := [(q_1, .inr (17, [.ref h1, .int 0, .int 0, .int 0, .int 0, .int 0, .int 0, .ref q_2])), (q_2, .inr (16, [.null, .int 0, .ref q_3, .int 0, .int 0, .null]))]) hD hS hA [1, 2] rfl
  refine va_callr (va_runV (As := []) (rest := []) ⟨hx, hb, hml, hown, hts⟩ (c9_X16_all_1 l g q_1 h1 q_2 q_3 _) (cwV 0 hts g9_X21_fault_1_1 rfl rfl rfl (by decide +kernel) ⟨Nat.le_of_ble_eq_true rfl, Nat.le_of_ble_eq_true rfl⟩) (mPreV (g := g) (wc := [(q_1, .inr (17, [.ref h1, .int 0, .int 0, .int 0, .int 0, .int 0, .int 0, .ref q_2])), (q_2, .inr (16, [.null, .int 0, .ref q_3, .int 0, .int 0, .null]))]) (C := RX16) (ci := 17) (q0 := 0) hE hS hPc hDc hFc rfl rfl) rfl rfl hl.1 rfl (lv_room (Nat.le_of_ble_eq_true rfl)) dX21_fault_20 ⟨Nat.le_of_ble_eq_true rfl, Nat.le_of_ble_eq_true rfl⟩) hS (fun q _ h => hFc q h) hFc (fun u r_1 t H1 locs ht hvm hw hB hz1 hk1 hS => ?_)
  obtain ⟨q_4, q_5, q_6, q_7⟩ := u
  obtain ⟨hR1, hP1, hD1⟩ := hB
  replace hR1 : q_2 = r_1 := Eq.symm hR1
  subst hR1
  rw [ht] at hP1
  obtain ⟨hP, hD⟩ := va_join (wr := [(h0, .inr (22, [.int 0, .ref h1, .int 0, .ref h2, .int 0, .ref h3, .int 250, .ref h4, .int 0, .ref h5, .ref h6, .ref h7, .int 0, .ref h8, .ref h9, .ref h10, .int 0, .null, .int 0, .null, .int 0, .int 0, .int 0, .ref h11, .int 0, .ref h12, .ref h13, .ref h14, .int 0, .ref h15, .ref h16, .int 0])), (q_3, .inl (g.2.1 5, 7, .inr (.inr (.inr (.inr (fun _ => none))))))]) (w1 := [(q_1, .inr (17, [.ref h1, .int 0, .int 0, .int 0, .int 0, .int 0, .int 0, .ref q_2])), (q_2, .inr (16, [.ref q_4, .int 0, .ref q_3, .int 0, .int 0, .null])), (q_4, .inr (15, [.int 6, .long 0, .int 0, .int 0, .ref q_5, .null, .int 0, .int 0, .int 0])), (q_5, .inr (2, [.int 1, .ref q_7, .int 1])), (q_6, .inr (2, [.int 0, .ref (g.2.2 0), .int 0])), (q_7, .inl (g.2.1 6, 10, .inr (.inr (.inr (.inr (va_up (fun _ => none) 0 (some q_6)))))))]) hP hD [1, 2] [0, 3] rfl rfl (by decide) (by decide) hk1 hFc hP1 hD1
  clear hP1 hD1 hPc hDc hFc hk1 hz1 hvm ht
  generalize H1 = H at hP hS ⊢
  have hP : va_P g.1 vwCl [(h0, .inr (22, [.int 0, .ref h1, .int 0, .ref h2, .int 0, .ref h3, .int 250, .ref h4, .int 0, .ref h5, .ref h6, .ref h7, .int 0, .ref h8, .ref h9, .ref h10, .int 0, .null, .int 0, .null, .int 0, .int 0, .int 0, .ref h11, .int 0, .ref h12, .ref h13, .ref h14, .int 0, .ref h15, .ref h16, .int 0])), (q_3, .inl (g.2.1 5, 7, .inr (.inr (.inr (.inr (fun _ => none)))))), (q_1, .inr (17, [.ref h1, .int 0, .int 0, .int 0, .int 0, .int 0, .int 0, .ref q_2])), (q_2, .inr (16, [.ref q_4, .int 0, .ref q_3, .int 0, .int 0, .null])), (q_4, .inr (15, [.int 6, .long 0, .int 0, .int 0, .ref q_5, .null, .int 0, .int 0, .int 0])), (q_5, .inr (2, [.int 1, .ref q_7, .int 1])), (q_6, .inr (2, [.int 0, .ref (g.2.2 0), .int 0])), (q_7, .inl (g.2.1 6, 10, .inr (.inr (.inr (.inr (va_up (fun _ => none) 0 (some q_6)))))))] H := hP
  have hD : va_D A [(h0, .inr (22, [.int 0, .ref h1, .int 0, .ref h2, .int 0, .ref h3, .int 250, .ref h4, .int 0, .ref h5, .ref h6, .ref h7, .int 0, .ref h8, .ref h9, .ref h10, .int 0, .null, .int 0, .null, .int 0, .int 0, .int 0, .ref h11, .int 0, .ref h12, .ref h13, .ref h14, .int 0, .ref h15, .ref h16, .int 0])), (q_3, .inl (g.2.1 5, 7, .inr (.inr (.inr (.inr (fun _ => none)))))), (q_1, .inr (17, [.ref h1, .int 0, .int 0, .int 0, .int 0, .int 0, .int 0, .ref q_2])), (q_2, .inr (16, [.ref q_4, .int 0, .ref q_3, .int 0, .int 0, .null])), (q_4, .inr (15, [.int 6, .long 0, .int 0, .int 0, .ref q_5, .null, .int 0, .int 0, .int 0])), (q_5, .inr (2, [.int 1, .ref q_7, .int 1])), (q_6, .inr (2, [.int 0, .ref (g.2.2 0), .int 0])), (q_7, .inl (g.2.1 6, 10, .inr (.inr (.inr (.inr (va_up (fun _ => none) 0 (some q_6)))))))] := hD
  refine lv_pop hx hb dX21_fault_23 rfl ?_
  refine lv_iconst (v := (-1)) hx hb dX21_fault_24 (by decide) ?_
  have hP9 := hP.sub (ws' := [(h0, .inr (22, [.int 0, .ref h1, .int 0, .ref h2, .int 0, .ref h3, .int 250, .ref h4, .int 0, .ref h5, .ref h6, .ref h7, .int 0, .ref h8, .ref h9, .ref h10, .int 0, .null, .int 0, .null, .int 0, .int 0, .int 0, .ref h11, .int 0, .ref h12, .ref h13, .ref h14, .int 0, .ref h15, .ref h16, .int 0]))]) [0] rfl
  have hD9 := hD.sub (ws' := [(h0, .inr (22, [.int 0, .ref h1, .int 0, .ref h2, .int 0, .ref h3, .int 250, .ref h4, .int 0, .ref h5, .ref h6, .ref h7, .int 0, .ref h8, .ref h9, .ref h10, .int 0, .null, .int 0, .null, .int 0, .int 0, .int 0, .ref h11, .int 0, .ref h12, .ref h13, .ref h14, .int 0, .ref h15, .ref h16, .int 0]))]) [0] (by decide) rfl
  subst hAe
  exact W.iret (v := (-1)) hx hb hr (fun t ht hW => ⟨⟨(-1), (), rfl, rfl, by rw [ht]; exact hP9, hD9⟩, hS.F ht⟩) hS.2.2 dX21_fault_25
def w9_X9_size_1 : List Cond := [.code yX9_size cX9_size 1 (some .int), .fieldLink RX9 28 "Regexloom$Table" "size" "I"] ++ (u_ws RX9 TX9 4)
set_option maxRecDepth 20000 in
theorem in9_X9_size_1_RX9 : ∀ w ∈ u_ws RX9 TX9 4, w ∈ w9_X9_size_1 := by decide +kernel
set_option maxHeartbeats 4000000 in
set_option maxRecDepth 100000 in
theorem c9_X9_size_1 (l : Launch) (g : G9) (h0 h1 sz : Nat) : Met l yX9_size w9_X9_size_1 ({ frames := 0, cells := 0, slots := 0, locals := 0 }) (mP g [(h0, .inr (10, [.int 1, .int 20, .ref h1, .int 0]))] sz [.ref h0]) (va_Qi (fun (r : Int32) (_ : Unit) => r = 0) (fun (_ : Unit) (t : State) => mB g [(h0, .inr (10, [.int 1, .int 20, .ref h1, .int 0]))] sz [(h0, .inr (10, [.int 1, .int 20, .ref h1, .int 0]))] t) (va_A [(h0, .inr (10, [.int 1, .int 20, .ref h1, .int 0]))] sz)) 0 0 (va_A [(h0, .inr (10, [.int 1, .int 20, .ref h1, .int 0]))] sz) := by
  refine Met.ofW (cc := cX9_size) (maxL := 1) (ret := (some .int)) (by decide) rfl ?_
  intro p e s m args below meth c s₁ B hml hv
  obtain ⟨rfl, hsz, hP, hD0, hE⟩ := hv
  have hx := B.exec
  have hb := B.bytes
  have hr := B.returns
  have hts := atoms_spec (ws := w9_X9_size_1) B.pre
  have hown : s.vm.findClass RX9 = some m.cls := findClass_of_methodNamed B.named
  have hlocks := B.notSynchronized
  subst hsz
  have hD := hD0.self (sz := s.heap.size)
  generalize hAe : va_A [(h0, .inr (10, [.int 1, .int 20, .ref h1, .int 0]))] s.heap.size = A at hD hE ⊢
  have hA : ∀ q : Nat, s.heap.size ≤ q → A q := fun q h => by rw [← hAe]; exact Or.inr h
  have hK := hE.1
  have hS : va_S A s.heap s.heap [] := va_S.rf
  replace hP : va_P g.1 vwCl [(h0, .inr (10, [.int 1, .int 20, .ref h1, .int 0]))] s.heap := hP
  have hl := lv_entry ([.ref h0]) (n := 1) (Nat.le_of_ble_eq_true rfl)
  rw [lg_entry_eq]
  generalize (lg_sl ([.ref h0]) ++ List.replicate (1 - (lg_sl ([.ref h0])).length) Slot.unset).toArray = ls at hl ⊢
  replace hl : lv_has ls 1 [(0, .ref h0)] := hl
  have hH0 : s.heap.size ≤ s.heap.size := Nat.le_refl _
  refine lv_aload_n hx hb dX9_size_0 rfl (lv_at hl 0 rfl) ?_
  refine va_get (D := g.1) (ci := 10) (v := .int 0) (C := RX9) (T := TX9) (N := 4) hx hb hts in9_X9_size_1_RX9 hown hK hP 0 rfl rfl 3 (by decide) (hts (.fieldLink RX9 28 "Regexloom$Table" "size" "I") (List.mem_of_getElem? (i := 1) rfl)) (fun _ h9 => h9) rfl dX9_size_1 ?_
  have hP9 := hP.sub (ws' := [(h0, .inr (10, [.int 1, .int 20, .ref h1, .int 0]))]) [0] rfl
  have hD9 := hD.sub (ws' := [(h0, .inr (10, [.int 1, .int 20, .ref h1, .int 0]))]) [0] (by decide) rfl
  subst hAe
  exact W.iret (v := 0) hx hb hr (fun t ht hW => ⟨⟨0, (), rfl, rfl, by rw [ht]; exact hP9, hD9⟩, hS.F ht⟩) hS.2.2 dX9_size_4
def w9_X10_size_1 : List Cond := [.code yX10_size cX10_size 1 (some .int), .fieldLink RX10 14 "Regexloom$Text" "codes" "LRegexloom$Table;", .methodLink RX10 20 yX9_size, .instanceMethod yX9_size, .selects RX9 yX9_size yX9_size, .initialized RX9, .code yX9_size cX9_size 1 (some .int), .fieldLink RX9 28 "Regexloom$Table" "size" "I"] ++ (u_ws RX10 TX10 1 ++ u_ws RX9 TX9 4)
set_option maxRecDepth 20000 in
theorem in9_X10_size_1_RX10 : ∀ w ∈ u_ws RX10 TX10 1, w ∈ w9_X10_size_1 := by decide +kernel
set_option maxRecDepth 20000 in
theorem in9_X10_size_1_RX9 : ∀ w ∈ u_ws RX9 TX9 4, w ∈ w9_X10_size_1 := by decide +kernel
set_option maxRecDepth 20000 in
theorem g9_X10_size_1_0 : GoodIn w9_X10_size_1 (wsV RX10 20 RX9 yX9_size w9_X9_size_1) := goodIn_r _ [2, 3, 4, 5, 6, 7, 9, 10, 11, 12] (by decide +kernel) (by decide +kernel)
set_option maxHeartbeats 4000000 in
set_option maxRecDepth 100000 in
theorem c9_X10_size_1 (l : Launch) (g : G9) (h0 h1 h2 sz : Nat) : Met l yX10_size w9_X10_size_1 ({ frames := 1, cells := 0, slots := 0, locals := 20 }) (mP g [(h0, .inr (11, [.ref h1])), (h1, .inr (10, [.int 1, .int 20, .ref h2, .int 0]))] sz [.ref h0]) (va_Qi (fun (r : Int32) (_ : Unit) => r = 0) (fun (_ : Unit) (t : State) => mB g [(h0, .inr (11, [.ref h1])), (h1, .inr (10, [.int 1, .int 20, .ref h2, .int 0]))] sz [(h0, .inr (11, [.ref h1])), (h1, .inr (10, [.int 1, .int 20, .ref h2, .int 0]))] t) (va_A [(h0, .inr (11, [.ref h1])), (h1, .inr (10, [.int 1, .int 20, .ref h2, .int 0]))] sz)) 0 0 (va_A [(h0, .inr (11, [.ref h1])), (h1, .inr (10, [.int 1, .int 20, .ref h2, .int 0]))] sz) := by
  refine Met.ofW (cc := cX10_size) (maxL := 1) (ret := (some .int)) (by decide) rfl ?_
  intro p e s m args below meth c s₁ B hml hv
  obtain ⟨rfl, hsz, hP, hD0, hE⟩ := hv
  have hx := B.exec
  have hb := B.bytes
  have hr := B.returns
  have hts := atoms_spec (ws := w9_X10_size_1) B.pre
  have hown : s.vm.findClass RX10 = some m.cls := findClass_of_methodNamed B.named
  have hlocks := B.notSynchronized
  subst hsz
  have hD := hD0.self (sz := s.heap.size)
  generalize hAe : va_A [(h0, .inr (11, [.ref h1])), (h1, .inr (10, [.int 1, .int 20, .ref h2, .int 0]))] s.heap.size = A at hD hE ⊢
  have hA : ∀ q : Nat, s.heap.size ≤ q → A q := fun q h => by rw [← hAe]; exact Or.inr h
  have hK := hE.1
  have hS : va_S A s.heap s.heap [] := va_S.rf
  replace hP : va_P g.1 vwCl [(h0, .inr (11, [.ref h1])), (h1, .inr (10, [.int 1, .int 20, .ref h2, .int 0]))] s.heap := hP
  have hl := lv_entry ([.ref h0]) (n := 1) (Nat.le_of_ble_eq_true rfl)
  rw [lg_entry_eq]
  generalize (lg_sl ([.ref h0]) ++ List.replicate (1 - (lg_sl ([.ref h0])).length) Slot.unset).toArray = ls at hl ⊢
  replace hl : lv_has ls 1 [(0, .ref h0)] := hl
  have hH0 : s.heap.size ≤ s.heap.size := Nat.le_refl _
  refine lv_aload_n hx hb dX10_size_0 rfl (lv_at hl 0 rfl) ?_
  refine va_get (D := g.1) (ci := 11) (v := .ref h1) (C := RX10) (T := TX10) (N := 1) hx hb hts in9_X10_size_1_RX10 hown hK hP 0 rfl rfl 0 (by decide) (hts (.fieldLink RX10 14 "Regexloom$Text" "codes" "LRegexloom$Table;") (List.mem_of_getElem? (i := 1) rfl)) (fun _ h9 => h9) rfl dX10_size_1 ?_
  have hPc := hP.sub (ws' := [(h1, .inr (10, [.int 1, .int 20, .ref h2, .int 0]))]) [1] rfl
  have hDc := hD.sub (ws' := [(h1, .inr (10, [.int 1, .int 20, .ref h2, .int 0]))]) [1] (by decide) rfl
  have hFc := va_free (wc := [(h1, .inr (10, [.int 1, .int 20, .ref h2, .int 0]))]) hD hS hA [1] rfl
  refine va_calli (va_runV (As := []) (rest := []) ⟨hx, hb, hml, hown, hts⟩ (c9_X9_size_1 l g h1 h2 _) (cwV 0 hts g9_X10_size_1_0 rfl rfl rfl (by decide +kernel) ⟨Nat.le_of_ble_eq_true rfl, Nat.le_of_ble_eq_true rfl⟩) (mPreV (g := g) (wc := [(h1, .inr (10, [.int 1, .int 20, .ref h2, .int 0]))]) (C := RX9) (ci := 10) (q0 := 0) hE hS hPc hDc hFc rfl rfl) rfl rfl hl.1 rfl (lv_room (Nat.le_of_ble_eq_true rfl)) dX10_size_4 ⟨Nat.le_of_ble_eq_true rfl, Nat.le_of_ble_eq_true rfl⟩) hS (fun q _ h => hFc q h) hFc (fun r_1 u t H1 locs ht hvm hw hB hz1 hk1 hS => ?_)
  replace hw : 0 = r_1 := Eq.symm hw
  subst hw
  obtain ⟨hP1, hD1⟩ := hB
  rw [ht] at hP1
  obtain ⟨hP, hD⟩ := va_join (wr := [(h0, .inr (11, [.ref h1]))]) (w1 := [(h1, .inr (10, [.int 1, .int 20, .ref h2, .int 0]))]) hP hD [1] [0] rfl rfl (by decide) (by decide) hk1 hFc hP1 hD1
  clear hP1 hD1 hPc hDc hFc hk1 hz1 hvm ht
  generalize H1 = H at hP hS ⊢
  have hP : va_P g.1 vwCl [(h0, .inr (11, [.ref h1])), (h1, .inr (10, [.int 1, .int 20, .ref h2, .int 0]))] H := hP
  have hD : va_D A [(h0, .inr (11, [.ref h1])), (h1, .inr (10, [.int 1, .int 20, .ref h2, .int 0]))] := hD
  have hP9 := hP.sub (ws' := [(h0, .inr (11, [.ref h1])), (h1, .inr (10, [.int 1, .int 20, .ref h2, .int 0]))]) [0, 1] rfl
  have hD9 := hD.sub (ws' := [(h0, .inr (11, [.ref h1])), (h1, .inr (10, [.int 1, .int 20, .ref h2, .int 0]))]) [0, 1] (by decide) rfl
  subst hAe
  exact W.iret (v := 0) hx hb hr (fun t ht hW => ⟨⟨0, (), rfl, rfl, by rw [ht]; exact hP9, hD9⟩, hS.F ht⟩) hS.2.2 dX10_size_7
def w9_X11_lot_1 : List Cond := [.code yX11_lot cX11_lot 2 (some .int), .fieldLink RX11 16 "Regexloom" "text" "LRegexloom$Text;", .methodLink RX11 146 yX10_size, .instanceMethod yX10_size, .selects RX10 yX10_size yX10_size, .initialized RX10, .code yX10_size cX10_size 1 (some .int), .fieldLink RX10 14 "Regexloom$Text" "codes" "LRegexloom$Table;", .methodLink RX10 20 yX9_size, .instanceMethod yX9_size, .selects RX9 yX9_size yX9_size, .initialized RX9, .code yX9_size cX9_size 1 (some .int), .fieldLink RX9 28 "Regexloom$Table" "size" "I", .fieldLink RX11 116 "Regexloom" "drafted" "I"] ++ (u_ws RX11 TX11 17 ++ u_ws RX10 TX10 1 ++ u_ws RX9 TX9 4)
set_option maxRecDepth 20000 in
theorem in9_X11_lot_1_RX11 : ∀ w ∈ u_ws RX11 TX11 17, w ∈ w9_X11_lot_1 := by decide +kernel
set_option maxRecDepth 20000 in
theorem in9_X11_lot_1_RX10 : ∀ w ∈ u_ws RX10 TX10 1, w ∈ w9_X11_lot_1 := by decide +kernel
set_option maxRecDepth 20000 in
theorem in9_X11_lot_1_RX9 : ∀ w ∈ u_ws RX9 TX9 4, w ∈ w9_X11_lot_1 := by decide +kernel
set_option maxRecDepth 20000 in
theorem g9_X11_lot_1_0 : GoodIn w9_X11_lot_1 (wsV RX11 146 RX10 yX10_size w9_X10_size_1) := goodIn_r _ [2, 3, 4, 5, 6, 7, 8, 9, 10, 11, 12, 13, 32, 33, 34, 35, 36] (by decide +kernel) (by decide +kernel)
set_option maxRecDepth 20000 in
theorem g9_X11_lot_1_1 : GoodIn w9_X11_lot_1 (wsV RX11 146 RX10 yX10_size w9_X10_size_1) := goodIn_r _ [2, 3, 4, 5, 6, 7, 8, 9, 10, 11, 12, 13, 32, 33, 34, 35, 36] (by decide +kernel) (by decide +kernel)
set_option maxHeartbeats 4000000 in
set_option maxRecDepth 100000 in
theorem c9_X11_lot_1 (l : Launch) (g : G9) (h0 h1 h2 h3 h4 h5 h6 h7 h8 h9 h10 h11 h12 h13 h14 h15 sz : Nat) : Met l yX11_lot w9_X11_lot_1 ({ frames := 2, cells := 0, slots := 0, locals := 40 }) (mP g [(h0, .inr (12, [.ref h1, .int 0, .ref h2, .ref h3, .ref h4, .ref h5, .ref h6, .ref h7, .int (-1), .ref h8, .ref h9, .int 250, .ref h10, .int 0, .ref h11, .ref h12, .ref h13])), (h2, .inr (11, [.ref h14])), (h14, .inr (10, [.int 1, .int 20, .ref h15, .int 0]))] sz [.ref h0]) (va_Qi (fun (r : Int32) (_ : Unit) => r = 0) (fun (_ : Unit) (t : State) => mB g [(h0, .inr (12, [.ref h1, .int 0, .ref h2, .ref h3, .ref h4, .ref h5, .ref h6, .ref h7, .int (-1), .ref h8, .ref h9, .int 250, .ref h10, .int 0, .ref h11, .ref h12, .ref h13])), (h2, .inr (11, [.ref h14])), (h14, .inr (10, [.int 1, .int 20, .ref h15, .int 0]))] sz [(h0, .inr (12, [.ref h1, .int 0, .ref h2, .ref h3, .ref h4, .ref h5, .ref h6, .ref h7, .int (-1), .ref h8, .ref h9, .int 250, .ref h10, .int 0, .ref h11, .ref h12, .ref h13])), (h2, .inr (11, [.ref h14])), (h14, .inr (10, [.int 1, .int 20, .ref h15, .int 0]))] t) (va_A [(h0, .inr (12, [.ref h1, .int 0, .ref h2, .ref h3, .ref h4, .ref h5, .ref h6, .ref h7, .int (-1), .ref h8, .ref h9, .int 250, .ref h10, .int 0, .ref h11, .ref h12, .ref h13])), (h2, .inr (11, [.ref h14])), (h14, .inr (10, [.int 1, .int 20, .ref h15, .int 0]))] sz)) 0 0 (va_A [(h0, .inr (12, [.ref h1, .int 0, .ref h2, .ref h3, .ref h4, .ref h5, .ref h6, .ref h7, .int (-1), .ref h8, .ref h9, .int 250, .ref h10, .int 0, .ref h11, .ref h12, .ref h13])), (h2, .inr (11, [.ref h14])), (h14, .inr (10, [.int 1, .int 20, .ref h15, .int 0]))] sz) := by
  refine Met.ofW (cc := cX11_lot) (maxL := 2) (ret := (some .int)) (by decide) rfl ?_
  intro p e s m args below meth c s₁ B hml hv
  obtain ⟨rfl, hsz, hP, hD0, hE⟩ := hv
  have hx := B.exec
  have hb := B.bytes
  have hr := B.returns
  have hts := atoms_spec (ws := w9_X11_lot_1) B.pre
  have hown : s.vm.findClass RX11 = some m.cls := findClass_of_methodNamed B.named
  have hlocks := B.notSynchronized
  subst hsz
  have hD := hD0.self (sz := s.heap.size)
  generalize hAe : va_A [(h0, .inr (12, [.ref h1, .int 0, .ref h2, .ref h3, .ref h4, .ref h5, .ref h6, .ref h7, .int (-1), .ref h8, .ref h9, .int 250, .ref h10, .int 0, .ref h11, .ref h12, .ref h13])), (h2, .inr (11, [.ref h14])), (h14, .inr (10, [.int 1, .int 20, .ref h15, .int 0]))] s.heap.size = A at hD hE ⊢
  have hA : ∀ q : Nat, s.heap.size ≤ q → A q := fun q h => by rw [← hAe]; exact Or.inr h
  have hK := hE.1
  have hS : va_S A s.heap s.heap [] := va_S.rf
  replace hP : va_P g.1 vwCl [(h0, .inr (12, [.ref h1, .int 0, .ref h2, .ref h3, .ref h4, .ref h5, .ref h6, .ref h7, .int (-1), .ref h8, .ref h9, .int 250, .ref h10, .int 0, .ref h11, .ref h12, .ref h13])), (h2, .inr (11, [.ref h14])), (h14, .inr (10, [.int 1, .int 20, .ref h15, .int 0]))] s.heap := hP
  have hl := lv_entry ([.ref h0]) (n := 2) (Nat.le_of_ble_eq_true rfl)
  rw [lg_entry_eq]
  generalize (lg_sl ([.ref h0]) ++ List.replicate (2 - (lg_sl ([.ref h0])).length) Slot.unset).toArray = ls at hl ⊢
  replace hl : lv_has ls 2 [(0, .ref h0)] := hl
  have hH0 : s.heap.size ≤ s.heap.size := Nat.le_refl _
  refine lv_aload_n hx hb dX11_lot_0 rfl (lv_at hl 0 rfl) ?_
  refine va_get (D := g.1) (ci := 12) (v := .ref h2) (C := RX11) (T := TX11) (N := 17) hx hb hts in9_X11_lot_1_RX11 hown hK hP 0 rfl rfl 2 (by decide) (hts (.fieldLink RX11 16 "Regexloom" "text" "LRegexloom$Text;") (List.mem_of_getElem? (i := 1) rfl)) (fun _ h9 => h9) rfl dX11_lot_1 ?_
  have hPc := hP.sub (ws' := [(h2, .inr (11, [.ref h14])), (h14, .inr (10, [.int 1, .int 20, .ref h15, .int 0]))]) [1, 2] rfl
  have hDc := hD.sub (ws' := [(h2, .inr (11, [.ref h14])), (h14, .inr (10, [.int 1, .int 20, .ref h15, .int 0]))]) [1, 2] (by decide) rfl
  have hFc := va_free (wc := [(h2, .inr (11, [.ref h14])), (h14, .inr (10, [.int 1, .int 20, .ref h15, .int 0]))]) hD hS hA [1, 2] rfl
  refine va_calli (va_runV (As := []) (rest := []) ⟨hx, hb, hml, hown, hts⟩ (c9_X10_size_1 l g h2 h14 h15 _) (cwV 0 hts g9_X11_lot_1_0 rfl rfl rfl (by decide +kernel) ⟨Nat.le_of_ble_eq_true rfl, Nat.le_of_ble_eq_true rfl⟩) (mPreV (g := g) (wc := [(h2, .inr (11, [.ref h14])), (h14, .inr (10, [.int 1, .int 20, .ref h15, .int 0]))]) (C := RX10) (ci := 11) (q0 := 0) hE hS hPc hDc hFc rfl rfl) rfl rfl hl.1 rfl (lv_room (Nat.le_of_ble_eq_true rfl)) dX11_lot_4 ⟨Nat.le_of_ble_eq_true rfl, Nat.le_of_ble_eq_true rfl⟩) hS (fun q _ h => hFc q h) hFc (fun r_1 u t H1 locs ht hvm hw hB hz1 hk1 hS => ?_)
  replace hw : 0 = r_1 := Eq.symm hw
  subst hw
  obtain ⟨hP1, hD1⟩ := hB
  rw [ht] at hP1
  obtain ⟨hP, hD⟩ := va_join (wr := [(h0, .inr (12, [.ref h1, .int 0, .ref h2, .ref h3, .ref h4, .ref h5, .ref h6, .ref h7, .int (-1), .ref h8, .ref h9, .int 250, .ref h10, .int 0, .ref h11, .ref h12, .ref h13]))]) (w1 := [(h2, .inr (11, [.ref h14])), (h14, .inr (10, [.int 1, .int 20, .ref h15, .int 0]))]) hP hD [1, 2] [0] rfl rfl (by decide) (by decide) hk1 hFc hP1 hD1
  clear hP1 hD1 hPc hDc hFc hk1 hz1 hvm ht
  generalize H1 = H at hP hS ⊢
  have hP : va_P g.1 vwCl [(h0, .inr (12, [.ref h1, .int 0, .ref h2, .ref h3, .ref h4, .ref h5, .ref h6, .ref h7, .int (-1), .ref h8, .ref h9, .int 250, .ref h10, .int 0, .ref h11, .ref h12, .ref h13])), (h2, .inr (11, [.ref h14])), (h14, .inr (10, [.int 1, .int 20, .ref h15, .int 0]))] H := hP
  have hD : va_D A [(h0, .inr (12, [.ref h1, .int 0, .ref h2, .ref h3, .ref h4, .ref h5, .ref h6, .ref h7, .int (-1), .ref h8, .ref h9, .int 250, .ref h10, .int 0, .ref h11, .ref h12, .ref h13])), (h2, .inr (11, [.ref h14])), (h14, .inr (10, [.int 1, .int 20, .ref h15, .int 0]))] := hD
  refine lv_aload_n hx hb dX11_lot_7 rfl (lv_at hl 0 rfl) ?_
  refine va_get (D := g.1) (ci := 12) (v := .int 0) (C := RX11) (T := TX11) (N := 17) hx hb hts in9_X11_lot_1_RX11 hown hK hP 0 rfl rfl 1 (by decide) (hts (.fieldLink RX11 116 "Regexloom" "drafted" "I") (List.mem_of_getElem? (i := 14) rfl)) (fun _ h9 => h9) rfl dX11_lot_8 ?_
  refine lv_iadd hx hb dX11_lot_11 ?_
  refine e_top (y := 0) (by decide) ?_
  refine lv_bipush (v := 20) hx hb dX11_lot_12 (by decide) ?_
  refine lv_icmp_le (tgt := 27) hx hb dX11_lot_14 (by decide) (fun _ => ?_) (fun c9 => absurd (by decide) c9)
  refine lv_iconst (v := 0) hx hb dX11_lot_27 (by decide) ?_
  refine lv_istore_n (lv' := [(1, .int 0), (0, .ref h0)]) hx hb dX11_lot_28 rfl hl (by decide) rfl (fun ls hl => ?_)
  refine lv_iload_n hx hb dX11_lot_29 rfl (lv_at hl 0 rfl) ?_
  refine lv_aload_n hx hb dX11_lot_30 rfl (lv_at hl 1 rfl) ?_
  refine va_get (D := g.1) (ci := 12) (v := .int 0) (C := RX11) (T := TX11) (N := 17) hx hb hts in9_X11_lot_1_RX11 hown hK hP 0 rfl rfl 1 (by decide) (hts (.fieldLink RX11 116 "Regexloom" "drafted" "I") (List.mem_of_getElem? (i := 14) rfl)) (fun _ h9 => h9) rfl dX11_lot_31 ?_
  refine lv_icmp_ge (tgt := 65) hx hb dX11_lot_34 (by decide) (fun _ => ?_) (fun c9 => absurd (by decide) c9)
  refine lv_iconst (v := 0) hx hb dX11_lot_65 (by decide) ?_
  refine lv_istore_n (lv' := [(1, .int 0), (0, .ref h0)]) hx hb dX11_lot_66 rfl hl (by decide) rfl (fun ls hl => ?_)
  refine lv_iload_n hx hb dX11_lot_67 rfl (lv_at hl 0 rfl) ?_
  refine lv_aload_n hx hb dX11_lot_68 rfl (lv_at hl 1 rfl) ?_
  refine va_get (D := g.1) (ci := 12) (v := .int 0) (C := RX11) (T := TX11) (N := 17) hx hb hts in9_X11_lot_1_RX11 hown hK hP 0 rfl rfl 1 (by decide) (hts (.fieldLink RX11 116 "Regexloom" "drafted" "I") (List.mem_of_getElem? (i := 14) rfl)) (fun _ h9 => h9) rfl dX11_lot_69 ?_
  refine lv_icmp_ge (tgt := 96) hx hb dX11_lot_72 (by decide) (fun _ => ?_) (fun c9 => absurd (by decide) c9)
  refine lv_aload_n hx hb dX11_lot_96 rfl (lv_at hl 1 rfl) ?_
  refine lv_iconst (v := 0) hx hb dX11_lot_97 (by decide) ?_
  refine va_put (D := g.1) (ci := 12) (v := .int 0) (ty := .int) (C := RX11) (T := TX11) (N := 17) hx hb hts in9_X11_lot_1_RX11 tyX11 tyX11_ok nmX11 hown hK hP hD hS 0 rfl rfl 1 (by decide) (hts (.fieldLink RX11 116 "Regexloom" "drafted" "I") (List.mem_of_getElem? (i := 14) rfl)) (fun _ h9 => h9) rfl (by decide +kernel) rfl rfl (Nat.le_of_ble_eq_true rfl) dX11_lot_98 (fun H locs hP hD hS => ?_)
  have hP : va_P g.1 vwCl [(h0, .inr (12, [.ref h1, .int 0, .ref h2, .ref h3, .ref h4, .ref h5, .ref h6, .ref h7, .int (-1), .ref h8, .ref h9, .int 250, .ref h10, .int 0, .ref h11, .ref h12, .ref h13])), (h2, .inr (11, [.ref h14])), (h14, .inr (10, [.int 1, .int 20, .ref h15, .int 0]))] H := hP
  have hD : va_D A [(h0, .inr (12, [.ref h1, .int 0, .ref h2, .ref h3, .ref h4, .ref h5, .ref h6, .ref h7, .int (-1), .ref h8, .ref h9, .int 250, .ref h10, .int 0, .ref h11, .ref h12, .ref h13])), (h2, .inr (11, [.ref h14])), (h14, .inr (10, [.int 1, .int 20, .ref h15, .int 0]))] := hD
  refine lv_aload_n hx hb dX11_lot_101 rfl (lv_at hl 1 rfl) ?_
  refine va_get (D := g.1) (ci := 12) (v := .ref h2) (C := RX11) (T := TX11) (N := 17) hx hb hts in9_X11_lot_1_RX11 hown hK hP 0 rfl rfl 2 (by decide) (hts (.fieldLink RX11 16 "Regexloom" "text" "LRegexloom$Text;") (List.mem_of_getElem? (i := 1) rfl)) (fun _ h9 => h9) rfl dX11_lot_102 ?_
  have hPc := hP.sub (ws' := [(h2, .inr (11, [.ref h14])), (h14, .inr (10, [.int 1, .int 20, .ref h15, .int 0]))]) [1, 2] rfl
  have hDc := hD.sub (ws' := [(h2, .inr (11, [.ref h14])), (h14, .inr (10, [.int 1, .int 20, .ref h15, .int 0]))]) [1, 2] (by decide) rfl
  have hFc := va_free (wc := [(h2, .inr (11, [.ref h14])), (h14, .inr (10, [.int 1, .int 20, .ref h15, .int 0]))]) hD hS hA [1, 2] rfl
  refine va_calli (va_runV (As := []) (rest := []) ⟨hx, hb, hml, hown, hts⟩ (c9_X10_size_1 l g h2 h14 h15 _) (cwV 0 hts g9_X11_lot_1_1 rfl rfl rfl (by decide +kernel) ⟨Nat.le_of_ble_eq_true rfl, Nat.le_of_ble_eq_true rfl⟩) (mPreV (g := g) (wc := [(h2, .inr (11, [.ref h14])), (h14, .inr (10, [.int 1, .int 20, .ref h15, .int 0]))]) (C := RX10) (ci := 11) (q0 := 0) hE hS hPc hDc hFc rfl rfl) rfl rfl hl.1 rfl (lv_room (Nat.le_of_ble_eq_true rfl)) dX11_lot_105 ⟨Nat.le_of_ble_eq_true rfl, Nat.le_of_ble_eq_true rfl⟩) hS (fun q _ h => hFc q h) hFc (fun r_2 u t H1 locs ht hvm hw hB hz1 hk1 hS => ?_)
  replace hw : 0 = r_2 := Eq.symm hw
  subst hw
  obtain ⟨hP1, hD1⟩ := hB
  rw [ht] at hP1
  obtain ⟨hP, hD⟩ := va_join (wr := [(h0, .inr (12, [.ref h1, .int 0, .ref h2, .ref h3, .ref h4, .ref h5, .ref h6, .ref h7, .int (-1), .ref h8, .ref h9, .int 250, .ref h10, .int 0, .ref h11, .ref h12, .ref h13]))]) (w1 := [(h2, .inr (11, [.ref h14])), (h14, .inr (10, [.int 1, .int 20, .ref h15, .int 0]))]) hP hD [1, 2] [0] rfl rfl (by decide) (by decide) hk1 hFc hP1 hD1
  clear hP1 hD1 hPc hDc hFc hk1 hz1 hvm ht
  generalize H1 = H at hP hS ⊢
  have hP : va_P g.1 vwCl [(h0, .inr (12, [.ref h1, .int 0, .ref h2, .ref h3, .ref h4, .ref h5, .ref h6, .ref h7, .int (-1), .ref h8, .ref h9, .int 250, .ref h10, .int 0, .ref h11, .ref h12, .ref h13])), (h2, .inr (11, [.ref h14])), (h14, .inr (10, [.int 1, .int 20, .ref h15, .int 0]))] H := hP
  have hD : va_D A [(h0, .inr (12, [.ref h1, .int 0, .ref h2, .ref h3, .ref h4, .ref h5, .ref h6, .ref h7, .int (-1), .ref h8, .ref h9, .int 250, .ref h10, .int 0, .ref h11, .ref h12, .ref h13])), (h2, .inr (11, [.ref h14])), (h14, .inr (10, [.int 1, .int 20, .ref h15, .int 0]))] := hD
  have hP9 := hP.sub (ws' := [(h0, .inr (12, [.ref h1, .int 0, .ref h2, .ref h3, .ref h4, .ref h5, .ref h6, .ref h7, .int (-1), .ref h8, .ref h9, .int 250, .ref h10, .int 0, .ref h11, .ref h12, .ref h13])), (h2, .inr (11, [.ref h14])), (h14, .inr (10, [.int 1, .int 20, .ref h15, .int 0]))]) [0, 1, 2] rfl
  have hD9 := hD.sub (ws' := [(h0, .inr (12, [.ref h1, .int 0, .ref h2, .ref h3, .ref h4, .ref h5, .ref h6, .ref h7, .int (-1), .ref h8, .ref h9, .int 250, .ref h10, .int 0, .ref h11, .ref h12, .ref h13])), (h2, .inr (11, [.ref h14])), (h14, .inr (10, [.int 1, .int 20, .ref h15, .int 0]))]) [0, 1, 2] (by decide) rfl
  subst hAe
  exact W.iret (v := 0) hx hb hr (fun t ht hW => ⟨⟨0, (), rfl, rfl, by rw [ht]; exact hP9, hD9⟩, hS.F ht⟩) hS.2.2 dX11_lot_108
def w9_L_lot_1 : List Cond := [.codeWith yL_lot cL_lot 3 (some .int) [(0, 8, 11, 15)], .methodLink RL 23 yX11_lot, .instanceMethod yX11_lot, .selects RX11 yX11_lot yX11_lot, .initialized RX11, .code yX11_lot cX11_lot 2 (some .int), .fieldLink RX11 16 "Regexloom" "text" "LRegexloom$Text;", .methodLink RX11 146 yX10_size, .instanceMethod yX10_size, .selects RX10 yX10_size yX10_size, .initialized RX10, .code yX10_size cX10_size 1 (some .int), .fieldLink RX10 14 "Regexloom$Text" "codes" "LRegexloom$Table;", .methodLink RX10 20 yX9_size, .instanceMethod yX9_size, .selects RX9 yX9_size yX9_size, .initialized RX9, .code yX9_size cX9_size 1 (some .int), .fieldLink RX9 28 "Regexloom$Table" "size" "I", .fieldLink RX11 116 "Regexloom" "drafted" "I"] ++ (u_ws RX11 TX11 17 ++ u_ws RX10 TX10 1 ++ u_ws RX9 TX9 4)
set_option maxRecDepth 20000 in
theorem in9_L_lot_1_RX11 : ∀ w ∈ u_ws RX11 TX11 17, w ∈ w9_L_lot_1 := by decide +kernel
set_option maxRecDepth 20000 in
theorem in9_L_lot_1_RX10 : ∀ w ∈ u_ws RX10 TX10 1, w ∈ w9_L_lot_1 := by decide +kernel
set_option maxRecDepth 20000 in
theorem in9_L_lot_1_RX9 : ∀ w ∈ u_ws RX9 TX9 4, w ∈ w9_L_lot_1 := by decide +kernel
set_option maxRecDepth 20000 in
theorem g9_L_lot_1_0 : GoodIn w9_L_lot_1 (wsV RL 23 RX11 yX11_lot w9_X11_lot_1) := goodIn_r _ [1, 2, 3, 4, 5, 6, 7, 8, 9, 10, 11, 12, 13, 14, 15, 16, 17, 18, 19, 20, 21, 22, 23, 24, 25, 26, 27, 28, 29, 30, 31, 32, 33, 34, 35, 36, 37, 38, 39, 40, 41] (by decide +kernel) (by decide +kernel)
set_option maxHeartbeats 4000000 in
set_option maxRecDepth 100000 in
theorem c9_L_lot_1 (l : Launch) (g : G9) (h0 h1 h2 h3 h4 h5 h6 h7 h8 h9 h10 h11 h12 h13 h14 h15 h16 sz : Nat) (f0 : Nat → Int64) : Met l yL_lot w9_L_lot_1 ({ frames := 3, cells := 0, slots := 0, locals := 61 }) (mP g [(h0, .inr (12, [.ref h2, .int 0, .ref h3, .ref h4, .ref h5, .ref h6, .ref h7, .ref h8, .int (-1), .ref h9, .ref h10, .int 250, .ref h11, .int 0, .ref h12, .ref h13, .ref h14])), (h3, .inr (11, [.ref h15])), (h15, .inr (10, [.int 1, .int 20, .ref h16, .int 0])), (h1, .inl (g.2.1 2, 1, .inr (.inl f0)))] sz [.ref h0, .ref h1]) (va_Qi (fun (r : Int32) (_ : Unit) => r = 0) (fun (_ : Unit) (t : State) => mB g [(h0, .inr (12, [.ref h2, .int 0, .ref h3, .ref h4, .ref h5, .ref h6, .ref h7, .ref h8, .int (-1), .ref h9, .ref h10, .int 250, .ref h11, .int 0, .ref h12, .ref h13, .ref h14])), (h3, .inr (11, [.ref h15])), (h15, .inr (10, [.int 1, .int 20, .ref h16, .int 0])), (h1, .inl (g.2.1 2, 1, .inr (.inl f0)))] sz [(h0, .inr (12, [.ref h2, .int 0, .ref h3, .ref h4, .ref h5, .ref h6, .ref h7, .ref h8, .int (-1), .ref h9, .ref h10, .int 250, .ref h11, .int 0, .ref h12, .ref h13, .ref h14])), (h3, .inr (11, [.ref h15])), (h15, .inr (10, [.int 1, .int 20, .ref h16, .int 0])), (h1, .inl (g.2.1 2, 1, .inr (.inl (vp_updL f0 0 0))))] t) (va_A [(h0, .inr (12, [.ref h2, .int 0, .ref h3, .ref h4, .ref h5, .ref h6, .ref h7, .ref h8, .int (-1), .ref h9, .ref h10, .int 250, .ref h11, .int 0, .ref h12, .ref h13, .ref h14])), (h3, .inr (11, [.ref h15])), (h15, .inr (10, [.int 1, .int 20, .ref h16, .int 0])), (h1, .inl (g.2.1 2, 1, .inr (.inl f0)))] sz)) 0 0 (va_A [(h0, .inr (12, [.ref h2, .int 0, .ref h3, .ref h4, .ref h5, .ref h6, .ref h7, .ref h8, .int (-1), .ref h9, .ref h10, .int 250, .ref h11, .int 0, .ref h12, .ref h13, .ref h14])), (h3, .inr (11, [.ref h15])), (h15, .inr (10, [.int 1, .int 20, .ref h16, .int 0])), (h1, .inl (g.2.1 2, 1, .inr (.inl f0)))] sz) := by
  refine va_MetW (cc := cL_lot) (maxL := 3) (ret := (some .int)) (by decide) rfl ?_
  intro p e s m args below meth c s₁ B hml hv
  obtain ⟨rfl, hsz, hP, hD0, hE⟩ := hv
  have hx := B.exec
  have hb := B.bytes
  have hr := B.returns
  have hts := atoms_spec (ws := w9_L_lot_1) B.pre
  have hown : s.vm.findClass RL = some m.cls := findClass_of_methodNamed B.named
  have hlocks := B.notSynchronized
  have htab := vx_table (x := yL_lot) B (hts (.codeWith yL_lot cL_lot 3 (some .int) [(0, 8, 11, 15)]) (List.mem_of_getElem? (i := 0) rfl))
  subst hsz
  have hD := hD0.self (sz := s.heap.size)
  generalize hAe : va_A [(h0, .inr (12, [.ref h2, .int 0, .ref h3, .ref h4, .ref h5, .ref h6, .ref h7, .ref h8, .int (-1), .ref h9, .ref h10, .int 250, .ref h11, .int 0, .ref h12, .ref h13, .ref h14])), (h3, .inr (11, [.ref h15])), (h15, .inr (10, [.int 1, .int 20, .ref h16, .int 0])), (h1, .inl (g.2.1 2, 1, .inr (.inl f0)))] s.heap.size = A at hD hE ⊢
  have hA : ∀ q : Nat, s.heap.size ≤ q → A q := fun q h => by rw [← hAe]; exact Or.inr h
  have hK := hE.1
  have hS : va_S A s.heap s.heap [] := va_S.rf
  replace hP : va_P g.1 vwCl [(h0, .inr (12, [.ref h2, .int 0, .ref h3, .ref h4, .ref h5, .ref h6, .ref h7, .ref h8, .int (-1), .ref h9, .ref h10, .int 250, .ref h11, .int 0, .ref h12, .ref h13, .ref h14])), (h3, .inr (11, [.ref h15])), (h15, .inr (10, [.int 1, .int 20, .ref h16, .int 0])), (h1, .inl (g.2.1 2, 1, .inr (.inl f0)))] s.heap := hP
  have hl := lv_entry ([.ref h0, .ref h1]) (n := 3) (Nat.le_of_ble_eq_true rfl)
  rw [lg_entry_eq]
  generalize (lg_sl ([.ref h0, .ref h1]) ++ List.replicate (3 - (lg_sl ([.ref h0, .ref h1])).length) Slot.unset).toArray = ls at hl ⊢
  replace hl : lv_has ls 3 [(0, .ref h0), (1, .ref h1)] := hl
  have hH0 : s.heap.size ≤ s.heap.size := Nat.le_refl _
  refine lv_aload_n hx hb dL_lot_0 rfl (lv_at hl 1 rfl) ?_
  refine lv_iconst (v := 0) hx hb dL_lot_1 (by decide) ?_
  refine lv_aload_n hx hb dL_lot_2 rfl (lv_at hl 0 rfl) ?_
  have hPc := hP.sub (ws' := [(h0, .inr (12, [.ref h2, .int 0, .ref h3, .ref h4, .ref h5, .ref h6, .ref h7, .ref h8, .int (-1), .ref h9, .ref h10, .int 250, .ref h11, .int 0, .ref h12, .ref h13, .ref h14])), (h3, .inr (11, [.ref h15])), (h15, .inr (10, [.int 1, .int 20, .ref h16, .int 0]))]) [0, 1, 2] rfl
  have hDc := hD.sub (ws' := [(h0, .inr (12, [.ref h2, .int 0, .ref h3, .ref h4, .ref h5, .ref h6, .ref h7, .ref h8, .int (-1), .ref h9, .ref h10, .int 250, .ref h11, .int 0, .ref h12, .ref h13, .ref h14])), (h3, .inr (11, [.ref h15])), (h15, .inr (10, [.int 1, .int 20, .ref h16, .int 0]))]) [0, 1, 2] (by decide) rfl
  have hFc := va_free (wc := [(h0, .inr (12, [.ref h2, .int 0, .ref h3, .ref h4, .ref h5, .ref h6, .ref h7, .ref h8, .int (-1), .ref h9, .ref h10, .int 250, .ref h11, .int 0, .ref h12, .ref h13, .ref h14])), (h3, .inr (11, [.ref h15])), (h15, .inr (10, [.int 1, .int 20, .ref h16, .int 0]))]) hD hS hA [0, 1, 2] rfl
  refine va_calli (va_runV (As := []) (rest := [.int 0, .ref h1]) ⟨hx, hb, hml, hown, hts⟩ (c9_X11_lot_1 l g h0 h2 h3 h4 h5 h6 h7 h8 h9 h10 h11 h12 h13 h14 h15 h16 _) (cwV 0 hts g9_L_lot_1_0 rfl rfl rfl (by decide +kernel) ⟨Nat.le_of_ble_eq_true rfl, Nat.le_of_ble_eq_true rfl⟩) (mPreV (g := g) (wc := [(h0, .inr (12, [.ref h2, .int 0, .ref h3, .ref h4, .ref h5, .ref h6, .ref h7, .ref h8, .int (-1), .ref h9, .ref h10, .int 250, .ref h11, .int 0, .ref h12, .ref h13, .ref h14])), (h3, .inr (11, [.ref h15])), (h15, .inr (10, [.int 1, .int 20, .ref h16, .int 0]))]) (C := RX11) (ci := 12) (q0 := 0) hE hS hPc hDc hFc rfl rfl) rfl rfl hl.1 rfl (lv_room (Nat.le_of_ble_eq_true rfl)) dL_lot_3 ⟨Nat.le_of_ble_eq_true rfl, Nat.le_of_ble_eq_true rfl⟩) hS (fun q _ h => hFc q h) hFc (fun r_1 u t H1 locs ht hvm hw hB hz1 hk1 hS => ?_)
  replace hw : 0 = r_1 := Eq.symm hw
  subst hw
  obtain ⟨hP1, hD1⟩ := hB
  rw [ht] at hP1
  obtain ⟨hP, hD⟩ := va_join (wr := [(h1, .inl (g.2.1 2, 1, .inr (.inl f0)))]) (w1 := [(h0, .inr (12, [.ref h2, .int 0, .ref h3, .ref h4, .ref h5, .ref h6, .ref h7, .ref h8, .int (-1), .ref h9, .ref h10, .int 250, .ref h11, .int 0, .ref h12, .ref h13, .ref h14])), (h3, .inr (11, [.ref h15])), (h15, .inr (10, [.int 1, .int 20, .ref h16, .int 0]))]) hP hD [0, 1, 2] [3] rfl rfl (by decide) (by decide) hk1 hFc hP1 hD1
  clear hP1 hD1 hPc hDc hFc hk1 hz1 hvm ht
  generalize H1 = H at hP hS ⊢
  have hP : va_P g.1 vwCl [(h1, .inl (g.2.1 2, 1, .inr (.inl f0))), (h0, .inr (12, [.ref h2, .int 0, .ref h3, .ref h4, .ref h5, .ref h6, .ref h7, .ref h8, .int (-1), .ref h9, .ref h10, .int 250, .ref h11, .int 0, .ref h12, .ref h13, .ref h14])), (h3, .inr (11, [.ref h15])), (h15, .inr (10, [.int 1, .int 20, .ref h16, .int 0]))] H := hP
  have hD : va_D A [(h1, .inl (g.2.1 2, 1, .inr (.inl f0))), (h0, .inr (12, [.ref h2, .int 0, .ref h3, .ref h4, .ref h5, .ref h6, .ref h7, .ref h8, .int (-1), .ref h9, .ref h10, .int 250, .ref h11, .int 0, .ref h12, .ref h13, .ref h14])), (h3, .inr (11, [.ref h15])), (h15, .inr (10, [.int 1, .int 20, .ref h16, .int 0]))] := hD
  refine lv_i2l (v := 0) hx hb dL_lot_6 (by decide) ?_
  refine va_last hx hb hK hP hD hS 0 2 rfl rfl (vp_in_nI (n := 0) (by decide) (by decide)) dL_lot_7 (fun H locs hP hD hS => ?_)
  have hP : va_P g.1 vwCl [(h1, .inl (g.2.1 2, 1, .inr (.inl (vp_updL f0 0 0)))), (h0, .inr (12, [.ref h2, .int 0, .ref h3, .ref h4, .ref h5, .ref h6, .ref h7, .ref h8, .int (-1), .ref h9, .ref h10, .int 250, .ref h11, .int 0, .ref h12, .ref h13, .ref h14])), (h3, .inr (11, [.ref h15])), (h15, .inr (10, [.int 1, .int 20, .ref h16, .int 0]))] H := hP
  have hD : va_D A [(h1, .inl (g.2.1 2, 1, .inr (.inl (vp_updL f0 0 0)))), (h0, .inr (12, [.ref h2, .int 0, .ref h3, .ref h4, .ref h5, .ref h6, .ref h7, .ref h8, .int (-1), .ref h9, .ref h10, .int 250, .ref h11, .int 0, .ref h12, .ref h13, .ref h14])), (h3, .inr (11, [.ref h15])), (h15, .inr (10, [.int 1, .int 20, .ref h16, .int 0]))] := hD
  refine lv_goto (tgt := 14) hx hb dL_lot_8 (by decide) ?_
  refine lv_iconst (v := 0) hx hb dL_lot_14 (by decide) ?_
  have hP9 := hP.sub (ws' := [(h0, .inr (12, [.ref h2, .int 0, .ref h3, .ref h4, .ref h5, .ref h6, .ref h7, .ref h8, .int (-1), .ref h9, .ref h10, .int 250, .ref h11, .int 0, .ref h12, .ref h13, .ref h14])), (h3, .inr (11, [.ref h15])), (h15, .inr (10, [.int 1, .int 20, .ref h16, .int 0])), (h1, .inl (g.2.1 2, 1, .inr (.inl (vp_updL f0 0 0))))]) [1, 2, 3, 0] rfl
  have hD9 := hD.sub (ws' := [(h0, .inr (12, [.ref h2, .int 0, .ref h3, .ref h4, .ref h5, .ref h6, .ref h7, .ref h8, .int (-1), .ref h9, .ref h10, .int 250, .ref h11, .int 0, .ref h12, .ref h13, .ref h14])), (h3, .inr (11, [.ref h15])), (h15, .inr (10, [.int 1, .int 20, .ref h16, .int 0])), (h1, .inl (g.2.1 2, 1, .inr (.inl (vp_updL f0 0 0))))]) [1, 2, 3, 0] (by decide) rfl
  subst hAe
  exact W.iret (v := 0) hx hb hr (fun t ht hW => ⟨⟨0, (), rfl, rfl, by rw [ht]; exact hP9, hD9⟩, hS.F ht⟩) hS.2.2 dL_lot_15
def w9_X21_refused_1 : List Cond := [.code yX21_refused cX21_refused 2 (some .boolean), .fieldLink RX21 144 "RegexloomModel" "refusal" "I"] ++ (u_ws RX21 TX21 32)
set_option maxRecDepth 20000 in
theorem in9_X21_refused_1_RX21 : ∀ w ∈ u_ws RX21 TX21 32, w ∈ w9_X21_refused_1 := by decide +kernel
set_option maxHeartbeats 4000000 in
set_option maxRecDepth 100000 in
theorem c9_X21_refused_1 (l : Launch) (g : G9) (h0 h1 h2 h3 h4 h5 h6 h7 h8 h9 h10 h11 h12 h13 h14 h15 h16 sz : Nat) : Met l yX21_refused w9_X21_refused_1 ({ frames := 0, cells := 0, slots := 0, locals := 0 }) (mP g [(h0, .inr (22, [.int 0, .ref h1, .int 0, .ref h2, .int 0, .ref h3, .int 250, .ref h4, .int 0, .ref h5, .ref h6, .ref h7, .int 0, .ref h8, .ref h9, .ref h10, .int 0, .null, .int 0, .null, .int 0, .int 0, .int 0, .ref h11, .int 0, .ref h12, .ref h13, .ref h14, .int 0, .ref h15, .ref h16, .int 0]))] sz [.ref h0, .int 0]) (va_Qi (fun (r : Int32) (_ : Unit) => r = 0) (fun (_ : Unit) (t : State) => mB g [(h0, .inr (22, [.int 0, .ref h1, .int 0, .ref h2, .int 0, .ref h3, .int 250, .ref h4, .int 0, .ref h5, .ref h6, .ref h7, .int 0, .ref h8, .ref h9, .ref h10, .int 0, .null, .int 0, .null, .int 0, .int 0, .int 0, .ref h11, .int 0, .ref h12, .ref h13, .ref h14, .int 0, .ref h15, .ref h16, .int 0]))] sz [(h0, .inr (22, [.int 0, .ref h1, .int 0, .ref h2, .int 0, .ref h3, .int 250, .ref h4, .int 0, .ref h5, .ref h6, .ref h7, .int 0, .ref h8, .ref h9, .ref h10, .int 0, .null, .int 0, .null, .int 0, .int 0, .int 0, .ref h11, .int 0, .ref h12, .ref h13, .ref h14, .int 0, .ref h15, .ref h16, .int 0]))] t) (va_A [(h0, .inr (22, [.int 0, .ref h1, .int 0, .ref h2, .int 0, .ref h3, .int 250, .ref h4, .int 0, .ref h5, .ref h6, .ref h7, .int 0, .ref h8, .ref h9, .ref h10, .int 0, .null, .int 0, .null, .int 0, .int 0, .int 0, .ref h11, .int 0, .ref h12, .ref h13, .ref h14, .int 0, .ref h15, .ref h16, .int 0]))] sz)) 0 0 (va_A [(h0, .inr (22, [.int 0, .ref h1, .int 0, .ref h2, .int 0, .ref h3, .int 250, .ref h4, .int 0, .ref h5, .ref h6, .ref h7, .int 0, .ref h8, .ref h9, .ref h10, .int 0, .null, .int 0, .null, .int 0, .int 0, .int 0, .ref h11, .int 0, .ref h12, .ref h13, .ref h14, .int 0, .ref h15, .ref h16, .int 0]))] sz) := by
  refine Met.ofW (cc := cX21_refused) (maxL := 2) (ret := (some .boolean)) (by decide) rfl ?_
  intro p e s m args below meth c s₁ B hml hv
  obtain ⟨rfl, hsz, hP, hD0, hE⟩ := hv
  have hx := B.exec
  have hb := B.bytes
  have hr := B.returns
  have hts := atoms_spec (ws := w9_X21_refused_1) B.pre
  have hown : s.vm.findClass RX21 = some m.cls := findClass_of_methodNamed B.named
  have hlocks := B.notSynchronized
  subst hsz
  have hD := hD0.self (sz := s.heap.size)
  generalize hAe : va_A [(h0, .inr (22, [.int 0, .ref h1, .int 0, .ref h2, .int 0, .ref h3, .int 250, .ref h4, .int 0, .ref h5, .ref h6, .ref h7, .int 0, .ref h8, .ref h9, .ref h10, .int 0, .null, .int 0, .null, .int 0, .int 0, .int 0, .ref h11, .int 0, .ref h12, .ref h13, .ref h14, .int 0, .ref h15, .ref h16, .int 0]))] s.heap.size = A at hD hE ⊢
  have hA : ∀ q : Nat, s.heap.size ≤ q → A q := fun q h => by rw [← hAe]; exact Or.inr h
  have hK := hE.1
  have hS : va_S A s.heap s.heap [] := va_S.rf
  replace hP : va_P g.1 vwCl [(h0, .inr (22, [.int 0, .ref h1, .int 0, .ref h2, .int 0, .ref h3, .int 250, .ref h4, .int 0, .ref h5, .ref h6, .ref h7, .int 0, .ref h8, .ref h9, .ref h10, .int 0, .null, .int 0, .null, .int 0, .int 0, .int 0, .ref h11, .int 0, .ref h12, .ref h13, .ref h14, .int 0, .ref h15, .ref h16, .int 0]))] s.heap := hP
  have hl := lv_entry ([.ref h0, .int 0]) (n := 2) (Nat.le_of_ble_eq_true rfl)
  rw [lg_entry_eq]
  generalize (lg_sl ([.ref h0, .int 0]) ++ List.replicate (2 - (lg_sl ([.ref h0, .int 0])).length) Slot.unset).toArray = ls at hl ⊢
  replace hl : lv_has ls 2 [(0, .ref h0), (1, .int 0)] := hl
  have hH0 : s.heap.size ≤ s.heap.size := Nat.le_refl _
  refine lv_aload_n hx hb dX21_refused_0 rfl (lv_at hl 0 rfl) ?_
  refine lv_iload_n hx hb dX21_refused_1 rfl (lv_at hl 1 rfl) ?_
  refine va_put (D := g.1) (ci := 22) (v := .int 0) (ty := .int) (C := RX21) (T := TX21) (N := 32) hx hb hts in9_X21_refused_1_RX21 tyX21 tyX21_ok nmX21 hown hK hP hD hS 0 rfl rfl 0 (by decide) (hts (.fieldLink RX21 144 "RegexloomModel" "refusal" "I") (List.mem_of_getElem? (i := 1) rfl)) (fun _ h9 => h9) rfl (by decide +kernel) rfl rfl (Nat.le_of_ble_eq_true rfl) dX21_refused_2 (fun H locs hP hD hS => ?_)
  have hP : va_P g.1 vwCl [(h0, .inr (22, [.int 0, .ref h1, .int 0, .ref h2, .int 0, .ref h3, .int 250, .ref h4, .int 0, .ref h5, .ref h6, .ref h7, .int 0, .ref h8, .ref h9, .ref h10, .int 0, .null, .int 0, .null, .int 0, .int 0, .int 0, .ref h11, .int 0, .ref h12, .ref h13, .ref h14, .int 0, .ref h15, .ref h16, .int 0]))] H := hP
  have hD : va_D A [(h0, .inr (22, [.int 0, .ref h1, .int 0, .ref h2, .int 0, .ref h3, .int 250, .ref h4, .int 0, .ref h5, .ref h6, .ref h7, .int 0, .ref h8, .ref h9, .ref h10, .int 0, .null, .int 0, .null, .int 0, .int 0, .int 0, .ref h11, .int 0, .ref h12, .ref h13, .ref h14, .int 0, .ref h15, .ref h16, .int 0]))] := hD
  refine lv_iload_n hx hb dX21_refused_5 rfl (lv_at hl 1 rfl) ?_
  refine lv_if_eq (tgt := 13) hx hb dX21_refused_6 (by decide) (fun _ => ?_) (fun c9 => absurd (by decide) c9)
  refine lv_iconst (v := 0) hx hb dX21_refused_13 (by decide) ?_
  have hP9 := hP.sub (ws' := [(h0, .inr (22, [.int 0, .ref h1, .int 0, .ref h2, .int 0, .ref h3, .int 250, .ref h4, .int 0, .ref h5, .ref h6, .ref h7, .int 0, .ref h8, .ref h9, .ref h10, .int 0, .null, .int 0, .null, .int 0, .int 0, .int 0, .ref h11, .int 0, .ref h12, .ref h13, .ref h14, .int 0, .ref h15, .ref h16, .int 0]))]) [0] rfl
  have hD9 := hD.sub (ws' := [(h0, .inr (22, [.int 0, .ref h1, .int 0, .ref h2, .int 0, .ref h3, .int 250, .ref h4, .int 0, .ref h5, .ref h6, .ref h7, .int 0, .ref h8, .ref h9, .ref h10, .int 0, .null, .int 0, .null, .int 0, .int 0, .int 0, .ref h11, .int 0, .ref h12, .ref h13, .ref h14, .int 0, .ref h15, .ref h16, .int 0]))]) [0] (by decide) rfl
  subst hAe
  exact W.zret (v := 0) hx hb hr (by decide) (fun t ht hW => ⟨⟨0, (), rfl, rfl, by rw [ht]; exact hP9, hD9⟩, hS.F ht⟩) hS.2.2 dX21_refused_14
def w9_X21_lot_1 : List Cond := [.code yX21_lot cX21_lot 3 (some .int), .fieldLink RX21 196 "RegexloomModel" "length" "I", .fieldLink RX21 151 "RegexloomModel" "drafted" "I", .methodLink RX21 154 yX21_refused, .instanceMethod yX21_refused, .selects RX21 yX21_refused yX21_refused, .initialized RX21, .code yX21_refused cX21_refused 2 (some .boolean), .fieldLink RX21 144 "RegexloomModel" "refusal" "I"] ++ (u_ws RX21 TX21 32)
set_option maxRecDepth 20000 in
theorem in9_X21_lot_1_RX21 : ∀ w ∈ u_ws RX21 TX21 32, w ∈ w9_X21_lot_1 := by decide +kernel
set_option maxRecDepth 20000 in
theorem g9_X21_lot_1_0 : GoodIn w9_X21_lot_1 (wsV RX21 154 RX21 yX21_refused w9_X21_refused_1) := goodIn_r _ [3, 4, 5, 6, 7, 8, 9, 10, 11, 12, 13, 14, 15, 16, 17, 18, 19, 20, 21, 22, 23, 24, 25, 26, 27, 28, 29, 30, 31, 32, 33, 34, 35, 36, 37, 38, 39, 40] (by decide +kernel) (by decide +kernel)
set_option maxHeartbeats 4000000 in
set_option maxRecDepth 100000 in
theorem c9_X21_lot_1 (l : Launch) (g : G9) (h0 h1 h2 h3 h4 h5 h6 h7 h8 h9 h10 h11 h12 h13 h14 h15 h16 sz : Nat) : Met l yX21_lot w9_X21_lot_1 ({ frames := 1, cells := 0, slots := 0, locals := 21 }) (mP g [(h0, .inr (22, [.int 0, .ref h1, .int 0, .ref h2, .int 0, .ref h3, .int 250, .ref h4, .int 0, .ref h5, .ref h6, .ref h7, .int 0, .ref h8, .ref h9, .ref h10, .int 0, .null, .int 0, .null, .int 0, .int 0, .int 0, .ref h11, .int 0, .ref h12, .ref h13, .ref h14, .int 0, .ref h15, .ref h16, .int 0]))] sz [.ref h0]) (va_Qi (fun (r : Int32) (_ : Unit) => r = 0) (fun (_ : Unit) (t : State) => mB g [(h0, .inr (22, [.int 0, .ref h1, .int 0, .ref h2, .int 0, .ref h3, .int 250, .ref h4, .int 0, .ref h5, .ref h6, .ref h7, .int 0, .ref h8, .ref h9, .ref h10, .int 0, .null, .int 0, .null, .int 0, .int 0, .int 0, .ref h11, .int 0, .ref h12, .ref h13, .ref h14, .int 0, .ref h15, .ref h16, .int 0]))] sz [(h0, .inr (22, [.int 0, .ref h1, .int 0, .ref h2, .int 0, .ref h3, .int 250, .ref h4, .int 0, .ref h5, .ref h6, .ref h7, .int 0, .ref h8, .ref h9, .ref h10, .int 0, .null, .int 0, .null, .int 0, .int 0, .int 0, .ref h11, .int 0, .ref h12, .ref h13, .ref h14, .int 0, .ref h15, .ref h16, .int 0]))] t) (va_A [(h0, .inr (22, [.int 0, .ref h1, .int 0, .ref h2, .int 0, .ref h3, .int 250, .ref h4, .int 0, .ref h5, .ref h6, .ref h7, .int 0, .ref h8, .ref h9, .ref h10, .int 0, .null, .int 0, .null, .int 0, .int 0, .int 0, .ref h11, .int 0, .ref h12, .ref h13, .ref h14, .int 0, .ref h15, .ref h16, .int 0]))] sz)) 0 0 (va_A [(h0, .inr (22, [.int 0, .ref h1, .int 0, .ref h2, .int 0, .ref h3, .int 250, .ref h4, .int 0, .ref h5, .ref h6, .ref h7, .int 0, .ref h8, .ref h9, .ref h10, .int 0, .null, .int 0, .null, .int 0, .int 0, .int 0, .ref h11, .int 0, .ref h12, .ref h13, .ref h14, .int 0, .ref h15, .ref h16, .int 0]))] sz) := by
  refine Met.ofW (cc := cX21_lot) (maxL := 3) (ret := (some .int)) (by decide) rfl ?_
  intro p e s m args below meth c s₁ B hml hv
  obtain ⟨rfl, hsz, hP, hD0, hE⟩ := hv
  have hx := B.exec
  have hb := B.bytes
  have hr := B.returns
  have hts := atoms_spec (ws := w9_X21_lot_1) B.pre
  have hown : s.vm.findClass RX21 = some m.cls := findClass_of_methodNamed B.named
  have hlocks := B.notSynchronized
  subst hsz
  have hD := hD0.self (sz := s.heap.size)
  generalize hAe : va_A [(h0, .inr (22, [.int 0, .ref h1, .int 0, .ref h2, .int 0, .ref h3, .int 250, .ref h4, .int 0, .ref h5, .ref h6, .ref h7, .int 0, .ref h8, .ref h9, .ref h10, .int 0, .null, .int 0, .null, .int 0, .int 0, .int 0, .ref h11, .int 0, .ref h12, .ref h13, .ref h14, .int 0, .ref h15, .ref h16, .int 0]))] s.heap.size = A at hD hE ⊢
  have hA : ∀ q : Nat, s.heap.size ≤ q → A q := fun q h => by rw [← hAe]; exact Or.inr h
  have hK := hE.1
  have hS : va_S A s.heap s.heap [] := va_S.rf
  replace hP : va_P g.1 vwCl [(h0, .inr (22, [.int 0, .ref h1, .int 0, .ref h2, .int 0, .ref h3, .int 250, .ref h4, .int 0, .ref h5, .ref h6, .ref h7, .int 0, .ref h8, .ref h9, .ref h10, .int 0, .null, .int 0, .null, .int 0, .int 0, .int 0, .ref h11, .int 0, .ref h12, .ref h13, .ref h14, .int 0, .ref h15, .ref h16, .int 0]))] s.heap := hP
  have hl := lv_entry ([.ref h0]) (n := 3) (Nat.le_of_ble_eq_true rfl)
  rw [lg_entry_eq]
  generalize (lg_sl ([.ref h0]) ++ List.replicate (3 - (lg_sl ([.ref h0])).length) Slot.unset).toArray = ls at hl ⊢
  replace hl : lv_has ls 3 [(0, .ref h0)] := hl
  have hH0 : s.heap.size ≤ s.heap.size := Nat.le_refl _
  refine lv_aload_n hx hb dX21_lot_0 rfl (lv_at hl 0 rfl) ?_
  refine va_get (D := g.1) (ci := 22) (v := .int 0) (C := RX21) (T := TX21) (N := 32) hx hb hts in9_X21_lot_1_RX21 hown hK hP 0 rfl rfl 4 (by decide) (hts (.fieldLink RX21 196 "RegexloomModel" "length" "I") (List.mem_of_getElem? (i := 1) rfl)) (fun _ h9 => h9) rfl dX21_lot_1 ?_
  refine lv_aload_n hx hb dX21_lot_4 rfl (lv_at hl 0 rfl) ?_
  refine va_get (D := g.1) (ci := 22) (v := .int 0) (C := RX21) (T := TX21) (N := 32) hx hb hts in9_X21_lot_1_RX21 hown hK hP 0 rfl rfl 2 (by decide) (hts (.fieldLink RX21 151 "RegexloomModel" "drafted" "I") (List.mem_of_getElem? (i := 2) rfl)) (fun _ h9 => h9) rfl dX21_lot_5 ?_
  refine lv_iadd hx hb dX21_lot_8 ?_
  refine e_top (y := 0) (by decide) ?_
  refine lv_bipush (v := 20) hx hb dX21_lot_9 (by decide) ?_
  refine lv_icmp_gt (tgt := 18) hx hb dX21_lot_11 (by decide) (fun c9 => absurd c9 (by decide)) (fun _ => ?_)
  refine lv_iconst (v := 1) hx hb dX21_lot_14 (by decide) ?_
  refine lv_goto (tgt := 19) hx hb dX21_lot_15 (by decide) ?_
  refine lv_istore_n (lv' := [(1, .int 1), (0, .ref h0)]) hx hb dX21_lot_19 rfl hl (by decide) rfl (fun ls hl => ?_)
  refine lv_iconst (v := 0) hx hb dX21_lot_20 (by decide) ?_
  refine lv_istore_n (lv' := [(2, .int 0), (1, .int 1), (0, .ref h0)]) hx hb dX21_lot_21 rfl hl (by decide) rfl (fun ls hl => ?_)
  refine lv_iload_n hx hb dX21_lot_22 rfl (lv_at hl 0 rfl) ?_
  refine lv_aload_n hx hb dX21_lot_23 rfl (lv_at hl 2 rfl) ?_
  refine va_get (D := g.1) (ci := 22) (v := .int 0) (C := RX21) (T := TX21) (N := 32) hx hb hts in9_X21_lot_1_RX21 hown hK hP 0 rfl rfl 2 (by decide) (hts (.fieldLink RX21 151 "RegexloomModel" "drafted" "I") (List.mem_of_getElem? (i := 2) rfl)) (fun _ h9 => h9) rfl dX21_lot_24 ?_
  refine lv_icmp_ge (tgt := 58) hx hb dX21_lot_27 (by decide) (fun _ => ?_) (fun c9 => absurd (by decide) c9)
  refine lv_aload_n hx hb dX21_lot_58 rfl (lv_at hl 2 rfl) ?_
  refine lv_iload_n hx hb dX21_lot_59 rfl (lv_at hl 1 rfl) ?_
  refine lv_if_eq (tgt := 67) hx hb dX21_lot_60 (by decide) (fun c9 => absurd c9 (by decide)) (fun _ => ?_)
  refine lv_iconst (v := 0) hx hb dX21_lot_63 (by decide) ?_
  refine lv_goto (tgt := 68) hx hb dX21_lot_64 (by decide) ?_
  have hPc := hP.sub (ws' := [(h0, .inr (22, [.int 0, .ref h1, .int 0, .ref h2, .int 0, .ref h3, .int 250, .ref h4, .int 0, .ref h5, .ref h6, .ref h7, .int 0, .ref h8, .ref h9, .ref h10, .int 0, .null, .int 0, .null, .int 0, .int 0, .int 0, .ref h11, .int 0, .ref h12, .ref h13, .ref h14, .int 0, .ref h15, .ref h16, .int 0]))]) [0] rfl
  have hDc := hD.sub (ws' := [(h0, .inr (22, [.int 0, .ref h1, .int 0, .ref h2, .int 0, .ref h3, .int 250, .ref h4, .int 0, .ref h5, .ref h6, .ref h7, .int 0, .ref h8, .ref h9, .ref h10, .int 0, .null, .int 0, .null, .int 0, .int 0, .int 0, .ref h11, .int 0, .ref h12, .ref h13, .ref h14, .int 0, .ref h15, .ref h16, .int 0]))]) [0] (by decide) rfl
  have hFc := va_free (wc := [(h0, .inr (22, [.int 0, .ref h1, .int 0, .ref h2, .int 0, .ref h3, .int 250, .ref h4, .int 0, .ref h5, .ref h6, .ref h7, .int 0, .ref h8, .ref h9, .ref h10, .int 0, .null, .int 0, .null, .int 0, .int 0, .int 0, .ref h11, .int 0, .ref h12, .ref h13, .ref h14, .int 0, .ref h15, .ref h16, .int 0]))]) hD hS hA [0] rfl
  refine va_calli (va_runV (As := [.int 0]) (rest := []) ⟨hx, hb, hml, hown, hts⟩ (c9_X21_refused_1 l g h0 h1 h2 h3 h4 h5 h6 h7 h8 h9 h10 h11 h12 h13 h14 h15 h16 _) (cwV 1 hts g9_X21_lot_1_0 rfl rfl rfl (by decide +kernel) ⟨Nat.le_of_ble_eq_true rfl, Nat.le_of_ble_eq_true rfl⟩) (mPreV (g := g) (wc := [(h0, .inr (22, [.int 0, .ref h1, .int 0, .ref h2, .int 0, .ref h3, .int 250, .ref h4, .int 0, .ref h5, .ref h6, .ref h7, .int 0, .ref h8, .ref h9, .ref h10, .int 0, .null, .int 0, .null, .int 0, .int 0, .int 0, .ref h11, .int 0, .ref h12, .ref h13, .ref h14, .int 0, .ref h15, .ref h16, .int 0]))]) (C := RX21) (ci := 22) (q0 := 0) hE hS hPc hDc hFc rfl rfl) rfl rfl hl.1 rfl (lv_room (Nat.le_of_ble_eq_true rfl)) dX21_lot_68 ⟨Nat.le_of_ble_eq_true rfl, Nat.le_of_ble_eq_true rfl⟩) hS (fun q _ h => hFc q h) hFc (fun r_1 u t H1 locs ht hvm hw hB hz1 hk1 hS => ?_)
  replace hw : 0 = r_1 := Eq.symm hw
  subst hw
  obtain ⟨hP1, hD1⟩ := hB
  rw [ht] at hP1
  obtain ⟨hP, hD⟩ := va_join (wr := []) (w1 := [(h0, .inr (22, [.int 0, .ref h1, .int 0, .ref h2, .int 0, .ref h3, .int 250, .ref h4, .int 0, .ref h5, .ref h6, .ref h7, .int 0, .ref h8, .ref h9, .ref h10, .int 0, .null, .int 0, .null, .int 0, .int 0, .int 0, .ref h11, .int 0, .ref h12, .ref h13, .ref h14, .int 0, .ref h15, .ref h16, .int 0]))]) hP hD [0] [] rfl rfl (by decide) (by decide) hk1 hFc hP1 hD1
  clear hP1 hD1 hPc hDc hFc hk1 hz1 hvm ht
  generalize H1 = H at hP hS ⊢
  have hP : va_P g.1 vwCl [(h0, .inr (22, [.int 0, .ref h1, .int 0, .ref h2, .int 0, .ref h3, .int 250, .ref h4, .int 0, .ref h5, .ref h6, .ref h7, .int 0, .ref h8, .ref h9, .ref h10, .int 0, .null, .int 0, .null, .int 0, .int 0, .int 0, .ref h11, .int 0, .ref h12, .ref h13, .ref h14, .int 0, .ref h15, .ref h16, .int 0]))] H := hP
  have hD : va_D A [(h0, .inr (22, [.int 0, .ref h1, .int 0, .ref h2, .int 0, .ref h3, .int 250, .ref h4, .int 0, .ref h5, .ref h6, .ref h7, .int 0, .ref h8, .ref h9, .ref h10, .int 0, .null, .int 0, .null, .int 0, .int 0, .int 0, .ref h11, .int 0, .ref h12, .ref h13, .ref h14, .int 0, .ref h15, .ref h16, .int 0]))] := hD
  refine lv_if_eq (tgt := 76) hx hb dX21_lot_71 (by decide) (fun _ => ?_) (fun c9 => absurd (by decide) c9)
  refine lv_iconst (v := 0) hx hb dX21_lot_76 (by decide) ?_
  refine lv_istore_n (lv' := [(2, .int 0), (1, .int 1), (0, .ref h0)]) hx hb dX21_lot_77 rfl hl (by decide) rfl (fun ls hl => ?_)
  refine lv_iload_n hx hb dX21_lot_78 rfl (lv_at hl 0 rfl) ?_
  refine lv_aload_n hx hb dX21_lot_79 rfl (lv_at hl 2 rfl) ?_
  refine va_get (D := g.1) (ci := 22) (v := .int 0) (C := RX21) (T := TX21) (N := 32) hx hb hts in9_X21_lot_1_RX21 hown hK hP 0 rfl rfl 2 (by decide) (hts (.fieldLink RX21 151 "RegexloomModel" "drafted" "I") (List.mem_of_getElem? (i := 2) rfl)) (fun _ h9 => h9) rfl dX21_lot_80 ?_
  refine lv_icmp_ge (tgt := 117) hx hb dX21_lot_83 (by decide) (fun _ => ?_) (fun c9 => absurd (by decide) c9)
  refine lv_aload_n hx hb dX21_lot_117 rfl (lv_at hl 2 rfl) ?_
  refine lv_iconst (v := 0) hx hb dX21_lot_118 (by decide) ?_
  refine va_put (D := g.1) (ci := 22) (v := .int 0) (ty := .int) (C := RX21) (T := TX21) (N := 32) hx hb hts in9_X21_lot_1_RX21 tyX21 tyX21_ok nmX21 hown hK hP hD hS 0 rfl rfl 2 (by decide) (hts (.fieldLink RX21 151 "RegexloomModel" "drafted" "I") (List.mem_of_getElem? (i := 2) rfl)) (fun _ h9 => h9) rfl (by decide +kernel) rfl rfl (Nat.le_of_ble_eq_true rfl) dX21_lot_119 (fun H locs hP hD hS => ?_)
  have hP : va_P g.1 vwCl [(h0, .inr (22, [.int 0, .ref h1, .int 0, .ref h2, .int 0, .ref h3, .int 250, .ref h4, .int 0, .ref h5, .ref h6, .ref h7, .int 0, .ref h8, .ref h9, .ref h10, .int 0, .null, .int 0, .null, .int 0, .int 0, .int 0, .ref h11, .int 0, .ref h12, .ref h13, .ref h14, .int 0, .ref h15, .ref h16, .int 0]))] H := hP
  have hD : va_D A [(h0, .inr (22, [.int 0, .ref h1, .int 0, .ref h2, .int 0, .ref h3, .int 250, .ref h4, .int 0, .ref h5, .ref h6, .ref h7, .int 0, .ref h8, .ref h9, .ref h10, .int 0, .null, .int 0, .null, .int 0, .int 0, .int 0, .ref h11, .int 0, .ref h12, .ref h13, .ref h14, .int 0, .ref h15, .ref h16, .int 0]))] := hD
  refine lv_aload_n hx hb dX21_lot_122 rfl (lv_at hl 2 rfl) ?_
  refine va_get (D := g.1) (ci := 22) (v := .int 0) (C := RX21) (T := TX21) (N := 32) hx hb hts in9_X21_lot_1_RX21 hown hK hP 0 rfl rfl 4 (by decide) (hts (.fieldLink RX21 196 "RegexloomModel" "length" "I") (List.mem_of_getElem? (i := 1) rfl)) (fun _ h9 => h9) rfl dX21_lot_123 ?_
  have hP9 := hP.sub (ws' := [(h0, .inr (22, [.int 0, .ref h1, .int 0, .ref h2, .int 0, .ref h3, .int 250, .ref h4, .int 0, .ref h5, .ref h6, .ref h7, .int 0, .ref h8, .ref h9, .ref h10, .int 0, .null, .int 0, .null, .int 0, .int 0, .int 0, .ref h11, .int 0, .ref h12, .ref h13, .ref h14, .int 0, .ref h15, .ref h16, .int 0]))]) [0] rfl
  have hD9 := hD.sub (ws' := [(h0, .inr (22, [.int 0, .ref h1, .int 0, .ref h2, .int 0, .ref h3, .int 250, .ref h4, .int 0, .ref h5, .ref h6, .ref h7, .int 0, .ref h8, .ref h9, .ref h10, .int 0, .null, .int 0, .null, .int 0, .int 0, .int 0, .ref h11, .int 0, .ref h12, .ref h13, .ref h14, .int 0, .ref h15, .ref h16, .int 0]))]) [0] (by decide) rfl
  subst hAe
  exact W.iret (v := 0) hx hb hr (fun t ht hW => ⟨⟨0, (), rfl, rfl, by rw [ht]; exact hP9, hD9⟩, hS.F ht⟩) hS.2.2 dX21_lot_126
def w9_X21_thrown_1 : List Cond := [.code yX21_thrown cX21_thrown 1 (some .int), .fieldLink RX21 144 "RegexloomModel" "refusal" "I"] ++ (u_ws RX21 TX21 32)
set_option maxRecDepth 20000 in
theorem in9_X21_thrown_1_RX21 : ∀ w ∈ u_ws RX21 TX21 32, w ∈ w9_X21_thrown_1 := by decide +kernel
set_option maxHeartbeats 4000000 in
set_option maxRecDepth 100000 in
theorem c9_X21_thrown_1 (l : Launch) (g : G9) (h0 h1 h2 h3 h4 h5 h6 h7 h8 h9 h10 h11 h12 h13 h14 h15 h16 sz : Nat) : Met l yX21_thrown w9_X21_thrown_1 ({ frames := 0, cells := 0, slots := 0, locals := 0 }) (mP g [(h0, .inr (22, [.int 0, .ref h1, .int 0, .ref h2, .int 0, .ref h3, .int 250, .ref h4, .int 0, .ref h5, .ref h6, .ref h7, .int 0, .ref h8, .ref h9, .ref h10, .int 0, .null, .int 0, .null, .int 0, .int 0, .int 0, .ref h11, .int 0, .ref h12, .ref h13, .ref h14, .int 0, .ref h15, .ref h16, .int 0]))] sz [.ref h0]) (va_Qi (fun (r : Int32) (_ : Unit) => r = 0) (fun (_ : Unit) (t : State) => mB g [(h0, .inr (22, [.int 0, .ref h1, .int 0, .ref h2, .int 0, .ref h3, .int 250, .ref h4, .int 0, .ref h5, .ref h6, .ref h7, .int 0, .ref h8, .ref h9, .ref h10, .int 0, .null, .int 0, .null, .int 0, .int 0, .int 0, .ref h11, .int 0, .ref h12, .ref h13, .ref h14, .int 0, .ref h15, .ref h16, .int 0]))] sz [(h0, .inr (22, [.int 0, .ref h1, .int 0, .ref h2, .int 0, .ref h3, .int 250, .ref h4, .int 0, .ref h5, .ref h6, .ref h7, .int 0, .ref h8, .ref h9, .ref h10, .int 0, .null, .int 0, .null, .int 0, .int 0, .int 0, .ref h11, .int 0, .ref h12, .ref h13, .ref h14, .int 0, .ref h15, .ref h16, .int 0]))] t) (va_A [(h0, .inr (22, [.int 0, .ref h1, .int 0, .ref h2, .int 0, .ref h3, .int 250, .ref h4, .int 0, .ref h5, .ref h6, .ref h7, .int 0, .ref h8, .ref h9, .ref h10, .int 0, .null, .int 0, .null, .int 0, .int 0, .int 0, .ref h11, .int 0, .ref h12, .ref h13, .ref h14, .int 0, .ref h15, .ref h16, .int 0]))] sz)) 0 0 (va_A [(h0, .inr (22, [.int 0, .ref h1, .int 0, .ref h2, .int 0, .ref h3, .int 250, .ref h4, .int 0, .ref h5, .ref h6, .ref h7, .int 0, .ref h8, .ref h9, .ref h10, .int 0, .null, .int 0, .null, .int 0, .int 0, .int 0, .ref h11, .int 0, .ref h12, .ref h13, .ref h14, .int 0, .ref h15, .ref h16, .int 0]))] sz) := by
  refine Met.ofW (cc := cX21_thrown) (maxL := 1) (ret := (some .int)) (by decide) rfl ?_
  intro p e s m args below meth c s₁ B hml hv
  obtain ⟨rfl, hsz, hP, hD0, hE⟩ := hv
  have hx := B.exec
  have hb := B.bytes
  have hr := B.returns
  have hts := atoms_spec (ws := w9_X21_thrown_1) B.pre
  have hown : s.vm.findClass RX21 = some m.cls := findClass_of_methodNamed B.named
  have hlocks := B.notSynchronized
  subst hsz
  have hD := hD0.self (sz := s.heap.size)
  generalize hAe : va_A [(h0, .inr (22, [.int 0, .ref h1, .int 0, .ref h2, .int 0, .ref h3, .int 250, .ref h4, .int 0, .ref h5, .ref h6, .ref h7, .int 0, .ref h8, .ref h9, .ref h10, .int 0, .null, .int 0, .null, .int 0, .int 0, .int 0, .ref h11, .int 0, .ref h12, .ref h13, .ref h14, .int 0, .ref h15, .ref h16, .int 0]))] s.heap.size = A at hD hE ⊢
  have hA : ∀ q : Nat, s.heap.size ≤ q → A q := fun q h => by rw [← hAe]; exact Or.inr h
  have hK := hE.1
  have hS : va_S A s.heap s.heap [] := va_S.rf
  replace hP : va_P g.1 vwCl [(h0, .inr (22, [.int 0, .ref h1, .int 0, .ref h2, .int 0, .ref h3, .int 250, .ref h4, .int 0, .ref h5, .ref h6, .ref h7, .int 0, .ref h8, .ref h9, .ref h10, .int 0, .null, .int 0, .null, .int 0, .int 0, .int 0, .ref h11, .int 0, .ref h12, .ref h13, .ref h14, .int 0, .ref h15, .ref h16, .int 0]))] s.heap := hP
  have hl := lv_entry ([.ref h0]) (n := 1) (Nat.le_of_ble_eq_true rfl)
  rw [lg_entry_eq]
  generalize (lg_sl ([.ref h0]) ++ List.replicate (1 - (lg_sl ([.ref h0])).length) Slot.unset).toArray = ls at hl ⊢
  replace hl : lv_has ls 1 [(0, .ref h0)] := hl
  have hH0 : s.heap.size ≤ s.heap.size := Nat.le_refl _
  refine lv_aload_n hx hb dX21_thrown_0 rfl (lv_at hl 0 rfl) ?_
  refine va_get (D := g.1) (ci := 22) (v := .int 0) (C := RX21) (T := TX21) (N := 32) hx hb hts in9_X21_thrown_1_RX21 hown hK hP 0 rfl rfl 0 (by decide) (hts (.fieldLink RX21 144 "RegexloomModel" "refusal" "I") (List.mem_of_getElem? (i := 1) rfl)) (fun _ h9 => h9) rfl dX21_thrown_1 ?_
  have hP9 := hP.sub (ws' := [(h0, .inr (22, [.int 0, .ref h1, .int 0, .ref h2, .int 0, .ref h3, .int 250, .ref h4, .int 0, .ref h5, .ref h6, .ref h7, .int 0, .ref h8, .ref h9, .ref h10, .int 0, .null, .int 0, .null, .int 0, .int 0, .int 0, .ref h11, .int 0, .ref h12, .ref h13, .ref h14, .int 0, .ref h15, .ref h16, .int 0]))]) [0] rfl
  have hD9 := hD.sub (ws' := [(h0, .inr (22, [.int 0, .ref h1, .int 0, .ref h2, .int 0, .ref h3, .int 250, .ref h4, .int 0, .ref h5, .ref h6, .ref h7, .int 0, .ref h8, .ref h9, .ref h10, .int 0, .null, .int 0, .null, .int 0, .int 0, .int 0, .ref h11, .int 0, .ref h12, .ref h13, .ref h14, .int 0, .ref h15, .ref h16, .int 0]))]) [0] (by decide) rfl
  subst hAe
  exact W.iret (v := 0) hx hb hr (fun t ht hW => ⟨⟨0, (), rfl, rfl, by rw [ht]; exact hP9, hD9⟩, hS.F ht⟩) hS.2.2 dX21_thrown_4
def w9_X9_cutTo_3 : List Cond := [.code yX9_cutTo cX9_cutTo 2 none, .fieldLink RX9 28 "Regexloom$Table" "size" "I"] ++ (u_ws RX9 TX9 4)
set_option maxRecDepth 20000 in
theorem in9_X9_cutTo_3_RX9 : ∀ w ∈ u_ws RX9 TX9 4, w ∈ w9_X9_cutTo_3 := by decide +kernel
set_option maxHeartbeats 4000000 in
set_option maxRecDepth 100000 in
theorem c9_X9_cutTo_3 (l : Launch) (g : G9) (h0 h1 sz : Nat) : Met l yX9_cutTo w9_X9_cutTo_3 ({ frames := 0, cells := 0, slots := 0, locals := 0 }) (mP g [(h0, .inr (10, [.int 1, .int 20, .ref h1, .int 0]))] sz [.ref h0, .int 0]) (va_Qv (fun _ : Unit => True) (fun (_ : Unit) (t : State) => mB g [(h0, .inr (10, [.int 1, .int 20, .ref h1, .int 0]))] sz [(h0, .inr (10, [.int 1, .int 20, .ref h1, .int 0]))] t) (va_A [(h0, .inr (10, [.int 1, .int 20, .ref h1, .int 0]))] sz)) 0 0 (va_A [(h0, .inr (10, [.int 1, .int 20, .ref h1, .int 0]))] sz) := by
  refine Met.ofW (cc := cX9_cutTo) (maxL := 2) (ret := none) (by decide) rfl ?_
  intro p e s m args below meth c s₁ B hml hv
  obtain ⟨rfl, hsz, hP, hD0, hE⟩ := hv
  have hx := B.exec
  have hb := B.bytes
  have hr := B.returns
  have hts := atoms_spec (ws := w9_X9_cutTo_3) B.pre
  have hown : s.vm.findClass RX9 = some m.cls := findClass_of_methodNamed B.named
  have hlocks := B.notSynchronized
  subst hsz
  have hD := hD0.self (sz := s.heap.size)
  generalize hAe : va_A [(h0, .inr (10, [.int 1, .int 20, .ref h1, .int 0]))] s.heap.size = A at hD hE ⊢
  have hA : ∀ q : Nat, s.heap.size ≤ q → A q := fun q h => by rw [← hAe]; exact Or.inr h
  have hK := hE.1
  have hS : va_S A s.heap s.heap [] := va_S.rf
  replace hP : va_P g.1 vwCl [(h0, .inr (10, [.int 1, .int 20, .ref h1, .int 0]))] s.heap := hP
  have hl := lv_entry ([.ref h0, .int 0]) (n := 2) (Nat.le_of_ble_eq_true rfl)
  rw [lg_entry_eq]
  generalize (lg_sl ([.ref h0, .int 0]) ++ List.replicate (2 - (lg_sl ([.ref h0, .int 0])).length) Slot.unset).toArray = ls at hl ⊢
  replace hl : lv_has ls 2 [(0, .ref h0), (1, .int 0)] := hl
  have hH0 : s.heap.size ≤ s.heap.size := Nat.le_refl _
  refine lv_iload_n hx hb dX9_cutTo_0 rfl (lv_at hl 1 rfl) ?_
  refine lv_if_lt (tgt := 17) hx hb dX9_cutTo_1 (by decide) (fun c9 => absurd c9 (by decide)) (fun _ => ?_)
  refine lv_iload_n hx hb dX9_cutTo_4 rfl (lv_at hl 1 rfl) ?_
  refine lv_aload_n hx hb dX9_cutTo_5 rfl (lv_at hl 0 rfl) ?_
  refine va_get (D := g.1) (ci := 10) (v := .int 0) (C := RX9) (T := TX9) (N := 4) hx hb hts in9_X9_cutTo_3_RX9 hown hK hP 0 rfl rfl 3 (by decide) (hts (.fieldLink RX9 28 "Regexloom$Table" "size" "I") (List.mem_of_getElem? (i := 1) rfl)) (fun _ h9 => h9) rfl dX9_cutTo_6 ?_
  refine lv_icmp_ge (tgt := 17) hx hb dX9_cutTo_9 (by decide) (fun _ => ?_) (fun c9 => absurd (by decide) c9)
  have hP9 := hP.sub (ws' := [(h0, .inr (10, [.int 1, .int 20, .ref h1, .int 0]))]) [0] rfl
  have hD9 := hD.sub (ws' := [(h0, .inr (10, [.int 1, .int 20, .ref h1, .int 0]))]) [0] (by decide) rfl
  subst hAe
  exact W.vret hx hb hr (fun t ht hW => ⟨⟨(), rfl, trivial, by rw [ht]; exact hP9, hD9⟩, hS.F ht⟩) hS.2.2 dX9_cutTo_17
def w9_X10_empty_1 : List Cond := [.code yX10_empty cX10_empty 1 none, .fieldLink RX10 14 "Regexloom$Text" "codes" "LRegexloom$Table;", .methodLink RX10 24 yX9_cutTo, .instanceMethod yX9_cutTo, .selects RX9 yX9_cutTo yX9_cutTo, .initialized RX9, .code yX9_cutTo cX9_cutTo 2 none, .fieldLink RX9 28 "Regexloom$Table" "size" "I"] ++ (u_ws RX10 TX10 1 ++ u_ws RX9 TX9 4)
set_option maxRecDepth 20000 in
theorem in9_X10_empty_1_RX10 : ∀ w ∈ u_ws RX10 TX10 1, w ∈ w9_X10_empty_1 := by decide +kernel
set_option maxRecDepth 20000 in
theorem in9_X10_empty_1_RX9 : ∀ w ∈ u_ws RX9 TX9 4, w ∈ w9_X10_empty_1 := by decide +kernel
set_option maxRecDepth 20000 in
theorem g9_X10_empty_1_0 : GoodIn w9_X10_empty_1 (wsV RX10 24 RX9 yX9_cutTo w9_X9_cutTo_3) := goodIn_r _ [2, 3, 4, 5, 6, 7, 9, 10, 11, 12] (by decide +kernel) (by decide +kernel)
set_option maxHeartbeats 4000000 in
set_option maxRecDepth 100000 in
theorem c9_X10_empty_1 (l : Launch) (g : G9) (h0 h1 h2 sz : Nat) : Met l yX10_empty w9_X10_empty_1 ({ frames := 1, cells := 0, slots := 0, locals := 21 }) (mP g [(h0, .inr (11, [.ref h1])), (h1, .inr (10, [.int 1, .int 20, .ref h2, .int 0]))] sz [.ref h0]) (va_Qv (fun _ : Unit => True) (fun (_ : Unit) (t : State) => mB g [(h0, .inr (11, [.ref h1])), (h1, .inr (10, [.int 1, .int 20, .ref h2, .int 0]))] sz [(h0, .inr (11, [.ref h1])), (h1, .inr (10, [.int 1, .int 20, .ref h2, .int 0]))] t) (va_A [(h0, .inr (11, [.ref h1])), (h1, .inr (10, [.int 1, .int 20, .ref h2, .int 0]))] sz)) 0 0 (va_A [(h0, .inr (11, [.ref h1])), (h1, .inr (10, [.int 1, .int 20, .ref h2, .int 0]))] sz) := by
  refine Met.ofW (cc := cX10_empty) (maxL := 1) (ret := none) (by decide) rfl ?_
  intro p e s m args below meth c s₁ B hml hv
  obtain ⟨rfl, hsz, hP, hD0, hE⟩ := hv
  have hx := B.exec
  have hb := B.bytes
  have hr := B.returns
  have hts := atoms_spec (ws := w9_X10_empty_1) B.pre
  have hown : s.vm.findClass RX10 = some m.cls := findClass_of_methodNamed B.named
  have hlocks := B.notSynchronized
  subst hsz
  have hD := hD0.self (sz := s.heap.size)
  generalize hAe : va_A [(h0, .inr (11, [.ref h1])), (h1, .inr (10, [.int 1, .int 20, .ref h2, .int 0]))] s.heap.size = A at hD hE ⊢
  have hA : ∀ q : Nat, s.heap.size ≤ q → A q := fun q h => by rw [← hAe]; exact Or.inr h
  have hK := hE.1
  have hS : va_S A s.heap s.heap [] := va_S.rf
  replace hP : va_P g.1 vwCl [(h0, .inr (11, [.ref h1])), (h1, .inr (10, [.int 1, .int 20, .ref h2, .int 0]))] s.heap := hP
  have hl := lv_entry ([.ref h0]) (n := 1) (Nat.le_of_ble_eq_true rfl)
  rw [lg_entry_eq]
  generalize (lg_sl ([.ref h0]) ++ List.replicate (1 - (lg_sl ([.ref h0])).length) Slot.unset).toArray = ls at hl ⊢
  replace hl : lv_has ls 1 [(0, .ref h0)] := hl
  have hH0 : s.heap.size ≤ s.heap.size := Nat.le_refl _
  refine lv_aload_n hx hb dX10_empty_0 rfl (lv_at hl 0 rfl) ?_
  refine va_get (D := g.1) (ci := 11) (v := .ref h1) (C := RX10) (T := TX10) (N := 1) hx hb hts in9_X10_empty_1_RX10 hown hK hP 0 rfl rfl 0 (by decide) (hts (.fieldLink RX10 14 "Regexloom$Text" "codes" "LRegexloom$Table;") (List.mem_of_getElem? (i := 1) rfl)) (fun _ h9 => h9) rfl dX10_empty_1 ?_
  refine lv_iconst (v := 0) hx hb dX10_empty_4 (by decide) ?_
  have hPc := hP.sub (ws' := [(h1, .inr (10, [.int 1, .int 20, .ref h2, .int 0]))]) [1] rfl
  have hDc := hD.sub (ws' := [(h1, .inr (10, [.int 1, .int 20, .ref h2, .int 0]))]) [1] (by decide) rfl
  have hFc := va_free (wc := [(h1, .inr (10, [.int 1, .int 20, .ref h2, .int 0]))]) hD hS hA [1] rfl
  refine va_callv (va_runV (As := [.int 0]) (rest := []) ⟨hx, hb, hml, hown, hts⟩ (c9_X9_cutTo_3 l g h1 h2 _) (cwV 1 hts g9_X10_empty_1_0 rfl rfl rfl (by decide +kernel) ⟨Nat.le_of_ble_eq_true rfl, Nat.le_of_ble_eq_true rfl⟩) (mPreV (g := g) (wc := [(h1, .inr (10, [.int 1, .int 20, .ref h2, .int 0]))]) (C := RX9) (ci := 10) (q0 := 0) hE hS hPc hDc hFc rfl rfl) rfl rfl hl.1 rfl (lv_room (Nat.le_of_ble_eq_true rfl)) dX10_empty_5 ⟨Nat.le_of_ble_eq_true rfl, Nat.le_of_ble_eq_true rfl⟩) hS (fun q _ h => hFc q h) hFc (fun u t H1 locs ht hvm hw hB hz1 hk1 hS => ?_)
  obtain ⟨hP1, hD1⟩ := hB
  rw [ht] at hP1
  obtain ⟨hP, hD⟩ := va_join (wr := [(h0, .inr (11, [.ref h1]))]) (w1 := [(h1, .inr (10, [.int 1, .int 20, .ref h2, .int 0]))]) hP hD [1] [0] rfl rfl (by decide) (by decide) hk1 hFc hP1 hD1
  clear hP1 hD1 hPc hDc hFc hk1 hz1 hvm ht
  generalize H1 = H at hP hS ⊢
  have hP : va_P g.1 vwCl [(h0, .inr (11, [.ref h1])), (h1, .inr (10, [.int 1, .int 20, .ref h2, .int 0]))] H := hP
  have hD : va_D A [(h0, .inr (11, [.ref h1])), (h1, .inr (10, [.int 1, .int 20, .ref h2, .int 0]))] := hD
  have hP9 := hP.sub (ws' := [(h0, .inr (11, [.ref h1])), (h1, .inr (10, [.int 1, .int 20, .ref h2, .int 0]))]) [0, 1] rfl
  have hD9 := hD.sub (ws' := [(h0, .inr (11, [.ref h1])), (h1, .inr (10, [.int 1, .int 20, .ref h2, .int 0]))]) [0, 1] (by decide) rfl
  subst hAe
  exact W.vret hx hb hr (fun t ht hW => ⟨⟨(), rfl, trivial, by rw [ht]; exact hP9, hD9⟩, hS.F ht⟩) hS.2.2 dX10_empty_8
def w9_X11_wipe_1 : List Cond := [.code yX11_wipe cX11_wipe 2 (some .int), .fieldLink RX11 16 "Regexloom" "text" "LRegexloom$Text;", .methodLink RX11 146 yX10_size, .instanceMethod yX10_size, .selects RX10 yX10_size yX10_size, .initialized RX10, .code yX10_size cX10_size 1 (some .int), .fieldLink RX10 14 "Regexloom$Text" "codes" "LRegexloom$Table;", .methodLink RX10 20 yX9_size, .instanceMethod yX9_size, .selects RX9 yX9_size yX9_size, .initialized RX9, .code yX9_size cX9_size 1 (some .int), .fieldLink RX9 28 "Regexloom$Table" "size" "I", .methodLink RX11 165 yX10_empty, .instanceMethod yX10_empty, .selects RX10 yX10_empty yX10_empty, .code yX10_empty cX10_empty 1 none, .methodLink RX10 24 yX9_cutTo, .instanceMethod yX9_cutTo, .selects RX9 yX9_cutTo yX9_cutTo, .code yX9_cutTo cX9_cutTo 2 none] ++ (u_ws RX11 TX11 17 ++ u_ws RX10 TX10 1 ++ u_ws RX9 TX9 4)
set_option maxRecDepth 20000 in
theorem in9_X11_wipe_1_RX11 : ∀ w ∈ u_ws RX11 TX11 17, w ∈ w9_X11_wipe_1 := by decide +kernel
set_option maxRecDepth 20000 in
theorem in9_X11_wipe_1_RX10 : ∀ w ∈ u_ws RX10 TX10 1, w ∈ w9_X11_wipe_1 := by decide +kernel
set_option maxRecDepth 20000 in
theorem in9_X11_wipe_1_RX9 : ∀ w ∈ u_ws RX9 TX9 4, w ∈ w9_X11_wipe_1 := by decide +kernel
set_option maxRecDepth 20000 in
theorem g9_X11_wipe_1_0 : GoodIn w9_X11_wipe_1 (wsV RX11 146 RX10 yX10_size w9_X10_size_1) := goodIn_r _ [2, 3, 4, 5, 6, 7, 8, 9, 10, 11, 12, 13, 39, 40, 41, 42, 43] (by decide +kernel) (by decide +kernel)
set_option maxRecDepth 20000 in
theorem g9_X11_wipe_1_1 : GoodIn w9_X11_wipe_1 (wsV RX11 165 RX10 yX10_empty w9_X10_empty_1) := goodIn_r _ [14, 15, 16, 5, 17, 7, 18, 19, 20, 11, 21, 13, 39, 40, 41, 42, 43] (by decide +kernel) (by decide +kernel)
set_option maxHeartbeats 4000000 in
set_option maxRecDepth 100000 in
theorem c9_X11_wipe_1 (l : Launch) (g : G9) (h0 h1 h2 h3 h4 h5 h6 h7 h8 h9 h10 h11 h12 h13 h14 h15 sz : Nat) : Met l yX11_wipe w9_X11_wipe_1 ({ frames := 2, cells := 0, slots := 0, locals := 41 }) (mP g [(h0, .inr (12, [.ref h1, .int 0, .ref h2, .ref h3, .ref h4, .ref h5, .ref h6, .ref h7, .int (-1), .ref h8, .ref h9, .int 250, .ref h10, .int 0, .ref h11, .ref h12, .ref h13])), (h2, .inr (11, [.ref h14])), (h14, .inr (10, [.int 1, .int 20, .ref h15, .int 0]))] sz [.ref h0]) (va_Qi (fun (r : Int32) (_ : Unit) => r = 0) (fun (_ : Unit) (t : State) => mB g [(h0, .inr (12, [.ref h1, .int 0, .ref h2, .ref h3, .ref h4, .ref h5, .ref h6, .ref h7, .int (-1), .ref h8, .ref h9, .int 250, .ref h10, .int 0, .ref h11, .ref h12, .ref h13])), (h2, .inr (11, [.ref h14])), (h14, .inr (10, [.int 1, .int 20, .ref h15, .int 0]))] sz [(h0, .inr (12, [.ref h1, .int 0, .ref h2, .ref h3, .ref h4, .ref h5, .ref h6, .ref h7, .int (-1), .ref h8, .ref h9, .int 250, .ref h10, .int 0, .ref h11, .ref h12, .ref h13])), (h2, .inr (11, [.ref h14])), (h14, .inr (10, [.int 1, .int 20, .ref h15, .int 0]))] t) (va_A [(h0, .inr (12, [.ref h1, .int 0, .ref h2, .ref h3, .ref h4, .ref h5, .ref h6, .ref h7, .int (-1), .ref h8, .ref h9, .int 250, .ref h10, .int 0, .ref h11, .ref h12, .ref h13])), (h2, .inr (11, [.ref h14])), (h14, .inr (10, [.int 1, .int 20, .ref h15, .int 0]))] sz)) 0 0 (va_A [(h0, .inr (12, [.ref h1, .int 0, .ref h2, .ref h3, .ref h4, .ref h5, .ref h6, .ref h7, .int (-1), .ref h8, .ref h9, .int 250, .ref h10, .int 0, .ref h11, .ref h12, .ref h13])), (h2, .inr (11, [.ref h14])), (h14, .inr (10, [.int 1, .int 20, .ref h15, .int 0]))] sz) := by
  refine Met.ofW (cc := cX11_wipe) (maxL := 2) (ret := (some .int)) (by decide) rfl ?_
  intro p e s m args below meth c s₁ B hml hv
  obtain ⟨rfl, hsz, hP, hD0, hE⟩ := hv
  have hx := B.exec
  have hb := B.bytes
  have hr := B.returns
  have hts := atoms_spec (ws := w9_X11_wipe_1) B.pre
  have hown : s.vm.findClass RX11 = some m.cls := findClass_of_methodNamed B.named
  have hlocks := B.notSynchronized
  subst hsz
  have hD := hD0.self (sz := s.heap.size)
  generalize hAe : va_A [(h0, .inr (12, [.ref h1, .int 0, .ref h2, .ref h3, .ref h4, .ref h5, .ref h6, .ref h7, .int (-1), .ref h8, .ref h9, .int 250, .ref h10, .int 0, .ref h11, .ref h12, .ref h13])), (h2, .inr (11, [.ref h14])), (h14, .inr (10, [.int 1, .int 20, .ref h15, .int 0]))] s.heap.size = A at hD hE ⊢
  have hA : ∀ q : Nat, s.heap.size ≤ q → A q := fun q h => by rw [← hAe]; exact Or.inr h
  have hK := hE.1
  have hS : va_S A s.heap s.heap [] := va_S.rf
  replace hP : va_P g.1 vwCl [(h0, .inr (12, [.ref h1, .int 0, .ref h2, .ref h3, .ref h4, .ref h5, .ref h6, .ref h7, .int (-1), .ref h8, .ref h9, .int 250, .ref h10, .int 0, .ref h11, .ref h12, .ref h13])), (h2, .inr (11, [.ref h14])), (h14, .inr (10, [.int 1, .int 20, .ref h15, .int 0]))] s.heap := hP
  have hl := lv_entry ([.ref h0]) (n := 2) (Nat.le_of_ble_eq_true rfl)
  rw [lg_entry_eq]
  generalize (lg_sl ([.ref h0]) ++ List.replicate (2 - (lg_sl ([.ref h0])).length) Slot.unset).toArray = ls at hl ⊢
  replace hl : lv_has ls 2 [(0, .ref h0)] := hl
  have hH0 : s.heap.size ≤ s.heap.size := Nat.le_refl _
  refine lv_aload_n hx hb dX11_wipe_0 rfl (lv_at hl 0 rfl) ?_
  refine va_get (D := g.1) (ci := 12) (v := .ref h2) (C := RX11) (T := TX11) (N := 17) hx hb hts in9_X11_wipe_1_RX11 hown hK hP 0 rfl rfl 2 (by decide) (hts (.fieldLink RX11 16 "Regexloom" "text" "LRegexloom$Text;") (List.mem_of_getElem? (i := 1) rfl)) (fun _ h9 => h9) rfl dX11_wipe_1 ?_
  have hPc := hP.sub (ws' := [(h2, .inr (11, [.ref h14])), (h14, .inr (10, [.int 1, .int 20, .ref h15, .int 0]))]) [1, 2] rfl
  have hDc := hD.sub (ws' := [(h2, .inr (11, [.ref h14])), (h14, .inr (10, [.int 1, .int 20, .ref h15, .int 0]))]) [1, 2] (by decide) rfl
  have hFc := va_free (wc := [(h2, .inr (11, [.ref h14])), (h14, .inr (10, [.int 1, .int 20, .ref h15, .int 0]))]) hD hS hA [1, 2] rfl
  refine va_calli (va_runV (As := []) (rest := []) ⟨hx, hb, hml, hown, hts⟩ (c9_X10_size_1 l g h2 h14 h15 _) (cwV 0 hts g9_X11_wipe_1_0 rfl rfl rfl (by decide +kernel) ⟨Nat.le_of_ble_eq_true rfl, Nat.le_of_ble_eq_true rfl⟩) (mPreV (g := g) (wc := [(h2, .inr (11, [.ref h14])), (h14, .inr (10, [.int 1, .int 20, .ref h15, .int 0]))]) (C := RX10) (ci := 11) (q0 := 0) hE hS hPc hDc hFc rfl rfl) rfl rfl hl.1 rfl (lv_room (Nat.le_of_ble_eq_true rfl)) dX11_wipe_4 ⟨Nat.le_of_ble_eq_true rfl, Nat.le_of_ble_eq_true rfl⟩) hS (fun q _ h => hFc q h) hFc (fun r_1 u t H1 locs ht hvm hw hB hz1 hk1 hS => ?_)
  replace hw : 0 = r_1 := Eq.symm hw
  subst hw
  obtain ⟨hP1, hD1⟩ := hB
  rw [ht] at hP1
  obtain ⟨hP, hD⟩ := va_join (wr := [(h0, .inr (12, [.ref h1, .int 0, .ref h2, .ref h3, .ref h4, .ref h5, .ref h6, .ref h7, .int (-1), .ref h8, .ref h9, .int 250, .ref h10, .int 0, .ref h11, .ref h12, .ref h13]))]) (w1 := [(h2, .inr (11, [.ref h14])), (h14, .inr (10, [.int 1, .int 20, .ref h15, .int 0]))]) hP hD [1, 2] [0] rfl rfl (by decide) (by decide) hk1 hFc hP1 hD1
  clear hP1 hD1 hPc hDc hFc hk1 hz1 hvm ht
  generalize H1 = H at hP hS ⊢
  have hP : va_P g.1 vwCl [(h0, .inr (12, [.ref h1, .int 0, .ref h2, .ref h3, .ref h4, .ref h5, .ref h6, .ref h7, .int (-1), .ref h8, .ref h9, .int 250, .ref h10, .int 0, .ref h11, .ref h12, .ref h13])), (h2, .inr (11, [.ref h14])), (h14, .inr (10, [.int 1, .int 20, .ref h15, .int 0]))] H := hP
  have hD : va_D A [(h0, .inr (12, [.ref h1, .int 0, .ref h2, .ref h3, .ref h4, .ref h5, .ref h6, .ref h7, .int (-1), .ref h8, .ref h9, .int 250, .ref h10, .int 0, .ref h11, .ref h12, .ref h13])), (h2, .inr (11, [.ref h14])), (h14, .inr (10, [.int 1, .int 20, .ref h15, .int 0]))] := hD
  refine lv_istore_n (lv' := [(1, .int 0), (0, .ref h0)]) hx hb dX11_wipe_7 rfl hl (by decide) rfl (fun ls hl => ?_)
  refine lv_aload_n hx hb dX11_wipe_8 rfl (lv_at hl 1 rfl) ?_
  refine va_get (D := g.1) (ci := 12) (v := .ref h2) (C := RX11) (T := TX11) (N := 17) hx hb hts in9_X11_wipe_1_RX11 hown hK hP 0 rfl rfl 2 (by decide) (hts (.fieldLink RX11 16 "Regexloom" "text" "LRegexloom$Text;") (List.mem_of_getElem? (i := 1) rfl)) (fun _ h9 => h9) rfl dX11_wipe_9 ?_
  have hPc := hP.sub (ws' := [(h2, .inr (11, [.ref h14])), (h14, .inr (10, [.int 1, .int 20, .ref h15, .int 0]))]) [1, 2] rfl
  have hDc := hD.sub (ws' := [(h2, .inr (11, [.ref h14])), (h14, .inr (10, [.int 1, .int 20, .ref h15, .int 0]))]) [1, 2] (by decide) rfl
  have hFc := va_free (wc := [(h2, .inr (11, [.ref h14])), (h14, .inr (10, [.int 1, .int 20, .ref h15, .int 0]))]) hD hS hA [1, 2] rfl
  refine va_callv (va_runV (As := []) (rest := []) ⟨hx, hb, hml, hown, hts⟩ (c9_X10_empty_1 l g h2 h14 h15 _) (cwV 0 hts g9_X11_wipe_1_1 rfl rfl rfl (by decide +kernel) ⟨Nat.le_of_ble_eq_true rfl, Nat.le_of_ble_eq_true rfl⟩) (mPreV (g := g) (wc := [(h2, .inr (11, [.ref h14])), (h14, .inr (10, [.int 1, .int 20, .ref h15, .int 0]))]) (C := RX10) (ci := 11) (q0 := 0) hE hS hPc hDc hFc rfl rfl) rfl rfl hl.1 rfl (lv_room (Nat.le_of_ble_eq_true rfl)) dX11_wipe_12 ⟨Nat.le_of_ble_eq_true rfl, Nat.le_of_ble_eq_true rfl⟩) hS (fun q _ h => hFc q h) hFc (fun u t H1 locs ht hvm hw hB hz1 hk1 hS => ?_)
  obtain ⟨hP1, hD1⟩ := hB
  rw [ht] at hP1
  obtain ⟨hP, hD⟩ := va_join (wr := [(h0, .inr (12, [.ref h1, .int 0, .ref h2, .ref h3, .ref h4, .ref h5, .ref h6, .ref h7, .int (-1), .ref h8, .ref h9, .int 250, .ref h10, .int 0, .ref h11, .ref h12, .ref h13]))]) (w1 := [(h2, .inr (11, [.ref h14])), (h14, .inr (10, [.int 1, .int 20, .ref h15, .int 0]))]) hP hD [1, 2] [0] rfl rfl (by decide) (by decide) hk1 hFc hP1 hD1
  clear hP1 hD1 hPc hDc hFc hk1 hz1 hvm ht
  generalize H1 = H at hP hS ⊢
  have hP : va_P g.1 vwCl [(h0, .inr (12, [.ref h1, .int 0, .ref h2, .ref h3, .ref h4, .ref h5, .ref h6, .ref h7, .int (-1), .ref h8, .ref h9, .int 250, .ref h10, .int 0, .ref h11, .ref h12, .ref h13])), (h2, .inr (11, [.ref h14])), (h14, .inr (10, [.int 1, .int 20, .ref h15, .int 0]))] H := hP
  have hD : va_D A [(h0, .inr (12, [.ref h1, .int 0, .ref h2, .ref h3, .ref h4, .ref h5, .ref h6, .ref h7, .int (-1), .ref h8, .ref h9, .int 250, .ref h10, .int 0, .ref h11, .ref h12, .ref h13])), (h2, .inr (11, [.ref h14])), (h14, .inr (10, [.int 1, .int 20, .ref h15, .int 0]))] := hD
  refine lv_iload_n hx hb dX11_wipe_15 rfl (lv_at hl 0 rfl) ?_
  have hP9 := hP.sub (ws' := [(h0, .inr (12, [.ref h1, .int 0, .ref h2, .ref h3, .ref h4, .ref h5, .ref h6, .ref h7, .int (-1), .ref h8, .ref h9, .int 250, .ref h10, .int 0, .ref h11, .ref h12, .ref h13])), (h2, .inr (11, [.ref h14])), (h14, .inr (10, [.int 1, .int 20, .ref h15, .int 0]))]) [0, 1, 2] rfl
  have hD9 := hD.sub (ws' := [(h0, .inr (12, [.ref h1, .int 0, .ref h2, .ref h3, .ref h4, .ref h5, .ref h6, .ref h7, .int (-1), .ref h8, .ref h9, .int 250, .ref h10, .int 0, .ref h11, .ref h12, .ref h13])), (h2, .inr (11, [.ref h14])), (h14, .inr (10, [.int 1, .int 20, .ref h15, .int 0]))]) [0, 1, 2] (by decide) rfl
  subst hAe
  exact W.iret (v := 0) hx hb hr (fun t ht hW => ⟨⟨0, (), rfl, rfl, by rw [ht]; exact hP9, hD9⟩, hS.F ht⟩) hS.2.2 dX11_wipe_16
def w9_X21_wipe_1 : List Cond := [.code yX21_wipe cX21_wipe 2 (some .int), .fieldLink RX21 196 "RegexloomModel" "length" "I", .methodLink RX21 157 yX21_fine, .instanceMethod yX21_fine, .selects RX21 yX21_fine yX21_fine, .initialized RX21, .code yX21_fine cX21_fine 2 (some .int), .fieldLink RX21 144 "RegexloomModel" "refusal" "I"] ++ (u_ws RX21 TX21 32)
set_option maxRecDepth 20000 in
theorem in9_X21_wipe_1_RX21 : ∀ w ∈ u_ws RX21 TX21 32, w ∈ w9_X21_wipe_1 := by decide +kernel
set_option maxRecDepth 20000 in
theorem g9_X21_wipe_1_0 : GoodIn w9_X21_wipe_1 (wsV RX21 157 RX21 yX21_fine w9_X21_fine_1) := goodIn_r _ [2, 3, 4, 5, 6, 7, 8, 9, 10, 11, 12, 13, 14, 15, 16, 17, 18, 19, 20, 21, 22, 23, 24, 25, 26, 27, 28, 29, 30, 31, 32, 33, 34, 35, 36, 37, 38, 39] (by decide +kernel) (by decide +kernel)
set_option maxHeartbeats 4000000 in
set_option maxRecDepth 100000 in
theorem c9_X21_wipe_1 (l : Launch) (g : G9) (h0 h1 h2 h3 h4 h5 h6 h7 h8 h9 h10 h11 h12 h13 h14 h15 h16 sz : Nat) : Met l yX21_wipe w9_X21_wipe_1 ({ frames := 1, cells := 0, slots := 0, locals := 21 }) (mP g [(h0, .inr (22, [.int 0, .ref h1, .int 0, .ref h2, .int 0, .ref h3, .int 250, .ref h4, .int 0, .ref h5, .ref h6, .ref h7, .int 0, .ref h8, .ref h9, .ref h10, .int 0, .null, .int 0, .null, .int 0, .int 0, .int 0, .ref h11, .int 0, .ref h12, .ref h13, .ref h14, .int 0, .ref h15, .ref h16, .int 0]))] sz [.ref h0]) (va_Qi (fun (r : Int32) (_ : Unit) => r = 0) (fun (_ : Unit) (t : State) => mB g [(h0, .inr (22, [.int 0, .ref h1, .int 0, .ref h2, .int 0, .ref h3, .int 250, .ref h4, .int 0, .ref h5, .ref h6, .ref h7, .int 0, .ref h8, .ref h9, .ref h10, .int 0, .null, .int 0, .null, .int 0, .int 0, .int 0, .ref h11, .int 0, .ref h12, .ref h13, .ref h14, .int 0, .ref h15, .ref h16, .int 0]))] sz [(h0, .inr (22, [.int 0, .ref h1, .int 0, .ref h2, .int 0, .ref h3, .int 250, .ref h4, .int 0, .ref h5, .ref h6, .ref h7, .int 0, .ref h8, .ref h9, .ref h10, .int 0, .null, .int 0, .null, .int 0, .int 0, .int 0, .ref h11, .int 0, .ref h12, .ref h13, .ref h14, .int 0, .ref h15, .ref h16, .int 0]))] t) (va_A [(h0, .inr (22, [.int 0, .ref h1, .int 0, .ref h2, .int 0, .ref h3, .int 250, .ref h4, .int 0, .ref h5, .ref h6, .ref h7, .int 0, .ref h8, .ref h9, .ref h10, .int 0, .null, .int 0, .null, .int 0, .int 0, .int 0, .ref h11, .int 0, .ref h12, .ref h13, .ref h14, .int 0, .ref h15, .ref h16, .int 0]))] sz)) 0 0 (va_A [(h0, .inr (22, [.int 0, .ref h1, .int 0, .ref h2, .int 0, .ref h3, .int 250, .ref h4, .int 0, .ref h5, .ref h6, .ref h7, .int 0, .ref h8, .ref h9, .ref h10, .int 0, .null, .int 0, .null, .int 0, .int 0, .int 0, .ref h11, .int 0, .ref h12, .ref h13, .ref h14, .int 0, .ref h15, .ref h16, .int 0]))] sz) := by
  refine Met.ofW (cc := cX21_wipe) (maxL := 2) (ret := (some .int)) (by decide) rfl ?_
  intro p e s m args below meth c s₁ B hml hv
  obtain ⟨rfl, hsz, hP, hD0, hE⟩ := hv
  have hx := B.exec
  have hb := B.bytes
  have hr := B.returns
  have hts := atoms_spec (ws := w9_X21_wipe_1) B.pre
  have hown : s.vm.findClass RX21 = some m.cls := findClass_of_methodNamed B.named
  have hlocks := B.notSynchronized
  subst hsz
  have hD := hD0.self (sz := s.heap.size)
  generalize hAe : va_A [(h0, .inr (22, [.int 0, .ref h1, .int 0, .ref h2, .int 0, .ref h3, .int 250, .ref h4, .int 0, .ref h5, .ref h6, .ref h7, .int 0, .ref h8, .ref h9, .ref h10, .int 0, .null, .int 0, .null, .int 0, .int 0, .int 0, .ref h11, .int 0, .ref h12, .ref h13, .ref h14, .int 0, .ref h15, .ref h16, .int 0]))] s.heap.size = A at hD hE ⊢
  have hA : ∀ q : Nat, s.heap.size ≤ q → A q := fun q h => by rw [← hAe]; exact Or.inr h
  have hK := hE.1
  have hS : va_S A s.heap s.heap [] := va_S.rf
  replace hP : va_P g.1 vwCl [(h0, .inr (22, [.int 0, .ref h1, .int 0, .ref h2, .int 0, .ref h3, .int 250, .ref h4, .int 0, .ref h5, .ref h6, .ref h7, .int 0, .ref h8, .ref h9, .ref h10, .int 0, .null, .int 0, .null, .int 0, .int 0, .int 0, .ref h11, .int 0, .ref h12, .ref h13, .ref h14, .int 0, .ref h15, .ref h16, .int 0]))] s.heap := hP
  have hl := lv_entry ([.ref h0]) (n := 2) (Nat.le_of_ble_eq_true rfl)
  rw [lg_entry_eq]
  generalize (lg_sl ([.ref h0]) ++ List.replicate (2 - (lg_sl ([.ref h0])).length) Slot.unset).toArray = ls at hl ⊢
  replace hl : lv_has ls 2 [(0, .ref h0)] := hl
  have hH0 : s.heap.size ≤ s.heap.size := Nat.le_refl _
  refine lv_aload_n hx hb dX21_wipe_0 rfl (lv_at hl 0 rfl) ?_
  refine va_get (D := g.1) (ci := 22) (v := .int 0) (C := RX21) (T := TX21) (N := 32) hx hb hts in9_X21_wipe_1_RX21 hown hK hP 0 rfl rfl 4 (by decide) (hts (.fieldLink RX21 196 "RegexloomModel" "length" "I") (List.mem_of_getElem? (i := 1) rfl)) (fun _ h9 => h9) rfl dX21_wipe_1 ?_
  refine lv_istore_n (lv' := [(1, .int 0), (0, .ref h0)]) hx hb dX21_wipe_4 rfl hl (by decide) rfl (fun ls hl => ?_)
  refine lv_aload_n hx hb dX21_wipe_5 rfl (lv_at hl 1 rfl) ?_
  refine lv_iconst (v := 0) hx hb dX21_wipe_6 (by decide) ?_
  refine va_put (D := g.1) (ci := 22) (v := .int 0) (ty := .int) (C := RX21) (T := TX21) (N := 32) hx hb hts in9_X21_wipe_1_RX21 tyX21 tyX21_ok nmX21 hown hK hP hD hS 0 rfl rfl 4 (by decide) (hts (.fieldLink RX21 196 "RegexloomModel" "length" "I") (List.mem_of_getElem? (i := 1) rfl)) (fun _ h9 => h9) rfl (by decide +kernel) rfl rfl (Nat.le_of_ble_eq_true rfl) dX21_wipe_7 (fun H locs hP hD hS => ?_)
  have hP : va_P g.1 vwCl [(h0, .inr (22, [.int 0, .ref h1, .int 0, .ref h2, .int 0, .ref h3, .int 250, .ref h4, .int 0, .ref h5, .ref h6, .ref h7, .int 0, .ref h8, .ref h9, .ref h10, .int 0, .null, .int 0, .null, .int 0, .int 0, .int 0, .ref h11, .int 0, .ref h12, .ref h13, .ref h14, .int 0, .ref h15, .ref h16, .int 0]))] H := hP
  have hD : va_D A [(h0, .inr (22, [.int 0, .ref h1, .int 0, .ref h2, .int 0, .ref h3, .int 250, .ref h4, .int 0, .ref h5, .ref h6, .ref h7, .int 0, .ref h8, .ref h9, .ref h10, .int 0, .null, .int 0, .null, .int 0, .int 0, .int 0, .ref h11, .int 0, .ref h12, .ref h13, .ref h14, .int 0, .ref h15, .ref h16, .int 0]))] := hD
  refine lv_aload_n hx hb dX21_wipe_10 rfl (lv_at hl 1 rfl) ?_
  refine lv_iload_n hx hb dX21_wipe_11 rfl (lv_at hl 0 rfl) ?_
  have hPc := hP.sub (ws' := [(h0, .inr (22, [.int 0, .ref h1, .int 0, .ref h2, .int 0, .ref h3, .int 250, .ref h4, .int 0, .ref h5, .ref h6, .ref h7, .int 0, .ref h8, .ref h9, .ref h10, .int 0, .null, .int 0, .null, .int 0, .int 0, .int 0, .ref h11, .int 0, .ref h12, .ref h13, .ref h14, .int 0, .ref h15, .ref h16, .int 0]))]) [0] rfl
  have hDc := hD.sub (ws' := [(h0, .inr (22, [.int 0, .ref h1, .int 0, .ref h2, .int 0, .ref h3, .int 250, .ref h4, .int 0, .ref h5, .ref h6, .ref h7, .int 0, .ref h8, .ref h9, .ref h10, .int 0, .null, .int 0, .null, .int 0, .int 0, .int 0, .ref h11, .int 0, .ref h12, .ref h13, .ref h14, .int 0, .ref h15, .ref h16, .int 0]))]) [0] (by decide) rfl
  have hFc := va_free (wc := [(h0, .inr (22, [.int 0, .ref h1, .int 0, .ref h2, .int 0, .ref h3, .int 250, .ref h4, .int 0, .ref h5, .ref h6, .ref h7, .int 0, .ref h8, .ref h9, .ref h10, .int 0, .null, .int 0, .null, .int 0, .int 0, .int 0, .ref h11, .int 0, .ref h12, .ref h13, .ref h14, .int 0, .ref h15, .ref h16, .int 0]))]) hD hS hA [0] rfl
  refine va_calli (va_runV (As := [.int 0]) (rest := []) ⟨hx, hb, hml, hown, hts⟩ (c9_X21_fine_1 l g h0 h1 h2 h3 h4 h5 h6 h7 h8 h9 h10 h11 h12 h13 h14 h15 h16 _) (cwV 1 hts g9_X21_wipe_1_0 rfl rfl rfl (by decide +kernel) ⟨Nat.le_of_ble_eq_true rfl, Nat.le_of_ble_eq_true rfl⟩) (mPreV (g := g) (wc := [(h0, .inr (22, [.int 0, .ref h1, .int 0, .ref h2, .int 0, .ref h3, .int 250, .ref h4, .int 0, .ref h5, .ref h6, .ref h7, .int 0, .ref h8, .ref h9, .ref h10, .int 0, .null, .int 0, .null, .int 0, .int 0, .int 0, .ref h11, .int 0, .ref h12, .ref h13, .ref h14, .int 0, .ref h15, .ref h16, .int 0]))]) (C := RX21) (ci := 22) (q0 := 0) hE hS hPc hDc hFc rfl rfl) rfl rfl hl.1 rfl (lv_room (Nat.le_of_ble_eq_true rfl)) dX21_wipe_12 ⟨Nat.le_of_ble_eq_true rfl, Nat.le_of_ble_eq_true rfl⟩) hS (fun q _ h => hFc q h) hFc (fun r_1 u t H1 locs ht hvm hw hB hz1 hk1 hS => ?_)
  replace hw : 0 = r_1 := Eq.symm hw
  subst hw
  obtain ⟨hP1, hD1⟩ := hB
  rw [ht] at hP1
  obtain ⟨hP, hD⟩ := va_join (wr := []) (w1 := [(h0, .inr (22, [.int 0, .ref h1, .int 0, .ref h2, .int 0, .ref h3, .int 250, .ref h4, .int 0, .ref h5, .ref h6, .ref h7, .int 0, .ref h8, .ref h9, .ref h10, .int 0, .null, .int 0, .null, .int 0, .int 0, .int 0, .ref h11, .int 0, .ref h12, .ref h13, .ref h14, .int 0, .ref h15, .ref h16, .int 0]))]) hP hD [0] [] rfl rfl (by decide) (by decide) hk1 hFc hP1 hD1
  clear hP1 hD1 hPc hDc hFc hk1 hz1 hvm ht
  generalize H1 = H at hP hS ⊢
  have hP : va_P g.1 vwCl [(h0, .inr (22, [.int 0, .ref h1, .int 0, .ref h2, .int 0, .ref h3, .int 250, .ref h4, .int 0, .ref h5, .ref h6, .ref h7, .int 0, .ref h8, .ref h9, .ref h10, .int 0, .null, .int 0, .null, .int 0, .int 0, .int 0, .ref h11, .int 0, .ref h12, .ref h13, .ref h14, .int 0, .ref h15, .ref h16, .int 0]))] H := hP
  have hD : va_D A [(h0, .inr (22, [.int 0, .ref h1, .int 0, .ref h2, .int 0, .ref h3, .int 250, .ref h4, .int 0, .ref h5, .ref h6, .ref h7, .int 0, .ref h8, .ref h9, .ref h10, .int 0, .null, .int 0, .null, .int 0, .int 0, .int 0, .ref h11, .int 0, .ref h12, .ref h13, .ref h14, .int 0, .ref h15, .ref h16, .int 0]))] := hD
  have hP9 := hP.sub (ws' := [(h0, .inr (22, [.int 0, .ref h1, .int 0, .ref h2, .int 0, .ref h3, .int 250, .ref h4, .int 0, .ref h5, .ref h6, .ref h7, .int 0, .ref h8, .ref h9, .ref h10, .int 0, .null, .int 0, .null, .int 0, .int 0, .int 0, .ref h11, .int 0, .ref h12, .ref h13, .ref h14, .int 0, .ref h15, .ref h16, .int 0]))]) [0] rfl
  have hD9 := hD.sub (ws' := [(h0, .inr (22, [.int 0, .ref h1, .int 0, .ref h2, .int 0, .ref h3, .int 250, .ref h4, .int 0, .ref h5, .ref h6, .ref h7, .int 0, .ref h8, .ref h9, .ref h10, .int 0, .null, .int 0, .null, .int 0, .int 0, .int 0, .ref h11, .int 0, .ref h12, .ref h13, .ref h14, .int 0, .ref h15, .ref h16, .int 0]))]) [0] (by decide) rfl
  subst hAe
  exact W.iret (v := 0) hx hb hr (fun t ht hW => ⟨⟨0, (), rfl, rfl, by rw [ht]; exact hP9, hD9⟩, hS.F ht⟩) hS.2.2 dX21_wipe_15
def w9_X11_length_1 : List Cond := [.code yX11_length cX11_length 1 (some .int), .fieldLink RX11 16 "Regexloom" "text" "LRegexloom$Text;", .methodLink RX11 146 yX10_size, .instanceMethod yX10_size, .selects RX10 yX10_size yX10_size, .initialized RX10, .code yX10_size cX10_size 1 (some .int), .fieldLink RX10 14 "Regexloom$Text" "codes" "LRegexloom$Table;", .methodLink RX10 20 yX9_size, .instanceMethod yX9_size, .selects RX9 yX9_size yX9_size, .initialized RX9, .code yX9_size cX9_size 1 (some .int), .fieldLink RX9 28 "Regexloom$Table" "size" "I"] ++ (u_ws RX11 TX11 17 ++ u_ws RX10 TX10 1 ++ u_ws RX9 TX9 4)
set_option maxRecDepth 20000 in
theorem in9_X11_length_1_RX11 : ∀ w ∈ u_ws RX11 TX11 17, w ∈ w9_X11_length_1 := by decide +kernel
set_option maxRecDepth 20000 in
theorem in9_X11_length_1_RX10 : ∀ w ∈ u_ws RX10 TX10 1, w ∈ w9_X11_length_1 := by decide +kernel
set_option maxRecDepth 20000 in
theorem in9_X11_length_1_RX9 : ∀ w ∈ u_ws RX9 TX9 4, w ∈ w9_X11_length_1 := by decide +kernel
set_option maxRecDepth 20000 in
theorem g9_X11_length_1_0 : GoodIn w9_X11_length_1 (wsV RX11 146 RX10 yX10_size w9_X10_size_1) := goodIn_r _ [2, 3, 4, 5, 6, 7, 8, 9, 10, 11, 12, 13, 31, 32, 33, 34, 35] (by decide +kernel) (by decide +kernel)
set_option maxHeartbeats 4000000 in
set_option maxRecDepth 100000 in
theorem c9_X11_length_1 (l : Launch) (g : G9) (h0 h1 h2 h3 h4 h5 h6 h7 h8 h9 h10 h11 h12 h13 h14 h15 sz : Nat) : Met l yX11_length w9_X11_length_1 ({ frames := 2, cells := 0, slots := 0, locals := 40 }) (mP g [(h0, .inr (12, [.ref h1, .int 0, .ref h2, .ref h3, .ref h4, .ref h5, .ref h6, .ref h7, .int (-1), .ref h8, .ref h9, .int 250, .ref h10, .int 0, .ref h11, .ref h12, .ref h13])), (h2, .inr (11, [.ref h14])), (h14, .inr (10, [.int 1, .int 20, .ref h15, .int 0]))] sz [.ref h0]) (va_Qi (fun (r : Int32) (_ : Unit) => r = 0) (fun (_ : Unit) (t : State) => mB g [(h0, .inr (12, [.ref h1, .int 0, .ref h2, .ref h3, .ref h4, .ref h5, .ref h6, .ref h7, .int (-1), .ref h8, .ref h9, .int 250, .ref h10, .int 0, .ref h11, .ref h12, .ref h13])), (h2, .inr (11, [.ref h14])), (h14, .inr (10, [.int 1, .int 20, .ref h15, .int 0]))] sz [(h0, .inr (12, [.ref h1, .int 0, .ref h2, .ref h3, .ref h4, .ref h5, .ref h6, .ref h7, .int (-1), .ref h8, .ref h9, .int 250, .ref h10, .int 0, .ref h11, .ref h12, .ref h13])), (h2, .inr (11, [.ref h14])), (h14, .inr (10, [.int 1, .int 20, .ref h15, .int 0]))] t) (va_A [(h0, .inr (12, [.ref h1, .int 0, .ref h2, .ref h3, .ref h4, .ref h5, .ref h6, .ref h7, .int (-1), .ref h8, .ref h9, .int 250, .ref h10, .int 0, .ref h11, .ref h12, .ref h13])), (h2, .inr (11, [.ref h14])), (h14, .inr (10, [.int 1, .int 20, .ref h15, .int 0]))] sz)) 0 0 (va_A [(h0, .inr (12, [.ref h1, .int 0, .ref h2, .ref h3, .ref h4, .ref h5, .ref h6, .ref h7, .int (-1), .ref h8, .ref h9, .int 250, .ref h10, .int 0, .ref h11, .ref h12, .ref h13])), (h2, .inr (11, [.ref h14])), (h14, .inr (10, [.int 1, .int 20, .ref h15, .int 0]))] sz) := by
  refine Met.ofW (cc := cX11_length) (maxL := 1) (ret := (some .int)) (by decide) rfl ?_
  intro p e s m args below meth c s₁ B hml hv
  obtain ⟨rfl, hsz, hP, hD0, hE⟩ := hv
  have hx := B.exec
  have hb := B.bytes
  have hr := B.returns
  have hts := atoms_spec (ws := w9_X11_length_1) B.pre
  have hown : s.vm.findClass RX11 = some m.cls := findClass_of_methodNamed B.named
  have hlocks := B.notSynchronized
  subst hsz
  have hD := hD0.self (sz := s.heap.size)
  generalize hAe : va_A [(h0, .inr (12, [.ref h1, .int 0, .ref h2, .ref h3, .ref h4, .ref h5, .ref h6, .ref h7, .int (-1), .ref h8, .ref h9, .int 250, .ref h10, .int 0, .ref h11, .ref h12, .ref h13])), (h2, .inr (11, [.ref h14])), (h14, .inr (10, [.int 1, .int 20, .ref h15, .int 0]))] s.heap.size = A at hD hE ⊢
  have hA : ∀ q : Nat, s.heap.size ≤ q → A q := fun q h => by rw [← hAe]; exact Or.inr h
  have hK := hE.1
  have hS : va_S A s.heap s.heap [] := va_S.rf
  replace hP : va_P g.1 vwCl [(h0, .inr (12, [.ref h1, .int 0, .ref h2, .ref h3, .ref h4, .ref h5, .ref h6, .ref h7, .int (-1), .ref h8, .ref h9, .int 250, .ref h10, .int 0, .ref h11, .ref h12, .ref h13])), (h2, .inr (11, [.ref h14])), (h14, .inr (10, [.int 1, .int 20, .ref h15, .int 0]))] s.heap := hP
  have hl := lv_entry ([.ref h0]) (n := 1) (Nat.le_of_ble_eq_true rfl)
  rw [lg_entry_eq]
  generalize (lg_sl ([.ref h0]) ++ List.replicate (1 - (lg_sl ([.ref h0])).length) Slot.unset).toArray = ls at hl ⊢
  replace hl : lv_has ls 1 [(0, .ref h0)] := hl
  have hH0 : s.heap.size ≤ s.heap.size := Nat.le_refl _
  refine lv_aload_n hx hb dX11_length_0 rfl (lv_at hl 0 rfl) ?_
  refine va_get (D := g.1) (ci := 12) (v := .ref h2) (C := RX11) (T := TX11) (N := 17) hx hb hts in9_X11_length_1_RX11 hown hK hP 0 rfl rfl 2 (by decide) (hts (.fieldLink RX11 16 "Regexloom" "text" "LRegexloom$Text;") (List.mem_of_getElem? (i := 1) rfl)) (fun _ h9 => h9) rfl dX11_length_1 ?_
  have hPc := hP.sub (ws' := [(h2, .inr (11, [.ref h14])), (h14, .inr (10, [.int 1, .int 20, .ref h15, .int 0]))]) [1, 2] rfl
  have hDc := hD.sub (ws' := [(h2, .inr (11, [.ref h14])), (h14, .inr (10, [.int 1, .int 20, .ref h15, .int 0]))]) [1, 2] (by decide) rfl
  have hFc := va_free (wc := [(h2, .inr (11, [.ref h14])), (h14, .inr (10, [.int 1, .int 20, .ref h15, .int 0]))]) hD hS hA [1, 2] rfl
  refine va_calli (va_runV (As := []) (rest := []) ⟨hx, hb, hml, hown, hts⟩ (c9_X10_size_1 l g h2 h14 h15 _) (cwV 0 hts g9_X11_length_1_0 rfl rfl rfl (by decide +kernel) ⟨Nat.le_of_ble_eq_true rfl, Nat.le_of_ble_eq_true rfl⟩) (mPreV (g := g) (wc := [(h2, .inr (11, [.ref h14])), (h14, .inr (10, [.int 1, .int 20, .ref h15, .int 0]))]) (C := RX10) (ci := 11) (q0 := 0) hE hS hPc hDc hFc rfl rfl) rfl rfl hl.1 rfl (lv_room (Nat.le_of_ble_eq_true rfl)) dX11_length_4 ⟨Nat.le_of_ble_eq_true rfl, Nat.le_of_ble_eq_true rfl⟩) hS (fun q _ h => hFc q h) hFc (fun r_1 u t H1 locs ht hvm hw hB hz1 hk1 hS => ?_)
  replace hw : 0 = r_1 := Eq.symm hw
  subst hw
  obtain ⟨hP1, hD1⟩ := hB
  rw [ht] at hP1
  obtain ⟨hP, hD⟩ := va_join (wr := [(h0, .inr (12, [.ref h1, .int 0, .ref h2, .ref h3, .ref h4, .ref h5, .ref h6, .ref h7, .int (-1), .ref h8, .ref h9, .int 250, .ref h10, .int 0, .ref h11, .ref h12, .ref h13]))]) (w1 := [(h2, .inr (11, [.ref h14])), (h14, .inr (10, [.int 1, .int 20, .ref h15, .int 0]))]) hP hD [1, 2] [0] rfl rfl (by decide) (by decide) hk1 hFc hP1 hD1
  clear hP1 hD1 hPc hDc hFc hk1 hz1 hvm ht
  generalize H1 = H at hP hS ⊢
  have hP : va_P g.1 vwCl [(h0, .inr (12, [.ref h1, .int 0, .ref h2, .ref h3, .ref h4, .ref h5, .ref h6, .ref h7, .int (-1), .ref h8, .ref h9, .int 250, .ref h10, .int 0, .ref h11, .ref h12, .ref h13])), (h2, .inr (11, [.ref h14])), (h14, .inr (10, [.int 1, .int 20, .ref h15, .int 0]))] H := hP
  have hD : va_D A [(h0, .inr (12, [.ref h1, .int 0, .ref h2, .ref h3, .ref h4, .ref h5, .ref h6, .ref h7, .int (-1), .ref h8, .ref h9, .int 250, .ref h10, .int 0, .ref h11, .ref h12, .ref h13])), (h2, .inr (11, [.ref h14])), (h14, .inr (10, [.int 1, .int 20, .ref h15, .int 0]))] := hD
  have hP9 := hP.sub (ws' := [(h0, .inr (12, [.ref h1, .int 0, .ref h2, .ref h3, .ref h4, .ref h5, .ref h6, .ref h7, .int (-1), .ref h8, .ref h9, .int 250, .ref h10, .int 0, .ref h11, .ref h12, .ref h13])), (h2, .inr (11, [.ref h14])), (h14, .inr (10, [.int 1, .int 20, .ref h15, .int 0]))]) [0, 1, 2] rfl
  have hD9 := hD.sub (ws' := [(h0, .inr (12, [.ref h1, .int 0, .ref h2, .ref h3, .ref h4, .ref h5, .ref h6, .ref h7, .int (-1), .ref h8, .ref h9, .int 250, .ref h10, .int 0, .ref h11, .ref h12, .ref h13])), (h2, .inr (11, [.ref h14])), (h14, .inr (10, [.int 1, .int 20, .ref h15, .int 0]))]) [0, 1, 2] (by decide) rfl
  subst hAe
  exact W.iret (v := 0) hx hb hr (fun t ht hW => ⟨⟨0, (), rfl, rfl, by rw [ht]; exact hP9, hD9⟩, hS.F ht⟩) hS.2.2 dX11_length_7
def w9_X21_length_1 : List Cond := [.code yX21_length cX21_length 1 (some .int), .fieldLink RX21 196 "RegexloomModel" "length" "I", .methodLink RX21 157 yX21_fine, .instanceMethod yX21_fine, .selects RX21 yX21_fine yX21_fine, .initialized RX21, .code yX21_fine cX21_fine 2 (some .int), .fieldLink RX21 144 "RegexloomModel" "refusal" "I"] ++ (u_ws RX21 TX21 32)
set_option maxRecDepth 20000 in
theorem in9_X21_length_1_RX21 : ∀ w ∈ u_ws RX21 TX21 32, w ∈ w9_X21_length_1 := by decide +kernel
set_option maxRecDepth 20000 in
theorem g9_X21_length_1_0 : GoodIn w9_X21_length_1 (wsV RX21 157 RX21 yX21_fine w9_X21_fine_1) := goodIn_r _ [2, 3, 4, 5, 6, 7, 8, 9, 10, 11, 12, 13, 14, 15, 16, 17, 18, 19, 20, 21, 22, 23, 24, 25, 26, 27, 28, 29, 30, 31, 32, 33, 34, 35, 36, 37, 38, 39] (by decide +kernel) (by decide +kernel)
set_option maxHeartbeats 4000000 in
set_option maxRecDepth 100000 in
theorem c9_X21_length_1 (l : Launch) (g : G9) (h0 h1 h2 h3 h4 h5 h6 h7 h8 h9 h10 h11 h12 h13 h14 h15 h16 sz : Nat) : Met l yX21_length w9_X21_length_1 ({ frames := 1, cells := 0, slots := 0, locals := 21 }) (mP g [(h0, .inr (22, [.int 0, .ref h1, .int 0, .ref h2, .int 0, .ref h3, .int 250, .ref h4, .int 0, .ref h5, .ref h6, .ref h7, .int 0, .ref h8, .ref h9, .ref h10, .int 0, .null, .int 0, .null, .int 0, .int 0, .int 0, .ref h11, .int 0, .ref h12, .ref h13, .ref h14, .int 0, .ref h15, .ref h16, .int 0]))] sz [.ref h0]) (va_Qi (fun (r : Int32) (_ : Unit) => r = 0) (fun (_ : Unit) (t : State) => mB g [(h0, .inr (22, [.int 0, .ref h1, .int 0, .ref h2, .int 0, .ref h3, .int 250, .ref h4, .int 0, .ref h5, .ref h6, .ref h7, .int 0, .ref h8, .ref h9, .ref h10, .int 0, .null, .int 0, .null, .int 0, .int 0, .int 0, .ref h11, .int 0, .ref h12, .ref h13, .ref h14, .int 0, .ref h15, .ref h16, .int 0]))] sz [(h0, .inr (22, [.int 0, .ref h1, .int 0, .ref h2, .int 0, .ref h3, .int 250, .ref h4, .int 0, .ref h5, .ref h6, .ref h7, .int 0, .ref h8, .ref h9, .ref h10, .int 0, .null, .int 0, .null, .int 0, .int 0, .int 0, .ref h11, .int 0, .ref h12, .ref h13, .ref h14, .int 0, .ref h15, .ref h16, .int 0]))] t) (va_A [(h0, .inr (22, [.int 0, .ref h1, .int 0, .ref h2, .int 0, .ref h3, .int 250, .ref h4, .int 0, .ref h5, .ref h6, .ref h7, .int 0, .ref h8, .ref h9, .ref h10, .int 0, .null, .int 0, .null, .int 0, .int 0, .int 0, .ref h11, .int 0, .ref h12, .ref h13, .ref h14, .int 0, .ref h15, .ref h16, .int 0]))] sz)) 0 0 (va_A [(h0, .inr (22, [.int 0, .ref h1, .int 0, .ref h2, .int 0, .ref h3, .int 250, .ref h4, .int 0, .ref h5, .ref h6, .ref h7, .int 0, .ref h8, .ref h9, .ref h10, .int 0, .null, .int 0, .null, .int 0, .int 0, .int 0, .ref h11, .int 0, .ref h12, .ref h13, .ref h14, .int 0, .ref h15, .ref h16, .int 0]))] sz) := by
  refine Met.ofW (cc := cX21_length) (maxL := 1) (ret := (some .int)) (by decide) rfl ?_
  intro p e s m args below meth c s₁ B hml hv
  obtain ⟨rfl, hsz, hP, hD0, hE⟩ := hv
  have hx := B.exec
  have hb := B.bytes
  have hr := B.returns
  have hts := atoms_spec (ws := w9_X21_length_1) B.pre
  have hown : s.vm.findClass RX21 = some m.cls := findClass_of_methodNamed B.named
  have hlocks := B.notSynchronized
  subst hsz
  have hD := hD0.self (sz := s.heap.size)
  generalize hAe : va_A [(h0, .inr (22, [.int 0, .ref h1, .int 0, .ref h2, .int 0, .ref h3, .int 250, .ref h4, .int 0, .ref h5, .ref h6, .ref h7, .int 0, .ref h8, .ref h9, .ref h10, .int 0, .null, .int 0, .null, .int 0, .int 0, .int 0, .ref h11, .int 0, .ref h12, .ref h13, .ref h14, .int 0, .ref h15, .ref h16, .int 0]))] s.heap.size = A at hD hE ⊢
  have hA : ∀ q : Nat, s.heap.size ≤ q → A q := fun q h => by rw [← hAe]; exact Or.inr h
  have hK := hE.1
  have hS : va_S A s.heap s.heap [] := va_S.rf
  replace hP : va_P g.1 vwCl [(h0, .inr (22, [.int 0, .ref h1, .int 0, .ref h2, .int 0, .ref h3, .int 250, .ref h4, .int 0, .ref h5, .ref h6, .ref h7, .int 0, .ref h8, .ref h9, .ref h10, .int 0, .null, .int 0, .null, .int 0, .int 0, .int 0, .ref h11, .int 0, .ref h12, .ref h13, .ref h14, .int 0, .ref h15, .ref h16, .int 0]))] s.heap := hP
  have hl := lv_entry ([.ref h0]) (n := 1) (Nat.le_of_ble_eq_true rfl)
  rw [lg_entry_eq]
  generalize (lg_sl ([.ref h0]) ++ List.replicate (1 - (lg_sl ([.ref h0])).length) Slot.unset).toArray = ls at hl ⊢
  replace hl : lv_has ls 1 [(0, .ref h0)] := hl
  have hH0 : s.heap.size ≤ s.heap.size := Nat.le_refl _
  refine lv_aload_n hx hb dX21_length_0 rfl (lv_at hl 0 rfl) ?_
  refine lv_aload_n hx hb dX21_length_1 rfl (lv_at hl 0 rfl) ?_
  refine va_get (D := g.1) (ci := 22) (v := .int 0) (C := RX21) (T := TX21) (N := 32) hx hb hts in9_X21_length_1_RX21 hown hK hP 0 rfl rfl 4 (by decide) (hts (.fieldLink RX21 196 "RegexloomModel" "length" "I") (List.mem_of_getElem? (i := 1) rfl)) (fun _ h9 => h9) rfl dX21_length_2 ?_
  have hPc := hP.sub (ws' := [(h0, .inr (22, [.int 0, .ref h1, .int 0, .ref h2, .int 0, .ref h3, .int 250, .ref h4, .int 0, .ref h5, .ref h6, .ref h7, .int 0, .ref h8, .ref h9, .ref h10, .int 0, .null, .int 0, .null, .int 0, .int 0, .int 0, .ref h11, .int 0, .ref h12, .ref h13, .ref h14, .int 0, .ref h15, .ref h16, .int 0]))]) [0] rfl
  have hDc := hD.sub (ws' := [(h0, .inr (22, [.int 0, .ref h1, .int 0, .ref h2, .int 0, .ref h3, .int 250, .ref h4, .int 0, .ref h5, .ref h6, .ref h7, .int 0, .ref h8, .ref h9, .ref h10, .int 0, .null, .int 0, .null, .int 0, .int 0, .int 0, .ref h11, .int 0, .ref h12, .ref h13, .ref h14, .int 0, .ref h15, .ref h16, .int 0]))]) [0] (by decide) rfl
  have hFc := va_free (wc := [(h0, .inr (22, [.int 0, .ref h1, .int 0, .ref h2, .int 0, .ref h3, .int 250, .ref h4, .int 0, .ref h5, .ref h6, .ref h7, .int 0, .ref h8, .ref h9, .ref h10, .int 0, .null, .int 0, .null, .int 0, .int 0, .int 0, .ref h11, .int 0, .ref h12, .ref h13, .ref h14, .int 0, .ref h15, .ref h16, .int 0]))]) hD hS hA [0] rfl
  refine va_calli (va_runV (As := [.int 0]) (rest := []) ⟨hx, hb, hml, hown, hts⟩ (c9_X21_fine_1 l g h0 h1 h2 h3 h4 h5 h6 h7 h8 h9 h10 h11 h12 h13 h14 h15 h16 _) (cwV 1 hts g9_X21_length_1_0 rfl rfl rfl (by decide +kernel) ⟨Nat.le_of_ble_eq_true rfl, Nat.le_of_ble_eq_true rfl⟩) (mPreV (g := g) (wc := [(h0, .inr (22, [.int 0, .ref h1, .int 0, .ref h2, .int 0, .ref h3, .int 250, .ref h4, .int 0, .ref h5, .ref h6, .ref h7, .int 0, .ref h8, .ref h9, .ref h10, .int 0, .null, .int 0, .null, .int 0, .int 0, .int 0, .ref h11, .int 0, .ref h12, .ref h13, .ref h14, .int 0, .ref h15, .ref h16, .int 0]))]) (C := RX21) (ci := 22) (q0 := 0) hE hS hPc hDc hFc rfl rfl) rfl rfl hl.1 rfl (lv_room (Nat.le_of_ble_eq_true rfl)) dX21_length_5 ⟨Nat.le_of_ble_eq_true rfl, Nat.le_of_ble_eq_true rfl⟩) hS (fun q _ h => hFc q h) hFc (fun r_1 u t H1 locs ht hvm hw hB hz1 hk1 hS => ?_)
  replace hw : 0 = r_1 := Eq.symm hw
  subst hw
  obtain ⟨hP1, hD1⟩ := hB
  rw [ht] at hP1
  obtain ⟨hP, hD⟩ := va_join (wr := []) (w1 := [(h0, .inr (22, [.int 0, .ref h1, .int 0, .ref h2, .int 0, .ref h3, .int 250, .ref h4, .int 0, .ref h5, .ref h6, .ref h7, .int 0, .ref h8, .ref h9, .ref h10, .int 0, .null, .int 0, .null, .int 0, .int 0, .int 0, .ref h11, .int 0, .ref h12, .ref h13, .ref h14, .int 0, .ref h15, .ref h16, .int 0]))]) hP hD [0] [] rfl rfl (by decide) (by decide) hk1 hFc hP1 hD1
  clear hP1 hD1 hPc hDc hFc hk1 hz1 hvm ht
  generalize H1 = H at hP hS ⊢
  have hP : va_P g.1 vwCl [(h0, .inr (22, [.int 0, .ref h1, .int 0, .ref h2, .int 0, .ref h3, .int 250, .ref h4, .int 0, .ref h5, .ref h6, .ref h7, .int 0, .ref h8, .ref h9, .ref h10, .int 0, .null, .int 0, .null, .int 0, .int 0, .int 0, .ref h11, .int 0, .ref h12, .ref h13, .ref h14, .int 0, .ref h15, .ref h16, .int 0]))] H := hP
  have hD : va_D A [(h0, .inr (22, [.int 0, .ref h1, .int 0, .ref h2, .int 0, .ref h3, .int 250, .ref h4, .int 0, .ref h5, .ref h6, .ref h7, .int 0, .ref h8, .ref h9, .ref h10, .int 0, .null, .int 0, .null, .int 0, .int 0, .int 0, .ref h11, .int 0, .ref h12, .ref h13, .ref h14, .int 0, .ref h15, .ref h16, .int 0]))] := hD
  have hP9 := hP.sub (ws' := [(h0, .inr (22, [.int 0, .ref h1, .int 0, .ref h2, .int 0, .ref h3, .int 250, .ref h4, .int 0, .ref h5, .ref h6, .ref h7, .int 0, .ref h8, .ref h9, .ref h10, .int 0, .null, .int 0, .null, .int 0, .int 0, .int 0, .ref h11, .int 0, .ref h12, .ref h13, .ref h14, .int 0, .ref h15, .ref h16, .int 0]))]) [0] rfl
  have hD9 := hD.sub (ws' := [(h0, .inr (22, [.int 0, .ref h1, .int 0, .ref h2, .int 0, .ref h3, .int 250, .ref h4, .int 0, .ref h5, .ref h6, .ref h7, .int 0, .ref h8, .ref h9, .ref h10, .int 0, .null, .int 0, .null, .int 0, .int 0, .int 0, .ref h11, .int 0, .ref h12, .ref h13, .ref h14, .int 0, .ref h15, .ref h16, .int 0]))]) [0] (by decide) rfl
  subst hAe
  exact W.iret (v := 0) hx hb hr (fun t ht hW => ⟨⟨0, (), rfl, rfl, by rw [ht]; exact hP9, hD9⟩, hS.F ht⟩) hS.2.2 dX21_length_8
def w9_X11_trials_1 : List Cond := [.code yX11_trials cX11_trials 1 (some .int), .fieldLink RX11 194 "Regexloom" "latestTrials" "I"] ++ (u_ws RX11 TX11 17)
set_option maxRecDepth 20000 in
theorem in9_X11_trials_1_RX11 : ∀ w ∈ u_ws RX11 TX11 17, w ∈ w9_X11_trials_1 := by decide +kernel
set_option maxHeartbeats 4000000 in
set_option maxRecDepth 100000 in
theorem c9_X11_trials_1 (l : Launch) (g : G9) (h0 h1 h2 h3 h4 h5 h6 h7 h8 h9 h10 h11 h12 h13 sz : Nat) : Met l yX11_trials w9_X11_trials_1 ({ frames := 0, cells := 0, slots := 0, locals := 0 }) (mP g [(h0, .inr (12, [.ref h1, .int 0, .ref h2, .ref h3, .ref h4, .ref h5, .ref h6, .ref h7, .int (-1), .ref h8, .ref h9, .int 250, .ref h10, .int 0, .ref h11, .ref h12, .ref h13]))] sz [.ref h0]) (va_Qi (fun (r : Int32) (_ : Unit) => r = 0) (fun (_ : Unit) (t : State) => mB g [(h0, .inr (12, [.ref h1, .int 0, .ref h2, .ref h3, .ref h4, .ref h5, .ref h6, .ref h7, .int (-1), .ref h8, .ref h9, .int 250, .ref h10, .int 0, .ref h11, .ref h12, .ref h13]))] sz [(h0, .inr (12, [.ref h1, .int 0, .ref h2, .ref h3, .ref h4, .ref h5, .ref h6, .ref h7, .int (-1), .ref h8, .ref h9, .int 250, .ref h10, .int 0, .ref h11, .ref h12, .ref h13]))] t) (va_A [(h0, .inr (12, [.ref h1, .int 0, .ref h2, .ref h3, .ref h4, .ref h5, .ref h6, .ref h7, .int (-1), .ref h8, .ref h9, .int 250, .ref h10, .int 0, .ref h11, .ref h12, .ref h13]))] sz)) 0 0 (va_A [(h0, .inr (12, [.ref h1, .int 0, .ref h2, .ref h3, .ref h4, .ref h5, .ref h6, .ref h7, .int (-1), .ref h8, .ref h9, .int 250, .ref h10, .int 0, .ref h11, .ref h12, .ref h13]))] sz) := by
  refine Met.ofW (cc := cX11_trials) (maxL := 1) (ret := (some .int)) (by decide) rfl ?_
  intro p e s m args below meth c s₁ B hml hv
  obtain ⟨rfl, hsz, hP, hD0, hE⟩ := hv
  have hx := B.exec
  have hb := B.bytes
  have hr := B.returns
  have hts := atoms_spec (ws := w9_X11_trials_1) B.pre
  have hown : s.vm.findClass RX11 = some m.cls := findClass_of_methodNamed B.named
  have hlocks := B.notSynchronized
  subst hsz
  have hD := hD0.self (sz := s.heap.size)
  generalize hAe : va_A [(h0, .inr (12, [.ref h1, .int 0, .ref h2, .ref h3, .ref h4, .ref h5, .ref h6, .ref h7, .int (-1), .ref h8, .ref h9, .int 250, .ref h10, .int 0, .ref h11, .ref h12, .ref h13]))] s.heap.size = A at hD hE ⊢
  have hA : ∀ q : Nat, s.heap.size ≤ q → A q := fun q h => by rw [← hAe]; exact Or.inr h
  have hK := hE.1
  have hS : va_S A s.heap s.heap [] := va_S.rf
  replace hP : va_P g.1 vwCl [(h0, .inr (12, [.ref h1, .int 0, .ref h2, .ref h3, .ref h4, .ref h5, .ref h6, .ref h7, .int (-1), .ref h8, .ref h9, .int 250, .ref h10, .int 0, .ref h11, .ref h12, .ref h13]))] s.heap := hP
  have hl := lv_entry ([.ref h0]) (n := 1) (Nat.le_of_ble_eq_true rfl)
  rw [lg_entry_eq]
  generalize (lg_sl ([.ref h0]) ++ List.replicate (1 - (lg_sl ([.ref h0])).length) Slot.unset).toArray = ls at hl ⊢
  replace hl : lv_has ls 1 [(0, .ref h0)] := hl
  have hH0 : s.heap.size ≤ s.heap.size := Nat.le_refl _
  refine lv_aload_n hx hb dX11_trials_0 rfl (lv_at hl 0 rfl) ?_
  refine va_get (D := g.1) (ci := 12) (v := .int 0) (C := RX11) (T := TX11) (N := 17) hx hb hts in9_X11_trials_1_RX11 hown hK hP 0 rfl rfl 13 (by decide) (hts (.fieldLink RX11 194 "Regexloom" "latestTrials" "I") (List.mem_of_getElem? (i := 1) rfl)) (fun _ h9 => h9) rfl dX11_trials_1 ?_
  have hP9 := hP.sub (ws' := [(h0, .inr (12, [.ref h1, .int 0, .ref h2, .ref h3, .ref h4, .ref h5, .ref h6, .ref h7, .int (-1), .ref h8, .ref h9, .int 250, .ref h10, .int 0, .ref h11, .ref h12, .ref h13]))]) [0] rfl
  have hD9 := hD.sub (ws' := [(h0, .inr (12, [.ref h1, .int 0, .ref h2, .ref h3, .ref h4, .ref h5, .ref h6, .ref h7, .int (-1), .ref h8, .ref h9, .int 250, .ref h10, .int 0, .ref h11, .ref h12, .ref h13]))]) [0] (by decide) rfl
  subst hAe
  exact W.iret (v := 0) hx hb hr (fun t ht hW => ⟨⟨0, (), rfl, rfl, by rw [ht]; exact hP9, hD9⟩, hS.F ht⟩) hS.2.2 dX11_trials_4
def w9_X21_trials_1 : List Cond := [.code yX21_trials cX21_trials 1 (some .int), .fieldLink RX21 423 "RegexloomModel" "toldTrials" "I", .methodLink RX21 157 yX21_fine, .instanceMethod yX21_fine, .selects RX21 yX21_fine yX21_fine, .initialized RX21, .code yX21_fine cX21_fine 2 (some .int), .fieldLink RX21 144 "RegexloomModel" "refusal" "I"] ++ (u_ws RX21 TX21 32)
set_option maxRecDepth 20000 in
theorem in9_X21_trials_1_RX21 : ∀ w ∈ u_ws RX21 TX21 32, w ∈ w9_X21_trials_1 := by decide +kernel
set_option maxRecDepth 20000 in
theorem g9_X21_trials_1_0 : GoodIn w9_X21_trials_1 (wsV RX21 157 RX21 yX21_fine w9_X21_fine_1) := goodIn_r _ [2, 3, 4, 5, 6, 7, 8, 9, 10, 11, 12, 13, 14, 15, 16, 17, 18, 19, 20, 21, 22, 23, 24, 25, 26, 27, 28, 29, 30, 31, 32, 33, 34, 35, 36, 37, 38, 39] (by decide +kernel) (by decide +kernel)
set_option maxHeartbeats 4000000 in
set_option maxRecDepth 100000 in
theorem c9_X21_trials_1 (l : Launch) (g : G9) (h0 h1 h2 h3 h4 h5 h6 h7 h8 h9 h10 h11 h12 h13 h14 h15 h16 sz : Nat) : Met l yX21_trials w9_X21_trials_1 ({ frames := 1, cells := 0, slots := 0, locals := 21 }) (mP g [(h0, .inr (22, [.int 0, .ref h1, .int 0, .ref h2, .int 0, .ref h3, .int 250, .ref h4, .int 0, .ref h5, .ref h6, .ref h7, .int 0, .ref h8, .ref h9, .ref h10, .int 0, .null, .int 0, .null, .int 0, .int 0, .int 0, .ref h11, .int 0, .ref h12, .ref h13, .ref h14, .int 0, .ref h15, .ref h16, .int 0]))] sz [.ref h0]) (va_Qi (fun (r : Int32) (_ : Unit) => r = 0) (fun (_ : Unit) (t : State) => mB g [(h0, .inr (22, [.int 0, .ref h1, .int 0, .ref h2, .int 0, .ref h3, .int 250, .ref h4, .int 0, .ref h5, .ref h6, .ref h7, .int 0, .ref h8, .ref h9, .ref h10, .int 0, .null, .int 0, .null, .int 0, .int 0, .int 0, .ref h11, .int 0, .ref h12, .ref h13, .ref h14, .int 0, .ref h15, .ref h16, .int 0]))] sz [(h0, .inr (22, [.int 0, .ref h1, .int 0, .ref h2, .int 0, .ref h3, .int 250, .ref h4, .int 0, .ref h5, .ref h6, .ref h7, .int 0, .ref h8, .ref h9, .ref h10, .int 0, .null, .int 0, .null, .int 0, .int 0, .int 0, .ref h11, .int 0, .ref h12, .ref h13, .ref h14, .int 0, .ref h15, .ref h16, .int 0]))] t) (va_A [(h0, .inr (22, [.int 0, .ref h1, .int 0, .ref h2, .int 0, .ref h3, .int 250, .ref h4, .int 0, .ref h5, .ref h6, .ref h7, .int 0, .ref h8, .ref h9, .ref h10, .int 0, .null, .int 0, .null, .int 0, .int 0, .int 0, .ref h11, .int 0, .ref h12, .ref h13, .ref h14, .int 0, .ref h15, .ref h16, .int 0]))] sz)) 0 0 (va_A [(h0, .inr (22, [.int 0, .ref h1, .int 0, .ref h2, .int 0, .ref h3, .int 250, .ref h4, .int 0, .ref h5, .ref h6, .ref h7, .int 0, .ref h8, .ref h9, .ref h10, .int 0, .null, .int 0, .null, .int 0, .int 0, .int 0, .ref h11, .int 0, .ref h12, .ref h13, .ref h14, .int 0, .ref h15, .ref h16, .int 0]))] sz) := by
  refine Met.ofW (cc := cX21_trials) (maxL := 1) (ret := (some .int)) (by decide) rfl ?_
  intro p e s m args below meth c s₁ B hml hv
  obtain ⟨rfl, hsz, hP, hD0, hE⟩ := hv
  have hx := B.exec
  have hb := B.bytes
  have hr := B.returns
  have hts := atoms_spec (ws := w9_X21_trials_1) B.pre
  have hown : s.vm.findClass RX21 = some m.cls := findClass_of_methodNamed B.named
  have hlocks := B.notSynchronized
  subst hsz
  have hD := hD0.self (sz := s.heap.size)
  generalize hAe : va_A [(h0, .inr (22, [.int 0, .ref h1, .int 0, .ref h2, .int 0, .ref h3, .int 250, .ref h4, .int 0, .ref h5, .ref h6, .ref h7, .int 0, .ref h8, .ref h9, .ref h10, .int 0, .null, .int 0, .null, .int 0, .int 0, .int 0, .ref h11, .int 0, .ref h12, .ref h13, .ref h14, .int 0, .ref h15, .ref h16, .int 0]))] s.heap.size = A at hD hE ⊢
  have hA : ∀ q : Nat, s.heap.size ≤ q → A q := fun q h => by rw [← hAe]; exact Or.inr h
  have hK := hE.1
  have hS : va_S A s.heap s.heap [] := va_S.rf
  replace hP : va_P g.1 vwCl [(h0, .inr (22, [.int 0, .ref h1, .int 0, .ref h2, .int 0, .ref h3, .int 250, .ref h4, .int 0, .ref h5, .ref h6, .ref h7, .int 0, .ref h8, .ref h9, .ref h10, .int 0, .null, .int 0, .null, .int 0, .int 0, .int 0, .ref h11, .int 0, .ref h12, .ref h13, .ref h14, .int 0, .ref h15, .ref h16, .int 0]))] s.heap := hP
  have hl := lv_entry ([.ref h0]) (n := 1) (Nat.le_of_ble_eq_true rfl)
  rw [lg_entry_eq]
  generalize (lg_sl ([.ref h0]) ++ List.replicate (1 - (lg_sl ([.ref h0])).length) Slot.unset).toArray = ls at hl ⊢
  replace hl : lv_has ls 1 [(0, .ref h0)] := hl
  have hH0 : s.heap.size ≤ s.heap.size := Nat.le_refl _
  refine lv_aload_n hx hb dX21_trials_0 rfl (lv_at hl 0 rfl) ?_
  refine lv_aload_n hx hb dX21_trials_1 rfl (lv_at hl 0 rfl) ?_
  refine va_get (D := g.1) (ci := 22) (v := .int 0) (C := RX21) (T := TX21) (N := 32) hx hb hts in9_X21_trials_1_RX21 hown hK hP 0 rfl rfl 12 (by decide) (hts (.fieldLink RX21 423 "RegexloomModel" "toldTrials" "I") (List.mem_of_getElem? (i := 1) rfl)) (fun _ h9 => h9) rfl dX21_trials_2 ?_
  have hPc := hP.sub (ws' := [(h0, .inr (22, [.int 0, .ref h1, .int 0, .ref h2, .int 0, .ref h3, .int 250, .ref h4, .int 0, .ref h5, .ref h6, .ref h7, .int 0, .ref h8, .ref h9, .ref h10, .int 0, .null, .int 0, .null, .int 0, .int 0, .int 0, .ref h11, .int 0, .ref h12, .ref h13, .ref h14, .int 0, .ref h15, .ref h16, .int 0]))]) [0] rfl
  have hDc := hD.sub (ws' := [(h0, .inr (22, [.int 0, .ref h1, .int 0, .ref h2, .int 0, .ref h3, .int 250, .ref h4, .int 0, .ref h5, .ref h6, .ref h7, .int 0, .ref h8, .ref h9, .ref h10, .int 0, .null, .int 0, .null, .int 0, .int 0, .int 0, .ref h11, .int 0, .ref h12, .ref h13, .ref h14, .int 0, .ref h15, .ref h16, .int 0]))]) [0] (by decide) rfl
  have hFc := va_free (wc := [(h0, .inr (22, [.int 0, .ref h1, .int 0, .ref h2, .int 0, .ref h3, .int 250, .ref h4, .int 0, .ref h5, .ref h6, .ref h7, .int 0, .ref h8, .ref h9, .ref h10, .int 0, .null, .int 0, .null, .int 0, .int 0, .int 0, .ref h11, .int 0, .ref h12, .ref h13, .ref h14, .int 0, .ref h15, .ref h16, .int 0]))]) hD hS hA [0] rfl
  refine va_calli (va_runV (As := [.int 0]) (rest := []) ⟨hx, hb, hml, hown, hts⟩ (c9_X21_fine_1 l g h0 h1 h2 h3 h4 h5 h6 h7 h8 h9 h10 h11 h12 h13 h14 h15 h16 _) (cwV 1 hts g9_X21_trials_1_0 rfl rfl rfl (by decide +kernel) ⟨Nat.le_of_ble_eq_true rfl, Nat.le_of_ble_eq_true rfl⟩) (mPreV (g := g) (wc := [(h0, .inr (22, [.int 0, .ref h1, .int 0, .ref h2, .int 0, .ref h3, .int 250, .ref h4, .int 0, .ref h5, .ref h6, .ref h7, .int 0, .ref h8, .ref h9, .ref h10, .int 0, .null, .int 0, .null, .int 0, .int 0, .int 0, .ref h11, .int 0, .ref h12, .ref h13, .ref h14, .int 0, .ref h15, .ref h16, .int 0]))]) (C := RX21) (ci := 22) (q0 := 0) hE hS hPc hDc hFc rfl rfl) rfl rfl hl.1 rfl (lv_room (Nat.le_of_ble_eq_true rfl)) dX21_trials_5 ⟨Nat.le_of_ble_eq_true rfl, Nat.le_of_ble_eq_true rfl⟩) hS (fun q _ h => hFc q h) hFc (fun r_1 u t H1 locs ht hvm hw hB hz1 hk1 hS => ?_)
  replace hw : 0 = r_1 := Eq.symm hw
  subst hw
  obtain ⟨hP1, hD1⟩ := hB
  rw [ht] at hP1
  obtain ⟨hP, hD⟩ := va_join (wr := []) (w1 := [(h0, .inr (22, [.int 0, .ref h1, .int 0, .ref h2, .int 0, .ref h3, .int 250, .ref h4, .int 0, .ref h5, .ref h6, .ref h7, .int 0, .ref h8, .ref h9, .ref h10, .int 0, .null, .int 0, .null, .int 0, .int 0, .int 0, .ref h11, .int 0, .ref h12, .ref h13, .ref h14, .int 0, .ref h15, .ref h16, .int 0]))]) hP hD [0] [] rfl rfl (by decide) (by decide) hk1 hFc hP1 hD1
  clear hP1 hD1 hPc hDc hFc hk1 hz1 hvm ht
  generalize H1 = H at hP hS ⊢
  have hP : va_P g.1 vwCl [(h0, .inr (22, [.int 0, .ref h1, .int 0, .ref h2, .int 0, .ref h3, .int 250, .ref h4, .int 0, .ref h5, .ref h6, .ref h7, .int 0, .ref h8, .ref h9, .ref h10, .int 0, .null, .int 0, .null, .int 0, .int 0, .int 0, .ref h11, .int 0, .ref h12, .ref h13, .ref h14, .int 0, .ref h15, .ref h16, .int 0]))] H := hP
  have hD : va_D A [(h0, .inr (22, [.int 0, .ref h1, .int 0, .ref h2, .int 0, .ref h3, .int 250, .ref h4, .int 0, .ref h5, .ref h6, .ref h7, .int 0, .ref h8, .ref h9, .ref h10, .int 0, .null, .int 0, .null, .int 0, .int 0, .int 0, .ref h11, .int 0, .ref h12, .ref h13, .ref h14, .int 0, .ref h15, .ref h16, .int 0]))] := hD
  have hP9 := hP.sub (ws' := [(h0, .inr (22, [.int 0, .ref h1, .int 0, .ref h2, .int 0, .ref h3, .int 250, .ref h4, .int 0, .ref h5, .ref h6, .ref h7, .int 0, .ref h8, .ref h9, .ref h10, .int 0, .null, .int 0, .null, .int 0, .int 0, .int 0, .ref h11, .int 0, .ref h12, .ref h13, .ref h14, .int 0, .ref h15, .ref h16, .int 0]))]) [0] rfl
  have hD9 := hD.sub (ws' := [(h0, .inr (22, [.int 0, .ref h1, .int 0, .ref h2, .int 0, .ref h3, .int 250, .ref h4, .int 0, .ref h5, .ref h6, .ref h7, .int 0, .ref h8, .ref h9, .ref h10, .int 0, .null, .int 0, .null, .int 0, .int 0, .int 0, .ref h11, .int 0, .ref h12, .ref h13, .ref h14, .int 0, .ref h15, .ref h16, .int 0]))]) [0] (by decide) rfl
  subst hAe
  exact W.iret (v := 0) hx hb hr (fun t ht hW => ⟨⟨0, (), rfl, rfl, by rw [ht]; exact hP9, hD9⟩, hS.F ht⟩) hS.2.2 dX21_trials_8
def w9_X11_needPattern_1 : List Cond := [.code yX11_needPattern cX11_needPattern 2 none, .initialized "java/lang/Throwable", .superclass "java/lang/Throwable" "java/lang/Object", .instanceMethod Bundle.tFill, .codeSync Bundle.tFill LibCode.Throwable.Fill.code 1 (some (.object "java/lang/Throwable")), .instanceMethod Bundle.tFill0, .native Bundle.tFill0, .instanceMethod Bundle.tInit0, .code Bundle.tInit0 LibCode.Throwable.Init0.code 1 none, .instanceMethod Bundle.oInit, .code Bundle.oInit ⟨#[0xb1]⟩ 1 none, .methodLink "java/lang/Throwable" 1 Bundle.oInit, .methodLink "java/lang/Throwable" 27 Bundle.tFill, .methodLink "java/lang/Throwable" 202 Bundle.tFill0, .fieldLink "java/lang/Throwable" 7 "java/lang/Throwable" "cause" "Ljava/lang/Throwable;", .lays "java/lang/Throwable" "java/lang/Throwable" "cause" "Ljava/lang/Throwable;", .fieldLink "java/lang/Throwable" 17 "java/lang/Throwable" "stackTrace" "[Ljava/lang/StackTraceElement;", .lays "java/lang/Throwable" "java/lang/Throwable" "stackTrace" "[Ljava/lang/StackTraceElement;", .fieldLink "java/lang/Throwable" 24 "java/lang/Throwable" "suppressedExceptions" "Ljava/util/List;", .lays "java/lang/Throwable" "java/lang/Throwable" "suppressedExceptions" "Ljava/util/List;", .fieldLink "java/lang/Throwable" 13 "java/lang/Throwable" "UNASSIGNED_STACK" "[Ljava/lang/StackTraceElement;", .fieldLink "java/lang/Throwable" 20 "java/lang/Throwable" "SUPPRESSED_SENTINEL" "Ljava/util/List;", .lays "java/lang/Throwable" "java/lang/Throwable" "detailMessage" "Ljava/lang/String;", .instanceMethod (Bundle.initS "java/lang/Throwable"), .code (Bundle.initS "java/lang/Throwable") LibCode.Throwable.InitS.code 2 none, .fieldLink "java/lang/Throwable" 31 "java/lang/Throwable" "detailMessage" "Ljava/lang/String;", .instanceMethod (Bundle.initS "java/lang/IndexOutOfBoundsException"), .code (Bundle.initS "java/lang/IndexOutOfBoundsException") Bundle.six 2 none, .methodLink "java/lang/IndexOutOfBoundsException" 7 (Bundle.initS "java/lang/RuntimeException"), .instanceMethod (Bundle.initS "java/lang/RuntimeException"), .code (Bundle.initS "java/lang/RuntimeException") Bundle.six 2 none, .methodLink "java/lang/RuntimeException" 7 (Bundle.initS "java/lang/Exception"), .instanceMethod (Bundle.initS "java/lang/Exception"), .code (Bundle.initS "java/lang/Exception") Bundle.six 2 none, .methodLink "java/lang/Exception" 7 (Bundle.initS "java/lang/Throwable"), .methodLink RX11 224 (Bundle.initS "java/lang/IndexOutOfBoundsException"), .instantiable "java/lang/IndexOutOfBoundsException" 6, .selects "java/lang/IndexOutOfBoundsException" Bundle.tFill0 Bundle.tFill0, .selects "java/lang/IndexOutOfBoundsException" Bundle.tFill Bundle.tFill, .lays "java/lang/IndexOutOfBoundsException" "java/lang/Throwable" "cause" "Ljava/lang/Throwable;", .lays "java/lang/IndexOutOfBoundsException" "java/lang/Throwable" "stackTrace" "[Ljava/lang/StackTraceElement;", .lays "java/lang/IndexOutOfBoundsException" "java/lang/Throwable" "suppressedExceptions" "Ljava/util/List;", .lays "java/lang/IndexOutOfBoundsException" "java/lang/Throwable" "detailMessage" "Ljava/lang/String;", .fieldLink "java/lang/Throwable" 198 "java/lang/Throwable" "backtrace" "Ljava/lang/Object;", .lays "java/lang/Throwable" "java/lang/Throwable" "backtrace" "Ljava/lang/Object;", .lays "java/lang/IndexOutOfBoundsException" "java/lang/Throwable" "backtrace" "Ljava/lang/Object;", .classLink RX11 220 "java/lang/IndexOutOfBoundsException", .initialized "java/lang/IndexOutOfBoundsException"]
set_option maxHeartbeats 4000000 in
set_option maxRecDepth 100000 in
theorem c9_X11_needPattern_1 (l : Launch) (hlt : l.stackTraces = false) (g : G9) (h0 h1 h2 h3 h4 h5 h6 h7 h8 h9 h10 h11 h12 h13 sz : Nat) (v0 : Int32) (k_v0 : (-2147483648) ≤ v0.toInt ∧ v0.toInt ≤ (-1)) : vx_Met l yX11_needPattern w9_X11_needPattern_1 ({ frames := 6, cells := 1, slots := 6, locals := 82 }) (mP g [(h0, .inr (12, [.ref h1, .int 0, .ref h2, .ref h3, .ref h4, .ref h5, .ref h6, .ref h7, .int (-1), .ref h8, .ref h9, .int 250, .ref h10, .int 0, .ref h11, .ref h12, .ref h13]))] sz [.ref h0, .int v0]) (va_Qv (fun _ : Unit => False) (fun _ _ => True) (va_A [(h0, .inr (12, [.ref h1, .int 0, .ref h2, .ref h3, .ref h4, .ref h5, .ref h6, .ref h7, .int (-1), .ref h8, .ref h9, .int 250, .ref h10, .int 0, .ref h11, .ref h12, .ref h13]))] sz)) (mT g [(h0, .inr (12, [.ref h1, .int 0, .ref h2, .ref h3, .ref h4, .ref h5, .ref h6, .ref h7, .int (-1), .ref h8, .ref h9, .int 250, .ref h10, .int 0, .ref h11, .ref h12, .ref h13]))] sz "java/lang/IndexOutOfBoundsException") 1 6 (va_A [(h0, .inr (12, [.ref h1, .int 0, .ref h2, .ref h3, .ref h4, .ref h5, .ref h6, .ref h7, .int (-1), .ref h8, .ref h9, .int 250, .ref h10, .int 0, .ref h11, .ref h12, .ref h13]))] sz) := by
  refine vx_ofW (cc := cX11_needPattern) (maxL := 2) (ret := none) (by decide) rfl ?_
  intro p e s m args below meth c s₁ B hml hno hv
  obtain ⟨rfl, hsz, hP, hD0, hE⟩ := hv
  have hx := B.exec
  have hb := B.bytes
  have hr := B.returns
  have hts := atoms_spec (ws := w9_X11_needPattern_1) B.pre
  have hown : s.vm.findClass RX11 = some m.cls := findClass_of_methodNamed B.named
  have hlocks := B.notSynchronized
  subst hsz
  have hD := hD0.self (sz := s.heap.size)
  generalize hAe : va_A [(h0, .inr (12, [.ref h1, .int 0, .ref h2, .ref h3, .ref h4, .ref h5, .ref h6, .ref h7, .int (-1), .ref h8, .ref h9, .int 250, .ref h10, .int 0, .ref h11, .ref h12, .ref h13]))] s.heap.size = A at hD hE ⊢
  have hA : ∀ q : Nat, s.heap.size ≤ q → A q := fun q h => by rw [← hAe]; exact Or.inr h
  have hK := hE.1
  have hS : va_S A s.heap s.heap [] := va_S.rf
  replace hP : va_P g.1 vwCl [(h0, .inr (12, [.ref h1, .int 0, .ref h2, .ref h3, .ref h4, .ref h5, .ref h6, .ref h7, .int (-1), .ref h8, .ref h9, .int 250, .ref h10, .int 0, .ref h11, .ref h12, .ref h13]))] s.heap := hP
  have hl := lv_entry ([.ref h0, .int v0]) (n := 2) (Nat.le_of_ble_eq_true rfl)
  rw [lg_entry_eq]
  generalize (lg_sl ([.ref h0, .int v0]) ++ List.replicate (2 - (lg_sl ([.ref h0, .int v0])).length) Slot.unset).toArray = ls at hl ⊢
  replace hl : lv_has ls 2 [(0, .ref h0), (1, .int v0)] := hl
  have hH0 : s.heap.size ≤ s.heap.size := Nat.le_refl _
  refine lv_iload_n hx hb dX11_needPattern_0 rfl (lv_at hl 1 rfl) ?_
  refine lv_if_lt (tgt := 9) hx hb dX11_needPattern_1 (by decide) (fun _ => ?_) (fun c9 => absurd (by simp only [Int32.lt_iff_toInt_lt, Int32.le_iff_toInt_le, ← Int32.toInt_inj, show (0 : Int32).toInt = 0 from by decide]; omega) c9)
  obtain ⟨sa, hsa⟩ := hE.str (268, "no such pattern") (by decide)
  exact vx_throwSW (names := ["java/lang/RuntimeException", "java/lang/Exception"]) (A := A) hx hb hlt hown (by decide) (by decide) (hts (.classLink RX11 220 "java/lang/IndexOutOfBoundsException") (List.mem_of_getElem? (i := 46) rfl)) (hts (.initialized "java/lang/IndexOutOfBoundsException") (List.mem_of_getElem? (i := 47) rfl)) hsa (vx_hat (B := [.castable "java/lang/IndexOutOfBoundsException" "java/lang/IndexOutOfBoundsException", .declares (Bundle.initS "java/lang/RuntimeException"), .declares (Bundle.initS "java/lang/Exception"), .declares (Bundle.initS "java/lang/Throwable")]) (fun w9 hw9 => hts w9 (by revert w9; decide +kernel)) (by decide +kernel) (vx_c (va_Nw.use rfl (hE.cast ("java/lang/IndexOutOfBoundsException", "java/lang/IndexOutOfBoundsException") (by decide))) (vx_c (va_Nw.use rfl (hE.decl _ (by decide))) (vx_c (va_Nw.use rfl (hE.decl _ (by decide))) (vx_c (va_Nw.use rfl (hE.decl _ (by decide))) vx_n))))) (by decide +kernel) hE.zu hE.zn hS (by rw [hml]; exact hl.1) dX11_needPattern_9 dX11_needPattern_12 dX11_needPattern_13 dX11_needPattern_16 dX11_needPattern_19 (fun z hz => (hno z hz).elim) (Nat.le_of_ble_eq_true rfl) (Nat.le_of_ble_eq_true rfl) (Nat.le_of_ble_eq_true rfl) (Nat.le_of_ble_eq_true rfl) hlocks (fun t hW hz ho => ⟨(), trivial, rfl, by subst hAe; exact ⟨Nat.le_trans hS.1 hz, fun q h1 h2 => (ho q (Nat.lt_of_lt_of_le h1 hS.1)).trans (hS.2.1 q h1 h2)⟩⟩) (fun z hz => by subst hAe; exact hS.2.2 z hz) (Nat.le_of_ble_eq_true rfl) (Nat.le_of_ble_eq_true rfl)
def w9_X11_tell_1 : List Cond := [.code yX11_tell cX11_tell 3 (some .int), .methodLink RX11 124 yX11_needPattern, .instanceMethod yX11_needPattern, .selects RX11 yX11_needPattern yX11_needPattern, .initialized RX11, .code yX11_needPattern cX11_needPattern 2 none, .initialized "java/lang/Throwable", .superclass "java/lang/Throwable" "java/lang/Object", .instanceMethod Bundle.tFill, .codeSync Bundle.tFill LibCode.Throwable.Fill.code 1 (some (.object "java/lang/Throwable")), .instanceMethod Bundle.tFill0, .native Bundle.tFill0, .instanceMethod Bundle.tInit0, .code Bundle.tInit0 LibCode.Throwable.Init0.code 1 none, .instanceMethod Bundle.oInit, .code Bundle.oInit ⟨#[0xb1]⟩ 1 none, .methodLink "java/lang/Throwable" 1 Bundle.oInit, .methodLink "java/lang/Throwable" 27 Bundle.tFill, .methodLink "java/lang/Throwable" 202 Bundle.tFill0, .fieldLink "java/lang/Throwable" 7 "java/lang/Throwable" "cause" "Ljava/lang/Throwable;", .lays "java/lang/Throwable" "java/lang/Throwable" "cause" "Ljava/lang/Throwable;", .fieldLink "java/lang/Throwable" 17 "java/lang/Throwable" "stackTrace" "[Ljava/lang/StackTraceElement;", .lays "java/lang/Throwable" "java/lang/Throwable" "stackTrace" "[Ljava/lang/StackTraceElement;", .fieldLink "java/lang/Throwable" 24 "java/lang/Throwable" "suppressedExceptions" "Ljava/util/List;", .lays "java/lang/Throwable" "java/lang/Throwable" "suppressedExceptions" "Ljava/util/List;", .fieldLink "java/lang/Throwable" 13 "java/lang/Throwable" "UNASSIGNED_STACK" "[Ljava/lang/StackTraceElement;", .fieldLink "java/lang/Throwable" 20 "java/lang/Throwable" "SUPPRESSED_SENTINEL" "Ljava/util/List;", .lays "java/lang/Throwable" "java/lang/Throwable" "detailMessage" "Ljava/lang/String;", .instanceMethod (Bundle.initS "java/lang/Throwable"), .code (Bundle.initS "java/lang/Throwable") LibCode.Throwable.InitS.code 2 none, .fieldLink "java/lang/Throwable" 31 "java/lang/Throwable" "detailMessage" "Ljava/lang/String;", .instanceMethod (Bundle.initS "java/lang/IndexOutOfBoundsException"), .code (Bundle.initS "java/lang/IndexOutOfBoundsException") Bundle.six 2 none, .methodLink "java/lang/IndexOutOfBoundsException" 7 (Bundle.initS "java/lang/RuntimeException"), .instanceMethod (Bundle.initS "java/lang/RuntimeException"), .code (Bundle.initS "java/lang/RuntimeException") Bundle.six 2 none, .methodLink "java/lang/RuntimeException" 7 (Bundle.initS "java/lang/Exception"), .instanceMethod (Bundle.initS "java/lang/Exception"), .code (Bundle.initS "java/lang/Exception") Bundle.six 2 none, .methodLink "java/lang/Exception" 7 (Bundle.initS "java/lang/Throwable"), .methodLink RX11 224 (Bundle.initS "java/lang/IndexOutOfBoundsException"), .instantiable "java/lang/IndexOutOfBoundsException" 6, .selects "java/lang/IndexOutOfBoundsException" Bundle.tFill0 Bundle.tFill0, .selects "java/lang/IndexOutOfBoundsException" Bundle.tFill Bundle.tFill, .lays "java/lang/IndexOutOfBoundsException" "java/lang/Throwable" "cause" "Ljava/lang/Throwable;", .lays "java/lang/IndexOutOfBoundsException" "java/lang/Throwable" "stackTrace" "[Ljava/lang/StackTraceElement;", .lays "java/lang/IndexOutOfBoundsException" "java/lang/Throwable" "suppressedExceptions" "Ljava/util/List;", .lays "java/lang/IndexOutOfBoundsException" "java/lang/Throwable" "detailMessage" "Ljava/lang/String;", .fieldLink "java/lang/Throwable" 198 "java/lang/Throwable" "backtrace" "Ljava/lang/Object;", .lays "java/lang/Throwable" "java/lang/Throwable" "backtrace" "Ljava/lang/Object;", .lays "java/lang/IndexOutOfBoundsException" "java/lang/Throwable" "backtrace" "Ljava/lang/Object;", .classLink RX11 220 "java/lang/IndexOutOfBoundsException", .initialized "java/lang/IndexOutOfBoundsException"]
set_option maxRecDepth 20000 in
theorem g9_X11_tell_1_0 : GoodIn w9_X11_tell_1 (wsV RX11 124 RX11 yX11_needPattern w9_X11_needPattern_1) := goodIn_r _ [1, 2, 3, 4, 5, 6, 7, 8, 9, 10, 11, 12, 13, 14, 15, 16, 17, 18, 19, 20, 21, 22, 23, 24, 25, 26, 27, 28, 29, 30, 31, 32, 33, 34, 35, 36, 37, 38, 39, 40, 41, 42, 43, 44, 45, 46, 47, 48, 49, 50, 51, 52] (by decide +kernel) (by decide +kernel)
set_option maxHeartbeats 4000000 in
set_option maxRecDepth 100000 in
theorem c9_X11_tell_1 (l : Launch) (hlt : l.stackTraces = false) (g : G9) (h0 h1 h2 h3 h4 h5 h6 h7 h8 h9 h10 h11 h12 h13 sz : Nat) (v0 : Int32) (k_v0 : (-2147483648) ≤ v0.toInt ∧ v0.toInt ≤ (-1)) : vx_Met l yX11_tell w9_X11_tell_1 ({ frames := 7, cells := 1, slots := 6, locals := 103 }) (mP g [(h0, .inr (12, [.ref h1, .int 0, .ref h2, .ref h3, .ref h4, .ref h5, .ref h6, .ref h7, .int (-1), .ref h8, .ref h9, .int 250, .ref h10, .int 0, .ref h11, .ref h12, .ref h13]))] sz [.ref h0, .int v0]) (va_Qv (fun _ : Unit => False) (fun _ _ => True) (va_A [(h0, .inr (12, [.ref h1, .int 0, .ref h2, .ref h3, .ref h4, .ref h5, .ref h6, .ref h7, .int (-1), .ref h8, .ref h9, .int 250, .ref h10, .int 0, .ref h11, .ref h12, .ref h13]))] sz)) (mT g [(h0, .inr (12, [.ref h1, .int 0, .ref h2, .ref h3, .ref h4, .ref h5, .ref h6, .ref h7, .int (-1), .ref h8, .ref h9, .int 250, .ref h10, .int 0, .ref h11, .ref h12, .ref h13]))] sz "java/lang/IndexOutOfBoundsException") 1 6 (va_A [(h0, .inr (12, [.ref h1, .int 0, .ref h2, .ref h3, .ref h4, .ref h5, .ref h6, .ref h7, .int (-1), .ref h8, .ref h9, .int 250, .ref h10, .int 0, .ref h11, .ref h12, .ref h13]))] sz) := by
  refine vx_ofW (cc := cX11_tell) (maxL := 3) (ret := (some .int)) (by decide) rfl ?_
  intro p e s m args below meth c s₁ B hml hno hv
  obtain ⟨rfl, hsz, hP, hD0, hE⟩ := hv
  have hx := B.exec
  have hb := B.bytes
  have hr := B.returns
  have hts := atoms_spec (ws := w9_X11_tell_1) B.pre
  have hown : s.vm.findClass RX11 = some m.cls := findClass_of_methodNamed B.named
  have hlocks := B.notSynchronized
  subst hsz
  have hD := hD0.self (sz := s.heap.size)
  generalize hAe : va_A [(h0, .inr (12, [.ref h1, .int 0, .ref h2, .ref h3, .ref h4, .ref h5, .ref h6, .ref h7, .int (-1), .ref h8, .ref h9, .int 250, .ref h10, .int 0, .ref h11, .ref h12, .ref h13]))] s.heap.size = A at hD hE ⊢
  have hA : ∀ q : Nat, s.heap.size ≤ q → A q := fun q h => by rw [← hAe]; exact Or.inr h
  have hK := hE.1
  have hS : va_S A s.heap s.heap [] := va_S.rf
  replace hP : va_P g.1 vwCl [(h0, .inr (12, [.ref h1, .int 0, .ref h2, .ref h3, .ref h4, .ref h5, .ref h6, .ref h7, .int (-1), .ref h8, .ref h9, .int 250, .ref h10, .int 0, .ref h11, .ref h12, .ref h13]))] s.heap := hP
  have hl := lv_entry ([.ref h0, .int v0]) (n := 3) (Nat.le_of_ble_eq_true rfl)
  rw [lg_entry_eq]
  generalize (lg_sl ([.ref h0, .int v0]) ++ List.replicate (3 - (lg_sl ([.ref h0, .int v0])).length) Slot.unset).toArray = ls at hl ⊢
  replace hl : lv_has ls 3 [(0, .ref h0), (1, .int v0)] := hl
  have hH0 : s.heap.size ≤ s.heap.size := Nat.le_refl _
  refine lv_aload_n hx hb dX11_tell_0 rfl (lv_at hl 0 rfl) ?_
  refine lv_iload_n hx hb dX11_tell_1 rfl (lv_at hl 1 rfl) ?_
  have hPc := hP.sub (ws' := [(h0, .inr (12, [.ref h1, .int 0, .ref h2, .ref h3, .ref h4, .ref h5, .ref h6, .ref h7, .int (-1), .ref h8, .ref h9, .int 250, .ref h10, .int 0, .ref h11, .ref h12, .ref h13]))]) [0] rfl
  have hDc := hD.sub (ws' := [(h0, .inr (12, [.ref h1, .int 0, .ref h2, .ref h3, .ref h4, .ref h5, .ref h6, .ref h7, .int (-1), .ref h8, .ref h9, .int 250, .ref h10, .int 0, .ref h11, .ref h12, .ref h13]))]) [0] (by decide) rfl
  have hFc := va_free (wc := [(h0, .inr (12, [.ref h1, .int 0, .ref h2, .ref h3, .ref h4, .ref h5, .ref h6, .ref h7, .int (-1), .ref h8, .ref h9, .int 250, .ref h10, .int 0, .ref h11, .ref h12, .ref h13]))]) hD hS hA [0] rfl
  refine vx_callv (vx_runV (As := [.int v0]) (rest := []) ⟨hx, hb, hml, hown, hts⟩ (c9_X11_needPattern_1 l hlt g h0 h1 h2 h3 h4 h5 h6 h7 h8 h9 h10 h11 h12 h13 _ v0 (by omega)) (cwV 1 hts g9_X11_tell_1_0 rfl rfl rfl (by decide +kernel) ⟨Nat.le_of_ble_eq_true rfl, Nat.le_of_ble_eq_true rfl⟩) (mPreV (g := g) (wc := [(h0, .inr (12, [.ref h1, .int 0, .ref h2, .ref h3, .ref h4, .ref h5, .ref h6, .ref h7, .int (-1), .ref h8, .ref h9, .int 250, .ref h10, .int 0, .ref h11, .ref h12, .ref h13]))]) (C := RX11) (ci := 12) (q0 := 0) hE hS hPc hDc hFc rfl rfl) rfl rfl hl.1 rfl (lv_room (Nat.le_of_ble_eq_true rfl)) dX11_tell_2 ⟨Nat.le_of_ble_eq_true rfl, Nat.le_of_ble_eq_true rfl⟩) hS (fun q _ h => hFc q h) hFc (fun q _ h => hFc q h) (fun E9 ce q9 u t H locs ht hvm hw hB hz1 hk1 hS hc1 hc2 hc3 => ?_) (fun u t H1 locs ht hvm hw hB hz1 hk1 hS => hw.elim)
  replace hB : E9 = "java/lang/IndexOutOfBoundsException" := hB
  subst hB
  exact vx_out (fun z hz => (hno z hz).elim) hlocks hc1 hc2 hc3 (fun t ht hW => ⟨(), trivial, rfl, by subst hAe; exact hS.F ht⟩) (by subst hAe; exact hS.2.2) (Nat.le_of_ble_eq_true rfl) (Nat.le_of_ble_eq_true rfl)
def w9_L_tell_1 : List Cond := [.codeWith yL_tell cL_tell 4 (some .int) [(0, 9, 12, 21), (0, 9, 15, 15)], .methodLink RL 17 yX11_tell, .instanceMethod yX11_tell, .selects RX11 yX11_tell yX11_tell, .initialized RX11, .code yX11_tell cX11_tell 3 (some .int), .methodLink RX11 124 yX11_needPattern, .instanceMethod yX11_needPattern, .selects RX11 yX11_needPattern yX11_needPattern, .code yX11_needPattern cX11_needPattern 2 none, .initialized "java/lang/Throwable", .superclass "java/lang/Throwable" "java/lang/Object", .instanceMethod Bundle.tFill, .codeSync Bundle.tFill LibCode.Throwable.Fill.code 1 (some (.object "java/lang/Throwable")), .instanceMethod Bundle.tFill0, .native Bundle.tFill0, .instanceMethod Bundle.tInit0, .code Bundle.tInit0 LibCode.Throwable.Init0.code 1 none, .instanceMethod Bundle.oInit, .code Bundle.oInit ⟨#[0xb1]⟩ 1 none, .methodLink "java/lang/Throwable" 1 Bundle.oInit, .methodLink "java/lang/Throwable" 27 Bundle.tFill, .methodLink "java/lang/Throwable" 202 Bundle.tFill0, .fieldLink "java/lang/Throwable" 7 "java/lang/Throwable" "cause" "Ljava/lang/Throwable;", .lays "java/lang/Throwable" "java/lang/Throwable" "cause" "Ljava/lang/Throwable;", .fieldLink "java/lang/Throwable" 17 "java/lang/Throwable" "stackTrace" "[Ljava/lang/StackTraceElement;", .lays "java/lang/Throwable" "java/lang/Throwable" "stackTrace" "[Ljava/lang/StackTraceElement;", .fieldLink "java/lang/Throwable" 24 "java/lang/Throwable" "suppressedExceptions" "Ljava/util/List;", .lays "java/lang/Throwable" "java/lang/Throwable" "suppressedExceptions" "Ljava/util/List;", .fieldLink "java/lang/Throwable" 13 "java/lang/Throwable" "UNASSIGNED_STACK" "[Ljava/lang/StackTraceElement;", .fieldLink "java/lang/Throwable" 20 "java/lang/Throwable" "SUPPRESSED_SENTINEL" "Ljava/util/List;", .lays "java/lang/Throwable" "java/lang/Throwable" "detailMessage" "Ljava/lang/String;", .instanceMethod (Bundle.initS "java/lang/Throwable"), .code (Bundle.initS "java/lang/Throwable") LibCode.Throwable.InitS.code 2 none, .fieldLink "java/lang/Throwable" 31 "java/lang/Throwable" "detailMessage" "Ljava/lang/String;", .instanceMethod (Bundle.initS "java/lang/IndexOutOfBoundsException"), .code (Bundle.initS "java/lang/IndexOutOfBoundsException") Bundle.six 2 none, .methodLink "java/lang/IndexOutOfBoundsException" 7 (Bundle.initS "java/lang/RuntimeException"), .instanceMethod (Bundle.initS "java/lang/RuntimeException"), .code (Bundle.initS "java/lang/RuntimeException") Bundle.six 2 none, .methodLink "java/lang/RuntimeException" 7 (Bundle.initS "java/lang/Exception"), .instanceMethod (Bundle.initS "java/lang/Exception"), .code (Bundle.initS "java/lang/Exception") Bundle.six 2 none, .methodLink "java/lang/Exception" 7 (Bundle.initS "java/lang/Throwable"), .methodLink RX11 224 (Bundle.initS "java/lang/IndexOutOfBoundsException"), .instantiable "java/lang/IndexOutOfBoundsException" 6, .selects "java/lang/IndexOutOfBoundsException" Bundle.tFill0 Bundle.tFill0, .selects "java/lang/IndexOutOfBoundsException" Bundle.tFill Bundle.tFill, .lays "java/lang/IndexOutOfBoundsException" "java/lang/Throwable" "cause" "Ljava/lang/Throwable;", .lays "java/lang/IndexOutOfBoundsException" "java/lang/Throwable" "stackTrace" "[Ljava/lang/StackTraceElement;", .lays "java/lang/IndexOutOfBoundsException" "java/lang/Throwable" "suppressedExceptions" "Ljava/util/List;", .lays "java/lang/IndexOutOfBoundsException" "java/lang/Throwable" "detailMessage" "Ljava/lang/String;", .fieldLink "java/lang/Throwable" 198 "java/lang/Throwable" "backtrace" "Ljava/lang/Object;", .lays "java/lang/Throwable" "java/lang/Throwable" "backtrace" "Ljava/lang/Object;", .lays "java/lang/IndexOutOfBoundsException" "java/lang/Throwable" "backtrace" "Ljava/lang/Object;", .classLink RX11 220 "java/lang/IndexOutOfBoundsException", .initialized "java/lang/IndexOutOfBoundsException", .classLink RL 21 "java/lang/IndexOutOfBoundsException"]
set_option maxRecDepth 20000 in
theorem g9_L_tell_1_0 : GoodIn w9_L_tell_1 (wsV RL 17 RX11 yX11_tell w9_X11_tell_1) := goodIn_r _ [1, 2, 3, 4, 5, 6, 7, 8, 4, 9, 10, 11, 12, 13, 14, 15, 16, 17, 18, 19, 20, 21, 22, 23, 24, 25, 26, 27, 28, 29, 30, 31, 32, 33, 34, 35, 36, 37, 38, 39, 40, 41, 42, 43, 44, 45, 46, 47, 48, 49, 50, 51, 52, 53, 54, 55, 56] (by decide +kernel) (by decide +kernel)
set_option maxHeartbeats 4000000 in
set_option maxRecDepth 100000 in
theorem c9_L_tell_1 (l : Launch) (hlt : l.stackTraces = false) (g : G9) (h0 h1 h2 h3 h4 h5 h6 h7 h8 h9 h10 h11 h12 h13 h14 sz : Nat) (v0 : Int32) (k_v0 : (-2147483648) ≤ v0.toInt ∧ v0.toInt ≤ (-1)) : Met l yL_tell w9_L_tell_1 ({ frames := 8, cells := 1, slots := 6, locals := 125 }) (mP g [(h0, .inr (12, [.ref h2, .int 0, .ref h3, .ref h4, .ref h5, .ref h6, .ref h7, .ref h8, .int (-1), .ref h9, .ref h10, .int 250, .ref h11, .int 0, .ref h12, .ref h13, .ref h14]))] sz [.ref h0, .int v0, .ref h1]) (va_Qi (fun (r : Int32) (_ : Unit) => r = 1) (fun (_ : Unit) (t : State) => mB g [(h0, .inr (12, [.ref h2, .int 0, .ref h3, .ref h4, .ref h5, .ref h6, .ref h7, .ref h8, .int (-1), .ref h9, .ref h10, .int 250, .ref h11, .int 0, .ref h12, .ref h13, .ref h14]))] sz [] t) (va_A [(h0, .inr (12, [.ref h2, .int 0, .ref h3, .ref h4, .ref h5, .ref h6, .ref h7, .ref h8, .int (-1), .ref h9, .ref h10, .int 250, .ref h11, .int 0, .ref h12, .ref h13, .ref h14]))] sz)) 1 6 (va_A [(h0, .inr (12, [.ref h2, .int 0, .ref h3, .ref h4, .ref h5, .ref h6, .ref h7, .ref h8, .int (-1), .ref h9, .ref h10, .int 250, .ref h11, .int 0, .ref h12, .ref h13, .ref h14]))] sz) := by
  refine va_MetW (cc := cL_tell) (maxL := 4) (ret := (some .int)) (by decide) rfl ?_
  intro p e s m args below meth c s₁ B hml hv
  obtain ⟨rfl, hsz, hP, hD0, hE⟩ := hv
  have hx := B.exec
  have hb := B.bytes
  have hr := B.returns
  have hts := atoms_spec (ws := w9_L_tell_1) B.pre
  have hown : s.vm.findClass RL = some m.cls := findClass_of_methodNamed B.named
  have hlocks := B.notSynchronized
  have htab := vx_table (x := yL_tell) B (hts (.codeWith yL_tell cL_tell 4 (some .int) [(0, 9, 12, 21), (0, 9, 15, 15)]) (List.mem_of_getElem? (i := 0) rfl))
  subst hsz
  have hD := hD0.self (sz := s.heap.size)
  generalize hAe : va_A [(h0, .inr (12, [.ref h2, .int 0, .ref h3, .ref h4, .ref h5, .ref h6, .ref h7, .ref h8, .int (-1), .ref h9, .ref h10, .int 250, .ref h11, .int 0, .ref h12, .ref h13, .ref h14]))] s.heap.size = A at hD hE ⊢
  have hA : ∀ q : Nat, s.heap.size ≤ q → A q := fun q h => by rw [← hAe]; exact Or.inr h
  have hK := hE.1
  have hS : va_S A s.heap s.heap [] := va_S.rf
  replace hP : va_P g.1 vwCl [(h0, .inr (12, [.ref h2, .int 0, .ref h3, .ref h4, .ref h5, .ref h6, .ref h7, .ref h8, .int (-1), .ref h9, .ref h10, .int 250, .ref h11, .int 0, .ref h12, .ref h13, .ref h14]))] s.heap := hP
  have hl := lv_entry ([.ref h0, .int v0, .ref h1]) (n := 4) (Nat.le_of_ble_eq_true rfl)
  rw [lg_entry_eq]
  generalize (lg_sl ([.ref h0, .int v0, .ref h1]) ++ List.replicate (4 - (lg_sl ([.ref h0, .int v0, .ref h1])).length) Slot.unset).toArray = ls at hl ⊢
  replace hl : lv_has ls 4 [(0, .ref h0), (1, .int v0), (2, .ref h1)] := hl
  have hH0 : s.heap.size ≤ s.heap.size := Nat.le_refl _
  refine lv_aload_n hx hb dL_tell_0 rfl (lv_at hl 2 rfl) ?_
  refine lv_iconst (v := 0) hx hb dL_tell_1 (by decide) ?_
  refine lv_aload_n hx hb dL_tell_2 rfl (lv_at hl 0 rfl) ?_
  refine lv_iload_n hx hb dL_tell_3 rfl (lv_at hl 1 rfl) ?_
  have hPc := hP.sub (ws' := [(h0, .inr (12, [.ref h2, .int 0, .ref h3, .ref h4, .ref h5, .ref h6, .ref h7, .ref h8, .int (-1), .ref h9, .ref h10, .int 250, .ref h11, .int 0, .ref h12, .ref h13, .ref h14]))]) [0] rfl
  have hDc := hD.sub (ws' := [(h0, .inr (12, [.ref h2, .int 0, .ref h3, .ref h4, .ref h5, .ref h6, .ref h7, .ref h8, .int (-1), .ref h9, .ref h10, .int 250, .ref h11, .int 0, .ref h12, .ref h13, .ref h14]))]) [0] (by decide) rfl
  have hFc := va_free (wc := [(h0, .inr (12, [.ref h2, .int 0, .ref h3, .ref h4, .ref h5, .ref h6, .ref h7, .ref h8, .int (-1), .ref h9, .ref h10, .int 250, .ref h11, .int 0, .ref h12, .ref h13, .ref h14]))]) hD hS hA [0] rfl
  refine vx_callv (vx_runV (As := [.int v0]) (rest := [.int 0, .ref h1]) ⟨hx, hb, hml, hown, hts⟩ (c9_X11_tell_1 l hlt g h0 h2 h3 h4 h5 h6 h7 h8 h9 h10 h11 h12 h13 h14 _ v0 (by omega)) (cwV 1 hts g9_L_tell_1_0 rfl rfl rfl (by decide +kernel) ⟨Nat.le_of_ble_eq_true rfl, Nat.le_of_ble_eq_true rfl⟩) (mPreV (g := g) (wc := [(h0, .inr (12, [.ref h2, .int 0, .ref h3, .ref h4, .ref h5, .ref h6, .ref h7, .ref h8, .int (-1), .ref h9, .ref h10, .int 250, .ref h11, .int 0, .ref h12, .ref h13, .ref h14]))]) (C := RX11) (ci := 12) (q0 := 0) hE hS hPc hDc hFc rfl rfl) rfl rfl hl.1 rfl (lv_room (Nat.le_of_ble_eq_true rfl)) dL_tell_4 ⟨Nat.le_of_ble_eq_true rfl, Nat.le_of_ble_eq_true rfl⟩) hS (fun q _ h => hFc q h) hFc (fun q _ h => hFc q h) (fun E9 ce q9 u t H locs ht hvm hw hB hz1 hk1 hS hc1 hc2 hc3 => ?_) (fun u t H1 locs ht hvm hw hB hz1 hk1 hS => hw.elim)
  replace hB : E9 = "java/lang/IndexOutOfBoundsException" := hB
  subst hB
  obtain ⟨hP, hD⟩ := va_join (wr := []) (w1 := []) hP hD [0] [] rfl rfl (by decide) (by decide) hk1 hFc (fun k q h => by simp at h) ⟨fun i j p q h => by simp at h, fun k q h => by simp at h⟩
  have hP : va_P g.1 vwCl [] H := hP
  have hD : va_D A [] := hD
  refine vx_catch (own := RL) (name := "java/lang/IndexOutOfBoundsException") hown [] ⟨0, 9, 12, 21⟩ [⟨0, 9, 15, 15⟩] (by rw [htab]; rfl) (fun z hz => absurd hz List.not_mem_nil) (by decide) (by decide) (hts (.classLink RL 21 "java/lang/IndexOutOfBoundsException") (List.mem_of_getElem? (i := 57) rfl)) (va_Nw.use rfl (hE.cast ("java/lang/IndexOutOfBoundsException", "java/lang/IndexOutOfBoundsException") (by decide))) hc1 hc2 hc3 ?_
  refine lv_astore_n (lv' := [(3, .ref q9), (0, .ref h0), (1, .int v0), (2, .ref h1)]) hx hb dL_tell_12 rfl hl (by decide) rfl (fun ls hl => ?_)
  refine lv_iconst (v := 1) hx hb dL_tell_13 (by decide) ?_
  have hP9 := hP.sub (ws' := []) [] rfl
  have hD9 := hD.sub (ws' := []) [] (by decide) rfl
  subst hAe
  exact W.iret (v := 1) hx hb hr (fun t ht hW => ⟨⟨1, (), rfl, rfl, by rw [ht]; exact hP9, hD9⟩, hS.F ht⟩) hS.2.2 dL_tell_14
def w9_X21_in_1 : List Cond := [.code yX21_in cX21_in 3 (some .boolean)]
set_option maxHeartbeats 4000000 in
set_option maxRecDepth 100000 in
theorem c9_X21_in_1 (l : Launch) (g : G9) (sz : Nat) (v0 : Int32) (k_v0 : (-2147483648) ≤ v0.toInt ∧ v0.toInt ≤ (-1)) : Met l yX21_in w9_X21_in_1 ({ frames := 0, cells := 0, slots := 0, locals := 0 }) (mP g [] sz [.int v0, .int 0, .int 3]) (va_Qi (fun (r : Int32) (_ : Unit) => r = 0) (fun (_ : Unit) (t : State) => mB g [] sz [] t) (va_A [] sz)) 0 0 (va_A [] sz) := by
  refine Met.ofW (cc := cX21_in) (maxL := 3) (ret := (some .boolean)) (by decide) rfl ?_
  intro p e s m args below meth c s₁ B hml hv
  obtain ⟨rfl, hsz, hP, hD0, hE⟩ := hv
  have hx := B.exec
  have hb := B.bytes
  have hr := B.returns
  have hts := atoms_spec (ws := w9_X21_in_1) B.pre
  have hown : s.vm.findClass RX21 = some m.cls := findClass_of_methodNamed B.named
  have hlocks := B.notSynchronized
  subst hsz
  have hD := hD0.self (sz := s.heap.size)
  generalize hAe : va_A [] s.heap.size = A at hD hE ⊢
  have hA : ∀ q : Nat, s.heap.size ≤ q → A q := fun q h => by rw [← hAe]; exact Or.inr h
  have hK := hE.1
  have hS : va_S A s.heap s.heap [] := va_S.rf
  replace hP : va_P g.1 vwCl [] s.heap := hP
  have hl := lv_entry ([.int v0, .int 0, .int 3]) (n := 3) (Nat.le_of_ble_eq_true rfl)
  rw [lg_entry_eq]
  generalize (lg_sl ([.int v0, .int 0, .int 3]) ++ List.replicate (3 - (lg_sl ([.int v0, .int 0, .int 3])).length) Slot.unset).toArray = ls at hl ⊢
  replace hl : lv_has ls 3 [(0, .int v0), (1, .int 0), (2, .int 3)] := hl
  have hH0 : s.heap.size ≤ s.heap.size := Nat.le_refl _
  refine lv_iload_n hx hb dX21_in_0 rfl (lv_at hl 0 rfl) ?_
  refine lv_iload_n hx hb dX21_in_1 rfl (lv_at hl 1 rfl) ?_
  refine lv_icmp_lt (tgt := 14) hx hb dX21_in_2 (by decide) (fun _ => ?_) (fun c9 => absurd (by simp only [Int32.lt_iff_toInt_lt, Int32.le_iff_toInt_le, ← Int32.toInt_inj, show (0 : Int32).toInt = 0 from by decide]; omega) c9)
  refine lv_iconst (v := 0) hx hb dX21_in_14 (by decide) ?_
  have hP9 := hP.sub (ws' := []) [] rfl
  have hD9 := hD.sub (ws' := []) [] (by decide) rfl
  subst hAe
  exact W.zret (v := 0) hx hb hr (by decide) (fun t ht hW => ⟨⟨0, (), rfl, rfl, by rw [ht]; exact hP9, hD9⟩, hS.F ht⟩) hS.2.2 dX21_in_15
def w9_X21_refused_2 : List Cond := [.code yX21_refused cX21_refused 2 (some .boolean), .fieldLink RX21 144 "RegexloomModel" "refusal" "I"] ++ (u_ws RX21 TX21 32)
set_option maxRecDepth 20000 in
theorem in9_X21_refused_2_RX21 : ∀ w ∈ u_ws RX21 TX21 32, w ∈ w9_X21_refused_2 := by decide +kernel
set_option maxHeartbeats 4000000 in
set_option maxRecDepth 100000 in
theorem c9_X21_refused_2 (l : Launch) (g : G9) (h0 h1 h2 h3 h4 h5 h6 h7 h8 h9 h10 h11 h12 h13 h14 h15 h16 sz : Nat) : Met l yX21_refused w9_X21_refused_2 ({ frames := 0, cells := 0, slots := 0, locals := 0 }) (mP g [(h0, .inr (22, [.int 0, .ref h1, .int 0, .ref h2, .int 0, .ref h3, .int 250, .ref h4, .int 0, .ref h5, .ref h6, .ref h7, .int 0, .ref h8, .ref h9, .ref h10, .int 0, .null, .int 0, .null, .int 0, .int 0, .int 0, .ref h11, .int 0, .ref h12, .ref h13, .ref h14, .int 0, .ref h15, .ref h16, .int 0]))] sz [.ref h0, .int 1]) (va_Qi (fun (r : Int32) (_ : Unit) => r = 1) (fun (_ : Unit) (t : State) => mB g [(h0, .inr (22, [.int 0, .ref h1, .int 0, .ref h2, .int 0, .ref h3, .int 250, .ref h4, .int 0, .ref h5, .ref h6, .ref h7, .int 0, .ref h8, .ref h9, .ref h10, .int 0, .null, .int 0, .null, .int 0, .int 0, .int 0, .ref h11, .int 0, .ref h12, .ref h13, .ref h14, .int 0, .ref h15, .ref h16, .int 0]))] sz [(h0, .inr (22, [.int 1, .ref h1, .int 0, .ref h2, .int 0, .ref h3, .int 250, .ref h4, .int 0, .ref h5, .ref h6, .ref h7, .int 0, .ref h8, .ref h9, .ref h10, .int 0, .null, .int 0, .null, .int 0, .int 0, .int 0, .ref h11, .int 0, .ref h12, .ref h13, .ref h14, .int 0, .ref h15, .ref h16, .int 0]))] t) (va_A [(h0, .inr (22, [.int 0, .ref h1, .int 0, .ref h2, .int 0, .ref h3, .int 250, .ref h4, .int 0, .ref h5, .ref h6, .ref h7, .int 0, .ref h8, .ref h9, .ref h10, .int 0, .null, .int 0, .null, .int 0, .int 0, .int 0, .ref h11, .int 0, .ref h12, .ref h13, .ref h14, .int 0, .ref h15, .ref h16, .int 0]))] sz)) 0 0 (va_A [(h0, .inr (22, [.int 0, .ref h1, .int 0, .ref h2, .int 0, .ref h3, .int 250, .ref h4, .int 0, .ref h5, .ref h6, .ref h7, .int 0, .ref h8, .ref h9, .ref h10, .int 0, .null, .int 0, .null, .int 0, .int 0, .int 0, .ref h11, .int 0, .ref h12, .ref h13, .ref h14, .int 0, .ref h15, .ref h16, .int 0]))] sz) := by
  refine Met.ofW (cc := cX21_refused) (maxL := 2) (ret := (some .boolean)) (by decide) rfl ?_
  intro p e s m args below meth c s₁ B hml hv
  obtain ⟨rfl, hsz, hP, hD0, hE⟩ := hv
  have hx := B.exec
  have hb := B.bytes
  have hr := B.returns
  have hts := atoms_spec (ws := w9_X21_refused_2) B.pre
  have hown : s.vm.findClass RX21 = some m.cls := findClass_of_methodNamed B.named
  have hlocks := B.notSynchronized
  subst hsz
  have hD := hD0.self (sz := s.heap.size)
  generalize hAe : va_A [(h0, .inr (22, [.int 0, .ref h1, .int 0, .ref h2, .int 0, .ref h3, .int 250, .ref h4, .int 0, .ref h5, .ref h6, .ref h7, .int 0, .ref h8, .ref h9, .ref h10, .int 0, .null, .int 0, .null, .int 0, .int 0, .int 0, .ref h11, .int 0, .ref h12, .ref h13, .ref h14, .int 0, .ref h15, .ref h16, .int 0]))] s.heap.size = A at hD hE ⊢
  have hA : ∀ q : Nat, s.heap.size ≤ q → A q := fun q h => by rw [← hAe]; exact Or.inr h
  have hK := hE.1
  have hS : va_S A s.heap s.heap [] := va_S.rf
  replace hP : va_P g.1 vwCl [(h0, .inr (22, [.int 0, .ref h1, .int 0, .ref h2, .int 0, .ref h3, .int 250, .ref h4, .int 0, .ref h5, .ref h6, .ref h7, .int 0, .ref h8, .ref h9, .ref h10, .int 0, .null, .int 0, .null, .int 0, .int 0, .int 0, .ref h11, .int 0, .ref h12, .ref h13, .ref h14, .int 0, .ref h15, .ref h16, .int 0]))] s.heap := hP
  have hl := lv_entry ([.ref h0, .int 1]) (n := 2) (Nat.le_of_ble_eq_true rfl)
  rw [lg_entry_eq]
  generalize (lg_sl ([.ref h0, .int 1]) ++ List.replicate (2 - (lg_sl ([.ref h0, .int 1])).length) Slot.unset).toArray = ls at hl ⊢
  replace hl : lv_has ls 2 [(0, .ref h0), (1, .int 1)] := hl
  have hH0 : s.heap.size ≤ s.heap.size := Nat.le_refl _
  refine lv_aload_n hx hb dX21_refused_0 rfl (lv_at hl 0 rfl) ?_
  refine lv_iload_n hx hb dX21_refused_1 rfl (lv_at hl 1 rfl) ?_
  refine va_put (D := g.1) (ci := 22) (v := .int 1) (ty := .int) (C := RX21) (T := TX21) (N := 32) hx hb hts in9_X21_refused_2_RX21 tyX21 tyX21_ok nmX21 hown hK hP hD hS 0 rfl rfl 0 (by decide) (hts (.fieldLink RX21 144 "RegexloomModel" "refusal" "I") (List.mem_of_getElem? (i := 1) rfl)) (fun _ h9 => h9) rfl (by decide +kernel) rfl rfl (Nat.le_of_ble_eq_true rfl) dX21_refused_2 (fun H locs hP hD hS => ?_)
  have hP : va_P g.1 vwCl [(h0, .inr (22, [.int 1, .ref h1, .int 0, .ref h2, .int 0, .ref h3, .int 250, .ref h4, .int 0, .ref h5, .ref h6, .ref h7, .int 0, .ref h8, .ref h9, .ref h10, .int 0, .null, .int 0, .null, .int 0, .int 0, .int 0, .ref h11, .int 0, .ref h12, .ref h13, .ref h14, .int 0, .ref h15, .ref h16, .int 0]))] H := hP
  have hD : va_D A [(h0, .inr (22, [.int 1, .ref h1, .int 0, .ref h2, .int 0, .ref h3, .int 250, .ref h4, .int 0, .ref h5, .ref h6, .ref h7, .int 0, .ref h8, .ref h9, .ref h10, .int 0, .null, .int 0, .null, .int 0, .int 0, .int 0, .ref h11, .int 0, .ref h12, .ref h13, .ref h14, .int 0, .ref h15, .ref h16, .int 0]))] := hD
  refine lv_iload_n hx hb dX21_refused_5 rfl (lv_at hl 1 rfl) ?_
  refine lv_if_eq (tgt := 13) hx hb dX21_refused_6 (by decide) (fun c9 => absurd c9 (by decide)) (fun _ => ?_)
  refine lv_iconst (v := 1) hx hb dX21_refused_9 (by decide) ?_
  refine lv_goto (tgt := 14) hx hb dX21_refused_10 (by decide) ?_
  have hP9 := hP.sub (ws' := [(h0, .inr (22, [.int 1, .ref h1, .int 0, .ref h2, .int 0, .ref h3, .int 250, .ref h4, .int 0, .ref h5, .ref h6, .ref h7, .int 0, .ref h8, .ref h9, .ref h10, .int 0, .null, .int 0, .null, .int 0, .int 0, .int 0, .ref h11, .int 0, .ref h12, .ref h13, .ref h14, .int 0, .ref h15, .ref h16, .int 0]))]) [0] rfl
  have hD9 := hD.sub (ws' := [(h0, .inr (22, [.int 1, .ref h1, .int 0, .ref h2, .int 0, .ref h3, .int 250, .ref h4, .int 0, .ref h5, .ref h6, .ref h7, .int 0, .ref h8, .ref h9, .ref h10, .int 0, .null, .int 0, .null, .int 0, .int 0, .int 0, .ref h11, .int 0, .ref h12, .ref h13, .ref h14, .int 0, .ref h15, .ref h16, .int 0]))]) [0] (by decide) rfl
  subst hAe
  exact W.zret (v := 1) hx hb hr (by decide) (fun t ht hW => ⟨⟨1, (), rfl, rfl, by rw [ht]; exact hP9, hD9⟩, hS.F ht⟩) hS.2.2 dX21_refused_14
def w9_X21_tell_1 : List Cond := [.code yX21_tell cX21_tell 4 (some .int), .methodLink RX21 160 yX21_in, .static yX21_in, .initialized RX21, .code yX21_in cX21_in 3 (some .boolean), .methodLink RX21 154 yX21_refused, .instanceMethod yX21_refused, .selects RX21 yX21_refused yX21_refused, .code yX21_refused cX21_refused 2 (some .boolean), .fieldLink RX21 144 "RegexloomModel" "refusal" "I"] ++ (u_ws RX21 TX21 32)
set_option maxRecDepth 20000 in
theorem in9_X21_tell_1_RX21 : ∀ w ∈ u_ws RX21 TX21 32, w ∈ w9_X21_tell_1 := by decide +kernel
set_option maxRecDepth 20000 in
theorem g9_X21_tell_1_0 : GoodIn w9_X21_tell_1 (va_wsS RX21 160 yX21_in w9_X21_in_1) := goodIn_r _ [1, 2, 3, 4] (by decide +kernel) (by decide +kernel)
set_option maxRecDepth 20000 in
theorem g9_X21_tell_1_1 : GoodIn w9_X21_tell_1 (wsV RX21 154 RX21 yX21_refused w9_X21_refused_2) := goodIn_r _ [5, 6, 7, 3, 8, 9, 10, 11, 12, 13, 14, 15, 16, 17, 18, 19, 20, 21, 22, 23, 24, 25, 26, 27, 28, 29, 30, 31, 32, 33, 34, 35, 36, 37, 38, 39, 40, 41] (by decide +kernel) (by decide +kernel)
set_option maxHeartbeats 4000000 in
set_option maxRecDepth 100000 in
theorem c9_X21_tell_1 (l : Launch) (g : G9) (h0 h1 h2 h3 h4 h5 h6 h7 h8 h9 h10 h11 h12 h13 h14 h15 h16 sz : Nat) (v0 : Int32) (k_v0 : (-2147483648) ≤ v0.toInt ∧ v0.toInt ≤ (-1)) : Met l yX21_tell w9_X21_tell_1 ({ frames := 1, cells := 0, slots := 0, locals := 22 }) (mP g [(h0, .inr (22, [.int 0, .ref h1, .int 0, .ref h2, .int 0, .ref h3, .int 250, .ref h4, .int 0, .ref h5, .ref h6, .ref h7, .int 0, .ref h8, .ref h9, .ref h10, .int 0, .null, .int 0, .null, .int 0, .int 0, .int 0, .ref h11, .int 0, .ref h12, .ref h13, .ref h14, .int 0, .ref h15, .ref h16, .int 0]))] sz [.ref h0, .int v0]) (va_Qi (fun (r : Int32) (_ : Unit) => r = 0) (fun (_ : Unit) (t : State) => mB g [(h0, .inr (22, [.int 0, .ref h1, .int 0, .ref h2, .int 0, .ref h3, .int 250, .ref h4, .int 0, .ref h5, .ref h6, .ref h7, .int 0, .ref h8, .ref h9, .ref h10, .int 0, .null, .int 0, .null, .int 0, .int 0, .int 0, .ref h11, .int 0, .ref h12, .ref h13, .ref h14, .int 0, .ref h15, .ref h16, .int 0]))] sz [(h0, .inr (22, [.int 1, .ref h1, .int 0, .ref h2, .int 0, .ref h3, .int 250, .ref h4, .int 0, .ref h5, .ref h6, .ref h7, .int 0, .ref h8, .ref h9, .ref h10, .int 0, .null, .int 0, .null, .int 0, .int 0, .int 0, .ref h11, .int 0, .ref h12, .ref h13, .ref h14, .int 0, .ref h15, .ref h16, .int 0]))] t) (va_A [(h0, .inr (22, [.int 0, .ref h1, .int 0, .ref h2, .int 0, .ref h3, .int 250, .ref h4, .int 0, .ref h5, .ref h6, .ref h7, .int 0, .ref h8, .ref h9, .ref h10, .int 0, .null, .int 0, .null, .int 0, .int 0, .int 0, .ref h11, .int 0, .ref h12, .ref h13, .ref h14, .int 0, .ref h15, .ref h16, .int 0]))] sz)) 0 0 (va_A [(h0, .inr (22, [.int 0, .ref h1, .int 0, .ref h2, .int 0, .ref h3, .int 250, .ref h4, .int 0, .ref h5, .ref h6, .ref h7, .int 0, .ref h8, .ref h9, .ref h10, .int 0, .null, .int 0, .null, .int 0, .int 0, .int 0, .ref h11, .int 0, .ref h12, .ref h13, .ref h14, .int 0, .ref h15, .ref h16, .int 0]))] sz) := by
  refine Met.ofW (cc := cX21_tell) (maxL := 4) (ret := (some .int)) (by decide) rfl ?_
  intro p e s m args below meth c s₁ B hml hv
  obtain ⟨rfl, hsz, hP, hD0, hE⟩ := hv
  have hx := B.exec
  have hb := B.bytes
  have hr := B.returns
  have hts := atoms_spec (ws := w9_X21_tell_1) B.pre
  have hown : s.vm.findClass RX21 = some m.cls := findClass_of_methodNamed B.named
  have hlocks := B.notSynchronized
  subst hsz
  have hD := hD0.self (sz := s.heap.size)
  generalize hAe : va_A [(h0, .inr (22, [.int 0, .ref h1, .int 0, .ref h2, .int 0, .ref h3, .int 250, .ref h4, .int 0, .ref h5, .ref h6, .ref h7, .int 0, .ref h8, .ref h9, .ref h10, .int 0, .null, .int 0, .null, .int 0, .int 0, .int 0, .ref h11, .int 0, .ref h12, .ref h13, .ref h14, .int 0, .ref h15, .ref h16, .int 0]))] s.heap.size = A at hD hE ⊢
  have hA : ∀ q : Nat, s.heap.size ≤ q → A q := fun q h => by rw [← hAe]; exact Or.inr h
  have hK := hE.1
  have hS : va_S A s.heap s.heap [] := va_S.rf
  replace hP : va_P g.1 vwCl [(h0, .inr (22, [.int 0, .ref h1, .int 0, .ref h2, .int 0, .ref h3, .int 250, .ref h4, .int 0, .ref h5, .ref h6, .ref h7, .int 0, .ref h8, .ref h9, .ref h10, .int 0, .null, .int 0, .null, .int 0, .int 0, .int 0, .ref h11, .int 0, .ref h12, .ref h13, .ref h14, .int 0, .ref h15, .ref h16, .int 0]))] s.heap := hP
  have hl := lv_entry ([.ref h0, .int v0]) (n := 4) (Nat.le_of_ble_eq_true rfl)
  rw [lg_entry_eq]
  generalize (lg_sl ([.ref h0, .int v0]) ++ List.replicate (4 - (lg_sl ([.ref h0, .int v0])).length) Slot.unset).toArray = ls at hl ⊢
  replace hl : lv_has ls 4 [(0, .ref h0), (1, .int v0)] := hl
  have hH0 : s.heap.size ≤ s.heap.size := Nat.le_refl _
  refine lv_iload_n hx hb dX21_tell_0 rfl (lv_at hl 1 rfl) ?_
  refine lv_iconst (v := 0) hx hb dX21_tell_1 (by decide) ?_
  refine lv_iconst (v := 3) hx hb dX21_tell_2 (by decide) ?_
  have hPc := hP.sub (ws' := []) [] rfl
  have hDc := hD.sub (ws' := []) [] (by decide) rfl
  have hFc := va_free (wc := []) hD hS hA [] rfl
  refine va_calli (va_runS (As := [.int v0, .int 0, .int 3]) (rest := []) ⟨hx, hb, hml, hown, hts⟩ (c9_X21_in_1 l g _ v0 (by omega)) (va_cwS 3 hts g9_X21_tell_1_0 rfl rfl rfl (by decide +kernel) ⟨Nat.le_of_ble_eq_true rfl, Nat.le_of_ble_eq_true rfl⟩) (mPreS (g := g) (wc := []) hE hS hPc hDc hFc) rfl rfl hl.1 rfl (lv_room (Nat.le_of_ble_eq_true rfl)) dX21_tell_3 ⟨Nat.le_of_ble_eq_true rfl, Nat.le_of_ble_eq_true rfl⟩) hS (fun q _ h => hFc q h) hFc (fun r_1 u t H1 locs ht hvm hw hB hz1 hk1 hS => ?_)
  replace hw : 0 = r_1 := Eq.symm hw
  subst hw
  obtain ⟨hP1, hD1⟩ := hB
  rw [ht] at hP1
  obtain ⟨hP, hD⟩ := va_join (wr := [(h0, .inr (22, [.int 0, .ref h1, .int 0, .ref h2, .int 0, .ref h3, .int 250, .ref h4, .int 0, .ref h5, .ref h6, .ref h7, .int 0, .ref h8, .ref h9, .ref h10, .int 0, .null, .int 0, .null, .int 0, .int 0, .int 0, .ref h11, .int 0, .ref h12, .ref h13, .ref h14, .int 0, .ref h15, .ref h16, .int 0]))]) (w1 := []) hP hD [] [0] rfl rfl (by decide) (by decide) hk1 hFc hP1 hD1
  clear hP1 hD1 hPc hDc hFc hk1 hz1 hvm ht
  generalize H1 = H at hP hS ⊢
  have hP : va_P g.1 vwCl [(h0, .inr (22, [.int 0, .ref h1, .int 0, .ref h2, .int 0, .ref h3, .int 250, .ref h4, .int 0, .ref h5, .ref h6, .ref h7, .int 0, .ref h8, .ref h9, .ref h10, .int 0, .null, .int 0, .null, .int 0, .int 0, .int 0, .ref h11, .int 0, .ref h12, .ref h13, .ref h14, .int 0, .ref h15, .ref h16, .int 0]))] H := hP
  have hD : va_D A [(h0, .inr (22, [.int 0, .ref h1, .int 0, .ref h2, .int 0, .ref h3, .int 250, .ref h4, .int 0, .ref h5, .ref h6, .ref h7, .int 0, .ref h8, .ref h9, .ref h10, .int 0, .null, .int 0, .null, .int 0, .int 0, .int 0, .ref h11, .int 0, .ref h12, .ref h13, .ref h14, .int 0, .ref h15, .ref h16, .int 0]))] := hD
  refine lv_istore_n (lv' := [(2, .int 0), (0, .ref h0), (1, .int v0)]) hx hb dX21_tell_6 rfl hl (by decide) rfl (fun ls hl => ?_)
  refine lv_iload_n hx hb dX21_tell_7 rfl (lv_at hl 0 rfl) ?_
  refine lv_if_eq (tgt := 18) hx hb dX21_tell_8 (by decide) (fun _ => ?_) (fun c9 => absurd (by decide) c9)
  refine lv_null hx hb dX21_tell_18 ?_
  refine lv_astore_nN (lv' := [(3, .null), (2, .int 0), (0, .ref h0), (1, .int v0)]) hx hb dX21_tell_19 rfl hl (by decide) rfl (fun ls hl => ?_)
  refine lv_aload_n hx hb dX21_tell_20 rfl (lv_at hl 2 rfl) ?_
  refine lv_iload_n hx hb dX21_tell_21 rfl (lv_at hl 1 rfl) ?_
  refine lv_if_ne (tgt := 29) hx hb dX21_tell_22 (by decide) (fun c9 => absurd (by decide) c9) (fun _ => ?_)
  refine lv_iconst (v := 1) hx hb dX21_tell_25 (by decide) ?_
  refine lv_goto (tgt := 38) hx hb dX21_tell_26 (by decide) ?_
  have hPc := hP.sub (ws' := [(h0, .inr (22, [.int 0, .ref h1, .int 0, .ref h2, .int 0, .ref h3, .int 250, .ref h4, .int 0, .ref h5, .ref h6, .ref h7, .int 0, .ref h8, .ref h9, .ref h10, .int 0, .null, .int 0, .null, .int 0, .int 0, .int 0, .ref h11, .int 0, .ref h12, .ref h13, .ref h14, .int 0, .ref h15, .ref h16, .int 0]))]) [0] rfl
  have hDc := hD.sub (ws' := [(h0, .inr (22, [.int 0, .ref h1, .int 0, .ref h2, .int 0, .ref h3, .int 250, .ref h4, .int 0, .ref h5, .ref h6, .ref h7, .int 0, .ref h8, .ref h9, .ref h10, .int 0, .null, .int 0, .null, .int 0, .int 0, .int 0, .ref h11, .int 0, .ref h12, .ref h13, .ref h14, .int 0, .ref h15, .ref h16, .int 0]))]) [0] (by decide) rfl
  have hFc := va_free (wc := [(h0, .inr (22, [.int 0, .ref h1, .int 0, .ref h2, .int 0, .ref h3, .int 250, .ref h4, .int 0, .ref h5, .ref h6, .ref h7, .int 0, .ref h8, .ref h9, .ref h10, .int 0, .null, .int 0, .null, .int 0, .int 0, .int 0, .ref h11, .int 0, .ref h12, .ref h13, .ref h14, .int 0, .ref h15, .ref h16, .int 0]))]) hD hS hA [0] rfl
  refine va_calli (va_runV (As := [.int 1]) (rest := []) ⟨hx, hb, hml, hown, hts⟩ (c9_X21_refused_2 l g h0 h1 h2 h3 h4 h5 h6 h7 h8 h9 h10 h11 h12 h13 h14 h15 h16 _) (cwV 1 hts g9_X21_tell_1_1 rfl rfl rfl (by decide +kernel) ⟨Nat.le_of_ble_eq_true rfl, Nat.le_of_ble_eq_true rfl⟩) (mPreV (g := g) (wc := [(h0, .inr (22, [.int 0, .ref h1, .int 0, .ref h2, .int 0, .ref h3, .int 250, .ref h4, .int 0, .ref h5, .ref h6, .ref h7, .int 0, .ref h8, .ref h9, .ref h10, .int 0, .null, .int 0, .null, .int 0, .int 0, .int 0, .ref h11, .int 0, .ref h12, .ref h13, .ref h14, .int 0, .ref h15, .ref h16, .int 0]))]) (C := RX21) (ci := 22) (q0 := 0) hE hS hPc hDc hFc rfl rfl) rfl rfl hl.1 rfl (lv_room (Nat.le_of_ble_eq_true rfl)) dX21_tell_38 ⟨Nat.le_of_ble_eq_true rfl, Nat.le_of_ble_eq_true rfl⟩) hS (fun q _ h => hFc q h) hFc (fun r_2 u t H1 locs ht hvm hw hB hz1 hk1 hS => ?_)
  replace hw : 1 = r_2 := Eq.symm hw
  subst hw
  obtain ⟨hP1, hD1⟩ := hB
  rw [ht] at hP1
  obtain ⟨hP, hD⟩ := va_join (wr := []) (w1 := [(h0, .inr (22, [.int 1, .ref h1, .int 0, .ref h2, .int 0, .ref h3, .int 250, .ref h4, .int 0, .ref h5, .ref h6, .ref h7, .int 0, .ref h8, .ref h9, .ref h10, .int 0, .null, .int 0, .null, .int 0, .int 0, .int 0, .ref h11, .int 0, .ref h12, .ref h13, .ref h14, .int 0, .ref h15, .ref h16, .int 0]))]) hP hD [0] [] rfl rfl (by decide) (by decide) hk1 hFc hP1 hD1
  clear hP1 hD1 hPc hDc hFc hk1 hz1 hvm ht
  generalize H1 = H at hP hS ⊢
  have hP : va_P g.1 vwCl [(h0, .inr (22, [.int 1, .ref h1, .int 0, .ref h2, .int 0, .ref h3, .int 250, .ref h4, .int 0, .ref h5, .ref h6, .ref h7, .int 0, .ref h8, .ref h9, .ref h10, .int 0, .null, .int 0, .null, .int 0, .int 0, .int 0, .ref h11, .int 0, .ref h12, .ref h13, .ref h14, .int 0, .ref h15, .ref h16, .int 0]))] H := hP
  have hD : va_D A [(h0, .inr (22, [.int 1, .ref h1, .int 0, .ref h2, .int 0, .ref h3, .int 250, .ref h4, .int 0, .ref h5, .ref h6, .ref h7, .int 0, .ref h8, .ref h9, .ref h10, .int 0, .null, .int 0, .null, .int 0, .int 0, .int 0, .ref h11, .int 0, .ref h12, .ref h13, .ref h14, .int 0, .ref h15, .ref h16, .int 0]))] := hD
  refine lv_if_eq (tgt := 46) hx hb dX21_tell_41 (by decide) (fun c9 => absurd c9 (by decide)) (fun _ => ?_)
  refine lv_iconst (v := 0) hx hb dX21_tell_44 (by decide) ?_
  have hP9 := hP.sub (ws' := [(h0, .inr (22, [.int 1, .ref h1, .int 0, .ref h2, .int 0, .ref h3, .int 250, .ref h4, .int 0, .ref h5, .ref h6, .ref h7, .int 0, .ref h8, .ref h9, .ref h10, .int 0, .null, .int 0, .null, .int 0, .int 0, .int 0, .ref h11, .int 0, .ref h12, .ref h13, .ref h14, .int 0, .ref h15, .ref h16, .int 0]))]) [0] rfl
  have hD9 := hD.sub (ws' := [(h0, .inr (22, [.int 1, .ref h1, .int 0, .ref h2, .int 0, .ref h3, .int 250, .ref h4, .int 0, .ref h5, .ref h6, .ref h7, .int 0, .ref h8, .ref h9, .ref h10, .int 0, .null, .int 0, .null, .int 0, .int 0, .int 0, .ref h11, .int 0, .ref h12, .ref h13, .ref h14, .int 0, .ref h15, .ref h16, .int 0]))]) [0] (by decide) rfl
  subst hAe
  exact W.iret (v := 0) hx hb hr (fun t ht hW => ⟨⟨0, (), rfl, rfl, by rw [ht]; exact hP9, hD9⟩, hS.F ht⟩) hS.2.2 dX21_tell_45
def w9_X21_thrown_2 : List Cond := [.code yX21_thrown cX21_thrown 1 (some .int), .fieldLink RX21 144 "RegexloomModel" "refusal" "I"] ++ (u_ws RX21 TX21 32)
set_option maxRecDepth 20000 in
theorem in9_X21_thrown_2_RX21 : ∀ w ∈ u_ws RX21 TX21 32, w ∈ w9_X21_thrown_2 := by decide +kernel
set_option maxHeartbeats 4000000 in
set_option maxRecDepth 100000 in
theorem c9_X21_thrown_2 (l : Launch) (g : G9) (h0 h1 h2 h3 h4 h5 h6 h7 h8 h9 h10 h11 h12 h13 h14 h15 h16 sz : Nat) : Met l yX21_thrown w9_X21_thrown_2 ({ frames := 0, cells := 0, slots := 0, locals := 0 }) (mP g [(h0, .inr (22, [.int 1, .ref h1, .int 0, .ref h2, .int 0, .ref h3, .int 250, .ref h4, .int 0, .ref h5, .ref h6, .ref h7, .int 0, .ref h8, .ref h9, .ref h10, .int 0, .null, .int 0, .null, .int 0, .int 0, .int 0, .ref h11, .int 0, .ref h12, .ref h13, .ref h14, .int 0, .ref h15, .ref h16, .int 0]))] sz [.ref h0]) (va_Qi (fun (r : Int32) (_ : Unit) => r = 1) (fun (_ : Unit) (t : State) => mB g [(h0, .inr (22, [.int 1, .ref h1, .int 0, .ref h2, .int 0, .ref h3, .int 250, .ref h4, .int 0, .ref h5, .ref h6, .ref h7, .int 0, .ref h8, .ref h9, .ref h10, .int 0, .null, .int 0, .null, .int 0, .int 0, .int 0, .ref h11, .int 0, .ref h12, .ref h13, .ref h14, .int 0, .ref h15, .ref h16, .int 0]))] sz [(h0, .inr (22, [.int 1, .ref h1, .int 0, .ref h2, .int 0, .ref h3, .int 250, .ref h4, .int 0, .ref h5, .ref h6, .ref h7, .int 0, .ref h8, .ref h9, .ref h10, .int 0, .null, .int 0, .null, .int 0, .int 0, .int 0, .ref h11, .int 0, .ref h12, .ref h13, .ref h14, .int 0, .ref h15, .ref h16, .int 0]))] t) (va_A [(h0, .inr (22, [.int 1, .ref h1, .int 0, .ref h2, .int 0, .ref h3, .int 250, .ref h4, .int 0, .ref h5, .ref h6, .ref h7, .int 0, .ref h8, .ref h9, .ref h10, .int 0, .null, .int 0, .null, .int 0, .int 0, .int 0, .ref h11, .int 0, .ref h12, .ref h13, .ref h14, .int 0, .ref h15, .ref h16, .int 0]))] sz)) 0 0 (va_A [(h0, .inr (22, [.int 1, .ref h1, .int 0, .ref h2, .int 0, .ref h3, .int 250, .ref h4, .int 0, .ref h5, .ref h6, .ref h7, .int 0, .ref h8, .ref h9, .ref h10, .int 0, .null, .int 0, .null, .int 0, .int 0, .int 0, .ref h11, .int 0, .ref h12, .ref h13, .ref h14, .int 0, .ref h15, .ref h16, .int 0]))] sz) := by
  refine Met.ofW (cc := cX21_thrown) (maxL := 1) (ret := (some .int)) (by decide) rfl ?_
  intro p e s m args below meth c s₁ B hml hv
  obtain ⟨rfl, hsz, hP, hD0, hE⟩ := hv
  have hx := B.exec
  have hb := B.bytes
  have hr := B.returns
  have hts := atoms_spec (ws := w9_X21_thrown_2) B.pre
  have hown : s.vm.findClass RX21 = some m.cls := findClass_of_methodNamed B.named
  have hlocks := B.notSynchronized
  subst hsz
  have hD := hD0.self (sz := s.heap.size)
  generalize hAe : va_A [(h0, .inr (22, [.int 1, .ref h1, .int 0, .ref h2, .int 0, .ref h3, .int 250, .ref h4, .int 0, .ref h5, .ref h6, .ref h7, .int 0, .ref h8, .ref h9, .ref h10, .int 0, .null, .int 0, .null, .int 0, .int 0, .int 0, .ref h11, .int 0, .ref h12, .ref h13, .ref h14, .int 0, .ref h15, .ref h16, .int 0]))] s.heap.size = A at hD hE ⊢
  have hA : ∀ q : Nat, s.heap.size ≤ q → A q := fun q h => by rw [← hAe]; exact Or.inr h
  have hK := hE.1
  have hS : va_S A s.heap s.heap [] := va_S.rf
  replace hP : va_P g.1 vwCl [(h0, .inr (22, [.int 1, .ref h1, .int 0, .ref h2, .int 0, .ref h3, .int 250, .ref h4, .int 0, .ref h5, .ref h6, .ref h7, .int 0, .ref h8, .ref h9, .ref h10, .int 0, .null, .int 0, .null, .int 0, .int 0, .int 0, .ref h11, .int 0, .ref h12, .ref h13, .ref h14, .int 0, .ref h15, .ref h16, .int 0]))] s.heap := hP
  have hl := lv_entry ([.ref h0]) (n := 1) (Nat.le_of_ble_eq_true rfl)
  rw [lg_entry_eq]
  generalize (lg_sl ([.ref h0]) ++ List.replicate (1 - (lg_sl ([.ref h0])).length) Slot.unset).toArray = ls at hl ⊢
  replace hl : lv_has ls 1 [(0, .ref h0)] := hl
  have hH0 : s.heap.size ≤ s.heap.size := Nat.le_refl _
  refine lv_aload_n hx hb dX21_thrown_0 rfl (lv_at hl 0 rfl) ?_
  refine va_get (D := g.1) (ci := 22) (v := .int 1) (C := RX21) (T := TX21) (N := 32) hx hb hts in9_X21_thrown_2_RX21 hown hK hP 0 rfl rfl 0 (by decide) (hts (.fieldLink RX21 144 "RegexloomModel" "refusal" "I") (List.mem_of_getElem? (i := 1) rfl)) (fun _ h9 => h9) rfl dX21_thrown_1 ?_
  have hP9 := hP.sub (ws' := [(h0, .inr (22, [.int 1, .ref h1, .int 0, .ref h2, .int 0, .ref h3, .int 250, .ref h4, .int 0, .ref h5, .ref h6, .ref h7, .int 0, .ref h8, .ref h9, .ref h10, .int 0, .null, .int 0, .null, .int 0, .int 0, .int 0, .ref h11, .int 0, .ref h12, .ref h13, .ref h14, .int 0, .ref h15, .ref h16, .int 0]))]) [0] rfl
  have hD9 := hD.sub (ws' := [(h0, .inr (22, [.int 1, .ref h1, .int 0, .ref h2, .int 0, .ref h3, .int 250, .ref h4, .int 0, .ref h5, .ref h6, .ref h7, .int 0, .ref h8, .ref h9, .ref h10, .int 0, .null, .int 0, .null, .int 0, .int 0, .int 0, .ref h11, .int 0, .ref h12, .ref h13, .ref h14, .int 0, .ref h15, .ref h16, .int 0]))]) [0] (by decide) rfl
  subst hAe
  exact W.iret (v := 1) hx hb hr (fun t ht hW => ⟨⟨1, (), rfl, rfl, by rw [ht]; exact hP9, hD9⟩, hS.F ht⟩) hS.2.2 dX21_thrown_4
def w9_X11_needPattern_2 : List Cond := [.code yX11_needPattern cX11_needPattern 2 none, .initialized "java/lang/Throwable", .superclass "java/lang/Throwable" "java/lang/Object", .instanceMethod Bundle.tFill, .codeSync Bundle.tFill LibCode.Throwable.Fill.code 1 (some (.object "java/lang/Throwable")), .instanceMethod Bundle.tFill0, .native Bundle.tFill0, .instanceMethod Bundle.tInit0, .code Bundle.tInit0 LibCode.Throwable.Init0.code 1 none, .instanceMethod Bundle.oInit, .code Bundle.oInit ⟨#[0xb1]⟩ 1 none, .methodLink "java/lang/Throwable" 1 Bundle.oInit, .methodLink "java/lang/Throwable" 27 Bundle.tFill, .methodLink "java/lang/Throwable" 202 Bundle.tFill0, .fieldLink "java/lang/Throwable" 7 "java/lang/Throwable" "cause" "Ljava/lang/Throwable;", .lays "java/lang/Throwable" "java/lang/Throwable" "cause" "Ljava/lang/Throwable;", .fieldLink "java/lang/Throwable" 17 "java/lang/Throwable" "stackTrace" "[Ljava/lang/StackTraceElement;", .lays "java/lang/Throwable" "java/lang/Throwable" "stackTrace" "[Ljava/lang/StackTraceElement;", .fieldLink "java/lang/Throwable" 24 "java/lang/Throwable" "suppressedExceptions" "Ljava/util/List;", .lays "java/lang/Throwable" "java/lang/Throwable" "suppressedExceptions" "Ljava/util/List;", .fieldLink "java/lang/Throwable" 13 "java/lang/Throwable" "UNASSIGNED_STACK" "[Ljava/lang/StackTraceElement;", .fieldLink "java/lang/Throwable" 20 "java/lang/Throwable" "SUPPRESSED_SENTINEL" "Ljava/util/List;", .lays "java/lang/Throwable" "java/lang/Throwable" "detailMessage" "Ljava/lang/String;", .instanceMethod (Bundle.initS "java/lang/Throwable"), .code (Bundle.initS "java/lang/Throwable") LibCode.Throwable.InitS.code 2 none, .fieldLink "java/lang/Throwable" 31 "java/lang/Throwable" "detailMessage" "Ljava/lang/String;", .instanceMethod (Bundle.initS "java/lang/IndexOutOfBoundsException"), .code (Bundle.initS "java/lang/IndexOutOfBoundsException") Bundle.six 2 none, .methodLink "java/lang/IndexOutOfBoundsException" 7 (Bundle.initS "java/lang/RuntimeException"), .instanceMethod (Bundle.initS "java/lang/RuntimeException"), .code (Bundle.initS "java/lang/RuntimeException") Bundle.six 2 none, .methodLink "java/lang/RuntimeException" 7 (Bundle.initS "java/lang/Exception"), .instanceMethod (Bundle.initS "java/lang/Exception"), .code (Bundle.initS "java/lang/Exception") Bundle.six 2 none, .methodLink "java/lang/Exception" 7 (Bundle.initS "java/lang/Throwable"), .methodLink RX11 224 (Bundle.initS "java/lang/IndexOutOfBoundsException"), .instantiable "java/lang/IndexOutOfBoundsException" 6, .selects "java/lang/IndexOutOfBoundsException" Bundle.tFill0 Bundle.tFill0, .selects "java/lang/IndexOutOfBoundsException" Bundle.tFill Bundle.tFill, .lays "java/lang/IndexOutOfBoundsException" "java/lang/Throwable" "cause" "Ljava/lang/Throwable;", .lays "java/lang/IndexOutOfBoundsException" "java/lang/Throwable" "stackTrace" "[Ljava/lang/StackTraceElement;", .lays "java/lang/IndexOutOfBoundsException" "java/lang/Throwable" "suppressedExceptions" "Ljava/util/List;", .lays "java/lang/IndexOutOfBoundsException" "java/lang/Throwable" "detailMessage" "Ljava/lang/String;", .fieldLink "java/lang/Throwable" 198 "java/lang/Throwable" "backtrace" "Ljava/lang/Object;", .lays "java/lang/Throwable" "java/lang/Throwable" "backtrace" "Ljava/lang/Object;", .lays "java/lang/IndexOutOfBoundsException" "java/lang/Throwable" "backtrace" "Ljava/lang/Object;", .classLink RX11 220 "java/lang/IndexOutOfBoundsException", .initialized "java/lang/IndexOutOfBoundsException"]
set_option maxHeartbeats 4000000 in
set_option maxRecDepth 100000 in
theorem c9_X11_needPattern_2 (l : Launch) (hlt : l.stackTraces = false) (g : G9) (h0 h1 h2 h3 h4 h5 h6 h7 h8 h9 h10 h11 h12 h13 sz : Nat) (v0 : Int32) (k_v0 : 4 ≤ v0.toInt ∧ v0.toInt ≤ 2147483647) : vx_Met l yX11_needPattern w9_X11_needPattern_2 ({ frames := 6, cells := 1, slots := 6, locals := 82 }) (mP g [(h0, .inr (12, [.ref h1, .int 0, .ref h2, .ref h3, .ref h4, .ref h5, .ref h6, .ref h7, .int (-1), .ref h8, .ref h9, .int 250, .ref h10, .int 0, .ref h11, .ref h12, .ref h13]))] sz [.ref h0, .int v0]) (va_Qv (fun _ : Unit => False) (fun _ _ => True) (va_A [(h0, .inr (12, [.ref h1, .int 0, .ref h2, .ref h3, .ref h4, .ref h5, .ref h6, .ref h7, .int (-1), .ref h8, .ref h9, .int 250, .ref h10, .int 0, .ref h11, .ref h12, .ref h13]))] sz)) (mT g [(h0, .inr (12, [.ref h1, .int 0, .ref h2, .ref h3, .ref h4, .ref h5, .ref h6, .ref h7, .int (-1), .ref h8, .ref h9, .int 250, .ref h10, .int 0, .ref h11, .ref h12, .ref h13]))] sz "java/lang/IndexOutOfBoundsException") 1 6 (va_A [(h0, .inr (12, [.ref h1, .int 0, .ref h2, .ref h3, .ref h4, .ref h5, .ref h6, .ref h7, .int (-1), .ref h8, .ref h9, .int 250, .ref h10, .int 0, .ref h11, .ref h12, .ref h13]))] sz) := by
  refine vx_ofW (cc := cX11_needPattern) (maxL := 2) (ret := none) (by decide) rfl ?_
  intro p e s m args below meth c s₁ B hml hno hv
  obtain ⟨rfl, hsz, hP, hD0, hE⟩ := hv
  have hx := B.exec
  have hb := B.bytes
  have hr := B.returns
  have hts := atoms_spec (ws := w9_X11_needPattern_2) B.pre
  have hown : s.vm.findClass RX11 = some m.cls := findClass_of_methodNamed B.named
  have hlocks := B.notSynchronized
  subst hsz
  have hD := hD0.self (sz := s.heap.size)
  generalize hAe : va_A [(h0, .inr (12, [.ref h1, .int 0, .ref h2, .ref h3, .ref h4, .ref h5, .ref h6, .ref h7, .int (-1), .ref h8, .ref h9, .int 250, .ref h10, .int 0, .ref h11, .ref h12, .ref h13]))] s.heap.size = A at hD hE ⊢
  have hA : ∀ q : Nat, s.heap.size ≤ q → A q := fun q h => by rw [← hAe]; exact Or.inr h
  have hK := hE.1
  have hS : va_S A s.heap s.heap [] := va_S.rf
  replace hP : va_P g.1 vwCl [(h0, .inr (12, [.ref h1, .int 0, .ref h2, .ref h3, .ref h4, .ref h5, .ref h6, .ref h7, .int (-1), .ref h8, .ref h9, .int 250, .ref h10, .int 0, .ref h11, .ref h12, .ref h13]))] s.heap := hP
  have hl := lv_entry ([.ref h0, .int v0]) (n := 2) (Nat.le_of_ble_eq_true rfl)
  rw [lg_entry_eq]
  generalize (lg_sl ([.ref h0, .int v0]) ++ List.replicate (2 - (lg_sl ([.ref h0, .int v0])).length) Slot.unset).toArray = ls at hl ⊢
  replace hl : lv_has ls 2 [(0, .ref h0), (1, .int v0)] := hl
  have hH0 : s.heap.size ≤ s.heap.size := Nat.le_refl _
  refine lv_iload_n hx hb dX11_needPattern_0 rfl (lv_at hl 1 rfl) ?_
  refine lv_if_lt (tgt := 9) hx hb dX11_needPattern_1 (by decide) (fun c9 => absurd c9 (by simp only [Int32.lt_iff_toInt_lt, Int32.le_iff_toInt_le, ← Int32.toInt_inj, show (0 : Int32).toInt = 0 from by decide]; omega)) (fun _ => ?_)
  refine lv_iload_n hx hb dX11_needPattern_4 rfl (lv_at hl 1 rfl) ?_
  refine lv_iconst (v := 4) hx hb dX11_needPattern_5 (by decide) ?_
  refine lv_icmp_lt (tgt := 20) hx hb dX11_needPattern_6 (by decide) (fun c9 => absurd c9 (by simp only [Int32.lt_iff_toInt_lt, Int32.le_iff_toInt_le, ← Int32.toInt_inj, show (4 : Int32).toInt = 4 from by decide]; omega)) (fun _ => ?_)
  obtain ⟨sa, hsa⟩ := hE.str (268, "no such pattern") (by decide)
  exact vx_throwSW (names := ["java/lang/RuntimeException", "java/lang/Exception"]) (A := A) hx hb hlt hown (by decide) (by decide) (hts (.classLink RX11 220 "java/lang/IndexOutOfBoundsException") (List.mem_of_getElem? (i := 46) rfl)) (hts (.initialized "java/lang/IndexOutOfBoundsException") (List.mem_of_getElem? (i := 47) rfl)) hsa (vx_hat (B := [.castable "java/lang/IndexOutOfBoundsException" "java/lang/IndexOutOfBoundsException", .declares (Bundle.initS "java/lang/RuntimeException"), .declares (Bundle.initS "java/lang/Exception"), .declares (Bundle.initS "java/lang/Throwable")]) (fun w9 hw9 => hts w9 (by revert w9; decide +kernel)) (by decide +kernel) (vx_c (va_Nw.use rfl (hE.cast ("java/lang/IndexOutOfBoundsException", "java/lang/IndexOutOfBoundsException") (by decide))) (vx_c (va_Nw.use rfl (hE.decl _ (by decide))) (vx_c (va_Nw.use rfl (hE.decl _ (by decide))) (vx_c (va_Nw.use rfl (hE.decl _ (by decide))) vx_n))))) (by decide +kernel) hE.zu hE.zn hS (by rw [hml]; exact hl.1) dX11_needPattern_9 dX11_needPattern_12 dX11_needPattern_13 dX11_needPattern_16 dX11_needPattern_19 (fun z hz => (hno z hz).elim) (Nat.le_of_ble_eq_true rfl) (Nat.le_of_ble_eq_true rfl) (Nat.le_of_ble_eq_true rfl) (Nat.le_of_ble_eq_true rfl) hlocks (fun t hW hz ho => ⟨(), trivial, rfl, by subst hAe; exact ⟨Nat.le_trans hS.1 hz, fun q h1 h2 => (ho q (Nat.lt_of_lt_of_le h1 hS.1)).trans (hS.2.1 q h1 h2)⟩⟩) (fun z hz => by subst hAe; exact hS.2.2 z hz) (Nat.le_of_ble_eq_true rfl) (Nat.le_of_ble_eq_true rfl)
def w9_X11_tell_2 : List Cond := [.code yX11_tell cX11_tell 3 (some .int), .methodLink RX11 124 yX11_needPattern, .instanceMethod yX11_needPattern, .selects RX11 yX11_needPattern yX11_needPattern, .initialized RX11, .code yX11_needPattern cX11_needPattern 2 none, .initialized "java/lang/Throwable", .superclass "java/lang/Throwable" "java/lang/Object", .instanceMethod Bundle.tFill, .codeSync Bundle.tFill LibCode.Throwable.Fill.code 1 (some (.object "java/lang/Throwable")), .instanceMethod Bundle.tFill0, .native Bundle.tFill0, .instanceMethod Bundle.tInit0, .code Bundle.tInit0 LibCode.Throwable.Init0.code 1 none, .instanceMethod Bundle.oInit, .code Bundle.oInit ⟨#[0xb1]⟩ 1 none, .methodLink "java/lang/Throwable" 1 Bundle.oInit, .methodLink "java/lang/Throwable" 27 Bundle.tFill, .methodLink "java/lang/Throwable" 202 Bundle.tFill0, .fieldLink "java/lang/Throwable" 7 "java/lang/Throwable" "cause" "Ljava/lang/Throwable;", .lays "java/lang/Throwable" "java/lang/Throwable" "cause" "Ljava/lang/Throwable;", .fieldLink "java/lang/Throwable" 17 "java/lang/Throwable" "stackTrace" "[Ljava/lang/StackTraceElement;", .lays "java/lang/Throwable" "java/lang/Throwable" "stackTrace" "[Ljava/lang/StackTraceElement;", .fieldLink "java/lang/Throwable" 24 "java/lang/Throwable" "suppressedExceptions" "Ljava/util/List;", .lays "java/lang/Throwable" "java/lang/Throwable" "suppressedExceptions" "Ljava/util/List;", .fieldLink "java/lang/Throwable" 13 "java/lang/Throwable" "UNASSIGNED_STACK" "[Ljava/lang/StackTraceElement;", .fieldLink "java/lang/Throwable" 20 "java/lang/Throwable" "SUPPRESSED_SENTINEL" "Ljava/util/List;", .lays "java/lang/Throwable" "java/lang/Throwable" "detailMessage" "Ljava/lang/String;", .instanceMethod (Bundle.initS "java/lang/Throwable"), .code (Bundle.initS "java/lang/Throwable") LibCode.Throwable.InitS.code 2 none, .fieldLink "java/lang/Throwable" 31 "java/lang/Throwable" "detailMessage" "Ljava/lang/String;", .instanceMethod (Bundle.initS "java/lang/IndexOutOfBoundsException"), .code (Bundle.initS "java/lang/IndexOutOfBoundsException") Bundle.six 2 none, .methodLink "java/lang/IndexOutOfBoundsException" 7 (Bundle.initS "java/lang/RuntimeException"), .instanceMethod (Bundle.initS "java/lang/RuntimeException"), .code (Bundle.initS "java/lang/RuntimeException") Bundle.six 2 none, .methodLink "java/lang/RuntimeException" 7 (Bundle.initS "java/lang/Exception"), .instanceMethod (Bundle.initS "java/lang/Exception"), .code (Bundle.initS "java/lang/Exception") Bundle.six 2 none, .methodLink "java/lang/Exception" 7 (Bundle.initS "java/lang/Throwable"), .methodLink RX11 224 (Bundle.initS "java/lang/IndexOutOfBoundsException"), .instantiable "java/lang/IndexOutOfBoundsException" 6, .selects "java/lang/IndexOutOfBoundsException" Bundle.tFill0 Bundle.tFill0, .selects "java/lang/IndexOutOfBoundsException" Bundle.tFill Bundle.tFill, .lays "java/lang/IndexOutOfBoundsException" "java/lang/Throwable" "cause" "Ljava/lang/Throwable;", .lays "java/lang/IndexOutOfBoundsException" "java/lang/Throwable" "stackTrace" "[Ljava/lang/StackTraceElement;", .lays "java/lang/IndexOutOfBoundsException" "java/lang/Throwable" "suppressedExceptions" "Ljava/util/List;", .lays "java/lang/IndexOutOfBoundsException" "java/lang/Throwable" "detailMessage" "Ljava/lang/String;", .fieldLink "java/lang/Throwable" 198 "java/lang/Throwable" "backtrace" "Ljava/lang/Object;", .lays "java/lang/Throwable" "java/lang/Throwable" "backtrace" "Ljava/lang/Object;", .lays "java/lang/IndexOutOfBoundsException" "java/lang/Throwable" "backtrace" "Ljava/lang/Object;", .classLink RX11 220 "java/lang/IndexOutOfBoundsException", .initialized "java/lang/IndexOutOfBoundsException"]
set_option maxRecDepth 20000 in
theorem g9_X11_tell_2_0 : GoodIn w9_X11_tell_2 (wsV RX11 124 RX11 yX11_needPattern w9_X11_needPattern_2) := goodIn_r _ [1, 2, 3, 4, 5, 6, 7, 8, 9, 10, 11, 12, 13, 14, 15, 16, 17, 18, 19, 20, 21, 22, 23, 24, 25, 26, 27, 28, 29, 30, 31, 32, 33, 34, 35, 36, 37, 38, 39, 40, 41, 42, 43, 44, 45, 46, 47, 48, 49, 50, 51, 52] (by decide +kernel) (by decide +kernel)
set_option maxHeartbeats 4000000 in
set_option maxRecDepth 100000 in
theorem c9_X11_tell_2 (l : Launch) (hlt : l.stackTraces = false) (g : G9) (h0 h1 h2 h3 h4 h5 h6 h7 h8 h9 h10 h11 h12 h13 sz : Nat) (v0 : Int32) (k_v0 : 4 ≤ v0.toInt ∧ v0.toInt ≤ 2147483647) : vx_Met l yX11_tell w9_X11_tell_2 ({ frames := 7, cells := 1, slots := 6, locals := 103 }) (mP g [(h0, .inr (12, [.ref h1, .int 0, .ref h2, .ref h3, .ref h4, .ref h5, .ref h6, .ref h7, .int (-1), .ref h8, .ref h9, .int 250, .ref h10, .int 0, .ref h11, .ref h12, .ref h13]))] sz [.ref h0, .int v0]) (va_Qv (fun _ : Unit => False) (fun _ _ => True) (va_A [(h0, .inr (12, [.ref h1, .int 0, .ref h2, .ref h3, .ref h4, .ref h5, .ref h6, .ref h7, .int (-1), .ref h8, .ref h9, .int 250, .ref h10, .int 0, .ref h11, .ref h12, .ref h13]))] sz)) (mT g [(h0, .inr (12, [.ref h1, .int 0, .ref h2, .ref h3, .ref h4, .ref h5, .ref h6, .ref h7, .int (-1), .ref h8, .ref h9, .int 250, .ref h10, .int 0, .ref h11, .ref h12, .ref h13]))] sz "java/lang/IndexOutOfBoundsException") 1 6 (va_A [(h0, .inr (12, [.ref h1, .int 0, .ref h2, .ref h3, .ref h4, .ref h5, .ref h6, .ref h7, .int (-1), .ref h8, .ref h9, .int 250, .ref h10, .int 0, .ref h11, .ref h12, .ref h13]))] sz) := by
  refine vx_ofW (cc := cX11_tell) (maxL := 3) (ret := (some .int)) (by decide) rfl ?_
  intro p e s m args below meth c s₁ B hml hno hv
  obtain ⟨rfl, hsz, hP, hD0, hE⟩ := hv
  have hx := B.exec
  have hb := B.bytes
  have hr := B.returns
  have hts := atoms_spec (ws := w9_X11_tell_2) B.pre
  have hown : s.vm.findClass RX11 = some m.cls := findClass_of_methodNamed B.named
  have hlocks := B.notSynchronized
  subst hsz
  have hD := hD0.self (sz := s.heap.size)
  generalize hAe : va_A [(h0, .inr (12, [.ref h1, .int 0, .ref h2, .ref h3, .ref h4, .ref h5, .ref h6, .ref h7, .int (-1), .ref h8, .ref h9, .int 250, .ref h10, .int 0, .ref h11, .ref h12, .ref h13]))] s.heap.size = A at hD hE ⊢
  have hA : ∀ q : Nat, s.heap.size ≤ q → A q := fun q h => by rw [← hAe]; exact Or.inr h
  have hK := hE.1
  have hS : va_S A s.heap s.heap [] := va_S.rf
  replace hP : va_P g.1 vwCl [(h0, .inr (12, [.ref h1, .int 0, .ref h2, .ref h3, .ref h4, .ref h5, .ref h6, .ref h7, .int (-1), .ref h8, .ref h9, .int 250, .ref h10, .int 0, .ref h11, .ref h12, .ref h13]))] s.heap := hP
  have hl := lv_entry ([.ref h0, .int v0]) (n := 3) (Nat.le_of_ble_eq_true rfl)
  rw [lg_entry_eq]
  generalize (lg_sl ([.ref h0, .int v0]) ++ List.replicate (3 - (lg_sl ([.ref h0, .int v0])).length) Slot.unset).toArray = ls at hl ⊢
  replace hl : lv_has ls 3 [(0, .ref h0), (1, .int v0)] := hl
  have hH0 : s.heap.size ≤ s.heap.size := Nat.le_refl _
  refine lv_aload_n hx hb dX11_tell_0 rfl (lv_at hl 0 rfl) ?_
  refine lv_iload_n hx hb dX11_tell_1 rfl (lv_at hl 1 rfl) ?_
  have hPc := hP.sub (ws' := [(h0, .inr (12, [.ref h1, .int 0, .ref h2, .ref h3, .ref h4, .ref h5, .ref h6, .ref h7, .int (-1), .ref h8, .ref h9, .int 250, .ref h10, .int 0, .ref h11, .ref h12, .ref h13]))]) [0] rfl
  have hDc := hD.sub (ws' := [(h0, .inr (12, [.ref h1, .int 0, .ref h2, .ref h3, .ref h4, .ref h5, .ref h6, .ref h7, .int (-1), .ref h8, .ref h9, .int 250, .ref h10, .int 0, .ref h11, .ref h12, .ref h13]))]) [0] (by decide) rfl
  have hFc := va_free (wc := [(h0, .inr (12, [.ref h1, .int 0, .ref h2, .ref h3, .ref h4, .ref h5, .ref h6, .ref h7, .int (-1), .ref h8, .ref h9, .int 250, .ref h10, .int 0, .ref h11, .ref h12, .ref h13]))]) hD hS hA [0] rfl
  refine vx_callv (vx_runV (As := [.int v0]) (rest := []) ⟨hx, hb, hml, hown, hts⟩ (c9_X11_needPattern_2 l hlt g h0 h1 h2 h3 h4 h5 h6 h7 h8 h9 h10 h11 h12 h13 _ v0 (by omega)) (cwV 1 hts g9_X11_tell_2_0 rfl rfl rfl (by decide +kernel) ⟨Nat.le_of_ble_eq_true rfl, Nat.le_of_ble_eq_true rfl⟩) (mPreV (g := g) (wc := [(h0, .inr (12, [.ref h1, .int 0, .ref h2, .ref h3, .ref h4, .ref h5, .ref h6, .ref h7, .int (-1), .ref h8, .ref h9, .int 250, .ref h10, .int 0, .ref h11, .ref h12, .ref h13]))]) (C := RX11) (ci := 12) (q0 := 0) hE hS hPc hDc hFc rfl rfl) rfl rfl hl.1 rfl (lv_room (Nat.le_of_ble_eq_true rfl)) dX11_tell_2 ⟨Nat.le_of_ble_eq_true rfl, Nat.le_of_ble_eq_true rfl⟩) hS (fun q _ h => hFc q h) hFc (fun q _ h => hFc q h) (fun E9 ce q9 u t H locs ht hvm hw hB hz1 hk1 hS hc1 hc2 hc3 => ?_) (fun u t H1 locs ht hvm hw hB hz1 hk1 hS => hw.elim)
  replace hB : E9 = "java/lang/IndexOutOfBoundsException" := hB
  subst hB
  exact vx_out (fun z hz => (hno z hz).elim) hlocks hc1 hc2 hc3 (fun t ht hW => ⟨(), trivial, rfl, by subst hAe; exact hS.F ht⟩) (by subst hAe; exact hS.2.2) (Nat.le_of_ble_eq_true rfl) (Nat.le_of_ble_eq_true rfl)
def w9_L_tell_2 : List Cond := [.codeWith yL_tell cL_tell 4 (some .int) [(0, 9, 12, 21), (0, 9, 15, 15)], .methodLink RL 17 yX11_tell, .instanceMethod yX11_tell, .selects RX11 yX11_tell yX11_tell, .initialized RX11, .code yX11_tell cX11_tell 3 (some .int), .methodLink RX11 124 yX11_needPattern, .instanceMethod yX11_needPattern, .selects RX11 yX11_needPattern yX11_needPattern, .code yX11_needPattern cX11_needPattern 2 none, .initialized "java/lang/Throwable", .superclass "java/lang/Throwable" "java/lang/Object", .instanceMethod Bundle.tFill, .codeSync Bundle.tFill LibCode.Throwable.Fill.code 1 (some (.object "java/lang/Throwable")), .instanceMethod Bundle.tFill0, .native Bundle.tFill0, .instanceMethod Bundle.tInit0, .code Bundle.tInit0 LibCode.Throwable.Init0.code 1 none, .instanceMethod Bundle.oInit, .code Bundle.oInit ⟨#[0xb1]⟩ 1 none, .methodLink "java/lang/Throwable" 1 Bundle.oInit, .methodLink "java/lang/Throwable" 27 Bundle.tFill, .methodLink "java/lang/Throwable" 202 Bundle.tFill0, .fieldLink "java/lang/Throwable" 7 "java/lang/Throwable" "cause" "Ljava/lang/Throwable;", .lays "java/lang/Throwable" "java/lang/Throwable" "cause" "Ljava/lang/Throwable;", .fieldLink "java/lang/Throwable" 17 "java/lang/Throwable" "stackTrace" "[Ljava/lang/StackTraceElement;", .lays "java/lang/Throwable" "java/lang/Throwable" "stackTrace" "[Ljava/lang/StackTraceElement;", .fieldLink "java/lang/Throwable" 24 "java/lang/Throwable" "suppressedExceptions" "Ljava/util/List;", .lays "java/lang/Throwable" "java/lang/Throwable" "suppressedExceptions" "Ljava/util/List;", .fieldLink "java/lang/Throwable" 13 "java/lang/Throwable" "UNASSIGNED_STACK" "[Ljava/lang/StackTraceElement;", .fieldLink "java/lang/Throwable" 20 "java/lang/Throwable" "SUPPRESSED_SENTINEL" "Ljava/util/List;", .lays "java/lang/Throwable" "java/lang/Throwable" "detailMessage" "Ljava/lang/String;", .instanceMethod (Bundle.initS "java/lang/Throwable"), .code (Bundle.initS "java/lang/Throwable") LibCode.Throwable.InitS.code 2 none, .fieldLink "java/lang/Throwable" 31 "java/lang/Throwable" "detailMessage" "Ljava/lang/String;", .instanceMethod (Bundle.initS "java/lang/IndexOutOfBoundsException"), .code (Bundle.initS "java/lang/IndexOutOfBoundsException") Bundle.six 2 none, .methodLink "java/lang/IndexOutOfBoundsException" 7 (Bundle.initS "java/lang/RuntimeException"), .instanceMethod (Bundle.initS "java/lang/RuntimeException"), .code (Bundle.initS "java/lang/RuntimeException") Bundle.six 2 none, .methodLink "java/lang/RuntimeException" 7 (Bundle.initS "java/lang/Exception"), .instanceMethod (Bundle.initS "java/lang/Exception"), .code (Bundle.initS "java/lang/Exception") Bundle.six 2 none, .methodLink "java/lang/Exception" 7 (Bundle.initS "java/lang/Throwable"), .methodLink RX11 224 (Bundle.initS "java/lang/IndexOutOfBoundsException"), .instantiable "java/lang/IndexOutOfBoundsException" 6, .selects "java/lang/IndexOutOfBoundsException" Bundle.tFill0 Bundle.tFill0, .selects "java/lang/IndexOutOfBoundsException" Bundle.tFill Bundle.tFill, .lays "java/lang/IndexOutOfBoundsException" "java/lang/Throwable" "cause" "Ljava/lang/Throwable;", .lays "java/lang/IndexOutOfBoundsException" "java/lang/Throwable" "stackTrace" "[Ljava/lang/StackTraceElement;", .lays "java/lang/IndexOutOfBoundsException" "java/lang/Throwable" "suppressedExceptions" "Ljava/util/List;", .lays "java/lang/IndexOutOfBoundsException" "java/lang/Throwable" "detailMessage" "Ljava/lang/String;", .fieldLink "java/lang/Throwable" 198 "java/lang/Throwable" "backtrace" "Ljava/lang/Object;", .lays "java/lang/Throwable" "java/lang/Throwable" "backtrace" "Ljava/lang/Object;", .lays "java/lang/IndexOutOfBoundsException" "java/lang/Throwable" "backtrace" "Ljava/lang/Object;", .classLink RX11 220 "java/lang/IndexOutOfBoundsException", .initialized "java/lang/IndexOutOfBoundsException", .classLink RL 21 "java/lang/IndexOutOfBoundsException"]
set_option maxRecDepth 20000 in
theorem g9_L_tell_2_0 : GoodIn w9_L_tell_2 (wsV RL 17 RX11 yX11_tell w9_X11_tell_2) := goodIn_r _ [1, 2, 3, 4, 5, 6, 7, 8, 4, 9, 10, 11, 12, 13, 14, 15, 16, 17, 18, 19, 20, 21, 22, 23, 24, 25, 26, 27, 28, 29, 30, 31, 32, 33, 34, 35, 36, 37, 38, 39, 40, 41, 42, 43, 44, 45, 46, 47, 48, 49, 50, 51, 52, 53, 54, 55, 56] (by decide +kernel) (by decide +kernel)
set_option maxHeartbeats 4000000 in
set_option maxRecDepth 100000 in
theorem c9_L_tell_2 (l : Launch) (hlt : l.stackTraces = false) (g : G9) (h0 h1 h2 h3 h4 h5 h6 h7 h8 h9 h10 h11 h12 h13 h14 sz : Nat) (v0 : Int32) (k_v0 : 4 ≤ v0.toInt ∧ v0.toInt ≤ 2147483647) : Met l yL_tell w9_L_tell_2 ({ frames := 8, cells := 1, slots := 6, locals := 125 }) (mP g [(h0, .inr (12, [.ref h2, .int 0, .ref h3, .ref h4, .ref h5, .ref h6, .ref h7, .ref h8, .int (-1), .ref h9, .ref h10, .int 250, .ref h11, .int 0, .ref h12, .ref h13, .ref h14]))] sz [.ref h0, .int v0, .ref h1]) (va_Qi (fun (r : Int32) (_ : Unit) => r = 1) (fun (_ : Unit) (t : State) => mB g [(h0, .inr (12, [.ref h2, .int 0, .ref h3, .ref h4, .ref h5, .ref h6, .ref h7, .ref h8, .int (-1), .ref h9, .ref h10, .int 250, .ref h11, .int 0, .ref h12, .ref h13, .ref h14]))] sz [] t) (va_A [(h0, .inr (12, [.ref h2, .int 0, .ref h3, .ref h4, .ref h5, .ref h6, .ref h7, .ref h8, .int (-1), .ref h9, .ref h10, .int 250, .ref h11, .int 0, .ref h12, .ref h13, .ref h14]))] sz)) 1 6 (va_A [(h0, .inr (12, [.ref h2, .int 0, .ref h3, .ref h4, .ref h5, .ref h6, .ref h7, .ref h8, .int (-1), .ref h9, .ref h10, .int 250, .ref h11, .int 0, .ref h12, .ref h13, .ref h14]))] sz) := by
  refine va_MetW (cc := cL_tell) (maxL := 4) (ret := (some .int)) (by decide) rfl ?_
  intro p e s m args below meth c s₁ B hml hv
  obtain ⟨rfl, hsz, hP, hD0, hE⟩ := hv
  have hx := B.exec
  have hb := B.bytes
  have hr := B.returns
  have hts := atoms_spec (ws := w9_L_tell_2) B.pre
  have hown : s.vm.findClass RL = some m.cls := findClass_of_methodNamed B.named
  have hlocks := B.notSynchronized
  have htab := vx_table (x := yL_tell) B (hts (.codeWith yL_tell cL_tell 4 (some .int) [(0, 9, 12, 21), (0, 9, 15, 15)]) (List.mem_of_getElem? (i := 0) rfl))
  subst hsz
  have hD := hD0.self (sz := s.heap.size)
  generalize hAe : va_A [(h0, .inr (12, [.ref h2, .int 0, .ref h3, .ref h4, .ref h5, .ref h6, .ref h7, .ref h8, .int (-1), .ref h9, .ref h10, .int 250, .ref h11, .int 0, .ref h12, .ref h13, .ref h14]))] s.heap.size = A at hD hE ⊢
  have hA : ∀ q : Nat, s.heap.size ≤ q → A q := fun q h => by rw [← hAe]; exact Or.inr h
  have hK := hE.1
  have hS : va_S A s.heap s.heap [] := va_S.rf
  replace hP : va_P g.1 vwCl [(h0, .inr (12, [.ref h2, .int 0, .ref h3, .ref h4, .ref h5, .ref h6, .ref h7, .ref h8, .int (-1), .ref h9, .ref h10, .int 250, .ref h11, .int 0, .ref h12, .ref h13, .ref h14]))] s.heap := hP
  have hl := lv_entry ([.ref h0, .int v0, .ref h1]) (n := 4) (Nat.le_of_ble_eq_true rfl)
  rw [lg_entry_eq]
  generalize (lg_sl ([.ref h0, .int v0, .ref h1]) ++ List.replicate (4 - (lg_sl ([.ref h0, .int v0, .ref h1])).length) Slot.unset).toArray = ls at hl ⊢
  replace hl : lv_has ls 4 [(0, .ref h0), (1, .int v0), (2, .ref h1)] := hl
  have hH0 : s.heap.size ≤ s.heap.size := Nat.le_refl _
  refine lv_aload_n hx hb dL_tell_0 rfl (lv_at hl 2 rfl) ?_
  refine lv_iconst (v := 0) hx hb dL_tell_1 (by decide) ?_
  refine lv_aload_n hx hb dL_tell_2 rfl (lv_at hl 0 rfl) ?_
  refine lv_iload_n hx hb dL_tell_3 rfl (lv_at hl 1 rfl) ?_
  have hPc := hP.sub (ws' := [(h0, .inr (12, [.ref h2, .int 0, .ref h3, .ref h4, .ref h5, .ref h6, .ref h7, .ref h8, .int (-1), .ref h9, .ref h10, .int 250, .ref h11, .int 0, .ref h12, .ref h13, .ref h14]))]) [0] rfl
  have hDc := hD.sub (ws' := [(h0, .inr (12, [.ref h2, .int 0, .ref h3, .ref h4, .ref h5, .ref h6, .ref h7, .ref h8, .int (-1), .ref h9, .ref h10, .int 250, .ref h11, .int 0, .ref h12, .ref h13, .ref h14]))]) [0] (by decide) rfl
  have hFc := va_free (wc := [(h0, .inr (12, [.ref h2, .int 0, .ref h3, .ref h4, .ref h5, .ref h6, .ref h7, .ref h8, .int (-1), .ref h9, .ref h10, .int 250, .ref h11, .int 0, .ref h12, .ref h13, .ref h14]))]) hD hS hA [0] rfl
  refine vx_callv (vx_runV (As := [.int v0]) (rest := [.int 0, .ref h1]) ⟨hx, hb, hml, hown, hts⟩ (c9_X11_tell_2 l hlt g h0 h2 h3 h4 h5 h6 h7 h8 h9 h10 h11 h12 h13 h14 _ v0 (by omega)) (cwV 1 hts g9_L_tell_2_0 rfl rfl rfl (by decide +kernel) ⟨Nat.le_of_ble_eq_true rfl, Nat.le_of_ble_eq_true rfl⟩) (mPreV (g := g) (wc := [(h0, .inr (12, [.ref h2, .int 0, .ref h3, .ref h4, .ref h5, .ref h6, .ref h7, .ref h8, .int (-1), .ref h9, .ref h10, .int 250, .ref h11, .int 0, .ref h12, .ref h13, .ref h14]))]) (C := RX11) (ci := 12) (q0 := 0) hE hS hPc hDc hFc rfl rfl) rfl rfl hl.1 rfl (lv_room (Nat.le_of_ble_eq_true rfl)) dL_tell_4 ⟨Nat.le_of_ble_eq_true rfl, Nat.le_of_ble_eq_true rfl⟩) hS (fun q _ h => hFc q h) hFc (fun q _ h => hFc q h) (fun E9 ce q9 u t H locs ht hvm hw hB hz1 hk1 hS hc1 hc2 hc3 => ?_) (fun u t H1 locs ht hvm hw hB hz1 hk1 hS => hw.elim)
  replace hB : E9 = "java/lang/IndexOutOfBoundsException" := hB
  subst hB
  obtain ⟨hP, hD⟩ := va_join (wr := []) (w1 := []) hP hD [0] [] rfl rfl (by decide) (by decide) hk1 hFc (fun k q h => by simp at h) ⟨fun i j p q h => by simp at h, fun k q h => by simp at h⟩
  have hP : va_P g.1 vwCl [] H := hP
  have hD : va_D A [] := hD
  refine vx_catch (own := RL) (name := "java/lang/IndexOutOfBoundsException") hown [] ⟨0, 9, 12, 21⟩ [⟨0, 9, 15, 15⟩] (by rw [htab]; rfl) (fun z hz => absurd hz List.not_mem_nil) (by decide) (by decide) (hts (.classLink RL 21 "java/lang/IndexOutOfBoundsException") (List.mem_of_getElem? (i := 57) rfl)) (va_Nw.use rfl (hE.cast ("java/lang/IndexOutOfBoundsException", "java/lang/IndexOutOfBoundsException") (by decide))) hc1 hc2 hc3 ?_
  refine lv_astore_n (lv' := [(3, .ref q9), (0, .ref h0), (1, .int v0), (2, .ref h1)]) hx hb dL_tell_12 rfl hl (by decide) rfl (fun ls hl => ?_)
  refine lv_iconst (v := 1) hx hb dL_tell_13 (by decide) ?_
  have hP9 := hP.sub (ws' := []) [] rfl
  have hD9 := hD.sub (ws' := []) [] (by decide) rfl
  subst hAe
  exact W.iret (v := 1) hx hb hr (fun t ht hW => ⟨⟨1, (), rfl, rfl, by rw [ht]; exact hP9, hD9⟩, hS.F ht⟩) hS.2.2 dL_tell_14
def w9_X21_in_2 : List Cond := [.code yX21_in cX21_in 3 (some .boolean)]
set_option maxHeartbeats 4000000 in
set_option maxRecDepth 100000 in
theorem c9_X21_in_2 (l : Launch) (g : G9) (sz : Nat) (v0 : Int32) (k_v0 : 4 ≤ v0.toInt ∧ v0.toInt ≤ 2147483647) : Met l yX21_in w9_X21_in_2 ({ frames := 0, cells := 0, slots := 0, locals := 0 }) (mP g [] sz [.int v0, .int 0, .int 3]) (va_Qi (fun (r : Int32) (_ : Unit) => r = 0) (fun (_ : Unit) (t : State) => mB g [] sz [] t) (va_A [] sz)) 0 0 (va_A [] sz) := by
  refine Met.ofW (cc := cX21_in) (maxL := 3) (ret := (some .boolean)) (by decide) rfl ?_
  intro p e s m args below meth c s₁ B hml hv
  obtain ⟨rfl, hsz, hP, hD0, hE⟩ := hv
  have hx := B.exec
  have hb := B.bytes
  have hr := B.returns
  have hts := atoms_spec (ws := w9_X21_in_2) B.pre
  have hown : s.vm.findClass RX21 = some m.cls := findClass_of_methodNamed B.named
  have hlocks := B.notSynchronized
  subst hsz
  have hD := hD0.self (sz := s.heap.size)
  generalize hAe : va_A [] s.heap.size = A at hD hE ⊢
  have hA : ∀ q : Nat, s.heap.size ≤ q → A q := fun q h => by rw [← hAe]; exact Or.inr h
  have hK := hE.1
  have hS : va_S A s.heap s.heap [] := va_S.rf
  replace hP : va_P g.1 vwCl [] s.heap := hP
  have hl := lv_entry ([.int v0, .int 0, .int 3]) (n := 3) (Nat.le_of_ble_eq_true rfl)
  rw [lg_entry_eq]
  generalize (lg_sl ([.int v0, .int 0, .int 3]) ++ List.replicate (3 - (lg_sl ([.int v0, .int 0, .int 3])).length) Slot.unset).toArray = ls at hl ⊢
  replace hl : lv_has ls 3 [(0, .int v0), (1, .int 0), (2, .int 3)] := hl
  have hH0 : s.heap.size ≤ s.heap.size := Nat.le_refl _
  refine lv_iload_n hx hb dX21_in_0 rfl (lv_at hl 0 rfl) ?_
  refine lv_iload_n hx hb dX21_in_1 rfl (lv_at hl 1 rfl) ?_
  refine lv_icmp_lt (tgt := 14) hx hb dX21_in_2 (by decide) (fun c9 => absurd c9 (by simp only [Int32.lt_iff_toInt_lt, Int32.le_iff_toInt_le, ← Int32.toInt_inj, show (0 : Int32).toInt = 0 from by decide]; omega)) (fun _ => ?_)
  refine lv_iload_n hx hb dX21_in_5 rfl (lv_at hl 0 rfl) ?_
  refine lv_iload_n hx hb dX21_in_6 rfl (lv_at hl 2 rfl) ?_
  refine lv_icmp_gt (tgt := 14) hx hb dX21_in_7 (by decide) (fun _ => ?_) (fun c9 => absurd (by simp only [Int32.lt_iff_toInt_lt, Int32.le_iff_toInt_le, ← Int32.toInt_inj, show (3 : Int32).toInt = 3 from by decide]; omega) c9)
  refine lv_iconst (v := 0) hx hb dX21_in_14 (by decide) ?_
  have hP9 := hP.sub (ws' := []) [] rfl
  have hD9 := hD.sub (ws' := []) [] (by decide) rfl
  subst hAe
  exact W.zret (v := 0) hx hb hr (by decide) (fun t ht hW => ⟨⟨0, (), rfl, rfl, by rw [ht]; exact hP9, hD9⟩, hS.F ht⟩) hS.2.2 dX21_in_15
def w9_X21_tell_2 : List Cond := [.code yX21_tell cX21_tell 4 (some .int), .methodLink RX21 160 yX21_in, .static yX21_in, .initialized RX21, .code yX21_in cX21_in 3 (some .boolean), .methodLink RX21 154 yX21_refused, .instanceMethod yX21_refused, .selects RX21 yX21_refused yX21_refused, .code yX21_refused cX21_refused 2 (some .boolean), .fieldLink RX21 144 "RegexloomModel" "refusal" "I"] ++ (u_ws RX21 TX21 32)
set_option maxRecDepth 20000 in
theorem in9_X21_tell_2_RX21 : ∀ w ∈ u_ws RX21 TX21 32, w ∈ w9_X21_tell_2 := by decide +kernel
set_option maxRecDepth 20000 in
theorem g9_X21_tell_2_0 : GoodIn w9_X21_tell_2 (va_wsS RX21 160 yX21_in w9_X21_in_2) := goodIn_r _ [1, 2, 3, 4] (by decide +kernel) (by decide +kernel)
set_option maxRecDepth 20000 in
theorem g9_X21_tell_2_1 : GoodIn w9_X21_tell_2 (wsV RX21 154 RX21 yX21_refused w9_X21_refused_2) := goodIn_r _ [5, 6, 7, 3, 8, 9, 10, 11, 12, 13, 14, 15, 16, 17, 18, 19, 20, 21, 22, 23, 24, 25, 26, 27, 28, 29, 30, 31, 32, 33, 34, 35, 36, 37, 38, 39, 40, 41] (by decide +kernel) (by decide +kernel)
set_option maxHeartbeats 4000000 in
set_option maxRecDepth 100000 in
theorem c9_X21_tell_2 (l : Launch) (g : G9) (h0 h1 h2 h3 h4 h5 h6 h7 h8 h9 h10 h11 h12 h13 h14 h15 h16 sz : Nat) (v0 : Int32) (k_v0 : 4 ≤ v0.toInt ∧ v0.toInt ≤ 2147483647) : Met l yX21_tell w9_X21_tell_2 ({ frames := 1, cells := 0, slots := 0, locals := 22 }) (mP g [(h0, .inr (22, [.int 0, .ref h1, .int 0, .ref h2, .int 0, .ref h3, .int 250, .ref h4, .int 0, .ref h5, .ref h6, .ref h7, .int 0, .ref h8, .ref h9, .ref h10, .int 0, .null, .int 0, .null, .int 0, .int 0, .int 0, .ref h11, .int 0, .ref h12, .ref h13, .ref h14, .int 0, .ref h15, .ref h16, .int 0]))] sz [.ref h0, .int v0]) (va_Qi (fun (r : Int32) (_ : Unit) => r = 0) (fun (_ : Unit) (t : State) => mB g [(h0, .inr (22, [.int 0, .ref h1, .int 0, .ref h2, .int 0, .ref h3, .int 250, .ref h4, .int 0, .ref h5, .ref h6, .ref h7, .int 0, .ref h8, .ref h9, .ref h10, .int 0, .null, .int 0, .null, .int 0, .int 0, .int 0, .ref h11, .int 0, .ref h12, .ref h13, .ref h14, .int 0, .ref h15, .ref h16, .int 0]))] sz [(h0, .inr (22, [.int 1, .ref h1, .int 0, .ref h2, .int 0, .ref h3, .int 250, .ref h4, .int 0, .ref h5, .ref h6, .ref h7, .int 0, .ref h8, .ref h9, .ref h10, .int 0, .null, .int 0, .null, .int 0, .int 0, .int 0, .ref h11, .int 0, .ref h12, .ref h13, .ref h14, .int 0, .ref h15, .ref h16, .int 0]))] t) (va_A [(h0, .inr (22, [.int 0, .ref h1, .int 0, .ref h2, .int 0, .ref h3, .int 250, .ref h4, .int 0, .ref h5, .ref h6, .ref h7, .int 0, .ref h8, .ref h9, .ref h10, .int 0, .null, .int 0, .null, .int 0, .int 0, .int 0, .ref h11, .int 0, .ref h12, .ref h13, .ref h14, .int 0, .ref h15, .ref h16, .int 0]))] sz)) 0 0 (va_A [(h0, .inr (22, [.int 0, .ref h1, .int 0, .ref h2, .int 0, .ref h3, .int 250, .ref h4, .int 0, .ref h5, .ref h6, .ref h7, .int 0, .ref h8, .ref h9, .ref h10, .int 0, .null, .int 0, .null, .int 0, .int 0, .int 0, .ref h11, .int 0, .ref h12, .ref h13, .ref h14, .int 0, .ref h15, .ref h16, .int 0]))] sz) := by
  refine Met.ofW (cc := cX21_tell) (maxL := 4) (ret := (some .int)) (by decide) rfl ?_
  intro p e s m args below meth c s₁ B hml hv
  obtain ⟨rfl, hsz, hP, hD0, hE⟩ := hv
  have hx := B.exec
  have hb := B.bytes
  have hr := B.returns
  have hts := atoms_spec (ws := w9_X21_tell_2) B.pre
  have hown : s.vm.findClass RX21 = some m.cls := findClass_of_methodNamed B.named
  have hlocks := B.notSynchronized
  subst hsz
  have hD := hD0.self (sz := s.heap.size)
  generalize hAe : va_A [(h0, .inr (22, [.int 0, .ref h1, .int 0, .ref h2, .int 0, .ref h3, .int 250, .ref h4, .int 0, .ref h5, .ref h6, .ref h7, .int 0, .ref h8, .ref h9, .ref h10, .int 0, .null, .int 0, .null, .int 0, .int 0, .int 0, .ref h11, .int 0, .ref h12, .ref h13, .ref h14, .int 0, .ref h15, .ref h16, .int 0]))] s.heap.size = A at hD hE ⊢
  have hA : ∀ q : Nat, s.heap.size ≤ q → A q := fun q h => by rw [← hAe]; exact Or.inr h
  have hK := hE.1
  have hS : va_S A s.heap s.heap [] := va_S.rf
  replace hP : va_P g.1 vwCl [(h0, .inr (22, [.int 0, .ref h1, .int 0, .ref h2, .int 0, .ref h3, .int 250, .ref h4, .int 0, .ref h5, .ref h6, .ref h7, .int 0, .ref h8, .ref h9, .ref h10, .int 0, .null, .int 0, .null, .int 0, .int 0, .int 0, .ref h11, .int 0, .ref h12, .ref h13, .ref h14, .int 0, .ref h15, .ref h16, .int 0]))] s.heap := hP
  have hl := lv_entry ([.ref h0, .int v0]) (n := 4) (Nat.le_of_ble_eq_true rfl)
  rw [lg_entry_eq]
  generalize (lg_sl ([.ref h0, .int v0]) ++ List.replicate (4 - (lg_sl ([.ref h0, .int v0])).length) Slot.unset).toArray = ls at hl ⊢
  replace hl : lv_has ls 4 [(0, .ref h0), (1, .int v0)] := hl
  have hH0 : s.heap.size ≤ s.heap.size := Nat.le_refl _
  refine lv_iload_n hx hb dX21_tell_0 rfl (lv_at hl 1 rfl) ?_
  refine lv_iconst (v := 0) hx hb dX21_tell_1 (by decide) ?_
  refine lv_iconst (v := 3) hx hb dX21_tell_2 (by decide) ?_
  have hPc := hP.sub (ws' := []) [] rfl
  have hDc := hD.sub (ws' := []) [] (by decide) rfl
  have hFc := va_free (wc := []) hD hS hA [] rfl
  refine va_calli (va_runS (As := [.int v0, .int 0, .int 3]) (rest := []) ⟨hx, hb, hml, hown, hts⟩ (c9_X21_in_2 l g _ v0 (by omega)) (va_cwS 3 hts g9_X21_tell_2_0 rfl rfl rfl (by decide +kernel) ⟨Nat.le_of_ble_eq_true rfl, Nat.le_of_ble_eq_true rfl⟩) (mPreS (g := g) (wc := []) hE hS hPc hDc hFc) rfl rfl hl.1 rfl (lv_room (Nat.le_of_ble_eq_true rfl)) dX21_tell_3 ⟨Nat.le_of_ble_eq_true rfl, Nat.le_of_ble_eq_true rfl⟩) hS (fun q _ h => hFc q h) hFc (fun r_1 u t H1 locs ht hvm hw hB hz1 hk1 hS => ?_)
  replace hw : 0 = r_1 := Eq.symm hw
  subst hw
  obtain ⟨hP1, hD1⟩ := hB
  rw [ht] at hP1
  obtain ⟨hP, hD⟩ := va_join (wr := [(h0, .inr (22, [.int 0, .ref h1, .int 0, .ref h2, .int 0, .ref h3, .int 250, .ref h4, .int 0, .ref h5, .ref h6, .ref h7, .int 0, .ref h8, .ref h9, .ref h10, .int 0, .null, .int 0, .null, .int 0, .int 0, .int 0, .ref h11, .int 0, .ref h12, .ref h13, .ref h14, .int 0, .ref h15, .ref h16, .int 0]))]) (w1 := []) hP hD [] [0] rfl rfl (by decide) (by decide) hk1 hFc hP1 hD1
  clear hP1 hD1 hPc hDc hFc hk1 hz1 hvm ht
  generalize H1 = H at hP hS ⊢
  have hP : va_P g.1 vwCl [(h0, .inr (22, [.int 0, .ref h1, .int 0, .ref h2, .int 0, .ref h3, .int 250, .ref h4, .int 0, .ref h5, .ref h6, .ref h7, .int 0, .ref h8, .ref h9, .ref h10, .int 0, .null, .int 0, .null, .int 0, .int 0, .int 0, .ref h11, .int 0, .ref h12, .ref h13, .ref h14, .int 0, .ref h15, .ref h16, .int 0]))] H := hP
  have hD : va_D A [(h0, .inr (22, [.int 0, .ref h1, .int 0, .ref h2, .int 0, .ref h3, .int 250, .ref h4, .int 0, .ref h5, .ref h6, .ref h7, .int 0, .ref h8, .ref h9, .ref h10, .int 0, .null, .int 0, .null, .int 0, .int 0, .int 0, .ref h11, .int 0, .ref h12, .ref h13, .ref h14, .int 0, .ref h15, .ref h16, .int 0]))] := hD
  refine lv_istore_n (lv' := [(2, .int 0), (0, .ref h0), (1, .int v0)]) hx hb dX21_tell_6 rfl hl (by decide) rfl (fun ls hl => ?_)
  refine lv_iload_n hx hb dX21_tell_7 rfl (lv_at hl 0 rfl) ?_
  refine lv_if_eq (tgt := 18) hx hb dX21_tell_8 (by decide) (fun _ => ?_) (fun c9 => absurd (by decide) c9)
  refine lv_null hx hb dX21_tell_18 ?_
  refine lv_astore_nN (lv' := [(3, .null), (2, .int 0), (0, .ref h0), (1, .int v0)]) hx hb dX21_tell_19 rfl hl (by decide) rfl (fun ls hl => ?_)
  refine lv_aload_n hx hb dX21_tell_20 rfl (lv_at hl 2 rfl) ?_
  refine lv_iload_n hx hb dX21_tell_21 rfl (lv_at hl 1 rfl) ?_
  refine lv_if_ne (tgt := 29) hx hb dX21_tell_22 (by decide) (fun c9 => absurd (by decide) c9) (fun _ => ?_)
  refine lv_iconst (v := 1) hx hb dX21_tell_25 (by decide) ?_
  refine lv_goto (tgt := 38) hx hb dX21_tell_26 (by decide) ?_
  have hPc := hP.sub (ws' := [(h0, .inr (22, [.int 0, .ref h1, .int 0, .ref h2, .int 0, .ref h3, .int 250, .ref h4, .int 0, .ref h5, .ref h6, .ref h7, .int 0, .ref h8, .ref h9, .ref h10, .int 0, .null, .int 0, .null, .int 0, .int 0, .int 0, .ref h11, .int 0, .ref h12, .ref h13, .ref h14, .int 0, .ref h15, .ref h16, .int 0]))]) [0] rfl
  have hDc := hD.sub (ws' := [(h0, .inr (22, [.int 0, .ref h1, .int 0, .ref h2, .int 0, .ref h3, .int 250, .ref h4, .int 0, .ref h5, .ref h6, .ref h7, .int 0, .ref h8, .ref h9, .ref h10, .int 0, .null, .int 0, .null, .int 0, .int 0, .int 0, .ref h11, .int 0, .ref h12, .ref h13, .ref h14, .int 0, .ref h15, .ref h16, .int 0]))]) [0] (by decide) rfl
  have hFc := va_free (wc := [(h0, .inr (22, [.int 0, .ref h1, .int 0, .ref h2, .int 0, .ref h3, .int 250, .ref h4, .int 0, .ref h5, .ref h6, .ref h7, .int 0, .ref h8, .ref h9, .ref h10, .int 0, .null, .int 0, .null, .int 0, .int 0, .int 0, .ref h11, .int 0, .ref h12, .ref h13, .ref h14, .int 0, .ref h15, .ref h16, .int 0]))]) hD hS hA [0] rfl
  refine va_calli (va_runV (As := [.int 1]) (rest := []) ⟨hx, hb, hml, hown, hts⟩ (c9_X21_refused_2 l g h0 h1 h2 h3 h4 h5 h6 h7 h8 h9 h10 h11 h12 h13 h14 h15 h16 _) (cwV 1 hts g9_X21_tell_2_1 rfl rfl rfl (by decide +kernel) ⟨Nat.le_of_ble_eq_true rfl, Nat.le_of_ble_eq_true rfl⟩) (mPreV (g := g) (wc := [(h0, .inr (22, [.int 0, .ref h1, .int 0, .ref h2, .int 0, .ref h3, .int 250, .ref h4, .int 0, .ref h5, .ref h6, .ref h7, .int 0, .ref h8, .ref h9, .ref h10, .int 0, .null, .int 0, .null, .int 0, .int 0, .int 0, .ref h11, .int 0, .ref h12, .ref h13, .ref h14, .int 0, .ref h15, .ref h16, .int 0]))]) (C := RX21) (ci := 22) (q0 := 0) hE hS hPc hDc hFc rfl rfl) rfl rfl hl.1 rfl (lv_room (Nat.le_of_ble_eq_true rfl)) dX21_tell_38 ⟨Nat.le_of_ble_eq_true rfl, Nat.le_of_ble_eq_true rfl⟩) hS (fun q _ h => hFc q h) hFc (fun r_2 u t H1 locs ht hvm hw hB hz1 hk1 hS => ?_)
  replace hw : 1 = r_2 := Eq.symm hw
  subst hw
  obtain ⟨hP1, hD1⟩ := hB
  rw [ht] at hP1
  obtain ⟨hP, hD⟩ := va_join (wr := []) (w1 := [(h0, .inr (22, [.int 1, .ref h1, .int 0, .ref h2, .int 0, .ref h3, .int 250, .ref h4, .int 0, .ref h5, .ref h6, .ref h7, .int 0, .ref h8, .ref h9, .ref h10, .int 0, .null, .int 0, .null, .int 0, .int 0, .int 0, .ref h11, .int 0, .ref h12, .ref h13, .ref h14, .int 0, .ref h15, .ref h16, .int 0]))]) hP hD [0] [] rfl rfl (by decide) (by decide) hk1 hFc hP1 hD1
  clear hP1 hD1 hPc hDc hFc hk1 hz1 hvm ht
  generalize H1 = H at hP hS ⊢
  have hP : va_P g.1 vwCl [(h0, .inr (22, [.int 1, .ref h1, .int 0, .ref h2, .int 0, .ref h3, .int 250, .ref h4, .int 0, .ref h5, .ref h6, .ref h7, .int 0, .ref h8, .ref h9, .ref h10, .int 0, .null, .int 0, .null, .int 0, .int 0, .int 0, .ref h11, .int 0, .ref h12, .ref h13, .ref h14, .int 0, .ref h15, .ref h16, .int 0]))] H := hP
  have hD : va_D A [(h0, .inr (22, [.int 1, .ref h1, .int 0, .ref h2, .int 0, .ref h3, .int 250, .ref h4, .int 0, .ref h5, .ref h6, .ref h7, .int 0, .ref h8, .ref h9, .ref h10, .int 0, .null, .int 0, .null, .int 0, .int 0, .int 0, .ref h11, .int 0, .ref h12, .ref h13, .ref h14, .int 0, .ref h15, .ref h16, .int 0]))] := hD
  refine lv_if_eq (tgt := 46) hx hb dX21_tell_41 (by decide) (fun c9 => absurd c9 (by decide)) (fun _ => ?_)
  refine lv_iconst (v := 0) hx hb dX21_tell_44 (by decide) ?_
  have hP9 := hP.sub (ws' := [(h0, .inr (22, [.int 1, .ref h1, .int 0, .ref h2, .int 0, .ref h3, .int 250, .ref h4, .int 0, .ref h5, .ref h6, .ref h7, .int 0, .ref h8, .ref h9, .ref h10, .int 0, .null, .int 0, .null, .int 0, .int 0, .int 0, .ref h11, .int 0, .ref h12, .ref h13, .ref h14, .int 0, .ref h15, .ref h16, .int 0]))]) [0] rfl
  have hD9 := hD.sub (ws' := [(h0, .inr (22, [.int 1, .ref h1, .int 0, .ref h2, .int 0, .ref h3, .int 250, .ref h4, .int 0, .ref h5, .ref h6, .ref h7, .int 0, .ref h8, .ref h9, .ref h10, .int 0, .null, .int 0, .null, .int 0, .int 0, .int 0, .ref h11, .int 0, .ref h12, .ref h13, .ref h14, .int 0, .ref h15, .ref h16, .int 0]))]) [0] (by decide) rfl
  subst hAe
  exact W.iret (v := 0) hx hb hr (fun t ht hW => ⟨⟨0, (), rfl, rfl, by rw [ht]; exact hP9, hD9⟩, hS.F ht⟩) hS.2.2 dX21_tell_45
def w9_X11_needPattern_3 : List Cond := [.code yX11_needPattern cX11_needPattern 2 none]
set_option maxHeartbeats 4000000 in
set_option maxRecDepth 100000 in
theorem c9_X11_needPattern_3 (l : Launch) (g : G9) (h0 h1 h2 h3 h4 h5 h6 h7 h8 h9 h10 h11 h12 h13 sz : Nat) : Met l yX11_needPattern w9_X11_needPattern_3 ({ frames := 0, cells := 0, slots := 0, locals := 0 }) (mP g [(h0, .inr (12, [.ref h1, .int 0, .ref h2, .ref h3, .ref h4, .ref h5, .ref h6, .ref h7, .int (-1), .ref h8, .ref h9, .int 250, .ref h10, .int 0, .ref h11, .ref h12, .ref h13]))] sz [.ref h0, .int 0]) (va_Qv (fun _ : Unit => True) (fun (_ : Unit) (t : State) => mB g [(h0, .inr (12, [.ref h1, .int 0, .ref h2, .ref h3, .ref h4, .ref h5, .ref h6, .ref h7, .int (-1), .ref h8, .ref h9, .int 250, .ref h10, .int 0, .ref h11, .ref h12, .ref h13]))] sz [(h0, .inr (12, [.ref h1, .int 0, .ref h2, .ref h3, .ref h4, .ref h5, .ref h6, .ref h7, .int (-1), .ref h8, .ref h9, .int 250, .ref h10, .int 0, .ref h11, .ref h12, .ref h13]))] t) (va_A [(h0, .inr (12, [.ref h1, .int 0, .ref h2, .ref h3, .ref h4, .ref h5, .ref h6, .ref h7, .int (-1), .ref h8, .ref h9, .int 250, .ref h10, .int 0, .ref h11, .ref h12, .ref h13]))] sz)) 0 0 (va_A [(h0, .inr (12, [.ref h1, .int 0, .ref h2, .ref h3, .ref h4, .ref h5, .ref h6, .ref h7, .int (-1), .ref h8, .ref h9, .int 250, .ref h10, .int 0, .ref h11, .ref h12, .ref h13]))] sz) := by
  refine Met.ofW (cc := cX11_needPattern) (maxL := 2) (ret := none) (by decide) rfl ?_
  intro p e s m args below meth c s₁ B hml hv
  obtain ⟨rfl, hsz, hP, hD0, hE⟩ := hv
  have hx := B.exec
  have hb := B.bytes
  have hr := B.returns
  have hts := atoms_spec (ws := w9_X11_needPattern_3) B.pre
  have hown : s.vm.findClass RX11 = some m.cls := findClass_of_methodNamed B.named
  have hlocks := B.notSynchronized
  subst hsz
  have hD := hD0.self (sz := s.heap.size)
  generalize hAe : va_A [(h0, .inr (12, [.ref h1, .int 0, .ref h2, .ref h3, .ref h4, .ref h5, .ref h6, .ref h7, .int (-1), .ref h8, .ref h9, .int 250, .ref h10, .int 0, .ref h11, .ref h12, .ref h13]))] s.heap.size = A at hD hE ⊢
  have hA : ∀ q : Nat, s.heap.size ≤ q → A q := fun q h => by rw [← hAe]; exact Or.inr h
  have hK := hE.1
  have hS : va_S A s.heap s.heap [] := va_S.rf
  replace hP : va_P g.1 vwCl [(h0, .inr (12, [.ref h1, .int 0, .ref h2, .ref h3, .ref h4, .ref h5, .ref h6, .ref h7, .int (-1), .ref h8, .ref h9, .int 250, .ref h10, .int 0, .ref h11, .ref h12, .ref h13]))] s.heap := hP
  have hl := lv_entry ([.ref h0, .int 0]) (n := 2) (Nat.le_of_ble_eq_true rfl)
  rw [lg_entry_eq]
  generalize (lg_sl ([.ref h0, .int 0]) ++ List.replicate (2 - (lg_sl ([.ref h0, .int 0])).length) Slot.unset).toArray = ls at hl ⊢
  replace hl : lv_has ls 2 [(0, .ref h0), (1, .int 0)] := hl
  have hH0 : s.heap.size ≤ s.heap.size := Nat.le_refl _
  refine lv_iload_n hx hb dX11_needPattern_0 rfl (lv_at hl 1 rfl) ?_
  refine lv_if_lt (tgt := 9) hx hb dX11_needPattern_1 (by decide) (fun c9 => absurd c9 (by decide)) (fun _ => ?_)
  refine lv_iload_n hx hb dX11_needPattern_4 rfl (lv_at hl 1 rfl) ?_
  refine lv_iconst (v := 4) hx hb dX11_needPattern_5 (by decide) ?_
  refine lv_icmp_lt (tgt := 20) hx hb dX11_needPattern_6 (by decide) (fun _ => ?_) (fun c9 => absurd (by decide) c9)
  have hP9 := hP.sub (ws' := [(h0, .inr (12, [.ref h1, .int 0, .ref h2, .ref h3, .ref h4, .ref h5, .ref h6, .ref h7, .int (-1), .ref h8, .ref h9, .int 250, .ref h10, .int 0, .ref h11, .ref h12, .ref h13]))]) [0] rfl
  have hD9 := hD.sub (ws' := [(h0, .inr (12, [.ref h1, .int 0, .ref h2, .ref h3, .ref h4, .ref h5, .ref h6, .ref h7, .int (-1), .ref h8, .ref h9, .int 250, .ref h10, .int 0, .ref h11, .ref h12, .ref h13]))]) [0] (by decide) rfl
  subst hAe
  exact W.vret hx hb hr (fun t ht hW => ⟨⟨(), rfl, trivial, by rw [ht]; exact hP9, hD9⟩, hS.F ht⟩) hS.2.2 dX11_needPattern_20
def w9_X9_get_1 : List Cond := [.code yX9_get cX9_get 3 (some .int), .fieldLink RX9 28 "Regexloom$Table" "size" "I", .fieldLink RX9 9 "Regexloom$Table" "width" "I", .fieldLink RX9 24 "Regexloom$Table" "cells" "[I"] ++ (u_ws RX9 TX9 4)
set_option maxRecDepth 20000 in
theorem in9_X9_get_1_RX9 : ∀ w ∈ u_ws RX9 TX9 4, w ∈ w9_X9_get_1 := by decide +kernel
set_option maxHeartbeats 4000000 in
set_option maxRecDepth 100000 in
theorem c9_X9_get_1 (l : Launch) (g : G9) (h0 h1 sz : Nat) (f0 : Nat → Int32) : Met l yX9_get w9_X9_get_1 ({ frames := 0, cells := 0, slots := 0, locals := 0 }) (mP g [(h0, .inr (10, [.int 2, .int 33, .ref h1, .int 1])), (h1, .inl (g.2.1 0, 64, .inl f0))] sz [.ref h0, .int 0, .int 0]) (va_Qi (fun (r : Int32) (_ : Unit) => r = (f0 0)) (fun (_ : Unit) (t : State) => mB g [(h0, .inr (10, [.int 2, .int 33, .ref h1, .int 1])), (h1, .inl (g.2.1 0, 64, .inl f0))] sz [(h0, .inr (10, [.int 2, .int 33, .ref h1, .int 1])), (h1, .inl (g.2.1 0, 64, .inl f0))] t) (va_A [(h0, .inr (10, [.int 2, .int 33, .ref h1, .int 1])), (h1, .inl (g.2.1 0, 64, .inl f0))] sz)) 0 0 (va_A [(h0, .inr (10, [.int 2, .int 33, .ref h1, .int 1])), (h1, .inl (g.2.1 0, 64, .inl f0))] sz) := by
  refine Met.ofW (cc := cX9_get) (maxL := 3) (ret := (some .int)) (by decide) rfl ?_
  intro p e s m args below meth c s₁ B hml hv
  obtain ⟨rfl, hsz, hP, hD0, hE⟩ := hv
  have hx := B.exec
  have hb := B.bytes
  have hr := B.returns
  have hts := atoms_spec (ws := w9_X9_get_1) B.pre
  have hown : s.vm.findClass RX9 = some m.cls := findClass_of_methodNamed B.named
  have hlocks := B.notSynchronized
  subst hsz
  have hD := hD0.self (sz := s.heap.size)
  generalize hAe : va_A [(h0, .inr (10, [.int 2, .int 33, .ref h1, .int 1])), (h1, .inl (g.2.1 0, 64, .inl f0))] s.heap.size = A at hD hE ⊢
  have hA : ∀ q : Nat, s.heap.size ≤ q → A q := fun q h => by rw [← hAe]; exact Or.inr h
  have hK := hE.1
  have hS : va_S A s.heap s.heap [] := va_S.rf
  replace hP : va_P g.1 vwCl [(h0, .inr (10, [.int 2, .int 33, .ref h1, .int 1])), (h1, .inl (g.2.1 0, 64, .inl f0))] s.heap := hP
  have hl := lv_entry ([.ref h0, .int 0, .int 0]) (n := 3) (Nat.le_of_ble_eq_true rfl)
  rw [lg_entry_eq]
  generalize (lg_sl ([.ref h0, .int 0, .int 0]) ++ List.replicate (3 - (lg_sl ([.ref h0, .int 0, .int 0])).length) Slot.unset).toArray = ls at hl ⊢
  replace hl : lv_has ls 3 [(0, .ref h0), (1, .int 0), (2, .int 0)] := hl
  have hH0 : s.heap.size ≤ s.heap.size := Nat.le_refl _
  refine lv_iload_n hx hb dX9_get_0 rfl (lv_at hl 1 rfl) ?_
  refine lv_if_lt (tgt := 24) hx hb dX9_get_1 (by decide) (fun c9 => absurd c9 (by decide)) (fun _ => ?_)
  refine lv_iload_n hx hb dX9_get_4 rfl (lv_at hl 1 rfl) ?_
  refine lv_aload_n hx hb dX9_get_5 rfl (lv_at hl 0 rfl) ?_
  refine va_get (D := g.1) (ci := 10) (v := .int 1) (C := RX9) (T := TX9) (N := 4) hx hb hts in9_X9_get_1_RX9 hown hK hP 0 rfl rfl 3 (by decide) (hts (.fieldLink RX9 28 "Regexloom$Table" "size" "I") (List.mem_of_getElem? (i := 1) rfl)) (fun _ h9 => h9) rfl dX9_get_6 ?_
  refine lv_icmp_ge (tgt := 24) hx hb dX9_get_9 (by decide) (fun c9 => absurd c9 (by decide)) (fun _ => ?_)
  refine lv_iload_n hx hb dX9_get_12 rfl (lv_at hl 2 rfl) ?_
  refine lv_if_lt (tgt := 24) hx hb dX9_get_13 (by decide) (fun c9 => absurd c9 (by decide)) (fun _ => ?_)
  refine lv_iload_n hx hb dX9_get_16 rfl (lv_at hl 2 rfl) ?_
  refine lv_aload_n hx hb dX9_get_17 rfl (lv_at hl 0 rfl) ?_
  refine va_get (D := g.1) (ci := 10) (v := .int 2) (C := RX9) (T := TX9) (N := 4) hx hb hts in9_X9_get_1_RX9 hown hK hP 0 rfl rfl 0 (by decide) (hts (.fieldLink RX9 9 "Regexloom$Table" "width" "I") (List.mem_of_getElem? (i := 2) rfl)) (fun _ h9 => h9) rfl dX9_get_18 ?_
  refine lv_icmp_lt (tgt := 26) hx hb dX9_get_21 (by decide) (fun _ => ?_) (fun c9 => absurd (by decide) c9)
  refine lv_aload_n hx hb dX9_get_26 rfl (lv_at hl 0 rfl) ?_
  refine va_get (D := g.1) (ci := 10) (v := .ref h1) (C := RX9) (T := TX9) (N := 4) hx hb hts in9_X9_get_1_RX9 hown hK hP 0 rfl rfl 2 (by decide) (hts (.fieldLink RX9 24 "Regexloom$Table" "cells" "[I") (List.mem_of_getElem? (i := 3) rfl)) (fun _ h9 => h9) rfl dX9_get_27 ?_
  refine lv_iload_n hx hb dX9_get_30 rfl (lv_at hl 1 rfl) ?_
  refine lv_aload_n hx hb dX9_get_31 rfl (lv_at hl 0 rfl) ?_
  refine va_get (D := g.1) (ci := 10) (v := .int 2) (C := RX9) (T := TX9) (N := 4) hx hb hts in9_X9_get_1_RX9 hown hK hP 0 rfl rfl 0 (by decide) (hts (.fieldLink RX9 9 "Regexloom$Table" "width" "I") (List.mem_of_getElem? (i := 2) rfl)) (fun _ h9 => h9) rfl dX9_get_32 ?_
  refine lv_imul hx hb dX9_get_35 ?_
  refine e_top (y := 0) (by decide) ?_
  refine lv_iload_n hx hb dX9_get_36 rfl (lv_at hl 2 rfl) ?_
  refine lv_iadd hx hb dX9_get_37 ?_
  refine e_top (y := 0) (by decide) ?_
  refine va_iald hx hb hK hP 1 0 rfl rfl (vp_in_nI (n := 0) (by decide) (by decide)) dX9_get_38 ?_
  refine e_topv (y := .int (f0 0)) (by rfl) ?_
  have hP9 := hP.sub (ws' := [(h0, .inr (10, [.int 2, .int 33, .ref h1, .int 1])), (h1, .inl (g.2.1 0, 64, .inl f0))]) [0, 1] rfl
  have hD9 := hD.sub (ws' := [(h0, .inr (10, [.int 2, .int 33, .ref h1, .int 1])), (h1, .inl (g.2.1 0, 64, .inl f0))]) [0, 1] (by decide) rfl
  subst hAe
  exact W.iret (v := (f0 0)) hx hb hr (fun t ht hW => ⟨⟨(f0 0), (), rfl, rfl, by rw [ht]; exact hP9, hD9⟩, hS.F ht⟩) hS.2.2 dX9_get_39
def w9_X3_firstPiece_1 : List Cond := [.code yX3_firstPiece cX3_firstPiece 2 (some .int), .fieldLink RX3 20 "Regexloom$Pattern" "branches" "LRegexloom$Table;", .methodLink RX3 54 yX9_get, .instanceMethod yX9_get, .selects RX9 yX9_get yX9_get, .initialized RX9, .code yX9_get cX9_get 3 (some .int), .fieldLink RX9 28 "Regexloom$Table" "size" "I", .fieldLink RX9 9 "Regexloom$Table" "width" "I", .fieldLink RX9 24 "Regexloom$Table" "cells" "[I"] ++ (u_ws RX3 TX3 8 ++ u_ws RX9 TX9 4)
set_option maxRecDepth 20000 in
theorem in9_X3_firstPiece_1_RX3 : ∀ w ∈ u_ws RX3 TX3 8, w ∈ w9_X3_firstPiece_1 := by decide +kernel
set_option maxRecDepth 20000 in
theorem in9_X3_firstPiece_1_RX9 : ∀ w ∈ u_ws RX9 TX9 4, w ∈ w9_X3_firstPiece_1 := by decide +kernel
set_option maxRecDepth 20000 in
theorem g9_X3_firstPiece_1_0 : GoodIn w9_X3_firstPiece_1 (wsV RX3 54 RX9 yX9_get w9_X9_get_1) := goodIn_r _ [2, 3, 4, 5, 6, 7, 8, 9, 18, 19, 20, 21] (by decide +kernel) (by decide +kernel)
set_option maxHeartbeats 4000000 in
set_option maxRecDepth 100000 in
theorem c9_X3_firstPiece_1 (l : Launch) (g : G9) (h0 h1 h2 h3 h4 sz : Nat) (f0 : Nat → Int32) : Met l yX3_firstPiece w9_X3_firstPiece_1 ({ frames := 1, cells := 0, slots := 0, locals := 22 }) (mP g [(h0, .inr (6, [.ref h1, .ref h2, .ref h3, .int 0, .int 0, .int 1, .int 0, .int 0])), (h2, .inr (10, [.int 2, .int 33, .ref h4, .int 1])), (h4, .inl (g.2.1 0, 64, .inl f0))] sz [.ref h0, .int 0]) (va_Qi (fun (r : Int32) (_ : Unit) => r = (f0 0)) (fun (_ : Unit) (t : State) => mB g [(h0, .inr (6, [.ref h1, .ref h2, .ref h3, .int 0, .int 0, .int 1, .int 0, .int 0])), (h2, .inr (10, [.int 2, .int 33, .ref h4, .int 1])), (h4, .inl (g.2.1 0, 64, .inl f0))] sz [(h0, .inr (6, [.ref h1, .ref h2, .ref h3, .int 0, .int 0, .int 1, .int 0, .int 0])), (h2, .inr (10, [.int 2, .int 33, .ref h4, .int 1])), (h4, .inl (g.2.1 0, 64, .inl f0))] t) (va_A [(h0, .inr (6, [.ref h1, .ref h2, .ref h3, .int 0, .int 0, .int 1, .int 0, .int 0])), (h2, .inr (10, [.int 2, .int 33, .ref h4, .int 1])), (h4, .inl (g.2.1 0, 64, .inl f0))] sz)) 0 0 (va_A [(h0, .inr (6, [.ref h1, .ref h2, .ref h3, .int 0, .int 0, .int 1, .int 0, .int 0])), (h2, .inr (10, [.int 2, .int 33, .ref h4, .int 1])), (h4, .inl (g.2.1 0, 64, .inl f0))] sz) := by
  refine Met.ofW (cc := cX3_firstPiece) (maxL := 2) (ret := (some .int)) (by decide) rfl ?_
  intro p e s m args below meth c s₁ B hml hv
  obtain ⟨rfl, hsz, hP, hD0, hE⟩ := hv
  have hx := B.exec
  have hb := B.bytes
  have hr := B.returns
  have hts := atoms_spec (ws := w9_X3_firstPiece_1) B.pre
  have hown : s.vm.findClass RX3 = some m.cls := findClass_of_methodNamed B.named
  have hlocks := B.notSynchronized
  subst hsz
  have hD := hD0.self (sz := s.heap.size)
  generalize hAe : va_A [(h0, .inr (6, [.ref h1, .ref h2, .ref h3, .int 0, .int 0, .int 1, .int 0, .int 0])), (h2, .inr (10, [.int 2, .int 33, .ref h4, .int 1])), (h4, .inl (g.2.1 0, 64, .inl f0))] s.heap.size = A at hD hE ⊢
  have hA : ∀ q : Nat, s.heap.size ≤ q → A q := fun q h => by rw [← hAe]; exact Or.inr h
  have hK := hE.1
  have hS : va_S A s.heap s.heap [] := va_S.rf
  replace hP : va_P g.1 vwCl [(h0, .inr (6, [.ref h1, .ref h2, .ref h3, .int 0, .int 0, .int 1, .int 0, .int 0])), (h2, .inr (10, [.int 2, .int 33, .ref h4, .int 1])), (h4, .inl (g.2.1 0, 64, .inl f0))] s.heap := hP
  have hl := lv_entry ([.ref h0, .int 0]) (n := 2) (Nat.le_of_ble_eq_true rfl)
  rw [lg_entry_eq]
  generalize (lg_sl ([.ref h0, .int 0]) ++ List.replicate (2 - (lg_sl ([.ref h0, .int 0])).length) Slot.unset).toArray = ls at hl ⊢
  replace hl : lv_has ls 2 [(0, .ref h0), (1, .int 0)] := hl
  have hH0 : s.heap.size ≤ s.heap.size := Nat.le_refl _
  refine lv_aload_n hx hb dX3_firstPiece_0 rfl (lv_at hl 0 rfl) ?_
  refine va_get (D := g.1) (ci := 6) (v := .ref h2) (C := RX3) (T := TX3) (N := 8) hx hb hts in9_X3_firstPiece_1_RX3 hown hK hP 0 rfl rfl 1 (by decide) (hts (.fieldLink RX3 20 "Regexloom$Pattern" "branches" "LRegexloom$Table;") (List.mem_of_getElem? (i := 1) rfl)) (fun _ h9 => h9) rfl dX3_firstPiece_1 ?_
  refine lv_iload_n hx hb dX3_firstPiece_4 rfl (lv_at hl 1 rfl) ?_
  refine lv_iconst (v := 0) hx hb dX3_firstPiece_5 (by decide) ?_
  have hPc := hP.sub (ws' := [(h2, .inr (10, [.int 2, .int 33, .ref h4, .int 1])), (h4, .inl (g.2.1 0, 64, .inl f0))]) [1, 2] rfl
  have hDc := hD.sub (ws' := [(h2, .inr (10, [.int 2, .int 33, .ref h4, .int 1])), (h4, .inl (g.2.1 0, 64, .inl f0))]) [1, 2] (by decide) rfl
  have hFc := va_free (wc := [(h2, .inr (10, [.int 2, .int 33, .ref h4, .int 1])), (h4, .inl (g.2.1 0, 64, .inl f0))]) hD hS hA [1, 2] rfl
  refine va_calli (va_runV (As := [.int 0, .int 0]) (rest := []) ⟨hx, hb, hml, hown, hts⟩ (c9_X9_get_1 l g h2 h4 _ f0) (cwV 2 hts g9_X3_firstPiece_1_0 rfl rfl rfl (by decide +kernel) ⟨Nat.le_of_ble_eq_true rfl, Nat.le_of_ble_eq_true rfl⟩) (mPreV (g := g) (wc := [(h2, .inr (10, [.int 2, .int 33, .ref h4, .int 1])), (h4, .inl (g.2.1 0, 64, .inl f0))]) (C := RX9) (ci := 10) (q0 := 0) hE hS hPc hDc hFc rfl rfl) rfl rfl hl.1 rfl (lv_room (Nat.le_of_ble_eq_true rfl)) dX3_firstPiece_6 ⟨Nat.le_of_ble_eq_true rfl, Nat.le_of_ble_eq_true rfl⟩) hS (fun q _ h => hFc q h) hFc (fun r_1 u t H1 locs ht hvm hw hB hz1 hk1 hS => ?_)
  replace hw : (f0 0) = r_1 := Eq.symm hw
  subst hw
  obtain ⟨hP1, hD1⟩ := hB
  rw [ht] at hP1
  obtain ⟨hP, hD⟩ := va_join (wr := [(h0, .inr (6, [.ref h1, .ref h2, .ref h3, .int 0, .int 0, .int 1, .int 0, .int 0]))]) (w1 := [(h2, .inr (10, [.int 2, .int 33, .ref h4, .int 1])), (h4, .inl (g.2.1 0, 64, .inl f0))]) hP hD [1, 2] [0] rfl rfl (by decide) (by decide) hk1 hFc hP1 hD1
  clear hP1 hD1 hPc hDc hFc hk1 hz1 hvm ht
  generalize H1 = H at hP hS ⊢
  have hP : va_P g.1 vwCl [(h0, .inr (6, [.ref h1, .ref h2, .ref h3, .int 0, .int 0, .int 1, .int 0, .int 0])), (h2, .inr (10, [.int 2, .int 33, .ref h4, .int 1])), (h4, .inl (g.2.1 0, 64, .inl f0))] H := hP
  have hD : va_D A [(h0, .inr (6, [.ref h1, .ref h2, .ref h3, .int 0, .int 0, .int 1, .int 0, .int 0])), (h2, .inr (10, [.int 2, .int 33, .ref h4, .int 1])), (h4, .inl (g.2.1 0, 64, .inl f0))] := hD
  refine e_top (y := (f0 0)) (by rfl) ?_
  have hP9 := hP.sub (ws' := [(h0, .inr (6, [.ref h1, .ref h2, .ref h3, .int 0, .int 0, .int 1, .int 0, .int 0])), (h2, .inr (10, [.int 2, .int 33, .ref h4, .int 1])), (h4, .inl (g.2.1 0, 64, .inl f0))]) [0, 1, 2] rfl
  have hD9 := hD.sub (ws' := [(h0, .inr (6, [.ref h1, .ref h2, .ref h3, .int 0, .int 0, .int 1, .int 0, .int 0])), (h2, .inr (10, [.int 2, .int 33, .ref h4, .int 1])), (h4, .inl (g.2.1 0, 64, .inl f0))]) [0, 1, 2] (by decide) rfl
  subst hAe
  exact W.iret (v := (f0 0)) hx hb hr (fun t ht hW => ⟨⟨(f0 0), (), rfl, rfl, by rw [ht]; exact hP9, hD9⟩, hS.F ht⟩) hS.2.2 dX3_firstPiece_9
def w9_X9_get_2 : List Cond := [.code yX9_get cX9_get 3 (some .int), .fieldLink RX9 28 "Regexloom$Table" "size" "I", .fieldLink RX9 9 "Regexloom$Table" "width" "I", .fieldLink RX9 24 "Regexloom$Table" "cells" "[I"] ++ (u_ws RX9 TX9 4)
set_option maxRecDepth 20000 in
theorem in9_X9_get_2_RX9 : ∀ w ∈ u_ws RX9 TX9 4, w ∈ w9_X9_get_2 := by decide +kernel
set_option maxHeartbeats 4000000 in
set_option maxRecDepth 100000 in
theorem c9_X9_get_2 (l : Launch) (g : G9) (h0 h1 sz : Nat) (f0 : Nat → Int32) : Met l yX9_get w9_X9_get_2 ({ frames := 0, cells := 0, slots := 0, locals := 0 }) (mP g [(h0, .inr (10, [.int 2, .int 33, .ref h1, .int 1])), (h1, .inl (g.2.1 0, 64, .inl f0))] sz [.ref h0, .int 0, .int 1]) (va_Qi (fun (r : Int32) (_ : Unit) => r = (f0 1)) (fun (_ : Unit) (t : State) => mB g [(h0, .inr (10, [.int 2, .int 33, .ref h1, .int 1])), (h1, .inl (g.2.1 0, 64, .inl f0))] sz [(h0, .inr (10, [.int 2, .int 33, .ref h1, .int 1])), (h1, .inl (g.2.1 0, 64, .inl f0))] t) (va_A [(h0, .inr (10, [.int 2, .int 33, .ref h1, .int 1])), (h1, .inl (g.2.1 0, 64, .inl f0))] sz)) 0 0 (va_A [(h0, .inr (10, [.int 2, .int 33, .ref h1, .int 1])), (h1, .inl (g.2.1 0, 64, .inl f0))] sz) := by
  refine Met.ofW (cc := cX9_get) (maxL := 3) (ret := (some .int)) (by decide) rfl ?_
  intro p e s m args below meth c s₁ B hml hv
  obtain ⟨rfl, hsz, hP, hD0, hE⟩ := hv
  have hx := B.exec
  have hb := B.bytes
  have hr := B.returns
  have hts := atoms_spec (ws := w9_X9_get_2) B.pre
  have hown : s.vm.findClass RX9 = some m.cls := findClass_of_methodNamed B.named
  have hlocks := B.notSynchronized
  subst hsz
  have hD := hD0.self (sz := s.heap.size)
  generalize hAe : va_A [(h0, .inr (10, [.int 2, .int 33, .ref h1, .int 1])), (h1, .inl (g.2.1 0, 64, .inl f0))] s.heap.size = A at hD hE ⊢
  have hA : ∀ q : Nat, s.heap.size ≤ q → A q := fun q h => by rw [← hAe]; exact Or.inr h
  have hK := hE.1
  have hS : va_S A s.heap s.heap [] := va_S.rf
  replace hP : va_P g.1 vwCl [(h0, .inr (10, [.int 2, .int 33, .ref h1, .int 1])), (h1, .inl (g.2.1 0, 64, .inl f0))] s.heap := hP
  have hl := lv_entry ([.ref h0, .int 0, .int 1]) (n := 3) (Nat.le_of_ble_eq_true rfl)
  rw [lg_entry_eq]
  generalize (lg_sl ([.ref h0, .int 0, .int 1]) ++ List.replicate (3 - (lg_sl ([.ref h0, .int 0, .int 1])).length) Slot.unset).toArray = ls at hl ⊢
  replace hl : lv_has ls 3 [(0, .ref h0), (1, .int 0), (2, .int 1)] := hl
  have hH0 : s.heap.size ≤ s.heap.size := Nat.le_refl _
  refine lv_iload_n hx hb dX9_get_0 rfl (lv_at hl 1 rfl) ?_
  refine lv_if_lt (tgt := 24) hx hb dX9_get_1 (by decide) (fun c9 => absurd c9 (by decide)) (fun _ => ?_)
  refine lv_iload_n hx hb dX9_get_4 rfl (lv_at hl 1 rfl) ?_
  refine lv_aload_n hx hb dX9_get_5 rfl (lv_at hl 0 rfl) ?_
  refine va_get (D := g.1) (ci := 10) (v := .int 1) (C := RX9) (T := TX9) (N := 4) hx hb hts in9_X9_get_2_RX9 hown hK hP 0 rfl rfl 3 (by decide) (hts (.fieldLink RX9 28 "Regexloom$Table" "size" "I") (List.mem_of_getElem? (i := 1) rfl)) (fun _ h9 => h9) rfl dX9_get_6 ?_
  refine lv_icmp_ge (tgt := 24) hx hb dX9_get_9 (by decide) (fun c9 => absurd c9 (by decide)) (fun _ => ?_)
  refine lv_iload_n hx hb dX9_get_12 rfl (lv_at hl 2 rfl) ?_
  refine lv_if_lt (tgt := 24) hx hb dX9_get_13 (by decide) (fun c9 => absurd c9 (by decide)) (fun _ => ?_)
  refine lv_iload_n hx hb dX9_get_16 rfl (lv_at hl 2 rfl) ?_
  refine lv_aload_n hx hb dX9_get_17 rfl (lv_at hl 0 rfl) ?_
  refine va_get (D := g.1) (ci := 10) (v := .int 2) (C := RX9) (T := TX9) (N := 4) hx hb hts in9_X9_get_2_RX9 hown hK hP 0 rfl rfl 0 (by decide) (hts (.fieldLink RX9 9 "Regexloom$Table" "width" "I") (List.mem_of_getElem? (i := 2) rfl)) (fun _ h9 => h9) rfl dX9_get_18 ?_
  refine lv_icmp_lt (tgt := 26) hx hb dX9_get_21 (by decide) (fun _ => ?_) (fun c9 => absurd (by decide) c9)
  refine lv_aload_n hx hb dX9_get_26 rfl (lv_at hl 0 rfl) ?_
  refine va_get (D := g.1) (ci := 10) (v := .ref h1) (C := RX9) (T := TX9) (N := 4) hx hb hts in9_X9_get_2_RX9 hown hK hP 0 rfl rfl 2 (by decide) (hts (.fieldLink RX9 24 "Regexloom$Table" "cells" "[I") (List.mem_of_getElem? (i := 3) rfl)) (fun _ h9 => h9) rfl dX9_get_27 ?_
  refine lv_iload_n hx hb dX9_get_30 rfl (lv_at hl 1 rfl) ?_
  refine lv_aload_n hx hb dX9_get_31 rfl (lv_at hl 0 rfl) ?_
  refine va_get (D := g.1) (ci := 10) (v := .int 2) (C := RX9) (T := TX9) (N := 4) hx hb hts in9_X9_get_2_RX9 hown hK hP 0 rfl rfl 0 (by decide) (hts (.fieldLink RX9 9 "Regexloom$Table" "width" "I") (List.mem_of_getElem? (i := 2) rfl)) (fun _ h9 => h9) rfl dX9_get_32 ?_
  refine lv_imul hx hb dX9_get_35 ?_
  refine e_top (y := 0) (by decide) ?_
  refine lv_iload_n hx hb dX9_get_36 rfl (lv_at hl 2 rfl) ?_
  refine lv_iadd hx hb dX9_get_37 ?_
  refine e_top (y := 1) (by decide) ?_
  refine va_iald hx hb hK hP 1 0 rfl rfl (vp_in_nI (n := 1) (by decide) (by decide)) dX9_get_38 ?_
  refine e_topv (y := .int (f0 1)) (by rfl) ?_
  have hP9 := hP.sub (ws' := [(h0, .inr (10, [.int 2, .int 33, .ref h1, .int 1])), (h1, .inl (g.2.1 0, 64, .inl f0))]) [0, 1] rfl
  have hD9 := hD.sub (ws' := [(h0, .inr (10, [.int 2, .int 33, .ref h1, .int 1])), (h1, .inl (g.2.1 0, 64, .inl f0))]) [0, 1] (by decide) rfl
  subst hAe
  exact W.iret (v := (f0 1)) hx hb hr (fun t ht hW => ⟨⟨(f0 1), (), rfl, rfl, by rw [ht]; exact hP9, hD9⟩, hS.F ht⟩) hS.2.2 dX9_get_39
def w9_X3_nextBranch_1 : List Cond := [.code yX3_nextBranch cX3_nextBranch 2 (some .int), .fieldLink RX3 20 "Regexloom$Pattern" "branches" "LRegexloom$Table;", .methodLink RX3 54 yX9_get, .instanceMethod yX9_get, .selects RX9 yX9_get yX9_get, .initialized RX9, .code yX9_get cX9_get 3 (some .int), .fieldLink RX9 28 "Regexloom$Table" "size" "I", .fieldLink RX9 9 "Regexloom$Table" "width" "I", .fieldLink RX9 24 "Regexloom$Table" "cells" "[I"] ++ (u_ws RX3 TX3 8 ++ u_ws RX9 TX9 4)
set_option maxRecDepth 20000 in
theorem in9_X3_nextBranch_1_RX3 : ∀ w ∈ u_ws RX3 TX3 8, w ∈ w9_X3_nextBranch_1 := by decide +kernel
set_option maxRecDepth 20000 in
theorem in9_X3_nextBranch_1_RX9 : ∀ w ∈ u_ws RX9 TX9 4, w ∈ w9_X3_nextBranch_1 := by decide +kernel
set_option maxRecDepth 20000 in
theorem g9_X3_nextBranch_1_0 : GoodIn w9_X3_nextBranch_1 (wsV RX3 54 RX9 yX9_get w9_X9_get_2) := goodIn_r _ [2, 3, 4, 5, 6, 7, 8, 9, 18, 19, 20, 21] (by decide +kernel) (by decide +kernel)
set_option maxHeartbeats 4000000 in
set_option maxRecDepth 100000 in
theorem c9_X3_nextBranch_1 (l : Launch) (g : G9) (h0 h1 h2 h3 h4 sz : Nat) (f0 : Nat → Int32) : Met l yX3_nextBranch w9_X3_nextBranch_1 ({ frames := 1, cells := 0, slots := 0, locals := 22 }) (mP g [(h0, .inr (6, [.ref h1, .ref h2, .ref h3, .int 0, .int 0, .int 1, .int 0, .int 0])), (h2, .inr (10, [.int 2, .int 33, .ref h4, .int 1])), (h4, .inl (g.2.1 0, 64, .inl f0))] sz [.ref h0, .int 0]) (va_Qi (fun (r : Int32) (_ : Unit) => r = (f0 1)) (fun (_ : Unit) (t : State) => mB g [(h0, .inr (6, [.ref h1, .ref h2, .ref h3, .int 0, .int 0, .int 1, .int 0, .int 0])), (h2, .inr (10, [.int 2, .int 33, .ref h4, .int 1])), (h4, .inl (g.2.1 0, 64, .inl f0))] sz [(h0, .inr (6, [.ref h1, .ref h2, .ref h3, .int 0, .int 0, .int 1, .int 0, .int 0])), (h2, .inr (10, [.int 2, .int 33, .ref h4, .int 1])), (h4, .inl (g.2.1 0, 64, .inl f0))] t) (va_A [(h0, .inr (6, [.ref h1, .ref h2, .ref h3, .int 0, .int 0, .int 1, .int 0, .int 0])), (h2, .inr (10, [.int 2, .int 33, .ref h4, .int 1])), (h4, .inl (g.2.1 0, 64, .inl f0))] sz)) 0 0 (va_A [(h0, .inr (6, [.ref h1, .ref h2, .ref h3, .int 0, .int 0, .int 1, .int 0, .int 0])), (h2, .inr (10, [.int 2, .int 33, .ref h4, .int 1])), (h4, .inl (g.2.1 0, 64, .inl f0))] sz) := by
  refine Met.ofW (cc := cX3_nextBranch) (maxL := 2) (ret := (some .int)) (by decide) rfl ?_
  intro p e s m args below meth c s₁ B hml hv
  obtain ⟨rfl, hsz, hP, hD0, hE⟩ := hv
  have hx := B.exec
  have hb := B.bytes
  have hr := B.returns
  have hts := atoms_spec (ws := w9_X3_nextBranch_1) B.pre
  have hown : s.vm.findClass RX3 = some m.cls := findClass_of_methodNamed B.named
  have hlocks := B.notSynchronized
  subst hsz
  have hD := hD0.self (sz := s.heap.size)
  generalize hAe : va_A [(h0, .inr (6, [.ref h1, .ref h2, .ref h3, .int 0, .int 0, .int 1, .int 0, .int 0])), (h2, .inr (10, [.int 2, .int 33, .ref h4, .int 1])), (h4, .inl (g.2.1 0, 64, .inl f0))] s.heap.size = A at hD hE ⊢
  have hA : ∀ q : Nat, s.heap.size ≤ q → A q := fun q h => by rw [← hAe]; exact Or.inr h
  have hK := hE.1
  have hS : va_S A s.heap s.heap [] := va_S.rf
  replace hP : va_P g.1 vwCl [(h0, .inr (6, [.ref h1, .ref h2, .ref h3, .int 0, .int 0, .int 1, .int 0, .int 0])), (h2, .inr (10, [.int 2, .int 33, .ref h4, .int 1])), (h4, .inl (g.2.1 0, 64, .inl f0))] s.heap := hP
  have hl := lv_entry ([.ref h0, .int 0]) (n := 2) (Nat.le_of_ble_eq_true rfl)
  rw [lg_entry_eq]
  generalize (lg_sl ([.ref h0, .int 0]) ++ List.replicate (2 - (lg_sl ([.ref h0, .int 0])).length) Slot.unset).toArray = ls at hl ⊢
  replace hl : lv_has ls 2 [(0, .ref h0), (1, .int 0)] := hl
  have hH0 : s.heap.size ≤ s.heap.size := Nat.le_refl _
  refine lv_aload_n hx hb dX3_nextBranch_0 rfl (lv_at hl 0 rfl) ?_
  refine va_get (D := g.1) (ci := 6) (v := .ref h2) (C := RX3) (T := TX3) (N := 8) hx hb hts in9_X3_nextBranch_1_RX3 hown hK hP 0 rfl rfl 1 (by decide) (hts (.fieldLink RX3 20 "Regexloom$Pattern" "branches" "LRegexloom$Table;") (List.mem_of_getElem? (i := 1) rfl)) (fun _ h9 => h9) rfl dX3_nextBranch_1 ?_
  refine lv_iload_n hx hb dX3_nextBranch_4 rfl (lv_at hl 1 rfl) ?_
  refine lv_iconst (v := 1) hx hb dX3_nextBranch_5 (by decide) ?_
  have hPc := hP.sub (ws' := [(h2, .inr (10, [.int 2, .int 33, .ref h4, .int 1])), (h4, .inl (g.2.1 0, 64, .inl f0))]) [1, 2] rfl
  have hDc := hD.sub (ws' := [(h2, .inr (10, [.int 2, .int 33, .ref h4, .int 1])), (h4, .inl (g.2.1 0, 64, .inl f0))]) [1, 2] (by decide) rfl
  have hFc := va_free (wc := [(h2, .inr (10, [.int 2, .int 33, .ref h4, .int 1])), (h4, .inl (g.2.1 0, 64, .inl f0))]) hD hS hA [1, 2] rfl
  refine va_calli (va_runV (As := [.int 0, .int 1]) (rest := []) ⟨hx, hb, hml, hown, hts⟩ (c9_X9_get_2 l g h2 h4 _ f0) (cwV 2 hts g9_X3_nextBranch_1_0 rfl rfl rfl (by decide +kernel) ⟨Nat.le_of_ble_eq_true rfl, Nat.le_of_ble_eq_true rfl⟩) (mPreV (g := g) (wc := [(h2, .inr (10, [.int 2, .int 33, .ref h4, .int 1])), (h4, .inl (g.2.1 0, 64, .inl f0))]) (C := RX9) (ci := 10) (q0 := 0) hE hS hPc hDc hFc rfl rfl) rfl rfl hl.1 rfl (lv_room (Nat.le_of_ble_eq_true rfl)) dX3_nextBranch_6 ⟨Nat.le_of_ble_eq_true rfl, Nat.le_of_ble_eq_true rfl⟩) hS (fun q _ h => hFc q h) hFc (fun r_1 u t H1 locs ht hvm hw hB hz1 hk1 hS => ?_)
  replace hw : (f0 1) = r_1 := Eq.symm hw
  subst hw
  obtain ⟨hP1, hD1⟩ := hB
  rw [ht] at hP1
  obtain ⟨hP, hD⟩ := va_join (wr := [(h0, .inr (6, [.ref h1, .ref h2, .ref h3, .int 0, .int 0, .int 1, .int 0, .int 0]))]) (w1 := [(h2, .inr (10, [.int 2, .int 33, .ref h4, .int 1])), (h4, .inl (g.2.1 0, 64, .inl f0))]) hP hD [1, 2] [0] rfl rfl (by decide) (by decide) hk1 hFc hP1 hD1
  clear hP1 hD1 hPc hDc hFc hk1 hz1 hvm ht
  generalize H1 = H at hP hS ⊢
  have hP : va_P g.1 vwCl [(h0, .inr (6, [.ref h1, .ref h2, .ref h3, .int 0, .int 0, .int 1, .int 0, .int 0])), (h2, .inr (10, [.int 2, .int 33, .ref h4, .int 1])), (h4, .inl (g.2.1 0, 64, .inl f0))] H := hP
  have hD : va_D A [(h0, .inr (6, [.ref h1, .ref h2, .ref h3, .int 0, .int 0, .int 1, .int 0, .int 0])), (h2, .inr (10, [.int 2, .int 33, .ref h4, .int 1])), (h4, .inl (g.2.1 0, 64, .inl f0))] := hD
  refine e_top (y := (f0 1)) (by rfl) ?_
  have hP9 := hP.sub (ws' := [(h0, .inr (6, [.ref h1, .ref h2, .ref h3, .int 0, .int 0, .int 1, .int 0, .int 0])), (h2, .inr (10, [.int 2, .int 33, .ref h4, .int 1])), (h4, .inl (g.2.1 0, 64, .inl f0))]) [0, 1, 2] rfl
  have hD9 := hD.sub (ws' := [(h0, .inr (6, [.ref h1, .ref h2, .ref h3, .int 0, .int 0, .int 1, .int 0, .int 0])), (h2, .inr (10, [.int 2, .int 33, .ref h4, .int 1])), (h4, .inl (g.2.1 0, 64, .inl f0))]) [0, 1, 2] (by decide) rfl
  subst hAe
  exact W.iret (v := (f0 1)) hx hb hr (fun t ht hW => ⟨⟨(f0 1), (), rfl, rfl, by rw [ht]; exact hP9, hD9⟩, hS.F ht⟩) hS.2.2 dX3_nextBranch_9
def w9_X7_weightOfBody_2 : List Cond := [.code yX7_weightOfBody cX7_weightOfBody 9 (some .int), .methodLink RX7 68 yX3_firstPiece, .instanceMethod yX3_firstPiece, .selects RX3 yX3_firstPiece yX3_firstPiece, .initialized RX3, .code yX3_firstPiece cX3_firstPiece 2 (some .int), .fieldLink RX3 20 "Regexloom$Pattern" "branches" "LRegexloom$Table;", .methodLink RX3 54 yX9_get, .instanceMethod yX9_get, .selects RX9 yX9_get yX9_get, .initialized RX9, .code yX9_get cX9_get 3 (some .int), .fieldLink RX9 28 "Regexloom$Table" "size" "I", .fieldLink RX9 9 "Regexloom$Table" "width" "I", .fieldLink RX9 24 "Regexloom$Table" "cells" "[I", .methodLink RX7 64 yX3_nextBranch, .instanceMethod yX3_nextBranch, .selects RX3 yX3_nextBranch yX3_nextBranch, .code yX3_nextBranch cX3_nextBranch 2 (some .int)] ++ (u_ws RX3 TX3 8 ++ u_ws RX9 TX9 4)
set_option maxRecDepth 20000 in
theorem in9_X7_weightOfBody_2_RX3 : ∀ w ∈ u_ws RX3 TX3 8, w ∈ w9_X7_weightOfBody_2 := by decide +kernel
set_option maxRecDepth 20000 in
theorem in9_X7_weightOfBody_2_RX9 : ∀ w ∈ u_ws RX9 TX9 4, w ∈ w9_X7_weightOfBody_2 := by decide +kernel
set_option maxRecDepth 20000 in
theorem g9_X7_weightOfBody_2_0 : GoodIn w9_X7_weightOfBody_2 (wsV RX7 68 RX3 yX3_firstPiece w9_X3_firstPiece_1) := goodIn_r _ [1, 2, 3, 4, 5, 6, 7, 8, 9, 10, 11, 12, 13, 14, 19, 20, 21, 22, 23, 24, 25, 26, 27, 28, 29, 30] (by decide +kernel) (by decide +kernel)
set_option maxRecDepth 20000 in
theorem g9_X7_weightOfBody_2_1 : GoodIn w9_X7_weightOfBody_2 (wsV RX7 64 RX3 yX3_nextBranch w9_X3_nextBranch_1) := goodIn_r _ [15, 16, 17, 4, 18, 6, 7, 8, 9, 10, 11, 12, 13, 14, 19, 20, 21, 22, 23, 24, 25, 26, 27, 28, 29, 30] (by decide +kernel) (by decide +kernel)
set_option maxHeartbeats 4000000 in
set_option maxRecDepth 100000 in
theorem c9_X7_weightOfBody_2 (l : Launch) (g : G9) (h0 h1 h2 h3 h4 sz : Nat) : Met l yX7_weightOfBody w9_X7_weightOfBody_2 ({ frames := 2, cells := 0, slots := 0, locals := 43 }) (mP g [(h0, .inr (6, [.ref h1, .ref h2, .ref h3, .int 0, .int 0, .int 1, .int 0, .int 0])), (h2, .inr (10, [.int 2, .int 33, .ref h4, .int 1])), (h4, .inl (g.2.1 0, 64, .inl (upd (upd (fun _ => 0) 0 (-1)) 1 (-1))))] sz [.ref h0, .int 0, .int 0]) (va_Qi (fun (r : Int32) (_ : Unit) => r = 0) (fun (_ : Unit) (t : State) => mB g [(h0, .inr (6, [.ref h1, .ref h2, .ref h3, .int 0, .int 0, .int 1, .int 0, .int 0])), (h2, .inr (10, [.int 2, .int 33, .ref h4, .int 1])), (h4, .inl (g.2.1 0, 64, .inl (upd (upd (fun _ => 0) 0 (-1)) 1 (-1))))] sz [(h0, .inr (6, [.ref h1, .ref h2, .ref h3, .int 0, .int 0, .int 1, .int 0, .int 0])), (h2, .inr (10, [.int 2, .int 33, .ref h4, .int 1])), (h4, .inl (g.2.1 0, 64, .inl (upd (upd (fun _ => 0) 0 (-1)) 1 (-1))))] t) (va_A [(h0, .inr (6, [.ref h1, .ref h2, .ref h3, .int 0, .int 0, .int 1, .int 0, .int 0])), (h2, .inr (10, [.int 2, .int 33, .ref h4, .int 1])), (h4, .inl (g.2.1 0, 64, .inl (upd (upd (fun _ => 0) 0 (-1)) 1 (-1))))] sz)) 0 0 (va_A [(h0, .inr (6, [.ref h1, .ref h2, .ref h3, .int 0, .int 0, .int 1, .int 0, .int 0])), (h2, .inr (10, [.int 2, .int 33, .ref h4, .int 1])), (h4, .inl (g.2.1 0, 64, .inl (upd (upd (fun _ => 0) 0 (-1)) 1 (-1))))] sz) := by
  refine Met.ofW (cc := cX7_weightOfBody) (maxL := 9) (ret := (some .int)) (by decide) rfl ?_
  intro p e s m args below meth c s₁ B hml hv
  obtain ⟨rfl, hsz, hP, hD0, hE⟩ := hv
  have hx := B.exec
  have hb := B.bytes
  have hr := B.returns
  have hts := atoms_spec (ws := w9_X7_weightOfBody_2) B.pre
  have hown : s.vm.findClass RX7 = some m.cls := findClass_of_methodNamed B.named
  have hlocks := B.notSynchronized
  subst hsz
  have hD := hD0.self (sz := s.heap.size)
  generalize hAe : va_A [(h0, .inr (6, [.ref h1, .ref h2, .ref h3, .int 0, .int 0, .int 1, .int 0, .int 0])), (h2, .inr (10, [.int 2, .int 33, .ref h4, .int 1])), (h4, .inl (g.2.1 0, 64, .inl (upd (upd (fun _ => 0) 0 (-1)) 1 (-1))))] s.heap.size = A at hD hE ⊢
  have hA : ∀ q : Nat, s.heap.size ≤ q → A q := fun q h => by rw [← hAe]; exact Or.inr h
  have hK := hE.1
  have hS : va_S A s.heap s.heap [] := va_S.rf
  replace hP : va_P g.1 vwCl [(h0, .inr (6, [.ref h1, .ref h2, .ref h3, .int 0, .int 0, .int 1, .int 0, .int 0])), (h2, .inr (10, [.int 2, .int 33, .ref h4, .int 1])), (h4, .inl (g.2.1 0, 64, .inl (upd (upd (fun _ => 0) 0 (-1)) 1 (-1))))] s.heap := hP
  have hl := lv_entry ([.ref h0, .int 0, .int 0]) (n := 9) (Nat.le_of_ble_eq_true rfl)
  rw [lg_entry_eq]
  generalize (lg_sl ([.ref h0, .int 0, .int 0]) ++ List.replicate (9 - (lg_sl ([.ref h0, .int 0, .int 0])).length) Slot.unset).toArray = ls at hl ⊢
  replace hl : lv_has ls 9 [(0, .ref h0), (1, .int 0), (2, .int 0)] := hl
  have hH0 : s.heap.size ≤ s.heap.size := Nat.le_refl _
  refine lv_iload_n hx hb dX7_weightOfBody_0 rfl (lv_at hl 2 rfl) ?_
  refine lv_bipush (v := 40) hx hb dX7_weightOfBody_1 (by decide) ?_
  refine lv_icmp_le (tgt := 8) hx hb dX7_weightOfBody_3 (by decide) (fun _ => ?_) (fun c9 => absurd (by decide) c9)
  refine lv_iconst (v := 0) hx hb dX7_weightOfBody_8 (by decide) ?_
  refine lv_istore_n (lv' := [(3, .int 0), (0, .ref h0), (1, .int 0), (2, .int 0)]) hx hb dX7_weightOfBody_9 rfl hl (by decide) rfl (fun ls hl => ?_)
  refine lv_iload_n hx hb dX7_weightOfBody_10 rfl (lv_at hl 2 rfl) ?_
  refine lv_istore (lv' := [(4, .int 0), (3, .int 0), (0, .ref h0), (1, .int 0), (2, .int 0)]) hx hb dX7_weightOfBody_11 hl (by decide) rfl (fun ls hl => ?_)
  refine lv_iconst (v := 0) hx hb dX7_weightOfBody_13 (by decide) ?_
  refine lv_istore (lv' := [(5, .int 0), (4, .int 0), (3, .int 0), (0, .ref h0), (1, .int 0), (2, .int 0)]) hx hb dX7_weightOfBody_14 hl (by decide) rfl (fun ls hl => ?_)
  refine lv_iload hx hb dX7_weightOfBody_16 (lv_at hl 0 rfl) ?_
  refine lv_bipush (v := 32) hx hb dX7_weightOfBody_18 (by decide) ?_
  refine lv_icmp_gt (tgt := 124) hx hb dX7_weightOfBody_20 (by decide) (fun c9 => absurd c9 (by decide)) (fun _ => ?_)
  refine lv_iload hx hb dX7_weightOfBody_23 (lv_at hl 1 rfl) ?_
  refine lv_iconst (v := (-1)) hx hb dX7_weightOfBody_25 (by decide) ?_
  refine lv_icmp_eq (tgt := 124) hx hb dX7_weightOfBody_26 (by decide) (fun c9 => absurd c9 (by decide)) (fun _ => ?_)
  refine lv_aload_n hx hb dX7_weightOfBody_29 rfl (lv_at hl 3 rfl) ?_
  refine lv_iload hx hb dX7_weightOfBody_30 (lv_at hl 1 rfl) ?_
  have hPc := hP.sub (ws' := [(h0, .inr (6, [.ref h1, .ref h2, .ref h3, .int 0, .int 0, .int 1, .int 0, .int 0])), (h2, .inr (10, [.int 2, .int 33, .ref h4, .int 1])), (h4, .inl (g.2.1 0, 64, .inl (upd (upd (fun _ => 0) 0 (-1)) 1 (-1))))]) [0, 1, 2] rfl
  have hDc := hD.sub (ws' := [(h0, .inr (6, [.ref h1, .ref h2, .ref h3, .int 0, .int 0, .int 1, .int 0, .int 0])), (h2, .inr (10, [.int 2, .int 33, .ref h4, .int 1])), (h4, .inl (g.2.1 0, 64, .inl (upd (upd (fun _ => 0) 0 (-1)) 1 (-1))))]) [0, 1, 2] (by decide) rfl
  have hFc := va_free (wc := [(h0, .inr (6, [.ref h1, .ref h2, .ref h3, .int 0, .int 0, .int 1, .int 0, .int 0])), (h2, .inr (10, [.int 2, .int 33, .ref h4, .int 1])), (h4, .inl (g.2.1 0, 64, .inl (upd (upd (fun _ => 0) 0 (-1)) 1 (-1))))]) hD hS hA [0, 1, 2] rfl
  refine va_calli (va_runV (As := [.int 0]) (rest := []) ⟨hx, hb, hml, hown, hts⟩ (c9_X3_firstPiece_1 l g h0 h1 h2 h3 h4 _ (upd (upd (fun _ => 0) 0 (-1)) 1 (-1))) (cwV 1 hts g9_X7_weightOfBody_2_0 rfl rfl rfl (by decide +kernel) ⟨Nat.le_of_ble_eq_true rfl, Nat.le_of_ble_eq_true rfl⟩) (mPreV (g := g) (wc := [(h0, .inr (6, [.ref h1, .ref h2, .ref h3, .int 0, .int 0, .int 1, .int 0, .int 0])), (h2, .inr (10, [.int 2, .int 33, .ref h4, .int 1])), (h4, .inl (g.2.1 0, 64, .inl (upd (upd (fun _ => 0) 0 (-1)) 1 (-1))))]) (C := RX3) (ci := 6) (q0 := 0) hE hS hPc hDc hFc rfl rfl) rfl rfl hl.1 rfl (lv_room (Nat.le_of_ble_eq_true rfl)) dX7_weightOfBody_32 ⟨Nat.le_of_ble_eq_true rfl, Nat.le_of_ble_eq_true rfl⟩) hS (fun q _ h => hFc q h) hFc (fun r_1 u t H1 locs ht hvm hw hB hz1 hk1 hS => ?_)
  replace hw : ((upd (upd (fun _ => 0) 0 (-1)) 1 (-1)) 0) = r_1 := Eq.symm hw
  subst hw
  obtain ⟨hP1, hD1⟩ := hB
  rw [ht] at hP1
  obtain ⟨hP, hD⟩ := va_join (wr := []) (w1 := [(h0, .inr (6, [.ref h1, .ref h2, .ref h3, .int 0, .int 0, .int 1, .int 0, .int 0])), (h2, .inr (10, [.int 2, .int 33, .ref h4, .int 1])), (h4, .inl (g.2.1 0, 64, .inl (upd (upd (fun _ => 0) 0 (-1)) 1 (-1))))]) hP hD [0, 1, 2] [] rfl rfl (by decide) (by decide) hk1 hFc hP1 hD1
  clear hP1 hD1 hPc hDc hFc hk1 hz1 hvm ht
  generalize H1 = H at hP hS ⊢
  have hP : va_P g.1 vwCl [(h0, .inr (6, [.ref h1, .ref h2, .ref h3, .int 0, .int 0, .int 1, .int 0, .int 0])), (h2, .inr (10, [.int 2, .int 33, .ref h4, .int 1])), (h4, .inl (g.2.1 0, 64, .inl (upd (upd (fun _ => 0) 0 (-1)) 1 (-1))))] H := hP
  have hD : va_D A [(h0, .inr (6, [.ref h1, .ref h2, .ref h3, .int 0, .int 0, .int 1, .int 0, .int 0])), (h2, .inr (10, [.int 2, .int 33, .ref h4, .int 1])), (h4, .inl (g.2.1 0, 64, .inl (upd (upd (fun _ => 0) 0 (-1)) 1 (-1))))] := hD
  refine e_top (y := (-1)) (by rfl) ?_
  refine lv_istore (lv' := [(6, .int (-1)), (5, .int 0), (4, .int 0), (3, .int 0), (0, .ref h0), (1, .int 0), (2, .int 0)]) hx hb dX7_weightOfBody_35 hl (by decide) rfl (fun ls hl => ?_)
  refine lv_iconst (v := 0) hx hb dX7_weightOfBody_37 (by decide) ?_
  refine lv_istore (lv' := [(7, .int 0), (6, .int (-1)), (5, .int 0), (4, .int 0), (3, .int 0), (0, .ref h0), (1, .int 0), (2, .int 0)]) hx hb dX7_weightOfBody_38 hl (by decide) rfl (fun ls hl => ?_)
  refine lv_iload hx hb dX7_weightOfBody_40 (lv_at hl 0 rfl) ?_
  refine lv_bipush (v := 32) hx hb dX7_weightOfBody_42 (by decide) ?_
  refine lv_icmp_gt (tgt := 110) hx hb dX7_weightOfBody_44 (by decide) (fun c9 => absurd c9 (by decide)) (fun _ => ?_)
  refine lv_iload hx hb dX7_weightOfBody_47 (lv_at hl 1 rfl) ?_
  refine lv_iconst (v := (-1)) hx hb dX7_weightOfBody_49 (by decide) ?_
  refine lv_icmp_eq (tgt := 110) hx hb dX7_weightOfBody_50 (by decide) (fun _ => ?_) (fun c9 => absurd (by decide) c9)
  refine lv_aload_n hx hb dX7_weightOfBody_110 rfl (lv_at hl 5 rfl) ?_
  refine lv_iload hx hb dX7_weightOfBody_111 (lv_at hl 3 rfl) ?_
  have hPc := hP.sub (ws' := [(h0, .inr (6, [.ref h1, .ref h2, .ref h3, .int 0, .int 0, .int 1, .int 0, .int 0])), (h2, .inr (10, [.int 2, .int 33, .ref h4, .int 1])), (h4, .inl (g.2.1 0, 64, .inl (upd (upd (fun _ => 0) 0 (-1)) 1 (-1))))]) [0, 1, 2] rfl
  have hDc := hD.sub (ws' := [(h0, .inr (6, [.ref h1, .ref h2, .ref h3, .int 0, .int 0, .int 1, .int 0, .int 0])), (h2, .inr (10, [.int 2, .int 33, .ref h4, .int 1])), (h4, .inl (g.2.1 0, 64, .inl (upd (upd (fun _ => 0) 0 (-1)) 1 (-1))))]) [0, 1, 2] (by decide) rfl
  have hFc := va_free (wc := [(h0, .inr (6, [.ref h1, .ref h2, .ref h3, .int 0, .int 0, .int 1, .int 0, .int 0])), (h2, .inr (10, [.int 2, .int 33, .ref h4, .int 1])), (h4, .inl (g.2.1 0, 64, .inl (upd (upd (fun _ => 0) 0 (-1)) 1 (-1))))]) hD hS hA [0, 1, 2] rfl
  refine va_calli (va_runV (As := [.int 0]) (rest := []) ⟨hx, hb, hml, hown, hts⟩ (c9_X3_nextBranch_1 l g h0 h1 h2 h3 h4 _ (upd (upd (fun _ => 0) 0 (-1)) 1 (-1))) (cwV 1 hts g9_X7_weightOfBody_2_1 rfl rfl rfl (by decide +kernel) ⟨Nat.le_of_ble_eq_true rfl, Nat.le_of_ble_eq_true rfl⟩) (mPreV (g := g) (wc := [(h0, .inr (6, [.ref h1, .ref h2, .ref h3, .int 0, .int 0, .int 1, .int 0, .int 0])), (h2, .inr (10, [.int 2, .int 33, .ref h4, .int 1])), (h4, .inl (g.2.1 0, 64, .inl (upd (upd (fun _ => 0) 0 (-1)) 1 (-1))))]) (C := RX3) (ci := 6) (q0 := 0) hE hS hPc hDc hFc rfl rfl) rfl rfl hl.1 rfl (lv_room (Nat.le_of_ble_eq_true rfl)) dX7_weightOfBody_113 ⟨Nat.le_of_ble_eq_true rfl, Nat.le_of_ble_eq_true rfl⟩) hS (fun q _ h => hFc q h) hFc (fun r_2 u t H1 locs ht hvm hw hB hz1 hk1 hS => ?_)
  replace hw : ((upd (upd (fun _ => 0) 0 (-1)) 1 (-1)) 1) = r_2 := Eq.symm hw
  subst hw
  obtain ⟨hP1, hD1⟩ := hB
  rw [ht] at hP1
  obtain ⟨hP, hD⟩ := va_join (wr := []) (w1 := [(h0, .inr (6, [.ref h1, .ref h2, .ref h3, .int 0, .int 0, .int 1, .int 0, .int 0])), (h2, .inr (10, [.int 2, .int 33, .ref h4, .int 1])), (h4, .inl (g.2.1 0, 64, .inl (upd (upd (fun _ => 0) 0 (-1)) 1 (-1))))]) hP hD [0, 1, 2] [] rfl rfl (by decide) (by decide) hk1 hFc hP1 hD1
  clear hP1 hD1 hPc hDc hFc hk1 hz1 hvm ht
  generalize H1 = H at hP hS ⊢
  have hP : va_P g.1 vwCl [(h0, .inr (6, [.ref h1, .ref h2, .ref h3, .int 0, .int 0, .int 1, .int 0, .int 0])), (h2, .inr (10, [.int 2, .int 33, .ref h4, .int 1])), (h4, .inl (g.2.1 0, 64, .inl (upd (upd (fun _ => 0) 0 (-1)) 1 (-1))))] H := hP
  have hD : va_D A [(h0, .inr (6, [.ref h1, .ref h2, .ref h3, .int 0, .int 0, .int 1, .int 0, .int 0])), (h2, .inr (10, [.int 2, .int 33, .ref h4, .int 1])), (h4, .inl (g.2.1 0, 64, .inl (upd (upd (fun _ => 0) 0 (-1)) 1 (-1))))] := hD
  refine e_top (y := (-1)) (by rfl) ?_
  refine lv_istore (lv' := [(4, .int (-1)), (7, .int 0), (6, .int (-1)), (5, .int 0), (3, .int 0), (0, .ref h0), (1, .int 0), (2, .int 0)]) hx hb dX7_weightOfBody_116 hl (by decide) rfl (fun ls hl => ?_)
  refine lv_iinc (v := 1) (lv' := [(5, .int 1), (4, .int (-1)), (7, .int 0), (6, .int (-1)), (3, .int 0), (0, .ref h0), (1, .int 0), (2, .int 0)]) hx hb dX7_weightOfBody_118 hl (k := 3) rfl (by decide) (by decide) rfl (fun ls hl => ?_)
  refine lv_goto (tgt := 16) hx hb dX7_weightOfBody_121 (by decide) ?_
  refine lv_iload hx hb dX7_weightOfBody_16 (lv_at hl 0 rfl) ?_
  refine lv_bipush (v := 32) hx hb dX7_weightOfBody_18 (by decide) ?_
  refine lv_icmp_gt (tgt := 124) hx hb dX7_weightOfBody_20 (by decide) (fun c9 => absurd c9 (by decide)) (fun _ => ?_)
  refine lv_iload hx hb dX7_weightOfBody_23 (lv_at hl 1 rfl) ?_
  refine lv_iconst (v := (-1)) hx hb dX7_weightOfBody_25 (by decide) ?_
  refine lv_icmp_eq (tgt := 124) hx hb dX7_weightOfBody_26 (by decide) (fun _ => ?_) (fun c9 => absurd (by decide) c9)
  refine lv_iload_n hx hb dX7_weightOfBody_124 rfl (lv_at hl 4 rfl) ?_
  have hP9 := hP.sub (ws' := [(h0, .inr (6, [.ref h1, .ref h2, .ref h3, .int 0, .int 0, .int 1, .int 0, .int 0])), (h2, .inr (10, [.int 2, .int 33, .ref h4, .int 1])), (h4, .inl (g.2.1 0, 64, .inl (upd (upd (fun _ => 0) 0 (-1)) 1 (-1))))]) [0, 1, 2] rfl
  have hD9 := hD.sub (ws' := [(h0, .inr (6, [.ref h1, .ref h2, .ref h3, .int 0, .int 0, .int 1, .int 0, .int 0])), (h2, .inr (10, [.int 2, .int 33, .ref h4, .int 1])), (h4, .inl (g.2.1 0, 64, .inl (upd (upd (fun _ => 0) 0 (-1)) 1 (-1))))]) [0, 1, 2] (by decide) rfl
  subst hAe
  exact W.iret (v := 0) hx hb hr (fun t ht hW => ⟨⟨0, (), rfl, rfl, by rw [ht]; exact hP9, hD9⟩, hS.F ht⟩) hS.2.2 dX7_weightOfBody_125
def w9_X9_size_2 : List Cond := [.code yX9_size cX9_size 1 (some .int), .fieldLink RX9 28 "Regexloom$Table" "size" "I"] ++ (u_ws RX9 TX9 4)
set_option maxRecDepth 20000 in
theorem in9_X9_size_2_RX9 : ∀ w ∈ u_ws RX9 TX9 4, w ∈ w9_X9_size_2 := by decide +kernel
set_option maxHeartbeats 4000000 in
set_option maxRecDepth 100000 in
theorem c9_X9_size_2 (l : Launch) (g : G9) (h0 h1 sz : Nat) : Met l yX9_size w9_X9_size_2 ({ frames := 0, cells := 0, slots := 0, locals := 0 }) (mP g [(h0, .inr (10, [.int 10, .int 33, .ref h1, .int 0]))] sz [.ref h0]) (va_Qi (fun (r : Int32) (_ : Unit) => r = 0) (fun (_ : Unit) (t : State) => mB g [(h0, .inr (10, [.int 10, .int 33, .ref h1, .int 0]))] sz [(h0, .inr (10, [.int 10, .int 33, .ref h1, .int 0]))] t) (va_A [(h0, .inr (10, [.int 10, .int 33, .ref h1, .int 0]))] sz)) 0 0 (va_A [(h0, .inr (10, [.int 10, .int 33, .ref h1, .int 0]))] sz) := by
  refine Met.ofW (cc := cX9_size) (maxL := 1) (ret := (some .int)) (by decide) rfl ?_
  intro p e s m args below meth c s₁ B hml hv
  obtain ⟨rfl, hsz, hP, hD0, hE⟩ := hv
  have hx := B.exec
  have hb := B.bytes
  have hr := B.returns
  have hts := atoms_spec (ws := w9_X9_size_2) B.pre
  have hown : s.vm.findClass RX9 = some m.cls := findClass_of_methodNamed B.named
  have hlocks := B.notSynchronized
  subst hsz
  have hD := hD0.self (sz := s.heap.size)
  generalize hAe : va_A [(h0, .inr (10, [.int 10, .int 33, .ref h1, .int 0]))] s.heap.size = A at hD hE ⊢
  have hA : ∀ q : Nat, s.heap.size ≤ q → A q := fun q h => by rw [← hAe]; exact Or.inr h
  have hK := hE.1
  have hS : va_S A s.heap s.heap [] := va_S.rf
  replace hP : va_P g.1 vwCl [(h0, .inr (10, [.int 10, .int 33, .ref h1, .int 0]))] s.heap := hP
  have hl := lv_entry ([.ref h0]) (n := 1) (Nat.le_of_ble_eq_true rfl)
  rw [lg_entry_eq]
  generalize (lg_sl ([.ref h0]) ++ List.replicate (1 - (lg_sl ([.ref h0])).length) Slot.unset).toArray = ls at hl ⊢
  replace hl : lv_has ls 1 [(0, .ref h0)] := hl
  have hH0 : s.heap.size ≤ s.heap.size := Nat.le_refl _
  refine lv_aload_n hx hb dX9_size_0 rfl (lv_at hl 0 rfl) ?_
  refine va_get (D := g.1) (ci := 10) (v := .int 0) (C := RX9) (T := TX9) (N := 4) hx hb hts in9_X9_size_2_RX9 hown hK hP 0 rfl rfl 3 (by decide) (hts (.fieldLink RX9 28 "Regexloom$Table" "size" "I") (List.mem_of_getElem? (i := 1) rfl)) (fun _ h9 => h9) rfl dX9_size_1 ?_
  have hP9 := hP.sub (ws' := [(h0, .inr (10, [.int 10, .int 33, .ref h1, .int 0]))]) [0] rfl
  have hD9 := hD.sub (ws' := [(h0, .inr (10, [.int 10, .int 33, .ref h1, .int 0]))]) [0] (by decide) rfl
  subst hAe
  exact W.iret (v := 0) hx hb hr (fun t ht hW => ⟨⟨0, (), rfl, rfl, by rw [ht]; exact hP9, hD9⟩, hS.F ht⟩) hS.2.2 dX9_size_4
def w9_X7_measure_2 : List Cond := [.code yX7_measure cX7_measure 5 none, .fieldLink RX7 9 "Regexloom$Pattern" "root" "I", .methodLink RX7 15 yX7_weightOfBody, .static yX7_weightOfBody, .initialized RX7, .code yX7_weightOfBody cX7_weightOfBody 9 (some .int), .methodLink RX7 68 yX3_firstPiece, .instanceMethod yX3_firstPiece, .selects RX3 yX3_firstPiece yX3_firstPiece, .initialized RX3, .code yX3_firstPiece cX3_firstPiece 2 (some .int), .fieldLink RX3 20 "Regexloom$Pattern" "branches" "LRegexloom$Table;", .methodLink RX3 54 yX9_get, .instanceMethod yX9_get, .selects RX9 yX9_get yX9_get, .initialized RX9, .code yX9_get cX9_get 3 (some .int), .fieldLink RX9 28 "Regexloom$Table" "size" "I", .fieldLink RX9 9 "Regexloom$Table" "width" "I", .fieldLink RX9 24 "Regexloom$Table" "cells" "[I", .methodLink RX7 64 yX3_nextBranch, .instanceMethod yX3_nextBranch, .selects RX3 yX3_nextBranch yX3_nextBranch, .code yX3_nextBranch cX3_nextBranch 2 (some .int), .fieldLink RX7 21 "Regexloom$Pattern" "pieces" "LRegexloom$Table;", .methodLink RX7 25 yX9_size, .instanceMethod yX9_size, .selects RX9 yX9_size yX9_size, .code yX9_size cX9_size 1 (some .int), .fieldLink RX7 49 "Regexloom$Pattern" "isPlain" "Z", .fieldLink RX7 53 "Regexloom$Pattern" "isRegular" "Z"] ++ (u_ws RX3 TX3 8 ++ u_ws RX9 TX9 4)
set_option maxRecDepth 20000 in
theorem in9_X7_measure_2_RX3 : ∀ w ∈ u_ws RX3 TX3 8, w ∈ w9_X7_measure_2 := by decide +kernel
set_option maxRecDepth 20000 in
theorem in9_X7_measure_2_RX9 : ∀ w ∈ u_ws RX9 TX9 4, w ∈ w9_X7_measure_2 := by decide +kernel
set_option maxRecDepth 20000 in
theorem g9_X7_measure_2_0 : GoodIn w9_X7_measure_2 (va_wsS RX7 15 yX7_weightOfBody w9_X7_weightOfBody_2) := goodIn_r _ [2, 3, 4, 5, 6, 7, 8, 9, 10, 11, 12, 13, 14, 15, 16, 17, 18, 19, 20, 21, 22, 23, 31, 32, 33, 34, 35, 36, 37, 38, 39, 40, 41, 42] (by decide +kernel) (by decide +kernel)
set_option maxRecDepth 20000 in
theorem g9_X7_measure_2_1 : GoodIn w9_X7_measure_2 (wsV RX7 25 RX9 yX9_size w9_X9_size_2) := goodIn_r _ [25, 26, 27, 15, 28, 17, 39, 40, 41, 42] (by decide +kernel) (by decide +kernel)
set_option maxHeartbeats 4000000 in
set_option maxRecDepth 100000 in
theorem c9_X7_measure_2 (l : Launch) (g : G9) (h0 h1 h2 h3 h4 h5 sz : Nat) : Met l yX7_measure w9_X7_measure_2 ({ frames := 3, cells := 0, slots := 0, locals := 71 }) (mP g [(h0, .inr (6, [.ref h1, .ref h2, .ref h3, .int 0, .int 0, .int 1, .int 0, .int 0])), (h1, .inr (10, [.int 10, .int 33, .ref h4, .int 0])), (h2, .inr (10, [.int 2, .int 33, .ref h5, .int 1])), (h5, .inl (g.2.1 0, 64, .inl (upd (upd (fun _ => 0) 0 (-1)) 1 (-1))))] sz [.ref h0]) (va_Qv (fun _ : Unit => True) (fun (_ : Unit) (t : State) => mB g [(h0, .inr (6, [.ref h1, .ref h2, .ref h3, .int 0, .int 0, .int 1, .int 0, .int 0])), (h1, .inr (10, [.int 10, .int 33, .ref h4, .int 0])), (h2, .inr (10, [.int 2, .int 33, .ref h5, .int 1])), (h5, .inl (g.2.1 0, 64, .inl (upd (upd (fun _ => 0) 0 (-1)) 1 (-1))))] sz [(h0, .inr (6, [.ref h1, .ref h2, .ref h3, .int 0, .int 0, .int 1, .int 1, .int 1])), (h1, .inr (10, [.int 10, .int 33, .ref h4, .int 0])), (h2, .inr (10, [.int 2, .int 33, .ref h5, .int 1])), (h5, .inl (g.2.1 0, 64, .inl (upd (upd (fun _ => 0) 0 (-1)) 1 (-1))))] t) (va_A [(h0, .inr (6, [.ref h1, .ref h2, .ref h3, .int 0, .int 0, .int 1, .int 0, .int 0])), (h1, .inr (10, [.int 10, .int 33, .ref h4, .int 0])), (h2, .inr (10, [.int 2, .int 33, .ref h5, .int 1])), (h5, .inl (g.2.1 0, 64, .inl (upd (upd (fun _ => 0) 0 (-1)) 1 (-1))))] sz)) 0 0 (va_A [(h0, .inr (6, [.ref h1, .ref h2, .ref h3, .int 0, .int 0, .int 1, .int 0, .int 0])), (h1, .inr (10, [.int 10, .int 33, .ref h4, .int 0])), (h2, .inr (10, [.int 2, .int 33, .ref h5, .int 1])), (h5, .inl (g.2.1 0, 64, .inl (upd (upd (fun _ => 0) 0 (-1)) 1 (-1))))] sz) := by
  refine Met.ofW (cc := cX7_measure) (maxL := 5) (ret := none) (by decide) rfl ?_
  intro p e s m args below meth c s₁ B hml hv
  obtain ⟨rfl, hsz, hP, hD0, hE⟩ := hv
  have hx := B.exec
  have hb := B.bytes
  have hr := B.returns
  have hts := atoms_spec (ws := w9_X7_measure_2) B.pre
  have hown : s.vm.findClass RX7 = some m.cls := findClass_of_methodNamed B.named
  have hlocks := B.notSynchronized
  subst hsz
  have hD := hD0.self (sz := s.heap.size)
  generalize hAe : va_A [(h0, .inr (6, [.ref h1, .ref h2, .ref h3, .int 0, .int 0, .int 1, .int 0, .int 0])), (h1, .inr (10, [.int 10, .int 33, .ref h4, .int 0])), (h2, .inr (10, [.int 2, .int 33, .ref h5, .int 1])), (h5, .inl (g.2.1 0, 64, .inl (upd (upd (fun _ => 0) 0 (-1)) 1 (-1))))] s.heap.size = A at hD hE ⊢
  have hA : ∀ q : Nat, s.heap.size ≤ q → A q := fun q h => by rw [← hAe]; exact Or.inr h
  have hK := hE.1
  have hS : va_S A s.heap s.heap [] := va_S.rf
  replace hP : va_P g.1 vwCl [(h0, .inr (6, [.ref h1, .ref h2, .ref h3, .int 0, .int 0, .int 1, .int 0, .int 0])), (h1, .inr (10, [.int 10, .int 33, .ref h4, .int 0])), (h2, .inr (10, [.int 2, .int 33, .ref h5, .int 1])), (h5, .inl (g.2.1 0, 64, .inl (upd (upd (fun _ => 0) 0 (-1)) 1 (-1))))] s.heap := hP
  have hl := lv_entry ([.ref h0]) (n := 5) (Nat.le_of_ble_eq_true rfl)
  rw [lg_entry_eq]
  generalize (lg_sl ([.ref h0]) ++ List.replicate (5 - (lg_sl ([.ref h0])).length) Slot.unset).toArray = ls at hl ⊢
  replace hl : lv_has ls 5 [(0, .ref h0)] := hl
  have hH0 : s.heap.size ≤ s.heap.size := Nat.le_refl _
  refine lv_aload_n hx hb dX7_measure_0 rfl (lv_at hl 0 rfl) ?_
  refine lv_aload_n hx hb dX7_measure_1 rfl (lv_at hl 0 rfl) ?_
  refine va_get (D := g.1) (ci := 6) (v := .int 0) (C := RX3) (T := TX3) (N := 8) hx hb hts in9_X7_measure_2_RX3 hown hK hP 0 rfl rfl 3 (by decide) (hts (.fieldLink RX7 9 "Regexloom$Pattern" "root" "I") (List.mem_of_getElem? (i := 1) rfl)) (fun _ h9 => h9) rfl dX7_measure_2 ?_
  refine lv_iconst (v := 0) hx hb dX7_measure_5 (by decide) ?_
  have hPc := hP.sub (ws' := [(h0, .inr (6, [.ref h1, .ref h2, .ref h3, .int 0, .int 0, .int 1, .int 0, .int 0])), (h2, .inr (10, [.int 2, .int 33, .ref h5, .int 1])), (h5, .inl (g.2.1 0, 64, .inl (upd (upd (fun _ => 0) 0 (-1)) 1 (-1))))]) [0, 2, 3] rfl
  have hDc := hD.sub (ws' := [(h0, .inr (6, [.ref h1, .ref h2, .ref h3, .int 0, .int 0, .int 1, .int 0, .int 0])), (h2, .inr (10, [.int 2, .int 33, .ref h5, .int 1])), (h5, .inl (g.2.1 0, 64, .inl (upd (upd (fun _ => 0) 0 (-1)) 1 (-1))))]) [0, 2, 3] (by decide) rfl
  have hFc := va_free (wc := [(h0, .inr (6, [.ref h1, .ref h2, .ref h3, .int 0, .int 0, .int 1, .int 0, .int 0])), (h2, .inr (10, [.int 2, .int 33, .ref h5, .int 1])), (h5, .inl (g.2.1 0, 64, .inl (upd (upd (fun _ => 0) 0 (-1)) 1 (-1))))]) hD hS hA [0, 2, 3] rfl
  refine va_calli (va_runS (As := [.ref h0, .int 0, .int 0]) (rest := []) ⟨hx, hb, hml, hown, hts⟩ (c9_X7_weightOfBody_2 l g h0 h1 h2 h3 h5 _) (va_cwS 3 hts g9_X7_measure_2_0 rfl rfl rfl (by decide +kernel) ⟨Nat.le_of_ble_eq_true rfl, Nat.le_of_ble_eq_true rfl⟩) (mPreS (g := g) (wc := [(h0, .inr (6, [.ref h1, .ref h2, .ref h3, .int 0, .int 0, .int 1, .int 0, .int 0])), (h2, .inr (10, [.int 2, .int 33, .ref h5, .int 1])), (h5, .inl (g.2.1 0, 64, .inl (upd (upd (fun _ => 0) 0 (-1)) 1 (-1))))]) hE hS hPc hDc hFc) rfl rfl hl.1 rfl (lv_room (Nat.le_of_ble_eq_true rfl)) dX7_measure_6 ⟨Nat.le_of_ble_eq_true rfl, Nat.le_of_ble_eq_true rfl⟩) hS (fun q _ h => hFc q h) hFc (fun r_1 u t H1 locs ht hvm hw hB hz1 hk1 hS => ?_)
  replace hw : 0 = r_1 := Eq.symm hw
  subst hw
  obtain ⟨hP1, hD1⟩ := hB
  rw [ht] at hP1
  obtain ⟨hP, hD⟩ := va_join (wr := [(h1, .inr (10, [.int 10, .int 33, .ref h4, .int 0]))]) (w1 := [(h0, .inr (6, [.ref h1, .ref h2, .ref h3, .int 0, .int 0, .int 1, .int 0, .int 0])), (h2, .inr (10, [.int 2, .int 33, .ref h5, .int 1])), (h5, .inl (g.2.1 0, 64, .inl (upd (upd (fun _ => 0) 0 (-1)) 1 (-1))))]) hP hD [0, 2, 3] [1] rfl rfl (by decide) (by decide) hk1 hFc hP1 hD1
  clear hP1 hD1 hPc hDc hFc hk1 hz1 hvm ht
  generalize H1 = H at hP hS ⊢
  have hP : va_P g.1 vwCl [(h1, .inr (10, [.int 10, .int 33, .ref h4, .int 0])), (h0, .inr (6, [.ref h1, .ref h2, .ref h3, .int 0, .int 0, .int 1, .int 0, .int 0])), (h2, .inr (10, [.int 2, .int 33, .ref h5, .int 1])), (h5, .inl (g.2.1 0, 64, .inl (upd (upd (fun _ => 0) 0 (-1)) 1 (-1))))] H := hP
  have hD : va_D A [(h1, .inr (10, [.int 10, .int 33, .ref h4, .int 0])), (h0, .inr (6, [.ref h1, .ref h2, .ref h3, .int 0, .int 0, .int 1, .int 0, .int 0])), (h2, .inr (10, [.int 2, .int 33, .ref h5, .int 1])), (h5, .inl (g.2.1 0, 64, .inl (upd (upd (fun _ => 0) 0 (-1)) 1 (-1))))] := hD
  refine lv_bipush (v := 24) hx hb dX7_measure_9 (by decide) ?_
  refine lv_icmp_gt (tgt := 18) hx hb dX7_measure_11 (by decide) (fun c9 => absurd c9 (by decide)) (fun _ => ?_)
  refine lv_iconst (v := 1) hx hb dX7_measure_14 (by decide) ?_
  refine lv_goto (tgt := 19) hx hb dX7_measure_15 (by decide) ?_
  refine lv_istore_n (lv' := [(1, .int 1), (0, .ref h0)]) hx hb dX7_measure_19 rfl hl (by decide) rfl (fun ls hl => ?_)
  refine lv_iconst (v := 0) hx hb dX7_measure_20 (by decide) ?_
  refine lv_istore_n (lv' := [(2, .int 0), (1, .int 1), (0, .ref h0)]) hx hb dX7_measure_21 rfl hl (by decide) rfl (fun ls hl => ?_)
  refine lv_iconst (v := 0) hx hb dX7_measure_22 (by decide) ?_
  refine lv_istore_n (lv' := [(3, .int 0), (2, .int 0), (1, .int 1), (0, .ref h0)]) hx hb dX7_measure_23 rfl hl (by decide) rfl (fun ls hl => ?_)
  refine lv_iload_n hx hb dX7_measure_24 rfl (lv_at hl 0 rfl) ?_
  refine lv_aload_n hx hb dX7_measure_25 rfl (lv_at hl 3 rfl) ?_
  refine va_get (D := g.1) (ci := 6) (v := .ref h1) (C := RX3) (T := TX3) (N := 8) hx hb hts in9_X7_measure_2_RX3 hown hK hP 1 rfl rfl 0 (by decide) (hts (.fieldLink RX7 21 "Regexloom$Pattern" "pieces" "LRegexloom$Table;") (List.mem_of_getElem? (i := 24) rfl)) (fun _ h9 => h9) rfl dX7_measure_26 ?_
  have hPc := hP.sub (ws' := [(h1, .inr (10, [.int 10, .int 33, .ref h4, .int 0]))]) [0] rfl
  have hDc := hD.sub (ws' := [(h1, .inr (10, [.int 10, .int 33, .ref h4, .int 0]))]) [0] (by decide) rfl
  have hFc := va_free (wc := [(h1, .inr (10, [.int 10, .int 33, .ref h4, .int 0]))]) hD hS hA [0] rfl
  refine va_calli (va_runV (As := []) (rest := [.int 0]) ⟨hx, hb, hml, hown, hts⟩ (c9_X9_size_2 l g h1 h4 _) (cwV 0 hts g9_X7_measure_2_1 rfl rfl rfl (by decide +kernel) ⟨Nat.le_of_ble_eq_true rfl, Nat.le_of_ble_eq_true rfl⟩) (mPreV (g := g) (wc := [(h1, .inr (10, [.int 10, .int 33, .ref h4, .int 0]))]) (C := RX9) (ci := 10) (q0 := 0) hE hS hPc hDc hFc rfl rfl) rfl rfl hl.1 rfl (lv_room (Nat.le_of_ble_eq_true rfl)) dX7_measure_29 ⟨Nat.le_of_ble_eq_true rfl, Nat.le_of_ble_eq_true rfl⟩) hS (fun q _ h => hFc q h) hFc (fun r_2 u t H1 locs ht hvm hw hB hz1 hk1 hS => ?_)
  replace hw : 0 = r_2 := Eq.symm hw
  subst hw
  obtain ⟨hP1, hD1⟩ := hB
  rw [ht] at hP1
  obtain ⟨hP, hD⟩ := va_join (wr := [(h0, .inr (6, [.ref h1, .ref h2, .ref h3, .int 0, .int 0, .int 1, .int 0, .int 0])), (h2, .inr (10, [.int 2, .int 33, .ref h5, .int 1])), (h5, .inl (g.2.1 0, 64, .inl (upd (upd (fun _ => 0) 0 (-1)) 1 (-1))))]) (w1 := [(h1, .inr (10, [.int 10, .int 33, .ref h4, .int 0]))]) hP hD [0] [1, 2, 3] rfl rfl (by decide) (by decide) hk1 hFc hP1 hD1
  clear hP1 hD1 hPc hDc hFc hk1 hz1 hvm ht
  generalize H1 = H at hP hS ⊢
  have hP : va_P g.1 vwCl [(h0, .inr (6, [.ref h1, .ref h2, .ref h3, .int 0, .int 0, .int 1, .int 0, .int 0])), (h2, .inr (10, [.int 2, .int 33, .ref h5, .int 1])), (h5, .inl (g.2.1 0, 64, .inl (upd (upd (fun _ => 0) 0 (-1)) 1 (-1)))), (h1, .inr (10, [.int 10, .int 33, .ref h4, .int 0]))] H := hP
  have hD : va_D A [(h0, .inr (6, [.ref h1, .ref h2, .ref h3, .int 0, .int 0, .int 1, .int 0, .int 0])), (h2, .inr (10, [.int 2, .int 33, .ref h5, .int 1])), (h5, .inl (g.2.1 0, 64, .inl (upd (upd (fun _ => 0) 0 (-1)) 1 (-1)))), (h1, .inr (10, [.int 10, .int 33, .ref h4, .int 0]))] := hD
  refine lv_icmp_ge (tgt := 95) hx hb dX7_measure_32 (by decide) (fun _ => ?_) (fun c9 => absurd (by decide) c9)
  refine lv_aload_n hx hb dX7_measure_95 rfl (lv_at hl 3 rfl) ?_
  refine lv_iload_n hx hb dX7_measure_96 rfl (lv_at hl 2 rfl) ?_
  refine va_put (D := g.1) (ci := 6) (v := .int 1) (ty := .boolean) (C := RX3) (T := TX3) (N := 8) hx hb hts in9_X7_measure_2_RX3 tyX3 tyX3_ok nmX3 hown hK hP hD hS 0 rfl rfl 6 (by decide) (hts (.fieldLink RX7 49 "Regexloom$Pattern" "isPlain" "Z") (List.mem_of_getElem? (i := 29) rfl)) (fun _ h9 => h9) rfl (by decide +kernel) rfl rfl (Nat.le_of_ble_eq_true rfl) dX7_measure_97 (fun H locs hP hD hS => ?_)
  have hP : va_P g.1 vwCl [(h0, .inr (6, [.ref h1, .ref h2, .ref h3, .int 0, .int 0, .int 1, .int 1, .int 0])), (h2, .inr (10, [.int 2, .int 33, .ref h5, .int 1])), (h5, .inl (g.2.1 0, 64, .inl (upd (upd (fun _ => 0) 0 (-1)) 1 (-1)))), (h1, .inr (10, [.int 10, .int 33, .ref h4, .int 0]))] H := hP
  have hD : va_D A [(h0, .inr (6, [.ref h1, .ref h2, .ref h3, .int 0, .int 0, .int 1, .int 1, .int 0])), (h2, .inr (10, [.int 2, .int 33, .ref h5, .int 1])), (h5, .inl (g.2.1 0, 64, .inl (upd (upd (fun _ => 0) 0 (-1)) 1 (-1)))), (h1, .inr (10, [.int 10, .int 33, .ref h4, .int 0]))] := hD
  refine lv_aload_n hx hb dX7_measure_100 rfl (lv_at hl 3 rfl) ?_
  refine lv_iload_n hx hb dX7_measure_101 rfl (lv_at hl 2 rfl) ?_
  refine lv_if_eq (tgt := 113) hx hb dX7_measure_102 (by decide) (fun c9 => absurd c9 (by decide)) (fun _ => ?_)
  refine lv_iload_n hx hb dX7_measure_105 rfl (lv_at hl 1 rfl) ?_
  refine lv_if_ne (tgt := 113) hx hb dX7_measure_106 (by decide) (fun c9 => absurd (by decide) c9) (fun _ => ?_)
  refine lv_iconst (v := 1) hx hb dX7_measure_109 (by decide) ?_
  refine lv_goto (tgt := 114) hx hb dX7_measure_110 (by decide) ?_
  refine va_put (D := g.1) (ci := 6) (v := .int 1) (ty := .boolean) (C := RX3) (T := TX3) (N := 8) hx hb hts in9_X7_measure_2_RX3 tyX3 tyX3_ok nmX3 hown hK hP hD hS 0 rfl rfl 7 (by decide) (hts (.fieldLink RX7 53 "Regexloom$Pattern" "isRegular" "Z") (List.mem_of_getElem? (i := 30) rfl)) (fun _ h9 => h9) rfl (by decide +kernel) rfl rfl (Nat.le_of_ble_eq_true rfl) dX7_measure_114 (fun H locs hP hD hS => ?_)
  have hP : va_P g.1 vwCl [(h0, .inr (6, [.ref h1, .ref h2, .ref h3, .int 0, .int 0, .int 1, .int 1, .int 1])), (h2, .inr (10, [.int 2, .int 33, .ref h5, .int 1])), (h5, .inl (g.2.1 0, 64, .inl (upd (upd (fun _ => 0) 0 (-1)) 1 (-1)))), (h1, .inr (10, [.int 10, .int 33, .ref h4, .int 0]))] H := hP
  have hD : va_D A [(h0, .inr (6, [.ref h1, .ref h2, .ref h3, .int 0, .int 0, .int 1, .int 1, .int 1])), (h2, .inr (10, [.int 2, .int 33, .ref h5, .int 1])), (h5, .inl (g.2.1 0, 64, .inl (upd (upd (fun _ => 0) 0 (-1)) 1 (-1)))), (h1, .inr (10, [.int 10, .int 33, .ref h4, .int 0]))] := hD
  have hP9 := hP.sub (ws' := [(h0, .inr (6, [.ref h1, .ref h2, .ref h3, .int 0, .int 0, .int 1, .int 1, .int 1])), (h1, .inr (10, [.int 10, .int 33, .ref h4, .int 0])), (h2, .inr (10, [.int 2, .int 33, .ref h5, .int 1])), (h5, .inl (g.2.1 0, 64, .inl (upd (upd (fun _ => 0) 0 (-1)) 1 (-1))))]) [0, 3, 1, 2] rfl
  have hD9 := hD.sub (ws' := [(h0, .inr (6, [.ref h1, .ref h2, .ref h3, .int 0, .int 0, .int 1, .int 1, .int 1])), (h1, .inr (10, [.int 10, .int 33, .ref h4, .int 0])), (h2, .inr (10, [.int 2, .int 33, .ref h5, .int 1])), (h5, .inl (g.2.1 0, 64, .inl (upd (upd (fun _ => 0) 0 (-1)) 1 (-1))))]) [0, 3, 1, 2] (by decide) rfl
  subst hAe
  exact W.vret hx hb hr (fun t ht hW => ⟨⟨(), rfl, trivial, by rw [ht]; exact hP9, hD9⟩, hS.F ht⟩) hS.2.2 dX7_measure_117
def w9_X11_tell_4 : List Cond := [.code yX11_tell cX11_tell 3 (some .int), .methodLink RX11 124 yX11_needPattern, .instanceMethod yX11_needPattern, .selects RX11 yX11_needPattern yX11_needPattern, .initialized RX11, .code yX11_needPattern cX11_needPattern 2 none, .fieldLink RX11 34 "Regexloom" "reader" "LRegexloom$Reader;", .fieldLink RX11 9 "Regexloom" "draft" "[C", .fieldLink RX11 116 "Regexloom" "drafted" "I", .fieldLink RX11 27 "Regexloom" "spare" "LRegexloom$Pattern;", .methodLink RX11 127 yX5_read, .instanceMethod yX5_read, .selects RX5 yX5_read yX5_read, .initialized RX5, .code yX5_read cX5_read 4 (some .int), .fieldLink RX5 9 "Regexloom$Reader" "draft" "[C", .fieldLink RX5 15 "Regexloom$Reader" "size" "I", .fieldLink RX5 19 "Regexloom$Reader" "at" "I", .fieldLink RX5 22 "Regexloom$Reader" "fault" "I", .fieldLink RX5 25 "Regexloom$Reader" "into" "LRegexloom$Pattern;", .fieldLink RX5 29 "Regexloom$Reader" "number" "I", .fieldLink RX5 32 "Regexloom$Reader" "highestNeeded" "I", .methodLink RX5 35 yX3_empty, .instanceMethod yX3_empty, .selects RX3 yX3_empty yX3_empty, .initialized RX3, .code yX3_empty cX3_empty 2 none, .fieldLink RX3 14 "Regexloom$Pattern" "pieces" "LRegexloom$Table;", .methodLink RX3 26 yX9_cutTo, .instanceMethod yX9_cutTo, .selects RX9 yX9_cutTo yX9_cutTo, .initialized RX9, .code yX9_cutTo cX9_cutTo 2 none, .fieldLink RX9 28 "Regexloom$Table" "size" "I", .fieldLink RX3 20 "Regexloom$Pattern" "branches" "LRegexloom$Table;", .fieldLink RX3 23 "Regexloom$Pattern" "firstGroups" "LRegexloom$Table;", .methodLink RX3 30 yX9_reach, .instanceMethod yX9_reach, .selects RX9 yX9_reach yX9_reach, .code yX9_reach cX9_reach 3 none, .fieldLink RX9 15 "Regexloom$Table" "most" "I", .methodLink RX9 18 Lib.Math.min.name, .static Lib.Math.min.name, .initialized "java/lang/Math", .code Lib.Math.min.name Lib.Math.min.code 2 (some .int), .fieldLink RX9 9 "Regexloom$Table" "width" "I", .fieldLink RX9 24 "Regexloom$Table" "cells" "[I", .methodLink RX3 33 yX9_put, .instanceMethod yX9_put, .selects RX9 yX9_put yX9_put, .code yX9_put cX9_put 4 none, .fieldLink RX3 37 "Regexloom$Pattern" "root" "I", .fieldLink RX3 41 "Regexloom$Pattern" "groups" "I", .fieldLink RX3 44 "Regexloom$Pattern" "isTold" "Z", .fieldLink RX3 48 "Regexloom$Pattern" "isPlain" "Z", .fieldLink RX3 51 "Regexloom$Pattern" "isRegular" "Z", .methodLink RX5 40 yX5_readBranches, .instanceMethod yX5_readBranches, .selects RX5 yX5_readBranches yX5_readBranches, .code yX5_readBranches cX5_readBranches 10 (some .int), .methodLink RX5 57 yX3_addBranch, .instanceMethod yX3_addBranch, .selects RX3 yX3_addBranch yX3_addBranch, .code yX3_addBranch cX3_addBranch 2 (some .int), .methodLink RX3 58 yX9_add, .instanceMethod yX9_add, .selects RX9 yX9_add yX9_add, .code yX9_add cX9_add 1 (some .int), .methodLink RX5 61 yX5_readRow, .instanceMethod yX5_readRow, .selects RX5 yX5_readRow yX5_readRow, .code yX5_readRow cX5_readRow 7 none, .methodLink RX5 53 yX5_peek, .instanceMethod yX5_peek, .selects RX5 yX5_peek yX5_peek, .code yX5_peek cX5_peek 1 (some .char), .methodLink RX5 65 Lib.Math.max.name, .static Lib.Math.max.name, .code Lib.Math.max.name Lib.Math.max.code 2 (some .int), .fieldLink RX5 44 "Regexloom$Pattern" "root" "I", .fieldLink RX5 50 "Regexloom$Pattern" "groups" "I", .fieldLink RX11 22 "Regexloom" "patterns" "[LRegexloom$Pattern;", .fieldLink RX11 133 "Regexloom$Pattern" "isTold" "Z", .methodLink RX11 137 yX7_measure, .static yX7_measure, .initialized RX7, .code yX7_measure cX7_measure 5 none, .fieldLink RX7 9 "Regexloom$Pattern" "root" "I", .methodLink RX7 15 yX7_weightOfBody, .static yX7_weightOfBody, .code yX7_weightOfBody cX7_weightOfBody 9 (some .int), .methodLink RX7 68 yX3_firstPiece, .instanceMethod yX3_firstPiece, .selects RX3 yX3_firstPiece yX3_firstPiece, .code yX3_firstPiece cX3_firstPiece 2 (some .int), .methodLink RX3 54 yX9_get, .instanceMethod yX9_get, .selects RX9 yX9_get yX9_get, .code yX9_get cX9_get 3 (some .int), .methodLink RX7 64 yX3_nextBranch, .instanceMethod yX3_nextBranch, .selects RX3 yX3_nextBranch yX3_nextBranch, .code yX3_nextBranch cX3_nextBranch 2 (some .int), .fieldLink RX7 21 "Regexloom$Pattern" "pieces" "LRegexloom$Table;", .methodLink RX7 25 yX9_size, .instanceMethod yX9_size, .selects RX9 yX9_size yX9_size, .code yX9_size cX9_size 1 (some .int), .fieldLink RX7 49 "Regexloom$Pattern" "isPlain" "Z", .fieldLink RX7 53 "Regexloom$Pattern" "isRegular" "Z", .fieldLink RX11 52 "Regexloom" "compiled" "I", .fieldLink RX11 143 "Regexloom$Pattern" "groups" "I"] ++ (u_ws RX11 TX11 17 ++ u_ws RX5 TX5 7 ++ u_ws RX3 TX3 8 ++ u_ws RX9 TX9 4)
set_option maxRecDepth 20000 in
theorem in9_X11_tell_4_RX11 : ∀ w ∈ u_ws RX11 TX11 17, w ∈ w9_X11_tell_4 := by decide +kernel
set_option maxRecDepth 20000 in
theorem in9_X11_tell_4_RX5 : ∀ w ∈ u_ws RX5 TX5 7, w ∈ w9_X11_tell_4 := by decide +kernel
set_option maxRecDepth 20000 in
theorem in9_X11_tell_4_RX3 : ∀ w ∈ u_ws RX3 TX3 8, w ∈ w9_X11_tell_4 := by decide +kernel
set_option maxRecDepth 20000 in
theorem in9_X11_tell_4_RX9 : ∀ w ∈ u_ws RX9 TX9 4, w ∈ w9_X11_tell_4 := by decide +kernel
set_option maxRecDepth 20000 in
theorem g9_X11_tell_4_0 : GoodIn w9_X11_tell_4 (wsV RX11 124 RX11 yX11_needPattern w9_X11_needPattern_3) := goodIn_r _ [1, 2, 3, 4, 5] (by decide +kernel) (by decide +kernel)
set_option maxRecDepth 20000 in
theorem g9_X11_tell_4_1 : GoodIn w9_X11_tell_4 (wsV RX11 127 RX5 yX5_read w9_X5_read_1) := goodIn_r _ [10, 11, 12, 13, 14, 15, 16, 17, 18, 19, 20, 21, 22, 23, 24, 25, 26, 27, 28, 29, 30, 31, 32, 33, 34, 35, 36, 37, 38, 39, 40, 41, 42, 43, 44, 45, 46, 47, 48, 49, 50, 51, 52, 53, 54, 55, 56, 57, 58, 13, 59, 60, 61, 62, 63, 64, 65, 66, 67, 68, 69, 70, 71, 72, 73, 74, 75, 76, 77, 78, 79, 80, 129, 130, 131, 132, 133, 134, 135, 136, 137, 138, 139, 140, 141, 142, 143, 144, 145, 146, 147] (by decide +kernel) (by decide +kernel)
set_option maxRecDepth 20000 in
theorem g9_X11_tell_4_2 : GoodIn w9_X11_tell_4 (va_wsS RX11 137 yX7_measure w9_X7_measure_2) := goodIn_r _ [83, 84, 85, 86, 87, 88, 89, 85, 90, 91, 92, 93, 25, 94, 34, 95, 96, 97, 31, 98, 33, 45, 46, 99, 100, 101, 102, 103, 104, 105, 106, 107, 108, 109, 136, 137, 138, 139, 140, 141, 142, 143, 144, 145, 146, 147] (by decide +kernel) (by decide +kernel)
set_option maxHeartbeats 4000000 in
set_option maxRecDepth 100000 in
theorem c9_X11_tell_4 (l : Launch) (g : G9) (h0 h1 h2 h3 h4 h5 h6 h7 h8 h9 h10 h11 h12 h13 h14 h15 h16 h17 h18 h19 h20 h21 h22 h23 sz : Nat) : Met l yX11_tell w9_X11_tell_4 ({ frames := 4, cells := 0, slots := 0, locals := 96 }) (mP g [(h0, .inr (12, [.ref h1, .int 0, .ref h2, .ref h3, .ref h4, .ref h5, .ref h6, .ref h7, .int (-1), .ref h8, .ref h9, .int 250, .ref h10, .int 0, .ref h11, .ref h12, .ref h13])), (h3, .inl (g.2.1 3, 4, .inr (.inr (.inr (.inr (va_up (va_up (va_up (va_up (fun _ => none) 0 (some h14)) 1 (some h15)) 2 (some h16)) 3 (some h17))))))), (h4, .inr (6, [.ref h18, .ref h19, .ref h20, .int 0, .int 0, .int 0, .int 0, .int 0])), (h18, .inr (10, [.int 10, .int 33, .ref h21, .int 0])), (h19, .inr (10, [.int 2, .int 33, .ref h22, .int 0])), (h22, .inl (g.2.1 0, 64, .inl (fun _ => 0))), (h20, .inr (10, [.int 1, .int 7, .ref h23, .int 0])), (h23, .inl (g.2.1 0, 7, .inl (fun _ => 0))), (h5, .inr (8, [.null, .int 0, .int 0, .int 0, .null, .int 0, .int 0]))] sz [.ref h0, .int 0]) (va_Qi (fun (r : Int32) (_ : Unit) => r = 0) (fun (_ : Unit) (t : State) => mB g [(h0, .inr (12, [.ref h1, .int 0, .ref h2, .ref h3, .ref h4, .ref h5, .ref h6, .ref h7, .int (-1), .ref h8, .ref h9, .int 250, .ref h10, .int 0, .ref h11, .ref h12, .ref h13])), (h3, .inl (g.2.1 3, 4, .inr (.inr (.inr (.inr (va_up (va_up (va_up (va_up (fun _ => none) 0 (some h14)) 1 (some h15)) 2 (some h16)) 3 (some h17))))))), (h4, .inr (6, [.ref h18, .ref h19, .ref h20, .int 0, .int 0, .int 0, .int 0, .int 0])), (h18, .inr (10, [.int 10, .int 33, .ref h21, .int 0])), (h19, .inr (10, [.int 2, .int 33, .ref h22, .int 0])), (h22, .inl (g.2.1 0, 64, .inl (fun _ => 0))), (h20, .inr (10, [.int 1, .int 7, .ref h23, .int 0])), (h23, .inl (g.2.1 0, 7, .inl (fun _ => 0))), (h5, .inr (8, [.null, .int 0, .int 0, .int 0, .null, .int 0, .int 0]))] sz [(h0, .inr (12, [.ref h1, .int 0, .ref h2, .ref h3, .ref h14, .ref h5, .ref h6, .ref h7, .int (-1), .ref h8, .ref h9, .int 250, .ref h10, .int 0, .ref h11, .ref h12, .ref h13])), (h3, .inl (g.2.1 3, 4, .inr (.inr (.inr (.inr (va_up (va_up (va_up (va_up (va_up (fun _ => none) 0 (some h14)) 1 (some h15)) 2 (some h16)) 3 (some h17)) 0 (some h4))))))), (h4, .inr (6, [.ref h18, .ref h19, .ref h20, .int 0, .int 0, .int 1, .int 1, .int 1])), (h18, .inr (10, [.int 10, .int 33, .ref h21, .int 0])), (h19, .inr (10, [.int 2, .int 33, .ref h22, .int 1])), (h22, .inl (g.2.1 0, 64, .inl (upd (upd (fun _ => 0) 0 (-1)) 1 (-1)))), (h20, .inr (10, [.int 1, .int 7, .ref h23, .int 7])), (h23, .inl (g.2.1 0, 7, .inl (upd (upd (upd (upd (upd (upd (upd (fun _ => 0) 0 (-1)) 1 (-1)) 2 (-1)) 3 (-1)) 4 (-1)) 5 (-1)) 6 (-1)))), (h5, .inr (8, [.ref h1, .int 0, .int 0, .int (-1), .ref h4, .int 0, .int 0]))] t) (va_A [(h0, .inr (12, [.ref h1, .int 0, .ref h2, .ref h3, .ref h4, .ref h5, .ref h6, .ref h7, .int (-1), .ref h8, .ref h9, .int 250, .ref h10, .int 0, .ref h11, .ref h12, .ref h13])), (h3, .inl (g.2.1 3, 4, .inr (.inr (.inr (.inr (va_up (va_up (va_up (va_up (fun _ => none) 0 (some h14)) 1 (some h15)) 2 (some h16)) 3 (some h17))))))), (h4, .inr (6, [.ref h18, .ref h19, .ref h20, .int 0, .int 0, .int 0, .int 0, .int 0])), (h18, .inr (10, [.int 10, .int 33, .ref h21, .int 0])), (h19, .inr (10, [.int 2, .int 33, .ref h22, .int 0])), (h22, .inl (g.2.1 0, 64, .inl (fun _ => 0))), (h20, .inr (10, [.int 1, .int 7, .ref h23, .int 0])), (h23, .inl (g.2.1 0, 7, .inl (fun _ => 0))), (h5, .inr (8, [.null, .int 0, .int 0, .int 0, .null, .int 0, .int 0]))] sz)) 0 0 (va_A [(h0, .inr (12, [.ref h1, .int 0, .ref h2, .ref h3, .ref h4, .ref h5, .ref h6, .ref h7, .int (-1), .ref h8, .ref h9, .int 250, .ref h10, .int 0, .ref h11, .ref h12, .ref h13])), (h3, .inl (g.2.1 3, 4, .inr (.inr (.inr (.inr (va_up (va_up (va_up (va_up (fun _ => none) 0 (some h14)) 1 (some h15)) 2 (some h16)) 3 (some h17))))))), (h4, .inr (6, [.ref h18, .ref h19, .ref h20, .int 0, .int 0, .int 0, .int 0, .int 0])), (h18, .inr (10, [.int 10, .int 33, .ref h21, .int 0])), (h19, .inr (10, [.int 2, .int 33, .ref h22, .int 0])), (h22, .inl (g.2.1 0, 64, .inl (fun _ => 0))), (h20, .inr (10, [.int 1, .int 7, .ref h23, .int 0])), (h23, .inl (g.2.1 0, 7, .inl (fun _ => 0))), (h5, .inr (8, [.null, .int 0, .int 0, .int 0, .null, .int 0, .int 0]))] sz) := by
  refine Met.ofW (cc := cX11_tell) (maxL := 3) (ret := (some .int)) (by decide) rfl ?_
  intro p e s m args below meth c s₁ B hml hv
  obtain ⟨rfl, hsz, hP, hD0, hE⟩ := hv
  have hx := B.exec
  have hb := B.bytes
  have hr := B.returns
  have hts := atoms_spec (ws := w9_X11_tell_4) B.pre
  have hown : s.vm.findClass RX11 = some m.cls := findClass_of_methodNamed B.named
  have hlocks := B.notSynchronized
  subst hsz
  have hD := hD0.self (sz := s.heap.size)
  generalize hAe : va_A [(h0, .inr (12, [.ref h1, .int 0, .ref h2, .ref h3, .ref h4, .ref h5, .ref h6, .ref h7, .int (-1), .ref h8, .ref h9, .int 250, .ref h10, .int 0, .ref h11, .ref h12, .ref h13])), (h3, .inl (g.2.1 3, 4, .inr (.inr (.inr (.inr (va_up (va_up (va_up (va_up (fun _ => none) 0 (some h14)) 1 (some h15)) 2 (some h16)) 3 (some h17))))))), (h4, .inr (6, [.ref h18, .ref h19, .ref h20, .int 0, .int 0, .int 0, .int 0, .int 0])), (h18, .inr (10, [.int 10, .int 33, .ref h21, .int 0])), (h19, .inr (10, [.int 2, .int 33, .ref h22, .int 0])), (h22, .inl (g.2.1 0, 64, .inl (fun _ => 0))), (h20, .inr (10, [.int 1, .int 7, .ref h23, .int 0])), (h23, .inl (g.2.1 0, 7, .inl (fun _ => 0))), (h5, .inr (8, [.null, .int 0, .int 0, .int 0, .null, .int 0, .int 0]))] s.heap.size = A at hD hE ⊢
  have hA : ∀ q : Nat, s.heap.size ≤ q → A q := fun q h => by rw [← hAe]; exact Or.inr h
  have hK := hE.1
  have hS : va_S A s.heap s.heap [] := va_S.rf
  replace hP : va_P g.1 vwCl [(h0, .inr (12, [.ref h1, .int 0, .ref h2, .ref h3, .ref h4, .ref h5, .ref h6, .ref h7, .int (-1), .ref h8, .ref h9, .int 250, .ref h10, .int 0, .ref h11, .ref h12, .ref h13])), (h3, .inl (g.2.1 3, 4, .inr (.inr (.inr (.inr (va_up (va_up (va_up (va_up (fun _ => none) 0 (some h14)) 1 (some h15)) 2 (some h16)) 3 (some h17))))))), (h4, .inr (6, [.ref h18, .ref h19, .ref h20, .int 0, .int 0, .int 0, .int 0, .int 0])), (h18, .inr (10, [.int 10, .int 33, .ref h21, .int 0])), (h19, .inr (10, [.int 2, .int 33, .ref h22, .int 0])), (h22, .inl (g.2.1 0, 64, .inl (fun _ => 0))), (h20, .inr (10, [.int 1, .int 7, .ref h23, .int 0])), (h23, .inl (g.2.1 0, 7, .inl (fun _ => 0))), (h5, .inr (8, [.null, .int 0, .int 0, .int 0, .null, .int 0, .int 0]))] s.heap := hP
  have hl := lv_entry ([.ref h0, .int 0]) (n := 3) (Nat.le_of_ble_eq_true rfl)
  rw [lg_entry_eq]
  generalize (lg_sl ([.ref h0, .int 0]) ++ List.replicate (3 - (lg_sl ([.ref h0, .int 0])).length) Slot.unset).toArray = ls at hl ⊢
  replace hl : lv_has ls 3 [(0, .ref h0), (1, .int 0)] := hl
  have hH0 : s.heap.size ≤ s.heap.size := Nat.le_refl _
  refine lv_aload_n hx hb dX11_tell_0 rfl (lv_at hl 0 rfl) ?_
  refine lv_iload_n hx hb dX11_tell_1 rfl (lv_at hl 1 rfl) ?_
  have hPc := hP.sub (ws' := [(h0, .inr (12, [.ref h1, .int 0, .ref h2, .ref h3, .ref h4, .ref h5, .ref h6, .ref h7, .int (-1), .ref h8, .ref h9, .int 250, .ref h10, .int 0, .ref h11, .ref h12, .ref h13]))]) [0] rfl
  have hDc := hD.sub (ws' := [(h0, .inr (12, [.ref h1, .int 0, .ref h2, .ref h3, .ref h4, .ref h5, .ref h6, .ref h7, .int (-1), .ref h8, .ref h9, .int 250, .ref h10, .int 0, .ref h11, .ref h12, .ref h13]))]) [0] (by decide) rfl
  have hFc := va_free (wc := [(h0, .inr (12, [.ref h1, .int 0, .ref h2, .ref h3, .ref h4, .ref h5, .ref h6, .ref h7, .int (-1), .ref h8, .ref h9, .int 250, .ref h10, .int 0, .ref h11, .ref h12, .ref h13]))]) hD hS hA [0] rfl
  refine va_callv (va_runV (As := [.int 0]) (rest := []) ⟨hx, hb, hml, hown, hts⟩ (c9_X11_needPattern_3 l g h0 h1 h2 h3 h4 h5 h6 h7 h8 h9 h10 h11 h12 h13 _) (cwV 1 hts g9_X11_tell_4_0 rfl rfl rfl (by decide +kernel) ⟨Nat.le_of_ble_eq_true rfl, Nat.le_of_ble_eq_true rfl⟩) (mPreV (g := g) (wc := [(h0, .inr (12, [.ref h1, .int 0, .ref h2, .ref h3, .ref h4, .ref h5, .ref h6, .ref h7, .int (-1), .ref h8, .ref h9, .int 250, .ref h10, .int 0, .ref h11, .ref h12, .ref h13]))]) (C := RX11) (ci := 12) (q0 := 0) hE hS hPc hDc hFc rfl rfl) rfl rfl hl.1 rfl (lv_room (Nat.le_of_ble_eq_true rfl)) dX11_tell_2 ⟨Nat.le_of_ble_eq_true rfl, Nat.le_of_ble_eq_true rfl⟩) hS (fun q _ h => hFc q h) hFc (fun u t H1 locs ht hvm hw hB hz1 hk1 hS => ?_)
  obtain ⟨hP1, hD1⟩ := hB
  rw [ht] at hP1
  obtain ⟨hP, hD⟩ := va_join (wr := [(h3, .inl (g.2.1 3, 4, .inr (.inr (.inr (.inr (va_up (va_up (va_up (va_up (fun _ => none) 0 (some h14)) 1 (some h15)) 2 (some h16)) 3 (some h17))))))), (h4, .inr (6, [.ref h18, .ref h19, .ref h20, .int 0, .int 0, .int 0, .int 0, .int 0])), (h18, .inr (10, [.int 10, .int 33, .ref h21, .int 0])), (h19, .inr (10, [.int 2, .int 33, .ref h22, .int 0])), (h22, .inl (g.2.1 0, 64, .inl (fun _ => 0))), (h20, .inr (10, [.int 1, .int 7, .ref h23, .int 0])), (h23, .inl (g.2.1 0, 7, .inl (fun _ => 0))), (h5, .inr (8, [.null, .int 0, .int 0, .int 0, .null, .int 0, .int 0]))]) (w1 := [(h0, .inr (12, [.ref h1, .int 0, .ref h2, .ref h3, .ref h4, .ref h5, .ref h6, .ref h7, .int (-1), .ref h8, .ref h9, .int 250, .ref h10, .int 0, .ref h11, .ref h12, .ref h13]))]) hP hD [0] [1, 2, 3, 4, 5, 6, 7, 8] rfl rfl (by decide) (by decide) hk1 hFc hP1 hD1
  clear hP1 hD1 hPc hDc hFc hk1 hz1 hvm ht
  generalize H1 = H at hP hS ⊢
  have hP : va_P g.1 vwCl [(h3, .inl (g.2.1 3, 4, .inr (.inr (.inr (.inr (va_up (va_up (va_up (va_up (fun _ => none) 0 (some h14)) 1 (some h15)) 2 (some h16)) 3 (some h17))))))), (h4, .inr (6, [.ref h18, .ref h19, .ref h20, .int 0, .int 0, .int 0, .int 0, .int 0])), (h18, .inr (10, [.int 10, .int 33, .ref h21, .int 0])), (h19, .inr (10, [.int 2, .int 33, .ref h22, .int 0])), (h22, .inl (g.2.1 0, 64, .inl (fun _ => 0))), (h20, .inr (10, [.int 1, .int 7, .ref h23, .int 0])), (h23, .inl (g.2.1 0, 7, .inl (fun _ => 0))), (h5, .inr (8, [.null, .int 0, .int 0, .int 0, .null, .int 0, .int 0])), (h0, .inr (12, [.ref h1, .int 0, .ref h2, .ref h3, .ref h4, .ref h5, .ref h6, .ref h7, .int (-1), .ref h8, .ref h9, .int 250, .ref h10, .int 0, .ref h11, .ref h12, .ref h13]))] H := hP
  have hD : va_D A [(h3, .inl (g.2.1 3, 4, .inr (.inr (.inr (.inr (va_up (va_up (va_up (va_up (fun _ => none) 0 (some h14)) 1 (some h15)) 2 (some h16)) 3 (some h17))))))), (h4, .inr (6, [.ref h18, .ref h19, .ref h20, .int 0, .int 0, .int 0, .int 0, .int 0])), (h18, .inr (10, [.int 10, .int 33, .ref h21, .int 0])), (h19, .inr (10, [.int 2, .int 33, .ref h22, .int 0])), (h22, .inl (g.2.1 0, 64, .inl (fun _ => 0))), (h20, .inr (10, [.int 1, .int 7, .ref h23, .int 0])), (h23, .inl (g.2.1 0, 7, .inl (fun _ => 0))), (h5, .inr (8, [.null, .int 0, .int 0, .int 0, .null, .int 0, .int 0])), (h0, .inr (12, [.ref h1, .int 0, .ref h2, .ref h3, .ref h4, .ref h5, .ref h6, .ref h7, .int (-1), .ref h8, .ref h9, .int 250, .ref h10, .int 0, .ref h11, .ref h12, .ref h13]))] := hD
  refine lv_aload_n hx hb dX11_tell_5 rfl (lv_at hl 0 rfl) ?_
  refine va_get (D := g.1) (ci := 12) (v := .ref h5) (C := RX11) (T := TX11) (N := 17) hx hb hts in9_X11_tell_4_RX11 hown hK hP 8 rfl rfl 5 (by decide) (hts (.fieldLink RX11 34 "Regexloom" "reader" "LRegexloom$Reader;") (List.mem_of_getElem? (i := 6) rfl)) (fun _ h9 => h9) rfl dX11_tell_6 ?_
  refine lv_aload_n hx hb dX11_tell_9 rfl (lv_at hl 0 rfl) ?_
  refine va_get (D := g.1) (ci := 12) (v := .ref h1) (C := RX11) (T := TX11) (N := 17) hx hb hts in9_X11_tell_4_RX11 hown hK hP 8 rfl rfl 0 (by decide) (hts (.fieldLink RX11 9 "Regexloom" "draft" "[C") (List.mem_of_getElem? (i := 7) rfl)) (fun _ h9 => h9) rfl dX11_tell_10 ?_
  refine lv_aload_n hx hb dX11_tell_13 rfl (lv_at hl 0 rfl) ?_
  refine va_get (D := g.1) (ci := 12) (v := .int 0) (C := RX11) (T := TX11) (N := 17) hx hb hts in9_X11_tell_4_RX11 hown hK hP 8 rfl rfl 1 (by decide) (hts (.fieldLink RX11 116 "Regexloom" "drafted" "I") (List.mem_of_getElem? (i := 8) rfl)) (fun _ h9 => h9) rfl dX11_tell_14 ?_
  refine lv_aload_n hx hb dX11_tell_17 rfl (lv_at hl 0 rfl) ?_
  refine va_get (D := g.1) (ci := 12) (v := .ref h4) (C := RX11) (T := TX11) (N := 17) hx hb hts in9_X11_tell_4_RX11 hown hK hP 8 rfl rfl 4 (by decide) (hts (.fieldLink RX11 27 "Regexloom" "spare" "LRegexloom$Pattern;") (List.mem_of_getElem? (i := 9) rfl)) (fun _ h9 => h9) rfl dX11_tell_18 ?_
  have hPc := hP.sub (ws' := [(h4, .inr (6, [.ref h18, .ref h19, .ref h20, .int 0, .int 0, .int 0, .int 0, .int 0])), (h18, .inr (10, [.int 10, .int 33, .ref h21, .int 0])), (h19, .inr (10, [.int 2, .int 33, .ref h22, .int 0])), (h22, .inl (g.2.1 0, 64, .inl (fun _ => 0))), (h20, .inr (10, [.int 1, .int 7, .ref h23, .int 0])), (h23, .inl (g.2.1 0, 7, .inl (fun _ => 0))), (h5, .inr (8, [.null, .int 0, .int 0, .int 0, .null, .int 0, .int 0]))]) [1, 2, 3, 4, 5, 6, 7] rfl
  have hDc := hD.sub (ws' := [(h4, .inr (6, [.ref h18, .ref h19, .ref h20, .int 0, .int 0, .int 0, .int 0, .int 0])), (h18, .inr (10, [.int 10, .int 33, .ref h21, .int 0])), (h19, .inr (10, [.int 2, .int 33, .ref h22, .int 0])), (h22, .inl (g.2.1 0, 64, .inl (fun _ => 0))), (h20, .inr (10, [.int 1, .int 7, .ref h23, .int 0])), (h23, .inl (g.2.1 0, 7, .inl (fun _ => 0))), (h5, .inr (8, [.null, .int 0, .int 0, .int 0, .null, .int 0, .int 0]))]) [1, 2, 3, 4, 5, 6, 7] (by decide) rfl
  have hFc := va_free (wc := [(h4, .inr (6, [.ref h18, .ref h19, .ref h20, .int 0, .int 0, .int 0, .int 0, .int 0])), (h18, .inr (10, [.int 10, .int 33, .ref h21, .int 0])), (h19, .inr (10, [.int 2, .int 33, .ref h22, .int 0])), (h22, .inl (g.2.1 0, 64, .inl (fun _ => 0))), (h20, .inr (10, [.int 1, .int 7, .ref h23, .int 0])), (h23, .inl (g.2.1 0, 7, .inl (fun _ => 0))), (h5, .inr (8, [.null, .int 0, .int 0, .int 0, .null, .int 0, .int 0]))]) hD hS hA [1, 2, 3, 4, 5, 6, 7] rfl
  refine va_calli (va_runV (As := [.ref h1, .int 0, .ref h4]) (rest := []) ⟨hx, hb, hml, hown, hts⟩ (c9_X5_read_1 l g h5 h1 h4 h18 h19 h20 h21 h22 h23 _ (fun _ => 0) (fun _ => 0)) (cwV 3 hts g9_X11_tell_4_1 rfl rfl rfl (by decide +kernel) ⟨Nat.le_of_ble_eq_true rfl, Nat.le_of_ble_eq_true rfl⟩) (mPreV (g := g) (wc := [(h4, .inr (6, [.ref h18, .ref h19, .ref h20, .int 0, .int 0, .int 0, .int 0, .int 0])), (h18, .inr (10, [.int 10, .int 33, .ref h21, .int 0])), (h19, .inr (10, [.int 2, .int 33, .ref h22, .int 0])), (h22, .inl (g.2.1 0, 64, .inl (fun _ => 0))), (h20, .inr (10, [.int 1, .int 7, .ref h23, .int 0])), (h23, .inl (g.2.1 0, 7, .inl (fun _ => 0))), (h5, .inr (8, [.null, .int 0, .int 0, .int 0, .null, .int 0, .int 0]))]) (C := RX5) (ci := 8) (q0 := 6) hE hS hPc hDc hFc rfl rfl) rfl rfl hl.1 rfl (lv_room (Nat.le_of_ble_eq_true rfl)) dX11_tell_21 ⟨Nat.le_of_ble_eq_true rfl, Nat.le_of_ble_eq_true rfl⟩) hS (fun q _ h => hFc q h) hFc (fun r_1 u t H1 locs ht hvm hw hB hz1 hk1 hS => ?_)
  replace hw : (-1) = r_1 := Eq.symm hw
  subst hw
  obtain ⟨hP1, hD1⟩ := hB
  rw [ht] at hP1
  obtain ⟨hP, hD⟩ := va_join (wr := [(h3, .inl (g.2.1 3, 4, .inr (.inr (.inr (.inr (va_up (va_up (va_up (va_up (fun _ => none) 0 (some h14)) 1 (some h15)) 2 (some h16)) 3 (some h17))))))), (h0, .inr (12, [.ref h1, .int 0, .ref h2, .ref h3, .ref h4, .ref h5, .ref h6, .ref h7, .int (-1), .ref h8, .ref h9, .int 250, .ref h10, .int 0, .ref h11, .ref h12, .ref h13]))]) (w1 := [(h4, .inr (6, [.ref h18, .ref h19, .ref h20, .int 0, .int 0, .int 0, .int 0, .int 0])), (h18, .inr (10, [.int 10, .int 33, .ref h21, .int 0])), (h19, .inr (10, [.int 2, .int 33, .ref h22, .int 1])), (h22, .inl (g.2.1 0, 64, .inl (upd (upd (fun _ => 0) 0 (-1)) 1 (-1)))), (h20, .inr (10, [.int 1, .int 7, .ref h23, .int 7])), (h23, .inl (g.2.1 0, 7, .inl (upd (upd (upd (upd (upd (upd (upd (fun _ => 0) 0 (-1)) 1 (-1)) 2 (-1)) 3 (-1)) 4 (-1)) 5 (-1)) 6 (-1)))), (h5, .inr (8, [.ref h1, .int 0, .int 0, .int (-1), .ref h4, .int 0, .int 0]))]) hP hD [1, 2, 3, 4, 5, 6, 7] [0, 8] rfl rfl (by decide) (by decide) hk1 hFc hP1 hD1
  clear hP1 hD1 hPc hDc hFc hk1 hz1 hvm ht
  generalize H1 = H at hP hS ⊢
  have hP : va_P g.1 vwCl [(h3, .inl (g.2.1 3, 4, .inr (.inr (.inr (.inr (va_up (va_up (va_up (va_up (fun _ => none) 0 (some h14)) 1 (some h15)) 2 (some h16)) 3 (some h17))))))), (h0, .inr (12, [.ref h1, .int 0, .ref h2, .ref h3, .ref h4, .ref h5, .ref h6, .ref h7, .int (-1), .ref h8, .ref h9, .int 250, .ref h10, .int 0, .ref h11, .ref h12, .ref h13])), (h4, .inr (6, [.ref h18, .ref h19, .ref h20, .int 0, .int 0, .int 0, .int 0, .int 0])), (h18, .inr (10, [.int 10, .int 33, .ref h21, .int 0])), (h19, .inr (10, [.int 2, .int 33, .ref h22, .int 1])), (h22, .inl (g.2.1 0, 64, .inl (upd (upd (fun _ => 0) 0 (-1)) 1 (-1)))), (h20, .inr (10, [.int 1, .int 7, .ref h23, .int 7])), (h23, .inl (g.2.1 0, 7, .inl (upd (upd (upd (upd (upd (upd (upd (fun _ => 0) 0 (-1)) 1 (-1)) 2 (-1)) 3 (-1)) 4 (-1)) 5 (-1)) 6 (-1)))), (h5, .inr (8, [.ref h1, .int 0, .int 0, .int (-1), .ref h4, .int 0, .int 0]))] H := hP
  have hD : va_D A [(h3, .inl (g.2.1 3, 4, .inr (.inr (.inr (.inr (va_up (va_up (va_up (va_up (fun _ => none) 0 (some h14)) 1 (some h15)) 2 (some h16)) 3 (some h17))))))), (h0, .inr (12, [.ref h1, .int 0, .ref h2, .ref h3, .ref h4, .ref h5, .ref h6, .ref h7, .int (-1), .ref h8, .ref h9, .int 250, .ref h10, .int 0, .ref h11, .ref h12, .ref h13])), (h4, .inr (6, [.ref h18, .ref h19, .ref h20, .int 0, .int 0, .int 0, .int 0, .int 0])), (h18, .inr (10, [.int 10, .int 33, .ref h21, .int 0])), (h19, .inr (10, [.int 2, .int 33, .ref h22, .int 1])), (h22, .inl (g.2.1 0, 64, .inl (upd (upd (fun _ => 0) 0 (-1)) 1 (-1)))), (h20, .inr (10, [.int 1, .int 7, .ref h23, .int 7])), (h23, .inl (g.2.1 0, 7, .inl (upd (upd (upd (upd (upd (upd (upd (fun _ => 0) 0 (-1)) 1 (-1)) 2 (-1)) 3 (-1)) 4 (-1)) 5 (-1)) 6 (-1)))), (h5, .inr (8, [.ref h1, .int 0, .int 0, .int (-1), .ref h4, .int 0, .int 0]))] := hD
  refine lv_iconst (v := (-1)) hx hb dX11_tell_24 (by decide) ?_
  refine lv_icmp_eq (tgt := 38) hx hb dX11_tell_25 (by decide) (fun _ => ?_) (fun c9 => absurd (by decide) c9)
  refine lv_aload_n hx hb dX11_tell_38 rfl (lv_at hl 0 rfl) ?_
  refine va_get (D := g.1) (ci := 12) (v := .ref h3) (C := RX11) (T := TX11) (N := 17) hx hb hts in9_X11_tell_4_RX11 hown hK hP 1 rfl rfl 3 (by decide) (hts (.fieldLink RX11 22 "Regexloom" "patterns" "[LRegexloom$Pattern;") (List.mem_of_getElem? (i := 81) rfl)) (fun _ h9 => h9) rfl dX11_tell_39 ?_
  refine lv_iload_n hx hb dX11_tell_42 rfl (lv_at hl 1 rfl) ?_
  refine va_aldq hx hb hK hP 0 3 rfl rfl (vp_in_nI (n := 0) (by decide) (by decide)) dX11_tell_43 ?_
  refine e_topv (y := .ref h14) (by rfl) ?_
  refine lv_astore_n (lv' := [(2, .ref h14), (0, .ref h0), (1, .int 0)]) hx hb dX11_tell_44 rfl hl (by decide) rfl (fun ls hl => ?_)
  refine lv_aload_n hx hb dX11_tell_45 rfl (lv_at hl 1 rfl) ?_
  refine va_get (D := g.1) (ci := 12) (v := .ref h4) (C := RX11) (T := TX11) (N := 17) hx hb hts in9_X11_tell_4_RX11 hown hK hP 1 rfl rfl 4 (by decide) (hts (.fieldLink RX11 27 "Regexloom" "spare" "LRegexloom$Pattern;") (List.mem_of_getElem? (i := 9) rfl)) (fun _ h9 => h9) rfl dX11_tell_46 ?_
  refine lv_iconst (v := 1) hx hb dX11_tell_49 (by decide) ?_
  refine va_put (D := g.1) (ci := 6) (v := .int 1) (ty := .boolean) (C := RX3) (T := TX3) (N := 8) hx hb hts in9_X11_tell_4_RX3 tyX3 tyX3_ok nmX3 hown hK hP hD hS 2 rfl rfl 5 (by decide) (hts (.fieldLink RX11 133 "Regexloom$Pattern" "isTold" "Z") (List.mem_of_getElem? (i := 82) rfl)) (fun _ h9 => h9) rfl (by decide +kernel) rfl rfl (Nat.le_of_ble_eq_true rfl) dX11_tell_50 (fun H locs hP hD hS => ?_)
  have hP : va_P g.1 vwCl [(h3, .inl (g.2.1 3, 4, .inr (.inr (.inr (.inr (va_up (va_up (va_up (va_up (fun _ => none) 0 (some h14)) 1 (some h15)) 2 (some h16)) 3 (some h17))))))), (h0, .inr (12, [.ref h1, .int 0, .ref h2, .ref h3, .ref h4, .ref h5, .ref h6, .ref h7, .int (-1), .ref h8, .ref h9, .int 250, .ref h10, .int 0, .ref h11, .ref h12, .ref h13])), (h4, .inr (6, [.ref h18, .ref h19, .ref h20, .int 0, .int 0, .int 1, .int 0, .int 0])), (h18, .inr (10, [.int 10, .int 33, .ref h21, .int 0])), (h19, .inr (10, [.int 2, .int 33, .ref h22, .int 1])), (h22, .inl (g.2.1 0, 64, .inl (upd (upd (fun _ => 0) 0 (-1)) 1 (-1)))), (h20, .inr (10, [.int 1, .int 7, .ref h23, .int 7])), (h23, .inl (g.2.1 0, 7, .inl (upd (upd (upd (upd (upd (upd (upd (fun _ => 0) 0 (-1)) 1 (-1)) 2 (-1)) 3 (-1)) 4 (-1)) 5 (-1)) 6 (-1)))), (h5, .inr (8, [.ref h1, .int 0, .int 0, .int (-1), .ref h4, .int 0, .int 0]))] H := hP
  have hD : va_D A [(h3, .inl (g.2.1 3, 4, .inr (.inr (.inr (.inr (va_up (va_up (va_up (va_up (fun _ => none) 0 (some h14)) 1 (some h15)) 2 (some h16)) 3 (some h17))))))), (h0, .inr (12, [.ref h1, .int 0, .ref h2, .ref h3, .ref h4, .ref h5, .ref h6, .ref h7, .int (-1), .ref h8, .ref h9, .int 250, .ref h10, .int 0, .ref h11, .ref h12, .ref h13])), (h4, .inr (6, [.ref h18, .ref h19, .ref h20, .int 0, .int 0, .int 1, .int 0, .int 0])), (h18, .inr (10, [.int 10, .int 33, .ref h21, .int 0])), (h19, .inr (10, [.int 2, .int 33, .ref h22, .int 1])), (h22, .inl (g.2.1 0, 64, .inl (upd (upd (fun _ => 0) 0 (-1)) 1 (-1)))), (h20, .inr (10, [.int 1, .int 7, .ref h23, .int 7])), (h23, .inl (g.2.1 0, 7, .inl (upd (upd (upd (upd (upd (upd (upd (fun _ => 0) 0 (-1)) 1 (-1)) 2 (-1)) 3 (-1)) 4 (-1)) 5 (-1)) 6 (-1)))), (h5, .inr (8, [.ref h1, .int 0, .int 0, .int (-1), .ref h4, .int 0, .int 0]))] := hD
  refine lv_aload_n hx hb dX11_tell_53 rfl (lv_at hl 1 rfl) ?_
  refine va_get (D := g.1) (ci := 12) (v := .ref h4) (C := RX11) (T := TX11) (N := 17) hx hb hts in9_X11_tell_4_RX11 hown hK hP 1 rfl rfl 4 (by decide) (hts (.fieldLink RX11 27 "Regexloom" "spare" "LRegexloom$Pattern;") (List.mem_of_getElem? (i := 9) rfl)) (fun _ h9 => h9) rfl dX11_tell_54 ?_
  have hPc := hP.sub (ws' := [(h4, .inr (6, [.ref h18, .ref h19, .ref h20, .int 0, .int 0, .int 1, .int 0, .int 0])), (h18, .inr (10, [.int 10, .int 33, .ref h21, .int 0])), (h19, .inr (10, [.int 2, .int 33, .ref h22, .int 1])), (h22, .inl (g.2.1 0, 64, .inl (upd (upd (fun _ => 0) 0 (-1)) 1 (-1))))]) [2, 3, 4, 5] rfl
  have hDc := hD.sub (ws' := [(h4, .inr (6, [.ref h18, .ref h19, .ref h20, .int 0, .int 0, .int 1, .int 0, .int 0])), (h18, .inr (10, [.int 10, .int 33, .ref h21, .int 0])), (h19, .inr (10, [.int 2, .int 33, .ref h22, .int 1])), (h22, .inl (g.2.1 0, 64, .inl (upd (upd (fun _ => 0) 0 (-1)) 1 (-1))))]) [2, 3, 4, 5] (by decide) rfl
  have hFc := va_free (wc := [(h4, .inr (6, [.ref h18, .ref h19, .ref h20, .int 0, .int 0, .int 1, .int 0, .int 0])), (h18, .inr (10, [.int 10, .int 33, .ref h21, .int 0])), (h19, .inr (10, [.int 2, .int 33, .ref h22, .int 1])), (h22, .inl (g.2.1 0, 64, .inl (upd (upd (fun _ => 0) 0 (-1)) 1 (-1))))]) hD hS hA [2, 3, 4, 5] rfl
  refine va_callv (va_runS (As := [.ref h4]) (rest := []) ⟨hx, hb, hml, hown, hts⟩ (c9_X7_measure_2 l g h4 h18 h19 h20 h21 h22 _) (va_cwS 1 hts g9_X11_tell_4_2 rfl rfl rfl (by decide +kernel) ⟨Nat.le_of_ble_eq_true rfl, Nat.le_of_ble_eq_true rfl⟩) (mPreS (g := g) (wc := [(h4, .inr (6, [.ref h18, .ref h19, .ref h20, .int 0, .int 0, .int 1, .int 0, .int 0])), (h18, .inr (10, [.int 10, .int 33, .ref h21, .int 0])), (h19, .inr (10, [.int 2, .int 33, .ref h22, .int 1])), (h22, .inl (g.2.1 0, 64, .inl (upd (upd (fun _ => 0) 0 (-1)) 1 (-1))))]) hE hS hPc hDc hFc) rfl rfl hl.1 rfl (lv_room (Nat.le_of_ble_eq_true rfl)) dX11_tell_57 ⟨Nat.le_of_ble_eq_true rfl, Nat.le_of_ble_eq_true rfl⟩) hS (fun q _ h => hFc q h) hFc (fun u t H1 locs ht hvm hw hB hz1 hk1 hS => ?_)
  obtain ⟨hP1, hD1⟩ := hB
  rw [ht] at hP1
  obtain ⟨hP, hD⟩ := va_join (wr := [(h3, .inl (g.2.1 3, 4, .inr (.inr (.inr (.inr (va_up (va_up (va_up (va_up (fun _ => none) 0 (some h14)) 1 (some h15)) 2 (some h16)) 3 (some h17))))))), (h0, .inr (12, [.ref h1, .int 0, .ref h2, .ref h3, .ref h4, .ref h5, .ref h6, .ref h7, .int (-1), .ref h8, .ref h9, .int 250, .ref h10, .int 0, .ref h11, .ref h12, .ref h13])), (h20, .inr (10, [.int 1, .int 7, .ref h23, .int 7])), (h23, .inl (g.2.1 0, 7, .inl (upd (upd (upd (upd (upd (upd (upd (fun _ => 0) 0 (-1)) 1 (-1)) 2 (-1)) 3 (-1)) 4 (-1)) 5 (-1)) 6 (-1)))), (h5, .inr (8, [.ref h1, .int 0, .int 0, .int (-1), .ref h4, .int 0, .int 0]))]) (w1 := [(h4, .inr (6, [.ref h18, .ref h19, .ref h20, .int 0, .int 0, .int 1, .int 1, .int 1])), (h18, .inr (10, [.int 10, .int 33, .ref h21, .int 0])), (h19, .inr (10, [.int 2, .int 33, .ref h22, .int 1])), (h22, .inl (g.2.1 0, 64, .inl (upd (upd (fun _ => 0) 0 (-1)) 1 (-1))))]) hP hD [2, 3, 4, 5] [0, 1, 6, 7, 8] rfl rfl (by decide) (by decide) hk1 hFc hP1 hD1
  clear hP1 hD1 hPc hDc hFc hk1 hz1 hvm ht
  generalize H1 = H at hP hS ⊢
  have hP : va_P g.1 vwCl [(h3, .inl (g.2.1 3, 4, .inr (.inr (.inr (.inr (va_up (va_up (va_up (va_up (fun _ => none) 0 (some h14)) 1 (some h15)) 2 (some h16)) 3 (some h17))))))), (h0, .inr (12, [.ref h1, .int 0, .ref h2, .ref h3, .ref h4, .ref h5, .ref h6, .ref h7, .int (-1), .ref h8, .ref h9, .int 250, .ref h10, .int 0, .ref h11, .ref h12, .ref h13])), (h20, .inr (10, [.int 1, .int 7, .ref h23, .int 7])), (h23, .inl (g.2.1 0, 7, .inl (upd (upd (upd (upd (upd (upd (upd (fun _ => 0) 0 (-1)) 1 (-1)) 2 (-1)) 3 (-1)) 4 (-1)) 5 (-1)) 6 (-1)))), (h5, .inr (8, [.ref h1, .int 0, .int 0, .int (-1), .ref h4, .int 0, .int 0])), (h4, .inr (6, [.ref h18, .ref h19, .ref h20, .int 0, .int 0, .int 1, .int 1, .int 1])), (h18, .inr (10, [.int 10, .int 33, .ref h21, .int 0])), (h19, .inr (10, [.int 2, .int 33, .ref h22, .int 1])), (h22, .inl (g.2.1 0, 64, .inl (upd (upd (fun _ => 0) 0 (-1)) 1 (-1))))] H := hP
  have hD : va_D A [(h3, .inl (g.2.1 3, 4, .inr (.inr (.inr (.inr (va_up (va_up (va_up (va_up (fun _ => none) 0 (some h14)) 1 (some h15)) 2 (some h16)) 3 (some h17))))))), (h0, .inr (12, [.ref h1, .int 0, .ref h2, .ref h3, .ref h4, .ref h5, .ref h6, .ref h7, .int (-1), .ref h8, .ref h9, .int 250, .ref h10, .int 0, .ref h11, .ref h12, .ref h13])), (h20, .inr (10, [.int 1, .int 7, .ref h23, .int 7])), (h23, .inl (g.2.1 0, 7, .inl (upd (upd (upd (upd (upd (upd (upd (fun _ => 0) 0 (-1)) 1 (-1)) 2 (-1)) 3 (-1)) 4 (-1)) 5 (-1)) 6 (-1)))), (h5, .inr (8, [.ref h1, .int 0, .int 0, .int (-1), .ref h4, .int 0, .int 0])), (h4, .inr (6, [.ref h18, .ref h19, .ref h20, .int 0, .int 0, .int 1, .int 1, .int 1])), (h18, .inr (10, [.int 10, .int 33, .ref h21, .int 0])), (h19, .inr (10, [.int 2, .int 33, .ref h22, .int 1])), (h22, .inl (g.2.1 0, 64, .inl (upd (upd (fun _ => 0) 0 (-1)) 1 (-1))))] := hD
  refine lv_aload_n hx hb dX11_tell_60 rfl (lv_at hl 1 rfl) ?_
  refine va_get (D := g.1) (ci := 12) (v := .ref h3) (C := RX11) (T := TX11) (N := 17) hx hb hts in9_X11_tell_4_RX11 hown hK hP 1 rfl rfl 3 (by decide) (hts (.fieldLink RX11 22 "Regexloom" "patterns" "[LRegexloom$Pattern;") (List.mem_of_getElem? (i := 81) rfl)) (fun _ h9 => h9) rfl dX11_tell_61 ?_
  refine lv_iload_n hx hb dX11_tell_64 rfl (lv_at hl 2 rfl) ?_
  refine lv_aload_n hx hb dX11_tell_65 rfl (lv_at hl 1 rfl) ?_
  refine va_get (D := g.1) (ci := 12) (v := .ref h4) (C := RX11) (T := TX11) (N := 17) hx hb hts in9_X11_tell_4_RX11 hown hK hP 1 rfl rfl 4 (by decide) (hts (.fieldLink RX11 27 "Regexloom" "spare" "LRegexloom$Pattern;") (List.mem_of_getElem? (i := 9) rfl)) (fun _ h9 => h9) rfl dX11_tell_66 ?_
  refine va_astq hx hb hK hP hD hS 0 3 5 6 rfl rfl rfl rfl (vp_in_nI (n := 0) (by decide) (by decide)) dX11_tell_69 (fun H locs hP hD hS => ?_)
  have hP : va_P g.1 vwCl [(h3, .inl (g.2.1 3, 4, .inr (.inr (.inr (.inr (va_up (va_up (va_up (va_up (va_up (fun _ => none) 0 (some h14)) 1 (some h15)) 2 (some h16)) 3 (some h17)) 0 (some h4))))))), (h0, .inr (12, [.ref h1, .int 0, .ref h2, .ref h3, .ref h4, .ref h5, .ref h6, .ref h7, .int (-1), .ref h8, .ref h9, .int 250, .ref h10, .int 0, .ref h11, .ref h12, .ref h13])), (h20, .inr (10, [.int 1, .int 7, .ref h23, .int 7])), (h23, .inl (g.2.1 0, 7, .inl (upd (upd (upd (upd (upd (upd (upd (fun _ => 0) 0 (-1)) 1 (-1)) 2 (-1)) 3 (-1)) 4 (-1)) 5 (-1)) 6 (-1)))), (h5, .inr (8, [.ref h1, .int 0, .int 0, .int (-1), .ref h4, .int 0, .int 0])), (h4, .inr (6, [.ref h18, .ref h19, .ref h20, .int 0, .int 0, .int 1, .int 1, .int 1])), (h18, .inr (10, [.int 10, .int 33, .ref h21, .int 0])), (h19, .inr (10, [.int 2, .int 33, .ref h22, .int 1])), (h22, .inl (g.2.1 0, 64, .inl (upd (upd (fun _ => 0) 0 (-1)) 1 (-1))))] H := hP
  have hD : va_D A [(h3, .inl (g.2.1 3, 4, .inr (.inr (.inr (.inr (va_up (va_up (va_up (va_up (va_up (fun _ => none) 0 (some h14)) 1 (some h15)) 2 (some h16)) 3 (some h17)) 0 (some h4))))))), (h0, .inr (12, [.ref h1, .int 0, .ref h2, .ref h3, .ref h4, .ref h5, .ref h6, .ref h7, .int (-1), .ref h8, .ref h9, .int 250, .ref h10, .int 0, .ref h11, .ref h12, .ref h13])), (h20, .inr (10, [.int 1, .int 7, .ref h23, .int 7])), (h23, .inl (g.2.1 0, 7, .inl (upd (upd (upd (upd (upd (upd (upd (fun _ => 0) 0 (-1)) 1 (-1)) 2 (-1)) 3 (-1)) 4 (-1)) 5 (-1)) 6 (-1)))), (h5, .inr (8, [.ref h1, .int 0, .int 0, .int (-1), .ref h4, .int 0, .int 0])), (h4, .inr (6, [.ref h18, .ref h19, .ref h20, .int 0, .int 0, .int 1, .int 1, .int 1])), (h18, .inr (10, [.int 10, .int 33, .ref h21, .int 0])), (h19, .inr (10, [.int 2, .int 33, .ref h22, .int 1])), (h22, .inl (g.2.1 0, 64, .inl (upd (upd (fun _ => 0) 0 (-1)) 1 (-1))))] := hD
  refine lv_aload_n hx hb dX11_tell_70 rfl (lv_at hl 1 rfl) ?_
  refine lv_aload_n hx hb dX11_tell_71 rfl (lv_at hl 0 rfl) ?_
  refine va_put (D := g.1) (ci := 12) (v := .ref h14) (ty := (.object "Regexloom$Pattern")) (C := RX11) (T := TX11) (N := 17) hx hb hts in9_X11_tell_4_RX11 tyX11 tyX11_ok nmX11 hown hK hP hD hS 1 rfl rfl 4 (by decide) (hts (.fieldLink RX11 27 "Regexloom" "spare" "LRegexloom$Pattern;") (List.mem_of_getElem? (i := 9) rfl)) (fun _ h9 => h9) rfl (by decide +kernel) rfl rfl (Nat.le_of_ble_eq_true rfl) dX11_tell_72 (fun H locs hP hD hS => ?_)
  have hP : va_P g.1 vwCl [(h3, .inl (g.2.1 3, 4, .inr (.inr (.inr (.inr (va_up (va_up (va_up (va_up (va_up (fun _ => none) 0 (some h14)) 1 (some h15)) 2 (some h16)) 3 (some h17)) 0 (some h4))))))), (h0, .inr (12, [.ref h1, .int 0, .ref h2, .ref h3, .ref h14, .ref h5, .ref h6, .ref h7, .int (-1), .ref h8, .ref h9, .int 250, .ref h10, .int 0, .ref h11, .ref h12, .ref h13])), (h20, .inr (10, [.int 1, .int 7, .ref h23, .int 7])), (h23, .inl (g.2.1 0, 7, .inl (upd (upd (upd (upd (upd (upd (upd (fun _ => 0) 0 (-1)) 1 (-1)) 2 (-1)) 3 (-1)) 4 (-1)) 5 (-1)) 6 (-1)))), (h5, .inr (8, [.ref h1, .int 0, .int 0, .int (-1), .ref h4, .int 0, .int 0])), (h4, .inr (6, [.ref h18, .ref h19, .ref h20, .int 0, .int 0, .int 1, .int 1, .int 1])), (h18, .inr (10, [.int 10, .int 33, .ref h21, .int 0])), (h19, .inr (10, [.int 2, .int 33, .ref h22, .int 1])), (h22, .inl (g.2.1 0, 64, .inl (upd (upd (fun _ => 0) 0 (-1)) 1 (-1))))] H := hP
  have hD : va_D A [(h3, .inl (g.2.1 3, 4, .inr (.inr (.inr (.inr (va_up (va_up (va_up (va_up (va_up (fun _ => none) 0 (some h14)) 1 (some h15)) 2 (some h16)) 3 (some h17)) 0 (some h4))))))), (h0, .inr (12, [.ref h1, .int 0, .ref h2, .ref h3, .ref h14, .ref h5, .ref h6, .ref h7, .int (-1), .ref h8, .ref h9, .int 250, .ref h10, .int 0, .ref h11, .ref h12, .ref h13])), (h20, .inr (10, [.int 1, .int 7, .ref h23, .int 7])), (h23, .inl (g.2.1 0, 7, .inl (upd (upd (upd (upd (upd (upd (upd (fun _ => 0) 0 (-1)) 1 (-1)) 2 (-1)) 3 (-1)) 4 (-1)) 5 (-1)) 6 (-1)))), (h5, .inr (8, [.ref h1, .int 0, .int 0, .int (-1), .ref h4, .int 0, .int 0])), (h4, .inr (6, [.ref h18, .ref h19, .ref h20, .int 0, .int 0, .int 1, .int 1, .int 1])), (h18, .inr (10, [.int 10, .int 33, .ref h21, .int 0])), (h19, .inr (10, [.int 2, .int 33, .ref h22, .int 1])), (h22, .inl (g.2.1 0, 64, .inl (upd (upd (fun _ => 0) 0 (-1)) 1 (-1))))] := hD
  refine lv_aload_n hx hb dX11_tell_75 rfl (lv_at hl 1 rfl) ?_
  refine lv_iconst (v := (-1)) hx hb dX11_tell_76 (by decide) ?_
  refine va_put (D := g.1) (ci := 12) (v := .int (-1)) (ty := .int) (C := RX11) (T := TX11) (N := 17) hx hb hts in9_X11_tell_4_RX11 tyX11 tyX11_ok nmX11 hown hK hP hD hS 1 rfl rfl 8 (by decide) (hts (.fieldLink RX11 52 "Regexloom" "compiled" "I") (List.mem_of_getElem? (i := 110) rfl)) (fun _ h9 => h9) rfl (by decide +kernel) rfl rfl (Nat.le_of_ble_eq_true rfl) dX11_tell_77 (fun H locs hP hD hS => ?_)
  have hP : va_P g.1 vwCl [(h3, .inl (g.2.1 3, 4, .inr (.inr (.inr (.inr (va_up (va_up (va_up (va_up (va_up (fun _ => none) 0 (some h14)) 1 (some h15)) 2 (some h16)) 3 (some h17)) 0 (some h4))))))), (h0, .inr (12, [.ref h1, .int 0, .ref h2, .ref h3, .ref h14, .ref h5, .ref h6, .ref h7, .int (-1), .ref h8, .ref h9, .int 250, .ref h10, .int 0, .ref h11, .ref h12, .ref h13])), (h20, .inr (10, [.int 1, .int 7, .ref h23, .int 7])), (h23, .inl (g.2.1 0, 7, .inl (upd (upd (upd (upd (upd (upd (upd (fun _ => 0) 0 (-1)) 1 (-1)) 2 (-1)) 3 (-1)) 4 (-1)) 5 (-1)) 6 (-1)))), (h5, .inr (8, [.ref h1, .int 0, .int 0, .int (-1), .ref h4, .int 0, .int 0])), (h4, .inr (6, [.ref h18, .ref h19, .ref h20, .int 0, .int 0, .int 1, .int 1, .int 1])), (h18, .inr (10, [.int 10, .int 33, .ref h21, .int 0])), (h19, .inr (10, [.int 2, .int 33, .ref h22, .int 1])), (h22, .inl (g.2.1 0, 64, .inl (upd (upd (fun _ => 0) 0 (-1)) 1 (-1))))] H := hP
  have hD : va_D A [(h3, .inl (g.2.1 3, 4, .inr (.inr (.inr (.inr (va_up (va_up (va_up (va_up (va_up (fun _ => none) 0 (some h14)) 1 (some h15)) 2 (some h16)) 3 (some h17)) 0 (some h4))))))), (h0, .inr (12, [.ref h1, .int 0, .ref h2, .ref h3, .ref h14, .ref h5, .ref h6, .ref h7, .int (-1), .ref h8, .ref h9, .int 250, .ref h10, .int 0, .ref h11, .ref h12, .ref h13])), (h20, .inr (10, [.int 1, .int 7, .ref h23, .int 7])), (h23, .inl (g.2.1 0, 7, .inl (upd (upd (upd (upd (upd (upd (upd (fun _ => 0) 0 (-1)) 1 (-1)) 2 (-1)) 3 (-1)) 4 (-1)) 5 (-1)) 6 (-1)))), (h5, .inr (8, [.ref h1, .int 0, .int 0, .int (-1), .ref h4, .int 0, .int 0])), (h4, .inr (6, [.ref h18, .ref h19, .ref h20, .int 0, .int 0, .int 1, .int 1, .int 1])), (h18, .inr (10, [.int 10, .int 33, .ref h21, .int 0])), (h19, .inr (10, [.int 2, .int 33, .ref h22, .int 1])), (h22, .inl (g.2.1 0, 64, .inl (upd (upd (fun _ => 0) 0 (-1)) 1 (-1))))] := hD
  refine lv_aload_n hx hb dX11_tell_80 rfl (lv_at hl 1 rfl) ?_
  refine lv_iconst (v := 0) hx hb dX11_tell_81 (by decide) ?_
  refine va_put (D := g.1) (ci := 12) (v := .int 0) (ty := .int) (C := RX11) (T := TX11) (N := 17) hx hb hts in9_X11_tell_4_RX11 tyX11 tyX11_ok nmX11 hown hK hP hD hS 1 rfl rfl 1 (by decide) (hts (.fieldLink RX11 116 "Regexloom" "drafted" "I") (List.mem_of_getElem? (i := 8) rfl)) (fun _ h9 => h9) rfl (by decide +kernel) rfl rfl (Nat.le_of_ble_eq_true rfl) dX11_tell_82 (fun H locs hP hD hS => ?_)
  have hP : va_P g.1 vwCl [(h3, .inl (g.2.1 3, 4, .inr (.inr (.inr (.inr (va_up (va_up (va_up (va_up (va_up (fun _ => none) 0 (some h14)) 1 (some h15)) 2 (some h16)) 3 (some h17)) 0 (some h4))))))), (h0, .inr (12, [.ref h1, .int 0, .ref h2, .ref h3, .ref h14, .ref h5, .ref h6, .ref h7, .int (-1), .ref h8, .ref h9, .int 250, .ref h10, .int 0, .ref h11, .ref h12, .ref h13])), (h20, .inr (10, [.int 1, .int 7, .ref h23, .int 7])), (h23, .inl (g.2.1 0, 7, .inl (upd (upd (upd (upd (upd (upd (upd (fun _ => 0) 0 (-1)) 1 (-1)) 2 (-1)) 3 (-1)) 4 (-1)) 5 (-1)) 6 (-1)))), (h5, .inr (8, [.ref h1, .int 0, .int 0, .int (-1), .ref h4, .int 0, .int 0])), (h4, .inr (6, [.ref h18, .ref h19, .ref h20, .int 0, .int 0, .int 1, .int 1, .int 1])), (h18, .inr (10, [.int 10, .int 33, .ref h21, .int 0])), (h19, .inr (10, [.int 2, .int 33, .ref h22, .int 1])), (h22, .inl (g.2.1 0, 64, .inl (upd (upd (fun _ => 0) 0 (-1)) 1 (-1))))] H := hP
  have hD : va_D A [(h3, .inl (g.2.1 3, 4, .inr (.inr (.inr (.inr (va_up (va_up (va_up (va_up (va_up (fun _ => none) 0 (some h14)) 1 (some h15)) 2 (some h16)) 3 (some h17)) 0 (some h4))))))), (h0, .inr (12, [.ref h1, .int 0, .ref h2, .ref h3, .ref h14, .ref h5, .ref h6, .ref h7, .int (-1), .ref h8, .ref h9, .int 250, .ref h10, .int 0, .ref h11, .ref h12, .ref h13])), (h20, .inr (10, [.int 1, .int 7, .ref h23, .int 7])), (h23, .inl (g.2.1 0, 7, .inl (upd (upd (upd (upd (upd (upd (upd (fun _ => 0) 0 (-1)) 1 (-1)) 2 (-1)) 3 (-1)) 4 (-1)) 5 (-1)) 6 (-1)))), (h5, .inr (8, [.ref h1, .int 0, .int 0, .int (-1), .ref h4, .int 0, .int 0])), (h4, .inr (6, [.ref h18, .ref h19, .ref h20, .int 0, .int 0, .int 1, .int 1, .int 1])), (h18, .inr (10, [.int 10, .int 33, .ref h21, .int 0])), (h19, .inr (10, [.int 2, .int 33, .ref h22, .int 1])), (h22, .inl (g.2.1 0, 64, .inl (upd (upd (fun _ => 0) 0 (-1)) 1 (-1))))] := hD
  refine lv_aload_n hx hb dX11_tell_85 rfl (lv_at hl 1 rfl) ?_
  refine va_get (D := g.1) (ci := 12) (v := .ref h3) (C := RX11) (T := TX11) (N := 17) hx hb hts in9_X11_tell_4_RX11 hown hK hP 1 rfl rfl 3 (by decide) (hts (.fieldLink RX11 22 "Regexloom" "patterns" "[LRegexloom$Pattern;") (List.mem_of_getElem? (i := 81) rfl)) (fun _ h9 => h9) rfl dX11_tell_86 ?_
  refine lv_iload_n hx hb dX11_tell_89 rfl (lv_at hl 2 rfl) ?_
  refine va_aldq hx hb hK hP 0 3 rfl rfl (vp_in_nI (n := 0) (by decide) (by decide)) dX11_tell_90 ?_
  refine e_topv (y := .ref h4) (by rfl) ?_
  refine va_get (D := g.1) (ci := 6) (v := .int 0) (C := RX3) (T := TX3) (N := 8) hx hb hts in9_X11_tell_4_RX3 hown hK hP 5 rfl rfl 4 (by decide) (hts (.fieldLink RX11 143 "Regexloom$Pattern" "groups" "I") (List.mem_of_getElem? (i := 111) rfl)) (fun _ h9 => h9) rfl dX11_tell_91 ?_
  have hP9 := hP.sub (ws' := [(h0, .inr (12, [.ref h1, .int 0, .ref h2, .ref h3, .ref h14, .ref h5, .ref h6, .ref h7, .int (-1), .ref h8, .ref h9, .int 250, .ref h10, .int 0, .ref h11, .ref h12, .ref h13])), (h3, .inl (g.2.1 3, 4, .inr (.inr (.inr (.inr (va_up (va_up (va_up (va_up (va_up (fun _ => none) 0 (some h14)) 1 (some h15)) 2 (some h16)) 3 (some h17)) 0 (some h4))))))), (h4, .inr (6, [.ref h18, .ref h19, .ref h20, .int 0, .int 0, .int 1, .int 1, .int 1])), (h18, .inr (10, [.int 10, .int 33, .ref h21, .int 0])), (h19, .inr (10, [.int 2, .int 33, .ref h22, .int 1])), (h22, .inl (g.2.1 0, 64, .inl (upd (upd (fun _ => 0) 0 (-1)) 1 (-1)))), (h20, .inr (10, [.int 1, .int 7, .ref h23, .int 7])), (h23, .inl (g.2.1 0, 7, .inl (upd (upd (upd (upd (upd (upd (upd (fun _ => 0) 0 (-1)) 1 (-1)) 2 (-1)) 3 (-1)) 4 (-1)) 5 (-1)) 6 (-1)))), (h5, .inr (8, [.ref h1, .int 0, .int 0, .int (-1), .ref h4, .int 0, .int 0]))]) [1, 0, 5, 6, 7, 8, 2, 3, 4] rfl
  have hD9 := hD.sub (ws' := [(h0, .inr (12, [.ref h1, .int 0, .ref h2, .ref h3, .ref h14, .ref h5, .ref h6, .ref h7, .int (-1), .ref h8, .ref h9, .int 250, .ref h10, .int 0, .ref h11, .ref h12, .ref h13])), (h3, .inl (g.2.1 3, 4, .inr (.inr (.inr (.inr (va_up (va_up (va_up (va_up (va_up (fun _ => none) 0 (some h14)) 1 (some h15)) 2 (some h16)) 3 (some h17)) 0 (some h4))))))), (h4, .inr (6, [.ref h18, .ref h19, .ref h20, .int 0, .int 0, .int 1, .int 1, .int 1])), (h18, .inr (10, [.int 10, .int 33, .ref h21, .int 0])), (h19, .inr (10, [.int 2, .int 33, .ref h22, .int 1])), (h22, .inl (g.2.1 0, 64, .inl (upd (upd (fun _ => 0) 0 (-1)) 1 (-1)))), (h20, .inr (10, [.int 1, .int 7, .ref h23, .int 7])), (h23, .inl (g.2.1 0, 7, .inl (upd (upd (upd (upd (upd (upd (upd (fun _ => 0) 0 (-1)) 1 (-1)) 2 (-1)) 3 (-1)) 4 (-1)) 5 (-1)) 6 (-1)))), (h5, .inr (8, [.ref h1, .int 0, .int 0, .int (-1), .ref h4, .int 0, .int 0]))]) [1, 0, 5, 6, 7, 8, 2, 3, 4] (by decide) rfl
  subst hAe
  exact W.iret (v := 0) hx hb hr (fun t ht hW => ⟨⟨0, (), rfl, rfl, by rw [ht]; exact hP9, hD9⟩, hS.F ht⟩) hS.2.2 dX11_tell_94
def w9_L_tell_4 : List Cond := [.codeWith yL_tell cL_tell 4 (some .int) [(0, 9, 12, 21), (0, 9, 15, 15)], .methodLink RL 17 yX11_tell, .instanceMethod yX11_tell, .selects RX11 yX11_tell yX11_tell, .initialized RX11, .code yX11_tell cX11_tell 3 (some .int), .methodLink RX11 124 yX11_needPattern, .instanceMethod yX11_needPattern, .selects RX11 yX11_needPattern yX11_needPattern, .code yX11_needPattern cX11_needPattern 2 none, .fieldLink RX11 34 "Regexloom" "reader" "LRegexloom$Reader;", .fieldLink RX11 9 "Regexloom" "draft" "[C", .fieldLink RX11 116 "Regexloom" "drafted" "I", .fieldLink RX11 27 "Regexloom" "spare" "LRegexloom$Pattern;", .methodLink RX11 127 yX5_read, .instanceMethod yX5_read, .selects RX5 yX5_read yX5_read, .initialized RX5, .code yX5_read cX5_read 4 (some .int), .fieldLink RX5 9 "Regexloom$Reader" "draft" "[C", .fieldLink RX5 15 "Regexloom$Reader" "size" "I", .fieldLink RX5 19 "Regexloom$Reader" "at" "I", .fieldLink RX5 22 "Regexloom$Reader" "fault" "I", .fieldLink RX5 25 "Regexloom$Reader" "into" "LRegexloom$Pattern;", .fieldLink RX5 29 "Regexloom$Reader" "number" "I", .fieldLink RX5 32 "Regexloom$Reader" "highestNeeded" "I", .methodLink RX5 35 yX3_empty, .instanceMethod yX3_empty, .selects RX3 yX3_empty yX3_empty, .initialized RX3, .code yX3_empty cX3_empty 2 none, .fieldLink RX3 14 "Regexloom$Pattern" "pieces" "LRegexloom$Table;", .methodLink RX3 26 yX9_cutTo, .instanceMethod yX9_cutTo, .selects RX9 yX9_cutTo yX9_cutTo, .initialized RX9, .code yX9_cutTo cX9_cutTo 2 none, .fieldLink RX9 28 "Regexloom$Table" "size" "I", .fieldLink RX3 20 "Regexloom$Pattern" "branches" "LRegexloom$Table;", .fieldLink RX3 23 "Regexloom$Pattern" "firstGroups" "LRegexloom$Table;", .methodLink RX3 30 yX9_reach, .instanceMethod yX9_reach, .selects RX9 yX9_reach yX9_reach, .code yX9_reach cX9_reach 3 none, .fieldLink RX9 15 "Regexloom$Table" "most" "I", .methodLink RX9 18 Lib.Math.min.name, .static Lib.Math.min.name, .initialized "java/lang/Math", .code Lib.Math.min.name Lib.Math.min.code 2 (some .int), .fieldLink RX9 9 "Regexloom$Table" "width" "I", .fieldLink RX9 24 "Regexloom$Table" "cells" "[I", .methodLink RX3 33 yX9_put, .instanceMethod yX9_put, .selects RX9 yX9_put yX9_put, .code yX9_put cX9_put 4 none, .fieldLink RX3 37 "Regexloom$Pattern" "root" "I", .fieldLink RX3 41 "Regexloom$Pattern" "groups" "I", .fieldLink RX3 44 "Regexloom$Pattern" "isTold" "Z", .fieldLink RX3 48 "Regexloom$Pattern" "isPlain" "Z", .fieldLink RX3 51 "Regexloom$Pattern" "isRegular" "Z", .methodLink RX5 40 yX5_readBranches, .instanceMethod yX5_readBranches, .selects RX5 yX5_readBranches yX5_readBranches, .code yX5_readBranches cX5_readBranches 10 (some .int), .methodLink RX5 57 yX3_addBranch, .instanceMethod yX3_addBranch, .selects RX3 yX3_addBranch yX3_addBranch, .code yX3_addBranch cX3_addBranch 2 (some .int), .methodLink RX3 58 yX9_add, .instanceMethod yX9_add, .selects RX9 yX9_add yX9_add, .code yX9_add cX9_add 1 (some .int), .methodLink RX5 61 yX5_readRow, .instanceMethod yX5_readRow, .selects RX5 yX5_readRow yX5_readRow, .code yX5_readRow cX5_readRow 7 none, .methodLink RX5 53 yX5_peek, .instanceMethod yX5_peek, .selects RX5 yX5_peek yX5_peek, .code yX5_peek cX5_peek 1 (some .char), .methodLink RX5 65 Lib.Math.max.name, .static Lib.Math.max.name, .code Lib.Math.max.name Lib.Math.max.code 2 (some .int), .fieldLink RX5 44 "Regexloom$Pattern" "root" "I", .fieldLink RX5 50 "Regexloom$Pattern" "groups" "I", .fieldLink RX11 22 "Regexloom" "patterns" "[LRegexloom$Pattern;", .fieldLink RX11 133 "Regexloom$Pattern" "isTold" "Z", .methodLink RX11 137 yX7_measure, .static yX7_measure, .initialized RX7, .code yX7_measure cX7_measure 5 none, .fieldLink RX7 9 "Regexloom$Pattern" "root" "I", .methodLink RX7 15 yX7_weightOfBody, .static yX7_weightOfBody, .code yX7_weightOfBody cX7_weightOfBody 9 (some .int), .methodLink RX7 68 yX3_firstPiece, .instanceMethod yX3_firstPiece, .selects RX3 yX3_firstPiece yX3_firstPiece, .code yX3_firstPiece cX3_firstPiece 2 (some .int), .methodLink RX3 54 yX9_get, .instanceMethod yX9_get, .selects RX9 yX9_get yX9_get, .code yX9_get cX9_get 3 (some .int), .methodLink RX7 64 yX3_nextBranch, .instanceMethod yX3_nextBranch, .selects RX3 yX3_nextBranch yX3_nextBranch, .code yX3_nextBranch cX3_nextBranch 2 (some .int), .fieldLink RX7 21 "Regexloom$Pattern" "pieces" "LRegexloom$Table;", .methodLink RX7 25 yX9_size, .instanceMethod yX9_size, .selects RX9 yX9_size yX9_size, .code yX9_size cX9_size 1 (some .int), .fieldLink RX7 49 "Regexloom$Pattern" "isPlain" "Z", .fieldLink RX7 53 "Regexloom$Pattern" "isRegular" "Z", .fieldLink RX11 52 "Regexloom" "compiled" "I", .fieldLink RX11 143 "Regexloom$Pattern" "groups" "I"] ++ (u_ws RX11 TX11 17 ++ u_ws RX5 TX5 7 ++ u_ws RX3 TX3 8 ++ u_ws RX9 TX9 4)
set_option maxRecDepth 20000 in
theorem in9_L_tell_4_RX11 : ∀ w ∈ u_ws RX11 TX11 17, w ∈ w9_L_tell_4 := by decide +kernel
set_option maxRecDepth 20000 in
theorem in9_L_tell_4_RX5 : ∀ w ∈ u_ws RX5 TX5 7, w ∈ w9_L_tell_4 := by decide +kernel
set_option maxRecDepth 20000 in
theorem in9_L_tell_4_RX3 : ∀ w ∈ u_ws RX3 TX3 8, w ∈ w9_L_tell_4 := by decide +kernel
set_option maxRecDepth 20000 in
theorem in9_L_tell_4_RX9 : ∀ w ∈ u_ws RX9 TX9 4, w ∈ w9_L_tell_4 := by decide +kernel
set_option maxRecDepth 20000 in
theorem g9_L_tell_4_0 : GoodIn w9_L_tell_4 (wsV RL 17 RX11 yX11_tell w9_X11_tell_4) := goodIn_r _ [1, 2, 3, 4, 5, 6, 7, 8, 4, 9, 10, 11, 12, 13, 14, 15, 16, 17, 18, 19, 20, 21, 22, 23, 24, 25, 26, 27, 28, 29, 30, 31, 32, 33, 34, 35, 36, 37, 38, 39, 40, 41, 42, 43, 44, 45, 46, 47, 48, 49, 50, 51, 52, 53, 54, 55, 56, 57, 58, 59, 60, 61, 62, 63, 64, 65, 66, 67, 68, 69, 70, 71, 72, 73, 74, 75, 76, 77, 78, 79, 80, 81, 82, 83, 84, 85, 86, 87, 88, 89, 90, 91, 92, 93, 94, 95, 96, 97, 98, 99, 100, 101, 102, 103, 104, 105, 106, 107, 108, 109, 110, 111, 112, 113, 114, 115, 116, 117, 118, 119, 120, 121, 122, 123, 124, 125, 126, 127, 128, 129, 130, 131, 132, 133, 134, 135, 136, 137, 138, 139, 140, 141, 142, 143, 144, 145, 146, 147, 148, 149, 150, 151] (by decide +kernel) (by decide +kernel)
set_option maxHeartbeats 4000000 in
set_option maxRecDepth 100000 in
theorem c9_L_tell_4 (l : Launch) (g : G9) (h0 h1 h2 h3 h4 h5 h6 h7 h8 h9 h10 h11 h12 h13 h14 h15 h16 h17 h18 h19 h20 h21 h22 h23 h24 sz : Nat) : Met l yL_tell w9_L_tell_4 ({ frames := 5, cells := 0, slots := 0, locals := 118 }) (mP g [(h0, .inr (12, [.ref h2, .int 0, .ref h3, .ref h4, .ref h5, .ref h6, .ref h7, .ref h8, .int (-1), .ref h9, .ref h10, .int 250, .ref h11, .int 0, .ref h12, .ref h13, .ref h14])), (h4, .inl (g.2.1 3, 4, .inr (.inr (.inr (.inr (va_up (va_up (va_up (va_up (fun _ => none) 0 (some h15)) 1 (some h16)) 2 (some h17)) 3 (some h18))))))), (h5, .inr (6, [.ref h19, .ref h20, .ref h21, .int 0, .int 0, .int 0, .int 0, .int 0])), (h19, .inr (10, [.int 10, .int 33, .ref h22, .int 0])), (h20, .inr (10, [.int 2, .int 33, .ref h23, .int 0])), (h23, .inl (g.2.1 0, 64, .inl (fun _ => 0))), (h21, .inr (10, [.int 1, .int 7, .ref h24, .int 0])), (h24, .inl (g.2.1 0, 7, .inl (fun _ => 0))), (h6, .inr (8, [.null, .int 0, .int 0, .int 0, .null, .int 0, .int 0])), (h1, .inl (g.2.1 2, 1, .inr (.inl (fun _ => 0))))] sz [.ref h0, .int 0, .ref h1]) (va_Qi (fun (r : Int32) (_ : Unit) => r = 0) (fun (_ : Unit) (t : State) => mB g [(h0, .inr (12, [.ref h2, .int 0, .ref h3, .ref h4, .ref h5, .ref h6, .ref h7, .ref h8, .int (-1), .ref h9, .ref h10, .int 250, .ref h11, .int 0, .ref h12, .ref h13, .ref h14])), (h4, .inl (g.2.1 3, 4, .inr (.inr (.inr (.inr (va_up (va_up (va_up (va_up (fun _ => none) 0 (some h15)) 1 (some h16)) 2 (some h17)) 3 (some h18))))))), (h5, .inr (6, [.ref h19, .ref h20, .ref h21, .int 0, .int 0, .int 0, .int 0, .int 0])), (h19, .inr (10, [.int 10, .int 33, .ref h22, .int 0])), (h20, .inr (10, [.int 2, .int 33, .ref h23, .int 0])), (h23, .inl (g.2.1 0, 64, .inl (fun _ => 0))), (h21, .inr (10, [.int 1, .int 7, .ref h24, .int 0])), (h24, .inl (g.2.1 0, 7, .inl (fun _ => 0))), (h6, .inr (8, [.null, .int 0, .int 0, .int 0, .null, .int 0, .int 0])), (h1, .inl (g.2.1 2, 1, .inr (.inl (fun _ => 0))))] sz [(h0, .inr (12, [.ref h2, .int 0, .ref h3, .ref h4, .ref h15, .ref h6, .ref h7, .ref h8, .int (-1), .ref h9, .ref h10, .int 250, .ref h11, .int 0, .ref h12, .ref h13, .ref h14])), (h4, .inl (g.2.1 3, 4, .inr (.inr (.inr (.inr (va_up (va_up (va_up (va_up (va_up (fun _ => none) 0 (some h15)) 1 (some h16)) 2 (some h17)) 3 (some h18)) 0 (some h5))))))), (h5, .inr (6, [.ref h19, .ref h20, .ref h21, .int 0, .int 0, .int 1, .int 1, .int 1])), (h19, .inr (10, [.int 10, .int 33, .ref h22, .int 0])), (h20, .inr (10, [.int 2, .int 33, .ref h23, .int 1])), (h23, .inl (g.2.1 0, 64, .inl (upd (upd (fun _ => 0) 0 (-1)) 1 (-1)))), (h21, .inr (10, [.int 1, .int 7, .ref h24, .int 7])), (h24, .inl (g.2.1 0, 7, .inl (upd (upd (upd (upd (upd (upd (upd (fun _ => 0) 0 (-1)) 1 (-1)) 2 (-1)) 3 (-1)) 4 (-1)) 5 (-1)) 6 (-1)))), (h6, .inr (8, [.ref h2, .int 0, .int 0, .int (-1), .ref h5, .int 0, .int 0])), (h1, .inl (g.2.1 2, 1, .inr (.inl (vp_updL (fun _ => 0) 0 0))))] t) (va_A [(h0, .inr (12, [.ref h2, .int 0, .ref h3, .ref h4, .ref h5, .ref h6, .ref h7, .ref h8, .int (-1), .ref h9, .ref h10, .int 250, .ref h11, .int 0, .ref h12, .ref h13, .ref h14])), (h4, .inl (g.2.1 3, 4, .inr (.inr (.inr (.inr (va_up (va_up (va_up (va_up (fun _ => none) 0 (some h15)) 1 (some h16)) 2 (some h17)) 3 (some h18))))))), (h5, .inr (6, [.ref h19, .ref h20, .ref h21, .int 0, .int 0, .int 0, .int 0, .int 0])), (h19, .inr (10, [.int 10, .int 33, .ref h22, .int 0])), (h20, .inr (10, [.int 2, .int 33, .ref h23, .int 0])), (h23, .inl (g.2.1 0, 64, .inl (fun _ => 0))), (h21, .inr (10, [.int 1, .int 7, .ref h24, .int 0])), (h24, .inl (g.2.1 0, 7, .inl (fun _ => 0))), (h6, .inr (8, [.null, .int 0, .int 0, .int 0, .null, .int 0, .int 0])), (h1, .inl (g.2.1 2, 1, .inr (.inl (fun _ => 0))))] sz)) 0 0 (va_A [(h0, .inr (12, [.ref h2, .int 0, .ref h3, .ref h4, .ref h5, .ref h6, .ref h7, .ref h8, .int (-1), .ref h9, .ref h10, .int 250, .ref h11, .int 0, .ref h12, .ref h13, .ref h14])), (h4, .inl (g.2.1 3, 4, .inr (.inr (.inr (.inr (va_up (va_up (va_up (va_up (fun _ => none) 0 (some h15)) 1 (some h16)) 2 (some h17)) 3 (some h18))))))), (h5, .inr (6, [.ref h19, .ref h20, .ref h21, .int 0, .int 0, .int 0, .int 0, .int 0])), (h19, .inr (10, [.int 10, .int 33, .ref h22, .int 0])), (h20, .inr (10, [.int 2, .int 33, .ref h23, .int 0])), (h23, .inl (g.2.1 0, 64, .inl (fun _ => 0))), (h21, .inr (10, [.int 1, .int 7, .ref h24, .int 0])), (h24, .inl (g.2.1 0, 7, .inl (fun _ => 0))), (h6, .inr (8, [.null, .int 0, .int 0, .int 0, .null, .int 0, .int 0])), (h1, .inl (g.2.1 2, 1, .inr (.inl (fun _ => 0))))] sz) := by
  refine va_MetW (cc := cL_tell) (maxL := 4) (ret := (some .int)) (by decide) rfl ?_
  intro p e s m args below meth c s₁ B hml hv
  obtain ⟨rfl, hsz, hP, hD0, hE⟩ := hv
  have hx := B.exec
  have hb := B.bytes
  have hr := B.returns
  have hts := atoms_spec (ws := w9_L_tell_4) B.pre
  have hown : s.vm.findClass RL = some m.cls := findClass_of_methodNamed B.named
  have hlocks := B.notSynchronized
  have htab := vx_table (x := yL_tell) B (hts (.codeWith yL_tell cL_tell 4 (some .int) [(0, 9, 12, 21), (0, 9, 15, 15)]) (List.mem_of_getElem? (i := 0) rfl))
  subst hsz
  have hD := hD0.self (sz := s.heap.size)
  generalize hAe : va_A [(h0, .inr (12, [.ref h2, .int 0, .ref h3, .ref h4, .ref h5, .ref h6, .ref h7, .ref h8, .int (-1), .ref h9, .ref h10, .int 250, .ref h11, .int 0, .ref h12, .ref h13, .ref h14])), (h4, .inl (g.2.1 3, 4, .inr (.inr (.inr (.inr (va_up (va_up (va_up (va_up (fun _ => none) 0 (some h15)) 1 (some h16)) 2 (some h17)) 3 (some h18))))))), (h5, .inr (6, [.ref h19, .ref h20, .ref h21, .int 0, .int 0, .int 0, .int 0, .int 0])), (h19, .inr (10, [.int 10, .int 33, .ref h22, .int 0])), (h20, .inr (10, [.int 2, .int 33, .ref h23, .int 0])), (h23, .inl (g.2.1 0, 64, .inl (fun _ => 0))), (h21, .inr (10, [.int 1, .int 7, .ref h24, .int 0])), (h24, .inl (g.2.1 0, 7, .inl (fun _ => 0))), (h6, .inr (8, [.null, .int 0, .int 0, .int 0, .null, .int 0, .int 0])), (h1, .inl (g.2.1 2, 1, .inr (.inl (fun _ => 0))))] s.heap.size = A at hD hE ⊢
  have hA : ∀ q : Nat, s.heap.size ≤ q → A q := fun q h => by rw [← hAe]; exact Or.inr h
  have hK := hE.1
  have hS : va_S A s.heap s.heap [] := va_S.rf
  replace hP : va_P g.1 vwCl [(h0, .inr (12, [.ref h2, .int 0, .ref h3, .ref h4, .ref h5, .ref h6, .ref h7, .ref h8, .int (-1), .ref h9, .ref h10, .int 250, .ref h11, .int 0, .ref h12, .ref h13, .ref h14])), (h4, .inl (g.2.1 3, 4, .inr (.inr (.inr (.inr (va_up (va_up (va_up (va_up (fun _ => none) 0 (some h15)) 1 (some h16)) 2 (some h17)) 3 (some h18))))))), (h5, .inr (6, [.ref h19, .ref h20, .ref h21, .int 0, .int 0, .int 0, .int 0, .int 0])), (h19, .inr (10, [.int 10, .int 33, .ref h22, .int 0])), (h20, .inr (10, [.int 2, .int 33, .ref h23, .int 0])), (h23, .inl (g.2.1 0, 64, .inl (fun _ => 0))), (h21, .inr (10, [.int 1, .int 7, .ref h24, .int 0])), (h24, .inl (g.2.1 0, 7, .inl (fun _ => 0))), (h6, .inr (8, [.null, .int 0, .int 0, .int 0, .null, .int 0, .int 0])), (h1, .inl (g.2.1 2, 1, .inr (.inl (fun _ => 0))))] s.heap := hP
  have hl := lv_entry ([.ref h0, .int 0, .ref h1]) (n := 4) (Nat.le_of_ble_eq_true rfl)
  rw [lg_entry_eq]
  generalize (lg_sl ([.ref h0, .int 0, .ref h1]) ++ List.replicate (4 - (lg_sl ([.ref h0, .int 0, .ref h1])).length) Slot.unset).toArray = ls at hl ⊢
  replace hl : lv_has ls 4 [(0, .ref h0), (1, .int 0), (2, .ref h1)] := hl
  have hH0 : s.heap.size ≤ s.heap.size := Nat.le_refl _
  refine lv_aload_n hx hb dL_tell_0 rfl (lv_at hl 2 rfl) ?_
  refine lv_iconst (v := 0) hx hb dL_tell_1 (by decide) ?_
  refine lv_aload_n hx hb dL_tell_2 rfl (lv_at hl 0 rfl) ?_
  refine lv_iload_n hx hb dL_tell_3 rfl (lv_at hl 1 rfl) ?_
  have hPc := hP.sub (ws' := [(h0, .inr (12, [.ref h2, .int 0, .ref h3, .ref h4, .ref h5, .ref h6, .ref h7, .ref h8, .int (-1), .ref h9, .ref h10, .int 250, .ref h11, .int 0, .ref h12, .ref h13, .ref h14])), (h4, .inl (g.2.1 3, 4, .inr (.inr (.inr (.inr (va_up (va_up (va_up (va_up (fun _ => none) 0 (some h15)) 1 (some h16)) 2 (some h17)) 3 (some h18))))))), (h5, .inr (6, [.ref h19, .ref h20, .ref h21, .int 0, .int 0, .int 0, .int 0, .int 0])), (h19, .inr (10, [.int 10, .int 33, .ref h22, .int 0])), (h20, .inr (10, [.int 2, .int 33, .ref h23, .int 0])), (h23, .inl (g.2.1 0, 64, .inl (fun _ => 0))), (h21, .inr (10, [.int 1, .int 7, .ref h24, .int 0])), (h24, .inl (g.2.1 0, 7, .inl (fun _ => 0))), (h6, .inr (8, [.null, .int 0, .int 0, .int 0, .null, .int 0, .int 0]))]) [0, 1, 2, 3, 4, 5, 6, 7, 8] rfl
  have hDc := hD.sub (ws' := [(h0, .inr (12, [.ref h2, .int 0, .ref h3, .ref h4, .ref h5, .ref h6, .ref h7, .ref h8, .int (-1), .ref h9, .ref h10, .int 250, .ref h11, .int 0, .ref h12, .ref h13, .ref h14])), (h4, .inl (g.2.1 3, 4, .inr (.inr (.inr (.inr (va_up (va_up (va_up (va_up (fun _ => none) 0 (some h15)) 1 (some h16)) 2 (some h17)) 3 (some h18))))))), (h5, .inr (6, [.ref h19, .ref h20, .ref h21, .int 0, .int 0, .int 0, .int 0, .int 0])), (h19, .inr (10, [.int 10, .int 33, .ref h22, .int 0])), (h20, .inr (10, [.int 2, .int 33, .ref h23, .int 0])), (h23, .inl (g.2.1 0, 64, .inl (fun _ => 0))), (h21, .inr (10, [.int 1, .int 7, .ref h24, .int 0])), (h24, .inl (g.2.1 0, 7, .inl (fun _ => 0))), (h6, .inr (8, [.null, .int 0, .int 0, .int 0, .null, .int 0, .int 0]))]) [0, 1, 2, 3, 4, 5, 6, 7, 8] (by decide) rfl
  have hFc := va_free (wc := [(h0, .inr (12, [.ref h2, .int 0, .ref h3, .ref h4, .ref h5, .ref h6, .ref h7, .ref h8, .int (-1), .ref h9, .ref h10, .int 250, .ref h11, .int 0, .ref h12, .ref h13, .ref h14])), (h4, .inl (g.2.1 3, 4, .inr (.inr (.inr (.inr (va_up (va_up (va_up (va_up (fun _ => none) 0 (some h15)) 1 (some h16)) 2 (some h17)) 3 (some h18))))))), (h5, .inr (6, [.ref h19, .ref h20, .ref h21, .int 0, .int 0, .int 0, .int 0, .int 0])), (h19, .inr (10, [.int 10, .int 33, .ref h22, .int 0])), (h20, .inr (10, [.int 2, .int 33, .ref h23, .int 0])), (h23, .inl (g.2.1 0, 64, .inl (fun _ => 0))), (h21, .inr (10, [.int 1, .int 7, .ref h24, .int 0])), (h24, .inl (g.2.1 0, 7, .inl (fun _ => 0))), (h6, .inr (8, [.null, .int 0, .int 0, .int 0, .null, .int 0, .int 0]))]) hD hS hA [0, 1, 2, 3, 4, 5, 6, 7, 8] rfl
  refine va_calli (va_runV (As := [.int 0]) (rest := [.int 0, .ref h1]) ⟨hx, hb, hml, hown, hts⟩ (c9_X11_tell_4 l g h0 h2 h3 h4 h5 h6 h7 h8 h9 h10 h11 h12 h13 h14 h15 h16 h17 h18 h19 h20 h21 h22 h23 h24 _) (cwV 1 hts g9_L_tell_4_0 rfl rfl rfl (by decide +kernel) ⟨Nat.le_of_ble_eq_true rfl, Nat.le_of_ble_eq_true rfl⟩) (mPreV (g := g) (wc := [(h0, .inr (12, [.ref h2, .int 0, .ref h3, .ref h4, .ref h5, .ref h6, .ref h7, .ref h8, .int (-1), .ref h9, .ref h10, .int 250, .ref h11, .int 0, .ref h12, .ref h13, .ref h14])), (h4, .inl (g.2.1 3, 4, .inr (.inr (.inr (.inr (va_up (va_up (va_up (va_up (fun _ => none) 0 (some h15)) 1 (some h16)) 2 (some h17)) 3 (some h18))))))), (h5, .inr (6, [.ref h19, .ref h20, .ref h21, .int 0, .int 0, .int 0, .int 0, .int 0])), (h19, .inr (10, [.int 10, .int 33, .ref h22, .int 0])), (h20, .inr (10, [.int 2, .int 33, .ref h23, .int 0])), (h23, .inl (g.2.1 0, 64, .inl (fun _ => 0))), (h21, .inr (10, [.int 1, .int 7, .ref h24, .int 0])), (h24, .inl (g.2.1 0, 7, .inl (fun _ => 0))), (h6, .inr (8, [.null, .int 0, .int 0, .int 0, .null, .int 0, .int 0]))]) (C := RX11) (ci := 12) (q0 := 0) hE hS hPc hDc hFc rfl rfl) rfl rfl hl.1 rfl (lv_room (Nat.le_of_ble_eq_true rfl)) dL_tell_4 ⟨Nat.le_of_ble_eq_true rfl, Nat.le_of_ble_eq_true rfl⟩) hS (fun q _ h => hFc q h) hFc (fun r_1 u t H1 locs ht hvm hw hB hz1 hk1 hS => ?_)
  replace hw : 0 = r_1 := Eq.symm hw
  subst hw
  obtain ⟨hP1, hD1⟩ := hB
  rw [ht] at hP1
  obtain ⟨hP, hD⟩ := va_join (wr := [(h1, .inl (g.2.1 2, 1, .inr (.inl (fun _ => 0))))]) (w1 := [(h0, .inr (12, [.ref h2, .int 0, .ref h3, .ref h4, .ref h15, .ref h6, .ref h7, .ref h8, .int (-1), .ref h9, .ref h10, .int 250, .ref h11, .int 0, .ref h12, .ref h13, .ref h14])), (h4, .inl (g.2.1 3, 4, .inr (.inr (.inr (.inr (va_up (va_up (va_up (va_up (va_up (fun _ => none) 0 (some h15)) 1 (some h16)) 2 (some h17)) 3 (some h18)) 0 (some h5))))))), (h5, .inr (6, [.ref h19, .ref h20, .ref h21, .int 0, .int 0, .int 1, .int 1, .int 1])), (h19, .inr (10, [.int 10, .int 33, .ref h22, .int 0])), (h20, .inr (10, [.int 2, .int 33, .ref h23, .int 1])), (h23, .inl (g.2.1 0, 64, .inl (upd (upd (fun _ => 0) 0 (-1)) 1 (-1)))), (h21, .inr (10, [.int 1, .int 7, .ref h24, .int 7])), (h24, .inl (g.2.1 0, 7, .inl (upd (upd (upd (upd (upd (upd (upd (fun _ => 0) 0 (-1)) 1 (-1)) 2 (-1)) 3 (-1)) 4 (-1)) 5 (-1)) 6 (-1)))), (h6, .inr (8, [.ref h2, .int 0, .int 0, .int (-1), .ref h5, .int 0, .int 0]))]) hP hD [0, 1, 2, 3, 4, 5, 6, 7, 8] [9] rfl rfl (by decide) (by decide) hk1 hFc hP1 hD1
  clear hP1 hD1 hPc hDc hFc hk1 hz1 hvm ht
  generalize H1 = H at hP hS ⊢
  have hP : va_P g.1 vwCl [(h1, .inl (g.2.1 2, 1, .inr (.inl (fun _ => 0)))), (h0, .inr (12, [.ref h2, .int 0, .ref h3, .ref h4, .ref h15, .ref h6, .ref h7, .ref h8, .int (-1), .ref h9, .ref h10, .int 250, .ref h11, .int 0, .ref h12, .ref h13, .ref h14])), (h4, .inl (g.2.1 3, 4, .inr (.inr (.inr (.inr (va_up (va_up (va_up (va_up (va_up (fun _ => none) 0 (some h15)) 1 (some h16)) 2 (some h17)) 3 (some h18)) 0 (some h5))))))), (h5, .inr (6, [.ref h19, .ref h20, .ref h21, .int 0, .int 0, .int 1, .int 1, .int 1])), (h19, .inr (10, [.int 10, .int 33, .ref h22, .int 0])), (h20, .inr (10, [.int 2, .int 33, .ref h23, .int 1])), (h23, .inl (g.2.1 0, 64, .inl (upd (upd (fun _ => 0) 0 (-1)) 1 (-1)))), (h21, .inr (10, [.int 1, .int 7, .ref h24, .int 7])), (h24, .inl (g.2.1 0, 7, .inl (upd (upd (upd (upd (upd (upd (upd (fun _ => 0) 0 (-1)) 1 (-1)) 2 (-1)) 3 (-1)) 4 (-1)) 5 (-1)) 6 (-1)))), (h6, .inr (8, [.ref h2, .int 0, .int 0, .int (-1), .ref h5, .int 0, .int 0]))] H := hP
  have hD : va_D A [(h1, .inl (g.2.1 2, 1, .inr (.inl (fun _ => 0)))), (h0, .inr (12, [.ref h2, .int 0, .ref h3, .ref h4, .ref h15, .ref h6, .ref h7, .ref h8, .int (-1), .ref h9, .ref h10, .int 250, .ref h11, .int 0, .ref h12, .ref h13, .ref h14])), (h4, .inl (g.2.1 3, 4, .inr (.inr (.inr (.inr (va_up (va_up (va_up (va_up (va_up (fun _ => none) 0 (some h15)) 1 (some h16)) 2 (some h17)) 3 (some h18)) 0 (some h5))))))), (h5, .inr (6, [.ref h19, .ref h20, .ref h21, .int 0, .int 0, .int 1, .int 1, .int 1])), (h19, .inr (10, [.int 10, .int 33, .ref h22, .int 0])), (h20, .inr (10, [.int 2, .int 33, .ref h23, .int 1])), (h23, .inl (g.2.1 0, 64, .inl (upd (upd (fun _ => 0) 0 (-1)) 1 (-1)))), (h21, .inr (10, [.int 1, .int 7, .ref h24, .int 7])), (h24, .inl (g.2.1 0, 7, .inl (upd (upd (upd (upd (upd (upd (upd (fun _ => 0) 0 (-1)) 1 (-1)) 2 (-1)) 3 (-1)) 4 (-1)) 5 (-1)) 6 (-1)))), (h6, .inr (8, [.ref h2, .int 0, .int 0, .int (-1), .ref h5, .int 0, .int 0]))] := hD
  refine lv_i2l (v := 0) hx hb dL_tell_7 (by decide) ?_
  refine va_last hx hb hK hP hD hS 0 2 rfl rfl (vp_in_nI (n := 0) (by decide) (by decide)) dL_tell_8 (fun H locs hP hD hS => ?_)
  have hP : va_P g.1 vwCl [(h1, .inl (g.2.1 2, 1, .inr (.inl (vp_updL (fun _ => 0) 0 0)))), (h0, .inr (12, [.ref h2, .int 0, .ref h3, .ref h4, .ref h15, .ref h6, .ref h7, .ref h8, .int (-1), .ref h9, .ref h10, .int 250, .ref h11, .int 0, .ref h12, .ref h13, .ref h14])), (h4, .inl (g.2.1 3, 4, .inr (.inr (.inr (.inr (va_up (va_up (va_up (va_up (va_up (fun _ => none) 0 (some h15)) 1 (some h16)) 2 (some h17)) 3 (some h18)) 0 (some h5))))))), (h5, .inr (6, [.ref h19, .ref h20, .ref h21, .int 0, .int 0, .int 1, .int 1, .int 1])), (h19, .inr (10, [.int 10, .int 33, .ref h22, .int 0])), (h20, .inr (10, [.int 2, .int 33, .ref h23, .int 1])), (h23, .inl (g.2.1 0, 64, .inl (upd (upd (fun _ => 0) 0 (-1)) 1 (-1)))), (h21, .inr (10, [.int 1, .int 7, .ref h24, .int 7])), (h24, .inl (g.2.1 0, 7, .inl (upd (upd (upd (upd (upd (upd (upd (fun _ => 0) 0 (-1)) 1 (-1)) 2 (-1)) 3 (-1)) 4 (-1)) 5 (-1)) 6 (-1)))), (h6, .inr (8, [.ref h2, .int 0, .int 0, .int (-1), .ref h5, .int 0, .int 0]))] H := hP
  have hD : va_D A [(h1, .inl (g.2.1 2, 1, .inr (.inl (vp_updL (fun _ => 0) 0 0)))), (h0, .inr (12, [.ref h2, .int 0, .ref h3, .ref h4, .ref h15, .ref h6, .ref h7, .ref h8, .int (-1), .ref h9, .ref h10, .int 250, .ref h11, .int 0, .ref h12, .ref h13, .ref h14])), (h4, .inl (g.2.1 3, 4, .inr (.inr (.inr (.inr (va_up (va_up (va_up (va_up (va_up (fun _ => none) 0 (some h15)) 1 (some h16)) 2 (some h17)) 3 (some h18)) 0 (some h5))))))), (h5, .inr (6, [.ref h19, .ref h20, .ref h21, .int 0, .int 0, .int 1, .int 1, .int 1])), (h19, .inr (10, [.int 10, .int 33, .ref h22, .int 0])), (h20, .inr (10, [.int 2, .int 33, .ref h23, .int 1])), (h23, .inl (g.2.1 0, 64, .inl (upd (upd (fun _ => 0) 0 (-1)) 1 (-1)))), (h21, .inr (10, [.int 1, .int 7, .ref h24, .int 7])), (h24, .inl (g.2.1 0, 7, .inl (upd (upd (upd (upd (upd (upd (upd (fun _ => 0) 0 (-1)) 1 (-1)) 2 (-1)) 3 (-1)) 4 (-1)) 5 (-1)) 6 (-1)))), (h6, .inr (8, [.ref h2, .int 0, .int 0, .int (-1), .ref h5, .int 0, .int 0]))] := hD
  refine lv_goto (tgt := 18) hx hb dL_tell_9 (by decide) ?_
  refine lv_iconst (v := 0) hx hb dL_tell_18 (by decide) ?_
  have hP9 := hP.sub (ws' := [(h0, .inr (12, [.ref h2, .int 0, .ref h3, .ref h4, .ref h15, .ref h6, .ref h7, .ref h8, .int (-1), .ref h9, .ref h10, .int 250, .ref h11, .int 0, .ref h12, .ref h13, .ref h14])), (h4, .inl (g.2.1 3, 4, .inr (.inr (.inr (.inr (va_up (va_up (va_up (va_up (va_up (fun _ => none) 0 (some h15)) 1 (some h16)) 2 (some h17)) 3 (some h18)) 0 (some h5))))))), (h5, .inr (6, [.ref h19, .ref h20, .ref h21, .int 0, .int 0, .int 1, .int 1, .int 1])), (h19, .inr (10, [.int 10, .int 33, .ref h22, .int 0])), (h20, .inr (10, [.int 2, .int 33, .ref h23, .int 1])), (h23, .inl (g.2.1 0, 64, .inl (upd (upd (fun _ => 0) 0 (-1)) 1 (-1)))), (h21, .inr (10, [.int 1, .int 7, .ref h24, .int 7])), (h24, .inl (g.2.1 0, 7, .inl (upd (upd (upd (upd (upd (upd (upd (fun _ => 0) 0 (-1)) 1 (-1)) 2 (-1)) 3 (-1)) 4 (-1)) 5 (-1)) 6 (-1)))), (h6, .inr (8, [.ref h2, .int 0, .int 0, .int (-1), .ref h5, .int 0, .int 0])), (h1, .inl (g.2.1 2, 1, .inr (.inl (vp_updL (fun _ => 0) 0 0))))]) [1, 2, 3, 4, 5, 6, 7, 8, 9, 0] rfl
  have hD9 := hD.sub (ws' := [(h0, .inr (12, [.ref h2, .int 0, .ref h3, .ref h4, .ref h15, .ref h6, .ref h7, .ref h8, .int (-1), .ref h9, .ref h10, .int 250, .ref h11, .int 0, .ref h12, .ref h13, .ref h14])), (h4, .inl (g.2.1 3, 4, .inr (.inr (.inr (.inr (va_up (va_up (va_up (va_up (va_up (fun _ => none) 0 (some h15)) 1 (some h16)) 2 (some h17)) 3 (some h18)) 0 (some h5))))))), (h5, .inr (6, [.ref h19, .ref h20, .ref h21, .int 0, .int 0, .int 1, .int 1, .int 1])), (h19, .inr (10, [.int 10, .int 33, .ref h22, .int 0])), (h20, .inr (10, [.int 2, .int 33, .ref h23, .int 1])), (h23, .inl (g.2.1 0, 64, .inl (upd (upd (fun _ => 0) 0 (-1)) 1 (-1)))), (h21, .inr (10, [.int 1, .int 7, .ref h24, .int 7])), (h24, .inl (g.2.1 0, 7, .inl (upd (upd (upd (upd (upd (upd (upd (fun _ => 0) 0 (-1)) 1 (-1)) 2 (-1)) 3 (-1)) 4 (-1)) 5 (-1)) 6 (-1)))), (h6, .inr (8, [.ref h2, .int 0, .int 0, .int (-1), .ref h5, .int 0, .int 0])), (h1, .inl (g.2.1 2, 1, .inr (.inl (vp_updL (fun _ => 0) 0 0))))]) [1, 2, 3, 4, 5, 6, 7, 8, 9, 0] (by decide) rfl
  subst hAe
  exact W.iret (v := 0) hx hb hr (fun t ht hW => ⟨⟨0, (), rfl, rfl, by rw [ht]; exact hP9, hD9⟩, hS.F ht⟩) hS.2.2 dL_tell_19
def w9_X21_in_3 : List Cond := [.code yX21_in cX21_in 3 (some .boolean)]
set_option maxHeartbeats 4000000 in
set_option maxRecDepth 100000 in
theorem c9_X21_in_3 (l : Launch) (g : G9) (sz : Nat) : Met l yX21_in w9_X21_in_3 ({ frames := 0, cells := 0, slots := 0, locals := 0 }) (mP g [] sz [.int 0, .int 0, .int 3]) (va_Qi (fun (r : Int32) (_ : Unit) => r = 1) (fun (_ : Unit) (t : State) => mB g [] sz [] t) (va_A [] sz)) 0 0 (va_A [] sz) := by
  refine Met.ofW (cc := cX21_in) (maxL := 3) (ret := (some .boolean)) (by decide) rfl ?_
  intro p e s m args below meth c s₁ B hml hv
  obtain ⟨rfl, hsz, hP, hD0, hE⟩ := hv
  have hx := B.exec
  have hb := B.bytes
  have hr := B.returns
  have hts := atoms_spec (ws := w9_X21_in_3) B.pre
  have hown : s.vm.findClass RX21 = some m.cls := findClass_of_methodNamed B.named
  have hlocks := B.notSynchronized
  subst hsz
  have hD := hD0.self (sz := s.heap.size)
  generalize hAe : va_A [] s.heap.size = A at hD hE ⊢
  have hA : ∀ q : Nat, s.heap.size ≤ q → A q := fun q h => by rw [← hAe]; exact Or.inr h
  have hK := hE.1
  have hS : va_S A s.heap s.heap [] := va_S.rf
  replace hP : va_P g.1 vwCl [] s.heap := hP
  have hl := lv_entry ([.int 0, .int 0, .int 3]) (n := 3) (Nat.le_of_ble_eq_true rfl)
  rw [lg_entry_eq]
  generalize (lg_sl ([.int 0, .int 0, .int 3]) ++ List.replicate (3 - (lg_sl ([.int 0, .int 0, .int 3])).length) Slot.unset).toArray = ls at hl ⊢
  replace hl : lv_has ls 3 [(0, .int 0), (1, .int 0), (2, .int 3)] := hl
  have hH0 : s.heap.size ≤ s.heap.size := Nat.le_refl _
  refine lv_iload_n hx hb dX21_in_0 rfl (lv_at hl 0 rfl) ?_
  refine lv_iload_n hx hb dX21_in_1 rfl (lv_at hl 1 rfl) ?_
  refine lv_icmp_lt (tgt := 14) hx hb dX21_in_2 (by decide) (fun c9 => absurd c9 (by decide)) (fun _ => ?_)
  refine lv_iload_n hx hb dX21_in_5 rfl (lv_at hl 0 rfl) ?_
  refine lv_iload_n hx hb dX21_in_6 rfl (lv_at hl 2 rfl) ?_
  refine lv_icmp_gt (tgt := 14) hx hb dX21_in_7 (by decide) (fun c9 => absurd c9 (by decide)) (fun _ => ?_)
  refine lv_iconst (v := 1) hx hb dX21_in_10 (by decide) ?_
  refine lv_goto (tgt := 15) hx hb dX21_in_11 (by decide) ?_
  have hP9 := hP.sub (ws' := []) [] rfl
  have hD9 := hD.sub (ws' := []) [] (by decide) rfl
  subst hAe
  exact W.zret (v := 1) hx hb hr (by decide) (fun t ht hW => ⟨⟨1, (), rfl, rfl, by rw [ht]; exact hP9, hD9⟩, hS.F ht⟩) hS.2.2 dX21_in_15
def w9_Jx35411_init_45d68_1 : List Cond := [.code yJx35411_init_45d68 cJx35411_init_45d68 2 none, .fieldLink RJx35411 1 "java/util/ArrayList$Itr" "this$0" "Ljava/util/ArrayList;", .methodLink RJx35411 7 objectInit, .instanceMethod objectInit, .code objectInit ⟨#[0xb1]⟩ 1 none, .fieldLink RJx35411 13 "java/util/ArrayList$Itr" "lastRet" "I", .fieldLink RJx35411 17 "java/util/ArrayList" "modCount" "I", .sameField "java/util/ArrayList" "java/util/AbstractList" "modCount" "I", .fieldLink RJx35411 22 "java/util/ArrayList$Itr" "expectedModCount" "I"] ++ (u_ws RJx35411 TJx35411 4 ++ u_ws RJx4a65c TJx4a65c 3)
set_option maxRecDepth 20000 in
theorem in9_Jx35411_init_45d68_1_RJx35411 : ∀ w ∈ u_ws RJx35411 TJx35411 4, w ∈ w9_Jx35411_init_45d68_1 := by decide +kernel
set_option maxRecDepth 20000 in
theorem in9_Jx35411_init_45d68_1_RJx4a65c : ∀ w ∈ u_ws RJx4a65c TJx4a65c 3, w ∈ w9_Jx35411_init_45d68_1 := by decide +kernel
set_option maxHeartbeats 4000000 in
set_option maxRecDepth 100000 in
theorem c9_Jx35411_init_45d68_1 (l : Launch) (g : G9) (h0 h1 h2 sz : Nat) : Met l yJx35411_init_45d68 w9_Jx35411_init_45d68_1 ({ frames := 1, cells := 0, slots := 0, locals := 12 }) (mP g [(h1, .inr (2, [.int 1, .ref h2, .int 1])), (h0, .inr (1, [.int 0, .int 0, .int 0, .null]))] sz [.ref h0, .ref h1]) (va_Qv (fun _ : Unit => True) (fun (_ : Unit) (t : State) => mB g [(h1, .inr (2, [.int 1, .ref h2, .int 1])), (h0, .inr (1, [.int 0, .int 0, .int 0, .null]))] sz [(h1, .inr (2, [.int 1, .ref h2, .int 1])), (h0, .inr (1, [.int 0, .int (-1), .int 1, .ref h1]))] t) (va_A [(h1, .inr (2, [.int 1, .ref h2, .int 1])), (h0, .inr (1, [.int 0, .int 0, .int 0, .null]))] sz)) 0 0 (va_A [(h1, .inr (2, [.int 1, .ref h2, .int 1])), (h0, .inr (1, [.int 0, .int 0, .int 0, .null]))] sz) := by
  refine Met.ofW (cc := cJx35411_init_45d68) (maxL := 2) (ret := none) (by decide) rfl ?_
  intro p e s m args below meth c s₁ B hml hv
  obtain ⟨rfl, hsz, hP, hD0, hE⟩ := hv
  have hx := B.exec
  have hb := B.bytes
  have hr := B.returns
  have hts := atoms_spec (ws := w9_Jx35411_init_45d68_1) B.pre
  have hown : s.vm.findClass RJx35411 = some m.cls := findClass_of_methodNamed B.named
  have hlocks := B.notSynchronized
  have hin : meth.name = "<init>" := (name_of_methodNamed B.named B.method).1
  subst hsz
  have hD := hD0.self (sz := s.heap.size)
  generalize hAe : va_A [(h1, .inr (2, [.int 1, .ref h2, .int 1])), (h0, .inr (1, [.int 0, .int 0, .int 0, .null]))] s.heap.size = A at hD hE ⊢
  have hA : ∀ q : Nat, s.heap.size ≤ q → A q := fun q h => by rw [← hAe]; exact Or.inr h
  have hK := hE.1
  have hS : va_S A s.heap s.heap [] := va_S.rf
  replace hP : va_P g.1 vwCl [(h1, .inr (2, [.int 1, .ref h2, .int 1])), (h0, .inr (1, [.int 0, .int 0, .int 0, .null]))] s.heap := hP
  have hl := lv_entry ([.ref h0, .ref h1]) (n := 2) (Nat.le_of_ble_eq_true rfl)
  rw [lg_entry_eq]
  generalize (lg_sl ([.ref h0, .ref h1]) ++ List.replicate (2 - (lg_sl ([.ref h0, .ref h1])).length) Slot.unset).toArray = ls at hl ⊢
  replace hl : lv_has ls 2 [(0, .ref h0), (1, .ref h1)] := hl
  have hH0 : s.heap.size ≤ s.heap.size := Nat.le_refl _
  refine lv_aload_n hx hb dJx35411_init_45d68_0 rfl (lv_at hl 0 rfl) ?_
  refine lv_aload_n hx hb dJx35411_init_45d68_1 rfl (lv_at hl 1 rfl) ?_
  refine va_putF (D := g.1) (ci := 1) (v := .ref h1) (ty := (.object "java/util/ArrayList")) (C := RJx35411) (T := TJx35411) (N := 4) hx hb hts in9_Jx35411_init_45d68_1_RJx35411 tyJx35411 tyJx35411_ok nmJx35411 hown hK hP hD hS 1 rfl rfl 3 (by decide) (hts (.fieldLink RJx35411 1 "java/util/ArrayList$Itr" "this$0" "Ljava/util/ArrayList;") (List.mem_of_getElem? (i := 1) rfl)) (fun _ h9 => h9) rfl hin rfl (by decide +kernel) rfl rfl (Nat.le_of_ble_eq_true rfl) dJx35411_init_45d68_2 (fun H locs hP hD hS => ?_)
  have hP : va_P g.1 vwCl [(h1, .inr (2, [.int 1, .ref h2, .int 1])), (h0, .inr (1, [.int 0, .int 0, .int 0, .ref h1]))] H := hP
  have hD : va_D A [(h1, .inr (2, [.int 1, .ref h2, .int 1])), (h0, .inr (1, [.int 0, .int 0, .int 0, .ref h1]))] := hD
  refine lv_aload_n hx hb dJx35411_init_45d68_5 rfl (lv_at hl 0 rfl) ?_
  refine W.objInit hx hb hown (hts (.methodLink RJx35411 7 objectInit) (List.mem_of_getElem? (i := 2) rfl)) (hts (.instanceMethod objectInit) (List.mem_of_getElem? (i := 3) rfl)) (hts (.code objectInit ⟨#[0xb1]⟩ 1 none) (List.mem_of_getElem? (i := 4) rfl)) rfl (by rw [hml]; exact hl.1) rfl dJx35411_init_45d68_6 (Nat.le_of_ble_eq_true rfl) (Nat.le_of_ble_eq_true rfl) ?_
  refine W.eq (g2 := F0 m 9 ls []) rfl ?_
  refine lv_aload_n hx hb dJx35411_init_45d68_9 rfl (lv_at hl 0 rfl) ?_
  refine lv_iconst (v := (-1)) hx hb dJx35411_init_45d68_10 (by decide) ?_
  refine va_put (D := g.1) (ci := 1) (v := .int (-1)) (ty := .int) (C := RJx35411) (T := TJx35411) (N := 4) hx hb hts in9_Jx35411_init_45d68_1_RJx35411 tyJx35411 tyJx35411_ok nmJx35411 hown hK hP hD hS 1 rfl rfl 1 (by decide) (hts (.fieldLink RJx35411 13 "java/util/ArrayList$Itr" "lastRet" "I") (List.mem_of_getElem? (i := 5) rfl)) (fun _ h9 => h9) rfl (by decide +kernel) rfl rfl (Nat.le_of_ble_eq_true rfl) dJx35411_init_45d68_11 (fun H locs hP hD hS => ?_)
  have hP : va_P g.1 vwCl [(h1, .inr (2, [.int 1, .ref h2, .int 1])), (h0, .inr (1, [.int 0, .int (-1), .int 0, .ref h1]))] H := hP
  have hD : va_D A [(h1, .inr (2, [.int 1, .ref h2, .int 1])), (h0, .inr (1, [.int 0, .int (-1), .int 0, .ref h1]))] := hD
  refine lv_aload_n hx hb dJx35411_init_45d68_14 rfl (lv_at hl 0 rfl) ?_
  refine lv_aload_n hx hb dJx35411_init_45d68_15 rfl (lv_at hl 0 rfl) ?_
  refine va_get (D := g.1) (ci := 1) (v := .ref h1) (C := RJx35411) (T := TJx35411) (N := 4) hx hb hts in9_Jx35411_init_45d68_1_RJx35411 hown hK hP 1 rfl rfl 3 (by decide) (hts (.fieldLink RJx35411 1 "java/util/ArrayList$Itr" "this$0" "Ljava/util/ArrayList;") (List.mem_of_getElem? (i := 1) rfl)) (fun _ h9 => h9) rfl dJx35411_init_45d68_16 ?_
  refine va_get (D := g.1) (ci := 2) (v := .int 1) (C := RJx4a65c) (T := TJx4a65c) (N := 3) hx hb hts in9_Jx35411_init_45d68_1_RJx4a65c hown hK hP 0 rfl rfl 0 (by decide) (hts (.fieldLink RJx35411 17 "java/util/ArrayList" "modCount" "I") (List.mem_of_getElem? (i := 6) rfl)) (fun x9 h9 => u_same (hts (.sameField "java/util/ArrayList" "java/util/AbstractList" "modCount" "I") (List.mem_of_getElem? (i := 7) rfl)) x9 h9) rfl dJx35411_init_45d68_19 ?_
  refine va_put (D := g.1) (ci := 1) (v := .int 1) (ty := .int) (C := RJx35411) (T := TJx35411) (N := 4) hx hb hts in9_Jx35411_init_45d68_1_RJx35411 tyJx35411 tyJx35411_ok nmJx35411 hown hK hP hD hS 1 rfl rfl 2 (by decide) (hts (.fieldLink RJx35411 22 "java/util/ArrayList$Itr" "expectedModCount" "I") (List.mem_of_getElem? (i := 8) rfl)) (fun _ h9 => h9) rfl (by decide +kernel) rfl rfl (Nat.le_of_ble_eq_true rfl) dJx35411_init_45d68_22 (fun H locs hP hD hS => ?_)
  have hP : va_P g.1 vwCl [(h1, .inr (2, [.int 1, .ref h2, .int 1])), (h0, .inr (1, [.int 0, .int (-1), .int 1, .ref h1]))] H := hP
  have hD : va_D A [(h1, .inr (2, [.int 1, .ref h2, .int 1])), (h0, .inr (1, [.int 0, .int (-1), .int 1, .ref h1]))] := hD
  have hP9 := hP.sub (ws' := [(h1, .inr (2, [.int 1, .ref h2, .int 1])), (h0, .inr (1, [.int 0, .int (-1), .int 1, .ref h1]))]) [0, 1] rfl
  have hD9 := hD.sub (ws' := [(h1, .inr (2, [.int 1, .ref h2, .int 1])), (h0, .inr (1, [.int 0, .int (-1), .int 1, .ref h1]))]) [0, 1] (by decide) rfl
  subst hAe
  exact W.vret hx hb hr (fun t ht hW => ⟨⟨(), rfl, trivial, by rw [ht]; exact hP9, hD9⟩, hS.F ht⟩) hS.2.2 dJx35411_init_45d68_25
def w9_Jx4a65c_iterator_32c93_1 : List Cond := [.code yJx4a65c_iterator_32c93 cJx4a65c_iterator_32c93 1 (some (.object "java/util/Iterator")), .classLink RJx4a65c 267 RJx35411, .instantiable RJx35411 4, .initialized RJx35411, .code yJx35411_init_45d68 cJx35411_init_45d68 2 none, .fieldLink RJx35411 1 "java/util/ArrayList$Itr" "this$0" "Ljava/util/ArrayList;", .methodLink RJx35411 7 objectInit, .instanceMethod objectInit, .code objectInit ⟨#[0xb1]⟩ 1 none, .fieldLink RJx35411 13 "java/util/ArrayList$Itr" "lastRet" "I", .fieldLink RJx35411 17 "java/util/ArrayList" "modCount" "I", .sameField "java/util/ArrayList" "java/util/AbstractList" "modCount" "I", .fieldLink RJx35411 22 "java/util/ArrayList$Itr" "expectedModCount" "I", .methodLink RJx4a65c 269 yJx35411_init_45d68, .instanceMethod yJx35411_init_45d68] ++ (u_ws RJx35411 TJx35411 4 ++ u_ws RJx4a65c TJx4a65c 3)
set_option maxRecDepth 20000 in
theorem in9_Jx4a65c_iterator_32c93_1_RJx35411 : ∀ w ∈ u_ws RJx35411 TJx35411 4, w ∈ w9_Jx4a65c_iterator_32c93_1 := by decide +kernel
set_option maxRecDepth 20000 in
theorem in9_Jx4a65c_iterator_32c93_1_RJx4a65c : ∀ w ∈ u_ws RJx4a65c TJx4a65c 3, w ∈ w9_Jx4a65c_iterator_32c93_1 := by decide +kernel
set_option maxRecDepth 20000 in
theorem g9_Jx4a65c_iterator_32c93_1_0 : GoodIn w9_Jx4a65c_iterator_32c93_1 (w9_Jx35411_init_45d68_1) := goodIn_r _ [4, 5, 6, 7, 8, 9, 10, 11, 12, 15, 16, 17, 18, 19, 20, 21] (by decide +kernel) (by decide +kernel)
set_option maxHeartbeats 4000000 in
set_option maxRecDepth 100000 in
theorem c9_Jx4a65c_iterator_32c93_1 (l : Launch) (g : G9) (h0 h1 sz : Nat) : Met l yJx4a65c_iterator_32c93 w9_Jx4a65c_iterator_32c93_1 ({ frames := 2, cells := 1, slots := 4, locals := 33 }) (mP g [(h0, .inr (2, [.int 1, .ref h1, .int 1]))] sz [.ref h0]) (va_Qr (fun _ : Nat => True) (fun (q_1 : Nat) (ra : Nat) (t : State) => ra = q_1 ∧ mB g [(h0, .inr (2, [.int 1, .ref h1, .int 1]))] sz [(h0, .inr (2, [.int 1, .ref h1, .int 1])), (q_1, .inr (1, [.int 0, .int (-1), .int 1, .ref h0]))] t) (va_A [(h0, .inr (2, [.int 1, .ref h1, .int 1]))] sz)) 1 4 (va_A [(h0, .inr (2, [.int 1, .ref h1, .int 1]))] sz) := by
  refine Met.ofW (cc := cJx4a65c_iterator_32c93) (maxL := 1) (ret := (some (.object "java/util/Iterator"))) (by decide) rfl ?_
  intro p e s m args below meth c s₁ B hml hv
  obtain ⟨rfl, hsz, hP, hD0, hE⟩ := hv
  have hx := B.exec
  have hb := B.bytes
  have hr := B.returns
  have hts := atoms_spec (ws := w9_Jx4a65c_iterator_32c93_1) B.pre
  have hown : s.vm.findClass RJx4a65c = some m.cls := findClass_of_methodNamed B.named
  have hlocks := B.notSynchronized
  subst hsz
  have hD := hD0.self (sz := s.heap.size)
  generalize hAe : va_A [(h0, .inr (2, [.int 1, .ref h1, .int 1]))] s.heap.size = A at hD hE ⊢
  have hA : ∀ q : Nat, s.heap.size ≤ q → A q := fun q h => by rw [← hAe]; exact Or.inr h
  have hK := hE.1
  have hS : va_S A s.heap s.heap [] := va_S.rf
  replace hP : va_P g.1 vwCl [(h0, .inr (2, [.int 1, .ref h1, .int 1]))] s.heap := hP
  have hl := lv_entry ([.ref h0]) (n := 1) (Nat.le_of_ble_eq_true rfl)
  rw [lg_entry_eq]
  generalize (lg_sl ([.ref h0]) ++ List.replicate (1 - (lg_sl ([.ref h0])).length) Slot.unset).toArray = ls at hl ⊢
  replace hl : lv_has ls 1 [(0, .ref h0)] := hl
  have hH0 : s.heap.size ≤ s.heap.size := Nat.le_refl _
  refine va_new (ci := 1) (fs := [.int 0, .int 0, .int 0, .null]) (C := RJx35411) (T := TJx35411) (N := 4) hx hb hts in9_Jx4a65c_iterator_32c93_1_RJx35411 tyJx35411 tyJx35411_ok hown (hts (.classLink RJx4a65c 267 RJx35411) (List.mem_of_getElem? (i := 1) rfl)) (hts (.instantiable RJx35411 4) (List.mem_of_getElem? (i := 2) rfl)) (hts (.initialized RJx35411) (List.mem_of_getElem? (i := 3) rfl)) hK hP hD hS hA rfl (fun j hj => by rcases (show j = 0 ∨ j = 1 ∨ j = 2 ∨ j = 3 by omega) with rfl | rfl | rfl | rfl <;> rfl) (Nat.le_of_ble_eq_true rfl) (Nat.le_of_ble_eq_true rfl) dJx4a65c_iterator_32c93_0 (fun q_1 H hP hD hS => ?_)
  have hP : va_P g.1 vwCl [(h0, .inr (2, [.int 1, .ref h1, .int 1])), (q_1, .inr (1, [.int 0, .int 0, .int 0, .null]))] H := hP
  have hD : va_D A [(h0, .inr (2, [.int 1, .ref h1, .int 1])), (q_1, .inr (1, [.int 0, .int 0, .int 0, .null]))] := hD
  refine lv_dup hx hb dJx4a65c_iterator_32c93_3 rfl ?_
  refine lv_aload_n hx hb dJx4a65c_iterator_32c93_4 rfl (lv_at hl 0 rfl) ?_
  have hPc := hP.sub (ws' := [(h0, .inr (2, [.int 1, .ref h1, .int 1])), (q_1, .inr (1, [.int 0, .int 0, .int 0, .null]))]) [0, 1] rfl
  have hDc := hD.sub (ws' := [(h0, .inr (2, [.int 1, .ref h1, .int 1])), (q_1, .inr (1, [.int 0, .int 0, .int 0, .null]))]) [0, 1] (by decide) rfl
  have hFc := va_free (wc := [(h0, .inr (2, [.int 1, .ref h1, .int 1])), (q_1, .inr (1, [.int 0, .int 0, .int 0, .null]))]) hD hS hA [0, 1] rfl
  refine va_callv (va_runI (As := [.ref h0]) (rest := [.ref q_1]) ⟨hx, hb, hml, hown, hts⟩ (c9_Jx35411_init_45d68_1 l g q_1 h0 h1 _) (cwI 1 hts g9_Jx4a65c_iterator_32c93_1_0 rfl rfl rfl (hts (.initialized RJx35411) (List.mem_of_getElem? (i := 3) rfl)) (hts (.methodLink RJx4a65c 269 yJx35411_init_45d68) (List.mem_of_getElem? (i := 13) rfl)) (hts (.instanceMethod yJx35411_init_45d68) (List.mem_of_getElem? (i := 14) rfl)) rfl (by decide +kernel) ⟨Nat.le_of_ble_eq_true rfl, Nat.le_of_ble_eq_true rfl⟩) (mPreS (g := g) (wc := [(h0, .inr (2, [.int 1, .ref h1, .int 1])), (q_1, .inr (1, [.int 0, .int 0, .int 0, .null]))]) hE hS hPc hDc hFc) rfl rfl hl.1 rfl (lv_room (Nat.le_of_ble_eq_true rfl)) dJx4a65c_iterator_32c93_5 ⟨Nat.le_of_ble_eq_true rfl, Nat.le_of_ble_eq_true rfl⟩) hS (fun q _ h => hFc q h) hFc (fun u t H1 locs ht hvm hw hB hz1 hk1 hS => ?_)
  obtain ⟨hP1, hD1⟩ := hB
  rw [ht] at hP1
  obtain ⟨hP, hD⟩ := va_join (wr := []) (w1 := [(h0, .inr (2, [.int 1, .ref h1, .int 1])), (q_1, .inr (1, [.int 0, .int (-1), .int 1, .ref h0]))]) hP hD [0, 1] [] rfl rfl (by decide) (by decide) hk1 hFc hP1 hD1
  clear hP1 hD1 hPc hDc hFc hk1 hz1 hvm ht
  generalize H1 = H at hP hS ⊢
  have hP : va_P g.1 vwCl [(h0, .inr (2, [.int 1, .ref h1, .int 1])), (q_1, .inr (1, [.int 0, .int (-1), .int 1, .ref h0]))] H := hP
  have hD : va_D A [(h0, .inr (2, [.int 1, .ref h1, .int 1])), (q_1, .inr (1, [.int 0, .int (-1), .int 1, .ref h0]))] := hD
  have hP9 := hP.sub (ws' := [(h0, .inr (2, [.int 1, .ref h1, .int 1])), (q_1, .inr (1, [.int 0, .int (-1), .int 1, .ref h0]))]) [0, 1] rfl
  have hD9 := hD.sub (ws' := [(h0, .inr (2, [.int 1, .ref h1, .int 1])), (q_1, .inr (1, [.int 0, .int (-1), .int 1, .ref h0]))]) [0, 1] (by decide) rfl
  subst hAe
  exact W.aret (v := .ref q_1) hx hb hr (by first | exact Or.inl ⟨_, rfl⟩ | exact Or.inr ⟨_, rfl⟩) (Or.inr ⟨_, rfl⟩) (fun t ht hW => ⟨⟨q_1, q_1, rfl, trivial, rfl, by rw [ht]; exact hP9, hD9⟩, hS.F ht⟩) hS.2.2 dJx4a65c_iterator_32c93_8
def w9_Jx35411_hasNext_aae02_1 : List Cond := [.code yJx35411_hasNext_aae02 cJx35411_hasNext_aae02 1 (some .boolean), .fieldLink RJx35411 25 "java/util/ArrayList$Itr" "cursor" "I", .fieldLink RJx35411 1 "java/util/ArrayList$Itr" "this$0" "Ljava/util/ArrayList;"] ++ (u_ws RJx35411 TJx35411 4 ++ u_ws RJx4a65c TJx4a65c 3)
set_option maxRecDepth 20000 in
theorem in9_Jx35411_hasNext_aae02_1_RJx35411 : ∀ w ∈ u_ws RJx35411 TJx35411 4, w ∈ w9_Jx35411_hasNext_aae02_1 := by decide +kernel
set_option maxRecDepth 20000 in
theorem in9_Jx35411_hasNext_aae02_1_RJx4a65c : ∀ w ∈ u_ws RJx4a65c TJx4a65c 3, w ∈ w9_Jx35411_hasNext_aae02_1 := by decide +kernel
set_option maxHeartbeats 4000000 in
set_option maxRecDepth 100000 in
theorem c9_Jx35411_hasNext_aae02_1 (l : Launch) (g : G9) (h0 h1 h2 sz : Nat) : Met l yJx35411_hasNext_aae02 w9_Jx35411_hasNext_aae02_1 ({ frames := 0, cells := 0, slots := 0, locals := 0 }) (mP g [(h1, .inr (2, [.int 1, .ref h2, .int 1])), (h0, .inr (1, [.int 0, .int (-1), .int 1, .ref h1]))] sz [.ref h0]) (va_Qi (fun (r : Int32) (_ : Unit) => r = 1) (fun (_ : Unit) (t : State) => mB g [(h1, .inr (2, [.int 1, .ref h2, .int 1])), (h0, .inr (1, [.int 0, .int (-1), .int 1, .ref h1]))] sz [(h1, .inr (2, [.int 1, .ref h2, .int 1])), (h0, .inr (1, [.int 0, .int (-1), .int 1, .ref h1]))] t) (va_A [(h1, .inr (2, [.int 1, .ref h2, .int 1])), (h0, .inr (1, [.int 0, .int (-1), .int 1, .ref h1]))] sz)) 0 0 (va_A [(h1, .inr (2, [.int 1, .ref h2, .int 1])), (h0, .inr (1, [.int 0, .int (-1), .int 1, .ref h1]))] sz) := by
  refine Met.ofW (cc := cJx35411_hasNext_aae02) (maxL := 1) (ret := (some .boolean)) (by decide) rfl ?_
  intro p e s m args below meth c s₁ B hml hv
  obtain ⟨rfl, hsz, hP, hD0, hE⟩ := hv
  have hx := B.exec
  have hb := B.bytes
  have hr := B.returns
  have hts := atoms_spec (ws := w9_Jx35411_hasNext_aae02_1) B.pre
  have hown : s.vm.findClass RJx35411 = some m.cls := findClass_of_methodNamed B.named
  have hlocks := B.notSynchronized
  subst hsz
  have hD := hD0.self (sz := s.heap.size)
  generalize hAe : va_A [(h1, .inr (2, [.int 1, .ref h2, .int 1])), (h0, .inr (1, [.int 0, .int (-1), .int 1, .ref h1]))] s.heap.size = A at hD hE ⊢
  have hA : ∀ q : Nat, s.heap.size ≤ q → A q := fun q h => by rw [← hAe]; exact Or.inr h
  have hK := hE.1
  have hS : va_S A s.heap s.heap [] := va_S.rf
  replace hP : va_P g.1 vwCl [(h1, .inr (2, [.int 1, .ref h2, .int 1])), (h0, .inr (1, [.int 0, .int (-1), .int 1, .ref h1]))] s.heap := hP
  have hl := lv_entry ([.ref h0]) (n := 1) (Nat.le_of_ble_eq_true rfl)
  rw [lg_entry_eq]
  generalize (lg_sl ([.ref h0]) ++ List.replicate (1 - (lg_sl ([.ref h0])).length) Slot.unset).toArray = ls at hl ⊢
  replace hl : lv_has ls 1 [(0, .ref h0)] := hl
  have hH0 : s.heap.size ≤ s.heap.size := Nat.le_refl _
  refine lv_aload_n hx hb dJx35411_hasNext_aae02_0 rfl (lv_at hl 0 rfl) ?_
  refine va_get (D := g.1) (ci := 1) (v := .int 0) (C := RJx35411) (T := TJx35411) (N := 4) hx hb hts in9_Jx35411_hasNext_aae02_1_RJx35411 hown hK hP 1 rfl rfl 0 (by decide) (hts (.fieldLink RJx35411 25 "java/util/ArrayList$Itr" "cursor" "I") (List.mem_of_getElem? (i := 1) rfl)) (fun _ h9 => h9) rfl dJx35411_hasNext_aae02_1 ?_
  refine lv_aload_n hx hb dJx35411_hasNext_aae02_4 rfl (lv_at hl 0 rfl) ?_
  refine va_get (D := g.1) (ci := 1) (v := .ref h1) (C := RJx35411) (T := TJx35411) (N := 4) hx hb hts in9_Jx35411_hasNext_aae02_1_RJx35411 hown hK hP 1 rfl rfl 3 (by decide) (hts (.fieldLink RJx35411 1 "java/util/ArrayList$Itr" "this$0" "Ljava/util/ArrayList;") (List.mem_of_getElem? (i := 2) rfl)) (fun _ h9 => h9) rfl dJx35411_hasNext_aae02_5 ?_
  refine va_getN (D := g.1) (ci := 2) (v := .int 1) (C := RJx4a65c) (T := TJx4a65c) (N := 3) hx hb hts in9_Jx35411_hasNext_aae02_1_RJx4a65c hown hK hP 0 rfl rfl 2 (by decide) (va_Nw.use rfl hE.nf) (fun _ h9 => h9) rfl dJx35411_hasNext_aae02_8 ?_
  refine lv_icmp_eq (tgt := 18) hx hb dJx35411_hasNext_aae02_11 (by decide) (fun c9 => absurd c9 (by decide)) (fun _ => ?_)
  refine lv_iconst (v := 1) hx hb dJx35411_hasNext_aae02_14 (by decide) ?_
  refine lv_goto (tgt := 19) hx hb dJx35411_hasNext_aae02_15 (by decide) ?_
  have hP9 := hP.sub (ws' := [(h1, .inr (2, [.int 1, .ref h2, .int 1])), (h0, .inr (1, [.int 0, .int (-1), .int 1, .ref h1]))]) [0, 1] rfl
  have hD9 := hD.sub (ws' := [(h1, .inr (2, [.int 1, .ref h2, .int 1])), (h0, .inr (1, [.int 0, .int (-1), .int 1, .ref h1]))]) [0, 1] (by decide) rfl
  subst hAe
  exact W.zret (v := 1) hx hb hr (by decide) (fun t ht hW => ⟨⟨1, (), rfl, rfl, by rw [ht]; exact hP9, hD9⟩, hS.F ht⟩) hS.2.2 dJx35411_hasNext_aae02_19
def w9_Jx35411_checkForComodification_da8c8_1 : List Cond := [.code yJx35411_checkForComodification_da8c8 cJx35411_checkForComodification_da8c8 1 none, .fieldLink RJx35411 1 "java/util/ArrayList$Itr" "this$0" "Ljava/util/ArrayList;", .fieldLink RJx35411 17 "java/util/ArrayList" "modCount" "I", .sameField "java/util/ArrayList" "java/util/AbstractList" "modCount" "I", .fieldLink RJx35411 22 "java/util/ArrayList$Itr" "expectedModCount" "I"] ++ (u_ws RJx35411 TJx35411 4 ++ u_ws RJx4a65c TJx4a65c 3)
set_option maxRecDepth 20000 in
theorem in9_Jx35411_checkForComodification_da8c8_1_RJx35411 : ∀ w ∈ u_ws RJx35411 TJx35411 4, w ∈ w9_Jx35411_checkForComodification_da8c8_1 := by decide +kernel
set_option maxRecDepth 20000 in
theorem in9_Jx35411_checkForComodification_da8c8_1_RJx4a65c : ∀ w ∈ u_ws RJx4a65c TJx4a65c 3, w ∈ w9_Jx35411_checkForComodification_da8c8_1 := by decide +kernel
set_option maxHeartbeats 4000000 in
set_option maxRecDepth 100000 in
theorem c9_Jx35411_checkForComodification_da8c8_1 (l : Launch) (g : G9) (h0 h1 h2 sz : Nat) : Met l yJx35411_checkForComodification_da8c8 w9_Jx35411_checkForComodification_da8c8_1 ({ frames := 0, cells := 0, slots := 0, locals := 0 }) (mP g [(h1, .inr (2, [.int 1, .ref h2, .int 1])), (h0, .inr (1, [.int 0, .int (-1), .int 1, .ref h1]))] sz [.ref h0]) (va_Qv (fun _ : Unit => True) (fun (_ : Unit) (t : State) => mB g [(h1, .inr (2, [.int 1, .ref h2, .int 1])), (h0, .inr (1, [.int 0, .int (-1), .int 1, .ref h1]))] sz [(h1, .inr (2, [.int 1, .ref h2, .int 1])), (h0, .inr (1, [.int 0, .int (-1), .int 1, .ref h1]))] t) (va_A [(h1, .inr (2, [.int 1, .ref h2, .int 1])), (h0, .inr (1, [.int 0, .int (-1), .int 1, .ref h1]))] sz)) 0 0 (va_A [(h1, .inr (2, [.int 1, .ref h2, .int 1])), (h0, .inr (1, [.int 0, .int (-1), .int 1, .ref h1]))] sz) := by
  refine Met.ofW (cc := cJx35411_checkForComodification_da8c8) (maxL := 1) (ret := none) (by decide) rfl ?_
  intro p e s m args below meth c s₁ B hml hv
  obtain ⟨rfl, hsz, hP, hD0, hE⟩ := hv
  have hx := B.exec
  have hb := B.bytes
  have hr := B.returns
  have hts := atoms_spec (ws := w9_Jx35411_checkForComodification_da8c8_1) B.pre
  have hown : s.vm.findClass RJx35411 = some m.cls := findClass_of_methodNamed B.named
  have hlocks := B.notSynchronized
  subst hsz
  have hD := hD0.self (sz := s.heap.size)
  generalize hAe : va_A [(h1, .inr (2, [.int 1, .ref h2, .int 1])), (h0, .inr (1, [.int 0, .int (-1), .int 1, .ref h1]))] s.heap.size = A at hD hE ⊢
  have hA : ∀ q : Nat, s.heap.size ≤ q → A q := fun q h => by rw [← hAe]; exact Or.inr h
  have hK := hE.1
  have hS : va_S A s.heap s.heap [] := va_S.rf
  replace hP : va_P g.1 vwCl [(h1, .inr (2, [.int 1, .ref h2, .int 1])), (h0, .inr (1, [.int 0, .int (-1), .int 1, .ref h1]))] s.heap := hP
  have hl := lv_entry ([.ref h0]) (n := 1) (Nat.le_of_ble_eq_true rfl)
  rw [lg_entry_eq]
  generalize (lg_sl ([.ref h0]) ++ List.replicate (1 - (lg_sl ([.ref h0])).length) Slot.unset).toArray = ls at hl ⊢
  replace hl : lv_has ls 1 [(0, .ref h0)] := hl
  have hH0 : s.heap.size ≤ s.heap.size := Nat.le_refl _
  refine lv_aload_n hx hb dJx35411_checkForComodification_da8c8_0 rfl (lv_at hl 0 rfl) ?_
  refine va_get (D := g.1) (ci := 1) (v := .ref h1) (C := RJx35411) (T := TJx35411) (N := 4) hx hb hts in9_Jx35411_checkForComodification_da8c8_1_RJx35411 hown hK hP 1 rfl rfl 3 (by decide) (hts (.fieldLink RJx35411 1 "java/util/ArrayList$Itr" "this$0" "Ljava/util/ArrayList;") (List.mem_of_getElem? (i := 1) rfl)) (fun _ h9 => h9) rfl dJx35411_checkForComodification_da8c8_1 ?_
  refine va_get (D := g.1) (ci := 2) (v := .int 1) (C := RJx4a65c) (T := TJx4a65c) (N := 3) hx hb hts in9_Jx35411_checkForComodification_da8c8_1_RJx4a65c hown hK hP 0 rfl rfl 0 (by decide) (hts (.fieldLink RJx35411 17 "java/util/ArrayList" "modCount" "I") (List.mem_of_getElem? (i := 2) rfl)) (fun x9 h9 => u_same (hts (.sameField "java/util/ArrayList" "java/util/AbstractList" "modCount" "I") (List.mem_of_getElem? (i := 3) rfl)) x9 h9) rfl dJx35411_checkForComodification_da8c8_4 ?_
  refine lv_aload_n hx hb dJx35411_checkForComodification_da8c8_7 rfl (lv_at hl 0 rfl) ?_
  refine va_get (D := g.1) (ci := 1) (v := .int 1) (C := RJx35411) (T := TJx35411) (N := 4) hx hb hts in9_Jx35411_checkForComodification_da8c8_1_RJx35411 hown hK hP 1 rfl rfl 2 (by decide) (hts (.fieldLink RJx35411 22 "java/util/ArrayList$Itr" "expectedModCount" "I") (List.mem_of_getElem? (i := 4) rfl)) (fun _ h9 => h9) rfl dJx35411_checkForComodification_da8c8_8 ?_
  refine lv_icmp_eq (tgt := 22) hx hb dJx35411_checkForComodification_da8c8_11 (by decide) (fun _ => ?_) (fun c9 => absurd (by decide) c9)
  have hP9 := hP.sub (ws' := [(h1, .inr (2, [.int 1, .ref h2, .int 1])), (h0, .inr (1, [.int 0, .int (-1), .int 1, .ref h1]))]) [0, 1] rfl
  have hD9 := hD.sub (ws' := [(h1, .inr (2, [.int 1, .ref h2, .int 1])), (h0, .inr (1, [.int 0, .int (-1), .int 1, .ref h1]))]) [0, 1] (by decide) rfl
  subst hAe
  exact W.vret hx hb hr (fun t ht hW => ⟨⟨(), rfl, trivial, by rw [ht]; exact hP9, hD9⟩, hS.F ht⟩) hS.2.2 dJx35411_checkForComodification_da8c8_22
def w9_Jx35411_next_0502b_1 : List Cond := [.code yJx35411_next_0502b cJx35411_next_0502b 3 (some (.object "java/lang/Object")), .methodLink RJx35411 31 yJx35411_checkForComodification_da8c8, .instanceMethod yJx35411_checkForComodification_da8c8, .selects RJx35411 yJx35411_checkForComodification_da8c8 yJx35411_checkForComodification_da8c8, .initialized RJx35411, .code yJx35411_checkForComodification_da8c8 cJx35411_checkForComodification_da8c8 1 none, .fieldLink RJx35411 1 "java/util/ArrayList$Itr" "this$0" "Ljava/util/ArrayList;", .fieldLink RJx35411 17 "java/util/ArrayList" "modCount" "I", .sameField "java/util/ArrayList" "java/util/AbstractList" "modCount" "I", .fieldLink RJx35411 22 "java/util/ArrayList$Itr" "expectedModCount" "I", .fieldLink RJx35411 25 "java/util/ArrayList$Itr" "cursor" "I", .fieldLink RJx35411 37 "java/util/ArrayList" "elementData" "[Ljava/lang/Object;", .fieldLink RJx35411 13 "java/util/ArrayList$Itr" "lastRet" "I"] ++ (u_ws RJx35411 TJx35411 4 ++ u_ws RJx4a65c TJx4a65c 3)
set_option maxRecDepth 20000 in
theorem in9_Jx35411_next_0502b_1_RJx35411 : ∀ w ∈ u_ws RJx35411 TJx35411 4, w ∈ w9_Jx35411_next_0502b_1 := by decide +kernel
set_option maxRecDepth 20000 in
theorem in9_Jx35411_next_0502b_1_RJx4a65c : ∀ w ∈ u_ws RJx4a65c TJx4a65c 3, w ∈ w9_Jx35411_next_0502b_1 := by decide +kernel
set_option maxRecDepth 20000 in
theorem g9_Jx35411_next_0502b_1_0 : GoodIn w9_Jx35411_next_0502b_1 (wsV RJx35411 31 RJx35411 yJx35411_checkForComodification_da8c8 w9_Jx35411_checkForComodification_da8c8_1) := goodIn_r _ [1, 2, 3, 4, 5, 6, 7, 8, 9, 13, 14, 15, 16, 17, 18, 19] (by decide +kernel) (by decide +kernel)
set_option maxHeartbeats 4000000 in
set_option maxRecDepth 100000 in
theorem c9_Jx35411_next_0502b_1 (l : Launch) (g : G9) (h0 h1 h2 h3 sz : Nat) : Met l yJx35411_next_0502b w9_Jx35411_next_0502b_1 ({ frames := 1, cells := 0, slots := 0, locals := 20 }) (mP g [(h1, .inl (g.2.1 6, 10, .inr (.inr (.inr (.inr (va_up (fun _ => none) 0 (some h2))))))), (h3, .inr (2, [.int 1, .ref h1, .int 1])), (h0, .inr (1, [.int 0, .int (-1), .int 1, .ref h3]))] sz [.ref h0]) (va_Qr (fun _ : Unit => True) (fun (_ : Unit) (ra : Nat) (t : State) => ra = h2 ∧ mB g [(h1, .inl (g.2.1 6, 10, .inr (.inr (.inr (.inr (va_up (fun _ => none) 0 (some h2))))))), (h3, .inr (2, [.int 1, .ref h1, .int 1])), (h0, .inr (1, [.int 0, .int (-1), .int 1, .ref h3]))] sz [(h1, .inl (g.2.1 6, 10, .inr (.inr (.inr (.inr (va_up (fun _ => none) 0 (some h2))))))), (h3, .inr (2, [.int 1, .ref h1, .int 1])), (h0, .inr (1, [.int 1, .int 0, .int 1, .ref h3]))] t) (va_A [(h1, .inl (g.2.1 6, 10, .inr (.inr (.inr (.inr (va_up (fun _ => none) 0 (some h2))))))), (h3, .inr (2, [.int 1, .ref h1, .int 1])), (h0, .inr (1, [.int 0, .int (-1), .int 1, .ref h3]))] sz)) 0 0 (va_A [(h1, .inl (g.2.1 6, 10, .inr (.inr (.inr (.inr (va_up (fun _ => none) 0 (some h2))))))), (h3, .inr (2, [.int 1, .ref h1, .int 1])), (h0, .inr (1, [.int 0, .int (-1), .int 1, .ref h3]))] sz) := by
  refine Met.ofW (cc := cJx35411_next_0502b) (maxL := 3) (ret := (some (.object "java/lang/Object"))) (by decide) rfl ?_
  intro p e s m args below meth c s₁ B hml hv
  obtain ⟨rfl, hsz, hP, hD0, hE⟩ := hv
  have hx := B.exec
  have hb := B.bytes
  have hr := B.returns
  have hts := atoms_spec (ws := w9_Jx35411_next_0502b_1) B.pre
  have hown : s.vm.findClass RJx35411 = some m.cls := findClass_of_methodNamed B.named
  have hlocks := B.notSynchronized
  subst hsz
  have hD := hD0.self (sz := s.heap.size)
  generalize hAe : va_A [(h1, .inl (g.2.1 6, 10, .inr (.inr (.inr (.inr (va_up (fun _ => none) 0 (some h2))))))), (h3, .inr (2, [.int 1, .ref h1, .int 1])), (h0, .inr (1, [.int 0, .int (-1), .int 1, .ref h3]))] s.heap.size = A at hD hE ⊢
  have hA : ∀ q : Nat, s.heap.size ≤ q → A q := fun q h => by rw [← hAe]; exact Or.inr h
  have hK := hE.1
  have hS : va_S A s.heap s.heap [] := va_S.rf
  replace hP : va_P g.1 vwCl [(h1, .inl (g.2.1 6, 10, .inr (.inr (.inr (.inr (va_up (fun _ => none) 0 (some h2))))))), (h3, .inr (2, [.int 1, .ref h1, .int 1])), (h0, .inr (1, [.int 0, .int (-1), .int 1, .ref h3]))] s.heap := hP
  have hl := lv_entry ([.ref h0]) (n := 3) (Nat.le_of_ble_eq_true rfl)
  rw [lg_entry_eq]
  generalize (lg_sl ([.ref h0]) ++ List.replicate (3 - (lg_sl ([.ref h0])).length) Slot.unset).toArray = ls at hl ⊢
  replace hl : lv_has ls 3 [(0, .ref h0)] := hl
  have hH0 : s.heap.size ≤ s.heap.size := Nat.le_refl _
  refine lv_aload_n hx hb dJx35411_next_0502b_0 rfl (lv_at hl 0 rfl) ?_
  have hPc := hP.sub (ws' := [(h3, .inr (2, [.int 1, .ref h1, .int 1])), (h0, .inr (1, [.int 0, .int (-1), .int 1, .ref h3]))]) [1, 2] rfl
  have hDc := hD.sub (ws' := [(h3, .inr (2, [.int 1, .ref h1, .int 1])), (h0, .inr (1, [.int 0, .int (-1), .int 1, .ref h3]))]) [1, 2] (by decide) rfl
  have hFc := va_free (wc := [(h3, .inr (2, [.int 1, .ref h1, .int 1])), (h0, .inr (1, [.int 0, .int (-1), .int 1, .ref h3]))]) hD hS hA [1, 2] rfl
  refine va_callv (va_runV (As := []) (rest := []) ⟨hx, hb, hml, hown, hts⟩ (c9_Jx35411_checkForComodification_da8c8_1 l g h0 h3 h1 _) (cwV 0 hts g9_Jx35411_next_0502b_1_0 rfl rfl rfl (by decide +kernel) ⟨Nat.le_of_ble_eq_true rfl, Nat.le_of_ble_eq_true rfl⟩) (mPreV (g := g) (wc := [(h3, .inr (2, [.int 1, .ref h1, .int 1])), (h0, .inr (1, [.int 0, .int (-1), .int 1, .ref h3]))]) (C := RJx35411) (ci := 1) (q0 := 1) hE hS hPc hDc hFc rfl rfl) rfl rfl hl.1 rfl (lv_room (Nat.le_of_ble_eq_true rfl)) dJx35411_next_0502b_1 ⟨Nat.le_of_ble_eq_true rfl, Nat.le_of_ble_eq_true rfl⟩) hS (fun q _ h => hFc q h) hFc (fun u t H1 locs ht hvm hw hB hz1 hk1 hS => ?_)
  obtain ⟨hP1, hD1⟩ := hB
  rw [ht] at hP1
  obtain ⟨hP, hD⟩ := va_join (wr := [(h1, .inl (g.2.1 6, 10, .inr (.inr (.inr (.inr (va_up (fun _ => none) 0 (some h2)))))))]) (w1 := [(h3, .inr (2, [.int 1, .ref h1, .int 1])), (h0, .inr (1, [.int 0, .int (-1), .int 1, .ref h3]))]) hP hD [1, 2] [0] rfl rfl (by decide) (by decide) hk1 hFc hP1 hD1
  clear hP1 hD1 hPc hDc hFc hk1 hz1 hvm ht
  generalize H1 = H at hP hS ⊢
  have hP : va_P g.1 vwCl [(h1, .inl (g.2.1 6, 10, .inr (.inr (.inr (.inr (va_up (fun _ => none) 0 (some h2))))))), (h3, .inr (2, [.int 1, .ref h1, .int 1])), (h0, .inr (1, [.int 0, .int (-1), .int 1, .ref h3]))] H := hP
  have hD : va_D A [(h1, .inl (g.2.1 6, 10, .inr (.inr (.inr (.inr (va_up (fun _ => none) 0 (some h2))))))), (h3, .inr (2, [.int 1, .ref h1, .int 1])), (h0, .inr (1, [.int 0, .int (-1), .int 1, .ref h3]))] := hD
  refine lv_aload_n hx hb dJx35411_next_0502b_4 rfl (lv_at hl 0 rfl) ?_
  refine va_get (D := g.1) (ci := 1) (v := .int 0) (C := RJx35411) (T := TJx35411) (N := 4) hx hb hts in9_Jx35411_next_0502b_1_RJx35411 hown hK hP 2 rfl rfl 0 (by decide) (hts (.fieldLink RJx35411 25 "java/util/ArrayList$Itr" "cursor" "I") (List.mem_of_getElem? (i := 10) rfl)) (fun _ h9 => h9) rfl dJx35411_next_0502b_5 ?_
  refine lv_istore_n (lv' := [(1, .int 0), (0, .ref h0)]) hx hb dJx35411_next_0502b_8 rfl hl (by decide) rfl (fun ls hl => ?_)
  refine lv_iload_n hx hb dJx35411_next_0502b_9 rfl (lv_at hl 0 rfl) ?_
  refine lv_aload_n hx hb dJx35411_next_0502b_10 rfl (lv_at hl 1 rfl) ?_
  refine va_get (D := g.1) (ci := 1) (v := .ref h3) (C := RJx35411) (T := TJx35411) (N := 4) hx hb hts in9_Jx35411_next_0502b_1_RJx35411 hown hK hP 2 rfl rfl 3 (by decide) (hts (.fieldLink RJx35411 1 "java/util/ArrayList$Itr" "this$0" "Ljava/util/ArrayList;") (List.mem_of_getElem? (i := 6) rfl)) (fun _ h9 => h9) rfl dJx35411_next_0502b_11 ?_
  refine va_getN (D := g.1) (ci := 2) (v := .int 1) (C := RJx4a65c) (T := TJx4a65c) (N := 3) hx hb hts in9_Jx35411_next_0502b_1_RJx4a65c hown hK hP 1 rfl rfl 2 (by decide) (va_Nw.use rfl hE.nf) (fun _ h9 => h9) rfl dJx35411_next_0502b_14 ?_
  refine lv_icmp_lt (tgt := 28) hx hb dJx35411_next_0502b_17 (by decide) (fun _ => ?_) (fun c9 => absurd (by decide) c9)
  refine lv_aload_n hx hb dJx35411_next_0502b_28 rfl (lv_at hl 1 rfl) ?_
  refine va_get (D := g.1) (ci := 1) (v := .ref h3) (C := RJx35411) (T := TJx35411) (N := 4) hx hb hts in9_Jx35411_next_0502b_1_RJx35411 hown hK hP 2 rfl rfl 3 (by decide) (hts (.fieldLink RJx35411 1 "java/util/ArrayList$Itr" "this$0" "Ljava/util/ArrayList;") (List.mem_of_getElem? (i := 6) rfl)) (fun _ h9 => h9) rfl dJx35411_next_0502b_29 ?_
  refine va_get (D := g.1) (ci := 2) (v := .ref h1) (C := RJx4a65c) (T := TJx4a65c) (N := 3) hx hb hts in9_Jx35411_next_0502b_1_RJx4a65c hown hK hP 1 rfl rfl 1 (by decide) (hts (.fieldLink RJx35411 37 "java/util/ArrayList" "elementData" "[Ljava/lang/Object;") (List.mem_of_getElem? (i := 11) rfl)) (fun _ h9 => h9) rfl dJx35411_next_0502b_32 ?_
  refine lv_astore_n (lv' := [(2, .ref h1), (1, .int 0), (0, .ref h0)]) hx hb dJx35411_next_0502b_35 rfl hl (by decide) rfl (fun ls hl => ?_)
  refine lv_iload_n hx hb dJx35411_next_0502b_36 rfl (lv_at hl 1 rfl) ?_
  refine lv_aload_n hx hb dJx35411_next_0502b_37 rfl (lv_at hl 0 rfl) ?_
  refine va_alen (v := 10) hx hb hK hP 0 6 rfl rfl rfl dJx35411_next_0502b_38 ?_
  refine lv_icmp_lt (tgt := 50) hx hb dJx35411_next_0502b_39 (by decide) (fun _ => ?_) (fun c9 => absurd (by decide) c9)
  refine lv_aload_n hx hb dJx35411_next_0502b_50 rfl (lv_at hl 2 rfl) ?_
  refine lv_iload_n hx hb dJx35411_next_0502b_51 rfl (lv_at hl 1 rfl) ?_
  refine lv_iconst (v := 1) hx hb dJx35411_next_0502b_52 (by decide) ?_
  refine lv_iadd hx hb dJx35411_next_0502b_53 ?_
  refine e_top (y := 1) (by decide) ?_
  refine va_put (D := g.1) (ci := 1) (v := .int 1) (ty := .int) (C := RJx35411) (T := TJx35411) (N := 4) hx hb hts in9_Jx35411_next_0502b_1_RJx35411 tyJx35411 tyJx35411_ok nmJx35411 hown hK hP hD hS 2 rfl rfl 0 (by decide) (hts (.fieldLink RJx35411 25 "java/util/ArrayList$Itr" "cursor" "I") (List.mem_of_getElem? (i := 10) rfl)) (fun _ h9 => h9) rfl (by decide +kernel) rfl rfl (Nat.le_of_ble_eq_true rfl) dJx35411_next_0502b_54 (fun H locs hP hD hS => ?_)
  have hP : va_P g.1 vwCl [(h1, .inl (g.2.1 6, 10, .inr (.inr (.inr (.inr (va_up (fun _ => none) 0 (some h2))))))), (h3, .inr (2, [.int 1, .ref h1, .int 1])), (h0, .inr (1, [.int 1, .int (-1), .int 1, .ref h3]))] H := hP
  have hD : va_D A [(h1, .inl (g.2.1 6, 10, .inr (.inr (.inr (.inr (va_up (fun _ => none) 0 (some h2))))))), (h3, .inr (2, [.int 1, .ref h1, .int 1])), (h0, .inr (1, [.int 1, .int (-1), .int 1, .ref h3]))] := hD
  refine lv_aload_n hx hb dJx35411_next_0502b_57 rfl (lv_at hl 0 rfl) ?_
  refine lv_aload_n hx hb dJx35411_next_0502b_58 rfl (lv_at hl 2 rfl) ?_
  refine lv_iload_n hx hb dJx35411_next_0502b_59 rfl (lv_at hl 1 rfl) ?_
  refine lv_dup_x1 hx hb dJx35411_next_0502b_60 rfl rfl ?_
  refine va_put (D := g.1) (ci := 1) (v := .int 0) (ty := .int) (C := RJx35411) (T := TJx35411) (N := 4) hx hb hts in9_Jx35411_next_0502b_1_RJx35411 tyJx35411 tyJx35411_ok nmJx35411 hown hK hP hD hS 2 rfl rfl 1 (by decide) (hts (.fieldLink RJx35411 13 "java/util/ArrayList$Itr" "lastRet" "I") (List.mem_of_getElem? (i := 12) rfl)) (fun _ h9 => h9) rfl (by decide +kernel) rfl rfl (Nat.le_of_ble_eq_true rfl) dJx35411_next_0502b_61 (fun H locs hP hD hS => ?_)
  have hP : va_P g.1 vwCl [(h1, .inl (g.2.1 6, 10, .inr (.inr (.inr (.inr (va_up (fun _ => none) 0 (some h2))))))), (h3, .inr (2, [.int 1, .ref h1, .int 1])), (h0, .inr (1, [.int 1, .int 0, .int 1, .ref h3]))] H := hP
  have hD : va_D A [(h1, .inl (g.2.1 6, 10, .inr (.inr (.inr (.inr (va_up (fun _ => none) 0 (some h2))))))), (h3, .inr (2, [.int 1, .ref h1, .int 1])), (h0, .inr (1, [.int 1, .int 0, .int 1, .ref h3]))] := hD
  refine va_aldq hx hb hK hP 0 6 rfl rfl (vp_in_nI (n := 0) (by decide) (by decide)) dJx35411_next_0502b_64 ?_
  refine e_topv (y := .ref h2) (by rfl) ?_
  have hP9 := hP.sub (ws' := [(h1, .inl (g.2.1 6, 10, .inr (.inr (.inr (.inr (va_up (fun _ => none) 0 (some h2))))))), (h3, .inr (2, [.int 1, .ref h1, .int 1])), (h0, .inr (1, [.int 1, .int 0, .int 1, .ref h3]))]) [0, 1, 2] rfl
  have hD9 := hD.sub (ws' := [(h1, .inl (g.2.1 6, 10, .inr (.inr (.inr (.inr (va_up (fun _ => none) 0 (some h2))))))), (h3, .inr (2, [.int 1, .ref h1, .int 1])), (h0, .inr (1, [.int 1, .int 0, .int 1, .ref h3]))]) [0, 1, 2] (by decide) rfl
  subst hAe
  exact W.aret (v := .ref h2) hx hb hr (by first | exact Or.inl ⟨_, rfl⟩ | exact Or.inr ⟨_, rfl⟩) (Or.inr ⟨_, rfl⟩) (fun t ht hW => ⟨⟨(), h2, rfl, trivial, rfl, by rw [ht]; exact hP9, hD9⟩, hS.F ht⟩) hS.2.2 dJx35411_next_0502b_65
def w9_Jx35411_init_45d68_2 : List Cond := [.code yJx35411_init_45d68 cJx35411_init_45d68 2 none, .fieldLink RJx35411 1 "java/util/ArrayList$Itr" "this$0" "Ljava/util/ArrayList;", .methodLink RJx35411 7 objectInit, .instanceMethod objectInit, .code objectInit ⟨#[0xb1]⟩ 1 none, .fieldLink RJx35411 13 "java/util/ArrayList$Itr" "lastRet" "I", .fieldLink RJx35411 17 "java/util/ArrayList" "modCount" "I", .sameField "java/util/ArrayList" "java/util/AbstractList" "modCount" "I", .fieldLink RJx35411 22 "java/util/ArrayList$Itr" "expectedModCount" "I"] ++ (u_ws RJx35411 TJx35411 4 ++ u_ws RJx4a65c TJx4a65c 3)
set_option maxRecDepth 20000 in
theorem in9_Jx35411_init_45d68_2_RJx35411 : ∀ w ∈ u_ws RJx35411 TJx35411 4, w ∈ w9_Jx35411_init_45d68_2 := by decide +kernel
set_option maxRecDepth 20000 in
theorem in9_Jx35411_init_45d68_2_RJx4a65c : ∀ w ∈ u_ws RJx4a65c TJx4a65c 3, w ∈ w9_Jx35411_init_45d68_2 := by decide +kernel
set_option maxHeartbeats 4000000 in
set_option maxRecDepth 100000 in
theorem c9_Jx35411_init_45d68_2 (l : Launch) (g : G9) (h0 h1 sz : Nat) : Met l yJx35411_init_45d68 w9_Jx35411_init_45d68_2 ({ frames := 1, cells := 0, slots := 0, locals := 12 }) (mP g [(h1, .inr (2, [.int 0, .ref (g.2.2 0), .int 0])), (h0, .inr (1, [.int 0, .int 0, .int 0, .null]))] sz [.ref h0, .ref h1]) (va_Qv (fun _ : Unit => True) (fun (_ : Unit) (t : State) => mB g [(h1, .inr (2, [.int 0, .ref (g.2.2 0), .int 0])), (h0, .inr (1, [.int 0, .int 0, .int 0, .null]))] sz [(h1, .inr (2, [.int 0, .ref (g.2.2 0), .int 0])), (h0, .inr (1, [.int 0, .int (-1), .int 0, .ref h1]))] t) (va_A [(h1, .inr (2, [.int 0, .ref (g.2.2 0), .int 0])), (h0, .inr (1, [.int 0, .int 0, .int 0, .null]))] sz)) 0 0 (va_A [(h1, .inr (2, [.int 0, .ref (g.2.2 0), .int 0])), (h0, .inr (1, [.int 0, .int 0, .int 0, .null]))] sz) := by
  refine Met.ofW (cc := cJx35411_init_45d68) (maxL := 2) (ret := none) (by decide) rfl ?_
  intro p e s m args below meth c s₁ B hml hv
  obtain ⟨rfl, hsz, hP, hD0, hE⟩ := hv
  have hx := B.exec
  have hb := B.bytes
  have hr := B.returns
  have hts := atoms_spec (ws := w9_Jx35411_init_45d68_2) B.pre
  have hown : s.vm.findClass RJx35411 = some m.cls := findClass_of_methodNamed B.named
  have hlocks := B.notSynchronized
  have hin : meth.name = "<init>" := (name_of_methodNamed B.named B.method).1
  subst hsz
  have hD := hD0.self (sz := s.heap.size)
  generalize hAe : va_A [(h1, .inr (2, [.int 0, .ref (g.2.2 0), .int 0])), (h0, .inr (1, [.int 0, .int 0, .int 0, .null]))] s.heap.size = A at hD hE ⊢
  have hA : ∀ q : Nat, s.heap.size ≤ q → A q := fun q h => by rw [← hAe]; exact Or.inr h
  have hK := hE.1
  have hS : va_S A s.heap s.heap [] := va_S.rf
  replace hP : va_P g.1 vwCl [(h1, .inr (2, [.int 0, .ref (g.2.2 0), .int 0])), (h0, .inr (1, [.int 0, .int 0, .int 0, .null]))] s.heap := hP
  have hl := lv_entry ([.ref h0, .ref h1]) (n := 2) (Nat.le_of_ble_eq_true rfl)
  rw [lg_entry_eq]
  generalize (lg_sl ([.ref h0, .ref h1]) ++ List.replicate (2 - (lg_sl ([.ref h0, .ref h1])).length) Slot.unset).toArray = ls at hl ⊢
  replace hl : lv_has ls 2 [(0, .ref h0), (1, .ref h1)] := hl
  have hH0 : s.heap.size ≤ s.heap.size := Nat.le_refl _
  refine lv_aload_n hx hb dJx35411_init_45d68_0 rfl (lv_at hl 0 rfl) ?_
  refine lv_aload_n hx hb dJx35411_init_45d68_1 rfl (lv_at hl 1 rfl) ?_
  refine va_putF (D := g.1) (ci := 1) (v := .ref h1) (ty := (.object "java/util/ArrayList")) (C := RJx35411) (T := TJx35411) (N := 4) hx hb hts in9_Jx35411_init_45d68_2_RJx35411 tyJx35411 tyJx35411_ok nmJx35411 hown hK hP hD hS 1 rfl rfl 3 (by decide) (hts (.fieldLink RJx35411 1 "java/util/ArrayList$Itr" "this$0" "Ljava/util/ArrayList;") (List.mem_of_getElem? (i := 1) rfl)) (fun _ h9 => h9) rfl hin rfl (by decide +kernel) rfl rfl (Nat.le_of_ble_eq_true rfl) dJx35411_init_45d68_2 (fun H locs hP hD hS => ?_)
  have hP : va_P g.1 vwCl [(h1, .inr (2, [.int 0, .ref (g.2.2 0), .int 0])), (h0, .inr (1, [.int 0, .int 0, .int 0, .ref h1]))] H := hP
  have hD : va_D A [(h1, .inr (2, [.int 0, .ref (g.2.2 0), .int 0])), (h0, .inr (1, [.int 0, .int 0, .int 0, .ref h1]))] := hD
  refine lv_aload_n hx hb dJx35411_init_45d68_5 rfl (lv_at hl 0 rfl) ?_
  refine W.objInit hx hb hown (hts (.methodLink RJx35411 7 objectInit) (List.mem_of_getElem? (i := 2) rfl)) (hts (.instanceMethod objectInit) (List.mem_of_getElem? (i := 3) rfl)) (hts (.code objectInit ⟨#[0xb1]⟩ 1 none) (List.mem_of_getElem? (i := 4) rfl)) rfl (by rw [hml]; exact hl.1) rfl dJx35411_init_45d68_6 (Nat.le_of_ble_eq_true rfl) (Nat.le_of_ble_eq_true rfl) ?_
  refine W.eq (g2 := F0 m 9 ls []) rfl ?_
  refine lv_aload_n hx hb dJx35411_init_45d68_9 rfl (lv_at hl 0 rfl) ?_
  refine lv_iconst (v := (-1)) hx hb dJx35411_init_45d68_10 (by decide) ?_
  refine va_put (D := g.1) (ci := 1) (v := .int (-1)) (ty := .int) (C := RJx35411) (T := TJx35411) (N := 4) hx hb hts in9_Jx35411_init_45d68_2_RJx35411 tyJx35411 tyJx35411_ok nmJx35411 hown hK hP hD hS 1 rfl rfl 1 (by decide) (hts (.fieldLink RJx35411 13 "java/util/ArrayList$Itr" "lastRet" "I") (List.mem_of_getElem? (i := 5) rfl)) (fun _ h9 => h9) rfl (by decide +kernel) rfl rfl (Nat.le_of_ble_eq_true rfl) dJx35411_init_45d68_11 (fun H locs hP hD hS => ?_)
  have hP : va_P g.1 vwCl [(h1, .inr (2, [.int 0, .ref (g.2.2 0), .int 0])), (h0, .inr (1, [.int 0, .int (-1), .int 0, .ref h1]))] H := hP
  have hD : va_D A [(h1, .inr (2, [.int 0, .ref (g.2.2 0), .int 0])), (h0, .inr (1, [.int 0, .int (-1), .int 0, .ref h1]))] := hD
  refine lv_aload_n hx hb dJx35411_init_45d68_14 rfl (lv_at hl 0 rfl) ?_
  refine lv_aload_n hx hb dJx35411_init_45d68_15 rfl (lv_at hl 0 rfl) ?_
  refine va_get (D := g.1) (ci := 1) (v := .ref h1) (C := RJx35411) (T := TJx35411) (N := 4) hx hb hts in9_Jx35411_init_45d68_2_RJx35411 hown hK hP 1 rfl rfl 3 (by decide) (hts (.fieldLink RJx35411 1 "java/util/ArrayList$Itr" "this$0" "Ljava/util/ArrayList;") (List.mem_of_getElem? (i := 1) rfl)) (fun _ h9 => h9) rfl dJx35411_init_45d68_16 ?_
  refine va_get (D := g.1) (ci := 2) (v := .int 0) (C := RJx4a65c) (T := TJx4a65c) (N := 3) hx hb hts in9_Jx35411_init_45d68_2_RJx4a65c hown hK hP 0 rfl rfl 0 (by decide) (hts (.fieldLink RJx35411 17 "java/util/ArrayList" "modCount" "I") (List.mem_of_getElem? (i := 6) rfl)) (fun x9 h9 => u_same (hts (.sameField "java/util/ArrayList" "java/util/AbstractList" "modCount" "I") (List.mem_of_getElem? (i := 7) rfl)) x9 h9) rfl dJx35411_init_45d68_19 ?_
  refine va_put (D := g.1) (ci := 1) (v := .int 0) (ty := .int) (C := RJx35411) (T := TJx35411) (N := 4) hx hb hts in9_Jx35411_init_45d68_2_RJx35411 tyJx35411 tyJx35411_ok nmJx35411 hown hK hP hD hS 1 rfl rfl 2 (by decide) (hts (.fieldLink RJx35411 22 "java/util/ArrayList$Itr" "expectedModCount" "I") (List.mem_of_getElem? (i := 8) rfl)) (fun _ h9 => h9) rfl (by decide +kernel) rfl rfl (Nat.le_of_ble_eq_true rfl) dJx35411_init_45d68_22 (fun H locs hP hD hS => ?_)
  have hP : va_P g.1 vwCl [(h1, .inr (2, [.int 0, .ref (g.2.2 0), .int 0])), (h0, .inr (1, [.int 0, .int (-1), .int 0, .ref h1]))] H := hP
  have hD : va_D A [(h1, .inr (2, [.int 0, .ref (g.2.2 0), .int 0])), (h0, .inr (1, [.int 0, .int (-1), .int 0, .ref h1]))] := hD
  have hP9 := hP.sub (ws' := [(h1, .inr (2, [.int 0, .ref (g.2.2 0), .int 0])), (h0, .inr (1, [.int 0, .int (-1), .int 0, .ref h1]))]) [0, 1] rfl
  have hD9 := hD.sub (ws' := [(h1, .inr (2, [.int 0, .ref (g.2.2 0), .int 0])), (h0, .inr (1, [.int 0, .int (-1), .int 0, .ref h1]))]) [0, 1] (by decide) rfl
  subst hAe
  exact W.vret hx hb hr (fun t ht hW => ⟨⟨(), rfl, trivial, by rw [ht]; exact hP9, hD9⟩, hS.F ht⟩) hS.2.2 dJx35411_init_45d68_25
def w9_Jx4a65c_iterator_32c93_2 : List Cond := [.code yJx4a65c_iterator_32c93 cJx4a65c_iterator_32c93 1 (some (.object "java/util/Iterator")), .classLink RJx4a65c 267 RJx35411, .instantiable RJx35411 4, .initialized RJx35411, .code yJx35411_init_45d68 cJx35411_init_45d68 2 none, .fieldLink RJx35411 1 "java/util/ArrayList$Itr" "this$0" "Ljava/util/ArrayList;", .methodLink RJx35411 7 objectInit, .instanceMethod objectInit, .code objectInit ⟨#[0xb1]⟩ 1 none, .fieldLink RJx35411 13 "java/util/ArrayList$Itr" "lastRet" "I", .fieldLink RJx35411 17 "java/util/ArrayList" "modCount" "I", .sameField "java/util/ArrayList" "java/util/AbstractList" "modCount" "I", .fieldLink RJx35411 22 "java/util/ArrayList$Itr" "expectedModCount" "I", .methodLink RJx4a65c 269 yJx35411_init_45d68, .instanceMethod yJx35411_init_45d68] ++ (u_ws RJx35411 TJx35411 4 ++ u_ws RJx4a65c TJx4a65c 3)
set_option maxRecDepth 20000 in
theorem in9_Jx4a65c_iterator_32c93_2_RJx35411 : ∀ w ∈ u_ws RJx35411 TJx35411 4, w ∈ w9_Jx4a65c_iterator_32c93_2 := by decide +kernel
set_option maxRecDepth 20000 in
theorem in9_Jx4a65c_iterator_32c93_2_RJx4a65c : ∀ w ∈ u_ws RJx4a65c TJx4a65c 3, w ∈ w9_Jx4a65c_iterator_32c93_2 := by decide +kernel
set_option maxRecDepth 20000 in
theorem g9_Jx4a65c_iterator_32c93_2_0 : GoodIn w9_Jx4a65c_iterator_32c93_2 (w9_Jx35411_init_45d68_2) := goodIn_r _ [4, 5, 6, 7, 8, 9, 10, 11, 12, 15, 16, 17, 18, 19, 20, 21] (by decide +kernel) (by decide +kernel)
set_option maxHeartbeats 4000000 in
set_option maxRecDepth 100000 in
theorem c9_Jx4a65c_iterator_32c93_2 (l : Launch) (g : G9) (h0 sz : Nat) : Met l yJx4a65c_iterator_32c93 w9_Jx4a65c_iterator_32c93_2 ({ frames := 2, cells := 1, slots := 4, locals := 33 }) (mP g [(h0, .inr (2, [.int 0, .ref (g.2.2 0), .int 0]))] sz [.ref h0]) (va_Qr (fun _ : Nat => True) (fun (q_1 : Nat) (ra : Nat) (t : State) => ra = q_1 ∧ mB g [(h0, .inr (2, [.int 0, .ref (g.2.2 0), .int 0]))] sz [(h0, .inr (2, [.int 0, .ref (g.2.2 0), .int 0])), (q_1, .inr (1, [.int 0, .int (-1), .int 0, .ref h0]))] t) (va_A [(h0, .inr (2, [.int 0, .ref (g.2.2 0), .int 0]))] sz)) 1 4 (va_A [(h0, .inr (2, [.int 0, .ref (g.2.2 0), .int 0]))] sz) := by
  refine Met.ofW (cc := cJx4a65c_iterator_32c93) (maxL := 1) (ret := (some (.object "java/util/Iterator"))) (by decide) rfl ?_
  intro p e s m args below meth c s₁ B hml hv
  obtain ⟨rfl, hsz, hP, hD0, hE⟩ := hv
  have hx := B.exec
  have hb := B.bytes
  have hr := B.returns
  have hts := atoms_spec (ws := w9_Jx4a65c_iterator_32c93_2) B.pre
  have hown : s.vm.findClass RJx4a65c = some m.cls := findClass_of_methodNamed B.named
  have hlocks := B.notSynchronized
  subst hsz
  have hD := hD0.self (sz := s.heap.size)
  generalize hAe : va_A [(h0, .inr (2, [.int 0, .ref (g.2.2 0), .int 0]))] s.heap.size = A at hD hE ⊢
  have hA : ∀ q : Nat, s.heap.size ≤ q → A q := fun q h => by rw [← hAe]; exact Or.inr h
  have hK := hE.1
  have hS : va_S A s.heap s.heap [] := va_S.rf
  replace hP : va_P g.1 vwCl [(h0, .inr (2, [.int 0, .ref (g.2.2 0), .int 0]))] s.heap := hP
  have hl := lv_entry ([.ref h0]) (n := 1) (Nat.le_of_ble_eq_true rfl)
  rw [lg_entry_eq]
  generalize (lg_sl ([.ref h0]) ++ List.replicate (1 - (lg_sl ([.ref h0])).length) Slot.unset).toArray = ls at hl ⊢
  replace hl : lv_has ls 1 [(0, .ref h0)] := hl
  have hH0 : s.heap.size ≤ s.heap.size := Nat.le_refl _
  refine va_new (ci := 1) (fs := [.int 0, .int 0, .int 0, .null]) (C := RJx35411) (T := TJx35411) (N := 4) hx hb hts in9_Jx4a65c_iterator_32c93_2_RJx35411 tyJx35411 tyJx35411_ok hown (hts (.classLink RJx4a65c 267 RJx35411) (List.mem_of_getElem? (i := 1) rfl)) (hts (.instantiable RJx35411 4) (List.mem_of_getElem? (i := 2) rfl)) (hts (.initialized RJx35411) (List.mem_of_getElem? (i := 3) rfl)) hK hP hD hS hA rfl (fun j hj => by rcases (show j = 0 ∨ j = 1 ∨ j = 2 ∨ j = 3 by omega) with rfl | rfl | rfl | rfl <;> rfl) (Nat.le_of_ble_eq_true rfl) (Nat.le_of_ble_eq_true rfl) dJx4a65c_iterator_32c93_0 (fun q_1 H hP hD hS => ?_)
  have hP : va_P g.1 vwCl [(h0, .inr (2, [.int 0, .ref (g.2.2 0), .int 0])), (q_1, .inr (1, [.int 0, .int 0, .int 0, .null]))] H := hP
  have hD : va_D A [(h0, .inr (2, [.int 0, .ref (g.2.2 0), .int 0])), (q_1, .inr (1, [.int 0, .int 0, .int 0, .null]))] := hD
  refine lv_dup hx hb dJx4a65c_iterator_32c93_3 rfl ?_
  refine lv_aload_n hx hb dJx4a65c_iterator_32c93_4 rfl (lv_at hl 0 rfl) ?_
  have hPc := hP.sub (ws' := [(h0, .inr (2, [.int 0, .ref (g.2.2 0), .int 0])), (q_1, .inr (1, [.int 0, .int 0, .int 0, .null]))]) [0, 1] rfl
  have hDc := hD.sub (ws' := [(h0, .inr (2, [.int 0, .ref (g.2.2 0), .int 0])), (q_1, .inr (1, [.int 0, .int 0, .int 0, .null]))]) [0, 1] (by decide) rfl
  have hFc := va_free (wc := [(h0, .inr (2, [.int 0, .ref (g.2.2 0), .int 0])), (q_1, .inr (1, [.int 0, .int 0, .int 0, .null]))]) hD hS hA [0, 1] rfl
  refine va_callv (va_runI (As := [.ref h0]) (rest := [.ref q_1]) ⟨hx, hb, hml, hown, hts⟩ (c9_Jx35411_init_45d68_2 l g q_1 h0 _) (cwI 1 hts g9_Jx4a65c_iterator_32c93_2_0 rfl rfl rfl (hts (.initialized RJx35411) (List.mem_of_getElem? (i := 3) rfl)) (hts (.methodLink RJx4a65c 269 yJx35411_init_45d68) (List.mem_of_getElem? (i := 13) rfl)) (hts (.instanceMethod yJx35411_init_45d68) (List.mem_of_getElem? (i := 14) rfl)) rfl (by decide +kernel) ⟨Nat.le_of_ble_eq_true rfl, Nat.le_of_ble_eq_true rfl⟩) (mPreS (g := g) (wc := [(h0, .inr (2, [.int 0, .ref (g.2.2 0), .int 0])), (q_1, .inr (1, [.int 0, .int 0, .int 0, .null]))]) hE hS hPc hDc hFc) rfl rfl hl.1 rfl (lv_room (Nat.le_of_ble_eq_true rfl)) dJx4a65c_iterator_32c93_5 ⟨Nat.le_of_ble_eq_true rfl, Nat.le_of_ble_eq_true rfl⟩) hS (fun q _ h => hFc q h) hFc (fun u t H1 locs ht hvm hw hB hz1 hk1 hS => ?_)
  obtain ⟨hP1, hD1⟩ := hB
  rw [ht] at hP1
  obtain ⟨hP, hD⟩ := va_join (wr := []) (w1 := [(h0, .inr (2, [.int 0, .ref (g.2.2 0), .int 0])), (q_1, .inr (1, [.int 0, .int (-1), .int 0, .ref h0]))]) hP hD [0, 1] [] rfl rfl (by decide) (by decide) hk1 hFc hP1 hD1
  clear hP1 hD1 hPc hDc hFc hk1 hz1 hvm ht
  generalize H1 = H at hP hS ⊢
  have hP : va_P g.1 vwCl [(h0, .inr (2, [.int 0, .ref (g.2.2 0), .int 0])), (q_1, .inr (1, [.int 0, .int (-1), .int 0, .ref h0]))] H := hP
  have hD : va_D A [(h0, .inr (2, [.int 0, .ref (g.2.2 0), .int 0])), (q_1, .inr (1, [.int 0, .int (-1), .int 0, .ref h0]))] := hD
  have hP9 := hP.sub (ws' := [(h0, .inr (2, [.int 0, .ref (g.2.2 0), .int 0])), (q_1, .inr (1, [.int 0, .int (-1), .int 0, .ref h0]))]) [0, 1] rfl
  have hD9 := hD.sub (ws' := [(h0, .inr (2, [.int 0, .ref (g.2.2 0), .int 0])), (q_1, .inr (1, [.int 0, .int (-1), .int 0, .ref h0]))]) [0, 1] (by decide) rfl
  subst hAe
  exact W.aret (v := .ref q_1) hx hb hr (by first | exact Or.inl ⟨_, rfl⟩ | exact Or.inr ⟨_, rfl⟩) (Or.inr ⟨_, rfl⟩) (fun t ht hW => ⟨⟨q_1, q_1, rfl, trivial, rfl, by rw [ht]; exact hP9, hD9⟩, hS.F ht⟩) hS.2.2 dJx4a65c_iterator_32c93_8
def w9_Jx35411_hasNext_aae02_2 : List Cond := [.code yJx35411_hasNext_aae02 cJx35411_hasNext_aae02 1 (some .boolean), .fieldLink RJx35411 25 "java/util/ArrayList$Itr" "cursor" "I", .fieldLink RJx35411 1 "java/util/ArrayList$Itr" "this$0" "Ljava/util/ArrayList;"] ++ (u_ws RJx35411 TJx35411 4 ++ u_ws RJx4a65c TJx4a65c 3)
set_option maxRecDepth 20000 in
theorem in9_Jx35411_hasNext_aae02_2_RJx35411 : ∀ w ∈ u_ws RJx35411 TJx35411 4, w ∈ w9_Jx35411_hasNext_aae02_2 := by decide +kernel
set_option maxRecDepth 20000 in
theorem in9_Jx35411_hasNext_aae02_2_RJx4a65c : ∀ w ∈ u_ws RJx4a65c TJx4a65c 3, w ∈ w9_Jx35411_hasNext_aae02_2 := by decide +kernel
set_option maxHeartbeats 4000000 in
set_option maxRecDepth 100000 in
theorem c9_Jx35411_hasNext_aae02_2 (l : Launch) (g : G9) (h0 h1 sz : Nat) : Met l yJx35411_hasNext_aae02 w9_Jx35411_hasNext_aae02_2 ({ frames := 0, cells := 0, slots := 0, locals := 0 }) (mP g [(h1, .inr (2, [.int 0, .ref (g.2.2 0), .int 0])), (h0, .inr (1, [.int 0, .int (-1), .int 0, .ref h1]))] sz [.ref h0]) (va_Qi (fun (r : Int32) (_ : Unit) => r = 0) (fun (_ : Unit) (t : State) => mB g [(h1, .inr (2, [.int 0, .ref (g.2.2 0), .int 0])), (h0, .inr (1, [.int 0, .int (-1), .int 0, .ref h1]))] sz [(h1, .inr (2, [.int 0, .ref (g.2.2 0), .int 0])), (h0, .inr (1, [.int 0, .int (-1), .int 0, .ref h1]))] t) (va_A [(h1, .inr (2, [.int 0, .ref (g.2.2 0), .int 0])), (h0, .inr (1, [.int 0, .int (-1), .int 0, .ref h1]))] sz)) 0 0 (va_A [(h1, .inr (2, [.int 0, .ref (g.2.2 0), .int 0])), (h0, .inr (1, [.int 0, .int (-1), .int 0, .ref h1]))] sz) := by
  refine Met.ofW (cc := cJx35411_hasNext_aae02) (maxL := 1) (ret := (some .boolean)) (by decide) rfl ?_
  intro p e s m args below meth c s₁ B hml hv
  obtain ⟨rfl, hsz, hP, hD0, hE⟩ := hv
  have hx := B.exec
  have hb := B.bytes
  have hr := B.returns
  have hts := atoms_spec (ws := w9_Jx35411_hasNext_aae02_2) B.pre
  have hown : s.vm.findClass RJx35411 = some m.cls := findClass_of_methodNamed B.named
  have hlocks := B.notSynchronized
  subst hsz
  have hD := hD0.self (sz := s.heap.size)
  generalize hAe : va_A [(h1, .inr (2, [.int 0, .ref (g.2.2 0), .int 0])), (h0, .inr (1, [.int 0, .int (-1), .int 0, .ref h1]))] s.heap.size = A at hD hE ⊢
  have hA : ∀ q : Nat, s.heap.size ≤ q → A q := fun q h => by rw [← hAe]; exact Or.inr h
  have hK := hE.1
  have hS : va_S A s.heap s.heap [] := va_S.rf
  replace hP : va_P g.1 vwCl [(h1, .inr (2, [.int 0, .ref (g.2.2 0), .int 0])), (h0, .inr (1, [.int 0, .int (-1), .int 0, .ref h1]))] s.heap := hP
  have hl := lv_entry ([.ref h0]) (n := 1) (Nat.le_of_ble_eq_true rfl)
  rw [lg_entry_eq]
  generalize (lg_sl ([.ref h0]) ++ List.replicate (1 - (lg_sl ([.ref h0])).length) Slot.unset).toArray = ls at hl ⊢
  replace hl : lv_has ls 1 [(0, .ref h0)] := hl
  have hH0 : s.heap.size ≤ s.heap.size := Nat.le_refl _
  refine lv_aload_n hx hb dJx35411_hasNext_aae02_0 rfl (lv_at hl 0 rfl) ?_
  refine va_get (D := g.1) (ci := 1) (v := .int 0) (C := RJx35411) (T := TJx35411) (N := 4) hx hb hts in9_Jx35411_hasNext_aae02_2_RJx35411 hown hK hP 1 rfl rfl 0 (by decide) (hts (.fieldLink RJx35411 25 "java/util/ArrayList$Itr" "cursor" "I") (List.mem_of_getElem? (i := 1) rfl)) (fun _ h9 => h9) rfl dJx35411_hasNext_aae02_1 ?_
  refine lv_aload_n hx hb dJx35411_hasNext_aae02_4 rfl (lv_at hl 0 rfl) ?_
  refine va_get (D := g.1) (ci := 1) (v := .ref h1) (C := RJx35411) (T := TJx35411) (N := 4) hx hb hts in9_Jx35411_hasNext_aae02_2_RJx35411 hown hK hP 1 rfl rfl 3 (by decide) (hts (.fieldLink RJx35411 1 "java/util/ArrayList$Itr" "this$0" "Ljava/util/ArrayList;") (List.mem_of_getElem? (i := 2) rfl)) (fun _ h9 => h9) rfl dJx35411_hasNext_aae02_5 ?_
  refine va_getN (D := g.1) (ci := 2) (v := .int 0) (C := RJx4a65c) (T := TJx4a65c) (N := 3) hx hb hts in9_Jx35411_hasNext_aae02_2_RJx4a65c hown hK hP 0 rfl rfl 2 (by decide) (va_Nw.use rfl hE.nf) (fun _ h9 => h9) rfl dJx35411_hasNext_aae02_8 ?_
  refine lv_icmp_eq (tgt := 18) hx hb dJx35411_hasNext_aae02_11 (by decide) (fun _ => ?_) (fun c9 => absurd (by decide) c9)
  refine lv_iconst (v := 0) hx hb dJx35411_hasNext_aae02_18 (by decide) ?_
  have hP9 := hP.sub (ws' := [(h1, .inr (2, [.int 0, .ref (g.2.2 0), .int 0])), (h0, .inr (1, [.int 0, .int (-1), .int 0, .ref h1]))]) [0, 1] rfl
  have hD9 := hD.sub (ws' := [(h1, .inr (2, [.int 0, .ref (g.2.2 0), .int 0])), (h0, .inr (1, [.int 0, .int (-1), .int 0, .ref h1]))]) [0, 1] (by decide) rfl
  subst hAe
  exact W.zret (v := 0) hx hb hr (by decide) (fun t ht hW => ⟨⟨0, (), rfl, rfl, by rw [ht]; exact hP9, hD9⟩, hS.F ht⟩) hS.2.2 dJx35411_hasNext_aae02_19
def w9_Jx35411_hasNext_aae02_3 : List Cond := [.code yJx35411_hasNext_aae02 cJx35411_hasNext_aae02 1 (some .boolean), .fieldLink RJx35411 25 "java/util/ArrayList$Itr" "cursor" "I", .fieldLink RJx35411 1 "java/util/ArrayList$Itr" "this$0" "Ljava/util/ArrayList;"] ++ (u_ws RJx35411 TJx35411 4 ++ u_ws RJx4a65c TJx4a65c 3)
set_option maxRecDepth 20000 in
theorem in9_Jx35411_hasNext_aae02_3_RJx35411 : ∀ w ∈ u_ws RJx35411 TJx35411 4, w ∈ w9_Jx35411_hasNext_aae02_3 := by decide +kernel
set_option maxRecDepth 20000 in
theorem in9_Jx35411_hasNext_aae02_3_RJx4a65c : ∀ w ∈ u_ws RJx4a65c TJx4a65c 3, w ∈ w9_Jx35411_hasNext_aae02_3 := by decide +kernel
set_option maxHeartbeats 4000000 in
set_option maxRecDepth 100000 in
theorem c9_Jx35411_hasNext_aae02_3 (l : Launch) (g : G9) (h0 h1 h2 sz : Nat) : Met l yJx35411_hasNext_aae02 w9_Jx35411_hasNext_aae02_3 ({ frames := 0, cells := 0, slots := 0, locals := 0 }) (mP g [(h1, .inr (2, [.int 1, .ref h2, .int 1])), (h0, .inr (1, [.int 1, .int 0, .int 1, .ref h1]))] sz [.ref h0]) (va_Qi (fun (r : Int32) (_ : Unit) => r = 0) (fun (_ : Unit) (t : State) => mB g [(h1, .inr (2, [.int 1, .ref h2, .int 1])), (h0, .inr (1, [.int 1, .int 0, .int 1, .ref h1]))] sz [(h1, .inr (2, [.int 1, .ref h2, .int 1])), (h0, .inr (1, [.int 1, .int 0, .int 1, .ref h1]))] t) (va_A [(h1, .inr (2, [.int 1, .ref h2, .int 1])), (h0, .inr (1, [.int 1, .int 0, .int 1, .ref h1]))] sz)) 0 0 (va_A [(h1, .inr (2, [.int 1, .ref h2, .int 1])), (h0, .inr (1, [.int 1, .int 0, .int 1, .ref h1]))] sz) := by
  refine Met.ofW (cc := cJx35411_hasNext_aae02) (maxL := 1) (ret := (some .boolean)) (by decide) rfl ?_
  intro p e s m args below meth c s₁ B hml hv
  obtain ⟨rfl, hsz, hP, hD0, hE⟩ := hv
  have hx := B.exec
  have hb := B.bytes
  have hr := B.returns
  have hts := atoms_spec (ws := w9_Jx35411_hasNext_aae02_3) B.pre
  have hown : s.vm.findClass RJx35411 = some m.cls := findClass_of_methodNamed B.named
  have hlocks := B.notSynchronized
  subst hsz
  have hD := hD0.self (sz := s.heap.size)
  generalize hAe : va_A [(h1, .inr (2, [.int 1, .ref h2, .int 1])), (h0, .inr (1, [.int 1, .int 0, .int 1, .ref h1]))] s.heap.size = A at hD hE ⊢
  have hA : ∀ q : Nat, s.heap.size ≤ q → A q := fun q h => by rw [← hAe]; exact Or.inr h
  have hK := hE.1
  have hS : va_S A s.heap s.heap [] := va_S.rf
  replace hP : va_P g.1 vwCl [(h1, .inr (2, [.int 1, .ref h2, .int 1])), (h0, .inr (1, [.int 1, .int 0, .int 1, .ref h1]))] s.heap := hP
  have hl := lv_entry ([.ref h0]) (n := 1) (Nat.le_of_ble_eq_true rfl)
  rw [lg_entry_eq]
  generalize (lg_sl ([.ref h0]) ++ List.replicate (1 - (lg_sl ([.ref h0])).length) Slot.unset).toArray = ls at hl ⊢
  replace hl : lv_has ls 1 [(0, .ref h0)] := hl
  have hH0 : s.heap.size ≤ s.heap.size := Nat.le_refl _
  refine lv_aload_n hx hb dJx35411_hasNext_aae02_0 rfl (lv_at hl 0 rfl) ?_
  refine va_get (D := g.1) (ci := 1) (v := .int 1) (C := RJx35411) (T := TJx35411) (N := 4) hx hb hts in9_Jx35411_hasNext_aae02_3_RJx35411 hown hK hP 1 rfl rfl 0 (by decide) (hts (.fieldLink RJx35411 25 "java/util/ArrayList$Itr" "cursor" "I") (List.mem_of_getElem? (i := 1) rfl)) (fun _ h9 => h9) rfl dJx35411_hasNext_aae02_1 ?_
  refine lv_aload_n hx hb dJx35411_hasNext_aae02_4 rfl (lv_at hl 0 rfl) ?_
  refine va_get (D := g.1) (ci := 1) (v := .ref h1) (C := RJx35411) (T := TJx35411) (N := 4) hx hb hts in9_Jx35411_hasNext_aae02_3_RJx35411 hown hK hP 1 rfl rfl 3 (by decide) (hts (.fieldLink RJx35411 1 "java/util/ArrayList$Itr" "this$0" "Ljava/util/ArrayList;") (List.mem_of_getElem? (i := 2) rfl)) (fun _ h9 => h9) rfl dJx35411_hasNext_aae02_5 ?_
  refine va_getN (D := g.1) (ci := 2) (v := .int 1) (C := RJx4a65c) (T := TJx4a65c) (N := 3) hx hb hts in9_Jx35411_hasNext_aae02_3_RJx4a65c hown hK hP 0 rfl rfl 2 (by decide) (va_Nw.use rfl hE.nf) (fun _ h9 => h9) rfl dJx35411_hasNext_aae02_8 ?_
  refine lv_icmp_eq (tgt := 18) hx hb dJx35411_hasNext_aae02_11 (by decide) (fun _ => ?_) (fun c9 => absurd (by decide) c9)
  refine lv_iconst (v := 0) hx hb dJx35411_hasNext_aae02_18 (by decide) ?_
  have hP9 := hP.sub (ws' := [(h1, .inr (2, [.int 1, .ref h2, .int 1])), (h0, .inr (1, [.int 1, .int 0, .int 1, .ref h1]))]) [0, 1] rfl
  have hD9 := hD.sub (ws' := [(h1, .inr (2, [.int 1, .ref h2, .int 1])), (h0, .inr (1, [.int 1, .int 0, .int 1, .ref h1]))]) [0, 1] (by decide) rfl
  subst hAe
  exact W.zret (v := 0) hx hb hr (by decide) (fun t ht hW => ⟨⟨0, (), rfl, rfl, by rw [ht]; exact hP9, hD9⟩, hS.F ht⟩) hS.2.2 dJx35411_hasNext_aae02_19
def w9_X21_isPlain_1 : List Cond := [.code yX21_isPlain cX21_isPlain 6 (some .boolean), .fieldLink RX21 16 "RegexloomModel$Node" "kind" "I", .fieldLink RX21 33 "RegexloomModel$Node" "branches" "Ljava/util/ArrayList;", .methodLink RX21 37 yJx4a65c_iterator_32c93, .instanceMethod yJx4a65c_iterator_32c93, .selects RJx4a65c yJx4a65c_iterator_32c93 yJx4a65c_iterator_32c93, .initialized RJx4a65c, .code yJx4a65c_iterator_32c93 cJx4a65c_iterator_32c93 1 (some (.object "java/util/Iterator")), .classLink RJx4a65c 267 RJx35411, .instantiable RJx35411 4, .initialized RJx35411, .code yJx35411_init_45d68 cJx35411_init_45d68 2 none, .fieldLink RJx35411 1 "java/util/ArrayList$Itr" "this$0" "Ljava/util/ArrayList;", .methodLink RJx35411 7 objectInit, .instanceMethod objectInit, .code objectInit ⟨#[0xb1]⟩ 1 none, .fieldLink RJx35411 13 "java/util/ArrayList$Itr" "lastRet" "I", .fieldLink RJx35411 17 "java/util/ArrayList" "modCount" "I", .sameField "java/util/ArrayList" "java/util/AbstractList" "modCount" "I", .fieldLink RJx35411 22 "java/util/ArrayList$Itr" "expectedModCount" "I", .methodLink RJx4a65c 269 yJx35411_init_45d68, .instanceMethod yJx35411_init_45d68, .methodLink RX21 43 ⟨"java/util/Iterator", "hasNext", "()Z"⟩, .selects RJx35411 ⟨"java/util/Iterator", "hasNext", "()Z"⟩ yJx35411_hasNext_aae02, .instanceMethod yJx35411_hasNext_aae02, .code yJx35411_hasNext_aae02 cJx35411_hasNext_aae02 1 (some .boolean), .fieldLink RJx35411 25 "java/util/ArrayList$Itr" "cursor" "I", .methodLink RX21 49 ⟨"java/util/Iterator", "next", "()Ljava/lang/Object;"⟩, .selects RJx35411 ⟨"java/util/Iterator", "next", "()Ljava/lang/Object;"⟩ yJx35411_next_0502b, .instanceMethod yJx35411_next_0502b, .code yJx35411_next_0502b cJx35411_next_0502b 3 (some (.object "java/lang/Object")), .methodLink RJx35411 31 yJx35411_checkForComodification_da8c8, .instanceMethod yJx35411_checkForComodification_da8c8, .selects RJx35411 yJx35411_checkForComodification_da8c8 yJx35411_checkForComodification_da8c8, .code yJx35411_checkForComodification_da8c8 cJx35411_checkForComodification_da8c8 1 none, .fieldLink RJx35411 37 "java/util/ArrayList" "elementData" "[Ljava/lang/Object;", .classLink RX21 38 "java/util/ArrayList"] ++ (u_ws RX14 TX14 9 ++ u_ws RJx35411 TJx35411 4 ++ u_ws RJx4a65c TJx4a65c 3)
set_option maxRecDepth 20000 in
theorem in9_X21_isPlain_1_RX14 : ∀ w ∈ u_ws RX14 TX14 9, w ∈ w9_X21_isPlain_1 := by decide +kernel
set_option maxRecDepth 20000 in
theorem in9_X21_isPlain_1_RJx35411 : ∀ w ∈ u_ws RJx35411 TJx35411 4, w ∈ w9_X21_isPlain_1 := by decide +kernel
set_option maxRecDepth 20000 in
theorem in9_X21_isPlain_1_RJx4a65c : ∀ w ∈ u_ws RJx4a65c TJx4a65c 3, w ∈ w9_X21_isPlain_1 := by decide +kernel
set_option maxRecDepth 20000 in
theorem g9_X21_isPlain_1_0 : GoodIn w9_X21_isPlain_1 (wsV RX21 37 RJx4a65c yJx4a65c_iterator_32c93 w9_Jx4a65c_iterator_32c93_1) := goodIn_r _ [3, 4, 5, 6, 7, 8, 9, 10, 11, 12, 13, 14, 15, 16, 17, 18, 19, 20, 21, 46, 47, 48, 49, 50, 51, 52] (by decide +kernel) (by decide +kernel)
set_option maxRecDepth 20000 in
theorem g9_X21_isPlain_1_1 : GoodIn w9_X21_isPlain_1 (va_wsF RX21 43 RJx35411 ⟨"java/util/Iterator", "hasNext", "()Z"⟩ yJx35411_hasNext_aae02 w9_Jx35411_hasNext_aae02_1) := goodIn_r _ [22, 23, 24, 10, 25, 26, 12, 46, 47, 48, 49, 50, 51, 52] (by decide +kernel) (by decide +kernel)
set_option maxRecDepth 20000 in
theorem g9_X21_isPlain_1_2 : GoodIn w9_X21_isPlain_1 (va_wsF RX21 49 RJx35411 ⟨"java/util/Iterator", "next", "()Ljava/lang/Object;"⟩ yJx35411_next_0502b w9_Jx35411_next_0502b_1) := goodIn_r _ [27, 28, 29, 10, 30, 31, 32, 33, 10, 34, 12, 17, 18, 19, 26, 35, 16, 46, 47, 48, 49, 50, 51, 52] (by decide +kernel) (by decide +kernel)
set_option maxRecDepth 20000 in
theorem g9_X21_isPlain_1_3 : GoodIn w9_X21_isPlain_1 (wsV RX21 37 RJx4a65c yJx4a65c_iterator_32c93 w9_Jx4a65c_iterator_32c93_2) := goodIn_r _ [3, 4, 5, 6, 7, 8, 9, 10, 11, 12, 13, 14, 15, 16, 17, 18, 19, 20, 21, 46, 47, 48, 49, 50, 51, 52] (by decide +kernel) (by decide +kernel)
set_option maxRecDepth 20000 in
theorem g9_X21_isPlain_1_4 : GoodIn w9_X21_isPlain_1 (va_wsF RX21 43 RJx35411 ⟨"java/util/Iterator", "hasNext", "()Z"⟩ yJx35411_hasNext_aae02 w9_Jx35411_hasNext_aae02_2) := goodIn_r _ [22, 23, 24, 10, 25, 26, 12, 46, 47, 48, 49, 50, 51, 52] (by decide +kernel) (by decide +kernel)
set_option maxRecDepth 20000 in
theorem g9_X21_isPlain_1_5 : GoodIn w9_X21_isPlain_1 (va_wsF RX21 43 RJx35411 ⟨"java/util/Iterator", "hasNext", "()Z"⟩ yJx35411_hasNext_aae02 w9_Jx35411_hasNext_aae02_3) := goodIn_r _ [22, 23, 24, 10, 25, 26, 12, 46, 47, 48, 49, 50, 51, 52] (by decide +kernel) (by decide +kernel)
set_option maxHeartbeats 4000000 in
set_option maxRecDepth 100000 in
theorem c9_X21_isPlain_1 (l : Launch) (g : G9) (h0 h1 h2 h3 sz : Nat) : Met l yX21_isPlain w9_X21_isPlain_1 ({ frames := 3, cells := 2, slots := 8, locals := 53 }) (mP g [(h0, .inr (15, [.int 6, .long 0, .int 0, .int 0, .ref h1, .null, .int 0, .int 0, .int 0])), (h1, .inr (2, [.int 1, .ref h2, .int 1])), (h3, .inr (2, [.int 0, .ref (g.2.2 0), .int 0])), (h2, .inl (g.2.1 6, 10, .inr (.inr (.inr (.inr (va_up (fun _ => none) 0 (some h3)))))))] sz [.ref h0]) (va_Qi (fun (r : Int32) (_ : Unit) => r = 1) (fun (_ : Unit) (t : State) => mB g [(h0, .inr (15, [.int 6, .long 0, .int 0, .int 0, .ref h1, .null, .int 0, .int 0, .int 0])), (h1, .inr (2, [.int 1, .ref h2, .int 1])), (h3, .inr (2, [.int 0, .ref (g.2.2 0), .int 0])), (h2, .inl (g.2.1 6, 10, .inr (.inr (.inr (.inr (va_up (fun _ => none) 0 (some h3)))))))] sz [(h0, .inr (15, [.int 6, .long 0, .int 0, .int 0, .ref h1, .null, .int 0, .int 0, .int 0])), (h1, .inr (2, [.int 1, .ref h2, .int 1])), (h3, .inr (2, [.int 0, .ref (g.2.2 0), .int 0])), (h2, .inl (g.2.1 6, 10, .inr (.inr (.inr (.inr (va_up (fun _ => none) 0 (some h3)))))))] t) (va_A [(h0, .inr (15, [.int 6, .long 0, .int 0, .int 0, .ref h1, .null, .int 0, .int 0, .int 0])), (h1, .inr (2, [.int 1, .ref h2, .int 1])), (h3, .inr (2, [.int 0, .ref (g.2.2 0), .int 0])), (h2, .inl (g.2.1 6, 10, .inr (.inr (.inr (.inr (va_up (fun _ => none) 0 (some h3)))))))] sz)) 2 8 (va_A [(h0, .inr (15, [.int 6, .long 0, .int 0, .int 0, .ref h1, .null, .int 0, .int 0, .int 0])), (h1, .inr (2, [.int 1, .ref h2, .int 1])), (h3, .inr (2, [.int 0, .ref (g.2.2 0), .int 0])), (h2, .inl (g.2.1 6, 10, .inr (.inr (.inr (.inr (va_up (fun _ => none) 0 (some h3)))))))] sz) := by
  refine Met.ofW (cc := cX21_isPlain) (maxL := 6) (ret := (some .boolean)) (by decide) rfl ?_
  intro p e s m args below meth c s₁ B hml hv
  obtain ⟨rfl, hsz, hP, hD0, hE⟩ := hv
  have hx := B.exec
  have hb := B.bytes
  have hr := B.returns
  have hts := atoms_spec (ws := w9_X21_isPlain_1) B.pre
  have hown : s.vm.findClass RX21 = some m.cls := findClass_of_methodNamed B.named
  have hlocks := B.notSynchronized
  subst hsz
  have hD := hD0.self (sz := s.heap.size)
  generalize hAe : va_A [(h0, .inr (15, [.int 6, .long 0, .int 0, .int 0, .ref h1, .null, .int 0, .int 0, .int 0])), (h1, .inr (2, [.int 1, .ref h2, .int 1])), (h3, .inr (2, [.int 0, .ref (g.2.2 0), .int 0])), (h2, .inl (g.2.1 6, 10, .inr (.inr (.inr (.inr (va_up (fun _ => none) 0 (some h3)))))))] s.heap.size = A at hD hE ⊢
  have hA : ∀ q : Nat, s.heap.size ≤ q → A q := fun q h => by rw [← hAe]; exact Or.inr h
  have hK := hE.1
  have hS : va_S A s.heap s.heap [] := va_S.rf
  replace hP : va_P g.1 vwCl [(h0, .inr (15, [.int 6, .long 0, .int 0, .int 0, .ref h1, .null, .int 0, .int 0, .int 0])), (h1, .inr (2, [.int 1, .ref h2, .int 1])), (h3, .inr (2, [.int 0, .ref (g.2.2 0), .int 0])), (h2, .inl (g.2.1 6, 10, .inr (.inr (.inr (.inr (va_up (fun _ => none) 0 (some h3)))))))] s.heap := hP
  have hl := lv_entry ([.ref h0]) (n := 6) (Nat.le_of_ble_eq_true rfl)
  rw [lg_entry_eq]
  generalize (lg_sl ([.ref h0]) ++ List.replicate (6 - (lg_sl ([.ref h0])).length) Slot.unset).toArray = ls at hl ⊢
  replace hl : lv_has ls 6 [(0, .ref h0)] := hl
  have hH0 : s.heap.size ≤ s.heap.size := Nat.le_refl _
  refine lv_aload_n hx hb dX21_isPlain_0 rfl (lv_at hl 0 rfl) ?_
  refine va_get (D := g.1) (ci := 15) (v := .int 6) (C := RX14) (T := TX14) (N := 9) hx hb hts in9_X21_isPlain_1_RX14 hown hK hP 0 rfl rfl 0 (by decide) (hts (.fieldLink RX21 16 "RegexloomModel$Node" "kind" "I") (List.mem_of_getElem? (i := 1) rfl)) (fun _ h9 => h9) rfl dX21_isPlain_1 ?_
  refine lv_bipush (v := 13) hx hb dX21_isPlain_4 (by decide) ?_
  refine lv_icmp_ne (tgt := 69) hx hb dX21_isPlain_6 (by decide) (fun _ => ?_) (fun c9 => absurd c9 (by decide))
  refine lv_aload_n hx hb dX21_isPlain_69 rfl (lv_at hl 0 rfl) ?_
  refine va_get (D := g.1) (ci := 15) (v := .int 6) (C := RX14) (T := TX14) (N := 9) hx hb hts in9_X21_isPlain_1_RX14 hown hK hP 0 rfl rfl 0 (by decide) (hts (.fieldLink RX21 16 "RegexloomModel$Node" "kind" "I") (List.mem_of_getElem? (i := 1) rfl)) (fun _ h9 => h9) rfl dX21_isPlain_70 ?_
  refine lv_bipush (v := 6) hx hb dX21_isPlain_73 (by decide) ?_
  refine lv_icmp_gt (tgt := 82) hx hb dX21_isPlain_75 (by decide) (fun c9 => absurd c9 (by decide)) (fun _ => ?_)
  refine lv_iconst (v := 1) hx hb dX21_isPlain_78 (by decide) ?_
  refine lv_goto (tgt := 83) hx hb dX21_isPlain_79 (by decide) ?_
  refine lv_istore_n (lv' := [(1, .int 1), (0, .ref h0)]) hx hb dX21_isPlain_83 rfl hl (by decide) rfl (fun ls hl => ?_)
  refine lv_aload_n hx hb dX21_isPlain_84 rfl (lv_at hl 1 rfl) ?_
  refine va_get (D := g.1) (ci := 15) (v := .ref h1) (C := RX14) (T := TX14) (N := 9) hx hb hts in9_X21_isPlain_1_RX14 hown hK hP 0 rfl rfl 4 (by decide) (hts (.fieldLink RX21 33 "RegexloomModel$Node" "branches" "Ljava/util/ArrayList;") (List.mem_of_getElem? (i := 2) rfl)) (fun _ h9 => h9) rfl dX21_isPlain_85 ?_
  have hPc := hP.sub (ws' := [(h1, .inr (2, [.int 1, .ref h2, .int 1]))]) [1] rfl
  have hDc := hD.sub (ws' := [(h1, .inr (2, [.int 1, .ref h2, .int 1]))]) [1] (by decide) rfl
  have hFc := va_free (wc := [(h1, .inr (2, [.int 1, .ref h2, .int 1]))]) hD hS hA [1] rfl
  refine va_callr (va_runV (As := []) (rest := []) ⟨hx, hb, hml, hown, hts⟩ (c9_Jx4a65c_iterator_32c93_1 l g h1 h2 _) (cwV 0 hts g9_X21_isPlain_1_0 rfl rfl rfl (by decide +kernel) ⟨Nat.le_of_ble_eq_true rfl, Nat.le_of_ble_eq_true rfl⟩) (mPreV (g := g) (wc := [(h1, .inr (2, [.int 1, .ref h2, .int 1]))]) (C := RJx4a65c) (ci := 2) (q0 := 0) hE hS hPc hDc hFc rfl rfl) rfl rfl hl.1 rfl (lv_room (Nat.le_of_ble_eq_true rfl)) dX21_isPlain_88 ⟨Nat.le_of_ble_eq_true rfl, Nat.le_of_ble_eq_true rfl⟩) hS (fun q _ h => hFc q h) hFc (fun u r_1 t H1 locs ht hvm hw hB hz1 hk1 hS => ?_)
  obtain ⟨q_1, rfl⟩ : ∃ z, z = u := ⟨_, rfl⟩
  obtain ⟨hR1, hP1, hD1⟩ := hB
  replace hR1 : q_1 = r_1 := Eq.symm hR1
  subst hR1
  rw [ht] at hP1
  obtain ⟨hP, hD⟩ := va_join (wr := [(h0, .inr (15, [.int 6, .long 0, .int 0, .int 0, .ref h1, .null, .int 0, .int 0, .int 0])), (h3, .inr (2, [.int 0, .ref (g.2.2 0), .int 0])), (h2, .inl (g.2.1 6, 10, .inr (.inr (.inr (.inr (va_up (fun _ => none) 0 (some h3)))))))]) (w1 := [(h1, .inr (2, [.int 1, .ref h2, .int 1])), (q_1, .inr (1, [.int 0, .int (-1), .int 1, .ref h1]))]) hP hD [1] [0, 2, 3] rfl rfl (by decide) (by decide) hk1 hFc hP1 hD1
  clear hP1 hD1 hPc hDc hFc hk1 hz1 hvm ht
  generalize H1 = H at hP hS ⊢
  have hP : va_P g.1 vwCl [(h0, .inr (15, [.int 6, .long 0, .int 0, .int 0, .ref h1, .null, .int 0, .int 0, .int 0])), (h3, .inr (2, [.int 0, .ref (g.2.2 0), .int 0])), (h2, .inl (g.2.1 6, 10, .inr (.inr (.inr (.inr (va_up (fun _ => none) 0 (some h3))))))), (h1, .inr (2, [.int 1, .ref h2, .int 1])), (q_1, .inr (1, [.int 0, .int (-1), .int 1, .ref h1]))] H := hP
  have hD : va_D A [(h0, .inr (15, [.int 6, .long 0, .int 0, .int 0, .ref h1, .null, .int 0, .int 0, .int 0])), (h3, .inr (2, [.int 0, .ref (g.2.2 0), .int 0])), (h2, .inl (g.2.1 6, 10, .inr (.inr (.inr (.inr (va_up (fun _ => none) 0 (some h3))))))), (h1, .inr (2, [.int 1, .ref h2, .int 1])), (q_1, .inr (1, [.int 0, .int (-1), .int 1, .ref h1]))] := hD
  refine lv_astore_n (lv' := [(2, .ref q_1), (1, .int 1), (0, .ref h0)]) hx hb dX21_isPlain_91 rfl hl (by decide) rfl (fun ls hl => ?_)
  refine lv_aload_n hx hb dX21_isPlain_92 rfl (lv_at hl 0 rfl) ?_
  have hPc := hP.sub (ws' := [(h1, .inr (2, [.int 1, .ref h2, .int 1])), (q_1, .inr (1, [.int 0, .int (-1), .int 1, .ref h1]))]) [3, 4] rfl
  have hDc := hD.sub (ws' := [(h1, .inr (2, [.int 1, .ref h2, .int 1])), (q_1, .inr (1, [.int 0, .int (-1), .int 1, .ref h1]))]) [3, 4] (by decide) rfl
  have hFc := va_free (wc := [(h1, .inr (2, [.int 1, .ref h2, .int 1])), (q_1, .inr (1, [.int 0, .int (-1), .int 1, .ref h1]))]) hD hS hA [3, 4] rfl
  refine va_callFi (va_runF (As := []) (rest := []) (hK.1 1 _ rfl).2 ⟨hx, hb, hml, hown, hts⟩ (c9_Jx35411_hasNext_aae02_1 l g q_1 h1 h2 _) (va_cwF 0 hts g9_X21_isPlain_1_1 rfl rfl rfl hE.f1 (by decide +kernel) ⟨Nat.le_of_ble_eq_true rfl, Nat.le_of_ble_eq_true rfl⟩) (mPreV (g := g) (wc := [(h1, .inr (2, [.int 1, .ref h2, .int 1])), (q_1, .inr (1, [.int 0, .int (-1), .int 1, .ref h1]))]) (C := RJx35411) (ci := 1) (q0 := 1) hE hS hPc hDc hFc rfl rfl) rfl rfl hl.1 rfl (lv_room (Nat.le_of_ble_eq_true rfl)) dX21_isPlain_93 ⟨Nat.le_of_ble_eq_true rfl, Nat.le_of_ble_eq_true rfl⟩) hS (fun q _ h => hFc q h) hFc (fun r_2 u t H1 locs ht hvm hw hB hz1 hk1 hS => ?_)
  replace hw : 1 = r_2 := Eq.symm hw
  subst hw
  obtain ⟨hP1, hD1⟩ := hB
  rw [ht] at hP1
  obtain ⟨hP, hD⟩ := va_join (wr := [(h0, .inr (15, [.int 6, .long 0, .int 0, .int 0, .ref h1, .null, .int 0, .int 0, .int 0])), (h3, .inr (2, [.int 0, .ref (g.2.2 0), .int 0])), (h2, .inl (g.2.1 6, 10, .inr (.inr (.inr (.inr (va_up (fun _ => none) 0 (some h3)))))))]) (w1 := [(h1, .inr (2, [.int 1, .ref h2, .int 1])), (q_1, .inr (1, [.int 0, .int (-1), .int 1, .ref h1]))]) hP hD [3, 4] [0, 1, 2] rfl rfl (by decide) (by decide) hk1 hFc hP1 hD1
  clear hP1 hD1 hPc hDc hFc hk1 hz1 hvm ht
  generalize H1 = H at hP hS ⊢
  have hP : va_P g.1 vwCl [(h0, .inr (15, [.int 6, .long 0, .int 0, .int 0, .ref h1, .null, .int 0, .int 0, .int 0])), (h3, .inr (2, [.int 0, .ref (g.2.2 0), .int 0])), (h2, .inl (g.2.1 6, 10, .inr (.inr (.inr (.inr (va_up (fun _ => none) 0 (some h3))))))), (h1, .inr (2, [.int 1, .ref h2, .int 1])), (q_1, .inr (1, [.int 0, .int (-1), .int 1, .ref h1]))] H := hP
  have hD : va_D A [(h0, .inr (15, [.int 6, .long 0, .int 0, .int 0, .ref h1, .null, .int 0, .int 0, .int 0])), (h3, .inr (2, [.int 0, .ref (g.2.2 0), .int 0])), (h2, .inl (g.2.1 6, 10, .inr (.inr (.inr (.inr (va_up (fun _ => none) 0 (some h3))))))), (h1, .inr (2, [.int 1, .ref h2, .int 1])), (q_1, .inr (1, [.int 0, .int (-1), .int 1, .ref h1]))] := hD
  refine lv_if_eq (tgt := 153) hx hb dX21_isPlain_98 (by decide) (fun c9 => absurd c9 (by decide)) (fun _ => ?_)
  refine lv_aload_n hx hb dX21_isPlain_101 rfl (lv_at hl 0 rfl) ?_
  have hPc := hP.sub (ws' := [(h2, .inl (g.2.1 6, 10, .inr (.inr (.inr (.inr (va_up (fun _ => none) 0 (some h3))))))), (h1, .inr (2, [.int 1, .ref h2, .int 1])), (q_1, .inr (1, [.int 0, .int (-1), .int 1, .ref h1]))]) [2, 3, 4] rfl
  have hDc := hD.sub (ws' := [(h2, .inl (g.2.1 6, 10, .inr (.inr (.inr (.inr (va_up (fun _ => none) 0 (some h3))))))), (h1, .inr (2, [.int 1, .ref h2, .int 1])), (q_1, .inr (1, [.int 0, .int (-1), .int 1, .ref h1]))]) [2, 3, 4] (by decide) rfl
  have hFc := va_free (wc := [(h2, .inl (g.2.1 6, 10, .inr (.inr (.inr (.inr (va_up (fun _ => none) 0 (some h3))))))), (h1, .inr (2, [.int 1, .ref h2, .int 1])), (q_1, .inr (1, [.int 0, .int (-1), .int 1, .ref h1]))]) hD hS hA [2, 3, 4] rfl
  refine va_callFr (va_runF (As := []) (rest := []) (hK.1 1 _ rfl).2 ⟨hx, hb, hml, hown, hts⟩ (c9_Jx35411_next_0502b_1 l g q_1 h2 h3 h1 _) (va_cwF 0 hts g9_X21_isPlain_1_2 rfl rfl rfl hE.f2 (by decide +kernel) ⟨Nat.le_of_ble_eq_true rfl, Nat.le_of_ble_eq_true rfl⟩) (mPreV (g := g) (wc := [(h2, .inl (g.2.1 6, 10, .inr (.inr (.inr (.inr (va_up (fun _ => none) 0 (some h3))))))), (h1, .inr (2, [.int 1, .ref h2, .int 1])), (q_1, .inr (1, [.int 0, .int (-1), .int 1, .ref h1]))]) (C := RJx35411) (ci := 1) (q0 := 2) hE hS hPc hDc hFc rfl rfl) rfl rfl hl.1 rfl (lv_room (Nat.le_of_ble_eq_true rfl)) dX21_isPlain_102 ⟨Nat.le_of_ble_eq_true rfl, Nat.le_of_ble_eq_true rfl⟩) hS (fun q _ h => hFc q h) hFc (fun u r_3 t H1 locs ht hvm hw hB hz1 hk1 hS => ?_)
  obtain ⟨hR1, hP1, hD1⟩ := hB
  replace hR1 : h3 = r_3 := Eq.symm hR1
  subst hR1
  rw [ht] at hP1
  obtain ⟨hP, hD⟩ := va_join (wr := [(h0, .inr (15, [.int 6, .long 0, .int 0, .int 0, .ref h1, .null, .int 0, .int 0, .int 0])), (h3, .inr (2, [.int 0, .ref (g.2.2 0), .int 0]))]) (w1 := [(h2, .inl (g.2.1 6, 10, .inr (.inr (.inr (.inr (va_up (fun _ => none) 0 (some h3))))))), (h1, .inr (2, [.int 1, .ref h2, .int 1])), (q_1, .inr (1, [.int 1, .int 0, .int 1, .ref h1]))]) hP hD [2, 3, 4] [0, 1] rfl rfl (by decide) (by decide) hk1 hFc hP1 hD1
  clear hP1 hD1 hPc hDc hFc hk1 hz1 hvm ht
  generalize H1 = H at hP hS ⊢
  have hP : va_P g.1 vwCl [(h0, .inr (15, [.int 6, .long 0, .int 0, .int 0, .ref h1, .null, .int 0, .int 0, .int 0])), (h3, .inr (2, [.int 0, .ref (g.2.2 0), .int 0])), (h2, .inl (g.2.1 6, 10, .inr (.inr (.inr (.inr (va_up (fun _ => none) 0 (some h3))))))), (h1, .inr (2, [.int 1, .ref h2, .int 1])), (q_1, .inr (1, [.int 1, .int 0, .int 1, .ref h1]))] H := hP
  have hD : va_D A [(h0, .inr (15, [.int 6, .long 0, .int 0, .int 0, .ref h1, .null, .int 0, .int 0, .int 0])), (h3, .inr (2, [.int 0, .ref (g.2.2 0), .int 0])), (h2, .inl (g.2.1 6, 10, .inr (.inr (.inr (.inr (va_up (fun _ => none) 0 (some h3))))))), (h1, .inr (2, [.int 1, .ref h2, .int 1])), (q_1, .inr (1, [.int 1, .int 0, .int 1, .ref h1]))] := hD
  refine va_castS (nm := "java/util/ArrayList") hx hb hown (hts (.classLink RX21 38 "java/util/ArrayList") (List.mem_of_getElem? (i := 36) rfl)) (hK.1 2 _ rfl).2 (va_recv hK hP (ci := 2) (q0 := 1) rfl rfl) dX21_isPlain_107 ?_
  refine lv_astore_n (lv' := [(3, .ref h3), (2, .ref q_1), (1, .int 1), (0, .ref h0)]) hx hb dX21_isPlain_110 rfl hl (by decide) rfl (fun ls hl => ?_)
  refine lv_aload_n hx hb dX21_isPlain_111 rfl (lv_at hl 0 rfl) ?_
  have hPc := hP.sub (ws' := [(h3, .inr (2, [.int 0, .ref (g.2.2 0), .int 0]))]) [1] rfl
  have hDc := hD.sub (ws' := [(h3, .inr (2, [.int 0, .ref (g.2.2 0), .int 0]))]) [1] (by decide) rfl
  have hFc := va_free (wc := [(h3, .inr (2, [.int 0, .ref (g.2.2 0), .int 0]))]) hD hS hA [1] rfl
  refine va_callr (va_runV (As := []) (rest := []) ⟨hx, hb, hml, hown, hts⟩ (c9_Jx4a65c_iterator_32c93_2 l g h3 _) (cwV 0 hts g9_X21_isPlain_1_3 rfl rfl rfl (by decide +kernel) ⟨Nat.le_of_ble_eq_true rfl, Nat.le_of_ble_eq_true rfl⟩) (mPreV (g := g) (wc := [(h3, .inr (2, [.int 0, .ref (g.2.2 0), .int 0]))]) (C := RJx4a65c) (ci := 2) (q0 := 0) hE hS hPc hDc hFc rfl rfl) rfl rfl hl.1 rfl (lv_room (Nat.le_of_ble_eq_true rfl)) dX21_isPlain_112 ⟨Nat.le_of_ble_eq_true rfl, Nat.le_of_ble_eq_true rfl⟩) hS (fun q _ h => hFc q h) hFc (fun u r_4 t H1 locs ht hvm hw hB hz1 hk1 hS => ?_)
  obtain ⟨q_2, rfl⟩ : ∃ z, z = u := ⟨_, rfl⟩
  obtain ⟨hR1, hP1, hD1⟩ := hB
  replace hR1 : q_2 = r_4 := Eq.symm hR1
  subst hR1
  rw [ht] at hP1
  obtain ⟨hP, hD⟩ := va_join (wr := [(h0, .inr (15, [.int 6, .long 0, .int 0, .int 0, .ref h1, .null, .int 0, .int 0, .int 0])), (h2, .inl (g.2.1 6, 10, .inr (.inr (.inr (.inr (va_up (fun _ => none) 0 (some h3))))))), (h1, .inr (2, [.int 1, .ref h2, .int 1])), (q_1, .inr (1, [.int 1, .int 0, .int 1, .ref h1]))]) (w1 := [(h3, .inr (2, [.int 0, .ref (g.2.2 0), .int 0])), (q_2, .inr (1, [.int 0, .int (-1), .int 0, .ref h3]))]) hP hD [1] [0, 2, 3, 4] rfl rfl (by decide) (by decide) hk1 hFc hP1 hD1
  clear hP1 hD1 hPc hDc hFc hk1 hz1 hvm ht
  generalize H1 = H at hP hS ⊢
  have hP : va_P g.1 vwCl [(h0, .inr (15, [.int 6, .long 0, .int 0, .int 0, .ref h1, .null, .int 0, .int 0, .int 0])), (h2, .inl (g.2.1 6, 10, .inr (.inr (.inr (.inr (va_up (fun _ => none) 0 (some h3))))))), (h1, .inr (2, [.int 1, .ref h2, .int 1])), (q_1, .inr (1, [.int 1, .int 0, .int 1, .ref h1])), (h3, .inr (2, [.int 0, .ref (g.2.2 0), .int 0])), (q_2, .inr (1, [.int 0, .int (-1), .int 0, .ref h3]))] H := hP
  have hD : va_D A [(h0, .inr (15, [.int 6, .long 0, .int 0, .int 0, .ref h1, .null, .int 0, .int 0, .int 0])), (h2, .inl (g.2.1 6, 10, .inr (.inr (.inr (.inr (va_up (fun _ => none) 0 (some h3))))))), (h1, .inr (2, [.int 1, .ref h2, .int 1])), (q_1, .inr (1, [.int 1, .int 0, .int 1, .ref h1])), (h3, .inr (2, [.int 0, .ref (g.2.2 0), .int 0])), (q_2, .inr (1, [.int 0, .int (-1), .int 0, .ref h3]))] := hD
  refine lv_astore (lv' := [(4, .ref q_2), (3, .ref h3), (2, .ref q_1), (1, .int 1), (0, .ref h0)]) hx hb dX21_isPlain_115 hl (by decide) rfl (fun ls hl => ?_)
  refine lv_aload hx hb dX21_isPlain_117 (lv_at hl 0 rfl) ?_
  have hPc := hP.sub (ws' := [(h3, .inr (2, [.int 0, .ref (g.2.2 0), .int 0])), (q_2, .inr (1, [.int 0, .int (-1), .int 0, .ref h3]))]) [4, 5] rfl
  have hDc := hD.sub (ws' := [(h3, .inr (2, [.int 0, .ref (g.2.2 0), .int 0])), (q_2, .inr (1, [.int 0, .int (-1), .int 0, .ref h3]))]) [4, 5] (by decide) rfl
  have hFc := va_free (wc := [(h3, .inr (2, [.int 0, .ref (g.2.2 0), .int 0])), (q_2, .inr (1, [.int 0, .int (-1), .int 0, .ref h3]))]) hD hS hA [4, 5] rfl
  refine va_callFi (va_runF (As := []) (rest := []) (hK.1 1 _ rfl).2 ⟨hx, hb, hml, hown, hts⟩ (c9_Jx35411_hasNext_aae02_2 l g q_2 h3 _) (va_cwF 0 hts g9_X21_isPlain_1_4 rfl rfl rfl hE.f1 (by decide +kernel) ⟨Nat.le_of_ble_eq_true rfl, Nat.le_of_ble_eq_true rfl⟩) (mPreV (g := g) (wc := [(h3, .inr (2, [.int 0, .ref (g.2.2 0), .int 0])), (q_2, .inr (1, [.int 0, .int (-1), .int 0, .ref h3]))]) (C := RJx35411) (ci := 1) (q0 := 1) hE hS hPc hDc hFc rfl rfl) rfl rfl hl.1 rfl (lv_room (Nat.le_of_ble_eq_true rfl)) dX21_isPlain_119 ⟨Nat.le_of_ble_eq_true rfl, Nat.le_of_ble_eq_true rfl⟩) hS (fun q _ h => hFc q h) hFc (fun r_5 u t H1 locs ht hvm hw hB hz1 hk1 hS => ?_)
  replace hw : 0 = r_5 := Eq.symm hw
  subst hw
  obtain ⟨hP1, hD1⟩ := hB
  rw [ht] at hP1
  obtain ⟨hP, hD⟩ := va_join (wr := [(h0, .inr (15, [.int 6, .long 0, .int 0, .int 0, .ref h1, .null, .int 0, .int 0, .int 0])), (h2, .inl (g.2.1 6, 10, .inr (.inr (.inr (.inr (va_up (fun _ => none) 0 (some h3))))))), (h1, .inr (2, [.int 1, .ref h2, .int 1])), (q_1, .inr (1, [.int 1, .int 0, .int 1, .ref h1]))]) (w1 := [(h3, .inr (2, [.int 0, .ref (g.2.2 0), .int 0])), (q_2, .inr (1, [.int 0, .int (-1), .int 0, .ref h3]))]) hP hD [4, 5] [0, 1, 2, 3] rfl rfl (by decide) (by decide) hk1 hFc hP1 hD1
  clear hP1 hD1 hPc hDc hFc hk1 hz1 hvm ht
  generalize H1 = H at hP hS ⊢
  have hP : va_P g.1 vwCl [(h0, .inr (15, [.int 6, .long 0, .int 0, .int 0, .ref h1, .null, .int 0, .int 0, .int 0])), (h2, .inl (g.2.1 6, 10, .inr (.inr (.inr (.inr (va_up (fun _ => none) 0 (some h3))))))), (h1, .inr (2, [.int 1, .ref h2, .int 1])), (q_1, .inr (1, [.int 1, .int 0, .int 1, .ref h1])), (h3, .inr (2, [.int 0, .ref (g.2.2 0), .int 0])), (q_2, .inr (1, [.int 0, .int (-1), .int 0, .ref h3]))] H := hP
  have hD : va_D A [(h0, .inr (15, [.int 6, .long 0, .int 0, .int 0, .ref h1, .null, .int 0, .int 0, .int 0])), (h2, .inl (g.2.1 6, 10, .inr (.inr (.inr (.inr (va_up (fun _ => none) 0 (some h3))))))), (h1, .inr (2, [.int 1, .ref h2, .int 1])), (q_1, .inr (1, [.int 1, .int 0, .int 1, .ref h1])), (h3, .inr (2, [.int 0, .ref (g.2.2 0), .int 0])), (q_2, .inr (1, [.int 0, .int (-1), .int 0, .ref h3]))] := hD
  refine lv_if_eq (tgt := 150) hx hb dX21_isPlain_124 (by decide) (fun _ => ?_) (fun c9 => absurd (by decide) c9)
  refine lv_goto (tgt := 92) hx hb dX21_isPlain_150 (by decide) ?_
  refine lv_aload_n hx hb dX21_isPlain_92 rfl (lv_at hl 2 rfl) ?_
  have hPc := hP.sub (ws' := [(h1, .inr (2, [.int 1, .ref h2, .int 1])), (q_1, .inr (1, [.int 1, .int 0, .int 1, .ref h1]))]) [2, 3] rfl
  have hDc := hD.sub (ws' := [(h1, .inr (2, [.int 1, .ref h2, .int 1])), (q_1, .inr (1, [.int 1, .int 0, .int 1, .ref h1]))]) [2, 3] (by decide) rfl
  have hFc := va_free (wc := [(h1, .inr (2, [.int 1, .ref h2, .int 1])), (q_1, .inr (1, [.int 1, .int 0, .int 1, .ref h1]))]) hD hS hA [2, 3] rfl
  refine va_callFi (va_runF (As := []) (rest := []) (hK.1 1 _ rfl).2 ⟨hx, hb, hml, hown, hts⟩ (c9_Jx35411_hasNext_aae02_3 l g q_1 h1 h2 _) (va_cwF 0 hts g9_X21_isPlain_1_5 rfl rfl rfl hE.f1 (by decide +kernel) ⟨Nat.le_of_ble_eq_true rfl, Nat.le_of_ble_eq_true rfl⟩) (mPreV (g := g) (wc := [(h1, .inr (2, [.int 1, .ref h2, .int 1])), (q_1, .inr (1, [.int 1, .int 0, .int 1, .ref h1]))]) (C := RJx35411) (ci := 1) (q0 := 1) hE hS hPc hDc hFc rfl rfl) rfl rfl hl.1 rfl (lv_room (Nat.le_of_ble_eq_true rfl)) dX21_isPlain_93 ⟨Nat.le_of_ble_eq_true rfl, Nat.le_of_ble_eq_true rfl⟩) hS (fun q _ h => hFc q h) hFc (fun r_6 u t H1 locs ht hvm hw hB hz1 hk1 hS => ?_)
  replace hw : 0 = r_6 := Eq.symm hw
  subst hw
  obtain ⟨hP1, hD1⟩ := hB
  rw [ht] at hP1
  obtain ⟨hP, hD⟩ := va_join (wr := [(h0, .inr (15, [.int 6, .long 0, .int 0, .int 0, .ref h1, .null, .int 0, .int 0, .int 0])), (h2, .inl (g.2.1 6, 10, .inr (.inr (.inr (.inr (va_up (fun _ => none) 0 (some h3))))))), (h3, .inr (2, [.int 0, .ref (g.2.2 0), .int 0])), (q_2, .inr (1, [.int 0, .int (-1), .int 0, .ref h3]))]) (w1 := [(h1, .inr (2, [.int 1, .ref h2, .int 1])), (q_1, .inr (1, [.int 1, .int 0, .int 1, .ref h1]))]) hP hD [2, 3] [0, 1, 4, 5] rfl rfl (by decide) (by decide) hk1 hFc hP1 hD1
  clear hP1 hD1 hPc hDc hFc hk1 hz1 hvm ht
  generalize H1 = H at hP hS ⊢
  have hP : va_P g.1 vwCl [(h0, .inr (15, [.int 6, .long 0, .int 0, .int 0, .ref h1, .null, .int 0, .int 0, .int 0])), (h2, .inl (g.2.1 6, 10, .inr (.inr (.inr (.inr (va_up (fun _ => none) 0 (some h3))))))), (h3, .inr (2, [.int 0, .ref (g.2.2 0), .int 0])), (q_2, .inr (1, [.int 0, .int (-1), .int 0, .ref h3])), (h1, .inr (2, [.int 1, .ref h2, .int 1])), (q_1, .inr (1, [.int 1, .int 0, .int 1, .ref h1]))] H := hP
  have hD : va_D A [(h0, .inr (15, [.int 6, .long 0, .int 0, .int 0, .ref h1, .null, .int 0, .int 0, .int 0])), (h2, .inl (g.2.1 6, 10, .inr (.inr (.inr (.inr (va_up (fun _ => none) 0 (some h3))))))), (h3, .inr (2, [.int 0, .ref (g.2.2 0), .int 0])), (q_2, .inr (1, [.int 0, .int (-1), .int 0, .ref h3])), (h1, .inr (2, [.int 1, .ref h2, .int 1])), (q_1, .inr (1, [.int 1, .int 0, .int 1, .ref h1]))] := hD
  refine lv_if_eq (tgt := 153) hx hb dX21_isPlain_98 (by decide) (fun _ => ?_) (fun c9 => absurd (by decide) c9)
  refine lv_iload_n hx hb dX21_isPlain_153 rfl (lv_at hl 3 rfl) ?_
  have hP9 := hP.sub (ws' := [(h0, .inr (15, [.int 6, .long 0, .int 0, .int 0, .ref h1, .null, .int 0, .int 0, .int 0])), (h1, .inr (2, [.int 1, .ref h2, .int 1])), (h3, .inr (2, [.int 0, .ref (g.2.2 0), .int 0])), (h2, .inl (g.2.1 6, 10, .inr (.inr (.inr (.inr (va_up (fun _ => none) 0 (some h3)))))))]) [0, 4, 2, 1] rfl
  have hD9 := hD.sub (ws' := [(h0, .inr (15, [.int 6, .long 0, .int 0, .int 0, .ref h1, .null, .int 0, .int 0, .int 0])), (h1, .inr (2, [.int 1, .ref h2, .int 1])), (h3, .inr (2, [.int 0, .ref (g.2.2 0), .int 0])), (h2, .inl (g.2.1 6, 10, .inr (.inr (.inr (.inr (va_up (fun _ => none) 0 (some h3)))))))]) [0, 4, 2, 1] (by decide) rfl
  subst hAe
  exact W.zret (v := 1) hx hb hr (by decide) (fun t ht hW => ⟨⟨1, (), rfl, rfl, by rw [ht]; exact hP9, hD9⟩, hS.F ht⟩) hS.2.2 dX21_isPlain_154
def w9_X21_weight_1 : List Cond := [.code yX21_weight cX21_weight 7 (some .long), .fieldLink RX21 16 "RegexloomModel$Node" "kind" "I", .fieldLink RX21 33 "RegexloomModel$Node" "branches" "Ljava/util/ArrayList;", .methodLink RX21 37 yJx4a65c_iterator_32c93, .instanceMethod yJx4a65c_iterator_32c93, .selects RJx4a65c yJx4a65c_iterator_32c93 yJx4a65c_iterator_32c93, .initialized RJx4a65c, .code yJx4a65c_iterator_32c93 cJx4a65c_iterator_32c93 1 (some (.object "java/util/Iterator")), .classLink RJx4a65c 267 RJx35411, .instantiable RJx35411 4, .initialized RJx35411, .code yJx35411_init_45d68 cJx35411_init_45d68 2 none, .fieldLink RJx35411 1 "java/util/ArrayList$Itr" "this$0" "Ljava/util/ArrayList;", .methodLink RJx35411 7 objectInit, .instanceMethod objectInit, .code objectInit ⟨#[0xb1]⟩ 1 none, .fieldLink RJx35411 13 "java/util/ArrayList$Itr" "lastRet" "I", .fieldLink RJx35411 17 "java/util/ArrayList" "modCount" "I", .sameField "java/util/ArrayList" "java/util/AbstractList" "modCount" "I", .fieldLink RJx35411 22 "java/util/ArrayList$Itr" "expectedModCount" "I", .methodLink RJx4a65c 269 yJx35411_init_45d68, .instanceMethod yJx35411_init_45d68, .methodLink RX21 43 ⟨"java/util/Iterator", "hasNext", "()Z"⟩, .selects RJx35411 ⟨"java/util/Iterator", "hasNext", "()Z"⟩ yJx35411_hasNext_aae02, .instanceMethod yJx35411_hasNext_aae02, .code yJx35411_hasNext_aae02 cJx35411_hasNext_aae02 1 (some .boolean), .fieldLink RJx35411 25 "java/util/ArrayList$Itr" "cursor" "I", .methodLink RX21 49 ⟨"java/util/Iterator", "next", "()Ljava/lang/Object;"⟩, .selects RJx35411 ⟨"java/util/Iterator", "next", "()Ljava/lang/Object;"⟩ yJx35411_next_0502b, .instanceMethod yJx35411_next_0502b, .code yJx35411_next_0502b cJx35411_next_0502b 3 (some (.object "java/lang/Object")), .methodLink RJx35411 31 yJx35411_checkForComodification_da8c8, .instanceMethod yJx35411_checkForComodification_da8c8, .selects RJx35411 yJx35411_checkForComodification_da8c8 yJx35411_checkForComodification_da8c8, .code yJx35411_checkForComodification_da8c8 cJx35411_checkForComodification_da8c8 1 none, .fieldLink RJx35411 37 "java/util/ArrayList" "elementData" "[Ljava/lang/Object;", .classLink RX21 38 "java/util/ArrayList"] ++ (u_ws RX14 TX14 9 ++ u_ws RJx35411 TJx35411 4 ++ u_ws RJx4a65c TJx4a65c 3)
set_option maxRecDepth 20000 in
theorem in9_X21_weight_1_RX14 : ∀ w ∈ u_ws RX14 TX14 9, w ∈ w9_X21_weight_1 := by decide +kernel
set_option maxRecDepth 20000 in
theorem in9_X21_weight_1_RJx35411 : ∀ w ∈ u_ws RJx35411 TJx35411 4, w ∈ w9_X21_weight_1 := by decide +kernel
set_option maxRecDepth 20000 in
theorem in9_X21_weight_1_RJx4a65c : ∀ w ∈ u_ws RJx4a65c TJx4a65c 3, w ∈ w9_X21_weight_1 := by decide +kernel
set_option maxRecDepth 20000 in
theorem g9_X21_weight_1_0 : GoodIn w9_X21_weight_1 (wsV RX21 37 RJx4a65c yJx4a65c_iterator_32c93 w9_Jx4a65c_iterator_32c93_1) := goodIn_r _ [3, 4, 5, 6, 7, 8, 9, 10, 11, 12, 13, 14, 15, 16, 17, 18, 19, 20, 21, 46, 47, 48, 49, 50, 51, 52] (by decide +kernel) (by decide +kernel)
set_option maxRecDepth 20000 in
theorem g9_X21_weight_1_1 : GoodIn w9_X21_weight_1 (va_wsF RX21 43 RJx35411 ⟨"java/util/Iterator", "hasNext", "()Z"⟩ yJx35411_hasNext_aae02 w9_Jx35411_hasNext_aae02_1) := goodIn_r _ [22, 23, 24, 10, 25, 26, 12, 46, 47, 48, 49, 50, 51, 52] (by decide +kernel) (by decide +kernel)
set_option maxRecDepth 20000 in
theorem g9_X21_weight_1_2 : GoodIn w9_X21_weight_1 (va_wsF RX21 49 RJx35411 ⟨"java/util/Iterator", "next", "()Ljava/lang/Object;"⟩ yJx35411_next_0502b w9_Jx35411_next_0502b_1) := goodIn_r _ [27, 28, 29, 10, 30, 31, 32, 33, 10, 34, 12, 17, 18, 19, 26, 35, 16, 46, 47, 48, 49, 50, 51, 52] (by decide +kernel) (by decide +kernel)
set_option maxRecDepth 20000 in
theorem g9_X21_weight_1_3 : GoodIn w9_X21_weight_1 (wsV RX21 37 RJx4a65c yJx4a65c_iterator_32c93 w9_Jx4a65c_iterator_32c93_2) := goodIn_r _ [3, 4, 5, 6, 7, 8, 9, 10, 11, 12, 13, 14, 15, 16, 17, 18, 19, 20, 21, 46, 47, 48, 49, 50, 51, 52] (by decide +kernel) (by decide +kernel)
set_option maxRecDepth 20000 in
theorem g9_X21_weight_1_4 : GoodIn w9_X21_weight_1 (va_wsF RX21 43 RJx35411 ⟨"java/util/Iterator", "hasNext", "()Z"⟩ yJx35411_hasNext_aae02 w9_Jx35411_hasNext_aae02_2) := goodIn_r _ [22, 23, 24, 10, 25, 26, 12, 46, 47, 48, 49, 50, 51, 52] (by decide +kernel) (by decide +kernel)
set_option maxRecDepth 20000 in
theorem g9_X21_weight_1_5 : GoodIn w9_X21_weight_1 (va_wsF RX21 43 RJx35411 ⟨"java/util/Iterator", "hasNext", "()Z"⟩ yJx35411_hasNext_aae02 w9_Jx35411_hasNext_aae02_3) := goodIn_r _ [22, 23, 24, 10, 25, 26, 12, 46, 47, 48, 49, 50, 51, 52] (by decide +kernel) (by decide +kernel)
set_option maxHeartbeats 4000000 in
set_option maxRecDepth 100000 in
theorem c9_X21_weight_1 (l : Launch) (g : G9) (h0 h1 h2 h3 sz : Nat) : Met l yX21_weight w9_X21_weight_1 ({ frames := 3, cells := 2, slots := 8, locals := 53 }) (mP g [(h0, .inr (15, [.int 6, .long 0, .int 0, .int 0, .ref h1, .null, .int 0, .int 0, .int 0])), (h1, .inr (2, [.int 1, .ref h2, .int 1])), (h3, .inr (2, [.int 0, .ref (g.2.2 0), .int 0])), (h2, .inl (g.2.1 6, 10, .inr (.inr (.inr (.inr (va_up (fun _ => none) 0 (some h3)))))))] sz [.ref h0]) (va_Ql (fun (r : Int64) (_ : Unit) => r = 0) (fun (_ : Unit) (t : State) => mB g [(h0, .inr (15, [.int 6, .long 0, .int 0, .int 0, .ref h1, .null, .int 0, .int 0, .int 0])), (h1, .inr (2, [.int 1, .ref h2, .int 1])), (h3, .inr (2, [.int 0, .ref (g.2.2 0), .int 0])), (h2, .inl (g.2.1 6, 10, .inr (.inr (.inr (.inr (va_up (fun _ => none) 0 (some h3)))))))] sz [(h0, .inr (15, [.int 6, .long 0, .int 0, .int 0, .ref h1, .null, .int 0, .int 0, .int 0])), (h1, .inr (2, [.int 1, .ref h2, .int 1])), (h3, .inr (2, [.int 0, .ref (g.2.2 0), .int 0])), (h2, .inl (g.2.1 6, 10, .inr (.inr (.inr (.inr (va_up (fun _ => none) 0 (some h3)))))))] t) (va_A [(h0, .inr (15, [.int 6, .long 0, .int 0, .int 0, .ref h1, .null, .int 0, .int 0, .int 0])), (h1, .inr (2, [.int 1, .ref h2, .int 1])), (h3, .inr (2, [.int 0, .ref (g.2.2 0), .int 0])), (h2, .inl (g.2.1 6, 10, .inr (.inr (.inr (.inr (va_up (fun _ => none) 0 (some h3)))))))] sz)) 2 8 (va_A [(h0, .inr (15, [.int 6, .long 0, .int 0, .int 0, .ref h1, .null, .int 0, .int 0, .int 0])), (h1, .inr (2, [.int 1, .ref h2, .int 1])), (h3, .inr (2, [.int 0, .ref (g.2.2 0), .int 0])), (h2, .inl (g.2.1 6, 10, .inr (.inr (.inr (.inr (va_up (fun _ => none) 0 (some h3)))))))] sz) := by
  refine Met.ofW (cc := cX21_weight) (maxL := 7) (ret := (some .long)) (by decide) rfl ?_
  intro p e s m args below meth c s₁ B hml hv
  obtain ⟨rfl, hsz, hP, hD0, hE⟩ := hv
  have hx := B.exec
  have hb := B.bytes
  have hr := B.returns
  have hts := atoms_spec (ws := w9_X21_weight_1) B.pre
  have hown : s.vm.findClass RX21 = some m.cls := findClass_of_methodNamed B.named
  have hlocks := B.notSynchronized
  subst hsz
  have hD := hD0.self (sz := s.heap.size)
  generalize hAe : va_A [(h0, .inr (15, [.int 6, .long 0, .int 0, .int 0, .ref h1, .null, .int 0, .int 0, .int 0])), (h1, .inr (2, [.int 1, .ref h2, .int 1])), (h3, .inr (2, [.int 0, .ref (g.2.2 0), .int 0])), (h2, .inl (g.2.1 6, 10, .inr (.inr (.inr (.inr (va_up (fun _ => none) 0 (some h3)))))))] s.heap.size = A at hD hE ⊢
  have hA : ∀ q : Nat, s.heap.size ≤ q → A q := fun q h => by rw [← hAe]; exact Or.inr h
  have hK := hE.1
  have hS : va_S A s.heap s.heap [] := va_S.rf
  replace hP : va_P g.1 vwCl [(h0, .inr (15, [.int 6, .long 0, .int 0, .int 0, .ref h1, .null, .int 0, .int 0, .int 0])), (h1, .inr (2, [.int 1, .ref h2, .int 1])), (h3, .inr (2, [.int 0, .ref (g.2.2 0), .int 0])), (h2, .inl (g.2.1 6, 10, .inr (.inr (.inr (.inr (va_up (fun _ => none) 0 (some h3)))))))] s.heap := hP
  have hl := lv_entry ([.ref h0]) (n := 7) (Nat.le_of_ble_eq_true rfl)
  rw [lg_entry_eq]
  generalize (lg_sl ([.ref h0]) ++ List.replicate (7 - (lg_sl ([.ref h0])).length) Slot.unset).toArray = ls at hl ⊢
  replace hl : lv_has ls 7 [(0, .ref h0)] := hl
  have hH0 : s.heap.size ≤ s.heap.size := Nat.le_refl _
  refine lv_aload_n hx hb dX21_weight_0 rfl (lv_at hl 0 rfl) ?_
  refine va_get (D := g.1) (ci := 15) (v := .int 6) (C := RX14) (T := TX14) (N := 9) hx hb hts in9_X21_weight_1_RX14 hown hK hP 0 rfl rfl 0 (by decide) (hts (.fieldLink RX21 16 "RegexloomModel$Node" "kind" "I") (List.mem_of_getElem? (i := 1) rfl)) (fun _ h9 => h9) rfl dX21_weight_1 ?_
  refine lv_bipush (v := 13) hx hb dX21_weight_4 (by decide) ?_
  refine lv_icmp_ne (tgt := 44) hx hb dX21_weight_6 (by decide) (fun _ => ?_) (fun c9 => absurd c9 (by decide))
  refine lv_aload_n hx hb dX21_weight_44 rfl (lv_at hl 0 rfl) ?_
  refine va_get (D := g.1) (ci := 15) (v := .int 6) (C := RX14) (T := TX14) (N := 9) hx hb hts in9_X21_weight_1_RX14 hown hK hP 0 rfl rfl 0 (by decide) (hts (.fieldLink RX21 16 "RegexloomModel$Node" "kind" "I") (List.mem_of_getElem? (i := 1) rfl)) (fun _ h9 => h9) rfl dX21_weight_45 ?_
  refine lv_if_ne (tgt := 55) hx hb dX21_weight_48 (by decide) (fun _ => ?_) (fun c9 => absurd c9 (by decide))
  refine lv_lconst (v := 0) hx hb dX21_weight_55 (by decide) ?_
  refine lv_lstore_n (lv' := [(1, .long 0), (0, .ref h0)]) hx hb dX21_weight_56 rfl hl (by decide) rfl (fun ls hl => ?_)
  refine lv_aload_n hx hb dX21_weight_57 rfl (lv_at hl 1 rfl) ?_
  refine va_get (D := g.1) (ci := 15) (v := .ref h1) (C := RX14) (T := TX14) (N := 9) hx hb hts in9_X21_weight_1_RX14 hown hK hP 0 rfl rfl 4 (by decide) (hts (.fieldLink RX21 33 "RegexloomModel$Node" "branches" "Ljava/util/ArrayList;") (List.mem_of_getElem? (i := 2) rfl)) (fun _ h9 => h9) rfl dX21_weight_58 ?_
  have hPc := hP.sub (ws' := [(h1, .inr (2, [.int 1, .ref h2, .int 1]))]) [1] rfl
  have hDc := hD.sub (ws' := [(h1, .inr (2, [.int 1, .ref h2, .int 1]))]) [1] (by decide) rfl
  have hFc := va_free (wc := [(h1, .inr (2, [.int 1, .ref h2, .int 1]))]) hD hS hA [1] rfl
  refine va_callr (va_runV (As := []) (rest := []) ⟨hx, hb, hml, hown, hts⟩ (c9_Jx4a65c_iterator_32c93_1 l g h1 h2 _) (cwV 0 hts g9_X21_weight_1_0 rfl rfl rfl (by decide +kernel) ⟨Nat.le_of_ble_eq_true rfl, Nat.le_of_ble_eq_true rfl⟩) (mPreV (g := g) (wc := [(h1, .inr (2, [.int 1, .ref h2, .int 1]))]) (C := RJx4a65c) (ci := 2) (q0 := 0) hE hS hPc hDc hFc rfl rfl) rfl rfl hl.1 rfl (lv_room (Nat.le_of_ble_eq_true rfl)) dX21_weight_61 ⟨Nat.le_of_ble_eq_true rfl, Nat.le_of_ble_eq_true rfl⟩) hS (fun q _ h => hFc q h) hFc (fun u r_1 t H1 locs ht hvm hw hB hz1 hk1 hS => ?_)
  obtain ⟨q_1, rfl⟩ : ∃ z, z = u := ⟨_, rfl⟩
  obtain ⟨hR1, hP1, hD1⟩ := hB
  replace hR1 : q_1 = r_1 := Eq.symm hR1
  subst hR1
  rw [ht] at hP1
  obtain ⟨hP, hD⟩ := va_join (wr := [(h0, .inr (15, [.int 6, .long 0, .int 0, .int 0, .ref h1, .null, .int 0, .int 0, .int 0])), (h3, .inr (2, [.int 0, .ref (g.2.2 0), .int 0])), (h2, .inl (g.2.1 6, 10, .inr (.inr (.inr (.inr (va_up (fun _ => none) 0 (some h3)))))))]) (w1 := [(h1, .inr (2, [.int 1, .ref h2, .int 1])), (q_1, .inr (1, [.int 0, .int (-1), .int 1, .ref h1]))]) hP hD [1] [0, 2, 3] rfl rfl (by decide) (by decide) hk1 hFc hP1 hD1
  clear hP1 hD1 hPc hDc hFc hk1 hz1 hvm ht
  generalize H1 = H at hP hS ⊢
  have hP : va_P g.1 vwCl [(h0, .inr (15, [.int 6, .long 0, .int 0, .int 0, .ref h1, .null, .int 0, .int 0, .int 0])), (h3, .inr (2, [.int 0, .ref (g.2.2 0), .int 0])), (h2, .inl (g.2.1 6, 10, .inr (.inr (.inr (.inr (va_up (fun _ => none) 0 (some h3))))))), (h1, .inr (2, [.int 1, .ref h2, .int 1])), (q_1, .inr (1, [.int 0, .int (-1), .int 1, .ref h1]))] H := hP
  have hD : va_D A [(h0, .inr (15, [.int 6, .long 0, .int 0, .int 0, .ref h1, .null, .int 0, .int 0, .int 0])), (h3, .inr (2, [.int 0, .ref (g.2.2 0), .int 0])), (h2, .inl (g.2.1 6, 10, .inr (.inr (.inr (.inr (va_up (fun _ => none) 0 (some h3))))))), (h1, .inr (2, [.int 1, .ref h2, .int 1])), (q_1, .inr (1, [.int 0, .int (-1), .int 1, .ref h1]))] := hD
  refine lv_astore_n (lv' := [(3, .ref q_1), (1, .long 0), (0, .ref h0)]) hx hb dX21_weight_64 rfl hl (by decide) rfl (fun ls hl => ?_)
  refine lv_aload_n hx hb dX21_weight_65 rfl (lv_at hl 0 rfl) ?_
  have hPc := hP.sub (ws' := [(h1, .inr (2, [.int 1, .ref h2, .int 1])), (q_1, .inr (1, [.int 0, .int (-1), .int 1, .ref h1]))]) [3, 4] rfl
  have hDc := hD.sub (ws' := [(h1, .inr (2, [.int 1, .ref h2, .int 1])), (q_1, .inr (1, [.int 0, .int (-1), .int 1, .ref h1]))]) [3, 4] (by decide) rfl
  have hFc := va_free (wc := [(h1, .inr (2, [.int 1, .ref h2, .int 1])), (q_1, .inr (1, [.int 0, .int (-1), .int 1, .ref h1]))]) hD hS hA [3, 4] rfl
  refine va_callFi (va_runF (As := []) (rest := []) (hK.1 1 _ rfl).2 ⟨hx, hb, hml, hown, hts⟩ (c9_Jx35411_hasNext_aae02_1 l g q_1 h1 h2 _) (va_cwF 0 hts g9_X21_weight_1_1 rfl rfl rfl hE.f1 (by decide +kernel) ⟨Nat.le_of_ble_eq_true rfl, Nat.le_of_ble_eq_true rfl⟩) (mPreV (g := g) (wc := [(h1, .inr (2, [.int 1, .ref h2, .int 1])), (q_1, .inr (1, [.int 0, .int (-1), .int 1, .ref h1]))]) (C := RJx35411) (ci := 1) (q0 := 1) hE hS hPc hDc hFc rfl rfl) rfl rfl hl.1 rfl (lv_room (Nat.le_of_ble_eq_true rfl)) dX21_weight_66 ⟨Nat.le_of_ble_eq_true rfl, Nat.le_of_ble_eq_true rfl⟩) hS (fun q _ h => hFc q h) hFc (fun r_2 u t H1 locs ht hvm hw hB hz1 hk1 hS => ?_)
  replace hw : 1 = r_2 := Eq.symm hw
  subst hw
  obtain ⟨hP1, hD1⟩ := hB
  rw [ht] at hP1
  obtain ⟨hP, hD⟩ := va_join (wr := [(h0, .inr (15, [.int 6, .long 0, .int 0, .int 0, .ref h1, .null, .int 0, .int 0, .int 0])), (h3, .inr (2, [.int 0, .ref (g.2.2 0), .int 0])), (h2, .inl (g.2.1 6, 10, .inr (.inr (.inr (.inr (va_up (fun _ => none) 0 (some h3)))))))]) (w1 := [(h1, .inr (2, [.int 1, .ref h2, .int 1])), (q_1, .inr (1, [.int 0, .int (-1), .int 1, .ref h1]))]) hP hD [3, 4] [0, 1, 2] rfl rfl (by decide) (by decide) hk1 hFc hP1 hD1
  clear hP1 hD1 hPc hDc hFc hk1 hz1 hvm ht
  generalize H1 = H at hP hS ⊢
  have hP : va_P g.1 vwCl [(h0, .inr (15, [.int 6, .long 0, .int 0, .int 0, .ref h1, .null, .int 0, .int 0, .int 0])), (h3, .inr (2, [.int 0, .ref (g.2.2 0), .int 0])), (h2, .inl (g.2.1 6, 10, .inr (.inr (.inr (.inr (va_up (fun _ => none) 0 (some h3))))))), (h1, .inr (2, [.int 1, .ref h2, .int 1])), (q_1, .inr (1, [.int 0, .int (-1), .int 1, .ref h1]))] H := hP
  have hD : va_D A [(h0, .inr (15, [.int 6, .long 0, .int 0, .int 0, .ref h1, .null, .int 0, .int 0, .int 0])), (h3, .inr (2, [.int 0, .ref (g.2.2 0), .int 0])), (h2, .inl (g.2.1 6, 10, .inr (.inr (.inr (.inr (va_up (fun _ => none) 0 (some h3))))))), (h1, .inr (2, [.int 1, .ref h2, .int 1])), (q_1, .inr (1, [.int 0, .int (-1), .int 1, .ref h1]))] := hD
  refine lv_if_eq (tgt := 128) hx hb dX21_weight_71 (by decide) (fun c9 => absurd c9 (by decide)) (fun _ => ?_)
  refine lv_aload_n hx hb dX21_weight_74 rfl (lv_at hl 0 rfl) ?_
  have hPc := hP.sub (ws' := [(h2, .inl (g.2.1 6, 10, .inr (.inr (.inr (.inr (va_up (fun _ => none) 0 (some h3))))))), (h1, .inr (2, [.int 1, .ref h2, .int 1])), (q_1, .inr (1, [.int 0, .int (-1), .int 1, .ref h1]))]) [2, 3, 4] rfl
  have hDc := hD.sub (ws' := [(h2, .inl (g.2.1 6, 10, .inr (.inr (.inr (.inr (va_up (fun _ => none) 0 (some h3))))))), (h1, .inr (2, [.int 1, .ref h2, .int 1])), (q_1, .inr (1, [.int 0, .int (-1), .int 1, .ref h1]))]) [2, 3, 4] (by decide) rfl
  have hFc := va_free (wc := [(h2, .inl (g.2.1 6, 10, .inr (.inr (.inr (.inr (va_up (fun _ => none) 0 (some h3))))))), (h1, .inr (2, [.int 1, .ref h2, .int 1])), (q_1, .inr (1, [.int 0, .int (-1), .int 1, .ref h1]))]) hD hS hA [2, 3, 4] rfl
  refine va_callFr (va_runF (As := []) (rest := []) (hK.1 1 _ rfl).2 ⟨hx, hb, hml, hown, hts⟩ (c9_Jx35411_next_0502b_1 l g q_1 h2 h3 h1 _) (va_cwF 0 hts g9_X21_weight_1_2 rfl rfl rfl hE.f2 (by decide +kernel) ⟨Nat.le_of_ble_eq_true rfl, Nat.le_of_ble_eq_true rfl⟩) (mPreV (g := g) (wc := [(h2, .inl (g.2.1 6, 10, .inr (.inr (.inr (.inr (va_up (fun _ => none) 0 (some h3))))))), (h1, .inr (2, [.int 1, .ref h2, .int 1])), (q_1, .inr (1, [.int 0, .int (-1), .int 1, .ref h1]))]) (C := RJx35411) (ci := 1) (q0 := 2) hE hS hPc hDc hFc rfl rfl) rfl rfl hl.1 rfl (lv_room (Nat.le_of_ble_eq_true rfl)) dX21_weight_75 ⟨Nat.le_of_ble_eq_true rfl, Nat.le_of_ble_eq_true rfl⟩) hS (fun q _ h => hFc q h) hFc (fun u r_3 t H1 locs ht hvm hw hB hz1 hk1 hS => ?_)
  obtain ⟨hR1, hP1, hD1⟩ := hB
  replace hR1 : h3 = r_3 := Eq.symm hR1
  subst hR1
  rw [ht] at hP1
  obtain ⟨hP, hD⟩ := va_join (wr := [(h0, .inr (15, [.int 6, .long 0, .int 0, .int 0, .ref h1, .null, .int 0, .int 0, .int 0])), (h3, .inr (2, [.int 0, .ref (g.2.2 0), .int 0]))]) (w1 := [(h2, .inl (g.2.1 6, 10, .inr (.inr (.inr (.inr (va_up (fun _ => none) 0 (some h3))))))), (h1, .inr (2, [.int 1, .ref h2, .int 1])), (q_1, .inr (1, [.int 1, .int 0, .int 1, .ref h1]))]) hP hD [2, 3, 4] [0, 1] rfl rfl (by decide) (by decide) hk1 hFc hP1 hD1
  clear hP1 hD1 hPc hDc hFc hk1 hz1 hvm ht
  generalize H1 = H at hP hS ⊢
  have hP : va_P g.1 vwCl [(h0, .inr (15, [.int 6, .long 0, .int 0, .int 0, .ref h1, .null, .int 0, .int 0, .int 0])), (h3, .inr (2, [.int 0, .ref (g.2.2 0), .int 0])), (h2, .inl (g.2.1 6, 10, .inr (.inr (.inr (.inr (va_up (fun _ => none) 0 (some h3))))))), (h1, .inr (2, [.int 1, .ref h2, .int 1])), (q_1, .inr (1, [.int 1, .int 0, .int 1, .ref h1]))] H := hP
  have hD : va_D A [(h0, .inr (15, [.int 6, .long 0, .int 0, .int 0, .ref h1, .null, .int 0, .int 0, .int 0])), (h3, .inr (2, [.int 0, .ref (g.2.2 0), .int 0])), (h2, .inl (g.2.1 6, 10, .inr (.inr (.inr (.inr (va_up (fun _ => none) 0 (some h3))))))), (h1, .inr (2, [.int 1, .ref h2, .int 1])), (q_1, .inr (1, [.int 1, .int 0, .int 1, .ref h1]))] := hD
  refine va_castS (nm := "java/util/ArrayList") hx hb hown (hts (.classLink RX21 38 "java/util/ArrayList") (List.mem_of_getElem? (i := 36) rfl)) (hK.1 2 _ rfl).2 (va_recv hK hP (ci := 2) (q0 := 1) rfl rfl) dX21_weight_80 ?_
  refine lv_astore (lv' := [(4, .ref h3), (3, .ref q_1), (1, .long 0), (0, .ref h0)]) hx hb dX21_weight_83 hl (by decide) rfl (fun ls hl => ?_)
  refine lv_aload hx hb dX21_weight_85 (lv_at hl 0 rfl) ?_
  have hPc := hP.sub (ws' := [(h3, .inr (2, [.int 0, .ref (g.2.2 0), .int 0]))]) [1] rfl
  have hDc := hD.sub (ws' := [(h3, .inr (2, [.int 0, .ref (g.2.2 0), .int 0]))]) [1] (by decide) rfl
  have hFc := va_free (wc := [(h3, .inr (2, [.int 0, .ref (g.2.2 0), .int 0]))]) hD hS hA [1] rfl
  refine va_callr (va_runV (As := []) (rest := []) ⟨hx, hb, hml, hown, hts⟩ (c9_Jx4a65c_iterator_32c93_2 l g h3 _) (cwV 0 hts g9_X21_weight_1_3 rfl rfl rfl (by decide +kernel) ⟨Nat.le_of_ble_eq_true rfl, Nat.le_of_ble_eq_true rfl⟩) (mPreV (g := g) (wc := [(h3, .inr (2, [.int 0, .ref (g.2.2 0), .int 0]))]) (C := RJx4a65c) (ci := 2) (q0 := 0) hE hS hPc hDc hFc rfl rfl) rfl rfl hl.1 rfl (lv_room (Nat.le_of_ble_eq_true rfl)) dX21_weight_87 ⟨Nat.le_of_ble_eq_true rfl, Nat.le_of_ble_eq_true rfl⟩) hS (fun q _ h => hFc q h) hFc (fun u r_4 t H1 locs ht hvm hw hB hz1 hk1 hS => ?_)
  obtain ⟨q_2, rfl⟩ : ∃ z, z = u := ⟨_, rfl⟩
  obtain ⟨hR1, hP1, hD1⟩ := hB
  replace hR1 : q_2 = r_4 := Eq.symm hR1
  subst hR1
  rw [ht] at hP1
  obtain ⟨hP, hD⟩ := va_join (wr := [(h0, .inr (15, [.int 6, .long 0, .int 0, .int 0, .ref h1, .null, .int 0, .int 0, .int 0])), (h2, .inl (g.2.1 6, 10, .inr (.inr (.inr (.inr (va_up (fun _ => none) 0 (some h3))))))), (h1, .inr (2, [.int 1, .ref h2, .int 1])), (q_1, .inr (1, [.int 1, .int 0, .int 1, .ref h1]))]) (w1 := [(h3, .inr (2, [.int 0, .ref (g.2.2 0), .int 0])), (q_2, .inr (1, [.int 0, .int (-1), .int 0, .ref h3]))]) hP hD [1] [0, 2, 3, 4] rfl rfl (by decide) (by decide) hk1 hFc hP1 hD1
  clear hP1 hD1 hPc hDc hFc hk1 hz1 hvm ht
  generalize H1 = H at hP hS ⊢
  have hP : va_P g.1 vwCl [(h0, .inr (15, [.int 6, .long 0, .int 0, .int 0, .ref h1, .null, .int 0, .int 0, .int 0])), (h2, .inl (g.2.1 6, 10, .inr (.inr (.inr (.inr (va_up (fun _ => none) 0 (some h3))))))), (h1, .inr (2, [.int 1, .ref h2, .int 1])), (q_1, .inr (1, [.int 1, .int 0, .int 1, .ref h1])), (h3, .inr (2, [.int 0, .ref (g.2.2 0), .int 0])), (q_2, .inr (1, [.int 0, .int (-1), .int 0, .ref h3]))] H := hP
  have hD : va_D A [(h0, .inr (15, [.int 6, .long 0, .int 0, .int 0, .ref h1, .null, .int 0, .int 0, .int 0])), (h2, .inl (g.2.1 6, 10, .inr (.inr (.inr (.inr (va_up (fun _ => none) 0 (some h3))))))), (h1, .inr (2, [.int 1, .ref h2, .int 1])), (q_1, .inr (1, [.int 1, .int 0, .int 1, .ref h1])), (h3, .inr (2, [.int 0, .ref (g.2.2 0), .int 0])), (q_2, .inr (1, [.int 0, .int (-1), .int 0, .ref h3]))] := hD
  refine lv_astore (lv' := [(5, .ref q_2), (4, .ref h3), (3, .ref q_1), (1, .long 0), (0, .ref h0)]) hx hb dX21_weight_90 hl (by decide) rfl (fun ls hl => ?_)
  refine lv_aload hx hb dX21_weight_92 (lv_at hl 0 rfl) ?_
  have hPc := hP.sub (ws' := [(h3, .inr (2, [.int 0, .ref (g.2.2 0), .int 0])), (q_2, .inr (1, [.int 0, .int (-1), .int 0, .ref h3]))]) [4, 5] rfl
  have hDc := hD.sub (ws' := [(h3, .inr (2, [.int 0, .ref (g.2.2 0), .int 0])), (q_2, .inr (1, [.int 0, .int (-1), .int 0, .ref h3]))]) [4, 5] (by decide) rfl
  have hFc := va_free (wc := [(h3, .inr (2, [.int 0, .ref (g.2.2 0), .int 0])), (q_2, .inr (1, [.int 0, .int (-1), .int 0, .ref h3]))]) hD hS hA [4, 5] rfl
  refine va_callFi (va_runF (As := []) (rest := []) (hK.1 1 _ rfl).2 ⟨hx, hb, hml, hown, hts⟩ (c9_Jx35411_hasNext_aae02_2 l g q_2 h3 _) (va_cwF 0 hts g9_X21_weight_1_4 rfl rfl rfl hE.f1 (by decide +kernel) ⟨Nat.le_of_ble_eq_true rfl, Nat.le_of_ble_eq_true rfl⟩) (mPreV (g := g) (wc := [(h3, .inr (2, [.int 0, .ref (g.2.2 0), .int 0])), (q_2, .inr (1, [.int 0, .int (-1), .int 0, .ref h3]))]) (C := RJx35411) (ci := 1) (q0 := 1) hE hS hPc hDc hFc rfl rfl) rfl rfl hl.1 rfl (lv_room (Nat.le_of_ble_eq_true rfl)) dX21_weight_94 ⟨Nat.le_of_ble_eq_true rfl, Nat.le_of_ble_eq_true rfl⟩) hS (fun q _ h => hFc q h) hFc (fun r_5 u t H1 locs ht hvm hw hB hz1 hk1 hS => ?_)
  replace hw : 0 = r_5 := Eq.symm hw
  subst hw
  obtain ⟨hP1, hD1⟩ := hB
  rw [ht] at hP1
  obtain ⟨hP, hD⟩ := va_join (wr := [(h0, .inr (15, [.int 6, .long 0, .int 0, .int 0, .ref h1, .null, .int 0, .int 0, .int 0])), (h2, .inl (g.2.1 6, 10, .inr (.inr (.inr (.inr (va_up (fun _ => none) 0 (some h3))))))), (h1, .inr (2, [.int 1, .ref h2, .int 1])), (q_1, .inr (1, [.int 1, .int 0, .int 1, .ref h1]))]) (w1 := [(h3, .inr (2, [.int 0, .ref (g.2.2 0), .int 0])), (q_2, .inr (1, [.int 0, .int (-1), .int 0, .ref h3]))]) hP hD [4, 5] [0, 1, 2, 3] rfl rfl (by decide) (by decide) hk1 hFc hP1 hD1
  clear hP1 hD1 hPc hDc hFc hk1 hz1 hvm ht
  generalize H1 = H at hP hS ⊢
  have hP : va_P g.1 vwCl [(h0, .inr (15, [.int 6, .long 0, .int 0, .int 0, .ref h1, .null, .int 0, .int 0, .int 0])), (h2, .inl (g.2.1 6, 10, .inr (.inr (.inr (.inr (va_up (fun _ => none) 0 (some h3))))))), (h1, .inr (2, [.int 1, .ref h2, .int 1])), (q_1, .inr (1, [.int 1, .int 0, .int 1, .ref h1])), (h3, .inr (2, [.int 0, .ref (g.2.2 0), .int 0])), (q_2, .inr (1, [.int 0, .int (-1), .int 0, .ref h3]))] H := hP
  have hD : va_D A [(h0, .inr (15, [.int 6, .long 0, .int 0, .int 0, .ref h1, .null, .int 0, .int 0, .int 0])), (h2, .inl (g.2.1 6, 10, .inr (.inr (.inr (.inr (va_up (fun _ => none) 0 (some h3))))))), (h1, .inr (2, [.int 1, .ref h2, .int 1])), (q_1, .inr (1, [.int 1, .int 0, .int 1, .ref h1])), (h3, .inr (2, [.int 0, .ref (g.2.2 0), .int 0])), (q_2, .inr (1, [.int 0, .int (-1), .int 0, .ref h3]))] := hD
  refine lv_if_eq (tgt := 125) hx hb dX21_weight_99 (by decide) (fun _ => ?_) (fun c9 => absurd (by decide) c9)
  refine lv_goto (tgt := 65) hx hb dX21_weight_125 (by decide) ?_
  refine lv_aload_n hx hb dX21_weight_65 rfl (lv_at hl 2 rfl) ?_
  have hPc := hP.sub (ws' := [(h1, .inr (2, [.int 1, .ref h2, .int 1])), (q_1, .inr (1, [.int 1, .int 0, .int 1, .ref h1]))]) [2, 3] rfl
  have hDc := hD.sub (ws' := [(h1, .inr (2, [.int 1, .ref h2, .int 1])), (q_1, .inr (1, [.int 1, .int 0, .int 1, .ref h1]))]) [2, 3] (by decide) rfl
  have hFc := va_free (wc := [(h1, .inr (2, [.int 1, .ref h2, .int 1])), (q_1, .inr (1, [.int 1, .int 0, .int 1, .ref h1]))]) hD hS hA [2, 3] rfl
  refine va_callFi (va_runF (As := []) (rest := []) (hK.1 1 _ rfl).2 ⟨hx, hb, hml, hown, hts⟩ (c9_Jx35411_hasNext_aae02_3 l g q_1 h1 h2 _) (va_cwF 0 hts g9_X21_weight_1_5 rfl rfl rfl hE.f1 (by decide +kernel) ⟨Nat.le_of_ble_eq_true rfl, Nat.le_of_ble_eq_true rfl⟩) (mPreV (g := g) (wc := [(h1, .inr (2, [.int 1, .ref h2, .int 1])), (q_1, .inr (1, [.int 1, .int 0, .int 1, .ref h1]))]) (C := RJx35411) (ci := 1) (q0 := 1) hE hS hPc hDc hFc rfl rfl) rfl rfl hl.1 rfl (lv_room (Nat.le_of_ble_eq_true rfl)) dX21_weight_66 ⟨Nat.le_of_ble_eq_true rfl, Nat.le_of_ble_eq_true rfl⟩) hS (fun q _ h => hFc q h) hFc (fun r_6 u t H1 locs ht hvm hw hB hz1 hk1 hS => ?_)
  replace hw : 0 = r_6 := Eq.symm hw
  subst hw
  obtain ⟨hP1, hD1⟩ := hB
  rw [ht] at hP1
  obtain ⟨hP, hD⟩ := va_join (wr := [(h0, .inr (15, [.int 6, .long 0, .int 0, .int 0, .ref h1, .null, .int 0, .int 0, .int 0])), (h2, .inl (g.2.1 6, 10, .inr (.inr (.inr (.inr (va_up (fun _ => none) 0 (some h3))))))), (h3, .inr (2, [.int 0, .ref (g.2.2 0), .int 0])), (q_2, .inr (1, [.int 0, .int (-1), .int 0, .ref h3]))]) (w1 := [(h1, .inr (2, [.int 1, .ref h2, .int 1])), (q_1, .inr (1, [.int 1, .int 0, .int 1, .ref h1]))]) hP hD [2, 3] [0, 1, 4, 5] rfl rfl (by decide) (by decide) hk1 hFc hP1 hD1
  clear hP1 hD1 hPc hDc hFc hk1 hz1 hvm ht
  generalize H1 = H at hP hS ⊢
  have hP : va_P g.1 vwCl [(h0, .inr (15, [.int 6, .long 0, .int 0, .int 0, .ref h1, .null, .int 0, .int 0, .int 0])), (h2, .inl (g.2.1 6, 10, .inr (.inr (.inr (.inr (va_up (fun _ => none) 0 (some h3))))))), (h3, .inr (2, [.int 0, .ref (g.2.2 0), .int 0])), (q_2, .inr (1, [.int 0, .int (-1), .int 0, .ref h3])), (h1, .inr (2, [.int 1, .ref h2, .int 1])), (q_1, .inr (1, [.int 1, .int 0, .int 1, .ref h1]))] H := hP
  have hD : va_D A [(h0, .inr (15, [.int 6, .long 0, .int 0, .int 0, .ref h1, .null, .int 0, .int 0, .int 0])), (h2, .inl (g.2.1 6, 10, .inr (.inr (.inr (.inr (va_up (fun _ => none) 0 (some h3))))))), (h3, .inr (2, [.int 0, .ref (g.2.2 0), .int 0])), (q_2, .inr (1, [.int 0, .int (-1), .int 0, .ref h3])), (h1, .inr (2, [.int 1, .ref h2, .int 1])), (q_1, .inr (1, [.int 1, .int 0, .int 1, .ref h1]))] := hD
  refine lv_if_eq (tgt := 128) hx hb dX21_weight_71 (by decide) (fun _ => ?_) (fun c9 => absurd (by decide) c9)
  refine lv_lload_n hx hb dX21_weight_128 rfl (lv_at hl 3 rfl) ?_
  have hP9 := hP.sub (ws' := [(h0, .inr (15, [.int 6, .long 0, .int 0, .int 0, .ref h1, .null, .int 0, .int 0, .int 0])), (h1, .inr (2, [.int 1, .ref h2, .int 1])), (h3, .inr (2, [.int 0, .ref (g.2.2 0), .int 0])), (h2, .inl (g.2.1 6, 10, .inr (.inr (.inr (.inr (va_up (fun _ => none) 0 (some h3)))))))]) [0, 4, 2, 1] rfl
  have hD9 := hD.sub (ws' := [(h0, .inr (15, [.int 6, .long 0, .int 0, .int 0, .ref h1, .null, .int 0, .int 0, .int 0])), (h1, .inr (2, [.int 1, .ref h2, .int 1])), (h3, .inr (2, [.int 0, .ref (g.2.2 0), .int 0])), (h2, .inl (g.2.1 6, 10, .inr (.inr (.inr (.inr (va_up (fun _ => none) 0 (some h3)))))))]) [0, 4, 2, 1] (by decide) rfl
  subst hAe
  exact W.lret (v := 0) hx hb hr (fun t ht hW => ⟨⟨0, (), rfl, rfl, by rw [ht]; exact hP9, hD9⟩, hS.F ht⟩) hS.2.2 dX21_weight_129
def w9_X21_isRegular_1 : List Cond := [.code yX21_isRegular cX21_isRegular 6 (some .boolean), .fieldLink RX21 16 "RegexloomModel$Node" "kind" "I", .fieldLink RX21 33 "RegexloomModel$Node" "branches" "Ljava/util/ArrayList;", .methodLink RX21 37 yJx4a65c_iterator_32c93, .instanceMethod yJx4a65c_iterator_32c93, .selects RJx4a65c yJx4a65c_iterator_32c93 yJx4a65c_iterator_32c93, .initialized RJx4a65c, .code yJx4a65c_iterator_32c93 cJx4a65c_iterator_32c93 1 (some (.object "java/util/Iterator")), .classLink RJx4a65c 267 RJx35411, .instantiable RJx35411 4, .initialized RJx35411, .code yJx35411_init_45d68 cJx35411_init_45d68 2 none, .fieldLink RJx35411 1 "java/util/ArrayList$Itr" "this$0" "Ljava/util/ArrayList;", .methodLink RJx35411 7 objectInit, .instanceMethod objectInit, .code objectInit ⟨#[0xb1]⟩ 1 none, .fieldLink RJx35411 13 "java/util/ArrayList$Itr" "lastRet" "I", .fieldLink RJx35411 17 "java/util/ArrayList" "modCount" "I", .sameField "java/util/ArrayList" "java/util/AbstractList" "modCount" "I", .fieldLink RJx35411 22 "java/util/ArrayList$Itr" "expectedModCount" "I", .methodLink RJx4a65c 269 yJx35411_init_45d68, .instanceMethod yJx35411_init_45d68, .methodLink RX21 43 ⟨"java/util/Iterator", "hasNext", "()Z"⟩, .selects RJx35411 ⟨"java/util/Iterator", "hasNext", "()Z"⟩ yJx35411_hasNext_aae02, .instanceMethod yJx35411_hasNext_aae02, .code yJx35411_hasNext_aae02 cJx35411_hasNext_aae02 1 (some .boolean), .fieldLink RJx35411 25 "java/util/ArrayList$Itr" "cursor" "I", .methodLink RX21 49 ⟨"java/util/Iterator", "next", "()Ljava/lang/Object;"⟩, .selects RJx35411 ⟨"java/util/Iterator", "next", "()Ljava/lang/Object;"⟩ yJx35411_next_0502b, .instanceMethod yJx35411_next_0502b, .code yJx35411_next_0502b cJx35411_next_0502b 3 (some (.object "java/lang/Object")), .methodLink RJx35411 31 yJx35411_checkForComodification_da8c8, .instanceMethod yJx35411_checkForComodification_da8c8, .selects RJx35411 yJx35411_checkForComodification_da8c8 yJx35411_checkForComodification_da8c8, .code yJx35411_checkForComodification_da8c8 cJx35411_checkForComodification_da8c8 1 none, .fieldLink RJx35411 37 "java/util/ArrayList" "elementData" "[Ljava/lang/Object;", .classLink RX21 38 "java/util/ArrayList"] ++ (u_ws RX14 TX14 9 ++ u_ws RJx35411 TJx35411 4 ++ u_ws RJx4a65c TJx4a65c 3)
set_option maxRecDepth 20000 in
theorem in9_X21_isRegular_1_RX14 : ∀ w ∈ u_ws RX14 TX14 9, w ∈ w9_X21_isRegular_1 := by decide +kernel
set_option maxRecDepth 20000 in
theorem in9_X21_isRegular_1_RJx35411 : ∀ w ∈ u_ws RJx35411 TJx35411 4, w ∈ w9_X21_isRegular_1 := by decide +kernel
set_option maxRecDepth 20000 in
theorem in9_X21_isRegular_1_RJx4a65c : ∀ w ∈ u_ws RJx4a65c TJx4a65c 3, w ∈ w9_X21_isRegular_1 := by decide +kernel
set_option maxRecDepth 20000 in
theorem g9_X21_isRegular_1_0 : GoodIn w9_X21_isRegular_1 (wsV RX21 37 RJx4a65c yJx4a65c_iterator_32c93 w9_Jx4a65c_iterator_32c93_1) := goodIn_r _ [3, 4, 5, 6, 7, 8, 9, 10, 11, 12, 13, 14, 15, 16, 17, 18, 19, 20, 21, 46, 47, 48, 49, 50, 51, 52] (by decide +kernel) (by decide +kernel)
set_option maxRecDepth 20000 in
theorem g9_X21_isRegular_1_1 : GoodIn w9_X21_isRegular_1 (va_wsF RX21 43 RJx35411 ⟨"java/util/Iterator", "hasNext", "()Z"⟩ yJx35411_hasNext_aae02 w9_Jx35411_hasNext_aae02_1) := goodIn_r _ [22, 23, 24, 10, 25, 26, 12, 46, 47, 48, 49, 50, 51, 52] (by decide +kernel) (by decide +kernel)
set_option maxRecDepth 20000 in
theorem g9_X21_isRegular_1_2 : GoodIn w9_X21_isRegular_1 (va_wsF RX21 49 RJx35411 ⟨"java/util/Iterator", "next", "()Ljava/lang/Object;"⟩ yJx35411_next_0502b w9_Jx35411_next_0502b_1) := goodIn_r _ [27, 28, 29, 10, 30, 31, 32, 33, 10, 34, 12, 17, 18, 19, 26, 35, 16, 46, 47, 48, 49, 50, 51, 52] (by decide +kernel) (by decide +kernel)
set_option maxRecDepth 20000 in
theorem g9_X21_isRegular_1_3 : GoodIn w9_X21_isRegular_1 (wsV RX21 37 RJx4a65c yJx4a65c_iterator_32c93 w9_Jx4a65c_iterator_32c93_2) := goodIn_r _ [3, 4, 5, 6, 7, 8, 9, 10, 11, 12, 13, 14, 15, 16, 17, 18, 19, 20, 21, 46, 47, 48, 49, 50, 51, 52] (by decide +kernel) (by decide +kernel)
set_option maxRecDepth 20000 in
theorem g9_X21_isRegular_1_4 : GoodIn w9_X21_isRegular_1 (va_wsF RX21 43 RJx35411 ⟨"java/util/Iterator", "hasNext", "()Z"⟩ yJx35411_hasNext_aae02 w9_Jx35411_hasNext_aae02_2) := goodIn_r _ [22, 23, 24, 10, 25, 26, 12, 46, 47, 48, 49, 50, 51, 52] (by decide +kernel) (by decide +kernel)
set_option maxRecDepth 20000 in
theorem g9_X21_isRegular_1_5 : GoodIn w9_X21_isRegular_1 (va_wsF RX21 43 RJx35411 ⟨"java/util/Iterator", "hasNext", "()Z"⟩ yJx35411_hasNext_aae02 w9_Jx35411_hasNext_aae02_3) := goodIn_r _ [22, 23, 24, 10, 25, 26, 12, 46, 47, 48, 49, 50, 51, 52] (by decide +kernel) (by decide +kernel)
set_option maxHeartbeats 4000000 in
set_option maxRecDepth 100000 in
theorem c9_X21_isRegular_1 (l : Launch) (g : G9) (h0 h1 h2 h3 sz : Nat) : Met l yX21_isRegular w9_X21_isRegular_1 ({ frames := 3, cells := 2, slots := 8, locals := 53 }) (mP g [(h0, .inr (15, [.int 6, .long 0, .int 0, .int 0, .ref h1, .null, .int 0, .int 0, .int 0])), (h1, .inr (2, [.int 1, .ref h2, .int 1])), (h3, .inr (2, [.int 0, .ref (g.2.2 0), .int 0])), (h2, .inl (g.2.1 6, 10, .inr (.inr (.inr (.inr (va_up (fun _ => none) 0 (some h3)))))))] sz [.ref h0]) (va_Qi (fun (r : Int32) (_ : Unit) => r = 1) (fun (_ : Unit) (t : State) => mB g [(h0, .inr (15, [.int 6, .long 0, .int 0, .int 0, .ref h1, .null, .int 0, .int 0, .int 0])), (h1, .inr (2, [.int 1, .ref h2, .int 1])), (h3, .inr (2, [.int 0, .ref (g.2.2 0), .int 0])), (h2, .inl (g.2.1 6, 10, .inr (.inr (.inr (.inr (va_up (fun _ => none) 0 (some h3)))))))] sz [(h0, .inr (15, [.int 6, .long 0, .int 0, .int 0, .ref h1, .null, .int 0, .int 0, .int 0])), (h1, .inr (2, [.int 1, .ref h2, .int 1])), (h3, .inr (2, [.int 0, .ref (g.2.2 0), .int 0])), (h2, .inl (g.2.1 6, 10, .inr (.inr (.inr (.inr (va_up (fun _ => none) 0 (some h3)))))))] t) (va_A [(h0, .inr (15, [.int 6, .long 0, .int 0, .int 0, .ref h1, .null, .int 0, .int 0, .int 0])), (h1, .inr (2, [.int 1, .ref h2, .int 1])), (h3, .inr (2, [.int 0, .ref (g.2.2 0), .int 0])), (h2, .inl (g.2.1 6, 10, .inr (.inr (.inr (.inr (va_up (fun _ => none) 0 (some h3)))))))] sz)) 2 8 (va_A [(h0, .inr (15, [.int 6, .long 0, .int 0, .int 0, .ref h1, .null, .int 0, .int 0, .int 0])), (h1, .inr (2, [.int 1, .ref h2, .int 1])), (h3, .inr (2, [.int 0, .ref (g.2.2 0), .int 0])), (h2, .inl (g.2.1 6, 10, .inr (.inr (.inr (.inr (va_up (fun _ => none) 0 (some h3)))))))] sz) := by
  refine Met.ofW (cc := cX21_isRegular) (maxL := 6) (ret := (some .boolean)) (by decide) rfl ?_
  intro p e s m args below meth c s₁ B hml hv
  obtain ⟨rfl, hsz, hP, hD0, hE⟩ := hv
  have hx := B.exec
  have hb := B.bytes
  have hr := B.returns
  have hts := atoms_spec (ws := w9_X21_isRegular_1) B.pre
  have hown : s.vm.findClass RX21 = some m.cls := findClass_of_methodNamed B.named
  have hlocks := B.notSynchronized
  subst hsz
  have hD := hD0.self (sz := s.heap.size)
  generalize hAe : va_A [(h0, .inr (15, [.int 6, .long 0, .int 0, .int 0, .ref h1, .null, .int 0, .int 0, .int 0])), (h1, .inr (2, [.int 1, .ref h2, .int 1])), (h3, .inr (2, [.int 0, .ref (g.2.2 0), .int 0])), (h2, .inl (g.2.1 6, 10, .inr (.inr (.inr (.inr (va_up (fun _ => none) 0 (some h3)))))))] s.heap.size = A at hD hE ⊢
  have hA : ∀ q : Nat, s.heap.size ≤ q → A q := fun q h => by rw [← hAe]; exact Or.inr h
  have hK := hE.1
  have hS : va_S A s.heap s.heap [] := va_S.rf
  replace hP : va_P g.1 vwCl [(h0, .inr (15, [.int 6, .long 0, .int 0, .int 0, .ref h1, .null, .int 0, .int 0, .int 0])), (h1, .inr (2, [.int 1, .ref h2, .int 1])), (h3, .inr (2, [.int 0, .ref (g.2.2 0), .int 0])), (h2, .inl (g.2.1 6, 10, .inr (.inr (.inr (.inr (va_up (fun _ => none) 0 (some h3)))))))] s.heap := hP
  have hl := lv_entry ([.ref h0]) (n := 6) (Nat.le_of_ble_eq_true rfl)
  rw [lg_entry_eq]
  generalize (lg_sl ([.ref h0]) ++ List.replicate (6 - (lg_sl ([.ref h0])).length) Slot.unset).toArray = ls at hl ⊢
  replace hl : lv_has ls 6 [(0, .ref h0)] := hl
  have hH0 : s.heap.size ≤ s.heap.size := Nat.le_refl _
  refine lv_aload_n hx hb dX21_isRegular_0 rfl (lv_at hl 0 rfl) ?_
  refine va_get (D := g.1) (ci := 15) (v := .int 6) (C := RX14) (T := TX14) (N := 9) hx hb hts in9_X21_isRegular_1_RX14 hown hK hP 0 rfl rfl 0 (by decide) (hts (.fieldLink RX21 16 "RegexloomModel$Node" "kind" "I") (List.mem_of_getElem? (i := 1) rfl)) (fun _ h9 => h9) rfl dX21_isRegular_1 ?_
  refine lv_iconst (v := 1) hx hb dX21_isRegular_4 (by decide) ?_
  refine lv_icmp_lt (tgt := 16) hx hb dX21_isRegular_5 (by decide) (fun c9 => absurd c9 (by decide)) (fun _ => ?_)
  refine lv_aload_n hx hb dX21_isRegular_8 rfl (lv_at hl 0 rfl) ?_
  refine va_get (D := g.1) (ci := 15) (v := .int 6) (C := RX14) (T := TX14) (N := 9) hx hb hts in9_X21_isRegular_1_RX14 hown hK hP 0 rfl rfl 0 (by decide) (hts (.fieldLink RX21 16 "RegexloomModel$Node" "kind" "I") (List.mem_of_getElem? (i := 1) rfl)) (fun _ h9 => h9) rfl dX21_isRegular_9 ?_
  refine lv_iconst (v := 4) hx hb dX21_isRegular_12 (by decide) ?_
  refine lv_icmp_le (tgt := 20) hx hb dX21_isRegular_13 (by decide) (fun c9 => absurd c9 (by decide)) (fun _ => ?_)
  refine lv_iconst (v := 1) hx hb dX21_isRegular_16 (by decide) ?_
  refine lv_goto (tgt := 21) hx hb dX21_isRegular_17 (by decide) ?_
  refine lv_istore_n (lv' := [(1, .int 1), (0, .ref h0)]) hx hb dX21_isRegular_21 rfl hl (by decide) rfl (fun ls hl => ?_)
  refine lv_iload_n hx hb dX21_isRegular_22 rfl (lv_at hl 0 rfl) ?_
  refine lv_aload_n hx hb dX21_isRegular_23 rfl (lv_at hl 1 rfl) ?_
  refine va_get (D := g.1) (ci := 15) (v := .int 6) (C := RX14) (T := TX14) (N := 9) hx hb hts in9_X21_isRegular_1_RX14 hown hK hP 0 rfl rfl 0 (by decide) (hts (.fieldLink RX21 16 "RegexloomModel$Node" "kind" "I") (List.mem_of_getElem? (i := 1) rfl)) (fun _ h9 => h9) rfl dX21_isRegular_24 ?_
  refine lv_bipush (v := 13) hx hb dX21_isRegular_27 (by decide) ?_
  refine lv_icmp_ne (tgt := 42) hx hb dX21_isRegular_29 (by decide) (fun _ => ?_) (fun c9 => absurd c9 (by decide))
  refine lv_iconst (v := 1) hx hb dX21_isRegular_42 (by decide) ?_
  refine lv_goto (tgt := 47) hx hb dX21_isRegular_43 (by decide) ?_
  refine lv_iand hx hb dX21_isRegular_47 ?_
  refine e_top (y := 1) (by decide) ?_
  refine lv_istore_n (lv' := [(1, .int 1), (0, .ref h0)]) hx hb dX21_isRegular_48 rfl hl (by decide) rfl (fun ls hl => ?_)
  refine lv_aload_n hx hb dX21_isRegular_49 rfl (lv_at hl 1 rfl) ?_
  refine va_get (D := g.1) (ci := 15) (v := .ref h1) (C := RX14) (T := TX14) (N := 9) hx hb hts in9_X21_isRegular_1_RX14 hown hK hP 0 rfl rfl 4 (by decide) (hts (.fieldLink RX21 33 "RegexloomModel$Node" "branches" "Ljava/util/ArrayList;") (List.mem_of_getElem? (i := 2) rfl)) (fun _ h9 => h9) rfl dX21_isRegular_50 ?_
  have hPc := hP.sub (ws' := [(h1, .inr (2, [.int 1, .ref h2, .int 1]))]) [1] rfl
  have hDc := hD.sub (ws' := [(h1, .inr (2, [.int 1, .ref h2, .int 1]))]) [1] (by decide) rfl
  have hFc := va_free (wc := [(h1, .inr (2, [.int 1, .ref h2, .int 1]))]) hD hS hA [1] rfl
  refine va_callr (va_runV (As := []) (rest := []) ⟨hx, hb, hml, hown, hts⟩ (c9_Jx4a65c_iterator_32c93_1 l g h1 h2 _) (cwV 0 hts g9_X21_isRegular_1_0 rfl rfl rfl (by decide +kernel) ⟨Nat.le_of_ble_eq_true rfl, Nat.le_of_ble_eq_true rfl⟩) (mPreV (g := g) (wc := [(h1, .inr (2, [.int 1, .ref h2, .int 1]))]) (C := RJx4a65c) (ci := 2) (q0 := 0) hE hS hPc hDc hFc rfl rfl) rfl rfl hl.1 rfl (lv_room (Nat.le_of_ble_eq_true rfl)) dX21_isRegular_53 ⟨Nat.le_of_ble_eq_true rfl, Nat.le_of_ble_eq_true rfl⟩) hS (fun q _ h => hFc q h) hFc (fun u r_1 t H1 locs ht hvm hw hB hz1 hk1 hS => ?_)
  obtain ⟨q_1, rfl⟩ : ∃ z, z = u := ⟨_, rfl⟩
  obtain ⟨hR1, hP1, hD1⟩ := hB
  replace hR1 : q_1 = r_1 := Eq.symm hR1
  subst hR1
  rw [ht] at hP1
  obtain ⟨hP, hD⟩ := va_join (wr := [(h0, .inr (15, [.int 6, .long 0, .int 0, .int 0, .ref h1, .null, .int 0, .int 0, .int 0])), (h3, .inr (2, [.int 0, .ref (g.2.2 0), .int 0])), (h2, .inl (g.2.1 6, 10, .inr (.inr (.inr (.inr (va_up (fun _ => none) 0 (some h3)))))))]) (w1 := [(h1, .inr (2, [.int 1, .ref h2, .int 1])), (q_1, .inr (1, [.int 0, .int (-1), .int 1, .ref h1]))]) hP hD [1] [0, 2, 3] rfl rfl (by decide) (by decide) hk1 hFc hP1 hD1
  clear hP1 hD1 hPc hDc hFc hk1 hz1 hvm ht
  generalize H1 = H at hP hS ⊢
  have hP : va_P g.1 vwCl [(h0, .inr (15, [.int 6, .long 0, .int 0, .int 0, .ref h1, .null, .int 0, .int 0, .int 0])), (h3, .inr (2, [.int 0, .ref (g.2.2 0), .int 0])), (h2, .inl (g.2.1 6, 10, .inr (.inr (.inr (.inr (va_up (fun _ => none) 0 (some h3))))))), (h1, .inr (2, [.int 1, .ref h2, .int 1])), (q_1, .inr (1, [.int 0, .int (-1), .int 1, .ref h1]))] H := hP
  have hD : va_D A [(h0, .inr (15, [.int 6, .long 0, .int 0, .int 0, .ref h1, .null, .int 0, .int 0, .int 0])), (h3, .inr (2, [.int 0, .ref (g.2.2 0), .int 0])), (h2, .inl (g.2.1 6, 10, .inr (.inr (.inr (.inr (va_up (fun _ => none) 0 (some h3))))))), (h1, .inr (2, [.int 1, .ref h2, .int 1])), (q_1, .inr (1, [.int 0, .int (-1), .int 1, .ref h1]))] := hD
  refine lv_astore_n (lv' := [(2, .ref q_1), (1, .int 1), (0, .ref h0)]) hx hb dX21_isRegular_56 rfl hl (by decide) rfl (fun ls hl => ?_)
  refine lv_aload_n hx hb dX21_isRegular_57 rfl (lv_at hl 0 rfl) ?_
  have hPc := hP.sub (ws' := [(h1, .inr (2, [.int 1, .ref h2, .int 1])), (q_1, .inr (1, [.int 0, .int (-1), .int 1, .ref h1]))]) [3, 4] rfl
  have hDc := hD.sub (ws' := [(h1, .inr (2, [.int 1, .ref h2, .int 1])), (q_1, .inr (1, [.int 0, .int (-1), .int 1, .ref h1]))]) [3, 4] (by decide) rfl
  have hFc := va_free (wc := [(h1, .inr (2, [.int 1, .ref h2, .int 1])), (q_1, .inr (1, [.int 0, .int (-1), .int 1, .ref h1]))]) hD hS hA [3, 4] rfl
  refine va_callFi (va_runF (As := []) (rest := []) (hK.1 1 _ rfl).2 ⟨hx, hb, hml, hown, hts⟩ (c9_Jx35411_hasNext_aae02_1 l g q_1 h1 h2 _) (va_cwF 0 hts g9_X21_isRegular_1_1 rfl rfl rfl hE.f1 (by decide +kernel) ⟨Nat.le_of_ble_eq_true rfl, Nat.le_of_ble_eq_true rfl⟩) (mPreV (g := g) (wc := [(h1, .inr (2, [.int 1, .ref h2, .int 1])), (q_1, .inr (1, [.int 0, .int (-1), .int 1, .ref h1]))]) (C := RJx35411) (ci := 1) (q0 := 1) hE hS hPc hDc hFc rfl rfl) rfl rfl hl.1 rfl (lv_room (Nat.le_of_ble_eq_true rfl)) dX21_isRegular_58 ⟨Nat.le_of_ble_eq_true rfl, Nat.le_of_ble_eq_true rfl⟩) hS (fun q _ h => hFc q h) hFc (fun r_2 u t H1 locs ht hvm hw hB hz1 hk1 hS => ?_)
  replace hw : 1 = r_2 := Eq.symm hw
  subst hw
  obtain ⟨hP1, hD1⟩ := hB
  rw [ht] at hP1
  obtain ⟨hP, hD⟩ := va_join (wr := [(h0, .inr (15, [.int 6, .long 0, .int 0, .int 0, .ref h1, .null, .int 0, .int 0, .int 0])), (h3, .inr (2, [.int 0, .ref (g.2.2 0), .int 0])), (h2, .inl (g.2.1 6, 10, .inr (.inr (.inr (.inr (va_up (fun _ => none) 0 (some h3)))))))]) (w1 := [(h1, .inr (2, [.int 1, .ref h2, .int 1])), (q_1, .inr (1, [.int 0, .int (-1), .int 1, .ref h1]))]) hP hD [3, 4] [0, 1, 2] rfl rfl (by decide) (by decide) hk1 hFc hP1 hD1
  clear hP1 hD1 hPc hDc hFc hk1 hz1 hvm ht
  generalize H1 = H at hP hS ⊢
  have hP : va_P g.1 vwCl [(h0, .inr (15, [.int 6, .long 0, .int 0, .int 0, .ref h1, .null, .int 0, .int 0, .int 0])), (h3, .inr (2, [.int 0, .ref (g.2.2 0), .int 0])), (h2, .inl (g.2.1 6, 10, .inr (.inr (.inr (.inr (va_up (fun _ => none) 0 (some h3))))))), (h1, .inr (2, [.int 1, .ref h2, .int 1])), (q_1, .inr (1, [.int 0, .int (-1), .int 1, .ref h1]))] H := hP
  have hD : va_D A [(h0, .inr (15, [.int 6, .long 0, .int 0, .int 0, .ref h1, .null, .int 0, .int 0, .int 0])), (h3, .inr (2, [.int 0, .ref (g.2.2 0), .int 0])), (h2, .inl (g.2.1 6, 10, .inr (.inr (.inr (.inr (va_up (fun _ => none) 0 (some h3))))))), (h1, .inr (2, [.int 1, .ref h2, .int 1])), (q_1, .inr (1, [.int 0, .int (-1), .int 1, .ref h1]))] := hD
  refine lv_if_eq (tgt := 118) hx hb dX21_isRegular_63 (by decide) (fun c9 => absurd c9 (by decide)) (fun _ => ?_)
  refine lv_aload_n hx hb dX21_isRegular_66 rfl (lv_at hl 0 rfl) ?_
  have hPc := hP.sub (ws' := [(h2, .inl (g.2.1 6, 10, .inr (.inr (.inr (.inr (va_up (fun _ => none) 0 (some h3))))))), (h1, .inr (2, [.int 1, .ref h2, .int 1])), (q_1, .inr (1, [.int 0, .int (-1), .int 1, .ref h1]))]) [2, 3, 4] rfl
  have hDc := hD.sub (ws' := [(h2, .inl (g.2.1 6, 10, .inr (.inr (.inr (.inr (va_up (fun _ => none) 0 (some h3))))))), (h1, .inr (2, [.int 1, .ref h2, .int 1])), (q_1, .inr (1, [.int 0, .int (-1), .int 1, .ref h1]))]) [2, 3, 4] (by decide) rfl
  have hFc := va_free (wc := [(h2, .inl (g.2.1 6, 10, .inr (.inr (.inr (.inr (va_up (fun _ => none) 0 (some h3))))))), (h1, .inr (2, [.int 1, .ref h2, .int 1])), (q_1, .inr (1, [.int 0, .int (-1), .int 1, .ref h1]))]) hD hS hA [2, 3, 4] rfl
  refine va_callFr (va_runF (As := []) (rest := []) (hK.1 1 _ rfl).2 ⟨hx, hb, hml, hown, hts⟩ (c9_Jx35411_next_0502b_1 l g q_1 h2 h3 h1 _) (va_cwF 0 hts g9_X21_isRegular_1_2 rfl rfl rfl hE.f2 (by decide +kernel) ⟨Nat.le_of_ble_eq_true rfl, Nat.le_of_ble_eq_true rfl⟩) (mPreV (g := g) (wc := [(h2, .inl (g.2.1 6, 10, .inr (.inr (.inr (.inr (va_up (fun _ => none) 0 (some h3))))))), (h1, .inr (2, [.int 1, .ref h2, .int 1])), (q_1, .inr (1, [.int 0, .int (-1), .int 1, .ref h1]))]) (C := RJx35411) (ci := 1) (q0 := 2) hE hS hPc hDc hFc rfl rfl) rfl rfl hl.1 rfl (lv_room (Nat.le_of_ble_eq_true rfl)) dX21_isRegular_67 ⟨Nat.le_of_ble_eq_true rfl, Nat.le_of_ble_eq_true rfl⟩) hS (fun q _ h => hFc q h) hFc (fun u r_3 t H1 locs ht hvm hw hB hz1 hk1 hS => ?_)
  obtain ⟨hR1, hP1, hD1⟩ := hB
  replace hR1 : h3 = r_3 := Eq.symm hR1
  subst hR1
  rw [ht] at hP1
  obtain ⟨hP, hD⟩ := va_join (wr := [(h0, .inr (15, [.int 6, .long 0, .int 0, .int 0, .ref h1, .null, .int 0, .int 0, .int 0])), (h3, .inr (2, [.int 0, .ref (g.2.2 0), .int 0]))]) (w1 := [(h2, .inl (g.2.1 6, 10, .inr (.inr (.inr (.inr (va_up (fun _ => none) 0 (some h3))))))), (h1, .inr (2, [.int 1, .ref h2, .int 1])), (q_1, .inr (1, [.int 1, .int 0, .int 1, .ref h1]))]) hP hD [2, 3, 4] [0, 1] rfl rfl (by decide) (by decide) hk1 hFc hP1 hD1
  clear hP1 hD1 hPc hDc hFc hk1 hz1 hvm ht
  generalize H1 = H at hP hS ⊢
  have hP : va_P g.1 vwCl [(h0, .inr (15, [.int 6, .long 0, .int 0, .int 0, .ref h1, .null, .int 0, .int 0, .int 0])), (h3, .inr (2, [.int 0, .ref (g.2.2 0), .int 0])), (h2, .inl (g.2.1 6, 10, .inr (.inr (.inr (.inr (va_up (fun _ => none) 0 (some h3))))))), (h1, .inr (2, [.int 1, .ref h2, .int 1])), (q_1, .inr (1, [.int 1, .int 0, .int 1, .ref h1]))] H := hP
  have hD : va_D A [(h0, .inr (15, [.int 6, .long 0, .int 0, .int 0, .ref h1, .null, .int 0, .int 0, .int 0])), (h3, .inr (2, [.int 0, .ref (g.2.2 0), .int 0])), (h2, .inl (g.2.1 6, 10, .inr (.inr (.inr (.inr (va_up (fun _ => none) 0 (some h3))))))), (h1, .inr (2, [.int 1, .ref h2, .int 1])), (q_1, .inr (1, [.int 1, .int 0, .int 1, .ref h1]))] := hD
  refine va_castS (nm := "java/util/ArrayList") hx hb hown (hts (.classLink RX21 38 "java/util/ArrayList") (List.mem_of_getElem? (i := 36) rfl)) (hK.1 2 _ rfl).2 (va_recv hK hP (ci := 2) (q0 := 1) rfl rfl) dX21_isRegular_72 ?_
  refine lv_astore_n (lv' := [(3, .ref h3), (2, .ref q_1), (1, .int 1), (0, .ref h0)]) hx hb dX21_isRegular_75 rfl hl (by decide) rfl (fun ls hl => ?_)
  refine lv_aload_n hx hb dX21_isRegular_76 rfl (lv_at hl 0 rfl) ?_
  have hPc := hP.sub (ws' := [(h3, .inr (2, [.int 0, .ref (g.2.2 0), .int 0]))]) [1] rfl
  have hDc := hD.sub (ws' := [(h3, .inr (2, [.int 0, .ref (g.2.2 0), .int 0]))]) [1] (by decide) rfl
  have hFc := va_free (wc := [(h3, .inr (2, [.int 0, .ref (g.2.2 0), .int 0]))]) hD hS hA [1] rfl
  refine va_callr (va_runV (As := []) (rest := []) ⟨hx, hb, hml, hown, hts⟩ (c9_Jx4a65c_iterator_32c93_2 l g h3 _) (cwV 0 hts g9_X21_isRegular_1_3 rfl rfl rfl (by decide +kernel) ⟨Nat.le_of_ble_eq_true rfl, Nat.le_of_ble_eq_true rfl⟩) (mPreV (g := g) (wc := [(h3, .inr (2, [.int 0, .ref (g.2.2 0), .int 0]))]) (C := RJx4a65c) (ci := 2) (q0 := 0) hE hS hPc hDc hFc rfl rfl) rfl rfl hl.1 rfl (lv_room (Nat.le_of_ble_eq_true rfl)) dX21_isRegular_77 ⟨Nat.le_of_ble_eq_true rfl, Nat.le_of_ble_eq_true rfl⟩) hS (fun q _ h => hFc q h) hFc (fun u r_4 t H1 locs ht hvm hw hB hz1 hk1 hS => ?_)
  obtain ⟨q_2, rfl⟩ : ∃ z, z = u := ⟨_, rfl⟩
  obtain ⟨hR1, hP1, hD1⟩ := hB
  replace hR1 : q_2 = r_4 := Eq.symm hR1
  subst hR1
  rw [ht] at hP1
  obtain ⟨hP, hD⟩ := va_join (wr := [(h0, .inr (15, [.int 6, .long 0, .int 0, .int 0, .ref h1, .null, .int 0, .int 0, .int 0])), (h2, .inl (g.2.1 6, 10, .inr (.inr (.inr (.inr (va_up (fun _ => none) 0 (some h3))))))), (h1, .inr (2, [.int 1, .ref h2, .int 1])), (q_1, .inr (1, [.int 1, .int 0, .int 1, .ref h1]))]) (w1 := [(h3, .inr (2, [.int 0, .ref (g.2.2 0), .int 0])), (q_2, .inr (1, [.int 0, .int (-1), .int 0, .ref h3]))]) hP hD [1] [0, 2, 3, 4] rfl rfl (by decide) (by decide) hk1 hFc hP1 hD1
  clear hP1 hD1 hPc hDc hFc hk1 hz1 hvm ht
  generalize H1 = H at hP hS ⊢
  have hP : va_P g.1 vwCl [(h0, .inr (15, [.int 6, .long 0, .int 0, .int 0, .ref h1, .null, .int 0, .int 0, .int 0])), (h2, .inl (g.2.1 6, 10, .inr (.inr (.inr (.inr (va_up (fun _ => none) 0 (some h3))))))), (h1, .inr (2, [.int 1, .ref h2, .int 1])), (q_1, .inr (1, [.int 1, .int 0, .int 1, .ref h1])), (h3, .inr (2, [.int 0, .ref (g.2.2 0), .int 0])), (q_2, .inr (1, [.int 0, .int (-1), .int 0, .ref h3]))] H := hP
  have hD : va_D A [(h0, .inr (15, [.int 6, .long 0, .int 0, .int 0, .ref h1, .null, .int 0, .int 0, .int 0])), (h2, .inl (g.2.1 6, 10, .inr (.inr (.inr (.inr (va_up (fun _ => none) 0 (some h3))))))), (h1, .inr (2, [.int 1, .ref h2, .int 1])), (q_1, .inr (1, [.int 1, .int 0, .int 1, .ref h1])), (h3, .inr (2, [.int 0, .ref (g.2.2 0), .int 0])), (q_2, .inr (1, [.int 0, .int (-1), .int 0, .ref h3]))] := hD
  refine lv_astore (lv' := [(4, .ref q_2), (3, .ref h3), (2, .ref q_1), (1, .int 1), (0, .ref h0)]) hx hb dX21_isRegular_80 hl (by decide) rfl (fun ls hl => ?_)
  refine lv_aload hx hb dX21_isRegular_82 (lv_at hl 0 rfl) ?_
  have hPc := hP.sub (ws' := [(h3, .inr (2, [.int 0, .ref (g.2.2 0), .int 0])), (q_2, .inr (1, [.int 0, .int (-1), .int 0, .ref h3]))]) [4, 5] rfl
  have hDc := hD.sub (ws' := [(h3, .inr (2, [.int 0, .ref (g.2.2 0), .int 0])), (q_2, .inr (1, [.int 0, .int (-1), .int 0, .ref h3]))]) [4, 5] (by decide) rfl
  have hFc := va_free (wc := [(h3, .inr (2, [.int 0, .ref (g.2.2 0), .int 0])), (q_2, .inr (1, [.int 0, .int (-1), .int 0, .ref h3]))]) hD hS hA [4, 5] rfl
  refine va_callFi (va_runF (As := []) (rest := []) (hK.1 1 _ rfl).2 ⟨hx, hb, hml, hown, hts⟩ (c9_Jx35411_hasNext_aae02_2 l g q_2 h3 _) (va_cwF 0 hts g9_X21_isRegular_1_4 rfl rfl rfl hE.f1 (by decide +kernel) ⟨Nat.le_of_ble_eq_true rfl, Nat.le_of_ble_eq_true rfl⟩) (mPreV (g := g) (wc := [(h3, .inr (2, [.int 0, .ref (g.2.2 0), .int 0])), (q_2, .inr (1, [.int 0, .int (-1), .int 0, .ref h3]))]) (C := RJx35411) (ci := 1) (q0 := 1) hE hS hPc hDc hFc rfl rfl) rfl rfl hl.1 rfl (lv_room (Nat.le_of_ble_eq_true rfl)) dX21_isRegular_84 ⟨Nat.le_of_ble_eq_true rfl, Nat.le_of_ble_eq_true rfl⟩) hS (fun q _ h => hFc q h) hFc (fun r_5 u t H1 locs ht hvm hw hB hz1 hk1 hS => ?_)
  replace hw : 0 = r_5 := Eq.symm hw
  subst hw
  obtain ⟨hP1, hD1⟩ := hB
  rw [ht] at hP1
  obtain ⟨hP, hD⟩ := va_join (wr := [(h0, .inr (15, [.int 6, .long 0, .int 0, .int 0, .ref h1, .null, .int 0, .int 0, .int 0])), (h2, .inl (g.2.1 6, 10, .inr (.inr (.inr (.inr (va_up (fun _ => none) 0 (some h3))))))), (h1, .inr (2, [.int 1, .ref h2, .int 1])), (q_1, .inr (1, [.int 1, .int 0, .int 1, .ref h1]))]) (w1 := [(h3, .inr (2, [.int 0, .ref (g.2.2 0), .int 0])), (q_2, .inr (1, [.int 0, .int (-1), .int 0, .ref h3]))]) hP hD [4, 5] [0, 1, 2, 3] rfl rfl (by decide) (by decide) hk1 hFc hP1 hD1
  clear hP1 hD1 hPc hDc hFc hk1 hz1 hvm ht
  generalize H1 = H at hP hS ⊢
  have hP : va_P g.1 vwCl [(h0, .inr (15, [.int 6, .long 0, .int 0, .int 0, .ref h1, .null, .int 0, .int 0, .int 0])), (h2, .inl (g.2.1 6, 10, .inr (.inr (.inr (.inr (va_up (fun _ => none) 0 (some h3))))))), (h1, .inr (2, [.int 1, .ref h2, .int 1])), (q_1, .inr (1, [.int 1, .int 0, .int 1, .ref h1])), (h3, .inr (2, [.int 0, .ref (g.2.2 0), .int 0])), (q_2, .inr (1, [.int 0, .int (-1), .int 0, .ref h3]))] H := hP
  have hD : va_D A [(h0, .inr (15, [.int 6, .long 0, .int 0, .int 0, .ref h1, .null, .int 0, .int 0, .int 0])), (h2, .inl (g.2.1 6, 10, .inr (.inr (.inr (.inr (va_up (fun _ => none) 0 (some h3))))))), (h1, .inr (2, [.int 1, .ref h2, .int 1])), (q_1, .inr (1, [.int 1, .int 0, .int 1, .ref h1])), (h3, .inr (2, [.int 0, .ref (g.2.2 0), .int 0])), (q_2, .inr (1, [.int 0, .int (-1), .int 0, .ref h3]))] := hD
  refine lv_if_eq (tgt := 115) hx hb dX21_isRegular_89 (by decide) (fun _ => ?_) (fun c9 => absurd (by decide) c9)
  refine lv_goto (tgt := 57) hx hb dX21_isRegular_115 (by decide) ?_
  refine lv_aload_n hx hb dX21_isRegular_57 rfl (lv_at hl 2 rfl) ?_
  have hPc := hP.sub (ws' := [(h1, .inr (2, [.int 1, .ref h2, .int 1])), (q_1, .inr (1, [.int 1, .int 0, .int 1, .ref h1]))]) [2, 3] rfl
  have hDc := hD.sub (ws' := [(h1, .inr (2, [.int 1, .ref h2, .int 1])), (q_1, .inr (1, [.int 1, .int 0, .int 1, .ref h1]))]) [2, 3] (by decide) rfl
  have hFc := va_free (wc := [(h1, .inr (2, [.int 1, .ref h2, .int 1])), (q_1, .inr (1, [.int 1, .int 0, .int 1, .ref h1]))]) hD hS hA [2, 3] rfl
  refine va_callFi (va_runF (As := []) (rest := []) (hK.1 1 _ rfl).2 ⟨hx, hb, hml, hown, hts⟩ (c9_Jx35411_hasNext_aae02_3 l g q_1 h1 h2 _) (va_cwF 0 hts g9_X21_isRegular_1_5 rfl rfl rfl hE.f1 (by decide +kernel) ⟨Nat.le_of_ble_eq_true rfl, Nat.le_of_ble_eq_true rfl⟩) (mPreV (g := g) (wc := [(h1, .inr (2, [.int 1, .ref h2, .int 1])), (q_1, .inr (1, [.int 1, .int 0, .int 1, .ref h1]))]) (C := RJx35411) (ci := 1) (q0 := 1) hE hS hPc hDc hFc rfl rfl) rfl rfl hl.1 rfl (lv_room (Nat.le_of_ble_eq_true rfl)) dX21_isRegular_58 ⟨Nat.le_of_ble_eq_true rfl, Nat.le_of_ble_eq_true rfl⟩) hS (fun q _ h => hFc q h) hFc (fun r_6 u t H1 locs ht hvm hw hB hz1 hk1 hS => ?_)
  replace hw : 0 = r_6 := Eq.symm hw
  subst hw
  obtain ⟨hP1, hD1⟩ := hB
  rw [ht] at hP1
  obtain ⟨hP, hD⟩ := va_join (wr := [(h0, .inr (15, [.int 6, .long 0, .int 0, .int 0, .ref h1, .null, .int 0, .int 0, .int 0])), (h2, .inl (g.2.1 6, 10, .inr (.inr (.inr (.inr (va_up (fun _ => none) 0 (some h3))))))), (h3, .inr (2, [.int 0, .ref (g.2.2 0), .int 0])), (q_2, .inr (1, [.int 0, .int (-1), .int 0, .ref h3]))]) (w1 := [(h1, .inr (2, [.int 1, .ref h2, .int 1])), (q_1, .inr (1, [.int 1, .int 0, .int 1, .ref h1]))]) hP hD [2, 3] [0, 1, 4, 5] rfl rfl (by decide) (by decide) hk1 hFc hP1 hD1
  clear hP1 hD1 hPc hDc hFc hk1 hz1 hvm ht
  generalize H1 = H at hP hS ⊢
  have hP : va_P g.1 vwCl [(h0, .inr (15, [.int 6, .long 0, .int 0, .int 0, .ref h1, .null, .int 0, .int 0, .int 0])), (h2, .inl (g.2.1 6, 10, .inr (.inr (.inr (.inr (va_up (fun _ => none) 0 (some h3))))))), (h3, .inr (2, [.int 0, .ref (g.2.2 0), .int 0])), (q_2, .inr (1, [.int 0, .int (-1), .int 0, .ref h3])), (h1, .inr (2, [.int 1, .ref h2, .int 1])), (q_1, .inr (1, [.int 1, .int 0, .int 1, .ref h1]))] H := hP
  have hD : va_D A [(h0, .inr (15, [.int 6, .long 0, .int 0, .int 0, .ref h1, .null, .int 0, .int 0, .int 0])), (h2, .inl (g.2.1 6, 10, .inr (.inr (.inr (.inr (va_up (fun _ => none) 0 (some h3))))))), (h3, .inr (2, [.int 0, .ref (g.2.2 0), .int 0])), (q_2, .inr (1, [.int 0, .int (-1), .int 0, .ref h3])), (h1, .inr (2, [.int 1, .ref h2, .int 1])), (q_1, .inr (1, [.int 1, .int 0, .int 1, .ref h1]))] := hD
  refine lv_if_eq (tgt := 118) hx hb dX21_isRegular_63 (by decide) (fun _ => ?_) (fun c9 => absurd (by decide) c9)
  refine lv_iload_n hx hb dX21_isRegular_118 rfl (lv_at hl 3 rfl) ?_
  have hP9 := hP.sub (ws' := [(h0, .inr (15, [.int 6, .long 0, .int 0, .int 0, .ref h1, .null, .int 0, .int 0, .int 0])), (h1, .inr (2, [.int 1, .ref h2, .int 1])), (h3, .inr (2, [.int 0, .ref (g.2.2 0), .int 0])), (h2, .inl (g.2.1 6, 10, .inr (.inr (.inr (.inr (va_up (fun _ => none) 0 (some h3)))))))]) [0, 4, 2, 1] rfl
  have hD9 := hD.sub (ws' := [(h0, .inr (15, [.int 6, .long 0, .int 0, .int 0, .ref h1, .null, .int 0, .int 0, .int 0])), (h1, .inr (2, [.int 1, .ref h2, .int 1])), (h3, .inr (2, [.int 0, .ref (g.2.2 0), .int 0])), (h2, .inl (g.2.1 6, 10, .inr (.inr (.inr (.inr (va_up (fun _ => none) 0 (some h3)))))))]) [0, 4, 2, 1] (by decide) rfl
  subst hAe
  exact W.zret (v := 1) hx hb hr (by decide) (fun t ht hW => ⟨⟨1, (), rfl, rfl, by rw [ht]; exact hP9, hD9⟩, hS.F ht⟩) hS.2.2 dX21_isRegular_119
def w9_X21_read_1 : List Cond := [.codeWith yX21_read cX21_read 2 (some (.object "RegexloomModel$Pattern")) [(0, 89, 90, 191)], .classLink RX21 170 RX16, .instantiable RX16 8, .initialized RX16, .fieldLink RX21 81 "RegexloomModel" "draft" "[I", .fieldLink RX21 151 "RegexloomModel" "drafted" "I", .code yX16_init cX16_init 3 none, .methodLink RX16 3 objectInit, .instanceMethod objectInit, .code objectInit ⟨#[0xb1]⟩ 1 none, .classLink RX16 9 RX15, .instantiable RX15 6, .initialized RX15, .code yX15_init cX15_init 1 none, .methodLink RX15 3 objectInit, .classLink RX15 9 "RegexloomModel$Node", .fieldLink RX15 11 "RegexloomModel$Pattern" "byNumber" "[LRegexloomModel$Node;", .instanceMethod yX15_init, .fieldLink RX16 12 "RegexloomModel$Reader" "made" "LRegexloomModel$Pattern;", .fieldLink RX16 18 "RegexloomModel$Reader" "draft" "[I", .fieldLink RX16 22 "RegexloomModel$Reader" "size" "I", .methodLink RX21 172 yX16_init, .instanceMethod yX16_init, .methodLink RX21 174 yX16_all, .instanceMethod yX16_all, .selects RX16 yX16_all yX16_all, .code yX16_all cX16_all 1 (some (.object "RegexloomModel$Pattern")), .classLink RX16 26 RX14, .instantiable RX14 9, .initialized RX14, .code yX14_init cX14_init 2 none, .methodLink RX14 3 objectInit, .classLink RX14 9 RJx4a65c, .instantiable RJx4a65c 3, .initialized RJx4a65c, .code yJx4a65c_init_da8c8 cJx4a65c_init_da8c8 1 none, .code yJxc12de_init_da8c8 cJxc12de_init_da8c8 1 none, .code yJxa1e45_init_da8c8 cJxa1e45_init_da8c8 1 none, .methodLink RJxa1e45 1 objectInit, .initialized RJxa1e45, .methodLink RJxc12de 1 yJxa1e45_init_da8c8, .instanceMethod yJxa1e45_init_da8c8, .fieldLink RJxc12de 7 "java/util/AbstractList" "modCount" "I", .initialized RJxc12de, .methodLink RJx4a65c 1 yJxc12de_init_da8c8, .instanceMethod yJxc12de_init_da8c8, .fieldLink RJx4a65c 39 "java/util/ArrayList" "DEFAULTCAPACITY_EMPTY_ELEMENTDATA" "[Ljava/lang/Object;", .fieldLink RJx4a65c 9 "java/util/ArrayList" "elementData" "[Ljava/lang/Object;", .methodLink RX14 11 yJx4a65c_init_da8c8, .instanceMethod yJx4a65c_init_da8c8, .fieldLink RX14 12 "RegexloomModel$Node" "branches" "Ljava/util/ArrayList;", .fieldLink RX14 18 "RegexloomModel$Node" "kind" "I", .methodLink RX16 28 yX14_init, .instanceMethod yX14_init, .fieldLink RX16 31 "RegexloomModel$Pattern" "whole" "LRegexloomModel$Node;", .methodLink RX16 35 yX16_branches, .instanceMethod yX16_branches, .selects RX16 yX16_branches yX16_branches, .code yX16_branches cX16_branches 8 none, .fieldLink RX16 58 "RegexloomModel$Reader" "groups" "I", .classLink RX16 59 RJx4a65c, .methodLink RX16 61 yJx4a65c_init_da8c8, .fieldLink RX16 39 "RegexloomModel$Reader" "at" "I", .methodLink RX16 73 Lib.Math.max.name, .static Lib.Math.max.name, .initialized "java/lang/Math", .code Lib.Math.max.name Lib.Math.max.code 2 (some .int), .fieldLink RX16 79 "RegexloomModel$Node" "branches" "Ljava/util/ArrayList;", .methodLink RX16 69 yJx4a65c_add_9ea2d, .instanceMethod yJx4a65c_add_9ea2d, .selects RJx4a65c yJx4a65c_add_9ea2d yJx4a65c_add_9ea2d, .code yJx4a65c_add_9ea2d cJx4a65c_add_9ea2d 2 (some .boolean), .fieldLink RJx4a65c 63 "java/util/ArrayList" "modCount" "I", .sameField "java/util/ArrayList" "java/util/AbstractList" "modCount" "I", .fieldLink RJx4a65c 48 "java/util/ArrayList" "size" "I", .methodLink RJx4a65c 131 yJx4a65c_add_72be8, .instanceMethod yJx4a65c_add_72be8, .selects RJx4a65c yJx4a65c_add_72be8 yJx4a65c_add_72be8, .code yJx4a65c_add_72be8 cJx4a65c_add_72be8 4 none, .methodLink RJx4a65c 129 yJx4a65c_grow_d5877, .instanceMethod yJx4a65c_grow_d5877, .selects RJx4a65c yJx4a65c_grow_d5877 yJx4a65c_grow_d5877, .code yJx4a65c_grow_d5877 cJx4a65c_grow_d5877 1 (some (.array (.object "java/lang/Object"))), .methodLink RJx4a65c 69 yJx4a65c_grow_92f84, .instanceMethod yJx4a65c_grow_92f84, .selects RJx4a65c yJx4a65c_grow_92f84 yJx4a65c_grow_92f84, .code yJx4a65c_grow_92f84 cJx4a65c_grow_92f84 4 (some (.array (.object "java/lang/Object"))), .methodLink RJx4a65c 79 Lib.Math.max.name, .classLink RJx4a65c 7 "java/lang/Object", .methodLink RX16 62 yX16_here, .instanceMethod yX16_here, .selects RX16 yX16_here yX16_here, .code yX16_here cX16_here 1 (some .int), .fieldLink RX16 45 "RegexloomModel$Reader" "referred" "I", .fieldLink RX16 48 "RegexloomModel$Reader" "told" "I", .fieldLink RX16 51 "RegexloomModel$Pattern" "groups" "I", .fieldLink RX21 177 "RegexloomModel$Pattern" "byNumber" "[LRegexloomModel$Node;", .fieldLink RX21 181 "RegexloomModel$Pattern" "whole" "LRegexloomModel$Node;", .methodLink RX21 59 yX21_isPlain, .static yX21_isPlain, .initialized RX21, .code yX21_isPlain cX21_isPlain 6 (some .boolean), .fieldLink RX21 16 "RegexloomModel$Node" "kind" "I", .fieldLink RX21 33 "RegexloomModel$Node" "branches" "Ljava/util/ArrayList;", .methodLink RX21 37 yJx4a65c_iterator_32c93, .instanceMethod yJx4a65c_iterator_32c93, .selects RJx4a65c yJx4a65c_iterator_32c93 yJx4a65c_iterator_32c93, .code yJx4a65c_iterator_32c93 cJx4a65c_iterator_32c93 1 (some (.object "java/util/Iterator")), .classLink RJx4a65c 267 RJx35411, .instantiable RJx35411 4, .initialized RJx35411, .code yJx35411_init_45d68 cJx35411_init_45d68 2 none, .fieldLink RJx35411 1 "java/util/ArrayList$Itr" "this$0" "Ljava/util/ArrayList;", .methodLink RJx35411 7 objectInit, .fieldLink RJx35411 13 "java/util/ArrayList$Itr" "lastRet" "I", .fieldLink RJx35411 17 "java/util/ArrayList" "modCount" "I", .fieldLink RJx35411 22 "java/util/ArrayList$Itr" "expectedModCount" "I", .methodLink RJx4a65c 269 yJx35411_init_45d68, .instanceMethod yJx35411_init_45d68, .methodLink RX21 43 ⟨"java/util/Iterator", "hasNext", "()Z"⟩, .selects RJx35411 ⟨"java/util/Iterator", "hasNext", "()Z"⟩ yJx35411_hasNext_aae02, .instanceMethod yJx35411_hasNext_aae02, .code yJx35411_hasNext_aae02 cJx35411_hasNext_aae02 1 (some .boolean), .fieldLink RJx35411 25 "java/util/ArrayList$Itr" "cursor" "I", .methodLink RX21 49 ⟨"java/util/Iterator", "next", "()Ljava/lang/Object;"⟩, .selects RJx35411 ⟨"java/util/Iterator", "next", "()Ljava/lang/Object;"⟩ yJx35411_next_0502b, .instanceMethod yJx35411_next_0502b, .code yJx35411_next_0502b cJx35411_next_0502b 3 (some (.object "java/lang/Object")), .methodLink RJx35411 31 yJx35411_checkForComodification_da8c8, .instanceMethod yJx35411_checkForComodification_da8c8, .selects RJx35411 yJx35411_checkForComodification_da8c8 yJx35411_checkForComodification_da8c8, .code yJx35411_checkForComodification_da8c8 cJx35411_checkForComodification_da8c8 1 none, .fieldLink RJx35411 37 "java/util/ArrayList" "elementData" "[Ljava/lang/Object;", .classLink RX21 38 "java/util/ArrayList", .methodLink RX21 71 yX21_weight, .static yX21_weight, .code yX21_weight cX21_weight 7 (some .long), .constantLong RX21 184 24, .fieldLink RX21 186 "RegexloomModel$Pattern" "isPlain" "Z", .methodLink RX21 62 yX21_isRegular, .static yX21_isRegular, .code yX21_isRegular cX21_isRegular 6 (some .boolean), .fieldLink RX21 189 "RegexloomModel$Pattern" "isRegular" "Z"] ++ (u_ws RX16 TX16 8 ++ u_ws RX21 TX21 32 ++ u_ws RX15 TX15 6 ++ u_ws RX14 TX14 9 ++ u_ws RJx4a65c TJx4a65c 3 ++ u_ws RJx35411 TJx35411 4)
set_option maxRecDepth 20000 in
theorem in9_X21_read_1_RX16 : ∀ w ∈ u_ws RX16 TX16 8, w ∈ w9_X21_read_1 := by decide +kernel
set_option maxRecDepth 20000 in
theorem in9_X21_read_1_RX21 : ∀ w ∈ u_ws RX21 TX21 32, w ∈ w9_X21_read_1 := by decide +kernel
set_option maxRecDepth 20000 in
theorem in9_X21_read_1_RX15 : ∀ w ∈ u_ws RX15 TX15 6, w ∈ w9_X21_read_1 := by decide +kernel
set_option maxRecDepth 20000 in
theorem in9_X21_read_1_RX14 : ∀ w ∈ u_ws RX14 TX14 9, w ∈ w9_X21_read_1 := by decide +kernel
set_option maxRecDepth 20000 in
theorem in9_X21_read_1_RJx4a65c : ∀ w ∈ u_ws RJx4a65c TJx4a65c 3, w ∈ w9_X21_read_1 := by decide +kernel
set_option maxRecDepth 20000 in
theorem in9_X21_read_1_RJx35411 : ∀ w ∈ u_ws RJx35411 TJx35411 4, w ∈ w9_X21_read_1 := by decide +kernel
set_option maxRecDepth 20000 in
theorem g9_X21_read_1_0 : GoodIn w9_X21_read_1 (w9_X16_init_1) := goodIn_r _ [6, 7, 8, 9, 10, 11, 12, 13, 14, 15, 16, 17, 18, 19, 20, 183, 184, 185, 186, 187, 188, 143, 144, 145, 146, 147, 148, 149, 150] (by decide +kernel) (by decide +kernel)
set_option maxRecDepth 20000 in
theorem g9_X21_read_1_1 : GoodIn w9_X21_read_1 (wsV RX21 174 RX16 yX16_all w9_X16_all_1) := goodIn_r _ [23, 24, 25, 3, 26, 18, 27, 28, 29, 30, 31, 8, 9, 32, 33, 34, 35, 36, 37, 38, 39, 40, 41, 42, 43, 44, 45, 46, 47, 48, 49, 50, 51, 52, 53, 54, 55, 56, 57, 3, 58, 59, 60, 61, 62, 20, 63, 64, 65, 66, 67, 68, 69, 70, 71, 72, 73, 74, 75, 76, 77, 78, 79, 80, 81, 82, 83, 84, 85, 86, 87, 88, 89, 90, 91, 92, 93, 94, 95, 143, 144, 145, 146, 147, 148, 149, 150, 189, 190, 191, 192, 193, 194, 195, 196, 197, 198, 199, 200, 183, 184, 185, 186, 187, 188] (by decide +kernel) (by decide +kernel)
set_option maxRecDepth 20000 in
theorem g9_X21_read_1_2 : GoodIn w9_X21_read_1 (va_wsS RX21 59 yX21_isPlain w9_X21_isPlain_1) := goodIn_r _ [98, 99, 100, 101, 102, 103, 104, 105, 106, 34, 107, 108, 109, 110, 111, 112, 113, 8, 9, 114, 115, 73, 116, 117, 118, 119, 120, 121, 122, 123, 124, 125, 126, 127, 128, 129, 130, 131, 132, 133, 189, 190, 191, 192, 193, 194, 195, 196, 197, 201, 202, 203, 204, 198, 199, 200] (by decide +kernel) (by decide +kernel)
set_option maxRecDepth 20000 in
theorem g9_X21_read_1_3 : GoodIn w9_X21_read_1 (va_wsS RX21 71 yX21_weight w9_X21_weight_1) := goodIn_r _ [134, 135, 100, 136, 102, 103, 104, 105, 106, 34, 107, 108, 109, 110, 111, 112, 113, 8, 9, 114, 115, 73, 116, 117, 118, 119, 120, 121, 122, 123, 124, 125, 126, 127, 128, 129, 130, 131, 132, 133, 189, 190, 191, 192, 193, 194, 195, 196, 197, 201, 202, 203, 204, 198, 199, 200] (by decide +kernel) (by decide +kernel)
set_option maxRecDepth 20000 in
theorem g9_X21_read_1_4 : GoodIn w9_X21_read_1 (va_wsS RX21 62 yX21_isRegular w9_X21_isRegular_1) := goodIn_r _ [139, 140, 100, 141, 102, 103, 104, 105, 106, 34, 107, 108, 109, 110, 111, 112, 113, 8, 9, 114, 115, 73, 116, 117, 118, 119, 120, 121, 122, 123, 124, 125, 126, 127, 128, 129, 130, 131, 132, 133, 189, 190, 191, 192, 193, 194, 195, 196, 197, 201, 202, 203, 204, 198, 199, 200] (by decide +kernel) (by decide +kernel)
set_option maxHeartbeats 4000000 in
set_option maxRecDepth 100000 in
theorem c9_X21_read_1 (l : Launch) (g : G9) (h0 h1 h2 h3 h4 h5 h6 h7 h8 h9 h10 h11 h12 h13 h14 h15 h16 sz : Nat) : Met l yX21_read w9_X21_read_1 ({ frames := 7, cells := 13, slots := 70, locals := 151 }) (mP g [(h0, .inr (22, [.int 0, .ref h1, .int 0, .ref h2, .int 0, .ref h3, .int 250, .ref h4, .int 0, .ref h5, .ref h6, .ref h7, .int 0, .ref h8, .ref h9, .ref h10, .int 0, .null, .int 0, .null, .int 0, .int 0, .int 0, .ref h11, .int 0, .ref h12, .ref h13, .ref h14, .int 0, .ref h15, .ref h16, .int 0]))] sz [.ref h0]) (va_Qr (fun _ : Nat × Nat × Nat × Nat × Nat × Nat => True) (fun (u : Nat × Nat × Nat × Nat × Nat × Nat) (ra : Nat) (t : State) => match u with | (q_3, q_2, q_4, q_5, q_6, q_7) => ra = q_2 ∧ mB g [(h0, .inr (22, [.int 0, .ref h1, .int 0, .ref h2, .int 0, .ref h3, .int 250, .ref h4, .int 0, .ref h5, .ref h6, .ref h7, .int 0, .ref h8, .ref h9, .ref h10, .int 0, .null, .int 0, .null, .int 0, .int 0, .int 0, .ref h11, .int 0, .ref h12, .ref h13, .ref h14, .int 0, .ref h15, .ref h16, .int 0]))] sz [(h0, .inr (22, [.int 0, .ref h1, .int 0, .ref h2, .int 0, .ref h3, .int 250, .ref h4, .int 0, .ref h5, .ref h6, .ref h7, .int 0, .ref h8, .ref h9, .ref h10, .int 0, .null, .int 0, .null, .int 0, .int 0, .int 0, .ref h11, .int 0, .ref h12, .ref h13, .ref h14, .int 0, .ref h15, .ref h16, .int 0])), (q_3, .inl (g.2.1 5, 7, .inr (.inr (.inr (.inr (va_up (fun _ => none) 0 (some q_4))))))), (q_2, .inr (16, [.ref q_4, .int 0, .ref q_3, .int 1, .int 1, .null])), (q_4, .inr (15, [.int 6, .long 0, .int 0, .int 0, .ref q_5, .null, .int 0, .int 0, .int 0])), (q_5, .inr (2, [.int 1, .ref q_7, .int 1])), (q_6, .inr (2, [.int 0, .ref (g.2.2 0), .int 0])), (q_7, .inl (g.2.1 6, 10, .inr (.inr (.inr (.inr (va_up (fun _ => none) 0 (some q_6)))))))] t) (va_A [(h0, .inr (22, [.int 0, .ref h1, .int 0, .ref h2, .int 0, .ref h3, .int 250, .ref h4, .int 0, .ref h5, .ref h6, .ref h7, .int 0, .ref h8, .ref h9, .ref h10, .int 0, .null, .int 0, .null, .int 0, .int 0, .int 0, .ref h11, .int 0, .ref h12, .ref h13, .ref h14, .int 0, .ref h15, .ref h16, .int 0]))] sz)) 13 70 (va_A [(h0, .inr (22, [.int 0, .ref h1, .int 0, .ref h2, .int 0, .ref h3, .int 250, .ref h4, .int 0, .ref h5, .ref h6, .ref h7, .int 0, .ref h8, .ref h9, .ref h10, .int 0, .null, .int 0, .null, .int 0, .int 0, .int 0, .ref h11, .int 0, .ref h12, .ref h13, .ref h14, .int 0, .ref h15, .ref h16, .int 0]))] sz) := by
  refine va_MetW (cc := cX21_read) (maxL := 2) (ret := (some (.object "RegexloomModel$Pattern"))) (by decide) rfl ?_
  intro p e s m args below meth c s₁ B hml hv
  obtain ⟨rfl, hsz, hP, hD0, hE⟩ := hv
  have hx := B.exec
  have hb := B.bytes
  have hr := B.returns
  have hts := atoms_spec (ws := w9_X21_read_1) B.pre
  have hown : s.vm.findClass RX21 = some m.cls := findClass_of_methodNamed B.named
  have hlocks := B.notSynchronized
  have htab := vx_table (x := yX21_read) B (hts (.codeWith yX21_read cX21_read 2 (some (.object "RegexloomModel$Pattern")) [(0, 89, 90, 191)]) (List.mem_of_getElem? (i := 0) rfl))
  subst hsz
  have hD := hD0.self (sz := s.heap.size)
  generalize hAe : va_A [(h0, .inr (22, [.int 0, .ref h1, .int 0, .ref h2, .int 0, .ref h3, .int 250, .ref h4, .int 0, .ref h5, .ref h6, .ref h7, .int 0, .ref h8, .ref h9, .ref h10, .int 0, .null, .int 0, .null, .int 0, .int 0, .int 0, .ref h11, .int 0, .ref h12, .ref h13, .ref h14, .int 0, .ref h15, .ref h16, .int 0]))] s.heap.size = A at hD hE ⊢
  have hA : ∀ q : Nat, s.heap.size ≤ q → A q := fun q h => by rw [← hAe]; exact Or.inr h
  have hK := hE.1
  have hS : va_S A s.heap s.heap [] := va_S.rf
  replace hP : va_P g.1 vwCl [(h0, .inr (22, [.int 0, .ref h1, .int 0, .ref h2, .int 0, .ref h3, .int 250, .ref h4, .int 0, .ref h5, .ref h6, .ref h7, .int 0, .ref h8, .ref h9, .ref h10, .int 0, .null, .int 0, .null, .int 0, .int 0, .int 0, .ref h11, .int 0, .ref h12, .ref h13, .ref h14, .int 0, .ref h15, .ref h16, .int 0]))] s.heap := hP
  have hl := lv_entry ([.ref h0]) (n := 2) (Nat.le_of_ble_eq_true rfl)
  rw [lg_entry_eq]
  generalize (lg_sl ([.ref h0]) ++ List.replicate (2 - (lg_sl ([.ref h0])).length) Slot.unset).toArray = ls at hl ⊢
  replace hl : lv_has ls 2 [(0, .ref h0)] := hl
  have hH0 : s.heap.size ≤ s.heap.size := Nat.le_refl _
  refine va_new (ci := 17) (fs := [.null, .int 0, .int 0, .int 0, .int 0, .int 0, .int 0, .null]) (C := RX16) (T := TX16) (N := 8) hx hb hts in9_X21_read_1_RX16 tyX16 tyX16_ok hown (hts (.classLink RX21 170 RX16) (List.mem_of_getElem? (i := 1) rfl)) (hts (.instantiable RX16 8) (List.mem_of_getElem? (i := 2) rfl)) (hts (.initialized RX16) (List.mem_of_getElem? (i := 3) rfl)) hK hP hD hS hA rfl (fun j hj => by rcases (show j = 0 ∨ j = 1 ∨ j = 2 ∨ j = 3 ∨ j = 4 ∨ j = 5 ∨ j = 6 ∨ j = 7 by omega) with rfl | rfl | rfl | rfl | rfl | rfl | rfl | rfl <;> rfl) (Nat.le_of_ble_eq_true rfl) (Nat.le_of_ble_eq_true rfl) dX21_read_0 (fun q_1 H hP hD hS => ?_)
  have hP : va_P g.1 vwCl [(h0, .inr (22, [.int 0, .ref h1, .int 0, .ref h2, .int 0, .ref h3, .int 250, .ref h4, .int 0, .ref h5, .ref h6, .ref h7, .int 0, .ref h8, .ref h9, .ref h10, .int 0, .null, .int 0, .null, .int 0, .int 0, .int 0, .ref h11, .int 0, .ref h12, .ref h13, .ref h14, .int 0, .ref h15, .ref h16, .int 0])), (q_1, .inr (17, [.null, .int 0, .int 0, .int 0, .int 0, .int 0, .int 0, .null]))] H := hP
  have hD : va_D A [(h0, .inr (22, [.int 0, .ref h1, .int 0, .ref h2, .int 0, .ref h3, .int 250, .ref h4, .int 0, .ref h5, .ref h6, .ref h7, .int 0, .ref h8, .ref h9, .ref h10, .int 0, .null, .int 0, .null, .int 0, .int 0, .int 0, .ref h11, .int 0, .ref h12, .ref h13, .ref h14, .int 0, .ref h15, .ref h16, .int 0])), (q_1, .inr (17, [.null, .int 0, .int 0, .int 0, .int 0, .int 0, .int 0, .null]))] := hD
  refine lv_dup hx hb dX21_read_3 rfl ?_
  refine lv_aload_n hx hb dX21_read_4 rfl (lv_at hl 0 rfl) ?_
  refine va_get (D := g.1) (ci := 22) (v := .ref h1) (C := RX21) (T := TX21) (N := 32) hx hb hts in9_X21_read_1_RX21 hown hK hP 0 rfl rfl 1 (by decide) (hts (.fieldLink RX21 81 "RegexloomModel" "draft" "[I") (List.mem_of_getElem? (i := 4) rfl)) (fun _ h9 => h9) rfl dX21_read_5 ?_
  refine lv_aload_n hx hb dX21_read_8 rfl (lv_at hl 0 rfl) ?_
  refine va_get (D := g.1) (ci := 22) (v := .int 0) (C := RX21) (T := TX21) (N := 32) hx hb hts in9_X21_read_1_RX21 hown hK hP 0 rfl rfl 2 (by decide) (hts (.fieldLink RX21 151 "RegexloomModel" "drafted" "I") (List.mem_of_getElem? (i := 5) rfl)) (fun _ h9 => h9) rfl dX21_read_9 ?_
  have hPc := hP.sub (ws' := [(q_1, .inr (17, [.null, .int 0, .int 0, .int 0, .int 0, .int 0, .int 0, .null]))]) [1] rfl
  have hDc := hD.sub (ws' := [(q_1, .inr (17, [.null, .int 0, .int 0, .int 0, .int 0, .int 0, .int 0, .null]))]) [1] (by decide) rfl
  have hFc := va_free (wc := [(q_1, .inr (17, [.null, .int 0, .int 0, .int 0, .int 0, .int 0, .int 0, .null]))]) hD hS hA [1] rfl
  refine va_callv (va_runI (As := [.ref h1, .int 0]) (rest := [.ref q_1]) ⟨hx, hb, hml, hown, hts⟩ (c9_X16_init_1 l g q_1 h1 _) (cwI 2 hts g9_X21_read_1_0 rfl rfl rfl (hts (.initialized RX16) (List.mem_of_getElem? (i := 3) rfl)) (hts (.methodLink RX21 172 yX16_init) (List.mem_of_getElem? (i := 21) rfl)) (hts (.instanceMethod yX16_init) (List.mem_of_getElem? (i := 22) rfl)) rfl (by decide +kernel) ⟨Nat.le_of_ble_eq_true rfl, Nat.le_of_ble_eq_true rfl⟩) (mPreS (g := g) (wc := [(q_1, .inr (17, [.null, .int 0, .int 0, .int 0, .int 0, .int 0, .int 0, .null]))]) hE hS hPc hDc hFc) rfl rfl hl.1 rfl (lv_room (Nat.le_of_ble_eq_true rfl)) dX21_read_12 ⟨Nat.le_of_ble_eq_true rfl, Nat.le_of_ble_eq_true rfl⟩) hS (fun q _ h => hFc q h) hFc (fun u t H1 locs ht hvm hw hB hz1 hk1 hS => ?_)
  obtain ⟨q_2, q_3⟩ := u
  obtain ⟨hP1, hD1⟩ := hB
  rw [ht] at hP1
  obtain ⟨hP, hD⟩ := va_join (wr := [(h0, .inr (22, [.int 0, .ref h1, .int 0, .ref h2, .int 0, .ref h3, .int 250, .ref h4, .int 0, .ref h5, .ref h6, .ref h7, .int 0, .ref h8, .ref h9, .ref h10, .int 0, .null, .int 0, .null, .int 0, .int 0, .int 0, .ref h11, .int 0, .ref h12, .ref h13, .ref h14, .int 0, .ref h15, .ref h16, .int 0]))]) (w1 := [(q_1, .inr (17, [.ref h1, .int 0, .int 0, .int 0, .int 0, .int 0, .int 0, .ref q_2])), (q_2, .inr (16, [.null, .int 0, .ref q_3, .int 0, .int 0, .null])), (q_3, .inl (g.2.1 5, 7, .inr (.inr (.inr (.inr (fun _ => none))))))]) hP hD [1] [0] rfl rfl (by decide) (by decide) hk1 hFc hP1 hD1
  clear hP1 hD1 hPc hDc hFc hk1 hz1 hvm ht
  generalize H1 = H at hP hS ⊢
  have hP : va_P g.1 vwCl [(h0, .inr (22, [.int 0, .ref h1, .int 0, .ref h2, .int 0, .ref h3, .int 250, .ref h4, .int 0, .ref h5, .ref h6, .ref h7, .int 0, .ref h8, .ref h9, .ref h10, .int 0, .null, .int 0, .null, .int 0, .int 0, .int 0, .ref h11, .int 0, .ref h12, .ref h13, .ref h14, .int 0, .ref h15, .ref h16, .int 0])), (q_1, .inr (17, [.ref h1, .int 0, .int 0, .int 0, .int 0, .int 0, .int 0, .ref q_2])), (q_2, .inr (16, [.null, .int 0, .ref q_3, .int 0, .int 0, .null])), (q_3, .inl (g.2.1 5, 7, .inr (.inr (.inr (.inr (fun _ => none))))))] H := hP
  have hD : va_D A [(h0, .inr (22, [.int 0, .ref h1, .int 0, .ref h2, .int 0, .ref h3, .int 250, .ref h4, .int 0, .ref h5, .ref h6, .ref h7, .int 0, .ref h8, .ref h9, .ref h10, .int 0, .null, .int 0, .null, .int 0, .int 0, .int 0, .ref h11, .int 0, .ref h12, .ref h13, .ref h14, .int 0, .ref h15, .ref h16, .int 0])), (q_1, .inr (17, [.ref h1, .int 0, .int 0, .int 0, .int 0, .int 0, .int 0, .ref q_2])), (q_2, .inr (16, [.null, .int 0, .ref q_3, .int 0, .int 0, .null])), (q_3, .inl (g.2.1 5, 7, .inr (.inr (.inr (.inr (fun _ => none))))))] := hD
  have hPc := hP.sub (ws' := [(q_1, .inr (17, [.ref h1, .int 0, .int 0, .int 0, .int 0, .int 0, .int 0, .ref q_2])), (q_2, .inr (16, [.null, .int 0, .ref q_3, .int 0, .int 0, .null]))]) [1, 2] rfl
  have hDc := hD.sub (ws' := [(q_1, .inr (17, [.ref h1, .int 0, .int 0, .int 0, .int 0, .int 0, .int 0, .ref q_2])), (q_2, .inr (16, [.null, .int 0, .ref q_3, .int 0, .int 0, .null]))]) [1, 2] (by decide) rfl
  have hFc := va_free (wc := [(q_1, .inr (17, [.ref h1, .int 0, .int 0, .int 0, .int 0, .int 0, .int 0, .ref q_2])), (q_2, .inr (16, [.null, .int 0, .ref q_3, .int 0, .int 0, .null]))]) hD hS hA [1, 2] rfl
  refine va_callr (va_runV (As := []) (rest := []) ⟨hx, hb, hml, hown, hts⟩ (c9_X16_all_1 l g q_1 h1 q_2 q_3 _) (cwV 0 hts g9_X21_read_1_1 rfl rfl rfl (by decide +kernel) ⟨Nat.le_of_ble_eq_true rfl, Nat.le_of_ble_eq_true rfl⟩) (mPreV (g := g) (wc := [(q_1, .inr (17, [.ref h1, .int 0, .int 0, .int 0, .int 0, .int 0, .int 0, .ref q_2])), (q_2, .inr (16, [.null, .int 0, .ref q_3, .int 0, .int 0, .null]))]) (C := RX16) (ci := 17) (q0 := 0) hE hS hPc hDc hFc rfl rfl) rfl rfl hl.1 rfl (lv_room (Nat.le_of_ble_eq_true rfl)) dX21_read_15 ⟨Nat.le_of_ble_eq_true rfl, Nat.le_of_ble_eq_true rfl⟩) hS (fun q _ h => hFc q h) hFc (fun u r_1 t H1 locs ht hvm hw hB hz1 hk1 hS => ?_)
  obtain ⟨q_4, q_5, q_6, q_7⟩ := u
  obtain ⟨hR1, hP1, hD1⟩ := hB
  replace hR1 : q_2 = r_1 := Eq.symm hR1
  subst hR1
  rw [ht] at hP1
  obtain ⟨hP, hD⟩ := va_join (wr := [(h0, .inr (22, [.int 0, .ref h1, .int 0, .ref h2, .int 0, .ref h3, .int 250, .ref h4, .int 0, .ref h5, .ref h6, .ref h7, .int 0, .ref h8, .ref h9, .ref h10, .int 0, .null, .int 0, .null, .int 0, .int 0, .int 0, .ref h11, .int 0, .ref h12, .ref h13, .ref h14, .int 0, .ref h15, .ref h16, .int 0])), (q_3, .inl (g.2.1 5, 7, .inr (.inr (.inr (.inr (fun _ => none))))))]) (w1 := [(q_1, .inr (17, [.ref h1, .int 0, .int 0, .int 0, .int 0, .int 0, .int 0, .ref q_2])), (q_2, .inr (16, [.ref q_4, .int 0, .ref q_3, .int 0, .int 0, .null])), (q_4, .inr (15, [.int 6, .long 0, .int 0, .int 0, .ref q_5, .null, .int 0, .int 0, .int 0])), (q_5, .inr (2, [.int 1, .ref q_7, .int 1])), (q_6, .inr (2, [.int 0, .ref (g.2.2 0), .int 0])), (q_7, .inl (g.2.1 6, 10, .inr (.inr (.inr (.inr (va_up (fun _ => none) 0 (some q_6)))))))]) hP hD [1, 2] [0, 3] rfl rfl (by decide) (by decide) hk1 hFc hP1 hD1
  clear hP1 hD1 hPc hDc hFc hk1 hz1 hvm ht
  generalize H1 = H at hP hS ⊢
  have hP : va_P g.1 vwCl [(h0, .inr (22, [.int 0, .ref h1, .int 0, .ref h2, .int 0, .ref h3, .int 250, .ref h4, .int 0, .ref h5, .ref h6, .ref h7, .int 0, .ref h8, .ref h9, .ref h10, .int 0, .null, .int 0, .null, .int 0, .int 0, .int 0, .ref h11, .int 0, .ref h12, .ref h13, .ref h14, .int 0, .ref h15, .ref h16, .int 0])), (q_3, .inl (g.2.1 5, 7, .inr (.inr (.inr (.inr (fun _ => none)))))), (q_1, .inr (17, [.ref h1, .int 0, .int 0, .int 0, .int 0, .int 0, .int 0, .ref q_2])), (q_2, .inr (16, [.ref q_4, .int 0, .ref q_3, .int 0, .int 0, .null])), (q_4, .inr (15, [.int 6, .long 0, .int 0, .int 0, .ref q_5, .null, .int 0, .int 0, .int 0])), (q_5, .inr (2, [.int 1, .ref q_7, .int 1])), (q_6, .inr (2, [.int 0, .ref (g.2.2 0), .int 0])), (q_7, .inl (g.2.1 6, 10, .inr (.inr (.inr (.inr (va_up (fun _ => none) 0 (some q_6)))))))] H := hP
  have hD : va_D A [(h0, .inr (22, [.int 0, .ref h1, .int 0, .ref h2, .int 0, .ref h3, .int 250, .ref h4, .int 0, .ref h5, .ref h6, .ref h7, .int 0, .ref h8, .ref h9, .ref h10, .int 0, .null, .int 0, .null, .int 0, .int 0, .int 0, .ref h11, .int 0, .ref h12, .ref h13, .ref h14, .int 0, .ref h15, .ref h16, .int 0])), (q_3, .inl (g.2.1 5, 7, .inr (.inr (.inr (.inr (fun _ => none)))))), (q_1, .inr (17, [.ref h1, .int 0, .int 0, .int 0, .int 0, .int 0, .int 0, .ref q_2])), (q_2, .inr (16, [.ref q_4, .int 0, .ref q_3, .int 0, .int 0, .null])), (q_4, .inr (15, [.int 6, .long 0, .int 0, .int 0, .ref q_5, .null, .int 0, .int 0, .int 0])), (q_5, .inr (2, [.int 1, .ref q_7, .int 1])), (q_6, .inr (2, [.int 0, .ref (g.2.2 0), .int 0])), (q_7, .inl (g.2.1 6, 10, .inr (.inr (.inr (.inr (va_up (fun _ => none) 0 (some q_6)))))))] := hD
  refine lv_astore_n (lv' := [(1, .ref q_2), (0, .ref h0)]) hx hb dX21_read_18 rfl hl (by decide) rfl (fun ls hl => ?_)
  refine lv_aload_n hx hb dX21_read_19 rfl (lv_at hl 0 rfl) ?_
  refine va_get (D := g.1) (ci := 16) (v := .ref q_3) (C := RX15) (T := TX15) (N := 6) hx hb hts in9_X21_read_1_RX15 hown hK hP 3 rfl rfl 2 (by decide) (hts (.fieldLink RX21 177 "RegexloomModel$Pattern" "byNumber" "[LRegexloomModel$Node;") (List.mem_of_getElem? (i := 96) rfl)) (fun _ h9 => h9) rfl dX21_read_20 ?_
  refine lv_iconst (v := 0) hx hb dX21_read_23 (by decide) ?_
  refine lv_aload_n hx hb dX21_read_24 rfl (lv_at hl 0 rfl) ?_
  refine va_get (D := g.1) (ci := 16) (v := .ref q_4) (C := RX15) (T := TX15) (N := 6) hx hb hts in9_X21_read_1_RX15 hown hK hP 3 rfl rfl 0 (by decide) (hts (.fieldLink RX21 181 "RegexloomModel$Pattern" "whole" "LRegexloomModel$Node;") (List.mem_of_getElem? (i := 97) rfl)) (fun _ h9 => h9) rfl dX21_read_25 ?_
  refine va_astq hx hb hK hP hD hS 1 5 4 15 rfl rfl rfl rfl (vp_in_nI (n := 0) (by decide) (by decide)) dX21_read_28 (fun H locs hP hD hS => ?_)
  have hP : va_P g.1 vwCl [(h0, .inr (22, [.int 0, .ref h1, .int 0, .ref h2, .int 0, .ref h3, .int 250, .ref h4, .int 0, .ref h5, .ref h6, .ref h7, .int 0, .ref h8, .ref h9, .ref h10, .int 0, .null, .int 0, .null, .int 0, .int 0, .int 0, .ref h11, .int 0, .ref h12, .ref h13, .ref h14, .int 0, .ref h15, .ref h16, .int 0])), (q_3, .inl (g.2.1 5, 7, .inr (.inr (.inr (.inr (va_up (fun _ => none) 0 (some q_4))))))), (q_1, .inr (17, [.ref h1, .int 0, .int 0, .int 0, .int 0, .int 0, .int 0, .ref q_2])), (q_2, .inr (16, [.ref q_4, .int 0, .ref q_3, .int 0, .int 0, .null])), (q_4, .inr (15, [.int 6, .long 0, .int 0, .int 0, .ref q_5, .null, .int 0, .int 0, .int 0])), (q_5, .inr (2, [.int 1, .ref q_7, .int 1])), (q_6, .inr (2, [.int 0, .ref (g.2.2 0), .int 0])), (q_7, .inl (g.2.1 6, 10, .inr (.inr (.inr (.inr (va_up (fun _ => none) 0 (some q_6)))))))] H := hP
  have hD : va_D A [(h0, .inr (22, [.int 0, .ref h1, .int 0, .ref h2, .int 0, .ref h3, .int 250, .ref h4, .int 0, .ref h5, .ref h6, .ref h7, .int 0, .ref h8, .ref h9, .ref h10, .int 0, .null, .int 0, .null, .int 0, .int 0, .int 0, .ref h11, .int 0, .ref h12, .ref h13, .ref h14, .int 0, .ref h15, .ref h16, .int 0])), (q_3, .inl (g.2.1 5, 7, .inr (.inr (.inr (.inr (va_up (fun _ => none) 0 (some q_4))))))), (q_1, .inr (17, [.ref h1, .int 0, .int 0, .int 0, .int 0, .int 0, .int 0, .ref q_2])), (q_2, .inr (16, [.ref q_4, .int 0, .ref q_3, .int 0, .int 0, .null])), (q_4, .inr (15, [.int 6, .long 0, .int 0, .int 0, .ref q_5, .null, .int 0, .int 0, .int 0])), (q_5, .inr (2, [.int 1, .ref q_7, .int 1])), (q_6, .inr (2, [.int 0, .ref (g.2.2 0), .int 0])), (q_7, .inl (g.2.1 6, 10, .inr (.inr (.inr (.inr (va_up (fun _ => none) 0 (some q_6)))))))] := hD
  refine lv_aload_n hx hb dX21_read_29 rfl (lv_at hl 0 rfl) ?_
  refine lv_aload_n hx hb dX21_read_30 rfl (lv_at hl 0 rfl) ?_
  refine va_get (D := g.1) (ci := 16) (v := .ref q_4) (C := RX15) (T := TX15) (N := 6) hx hb hts in9_X21_read_1_RX15 hown hK hP 3 rfl rfl 0 (by decide) (hts (.fieldLink RX21 181 "RegexloomModel$Pattern" "whole" "LRegexloomModel$Node;") (List.mem_of_getElem? (i := 97) rfl)) (fun _ h9 => h9) rfl dX21_read_31 ?_
  have hPc := hP.sub (ws' := [(q_4, .inr (15, [.int 6, .long 0, .int 0, .int 0, .ref q_5, .null, .int 0, .int 0, .int 0])), (q_5, .inr (2, [.int 1, .ref q_7, .int 1])), (q_6, .inr (2, [.int 0, .ref (g.2.2 0), .int 0])), (q_7, .inl (g.2.1 6, 10, .inr (.inr (.inr (.inr (va_up (fun _ => none) 0 (some q_6)))))))]) [4, 5, 6, 7] rfl
  have hDc := hD.sub (ws' := [(q_4, .inr (15, [.int 6, .long 0, .int 0, .int 0, .ref q_5, .null, .int 0, .int 0, .int 0])), (q_5, .inr (2, [.int 1, .ref q_7, .int 1])), (q_6, .inr (2, [.int 0, .ref (g.2.2 0), .int 0])), (q_7, .inl (g.2.1 6, 10, .inr (.inr (.inr (.inr (va_up (fun _ => none) 0 (some q_6)))))))]) [4, 5, 6, 7] (by decide) rfl
  have hFc := va_free (wc := [(q_4, .inr (15, [.int 6, .long 0, .int 0, .int 0, .ref q_5, .null, .int 0, .int 0, .int 0])), (q_5, .inr (2, [.int 1, .ref q_7, .int 1])), (q_6, .inr (2, [.int 0, .ref (g.2.2 0), .int 0])), (q_7, .inl (g.2.1 6, 10, .inr (.inr (.inr (.inr (va_up (fun _ => none) 0 (some q_6)))))))]) hD hS hA [4, 5, 6, 7] rfl
  refine va_calli (va_runS (As := [.ref q_4]) (rest := [.ref q_2]) ⟨hx, hb, hml, hown, hts⟩ (c9_X21_isPlain_1 l g q_4 q_5 q_7 q_6 _) (va_cwS 1 hts g9_X21_read_1_2 rfl rfl rfl (by decide +kernel) ⟨Nat.le_of_ble_eq_true rfl, Nat.le_of_ble_eq_true rfl⟩) (mPreS (g := g) (wc := [(q_4, .inr (15, [.int 6, .long 0, .int 0, .int 0, .ref q_5, .null, .int 0, .int 0, .int 0])), (q_5, .inr (2, [.int 1, .ref q_7, .int 1])), (q_6, .inr (2, [.int 0, .ref (g.2.2 0), .int 0])), (q_7, .inl (g.2.1 6, 10, .inr (.inr (.inr (.inr (va_up (fun _ => none) 0 (some q_6)))))))]) hE hS hPc hDc hFc) rfl rfl hl.1 rfl (lv_room (Nat.le_of_ble_eq_true rfl)) dX21_read_34 ⟨Nat.le_of_ble_eq_true rfl, Nat.le_of_ble_eq_true rfl⟩) hS (fun q _ h => hFc q h) hFc (fun r_2 u t H1 locs ht hvm hw hB hz1 hk1 hS => ?_)
  replace hw : 1 = r_2 := Eq.symm hw
  subst hw
  obtain ⟨hP1, hD1⟩ := hB
  rw [ht] at hP1
  obtain ⟨hP, hD⟩ := va_join (wr := [(h0, .inr (22, [.int 0, .ref h1, .int 0, .ref h2, .int 0, .ref h3, .int 250, .ref h4, .int 0, .ref h5, .ref h6, .ref h7, .int 0, .ref h8, .ref h9, .ref h10, .int 0, .null, .int 0, .null, .int 0, .int 0, .int 0, .ref h11, .int 0, .ref h12, .ref h13, .ref h14, .int 0, .ref h15, .ref h16, .int 0])), (q_3, .inl (g.2.1 5, 7, .inr (.inr (.inr (.inr (va_up (fun _ => none) 0 (some q_4))))))), (q_1, .inr (17, [.ref h1, .int 0, .int 0, .int 0, .int 0, .int 0, .int 0, .ref q_2])), (q_2, .inr (16, [.ref q_4, .int 0, .ref q_3, .int 0, .int 0, .null]))]) (w1 := [(q_4, .inr (15, [.int 6, .long 0, .int 0, .int 0, .ref q_5, .null, .int 0, .int 0, .int 0])), (q_5, .inr (2, [.int 1, .ref q_7, .int 1])), (q_6, .inr (2, [.int 0, .ref (g.2.2 0), .int 0])), (q_7, .inl (g.2.1 6, 10, .inr (.inr (.inr (.inr (va_up (fun _ => none) 0 (some q_6)))))))]) hP hD [4, 5, 6, 7] [0, 1, 2, 3] rfl rfl (by decide) (by decide) hk1 hFc hP1 hD1
  clear hP1 hD1 hPc hDc hFc hk1 hz1 hvm ht
  generalize H1 = H at hP hS ⊢
  have hP : va_P g.1 vwCl [(h0, .inr (22, [.int 0, .ref h1, .int 0, .ref h2, .int 0, .ref h3, .int 250, .ref h4, .int 0, .ref h5, .ref h6, .ref h7, .int 0, .ref h8, .ref h9, .ref h10, .int 0, .null, .int 0, .null, .int 0, .int 0, .int 0, .ref h11, .int 0, .ref h12, .ref h13, .ref h14, .int 0, .ref h15, .ref h16, .int 0])), (q_3, .inl (g.2.1 5, 7, .inr (.inr (.inr (.inr (va_up (fun _ => none) 0 (some q_4))))))), (q_1, .inr (17, [.ref h1, .int 0, .int 0, .int 0, .int 0, .int 0, .int 0, .ref q_2])), (q_2, .inr (16, [.ref q_4, .int 0, .ref q_3, .int 0, .int 0, .null])), (q_4, .inr (15, [.int 6, .long 0, .int 0, .int 0, .ref q_5, .null, .int 0, .int 0, .int 0])), (q_5, .inr (2, [.int 1, .ref q_7, .int 1])), (q_6, .inr (2, [.int 0, .ref (g.2.2 0), .int 0])), (q_7, .inl (g.2.1 6, 10, .inr (.inr (.inr (.inr (va_up (fun _ => none) 0 (some q_6)))))))] H := hP
  have hD : va_D A [(h0, .inr (22, [.int 0, .ref h1, .int 0, .ref h2, .int 0, .ref h3, .int 250, .ref h4, .int 0, .ref h5, .ref h6, .ref h7, .int 0, .ref h8, .ref h9, .ref h10, .int 0, .null, .int 0, .null, .int 0, .int 0, .int 0, .ref h11, .int 0, .ref h12, .ref h13, .ref h14, .int 0, .ref h15, .ref h16, .int 0])), (q_3, .inl (g.2.1 5, 7, .inr (.inr (.inr (.inr (va_up (fun _ => none) 0 (some q_4))))))), (q_1, .inr (17, [.ref h1, .int 0, .int 0, .int 0, .int 0, .int 0, .int 0, .ref q_2])), (q_2, .inr (16, [.ref q_4, .int 0, .ref q_3, .int 0, .int 0, .null])), (q_4, .inr (15, [.int 6, .long 0, .int 0, .int 0, .ref q_5, .null, .int 0, .int 0, .int 0])), (q_5, .inr (2, [.int 1, .ref q_7, .int 1])), (q_6, .inr (2, [.int 0, .ref (g.2.2 0), .int 0])), (q_7, .inl (g.2.1 6, 10, .inr (.inr (.inr (.inr (va_up (fun _ => none) 0 (some q_6)))))))] := hD
  refine lv_if_eq (tgt := 58) hx hb dX21_read_37 (by decide) (fun c9 => absurd c9 (by decide)) (fun _ => ?_)
  refine lv_aload_n hx hb dX21_read_40 rfl (lv_at hl 0 rfl) ?_
  refine va_get (D := g.1) (ci := 16) (v := .ref q_4) (C := RX15) (T := TX15) (N := 6) hx hb hts in9_X21_read_1_RX15 hown hK hP 3 rfl rfl 0 (by decide) (hts (.fieldLink RX21 181 "RegexloomModel$Pattern" "whole" "LRegexloomModel$Node;") (List.mem_of_getElem? (i := 97) rfl)) (fun _ h9 => h9) rfl dX21_read_41 ?_
  have hPc := hP.sub (ws' := [(q_4, .inr (15, [.int 6, .long 0, .int 0, .int 0, .ref q_5, .null, .int 0, .int 0, .int 0])), (q_5, .inr (2, [.int 1, .ref q_7, .int 1])), (q_6, .inr (2, [.int 0, .ref (g.2.2 0), .int 0])), (q_7, .inl (g.2.1 6, 10, .inr (.inr (.inr (.inr (va_up (fun _ => none) 0 (some q_6)))))))]) [4, 5, 6, 7] rfl
  have hDc := hD.sub (ws' := [(q_4, .inr (15, [.int 6, .long 0, .int 0, .int 0, .ref q_5, .null, .int 0, .int 0, .int 0])), (q_5, .inr (2, [.int 1, .ref q_7, .int 1])), (q_6, .inr (2, [.int 0, .ref (g.2.2 0), .int 0])), (q_7, .inl (g.2.1 6, 10, .inr (.inr (.inr (.inr (va_up (fun _ => none) 0 (some q_6)))))))]) [4, 5, 6, 7] (by decide) rfl
  have hFc := va_free (wc := [(q_4, .inr (15, [.int 6, .long 0, .int 0, .int 0, .ref q_5, .null, .int 0, .int 0, .int 0])), (q_5, .inr (2, [.int 1, .ref q_7, .int 1])), (q_6, .inr (2, [.int 0, .ref (g.2.2 0), .int 0])), (q_7, .inl (g.2.1 6, 10, .inr (.inr (.inr (.inr (va_up (fun _ => none) 0 (some q_6)))))))]) hD hS hA [4, 5, 6, 7] rfl
  refine va_calll (va_runS (As := [.ref q_4]) (rest := [.ref q_2]) ⟨hx, hb, hml, hown, hts⟩ (c9_X21_weight_1 l g q_4 q_5 q_7 q_6 _) (va_cwS 1 hts g9_X21_read_1_3 rfl rfl rfl (by decide +kernel) ⟨Nat.le_of_ble_eq_true rfl, Nat.le_of_ble_eq_true rfl⟩) (mPreS (g := g) (wc := [(q_4, .inr (15, [.int 6, .long 0, .int 0, .int 0, .ref q_5, .null, .int 0, .int 0, .int 0])), (q_5, .inr (2, [.int 1, .ref q_7, .int 1])), (q_6, .inr (2, [.int 0, .ref (g.2.2 0), .int 0])), (q_7, .inl (g.2.1 6, 10, .inr (.inr (.inr (.inr (va_up (fun _ => none) 0 (some q_6)))))))]) hE hS hPc hDc hFc) rfl rfl hl.1 rfl (lv_room (Nat.le_of_ble_eq_true rfl)) dX21_read_44 ⟨Nat.le_of_ble_eq_true rfl, Nat.le_of_ble_eq_true rfl⟩) hS (fun q _ h => hFc q h) hFc (fun r_3 u t H1 locs ht hvm hw hB hz1 hk1 hS => ?_)
  replace hw : 0 = r_3 := Eq.symm hw
  subst hw
  obtain ⟨hP1, hD1⟩ := hB
  rw [ht] at hP1
  obtain ⟨hP, hD⟩ := va_join (wr := [(h0, .inr (22, [.int 0, .ref h1, .int 0, .ref h2, .int 0, .ref h3, .int 250, .ref h4, .int 0, .ref h5, .ref h6, .ref h7, .int 0, .ref h8, .ref h9, .ref h10, .int 0, .null, .int 0, .null, .int 0, .int 0, .int 0, .ref h11, .int 0, .ref h12, .ref h13, .ref h14, .int 0, .ref h15, .ref h16, .int 0])), (q_3, .inl (g.2.1 5, 7, .inr (.inr (.inr (.inr (va_up (fun _ => none) 0 (some q_4))))))), (q_1, .inr (17, [.ref h1, .int 0, .int 0, .int 0, .int 0, .int 0, .int 0, .ref q_2])), (q_2, .inr (16, [.ref q_4, .int 0, .ref q_3, .int 0, .int 0, .null]))]) (w1 := [(q_4, .inr (15, [.int 6, .long 0, .int 0, .int 0, .ref q_5, .null, .int 0, .int 0, .int 0])), (q_5, .inr (2, [.int 1, .ref q_7, .int 1])), (q_6, .inr (2, [.int 0, .ref (g.2.2 0), .int 0])), (q_7, .inl (g.2.1 6, 10, .inr (.inr (.inr (.inr (va_up (fun _ => none) 0 (some q_6)))))))]) hP hD [4, 5, 6, 7] [0, 1, 2, 3] rfl rfl (by decide) (by decide) hk1 hFc hP1 hD1
  clear hP1 hD1 hPc hDc hFc hk1 hz1 hvm ht
  generalize H1 = H at hP hS ⊢
  have hP : va_P g.1 vwCl [(h0, .inr (22, [.int 0, .ref h1, .int 0, .ref h2, .int 0, .ref h3, .int 250, .ref h4, .int 0, .ref h5, .ref h6, .ref h7, .int 0, .ref h8, .ref h9, .ref h10, .int 0, .null, .int 0, .null, .int 0, .int 0, .int 0, .ref h11, .int 0, .ref h12, .ref h13, .ref h14, .int 0, .ref h15, .ref h16, .int 0])), (q_3, .inl (g.2.1 5, 7, .inr (.inr (.inr (.inr (va_up (fun _ => none) 0 (some q_4))))))), (q_1, .inr (17, [.ref h1, .int 0, .int 0, .int 0, .int 0, .int 0, .int 0, .ref q_2])), (q_2, .inr (16, [.ref q_4, .int 0, .ref q_3, .int 0, .int 0, .null])), (q_4, .inr (15, [.int 6, .long 0, .int 0, .int 0, .ref q_5, .null, .int 0, .int 0, .int 0])), (q_5, .inr (2, [.int 1, .ref q_7, .int 1])), (q_6, .inr (2, [.int 0, .ref (g.2.2 0), .int 0])), (q_7, .inl (g.2.1 6, 10, .inr (.inr (.inr (.inr (va_up (fun _ => none) 0 (some q_6)))))))] H := hP
  have hD : va_D A [(h0, .inr (22, [.int 0, .ref h1, .int 0, .ref h2, .int 0, .ref h3, .int 250, .ref h4, .int 0, .ref h5, .ref h6, .ref h7, .int 0, .ref h8, .ref h9, .ref h10, .int 0, .null, .int 0, .null, .int 0, .int 0, .int 0, .ref h11, .int 0, .ref h12, .ref h13, .ref h14, .int 0, .ref h15, .ref h16, .int 0])), (q_3, .inl (g.2.1 5, 7, .inr (.inr (.inr (.inr (va_up (fun _ => none) 0 (some q_4))))))), (q_1, .inr (17, [.ref h1, .int 0, .int 0, .int 0, .int 0, .int 0, .int 0, .ref q_2])), (q_2, .inr (16, [.ref q_4, .int 0, .ref q_3, .int 0, .int 0, .null])), (q_4, .inr (15, [.int 6, .long 0, .int 0, .int 0, .ref q_5, .null, .int 0, .int 0, .int 0])), (q_5, .inr (2, [.int 1, .ref q_7, .int 1])), (q_6, .inr (2, [.int 0, .ref (g.2.2 0), .int 0])), (q_7, .inl (g.2.1 6, 10, .inr (.inr (.inr (.inr (va_up (fun _ => none) 0 (some q_6)))))))] := hD
  refine lv_ldc2 (own := RX21) (v := 24) hx hb hown (hts (.constantLong RX21 184 24) (List.mem_of_getElem? (i := 137) rfl)) dX21_read_47 ?_
  refine W.lcmp hx hb dX21_read_50 ?_
  refine e_top (y := (-1)) (by decide) ?_
  refine lv_if_gt (tgt := 58) hx hb dX21_read_51 (by decide) (fun c9 => absurd c9 (by decide)) (fun _ => ?_)
  refine lv_iconst (v := 1) hx hb dX21_read_54 (by decide) ?_
  refine lv_goto (tgt := 59) hx hb dX21_read_55 (by decide) ?_
  refine va_put (D := g.1) (ci := 16) (v := .int 1) (ty := .boolean) (C := RX15) (T := TX15) (N := 6) hx hb hts in9_X21_read_1_RX15 tyX15 tyX15_ok nmX15 hown hK hP hD hS 3 rfl rfl 3 (by decide) (hts (.fieldLink RX21 186 "RegexloomModel$Pattern" "isPlain" "Z") (List.mem_of_getElem? (i := 138) rfl)) (fun _ h9 => h9) rfl (by decide +kernel) rfl rfl (Nat.le_of_ble_eq_true rfl) dX21_read_59 (fun H locs hP hD hS => ?_)
  have hP : va_P g.1 vwCl [(h0, .inr (22, [.int 0, .ref h1, .int 0, .ref h2, .int 0, .ref h3, .int 250, .ref h4, .int 0, .ref h5, .ref h6, .ref h7, .int 0, .ref h8, .ref h9, .ref h10, .int 0, .null, .int 0, .null, .int 0, .int 0, .int 0, .ref h11, .int 0, .ref h12, .ref h13, .ref h14, .int 0, .ref h15, .ref h16, .int 0])), (q_3, .inl (g.2.1 5, 7, .inr (.inr (.inr (.inr (va_up (fun _ => none) 0 (some q_4))))))), (q_1, .inr (17, [.ref h1, .int 0, .int 0, .int 0, .int 0, .int 0, .int 0, .ref q_2])), (q_2, .inr (16, [.ref q_4, .int 0, .ref q_3, .int 1, .int 0, .null])), (q_4, .inr (15, [.int 6, .long 0, .int 0, .int 0, .ref q_5, .null, .int 0, .int 0, .int 0])), (q_5, .inr (2, [.int 1, .ref q_7, .int 1])), (q_6, .inr (2, [.int 0, .ref (g.2.2 0), .int 0])), (q_7, .inl (g.2.1 6, 10, .inr (.inr (.inr (.inr (va_up (fun _ => none) 0 (some q_6)))))))] H := hP
  have hD : va_D A [(h0, .inr (22, [.int 0, .ref h1, .int 0, .ref h2, .int 0, .ref h3, .int 250, .ref h4, .int 0, .ref h5, .ref h6, .ref h7, .int 0, .ref h8, .ref h9, .ref h10, .int 0, .null, .int 0, .null, .int 0, .int 0, .int 0, .ref h11, .int 0, .ref h12, .ref h13, .ref h14, .int 0, .ref h15, .ref h16, .int 0])), (q_3, .inl (g.2.1 5, 7, .inr (.inr (.inr (.inr (va_up (fun _ => none) 0 (some q_4))))))), (q_1, .inr (17, [.ref h1, .int 0, .int 0, .int 0, .int 0, .int 0, .int 0, .ref q_2])), (q_2, .inr (16, [.ref q_4, .int 0, .ref q_3, .int 1, .int 0, .null])), (q_4, .inr (15, [.int 6, .long 0, .int 0, .int 0, .ref q_5, .null, .int 0, .int 0, .int 0])), (q_5, .inr (2, [.int 1, .ref q_7, .int 1])), (q_6, .inr (2, [.int 0, .ref (g.2.2 0), .int 0])), (q_7, .inl (g.2.1 6, 10, .inr (.inr (.inr (.inr (va_up (fun _ => none) 0 (some q_6)))))))] := hD
  refine lv_aload_n hx hb dX21_read_62 rfl (lv_at hl 0 rfl) ?_
  refine lv_aload_n hx hb dX21_read_63 rfl (lv_at hl 0 rfl) ?_
  refine va_get (D := g.1) (ci := 16) (v := .int 1) (C := RX15) (T := TX15) (N := 6) hx hb hts in9_X21_read_1_RX15 hown hK hP 3 rfl rfl 3 (by decide) (hts (.fieldLink RX21 186 "RegexloomModel$Pattern" "isPlain" "Z") (List.mem_of_getElem? (i := 138) rfl)) (fun _ h9 => h9) rfl dX21_read_64 ?_
  refine lv_if_eq (tgt := 84) hx hb dX21_read_67 (by decide) (fun c9 => absurd c9 (by decide)) (fun _ => ?_)
  refine lv_aload_n hx hb dX21_read_70 rfl (lv_at hl 0 rfl) ?_
  refine va_get (D := g.1) (ci := 16) (v := .ref q_4) (C := RX15) (T := TX15) (N := 6) hx hb hts in9_X21_read_1_RX15 hown hK hP 3 rfl rfl 0 (by decide) (hts (.fieldLink RX21 181 "RegexloomModel$Pattern" "whole" "LRegexloomModel$Node;") (List.mem_of_getElem? (i := 97) rfl)) (fun _ h9 => h9) rfl dX21_read_71 ?_
  have hPc := hP.sub (ws' := [(q_4, .inr (15, [.int 6, .long 0, .int 0, .int 0, .ref q_5, .null, .int 0, .int 0, .int 0])), (q_5, .inr (2, [.int 1, .ref q_7, .int 1])), (q_6, .inr (2, [.int 0, .ref (g.2.2 0), .int 0])), (q_7, .inl (g.2.1 6, 10, .inr (.inr (.inr (.inr (va_up (fun _ => none) 0 (some q_6)))))))]) [4, 5, 6, 7] rfl
  have hDc := hD.sub (ws' := [(q_4, .inr (15, [.int 6, .long 0, .int 0, .int 0, .ref q_5, .null, .int 0, .int 0, .int 0])), (q_5, .inr (2, [.int 1, .ref q_7, .int 1])), (q_6, .inr (2, [.int 0, .ref (g.2.2 0), .int 0])), (q_7, .inl (g.2.1 6, 10, .inr (.inr (.inr (.inr (va_up (fun _ => none) 0 (some q_6)))))))]) [4, 5, 6, 7] (by decide) rfl
  have hFc := va_free (wc := [(q_4, .inr (15, [.int 6, .long 0, .int 0, .int 0, .ref q_5, .null, .int 0, .int 0, .int 0])), (q_5, .inr (2, [.int 1, .ref q_7, .int 1])), (q_6, .inr (2, [.int 0, .ref (g.2.2 0), .int 0])), (q_7, .inl (g.2.1 6, 10, .inr (.inr (.inr (.inr (va_up (fun _ => none) 0 (some q_6)))))))]) hD hS hA [4, 5, 6, 7] rfl
  refine va_calli (va_runS (As := [.ref q_4]) (rest := [.ref q_2]) ⟨hx, hb, hml, hown, hts⟩ (c9_X21_isRegular_1 l g q_4 q_5 q_7 q_6 _) (va_cwS 1 hts g9_X21_read_1_4 rfl rfl rfl (by decide +kernel) ⟨Nat.le_of_ble_eq_true rfl, Nat.le_of_ble_eq_true rfl⟩) (mPreS (g := g) (wc := [(q_4, .inr (15, [.int 6, .long 0, .int 0, .int 0, .ref q_5, .null, .int 0, .int 0, .int 0])), (q_5, .inr (2, [.int 1, .ref q_7, .int 1])), (q_6, .inr (2, [.int 0, .ref (g.2.2 0), .int 0])), (q_7, .inl (g.2.1 6, 10, .inr (.inr (.inr (.inr (va_up (fun _ => none) 0 (some q_6)))))))]) hE hS hPc hDc hFc) rfl rfl hl.1 rfl (lv_room (Nat.le_of_ble_eq_true rfl)) dX21_read_74 ⟨Nat.le_of_ble_eq_true rfl, Nat.le_of_ble_eq_true rfl⟩) hS (fun q _ h => hFc q h) hFc (fun r_4 u t H1 locs ht hvm hw hB hz1 hk1 hS => ?_)
  replace hw : 1 = r_4 := Eq.symm hw
  subst hw
  obtain ⟨hP1, hD1⟩ := hB
  rw [ht] at hP1
  obtain ⟨hP, hD⟩ := va_join (wr := [(h0, .inr (22, [.int 0, .ref h1, .int 0, .ref h2, .int 0, .ref h3, .int 250, .ref h4, .int 0, .ref h5, .ref h6, .ref h7, .int 0, .ref h8, .ref h9, .ref h10, .int 0, .null, .int 0, .null, .int 0, .int 0, .int 0, .ref h11, .int 0, .ref h12, .ref h13, .ref h14, .int 0, .ref h15, .ref h16, .int 0])), (q_3, .inl (g.2.1 5, 7, .inr (.inr (.inr (.inr (va_up (fun _ => none) 0 (some q_4))))))), (q_1, .inr (17, [.ref h1, .int 0, .int 0, .int 0, .int 0, .int 0, .int 0, .ref q_2])), (q_2, .inr (16, [.ref q_4, .int 0, .ref q_3, .int 1, .int 0, .null]))]) (w1 := [(q_4, .inr (15, [.int 6, .long 0, .int 0, .int 0, .ref q_5, .null, .int 0, .int 0, .int 0])), (q_5, .inr (2, [.int 1, .ref q_7, .int 1])), (q_6, .inr (2, [.int 0, .ref (g.2.2 0), .int 0])), (q_7, .inl (g.2.1 6, 10, .inr (.inr (.inr (.inr (va_up (fun _ => none) 0 (some q_6)))))))]) hP hD [4, 5, 6, 7] [0, 1, 2, 3] rfl rfl (by decide) (by decide) hk1 hFc hP1 hD1
  clear hP1 hD1 hPc hDc hFc hk1 hz1 hvm ht
  generalize H1 = H at hP hS ⊢
  have hP : va_P g.1 vwCl [(h0, .inr (22, [.int 0, .ref h1, .int 0, .ref h2, .int 0, .ref h3, .int 250, .ref h4, .int 0, .ref h5, .ref h6, .ref h7, .int 0, .ref h8, .ref h9, .ref h10, .int 0, .null, .int 0, .null, .int 0, .int 0, .int 0, .ref h11, .int 0, .ref h12, .ref h13, .ref h14, .int 0, .ref h15, .ref h16, .int 0])), (q_3, .inl (g.2.1 5, 7, .inr (.inr (.inr (.inr (va_up (fun _ => none) 0 (some q_4))))))), (q_1, .inr (17, [.ref h1, .int 0, .int 0, .int 0, .int 0, .int 0, .int 0, .ref q_2])), (q_2, .inr (16, [.ref q_4, .int 0, .ref q_3, .int 1, .int 0, .null])), (q_4, .inr (15, [.int 6, .long 0, .int 0, .int 0, .ref q_5, .null, .int 0, .int 0, .int 0])), (q_5, .inr (2, [.int 1, .ref q_7, .int 1])), (q_6, .inr (2, [.int 0, .ref (g.2.2 0), .int 0])), (q_7, .inl (g.2.1 6, 10, .inr (.inr (.inr (.inr (va_up (fun _ => none) 0 (some q_6)))))))] H := hP
  have hD : va_D A [(h0, .inr (22, [.int 0, .ref h1, .int 0, .ref h2, .int 0, .ref h3, .int 250, .ref h4, .int 0, .ref h5, .ref h6, .ref h7, .int 0, .ref h8, .ref h9, .ref h10, .int 0, .null, .int 0, .null, .int 0, .int 0, .int 0, .ref h11, .int 0, .ref h12, .ref h13, .ref h14, .int 0, .ref h15, .ref h16, .int 0])), (q_3, .inl (g.2.1 5, 7, .inr (.inr (.inr (.inr (va_up (fun _ => none) 0 (some q_4))))))), (q_1, .inr (17, [.ref h1, .int 0, .int 0, .int 0, .int 0, .int 0, .int 0, .ref q_2])), (q_2, .inr (16, [.ref q_4, .int 0, .ref q_3, .int 1, .int 0, .null])), (q_4, .inr (15, [.int 6, .long 0, .int 0, .int 0, .ref q_5, .null, .int 0, .int 0, .int 0])), (q_5, .inr (2, [.int 1, .ref q_7, .int 1])), (q_6, .inr (2, [.int 0, .ref (g.2.2 0), .int 0])), (q_7, .inl (g.2.1 6, 10, .inr (.inr (.inr (.inr (va_up (fun _ => none) 0 (some q_6)))))))] := hD
  refine lv_if_eq (tgt := 84) hx hb dX21_read_77 (by decide) (fun c9 => absurd c9 (by decide)) (fun _ => ?_)
  refine lv_iconst (v := 1) hx hb dX21_read_80 (by decide) ?_
  refine lv_goto (tgt := 85) hx hb dX21_read_81 (by decide) ?_
  refine va_put (D := g.1) (ci := 16) (v := .int 1) (ty := .boolean) (C := RX15) (T := TX15) (N := 6) hx hb hts in9_X21_read_1_RX15 tyX15 tyX15_ok nmX15 hown hK hP hD hS 3 rfl rfl 4 (by decide) (hts (.fieldLink RX21 189 "RegexloomModel$Pattern" "isRegular" "Z") (List.mem_of_getElem? (i := 142) rfl)) (fun _ h9 => h9) rfl (by decide +kernel) rfl rfl (Nat.le_of_ble_eq_true rfl) dX21_read_85 (fun H locs hP hD hS => ?_)
  have hP : va_P g.1 vwCl [(h0, .inr (22, [.int 0, .ref h1, .int 0, .ref h2, .int 0, .ref h3, .int 250, .ref h4, .int 0, .ref h5, .ref h6, .ref h7, .int 0, .ref h8, .ref h9, .ref h10, .int 0, .null, .int 0, .null, .int 0, .int 0, .int 0, .ref h11, .int 0, .ref h12, .ref h13, .ref h14, .int 0, .ref h15, .ref h16, .int 0])), (q_3, .inl (g.2.1 5, 7, .inr (.inr (.inr (.inr (va_up (fun _ => none) 0 (some q_4))))))), (q_1, .inr (17, [.ref h1, .int 0, .int 0, .int 0, .int 0, .int 0, .int 0, .ref q_2])), (q_2, .inr (16, [.ref q_4, .int 0, .ref q_3, .int 1, .int 1, .null])), (q_4, .inr (15, [.int 6, .long 0, .int 0, .int 0, .ref q_5, .null, .int 0, .int 0, .int 0])), (q_5, .inr (2, [.int 1, .ref q_7, .int 1])), (q_6, .inr (2, [.int 0, .ref (g.2.2 0), .int 0])), (q_7, .inl (g.2.1 6, 10, .inr (.inr (.inr (.inr (va_up (fun _ => none) 0 (some q_6)))))))] H := hP
  have hD : va_D A [(h0, .inr (22, [.int 0, .ref h1, .int 0, .ref h2, .int 0, .ref h3, .int 250, .ref h4, .int 0, .ref h5, .ref h6, .ref h7, .int 0, .ref h8, .ref h9, .ref h10, .int 0, .null, .int 0, .null, .int 0, .int 0, .int 0, .ref h11, .int 0, .ref h12, .ref h13, .ref h14, .int 0, .ref h15, .ref h16, .int 0])), (q_3, .inl (g.2.1 5, 7, .inr (.inr (.inr (.inr (va_up (fun _ => none) 0 (some q_4))))))), (q_1, .inr (17, [.ref h1, .int 0, .int 0, .int 0, .int 0, .int 0, .int 0, .ref q_2])), (q_2, .inr (16, [.ref q_4, .int 0, .ref q_3, .int 1, .int 1, .null])), (q_4, .inr (15, [.int 6, .long 0, .int 0, .int 0, .ref q_5, .null, .int 0, .int 0, .int 0])), (q_5, .inr (2, [.int 1, .ref q_7, .int 1])), (q_6, .inr (2, [.int 0, .ref (g.2.2 0), .int 0])), (q_7, .inl (g.2.1 6, 10, .inr (.inr (.inr (.inr (va_up (fun _ => none) 0 (some q_6)))))))] := hD
  refine lv_aload_n hx hb dX21_read_88 rfl (lv_at hl 0 rfl) ?_
  have hP9 := hP.sub (ws' := [(h0, .inr (22, [.int 0, .ref h1, .int 0, .ref h2, .int 0, .ref h3, .int 250, .ref h4, .int 0, .ref h5, .ref h6, .ref h7, .int 0, .ref h8, .ref h9, .ref h10, .int 0, .null, .int 0, .null, .int 0, .int 0, .int 0, .ref h11, .int 0, .ref h12, .ref h13, .ref h14, .int 0, .ref h15, .ref h16, .int 0])), (q_3, .inl (g.2.1 5, 7, .inr (.inr (.inr (.inr (va_up (fun _ => none) 0 (some q_4))))))), (q_2, .inr (16, [.ref q_4, .int 0, .ref q_3, .int 1, .int 1, .null])), (q_4, .inr (15, [.int 6, .long 0, .int 0, .int 0, .ref q_5, .null, .int 0, .int 0, .int 0])), (q_5, .inr (2, [.int 1, .ref q_7, .int 1])), (q_6, .inr (2, [.int 0, .ref (g.2.2 0), .int 0])), (q_7, .inl (g.2.1 6, 10, .inr (.inr (.inr (.inr (va_up (fun _ => none) 0 (some q_6)))))))]) [0, 1, 3, 4, 5, 6, 7] rfl
  have hD9 := hD.sub (ws' := [(h0, .inr (22, [.int 0, .ref h1, .int 0, .ref h2, .int 0, .ref h3, .int 250, .ref h4, .int 0, .ref h5, .ref h6, .ref h7, .int 0, .ref h8, .ref h9, .ref h10, .int 0, .null, .int 0, .null, .int 0, .int 0, .int 0, .ref h11, .int 0, .ref h12, .ref h13, .ref h14, .int 0, .ref h15, .ref h16, .int 0])), (q_3, .inl (g.2.1 5, 7, .inr (.inr (.inr (.inr (va_up (fun _ => none) 0 (some q_4))))))), (q_2, .inr (16, [.ref q_4, .int 0, .ref q_3, .int 1, .int 1, .null])), (q_4, .inr (15, [.int 6, .long 0, .int 0, .int 0, .ref q_5, .null, .int 0, .int 0, .int 0])), (q_5, .inr (2, [.int 1, .ref q_7, .int 1])), (q_6, .inr (2, [.int 0, .ref (g.2.2 0), .int 0])), (q_7, .inl (g.2.1 6, 10, .inr (.inr (.inr (.inr (va_up (fun _ => none) 0 (some q_6)))))))]) [0, 1, 3, 4, 5, 6, 7] (by decide) rfl
  subst hAe
  exact W.aret (v := .ref q_2) hx hb hr (by first | exact Or.inl ⟨_, rfl⟩ | exact Or.inr ⟨_, rfl⟩) (Or.inr ⟨_, rfl⟩) (fun t ht hW => ⟨⟨(q_3, q_2, q_4, q_5, q_6, q_7), q_2, rfl, trivial, rfl, by rw [ht]; exact hP9, hD9⟩, hS.F ht⟩) hS.2.2 dX21_read_89
def w9_X21_tell_3 : List Cond := [.code yX21_tell cX21_tell 4 (some .int), .methodLink RX21 160 yX21_in, .static yX21_in, .initialized RX21, .code yX21_in cX21_in 3 (some .boolean), .methodLink RX21 164 yX21_read, .instanceMethod yX21_read, .selects RX21 yX21_read yX21_read, .codeWith yX21_read cX21_read 2 (some (.object "RegexloomModel$Pattern")) [(0, 89, 90, 191)], .classLink RX21 170 RX16, .instantiable RX16 8, .initialized RX16, .fieldLink RX21 81 "RegexloomModel" "draft" "[I", .fieldLink RX21 151 "RegexloomModel" "drafted" "I", .code yX16_init cX16_init 3 none, .methodLink RX16 3 objectInit, .instanceMethod objectInit, .code objectInit ⟨#[0xb1]⟩ 1 none, .classLink RX16 9 RX15, .instantiable RX15 6, .initialized RX15, .code yX15_init cX15_init 1 none, .methodLink RX15 3 objectInit, .classLink RX15 9 "RegexloomModel$Node", .fieldLink RX15 11 "RegexloomModel$Pattern" "byNumber" "[LRegexloomModel$Node;", .instanceMethod yX15_init, .fieldLink RX16 12 "RegexloomModel$Reader" "made" "LRegexloomModel$Pattern;", .fieldLink RX16 18 "RegexloomModel$Reader" "draft" "[I", .fieldLink RX16 22 "RegexloomModel$Reader" "size" "I", .methodLink RX21 172 yX16_init, .instanceMethod yX16_init, .methodLink RX21 174 yX16_all, .instanceMethod yX16_all, .selects RX16 yX16_all yX16_all, .code yX16_all cX16_all 1 (some (.object "RegexloomModel$Pattern")), .classLink RX16 26 RX14, .instantiable RX14 9, .initialized RX14, .code yX14_init cX14_init 2 none, .methodLink RX14 3 objectInit, .classLink RX14 9 RJx4a65c, .instantiable RJx4a65c 3, .initialized RJx4a65c, .code yJx4a65c_init_da8c8 cJx4a65c_init_da8c8 1 none, .code yJxc12de_init_da8c8 cJxc12de_init_da8c8 1 none, .code yJxa1e45_init_da8c8 cJxa1e45_init_da8c8 1 none, .methodLink RJxa1e45 1 objectInit, .initialized RJxa1e45, .methodLink RJxc12de 1 yJxa1e45_init_da8c8, .instanceMethod yJxa1e45_init_da8c8, .fieldLink RJxc12de 7 "java/util/AbstractList" "modCount" "I", .initialized RJxc12de, .methodLink RJx4a65c 1 yJxc12de_init_da8c8, .instanceMethod yJxc12de_init_da8c8, .fieldLink RJx4a65c 39 "java/util/ArrayList" "DEFAULTCAPACITY_EMPTY_ELEMENTDATA" "[Ljava/lang/Object;", .fieldLink RJx4a65c 9 "java/util/ArrayList" "elementData" "[Ljava/lang/Object;", .methodLink RX14 11 yJx4a65c_init_da8c8, .instanceMethod yJx4a65c_init_da8c8, .fieldLink RX14 12 "RegexloomModel$Node" "branches" "Ljava/util/ArrayList;", .fieldLink RX14 18 "RegexloomModel$Node" "kind" "I", .methodLink RX16 28 yX14_init, .instanceMethod yX14_init, .fieldLink RX16 31 "RegexloomModel$Pattern" "whole" "LRegexloomModel$Node;", .methodLink RX16 35 yX16_branches, .instanceMethod yX16_branches, .selects RX16 yX16_branches yX16_branches, .code yX16_branches cX16_branches 8 none, .fieldLink RX16 58 "RegexloomModel$Reader" "groups" "I", .classLink RX16 59 RJx4a65c, .methodLink RX16 61 yJx4a65c_init_da8c8, .fieldLink RX16 39 "RegexloomModel$Reader" "at" "I", .methodLink RX16 73 Lib.Math.max.name, .static Lib.Math.max.name, .initialized "java/lang/Math", .code Lib.Math.max.name Lib.Math.max.code 2 (some .int), .fieldLink RX16 79 "RegexloomModel$Node" "branches" "Ljava/util/ArrayList;", .methodLink RX16 69 yJx4a65c_add_9ea2d, .instanceMethod yJx4a65c_add_9ea2d, .selects RJx4a65c yJx4a65c_add_9ea2d yJx4a65c_add_9ea2d, .code yJx4a65c_add_9ea2d cJx4a65c_add_9ea2d 2 (some .boolean), .fieldLink RJx4a65c 63 "java/util/ArrayList" "modCount" "I", .sameField "java/util/ArrayList" "java/util/AbstractList" "modCount" "I", .fieldLink RJx4a65c 48 "java/util/ArrayList" "size" "I", .methodLink RJx4a65c 131 yJx4a65c_add_72be8, .instanceMethod yJx4a65c_add_72be8, .selects RJx4a65c yJx4a65c_add_72be8 yJx4a65c_add_72be8, .code yJx4a65c_add_72be8 cJx4a65c_add_72be8 4 none, .methodLink RJx4a65c 129 yJx4a65c_grow_d5877, .instanceMethod yJx4a65c_grow_d5877, .selects RJx4a65c yJx4a65c_grow_d5877 yJx4a65c_grow_d5877, .code yJx4a65c_grow_d5877 cJx4a65c_grow_d5877 1 (some (.array (.object "java/lang/Object"))), .methodLink RJx4a65c 69 yJx4a65c_grow_92f84, .instanceMethod yJx4a65c_grow_92f84, .selects RJx4a65c yJx4a65c_grow_92f84 yJx4a65c_grow_92f84, .code yJx4a65c_grow_92f84 cJx4a65c_grow_92f84 4 (some (.array (.object "java/lang/Object"))), .methodLink RJx4a65c 79 Lib.Math.max.name, .classLink RJx4a65c 7 "java/lang/Object", .methodLink RX16 62 yX16_here, .instanceMethod yX16_here, .selects RX16 yX16_here yX16_here, .code yX16_here cX16_here 1 (some .int), .fieldLink RX16 45 "RegexloomModel$Reader" "referred" "I", .fieldLink RX16 48 "RegexloomModel$Reader" "told" "I", .fieldLink RX16 51 "RegexloomModel$Pattern" "groups" "I", .fieldLink RX21 177 "RegexloomModel$Pattern" "byNumber" "[LRegexloomModel$Node;", .fieldLink RX21 181 "RegexloomModel$Pattern" "whole" "LRegexloomModel$Node;", .methodLink RX21 59 yX21_isPlain, .static yX21_isPlain, .code yX21_isPlain cX21_isPlain 6 (some .boolean), .fieldLink RX21 16 "RegexloomModel$Node" "kind" "I", .fieldLink RX21 33 "RegexloomModel$Node" "branches" "Ljava/util/ArrayList;", .methodLink RX21 37 yJx4a65c_iterator_32c93, .instanceMethod yJx4a65c_iterator_32c93, .selects RJx4a65c yJx4a65c_iterator_32c93 yJx4a65c_iterator_32c93, .code yJx4a65c_iterator_32c93 cJx4a65c_iterator_32c93 1 (some (.object "java/util/Iterator")), .classLink RJx4a65c 267 RJx35411, .instantiable RJx35411 4, .initialized RJx35411, .code yJx35411_init_45d68 cJx35411_init_45d68 2 none, .fieldLink RJx35411 1 "java/util/ArrayList$Itr" "this$0" "Ljava/util/ArrayList;", .methodLink RJx35411 7 objectInit, .fieldLink RJx35411 13 "java/util/ArrayList$Itr" "lastRet" "I", .fieldLink RJx35411 17 "java/util/ArrayList" "modCount" "I", .fieldLink RJx35411 22 "java/util/ArrayList$Itr" "expectedModCount" "I", .methodLink RJx4a65c 269 yJx35411_init_45d68, .instanceMethod yJx35411_init_45d68, .methodLink RX21 43 ⟨"java/util/Iterator", "hasNext", "()Z"⟩, .selects RJx35411 ⟨"java/util/Iterator", "hasNext", "()Z"⟩ yJx35411_hasNext_aae02, .instanceMethod yJx35411_hasNext_aae02, .code yJx35411_hasNext_aae02 cJx35411_hasNext_aae02 1 (some .boolean), .fieldLink RJx35411 25 "java/util/ArrayList$Itr" "cursor" "I", .methodLink RX21 49 ⟨"java/util/Iterator", "next", "()Ljava/lang/Object;"⟩, .selects RJx35411 ⟨"java/util/Iterator", "next", "()Ljava/lang/Object;"⟩ yJx35411_next_0502b, .instanceMethod yJx35411_next_0502b, .code yJx35411_next_0502b cJx35411_next_0502b 3 (some (.object "java/lang/Object")), .methodLink RJx35411 31 yJx35411_checkForComodification_da8c8, .instanceMethod yJx35411_checkForComodification_da8c8, .selects RJx35411 yJx35411_checkForComodification_da8c8 yJx35411_checkForComodification_da8c8, .code yJx35411_checkForComodification_da8c8 cJx35411_checkForComodification_da8c8 1 none, .fieldLink RJx35411 37 "java/util/ArrayList" "elementData" "[Ljava/lang/Object;", .classLink RX21 38 "java/util/ArrayList", .methodLink RX21 71 yX21_weight, .static yX21_weight, .code yX21_weight cX21_weight 7 (some .long), .constantLong RX21 184 24, .fieldLink RX21 186 "RegexloomModel$Pattern" "isPlain" "Z", .methodLink RX21 62 yX21_isRegular, .static yX21_isRegular, .code yX21_isRegular cX21_isRegular 6 (some .boolean), .fieldLink RX21 189 "RegexloomModel$Pattern" "isRegular" "Z", .methodLink RX21 154 yX21_refused, .instanceMethod yX21_refused, .selects RX21 yX21_refused yX21_refused, .code yX21_refused cX21_refused 2 (some .boolean), .fieldLink RX21 144 "RegexloomModel" "refusal" "I", .fieldLink RX21 90 "RegexloomModel" "patterns" "[LRegexloomModel$Pattern;", .fieldLink RX21 168 "RegexloomModel$Pattern" "groups" "I"] ++ (u_ws RX16 TX16 8 ++ u_ws RX21 TX21 32 ++ u_ws RX15 TX15 6 ++ u_ws RX14 TX14 9 ++ u_ws RJx4a65c TJx4a65c 3 ++ u_ws RJx35411 TJx35411 4)
set_option maxRecDepth 20000 in
theorem in9_X21_tell_3_RX16 : ∀ w ∈ u_ws RX16 TX16 8, w ∈ w9_X21_tell_3 := by decide +kernel
set_option maxRecDepth 20000 in
theorem in9_X21_tell_3_RX21 : ∀ w ∈ u_ws RX21 TX21 32, w ∈ w9_X21_tell_3 := by decide +kernel
set_option maxRecDepth 20000 in
theorem in9_X21_tell_3_RX15 : ∀ w ∈ u_ws RX15 TX15 6, w ∈ w9_X21_tell_3 := by decide +kernel
set_option maxRecDepth 20000 in
theorem in9_X21_tell_3_RX14 : ∀ w ∈ u_ws RX14 TX14 9, w ∈ w9_X21_tell_3 := by decide +kernel
set_option maxRecDepth 20000 in
theorem in9_X21_tell_3_RJx4a65c : ∀ w ∈ u_ws RJx4a65c TJx4a65c 3, w ∈ w9_X21_tell_3 := by decide +kernel
set_option maxRecDepth 20000 in
theorem in9_X21_tell_3_RJx35411 : ∀ w ∈ u_ws RJx35411 TJx35411 4, w ∈ w9_X21_tell_3 := by decide +kernel
set_option maxRecDepth 20000 in
theorem g9_X21_tell_3_0 : GoodIn w9_X21_tell_3 (va_wsS RX21 160 yX21_in w9_X21_in_3) := goodIn_r _ [1, 2, 3, 4] (by decide +kernel) (by decide +kernel)
set_option maxRecDepth 20000 in
theorem g9_X21_tell_3_1 : GoodIn w9_X21_tell_3 (wsV RX21 164 RX21 yX21_read w9_X21_read_1) := goodIn_r _ [5, 6, 7, 3, 8, 9, 10, 11, 12, 13, 14, 15, 16, 17, 18, 19, 20, 21, 22, 23, 24, 25, 26, 27, 28, 29, 30, 31, 32, 33, 34, 35, 36, 37, 38, 39, 40, 41, 42, 43, 44, 45, 46, 47, 48, 49, 50, 51, 52, 53, 54, 55, 56, 57, 58, 59, 60, 61, 62, 63, 64, 65, 66, 67, 68, 69, 70, 71, 72, 73, 74, 75, 76, 77, 78, 79, 80, 81, 82, 83, 84, 85, 86, 87, 88, 89, 90, 91, 92, 93, 94, 95, 96, 97, 98, 99, 100, 101, 102, 103, 104, 105, 106, 107, 3, 108, 109, 110, 111, 112, 113, 114, 115, 116, 117, 118, 119, 120, 121, 122, 123, 124, 125, 126, 127, 128, 129, 130, 131, 132, 133, 134, 135, 136, 137, 138, 139, 140, 141, 142, 143, 144, 145, 146, 147, 148, 149, 157, 158, 159, 160, 161, 162, 163, 164, 165, 166, 167, 168, 169, 170, 171, 172, 173, 174, 175, 176, 177, 178, 179, 180, 181, 182, 183, 184, 185, 186, 187, 188, 189, 190, 191, 192, 193, 194, 195, 196, 197, 198, 199, 200, 201, 202, 203, 204, 205, 206, 207, 208, 209, 210, 211, 212, 213, 214, 215, 216, 217, 218] (by decide +kernel) (by decide +kernel)
set_option maxRecDepth 20000 in
theorem g9_X21_tell_3_2 : GoodIn w9_X21_tell_3 (wsV RX21 154 RX21 yX21_refused w9_X21_refused_1) := goodIn_r _ [150, 151, 152, 3, 153, 154, 165, 166, 167, 168, 169, 170, 171, 172, 173, 174, 175, 176, 177, 178, 179, 180, 181, 182, 183, 184, 185, 186, 187, 188, 189, 190, 191, 192, 193, 194, 195, 196] (by decide +kernel) (by decide +kernel)
set_option maxHeartbeats 4000000 in
set_option maxRecDepth 100000 in
theorem c9_X21_tell_3 (l : Launch) (g : G9) (h0 h1 h2 h3 h4 h5 h6 h7 h8 h9 h10 h11 h12 h13 h14 h15 h16 sz : Nat) : Met l yX21_tell w9_X21_tell_3 ({ frames := 8, cells := 13, slots := 70, locals := 172 }) (mP g [(h0, .inr (22, [.int 0, .ref h1, .int 0, .ref h2, .int 0, .ref h3, .int 250, .ref h4, .int 0, .ref h5, .ref h6, .ref h7, .int 0, .ref h8, .ref h9, .ref h10, .int 0, .null, .int 0, .null, .int 0, .int 0, .int 0, .ref h11, .int 0, .ref h12, .ref h13, .ref h14, .int 0, .ref h15, .ref h16, .int 0])), (h3, .inl (g.2.1 4, 4, .inr (.inr (.inr (.inr (fun _ => none))))))] sz [.ref h0, .int 0]) (va_Qi (fun (r : Int32) (_ : Nat × Nat × Nat × Nat × Nat × Nat) => r = 0) (fun (u : Nat × Nat × Nat × Nat × Nat × Nat) (t : State) => match u with | (q_1, q_2, q_3, q_4, q_5, q_6) => mB g [(h0, .inr (22, [.int 0, .ref h1, .int 0, .ref h2, .int 0, .ref h3, .int 250, .ref h4, .int 0, .ref h5, .ref h6, .ref h7, .int 0, .ref h8, .ref h9, .ref h10, .int 0, .null, .int 0, .null, .int 0, .int 0, .int 0, .ref h11, .int 0, .ref h12, .ref h13, .ref h14, .int 0, .ref h15, .ref h16, .int 0])), (h3, .inl (g.2.1 4, 4, .inr (.inr (.inr (.inr (fun _ => none))))))] sz [(h0, .inr (22, [.int 0, .ref h1, .int 0, .ref h2, .int 0, .ref h3, .int 250, .ref h4, .int 0, .ref h5, .ref h6, .ref h7, .int 0, .ref h8, .ref h9, .ref h10, .int 0, .null, .int 0, .null, .int 0, .int 0, .int 0, .ref h11, .int 0, .ref h12, .ref h13, .ref h14, .int 0, .ref h15, .ref h16, .int 0])), (h3, .inl (g.2.1 4, 4, .inr (.inr (.inr (.inr (va_up (fun _ => none) 0 (some q_2))))))), (q_1, .inl (g.2.1 5, 7, .inr (.inr (.inr (.inr (va_up (fun _ => none) 0 (some q_3))))))), (q_2, .inr (16, [.ref q_3, .int 0, .ref q_1, .int 1, .int 1, .null])), (q_3, .inr (15, [.int 6, .long 0, .int 0, .int 0, .ref q_4, .null, .int 0, .int 0, .int 0])), (q_4, .inr (2, [.int 1, .ref q_6, .int 1])), (q_5, .inr (2, [.int 0, .ref (g.2.2 0), .int 0])), (q_6, .inl (g.2.1 6, 10, .inr (.inr (.inr (.inr (va_up (fun _ => none) 0 (some q_5)))))))] t) (va_A [(h0, .inr (22, [.int 0, .ref h1, .int 0, .ref h2, .int 0, .ref h3, .int 250, .ref h4, .int 0, .ref h5, .ref h6, .ref h7, .int 0, .ref h8, .ref h9, .ref h10, .int 0, .null, .int 0, .null, .int 0, .int 0, .int 0, .ref h11, .int 0, .ref h12, .ref h13, .ref h14, .int 0, .ref h15, .ref h16, .int 0])), (h3, .inl (g.2.1 4, 4, .inr (.inr (.inr (.inr (fun _ => none))))))] sz)) 13 70 (va_A [(h0, .inr (22, [.int 0, .ref h1, .int 0, .ref h2, .int 0, .ref h3, .int 250, .ref h4, .int 0, .ref h5, .ref h6, .ref h7, .int 0, .ref h8, .ref h9, .ref h10, .int 0, .null, .int 0, .null, .int 0, .int 0, .int 0, .ref h11, .int 0, .ref h12, .ref h13, .ref h14, .int 0, .ref h15, .ref h16, .int 0])), (h3, .inl (g.2.1 4, 4, .inr (.inr (.inr (.inr (fun _ => none))))))] sz) := by
  refine Met.ofW (cc := cX21_tell) (maxL := 4) (ret := (some .int)) (by decide) rfl ?_
  intro p e s m args below meth c s₁ B hml hv
  obtain ⟨rfl, hsz, hP, hD0, hE⟩ := hv
  have hx := B.exec
  have hb := B.bytes
  have hr := B.returns
  have hts := atoms_spec (ws := w9_X21_tell_3) B.pre
  have hown : s.vm.findClass RX21 = some m.cls := findClass_of_methodNamed B.named
  have hlocks := B.notSynchronized
  subst hsz
  have hD := hD0.self (sz := s.heap.size)
  generalize hAe : va_A [(h0, .inr (22, [.int 0, .ref h1, .int 0, .ref h2, .int 0, .ref h3, .int 250, .ref h4, .int 0, .ref h5, .ref h6, .ref h7, .int 0, .ref h8, .ref h9, .ref h10, .int 0, .null, .int 0, .null, .int 0, .int 0, .int 0, .ref h11, .int 0, .ref h12, .ref h13, .ref h14, .int 0, .ref h15, .ref h16, .int 0])), (h3, .inl (g.2.1 4, 4, .inr (.inr (.inr (.inr (fun _ => none))))))] s.heap.size = A at hD hE ⊢
  have hA : ∀ q : Nat, s.heap.size ≤ q → A q := fun q h => by rw [← hAe]; exact Or.inr h
  have hK := hE.1
  have hS : va_S A s.heap s.heap [] := va_S.rf
  replace hP : va_P g.1 vwCl [(h0, .inr (22, [.int 0, .ref h1, .int 0, .ref h2, .int 0, .ref h3, .int 250, .ref h4, .int 0, .ref h5, .ref h6, .ref h7, .int 0, .ref h8, .ref h9, .ref h10, .int 0, .null, .int 0, .null, .int 0, .int 0, .int 0, .ref h11, .int 0, .ref h12, .ref h13, .ref h14, .int 0, .ref h15, .ref h16, .int 0])), (h3, .inl (g.2.1 4, 4, .inr (.inr (.inr (.inr (fun _ => none))))))] s.heap := hP
  have hl := lv_entry ([.ref h0, .int 0]) (n := 4) (Nat.le_of_ble_eq_true rfl)
  rw [lg_entry_eq]
  generalize (lg_sl ([.ref h0, .int 0]) ++ List.replicate (4 - (lg_sl ([.ref h0, .int 0])).length) Slot.unset).toArray = ls at hl ⊢
  replace hl : lv_has ls 4 [(0, .ref h0), (1, .int 0)] := hl
  have hH0 : s.heap.size ≤ s.heap.size := Nat.le_refl _
  refine lv_iload_n hx hb dX21_tell_0 rfl (lv_at hl 1 rfl) ?_
  refine lv_iconst (v := 0) hx hb dX21_tell_1 (by decide) ?_
  refine lv_iconst (v := 3) hx hb dX21_tell_2 (by decide) ?_
  have hPc := hP.sub (ws' := []) [] rfl
  have hDc := hD.sub (ws' := []) [] (by decide) rfl
  have hFc := va_free (wc := []) hD hS hA [] rfl
  refine va_calli (va_runS (As := [.int 0, .int 0, .int 3]) (rest := []) ⟨hx, hb, hml, hown, hts⟩ (c9_X21_in_3 l g _) (va_cwS 3 hts g9_X21_tell_3_0 rfl rfl rfl (by decide +kernel) ⟨Nat.le_of_ble_eq_true rfl, Nat.le_of_ble_eq_true rfl⟩) (mPreS (g := g) (wc := []) hE hS hPc hDc hFc) rfl rfl hl.1 rfl (lv_room (Nat.le_of_ble_eq_true rfl)) dX21_tell_3 ⟨Nat.le_of_ble_eq_true rfl, Nat.le_of_ble_eq_true rfl⟩) hS (fun q _ h => hFc q h) hFc (fun r_1 u t H1 locs ht hvm hw hB hz1 hk1 hS => ?_)
  replace hw : 1 = r_1 := Eq.symm hw
  subst hw
  obtain ⟨hP1, hD1⟩ := hB
  rw [ht] at hP1
  obtain ⟨hP, hD⟩ := va_join (wr := [(h0, .inr (22, [.int 0, .ref h1, .int 0, .ref h2, .int 0, .ref h3, .int 250, .ref h4, .int 0, .ref h5, .ref h6, .ref h7, .int 0, .ref h8, .ref h9, .ref h10, .int 0, .null, .int 0, .null, .int 0, .int 0, .int 0, .ref h11, .int 0, .ref h12, .ref h13, .ref h14, .int 0, .ref h15, .ref h16, .int 0])), (h3, .inl (g.2.1 4, 4, .inr (.inr (.inr (.inr (fun _ => none))))))]) (w1 := []) hP hD [] [0, 1] rfl rfl (by decide) (by decide) hk1 hFc hP1 hD1
  clear hP1 hD1 hPc hDc hFc hk1 hz1 hvm ht
  generalize H1 = H at hP hS ⊢
  have hP : va_P g.1 vwCl [(h0, .inr (22, [.int 0, .ref h1, .int 0, .ref h2, .int 0, .ref h3, .int 250, .ref h4, .int 0, .ref h5, .ref h6, .ref h7, .int 0, .ref h8, .ref h9, .ref h10, .int 0, .null, .int 0, .null, .int 0, .int 0, .int 0, .ref h11, .int 0, .ref h12, .ref h13, .ref h14, .int 0, .ref h15, .ref h16, .int 0])), (h3, .inl (g.2.1 4, 4, .inr (.inr (.inr (.inr (fun _ => none))))))] H := hP
  have hD : va_D A [(h0, .inr (22, [.int 0, .ref h1, .int 0, .ref h2, .int 0, .ref h3, .int 250, .ref h4, .int 0, .ref h5, .ref h6, .ref h7, .int 0, .ref h8, .ref h9, .ref h10, .int 0, .null, .int 0, .null, .int 0, .int 0, .int 0, .ref h11, .int 0, .ref h12, .ref h13, .ref h14, .int 0, .ref h15, .ref h16, .int 0])), (h3, .inl (g.2.1 4, 4, .inr (.inr (.inr (.inr (fun _ => none))))))] := hD
  refine lv_istore_n (lv' := [(2, .int 1), (0, .ref h0), (1, .int 0)]) hx hb dX21_tell_6 rfl hl (by decide) rfl (fun ls hl => ?_)
  refine lv_iload_n hx hb dX21_tell_7 rfl (lv_at hl 0 rfl) ?_
  refine lv_if_eq (tgt := 18) hx hb dX21_tell_8 (by decide) (fun c9 => absurd c9 (by decide)) (fun _ => ?_)
  refine lv_aload_n hx hb dX21_tell_11 rfl (lv_at hl 1 rfl) ?_
  have hPc := hP.sub (ws' := [(h0, .inr (22, [.int 0, .ref h1, .int 0, .ref h2, .int 0, .ref h3, .int 250, .ref h4, .int 0, .ref h5, .ref h6, .ref h7, .int 0, .ref h8, .ref h9, .ref h10, .int 0, .null, .int 0, .null, .int 0, .int 0, .int 0, .ref h11, .int 0, .ref h12, .ref h13, .ref h14, .int 0, .ref h15, .ref h16, .int 0]))]) [0] rfl
  have hDc := hD.sub (ws' := [(h0, .inr (22, [.int 0, .ref h1, .int 0, .ref h2, .int 0, .ref h3, .int 250, .ref h4, .int 0, .ref h5, .ref h6, .ref h7, .int 0, .ref h8, .ref h9, .ref h10, .int 0, .null, .int 0, .null, .int 0, .int 0, .int 0, .ref h11, .int 0, .ref h12, .ref h13, .ref h14, .int 0, .ref h15, .ref h16, .int 0]))]) [0] (by decide) rfl
  have hFc := va_free (wc := [(h0, .inr (22, [.int 0, .ref h1, .int 0, .ref h2, .int 0, .ref h3, .int 250, .ref h4, .int 0, .ref h5, .ref h6, .ref h7, .int 0, .ref h8, .ref h9, .ref h10, .int 0, .null, .int 0, .null, .int 0, .int 0, .int 0, .ref h11, .int 0, .ref h12, .ref h13, .ref h14, .int 0, .ref h15, .ref h16, .int 0]))]) hD hS hA [0] rfl
  refine va_callr (vx_runVW (As := []) (rest := []) ⟨hx, hb, hml, hown, hts⟩ (c9_X21_read_1 l g h0 h1 h2 h3 h4 h5 h6 h7 h8 h9 h10 h11 h12 h13 h14 h15 h16 _) (vx_cwVW (bytes := cX21_read) (maxL := 2) (ret := (some (.object "RegexloomModel$Pattern"))) (hh := [(0, 89, 90, 191)]) 0 hts g9_X21_tell_3_1 rfl rfl rfl (by decide +kernel) ⟨Nat.le_of_ble_eq_true rfl, Nat.le_of_ble_eq_true rfl⟩) (mPreV (g := g) (wc := [(h0, .inr (22, [.int 0, .ref h1, .int 0, .ref h2, .int 0, .ref h3, .int 250, .ref h4, .int 0, .ref h5, .ref h6, .ref h7, .int 0, .ref h8, .ref h9, .ref h10, .int 0, .null, .int 0, .null, .int 0, .int 0, .int 0, .ref h11, .int 0, .ref h12, .ref h13, .ref h14, .int 0, .ref h15, .ref h16, .int 0]))]) (C := RX21) (ci := 22) (q0 := 0) hE hS hPc hDc hFc rfl rfl) rfl rfl hl.1 rfl (lv_room (Nat.le_of_ble_eq_true rfl)) dX21_tell_12 ⟨Nat.le_of_ble_eq_true rfl, Nat.le_of_ble_eq_true rfl⟩) hS (fun q _ h => hFc q h) hFc (fun u r_2 t H1 locs ht hvm hw hB hz1 hk1 hS => ?_)
  obtain ⟨q_1, q_2, q_3, q_4, q_5, q_6⟩ := u
  obtain ⟨hR1, hP1, hD1⟩ := hB
  replace hR1 : q_2 = r_2 := Eq.symm hR1
  subst hR1
  rw [ht] at hP1
  obtain ⟨hP, hD⟩ := va_join (wr := [(h3, .inl (g.2.1 4, 4, .inr (.inr (.inr (.inr (fun _ => none))))))]) (w1 := [(h0, .inr (22, [.int 0, .ref h1, .int 0, .ref h2, .int 0, .ref h3, .int 250, .ref h4, .int 0, .ref h5, .ref h6, .ref h7, .int 0, .ref h8, .ref h9, .ref h10, .int 0, .null, .int 0, .null, .int 0, .int 0, .int 0, .ref h11, .int 0, .ref h12, .ref h13, .ref h14, .int 0, .ref h15, .ref h16, .int 0])), (q_1, .inl (g.2.1 5, 7, .inr (.inr (.inr (.inr (va_up (fun _ => none) 0 (some q_3))))))), (q_2, .inr (16, [.ref q_3, .int 0, .ref q_1, .int 1, .int 1, .null])), (q_3, .inr (15, [.int 6, .long 0, .int 0, .int 0, .ref q_4, .null, .int 0, .int 0, .int 0])), (q_4, .inr (2, [.int 1, .ref q_6, .int 1])), (q_5, .inr (2, [.int 0, .ref (g.2.2 0), .int 0])), (q_6, .inl (g.2.1 6, 10, .inr (.inr (.inr (.inr (va_up (fun _ => none) 0 (some q_5)))))))]) hP hD [0] [1] rfl rfl (by decide) (by decide) hk1 hFc hP1 hD1
  clear hP1 hD1 hPc hDc hFc hk1 hz1 hvm ht
  generalize H1 = H at hP hS ⊢
  have hP : va_P g.1 vwCl [(h3, .inl (g.2.1 4, 4, .inr (.inr (.inr (.inr (fun _ => none)))))), (h0, .inr (22, [.int 0, .ref h1, .int 0, .ref h2, .int 0, .ref h3, .int 250, .ref h4, .int 0, .ref h5, .ref h6, .ref h7, .int 0, .ref h8, .ref h9, .ref h10, .int 0, .null, .int 0, .null, .int 0, .int 0, .int 0, .ref h11, .int 0, .ref h12, .ref h13, .ref h14, .int 0, .ref h15, .ref h16, .int 0])), (q_1, .inl (g.2.1 5, 7, .inr (.inr (.inr (.inr (va_up (fun _ => none) 0 (some q_3))))))), (q_2, .inr (16, [.ref q_3, .int 0, .ref q_1, .int 1, .int 1, .null])), (q_3, .inr (15, [.int 6, .long 0, .int 0, .int 0, .ref q_4, .null, .int 0, .int 0, .int 0])), (q_4, .inr (2, [.int 1, .ref q_6, .int 1])), (q_5, .inr (2, [.int 0, .ref (g.2.2 0), .int 0])), (q_6, .inl (g.2.1 6, 10, .inr (.inr (.inr (.inr (va_up (fun _ => none) 0 (some q_5)))))))] H := hP
  have hD : va_D A [(h3, .inl (g.2.1 4, 4, .inr (.inr (.inr (.inr (fun _ => none)))))), (h0, .inr (22, [.int 0, .ref h1, .int 0, .ref h2, .int 0, .ref h3, .int 250, .ref h4, .int 0, .ref h5, .ref h6, .ref h7, .int 0, .ref h8, .ref h9, .ref h10, .int 0, .null, .int 0, .null, .int 0, .int 0, .int 0, .ref h11, .int 0, .ref h12, .ref h13, .ref h14, .int 0, .ref h15, .ref h16, .int 0])), (q_1, .inl (g.2.1 5, 7, .inr (.inr (.inr (.inr (va_up (fun _ => none) 0 (some q_3))))))), (q_2, .inr (16, [.ref q_3, .int 0, .ref q_1, .int 1, .int 1, .null])), (q_3, .inr (15, [.int 6, .long 0, .int 0, .int 0, .ref q_4, .null, .int 0, .int 0, .int 0])), (q_4, .inr (2, [.int 1, .ref q_6, .int 1])), (q_5, .inr (2, [.int 0, .ref (g.2.2 0), .int 0])), (q_6, .inl (g.2.1 6, 10, .inr (.inr (.inr (.inr (va_up (fun _ => none) 0 (some q_5)))))))] := hD
  refine lv_goto (tgt := 19) hx hb dX21_tell_15 (by decide) ?_
  refine lv_astore_n (lv' := [(3, .ref q_2), (2, .int 1), (0, .ref h0), (1, .int 0)]) hx hb dX21_tell_19 rfl hl (by decide) rfl (fun ls hl => ?_)
  refine lv_aload_n hx hb dX21_tell_20 rfl (lv_at hl 2 rfl) ?_
  refine lv_iload_n hx hb dX21_tell_21 rfl (lv_at hl 1 rfl) ?_
  refine lv_if_ne (tgt := 29) hx hb dX21_tell_22 (by decide) (fun _ => ?_) (fun c9 => absurd c9 (by decide))
  refine lv_aload_n hx hb dX21_tell_29 rfl (lv_at hl 0 rfl) ?_
  refine lv_ifnonnull hx hb dX21_tell_30 (tgt := 37) (by decide) ?_
  refine lv_iconst (v := 0) hx hb dX21_tell_37 (by decide) ?_
  have hPc := hP.sub (ws' := [(h0, .inr (22, [.int 0, .ref h1, .int 0, .ref h2, .int 0, .ref h3, .int 250, .ref h4, .int 0, .ref h5, .ref h6, .ref h7, .int 0, .ref h8, .ref h9, .ref h10, .int 0, .null, .int 0, .null, .int 0, .int 0, .int 0, .ref h11, .int 0, .ref h12, .ref h13, .ref h14, .int 0, .ref h15, .ref h16, .int 0]))]) [1] rfl
  have hDc := hD.sub (ws' := [(h0, .inr (22, [.int 0, .ref h1, .int 0, .ref h2, .int 0, .ref h3, .int 250, .ref h4, .int 0, .ref h5, .ref h6, .ref h7, .int 0, .ref h8, .ref h9, .ref h10, .int 0, .null, .int 0, .null, .int 0, .int 0, .int 0, .ref h11, .int 0, .ref h12, .ref h13, .ref h14, .int 0, .ref h15, .ref h16, .int 0]))]) [1] (by decide) rfl
  have hFc := va_free (wc := [(h0, .inr (22, [.int 0, .ref h1, .int 0, .ref h2, .int 0, .ref h3, .int 250, .ref h4, .int 0, .ref h5, .ref h6, .ref h7, .int 0, .ref h8, .ref h9, .ref h10, .int 0, .null, .int 0, .null, .int 0, .int 0, .int 0, .ref h11, .int 0, .ref h12, .ref h13, .ref h14, .int 0, .ref h15, .ref h16, .int 0]))]) hD hS hA [1] rfl
  refine va_calli (va_runV (As := [.int 0]) (rest := []) ⟨hx, hb, hml, hown, hts⟩ (c9_X21_refused_1 l g h0 h1 h2 h3 h4 h5 h6 h7 h8 h9 h10 h11 h12 h13 h14 h15 h16 _) (cwV 1 hts g9_X21_tell_3_2 rfl rfl rfl (by decide +kernel) ⟨Nat.le_of_ble_eq_true rfl, Nat.le_of_ble_eq_true rfl⟩) (mPreV (g := g) (wc := [(h0, .inr (22, [.int 0, .ref h1, .int 0, .ref h2, .int 0, .ref h3, .int 250, .ref h4, .int 0, .ref h5, .ref h6, .ref h7, .int 0, .ref h8, .ref h9, .ref h10, .int 0, .null, .int 0, .null, .int 0, .int 0, .int 0, .ref h11, .int 0, .ref h12, .ref h13, .ref h14, .int 0, .ref h15, .ref h16, .int 0]))]) (C := RX21) (ci := 22) (q0 := 0) hE hS hPc hDc hFc rfl rfl) rfl rfl hl.1 rfl (lv_room (Nat.le_of_ble_eq_true rfl)) dX21_tell_38 ⟨Nat.le_of_ble_eq_true rfl, Nat.le_of_ble_eq_true rfl⟩) hS (fun q _ h => hFc q h) hFc (fun r_3 u t H1 locs ht hvm hw hB hz1 hk1 hS => ?_)
  replace hw : 0 = r_3 := Eq.symm hw
  subst hw
  obtain ⟨hP1, hD1⟩ := hB
  rw [ht] at hP1
  obtain ⟨hP, hD⟩ := va_join (wr := [(h3, .inl (g.2.1 4, 4, .inr (.inr (.inr (.inr (fun _ => none)))))), (q_1, .inl (g.2.1 5, 7, .inr (.inr (.inr (.inr (va_up (fun _ => none) 0 (some q_3))))))), (q_2, .inr (16, [.ref q_3, .int 0, .ref q_1, .int 1, .int 1, .null])), (q_3, .inr (15, [.int 6, .long 0, .int 0, .int 0, .ref q_4, .null, .int 0, .int 0, .int 0])), (q_4, .inr (2, [.int 1, .ref q_6, .int 1])), (q_5, .inr (2, [.int 0, .ref (g.2.2 0), .int 0])), (q_6, .inl (g.2.1 6, 10, .inr (.inr (.inr (.inr (va_up (fun _ => none) 0 (some q_5)))))))]) (w1 := [(h0, .inr (22, [.int 0, .ref h1, .int 0, .ref h2, .int 0, .ref h3, .int 250, .ref h4, .int 0, .ref h5, .ref h6, .ref h7, .int 0, .ref h8, .ref h9, .ref h10, .int 0, .null, .int 0, .null, .int 0, .int 0, .int 0, .ref h11, .int 0, .ref h12, .ref h13, .ref h14, .int 0, .ref h15, .ref h16, .int 0]))]) hP hD [1] [0, 2, 3, 4, 5, 6, 7] rfl rfl (by decide) (by decide) hk1 hFc hP1 hD1
  clear hP1 hD1 hPc hDc hFc hk1 hz1 hvm ht
  generalize H1 = H at hP hS ⊢
  have hP : va_P g.1 vwCl [(h3, .inl (g.2.1 4, 4, .inr (.inr (.inr (.inr (fun _ => none)))))), (q_1, .inl (g.2.1 5, 7, .inr (.inr (.inr (.inr (va_up (fun _ => none) 0 (some q_3))))))), (q_2, .inr (16, [.ref q_3, .int 0, .ref q_1, .int 1, .int 1, .null])), (q_3, .inr (15, [.int 6, .long 0, .int 0, .int 0, .ref q_4, .null, .int 0, .int 0, .int 0])), (q_4, .inr (2, [.int 1, .ref q_6, .int 1])), (q_5, .inr (2, [.int 0, .ref (g.2.2 0), .int 0])), (q_6, .inl (g.2.1 6, 10, .inr (.inr (.inr (.inr (va_up (fun _ => none) 0 (some q_5))))))), (h0, .inr (22, [.int 0, .ref h1, .int 0, .ref h2, .int 0, .ref h3, .int 250, .ref h4, .int 0, .ref h5, .ref h6, .ref h7, .int 0, .ref h8, .ref h9, .ref h10, .int 0, .null, .int 0, .null, .int 0, .int 0, .int 0, .ref h11, .int 0, .ref h12, .ref h13, .ref h14, .int 0, .ref h15, .ref h16, .int 0]))] H := hP
  have hD : va_D A [(h3, .inl (g.2.1 4, 4, .inr (.inr (.inr (.inr (fun _ => none)))))), (q_1, .inl (g.2.1 5, 7, .inr (.inr (.inr (.inr (va_up (fun _ => none) 0 (some q_3))))))), (q_2, .inr (16, [.ref q_3, .int 0, .ref q_1, .int 1, .int 1, .null])), (q_3, .inr (15, [.int 6, .long 0, .int 0, .int 0, .ref q_4, .null, .int 0, .int 0, .int 0])), (q_4, .inr (2, [.int 1, .ref q_6, .int 1])), (q_5, .inr (2, [.int 0, .ref (g.2.2 0), .int 0])), (q_6, .inl (g.2.1 6, 10, .inr (.inr (.inr (.inr (va_up (fun _ => none) 0 (some q_5))))))), (h0, .inr (22, [.int 0, .ref h1, .int 0, .ref h2, .int 0, .ref h3, .int 250, .ref h4, .int 0, .ref h5, .ref h6, .ref h7, .int 0, .ref h8, .ref h9, .ref h10, .int 0, .null, .int 0, .null, .int 0, .int 0, .int 0, .ref h11, .int 0, .ref h12, .ref h13, .ref h14, .int 0, .ref h15, .ref h16, .int 0]))] := hD
  refine lv_if_eq (tgt := 46) hx hb dX21_tell_41 (by decide) (fun _ => ?_) (fun c9 => absurd (by decide) c9)
  refine lv_aload_n hx hb dX21_tell_46 rfl (lv_at hl 2 rfl) ?_
  refine va_get (D := g.1) (ci := 22) (v := .ref h3) (C := RX21) (T := TX21) (N := 32) hx hb hts in9_X21_tell_3_RX21 hown hK hP 7 rfl rfl 5 (by decide) (hts (.fieldLink RX21 90 "RegexloomModel" "patterns" "[LRegexloomModel$Pattern;") (List.mem_of_getElem? (i := 155) rfl)) (fun _ h9 => h9) rfl dX21_tell_47 ?_
  refine lv_iload_n hx hb dX21_tell_50 rfl (lv_at hl 3 rfl) ?_
  refine lv_aload_n hx hb dX21_tell_51 rfl (lv_at hl 0 rfl) ?_
  refine va_astq hx hb hK hP hD hS 0 4 2 16 rfl rfl rfl rfl (vp_in_nI (n := 0) (by decide) (by decide)) dX21_tell_52 (fun H locs hP hD hS => ?_)
  have hP : va_P g.1 vwCl [(h3, .inl (g.2.1 4, 4, .inr (.inr (.inr (.inr (va_up (fun _ => none) 0 (some q_2))))))), (q_1, .inl (g.2.1 5, 7, .inr (.inr (.inr (.inr (va_up (fun _ => none) 0 (some q_3))))))), (q_2, .inr (16, [.ref q_3, .int 0, .ref q_1, .int 1, .int 1, .null])), (q_3, .inr (15, [.int 6, .long 0, .int 0, .int 0, .ref q_4, .null, .int 0, .int 0, .int 0])), (q_4, .inr (2, [.int 1, .ref q_6, .int 1])), (q_5, .inr (2, [.int 0, .ref (g.2.2 0), .int 0])), (q_6, .inl (g.2.1 6, 10, .inr (.inr (.inr (.inr (va_up (fun _ => none) 0 (some q_5))))))), (h0, .inr (22, [.int 0, .ref h1, .int 0, .ref h2, .int 0, .ref h3, .int 250, .ref h4, .int 0, .ref h5, .ref h6, .ref h7, .int 0, .ref h8, .ref h9, .ref h10, .int 0, .null, .int 0, .null, .int 0, .int 0, .int 0, .ref h11, .int 0, .ref h12, .ref h13, .ref h14, .int 0, .ref h15, .ref h16, .int 0]))] H := hP
  have hD : va_D A [(h3, .inl (g.2.1 4, 4, .inr (.inr (.inr (.inr (va_up (fun _ => none) 0 (some q_2))))))), (q_1, .inl (g.2.1 5, 7, .inr (.inr (.inr (.inr (va_up (fun _ => none) 0 (some q_3))))))), (q_2, .inr (16, [.ref q_3, .int 0, .ref q_1, .int 1, .int 1, .null])), (q_3, .inr (15, [.int 6, .long 0, .int 0, .int 0, .ref q_4, .null, .int 0, .int 0, .int 0])), (q_4, .inr (2, [.int 1, .ref q_6, .int 1])), (q_5, .inr (2, [.int 0, .ref (g.2.2 0), .int 0])), (q_6, .inl (g.2.1 6, 10, .inr (.inr (.inr (.inr (va_up (fun _ => none) 0 (some q_5))))))), (h0, .inr (22, [.int 0, .ref h1, .int 0, .ref h2, .int 0, .ref h3, .int 250, .ref h4, .int 0, .ref h5, .ref h6, .ref h7, .int 0, .ref h8, .ref h9, .ref h10, .int 0, .null, .int 0, .null, .int 0, .int 0, .int 0, .ref h11, .int 0, .ref h12, .ref h13, .ref h14, .int 0, .ref h15, .ref h16, .int 0]))] := hD
  refine lv_aload_n hx hb dX21_tell_53 rfl (lv_at hl 2 rfl) ?_
  refine lv_iconst (v := 0) hx hb dX21_tell_54 (by decide) ?_
  refine va_put (D := g.1) (ci := 22) (v := .int 0) (ty := .int) (C := RX21) (T := TX21) (N := 32) hx hb hts in9_X21_tell_3_RX21 tyX21 tyX21_ok nmX21 hown hK hP hD hS 7 rfl rfl 2 (by decide) (hts (.fieldLink RX21 151 "RegexloomModel" "drafted" "I") (List.mem_of_getElem? (i := 13) rfl)) (fun _ h9 => h9) rfl (by decide +kernel) rfl rfl (Nat.le_of_ble_eq_true rfl) dX21_tell_55 (fun H locs hP hD hS => ?_)
  have hP : va_P g.1 vwCl [(h3, .inl (g.2.1 4, 4, .inr (.inr (.inr (.inr (va_up (fun _ => none) 0 (some q_2))))))), (q_1, .inl (g.2.1 5, 7, .inr (.inr (.inr (.inr (va_up (fun _ => none) 0 (some q_3))))))), (q_2, .inr (16, [.ref q_3, .int 0, .ref q_1, .int 1, .int 1, .null])), (q_3, .inr (15, [.int 6, .long 0, .int 0, .int 0, .ref q_4, .null, .int 0, .int 0, .int 0])), (q_4, .inr (2, [.int 1, .ref q_6, .int 1])), (q_5, .inr (2, [.int 0, .ref (g.2.2 0), .int 0])), (q_6, .inl (g.2.1 6, 10, .inr (.inr (.inr (.inr (va_up (fun _ => none) 0 (some q_5))))))), (h0, .inr (22, [.int 0, .ref h1, .int 0, .ref h2, .int 0, .ref h3, .int 250, .ref h4, .int 0, .ref h5, .ref h6, .ref h7, .int 0, .ref h8, .ref h9, .ref h10, .int 0, .null, .int 0, .null, .int 0, .int 0, .int 0, .ref h11, .int 0, .ref h12, .ref h13, .ref h14, .int 0, .ref h15, .ref h16, .int 0]))] H := hP
  have hD : va_D A [(h3, .inl (g.2.1 4, 4, .inr (.inr (.inr (.inr (va_up (fun _ => none) 0 (some q_2))))))), (q_1, .inl (g.2.1 5, 7, .inr (.inr (.inr (.inr (va_up (fun _ => none) 0 (some q_3))))))), (q_2, .inr (16, [.ref q_3, .int 0, .ref q_1, .int 1, .int 1, .null])), (q_3, .inr (15, [.int 6, .long 0, .int 0, .int 0, .ref q_4, .null, .int 0, .int 0, .int 0])), (q_4, .inr (2, [.int 1, .ref q_6, .int 1])), (q_5, .inr (2, [.int 0, .ref (g.2.2 0), .int 0])), (q_6, .inl (g.2.1 6, 10, .inr (.inr (.inr (.inr (va_up (fun _ => none) 0 (some q_5))))))), (h0, .inr (22, [.int 0, .ref h1, .int 0, .ref h2, .int 0, .ref h3, .int 250, .ref h4, .int 0, .ref h5, .ref h6, .ref h7, .int 0, .ref h8, .ref h9, .ref h10, .int 0, .null, .int 0, .null, .int 0, .int 0, .int 0, .ref h11, .int 0, .ref h12, .ref h13, .ref h14, .int 0, .ref h15, .ref h16, .int 0]))] := hD
  refine lv_aload_n hx hb dX21_tell_58 rfl (lv_at hl 0 rfl) ?_
  refine va_get (D := g.1) (ci := 16) (v := .int 0) (C := RX15) (T := TX15) (N := 6) hx hb hts in9_X21_tell_3_RX15 hown hK hP 2 rfl rfl 1 (by decide) (hts (.fieldLink RX21 168 "RegexloomModel$Pattern" "groups" "I") (List.mem_of_getElem? (i := 156) rfl)) (fun _ h9 => h9) rfl dX21_tell_59 ?_
  have hP9 := hP.sub (ws' := [(h0, .inr (22, [.int 0, .ref h1, .int 0, .ref h2, .int 0, .ref h3, .int 250, .ref h4, .int 0, .ref h5, .ref h6, .ref h7, .int 0, .ref h8, .ref h9, .ref h10, .int 0, .null, .int 0, .null, .int 0, .int 0, .int 0, .ref h11, .int 0, .ref h12, .ref h13, .ref h14, .int 0, .ref h15, .ref h16, .int 0])), (h3, .inl (g.2.1 4, 4, .inr (.inr (.inr (.inr (va_up (fun _ => none) 0 (some q_2))))))), (q_1, .inl (g.2.1 5, 7, .inr (.inr (.inr (.inr (va_up (fun _ => none) 0 (some q_3))))))), (q_2, .inr (16, [.ref q_3, .int 0, .ref q_1, .int 1, .int 1, .null])), (q_3, .inr (15, [.int 6, .long 0, .int 0, .int 0, .ref q_4, .null, .int 0, .int 0, .int 0])), (q_4, .inr (2, [.int 1, .ref q_6, .int 1])), (q_5, .inr (2, [.int 0, .ref (g.2.2 0), .int 0])), (q_6, .inl (g.2.1 6, 10, .inr (.inr (.inr (.inr (va_up (fun _ => none) 0 (some q_5)))))))]) [7, 0, 1, 2, 3, 4, 5, 6] rfl
  have hD9 := hD.sub (ws' := [(h0, .inr (22, [.int 0, .ref h1, .int 0, .ref h2, .int 0, .ref h3, .int 250, .ref h4, .int 0, .ref h5, .ref h6, .ref h7, .int 0, .ref h8, .ref h9, .ref h10, .int 0, .null, .int 0, .null, .int 0, .int 0, .int 0, .ref h11, .int 0, .ref h12, .ref h13, .ref h14, .int 0, .ref h15, .ref h16, .int 0])), (h3, .inl (g.2.1 4, 4, .inr (.inr (.inr (.inr (va_up (fun _ => none) 0 (some q_2))))))), (q_1, .inl (g.2.1 5, 7, .inr (.inr (.inr (.inr (va_up (fun _ => none) 0 (some q_3))))))), (q_2, .inr (16, [.ref q_3, .int 0, .ref q_1, .int 1, .int 1, .null])), (q_3, .inr (15, [.int 6, .long 0, .int 0, .int 0, .ref q_4, .null, .int 0, .int 0, .int 0])), (q_4, .inr (2, [.int 1, .ref q_6, .int 1])), (q_5, .inr (2, [.int 0, .ref (g.2.2 0), .int 0])), (q_6, .inl (g.2.1 6, 10, .inr (.inr (.inr (.inr (va_up (fun _ => none) 0 (some q_5)))))))]) [7, 0, 1, 2, 3, 4, 5, 6] (by decide) rfl
  subst hAe
  exact W.iret (v := 0) hx hb hr (fun t ht hW => ⟨⟨0, (q_1, q_2, q_3, q_4, q_5, q_6), rfl, rfl, by rw [ht]; exact hP9, hD9⟩, hS.F ht⟩) hS.2.2 dX21_tell_62

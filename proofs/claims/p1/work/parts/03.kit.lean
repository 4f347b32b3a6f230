/-! OWN ROWS: one environment for all contracts (class numbers, array classes, statics), contracts by worlds, calls -/
/-- class numbers and slots; array classes; addresses of constants (0: ArrayList's empty row; 1, 2: the text of the other signs and its bytes) -/
abbrev G9 : Type := va_G × (Nat → ClassId) × (Nat → Nat)
abbrev ty9 (dA : Nat → ClassId) : List (ClassId × FieldType) := [(dA 0, .int), (dA 1, .char), (dA 2, .long), (dA 3, .object "Regexloom$Pattern"), (dA 4, .object "RegexloomModel$Pattern"), (dA 5, .object "RegexloomModel$Node"), (dA 6, .object "java/lang/Object")]
/-- the texts of the exceptions that the class makes, by their places in its own table of constants -/
def str9 : List (Nat × String) := [(111, "no draft has this sign"), (178, "no such budget"), (222, "no such group"), (245, "no such match"), (263, "no such sign of the out"), (268, "no such pattern"), (270, "no such place"), (272, "the pattern is not told")]
def cast9 : List (String × String) := [("java/lang/IllegalArgumentException", "java/lang/IllegalArgumentException"), ("java/lang/IllegalStateException", "java/lang/IllegalStateException"), ("java/lang/IndexOutOfBoundsException", "java/lang/IndexOutOfBoundsException"), ("java/util/ArrayList", "java/lang/Object"), ("RegexloomModel$Node", "java/lang/Object"), ("java/util/ArrayList$Itr", "java/util/Iterator")]
def decl9 : List MethodName := [Bundle.initS "java/lang/RuntimeException", Bundle.initS "java/lang/Exception", Bundle.initS "java/lang/Throwable"]
def ao9 : List String := ["Regexloom$Pattern", "RegexloomModel$Pattern", "RegexloomModel$Node", "java/lang/Object"]
def nc9 : List (String × String) := [("java/lang/IllegalStateException", "java/lang/IllegalArgumentException"), ("java/lang/IllegalStateException", "java/lang/IndexOutOfBoundsException")]
def ot9 : String := ".*+?{}()[]|^$\\,:=!<>-#"
def ob9 : List Int32 := [46, 42, 43, 63, 123, 125, 40, 41, 91, 93, 124, 94, 36, 92, 44, 58, 61, 33, 60, 62, 45, 35]
/-- the constant text of the other signs of a draft, as one class loads it -/
def eO (own : String) (k a v : Nat) (A : Nat → Prop) (U : State) : Prop := vk_R own k ot9 a U ∧ vk_S 1 [22] [ob9] (fun _ => a) (fun _ => v) A U U.heap
abbrev oN9 : String := "java/lang/Object"
def eS (sA : Nat → Nat) (A : Nat → Prop) (U : State) : Prop :=
  vx_Zq Bundle.tN "UNASSIGNED_STACK" Bundle.steD A U U.heap ∧ vx_Zq Bundle.tN "SUPPRESSED_SENTINEL" Bundle.listD A U U.heap ∧
  (∀ q ∈ str9, ∃ sa : Nat, vk_R "Regexloom" q.1 q.2 sa U) ∧ (∀ q ∈ cast9, va_Nw (.castable q.1 q.2) U) ∧ (∀ q ∈ nc9, va_Nc q.1 q.2 U) ∧
  va_Z "java/util/ArrayList" "DEFAULTCAPACITY_EMPTY_ELEMENTDATA" "[Ljava/lang/Object;" (.ref (sA 0)) A U U.heap ∧ va_T (.object oN9) (sA 0) 0 (fun _ => .null) A U U.heap ∧
  va_Z "java/lang/String" "COMPACT_STRINGS" "Z" (.int 1) A U U.heap ∧
  va_Fw "java/util/ArrayList$Itr" ⟨"java/util/Iterator", "hasNext", "()Z"⟩ ⟨"java/util/ArrayList$Itr", "hasNext", "()Z"⟩ U ∧ va_Fw "java/util/ArrayList$Itr" ⟨"java/util/Iterator", "next", "()Ljava/lang/Object;"⟩ ⟨"java/util/ArrayList$Itr", "next", "()Ljava/lang/Object;"⟩ U ∧
  eO "Regexloom$Signs" 15 (sA 1) (sA 2) A U ∧ eO "RegexloomModel" 7 (sA 1) (sA 2) A U ∧
  va_Nw (.methodLinkNest "RegexloomModel$Reader" 11 ⟨"RegexloomModel$Pattern", "<init>", "()V"⟩ "RegexloomModel") U ∧ va_Nw (.fieldLinkNest "java/util/ArrayList$Itr" 28 "java/util/ArrayList" "size" "I" "java/util/ArrayList") U ∧ (∀ q ∈ decl9, va_Nw (.declares q) U) ∧ (∀ q ∈ ao9, va_AO q U)
def EE (g : G9) (A : Nat → Prop) (U : State) : Prop := va_K g.1 vwCl (ty9 g.2.1) U ∧ eS g.2.2 A U
theorem EE.zu {g : G9} {A : Nat → Prop} {U : State} (h : EE g A U) : vx_Zq Bundle.tN "UNASSIGNED_STACK" Bundle.steD A U U.heap := h.2.1
theorem EE.zn {g : G9} {A : Nat → Prop} {U : State} (h : EE g A U) : vx_Zq Bundle.tN "SUPPRESSED_SENTINEL" Bundle.listD A U U.heap := h.2.2.1
theorem EE.str {g : G9} {A : Nat → Prop} {U : State} (h : EE g A U) (q : Nat × String) (hq : q ∈ str9) : ∃ sa : Nat, vk_R "Regexloom" q.1 q.2 sa U := h.2.2.2.1 q hq
theorem EE.cast {g : G9} {A : Nat → Prop} {U : State} (h : EE g A U) (q : String × String) (hq : q ∈ cast9) : va_Nw (.castable q.1 q.2) U := h.2.2.2.2.1 q hq
theorem EE.nc {g : G9} {A : Nat → Prop} {U : State} (h : EE g A U) (q : String × String) (hq : q ∈ nc9) : va_Nc q.1 q.2 U := h.2.2.2.2.2.1 q hq
theorem EE.zd {g : G9} {A : Nat → Prop} {U : State} (h : EE g A U) : va_Z "java/util/ArrayList" "DEFAULTCAPACITY_EMPTY_ELEMENTDATA" "[Ljava/lang/Object;" (.ref (g.2.2 0)) A U U.heap := h.2.2.2.2.2.2.1
theorem EE.td {g : G9} {A : Nat → Prop} {U : State} (h : EE g A U) : va_T (.object oN9) (g.2.2 0) 0 (fun _ => .null) A U U.heap := h.2.2.2.2.2.2.2.1
theorem EE.zc {g : G9} {A : Nat → Prop} {U : State} (h : EE g A U) : va_Z "java/lang/String" "COMPACT_STRINGS" "Z" (.int 1) A U U.heap := h.2.2.2.2.2.2.2.2.1
theorem EE.f1 {g : G9} {A : Nat → Prop} {U : State} (h : EE g A U) : va_Fw "java/util/ArrayList$Itr" ⟨"java/util/Iterator", "hasNext", "()Z"⟩ ⟨"java/util/ArrayList$Itr", "hasNext", "()Z"⟩ U := h.2.2.2.2.2.2.2.2.2.1
theorem EE.f2 {g : G9} {A : Nat → Prop} {U : State} (h : EE g A U) : va_Fw "java/util/ArrayList$Itr" ⟨"java/util/Iterator", "next", "()Ljava/lang/Object;"⟩ ⟨"java/util/ArrayList$Itr", "next", "()Ljava/lang/Object;"⟩ U := h.2.2.2.2.2.2.2.2.2.2.1
theorem EE.o1 {g : G9} {A : Nat → Prop} {U : State} (h : EE g A U) : eO "Regexloom$Signs" 15 (g.2.2 1) (g.2.2 2) A U := h.2.2.2.2.2.2.2.2.2.2.2.1
theorem EE.o2 {g : G9} {A : Nat → Prop} {U : State} (h : EE g A U) : eO "RegexloomModel" 7 (g.2.2 1) (g.2.2 2) A U := h.2.2.2.2.2.2.2.2.2.2.2.2.1
theorem EE.nm {g : G9} {A : Nat → Prop} {U : State} (h : EE g A U) : va_Nw (.methodLinkNest "RegexloomModel$Reader" 11 ⟨"RegexloomModel$Pattern", "<init>", "()V"⟩ "RegexloomModel") U := h.2.2.2.2.2.2.2.2.2.2.2.2.2.1
theorem EE.nf {g : G9} {A : Nat → Prop} {U : State} (h : EE g A U) : va_Nw (.fieldLinkNest "java/util/ArrayList$Itr" 28 "java/util/ArrayList" "size" "I" "java/util/ArrayList") U := h.2.2.2.2.2.2.2.2.2.2.2.2.2.2.1
theorem EE.decl {g : G9} {A : Nat → Prop} {U : State} (h : EE g A U) (q : MethodName) (hq : q ∈ decl9) : va_Nw (.declares q) U := h.2.2.2.2.2.2.2.2.2.2.2.2.2.2.2.1 q hq
theorem EE.ao {g : G9} {A : Nat → Prop} {U : State} (h : EE g A U) (q : String) (hq : q ∈ ao9) : va_AO q U := h.2.2.2.2.2.2.2.2.2.2.2.2.2.2.2.2 q hq
theorem EE.oc {g : G9} {A : Nat → Prop} {U : State} (h : EE g A U) : va_OF "java/lang/String" "coder" "B" (.int 0) (g.2.2 1) A U U.heap := (h.o1.2.1 0 (by decide)).2.1
theorem EE.ov {g : G9} {A : Nat → Prop} {U : State} (h : EE g A U) : va_OF "java/lang/String" "value" "[B" (.ref (g.2.2 2)) (g.2.2 1) A U U.heap := (h.o1.2.1 0 (by decide)).2.2.1
theorem EE.ot {g : G9} {A : Nat → Prop} {U : State} (h : EE g A U) : va_T .byte (g.2.2 2) 22 (fun j => .int (ob9.getD j 0)) A U U.heap := (h.o1.2.1 0 (by decide)).2.2.2
theorem EE.or {g : G9} {A : Nat → Prop} {s : State} {H : Heap} {locs : List Loc} (h : EE g A s) (hS : va_S A s.heap H locs) : ∃ cell : Cell, H[g.2.2 1]? = some cell ∧ cell.vm.isStatics = false ∧ s.vm.findClass "java/lang/String" = some cell.cls := vk_recv h.o1.2 (i := 0) (by decide) hS
theorem eO.call {own : String} {k a v : Nat} {A B : Nat → Prop} {s U : State} {H : Heap} {locs : List Loc} (h : eO own k a v A s) (hS : va_S A s.heap H locs) (hU : U.heap = H) (hW : s.WarmedH U.vm) (hB : ∀ q, B q → A q) : eO own k a v B U := by
  obtain ⟨h1, h2⟩ := h
  exact ⟨h1.warm hW, by rw [hU]; exact ((h2.kept hS.2.1).moved hW.alike).narrow hB⟩
theorem eS.call {tD : Nat → Nat} {A B : Nat → Prop} {s U : State} {H : Heap} {locs : List Loc} (h : eS tD A s) (hS : va_S A s.heap H locs) (hU : U.heap = H) (hW : s.WarmedH U.vm) (hB : ∀ q, B q → A q) : eS tD B U := by
  obtain ⟨h1, h2, h3, h4, h5, h6, h7, h8, h9, h10, h11, h12, h13, h14, h15, h16⟩ := h
  refine ⟨?_, ?_, fun q hq => ?_, fun q hq => ?_, fun q hq => ?_, ?_, ?_, ?_, ?_, ?_, h11.call hS hU hW hB, h12.call hS hU hW hB, h13.warmM hW, h14.warmF hW, fun q hq => va_Nw.warmD hW (h15 q hq), fun q hq => (h16 q hq).moved hW.alike⟩
  · rw [hU]; exact ((h1.kept hS.2.1).moved hW.alike).narrow hB
  · rw [hU]; exact ((h2.kept hS.2.1).moved hW.alike).narrow hB
  · obtain ⟨sa, hs⟩ := h3 q hq
    exact ⟨sa, hs.warm hW⟩
  · exact va_Nw.warmC hW (h4 q hq)
  · exact (h5 q hq).moved hW.alike
  · rw [hU]; exact ((h6.kept hS.2.1).moved hW.alike).narrow hB
  · rw [hU]; exact ((h7.kept hS.2.1).moved hW.alike).narrow hB
  · rw [hU]; exact ((h8.kept hS.2.1).moved hW.alike).narrow hB
  · exact h9.moved (by decide) hW.alike
  · exact h10.moved (by decide) hW.alike
theorem eO.blind {own : String} {k b v : Nat} {A : Nat → Prop} {U : State} {g : JFrame} {mk : MethodId} {a : Array Value} (h : eO own k b v A U) : eO own k b v A (U.calling g mk a) := by
  obtain ⟨h1, h2⟩ := h
  exact ⟨h1.same rfl, h2.moved (U := U.calling g mk a) (Vm.Alike.refl U.vm)⟩
theorem eS.blind {tD : Nat → Nat} {A : Nat → Prop} {U : State} {g : JFrame} {mk : MethodId} {a : Array Value} (h : eS tD A U) : eS tD A (U.calling g mk a) := by
  obtain ⟨h1, h2, h3, h4, h5, h6, h7, h8, h9, h10, h11, h12, h13, h14, h15, h16⟩ := h
  refine ⟨h1.moved (U := U.calling g mk a) (Vm.Alike.refl U.vm), h2.moved (U := U.calling g mk a) (Vm.Alike.refl U.vm), fun q hq => ?_, fun q hq => va_Nw.same rfl (u := U) (U := U.calling g mk a) rfl (h4 q hq), fun q hq => (h5 q hq).moved (U := U.calling g mk a) (Vm.Alike.refl U.vm), h6.moved (U := U.calling g mk a) (Vm.Alike.refl U.vm), h7.moved (U := U.calling g mk a) (Vm.Alike.refl U.vm), h8.moved (U := U.calling g mk a) (Vm.Alike.refl U.vm), h9.moved (U := U.calling g mk a) (by decide) (Vm.Alike.refl U.vm), h10.moved (U := U.calling g mk a) (by decide) (Vm.Alike.refl U.vm), h11.blind, h12.blind, va_Nw.same rfl (u := U) (U := U.calling g mk a) rfl h13, va_Nw.same rfl (u := U) (U := U.calling g mk a) rfl h14, fun q hq => va_Nw.same rfl (u := U) (U := U.calling g mk a) rfl (h15 q hq), fun q hq => (h16 q hq).moved (U := U.calling g mk a) (Vm.Alike.refl U.vm)⟩
  obtain ⟨sa, hs⟩ := h3 q hq
  exact ⟨sa, hs.same rfl⟩
theorem EE.call {g : G9} {A B : Nat → Prop} {s U : State} {H : Heap} {locs : List Loc} (h : EE g A s) (hS : va_S A s.heap H locs) (hU : U.heap = H) (hW : s.WarmedH U.vm) (hB : ∀ q, B q → A q) : EE g B U := ⟨va_K.moved hW.alike h.1, h.2.call hS hU hW hB⟩
/-- a contract's start: the arguments, the world, the environment -/
def mP (g : G9) (ws : va_W) (sz : Nat) (as : List Value) : Array Value → State → Prop := va_Pc as (fun U => U.heap.size = sz ∧ va_P g.1 vwCl ws U.heap ∧ va_D (fun _ => True) ws ∧ EE g (va_A ws sz) U)
theorem mP.blind {g : G9} {ws : va_W} {sz : Nat} {as : List Value} : FrameBlind (mP g ws sz as) := fun a U f mk q => by
  obtain ⟨q0, q1, q2, q3, q4, q5⟩ := q
  exact ⟨q0, q1, q2, q3, va_K.moved (u := U) (U := U.calling f mk a) (Vm.Alike.refl U.vm) q4, q5.blind⟩
theorem mPreS {g : G9} {A : Nat → Prop} {s : State} {H : Heap} {locs : List Loc} {wc : va_W} {as : List Value} (hE : EE g A s) (hS : va_S A s.heap H locs) (hPc : va_P g.1 vwCl wc H) (hDc : va_D A wc) (hFc : ∀ q, va_A wc H.size q → A q) : PreS s H (mP g wc H.size as) as :=
  ⟨mP.blind, fun U hU hW => ⟨rfl, by rw [hU], by rw [hU]; exact hPc, hDc.weaken (fun _ _ _ _ => trivial), hE.call hS hU hW hFc⟩⟩
theorem mPreV {g : G9} {A : Nat → Prop} {s : State} {H : Heap} {locs : List Loc} {wc : va_W} {as : List Value} {b q0 ci : Nat} {fs : List Value} {C : String} {T : u_T} {N : Nat} (hE : EE g A s) (hS : va_S A s.heap H locs) (hPc : va_P g.1 vwCl wc H) (hDc : va_D A wc) (hFc : ∀ q, va_A wc H.size q → A q) (hc : vwCl[ci]? = some (C, T, N)) (he : wc[q0]? = some (b, .inr (ci, fs))) : PreV s H C b (mP g wc H.size (.ref b :: as)) as :=
  ⟨mP.blind, va_recv hE.1 hPc hc he, fun U hU hW => ⟨rfl, by rw [hU], by rw [hU]; exact hPc, hDc.weaken (fun _ _ _ _ => trivial), hE.call hS hU hW hFc⟩⟩
theorem mPreT {g : G9} {A : Nat → Prop} {s : State} {H : Heap} {locs : List Loc} {wc : va_W} {as : List Value} {b : Nat} {C : String} (hE : EE g A s) (hS : va_S A s.heap H locs) (hPc : va_P g.1 vwCl wc H) (hDc : va_D A wc) (hFc : ∀ q, va_A wc H.size q → A q) (hr : ∃ cell : Cell, H[b]? = some cell ∧ cell.vm.isStatics = false ∧ s.vm.findClass C = some cell.cls) : PreV s H C b (mP g wc H.size (.ref b :: as)) as :=
  ⟨mP.blind, hr, fun U hU hW => ⟨rfl, by rw [hU], by rw [hU]; exact hPc, hDc.weaken (fun _ _ _ _ => trivial), hE.call hS hU hW hFc⟩⟩
/-- the world behind a contract -/
abbrev mB (g : G9) (ws : va_W) (sz : Nat) (w' : va_W) (t : State) : Prop := va_P g.1 vwCl w' t.heap ∧ va_D (va_A ws sz) w'
abbrev mT (g : G9) (ws : va_W) (sz : Nat) (E0 : String) : String → State → State → Prop := vx_X (fun _ : Unit => True) (fun E _ _ => E = E0) (va_A ws sz)
/-- which signs a draft takes, by their numbers; and the others -/
def DS9 (c : Int32) : Prop := (97 ≤ c.toInt ∧ c.toInt ≤ 122) ∨ (65 ≤ c.toInt ∧ c.toInt ≤ 90) ∨ (48 ≤ c.toInt ∧ c.toInt ≤ 57) ∨ c.toInt = 95 ∨ c.toInt = 32 ∨ c.toInt = 46 ∨ c.toInt = 42 ∨ c.toInt = 43 ∨ c.toInt = 63 ∨ c.toInt = 123 ∨ c.toInt = 125 ∨ c.toInt = 40 ∨ c.toInt = 41 ∨ c.toInt = 91 ∨ c.toInt = 93 ∨ c.toInt = 124 ∨ c.toInt = 94 ∨ c.toInt = 36 ∨ c.toInt = 92 ∨ c.toInt = 44 ∨ c.toInt = 58 ∨ c.toInt = 61 ∨ c.toInt = 33 ∨ c.toInt = 60 ∨ c.toInt = 62 ∨ c.toInt = 45 ∨ c.toInt = 35
def NS9 (c : Int32) : Prop := (0 ≤ c.toInt ∧ c.toInt ≤ 31) ∨ c.toInt = 34 ∨ (37 ≤ c.toInt ∧ c.toInt ≤ 39) ∨ c.toInt = 47 ∨ c.toInt = 59 ∨ c.toInt = 64 ∨ c.toInt = 96 ∨ (126 ≤ c.toInt ∧ c.toInt ≤ 127) ∨ (128 ≤ c.toInt ∧ c.toInt ≤ 255) ∨ (256 ≤ c.toInt ∧ c.toInt ≤ 65535)
theorem DS9.or {c : Int32} (h : 0 ≤ c.toInt ∧ c.toInt ≤ 65535) : DS9 c ∨ NS9 c := by unfold DS9 NS9; omega
theorem i9_char (x : Int32) : 0 ≤ ((x.toUInt32 % 65536).toInt32).toInt ∧ ((x.toUInt32 % 65536).toInt32).toInt ≤ 65535 := by
  rw [pk_char]
  have h : x.toBitVec.toNat % 65536 < 65536 := Nat.mod_lt _ (by decide)
  rw [nI_toInt (by omega)]
  omega
theorem i9_add {x y : Int32} {a b c d : Int} (hx : a ≤ x.toInt ∧ x.toInt ≤ b) (hy : c ≤ y.toInt ∧ y.toInt ≤ d) (h1 : -2147483648 ≤ a + c) (h2 : b + d ≤ 2147483647) : a + c ≤ (x + y).toInt ∧ (x + y).toInt ≤ b + d := by
  have h : (x + y).toInt = x.toInt + y.toInt := by
    rw [Int32.toInt_add]
    exact Int.bmod_eq_of_le (by omega) (by omega)
  omega
theorem i9_sub {x y : Int32} {a b c d : Int} (hx : a ≤ x.toInt ∧ x.toInt ≤ b) (hy : c ≤ y.toInt ∧ y.toInt ≤ d) (h1 : -2147483648 ≤ a - d) (h2 : b - c ≤ 2147483647) : a - d ≤ (x - y).toInt ∧ (x - y).toInt ≤ b - c := by
  have h : (x - y).toInt = x.toInt - y.toInt := by
    rw [Int32.toInt_sub]
    exact Int.bmod_eq_of_le (by omega) (by omega)
  omega
theorem i9_of {x : Int32} (n : Nat) (h : 0 ≤ x.toInt ∧ x.toInt < n) (hn : n ≤ 2147483648) : ∃ j : Nat, j < n ∧ x = nI j := by
  refine ⟨x.toInt.toNat, by omega, ?_⟩
  rw [← Int32.toInt_inj, nI_toInt (by omega)]
  omega
theorem i9_b1 {x : Int32} (h : 0 ≤ x.toInt ∧ x.toInt ≤ 127) : x.toInt8.toInt32 = x := by
  obtain ⟨j, hj, rfl⟩ := i9_of (x := x) 128 (by omega) (by decide)
  revert j
  decide +kernel
theorem i9_b2 {x : Int32} (h : 128 ≤ x.toInt ∧ x.toInt ≤ 255) : -128 ≤ x.toInt8.toInt32.toInt ∧ x.toInt8.toInt32.toInt ≤ -1 := by
  obtain ⟨j, hj, rfl⟩ := i9_of (x := x) 256 (by omega) (by decide)
  have k : ∀ j : Nat, j < 256 → 128 ≤ (nI j).toInt → -128 ≤ (nI j).toInt8.toInt32.toInt ∧ (nI j).toInt8.toInt32.toInt ≤ -1 := by decide +kernel
  exact k j hj h.1
theorem ea_eq {D : va_G} {cl : List vw_C} {tys : List (ClassId × FieldType)} {s : State} {cA c0 : ClassId} {ty : FieldType} (hK : va_K D cl (tys ++ [(cA, ty)]) s) (k : Nat) (hk : tys[k]? = some (c0, ty)) : cA = c0 := by
  have hkl : k < tys.length := (List.getElem?_eq_some_iff.mp hk).1
  have h1 := (hK.2 k (c0, ty) (by rw [List.getElem?_append_left hkl]; exact hk)).2
  have h2 := (hK.2 tys.length (cA, ty) (by rw [List.getElem?_append_right (Nat.le_refl _)]; simp)).2
  cases ty with
  | object C =>
    obtain ⟨_, _, _, _, _, h1⟩ := h1
    obtain ⟨_, _, _, _, _, h2⟩ := h2
    exact Option.some.inj (h2.symm.trans h1)
  | _ => exact Option.some.inj ((show s.vm.findClass _ = some cA from h2).symm.trans (show s.vm.findClass _ = some c0 from h1))
section E9
variable {p : Program} {l : Launch} {e : Env} {R : Room} {s : State} {m : MethodId} {args : Array Value} {below : List Frame} {meth : Method} {c : Code} {H H0 : Heap} {locs : List Loc} {cells slots : Nat} {Q : State → Prop} {pc : Nat} {ls : Array Slot} {rest : List Value} {cc : ByteArray} {D : va_G} {cl : List vw_C} {ws : va_W} {A : Nat → Prop} {tys : List (ClassId × FieldType)}
theorem e_newi {c0 : ClassId} (hexec : p.tables.exec = Jvm.exec) (hb : c.code = cc) (harr : (Cond.arrayClass .int).before args s = true) (hK : va_K D cl tys s) (k : Nat) (hk : tys[k]? = some (c0, .int)) (hP : va_P D cl ws H) (hD : va_D A ws) (hS : va_S A H0 H locs) (hA : ∀ q, H0.size ≤ q → A q)
    {n : Int32} (N' : Nat) (hn : ¬ n < 0) (hN : n.toNatClampNeg = N') (hbytes : N' * 4 ≤ 536870912) (hcells : cells + 1 ≤ R.cells) (hslots : slots + N' ≤ R.slots) (hdg : decode cc pc = .ok (.newarray .int, 2))
    (kk : ∀ (q : Nat) (H1 : Heap), va_P D cl (ws ++ [(q, .inl (c0, N', .inl (fun _ => 0)))]) H1 → va_D A (ws ++ [(q, .inl (c0, N', .inl (fun _ => 0)))]) → va_S A H0 H1 locs →
      W p l e R s m args below meth c H1 locs (cells + 1) (slots + N') Q (F0 m (pc + 2) ls (.ref q :: rest))) : W p l e R s m args below meth c H locs cells slots Q (F0 m pc ls (.int n :: rest)) := by
  refine va_newa (atype := .int) (ty := .int) (a0 := (N', .inl (fun _ => 0))) hexec hb harr rfl hK hP hD hS hA (fun _ => rfl) hn hN hbytes hcells hslots hdg (fun q cA H1 hK1 hP1 hD1 hS1 => ?_)
  have hc := ea_eq hK1 k hk
  subst hc
  exact kk q H1 hP1 hD1 hS1
theorem e_newc {c0 : ClassId} (hexec : p.tables.exec = Jvm.exec) (hb : c.code = cc) (harr : (Cond.arrayClass .char).before args s = true) (hK : va_K D cl tys s) (k : Nat) (hk : tys[k]? = some (c0, .char)) (hP : va_P D cl ws H) (hD : va_D A ws) (hS : va_S A H0 H locs) (hA : ∀ q, H0.size ≤ q → A q)
    {n : Int32} (N' : Nat) (hn : ¬ n < 0) (hN : n.toNatClampNeg = N') (hbytes : N' * 2 ≤ 536870912) (hcells : cells + 1 ≤ R.cells) (hslots : slots + N' ≤ R.slots) (hdg : decode cc pc = .ok (.newarray .char, 2))
    (kk : ∀ (q : Nat) (H1 : Heap), va_P D cl (ws ++ [(q, .inl (c0, N', .inl (fun _ => 0)))]) H1 → va_D A (ws ++ [(q, .inl (c0, N', .inl (fun _ => 0)))]) → va_S A H0 H1 locs →
      W p l e R s m args below meth c H1 locs (cells + 1) (slots + N') Q (F0 m (pc + 2) ls (.ref q :: rest))) : W p l e R s m args below meth c H locs cells slots Q (F0 m pc ls (.int n :: rest)) := by
  refine va_newa (atype := .char) (ty := .char) (a0 := (N', .inl (fun _ => 0))) hexec hb harr rfl hK hP hD hS hA (fun _ => rfl) hn hN hbytes hcells hslots hdg (fun q cA H1 hK1 hP1 hD1 hS1 => ?_)
  have hc := ea_eq hK1 k hk
  subst hc
  exact kk q H1 hP1 hD1 hS1
theorem e_newl {c0 : ClassId} (hexec : p.tables.exec = Jvm.exec) (hb : c.code = cc) (harr : (Cond.arrayClass .long).before args s = true) (hK : va_K D cl tys s) (k : Nat) (hk : tys[k]? = some (c0, .long)) (hP : va_P D cl ws H) (hD : va_D A ws) (hS : va_S A H0 H locs) (hA : ∀ q, H0.size ≤ q → A q)
    {n : Int32} (N' : Nat) (hn : ¬ n < 0) (hN : n.toNatClampNeg = N') (hbytes : N' * 8 ≤ 536870912) (hcells : cells + 1 ≤ R.cells) (hslots : slots + N' ≤ R.slots) (hdg : decode cc pc = .ok (.newarray .long, 2))
    (kk : ∀ (q : Nat) (H1 : Heap), va_P D cl (ws ++ [(q, .inl (c0, N', .inr (.inl (fun _ => 0))))]) H1 → va_D A (ws ++ [(q, .inl (c0, N', .inr (.inl (fun _ => 0))))]) → va_S A H0 H1 locs →
      W p l e R s m args below meth c H1 locs (cells + 1) (slots + N') Q (F0 m (pc + 2) ls (.ref q :: rest))) : W p l e R s m args below meth c H locs cells slots Q (F0 m pc ls (.int n :: rest)) := by
  refine va_newa (atype := .long) (ty := .long) (a0 := (N', .inr (.inl (fun _ => 0)))) hexec hb harr rfl hK hP hD hS hA (fun _ => rfl) hn hN hbytes hcells hslots hdg (fun q cA H1 hK1 hP1 hD1 hS1 => ?_)
  have hc := ea_eq hK1 k hk
  subst hc
  exact kk q H1 hP1 hD1 hS1
theorem e_newq {c0 : ClassId} (hexec : p.tables.exec = Jvm.exec) (hb : c.code = cc) {own C : String} {index : Nat} (hown : s.vm.findClass own = some m.cls) (hclink : (Cond.classLink own index C).before args s = true) (hover : va_AO C s) (hK : va_K D cl tys s) (k : Nat) (hk : tys[k]? = some (c0, .object C)) (hP : va_P D cl ws H) (hD : va_D A ws) (hS : va_S A H0 H locs) (hA : ∀ q, H0.size ≤ q → A q)
    {n : Int32} (N' : Nat) (hn : ¬ n < 0) (hN : n.toNatClampNeg = N') (hbytes : N' * 4 ≤ 536870912) (hcells : cells + 1 ≤ R.cells) (hslots : slots + N' ≤ R.slots) (hdg : decode cc pc = .ok (.anewarray index, 3))
    (kk : ∀ (q : Nat) (H1 : Heap), va_P D cl (ws ++ [(q, .inl (c0, N', .inr (.inr (.inr (.inr (fun _ => none))))))]) H1 → va_D A (ws ++ [(q, .inl (c0, N', .inr (.inr (.inr (.inr (fun _ => none))))))]) → va_S A H0 H1 locs →
      W p l e R s m args below meth c H1 locs (cells + 1) (slots + N') Q (F0 m (pc + 3) ls (.ref q :: rest))) : W p l e R s m args below meth c H locs cells slots Q (F0 m pc ls (.int n :: rest)) := by
  refine va_newq hexec hb hown hclink hover hK hP hD hS hA hn hN hbytes hcells hslots hdg (fun q cA H1 hK1 hP1 hD1 hS1 => ?_)
  have hc := ea_eq hK1 k hk
  subst hc
  exact kk q H1 hP1 hD1 hS1
/-- the number on top is another one that it equals -/
theorem e_top {x y : Int32} (h : x = y) (k : W p l e R s m args below meth c H locs cells slots Q (F0 m pc ls (.int y :: rest))) : W p l e R s m args below meth c H locs cells slots Q (F0 m pc ls (.int x :: rest)) := by
  subst h; exact k
theorem e_topv {x y : Value} (h : x = y) (k : W p l e R s m args below meth c H locs cells slots Q (F0 m pc ls (y :: rest))) : W p l e R s m args below meth c H locs cells slots Q (F0 m pc ls (x :: rest)) := by
  subst h; exact k
end E9

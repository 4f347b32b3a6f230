/-! THE CLAIM OUT OF ONE WALK OF THE LAW'S BODY. Your part is whole_start (and what it stands on); all else here is the same for every law, but numbers. -/
def R_law : String := "RegexloomLaw"
def lw_P (b : Addr) (xs : List Int32) (args : Array Value) (s : State) : Prop := args = #[.ref b] ∧ s.IntsAt b xs ∧ xs.length ≤ 4 ∧ (Jvm.Cond.and given_1 narrow_1).before args s = true
def lw_Q (_ : Array Value) (s : State) (o : Outcome) (t : State) : Prop := o = .returned (some (.int 1)) ∧ Framed s o t [] 600002 7302232
def lw_Z (below : List Frame) (a : Array Value) (s : State) : State → Prop := fun t => ∃ o, t.status = .running ∧ Ended t below o ∧ lw_Q a s o t
/-- the law's own end, with 1 on the stack, nothing written that was there before, its room as the claim has it -/
theorem lw_ret {p : Program} {l : Launch} {e : Env} {s : State} {m : MethodId} {below : List Frame} {meth : Method} {c : Code} {b : Nat} (hx : p.tables.exec = Jvm.exec) (hb : c.code = code) (hr : meth.sig.returnType = ret) (hlocks : meth.locks = false) {pc : Nat} {H : Heap} {ls : Array Slot} (hdg : decode code pc = .ok (.ireturn, 1)) : W p l e room_1 s m #[Value.ref b] below meth c H [] 600002 7302232 (lw_Z below #[Value.ref b] s) (F0 m pc ls [.int 1]) := by
  intro T hT X
  obtain ⟨fs, hret, hrun, hended, hW, hframe⟩ := X.leave (v := some (.int 1)) (hlocks := hlocks) (fun h => by rw [hr] at h; cases h)
  have hmeth' : T.vm.method? m = some meth := X.method'
  refine ⟨T.setFrames fs, ?_, .returned (some (.int 1)), hrun, hended, rfl, ⟨_, rfl⟩, hW, hframe⟩
  jvm_step X.here [X.here.top, hx, hb, hdg, hmeth', hr, ret, narrow_b1]
  (try refine ⟨rfl, ?_⟩); (try refine ⟨rfl, ?_⟩)
  first | (intro acts; rw [hret _ acts rfl rfl rfl]) | rw [hret _ _ rfl rfl rfl]
  exact Steps.refl _
/-- what holds at the law's entry: the machine, the code, the tables' words (any of lw_tbl by 'hts w (by decide +kernel)'), the script of L ints xs at the cell b, what the Statement gives of the start (any of its parts by flat_of_before) -/
def lw_At (p : Program) (s : State) (m : MethodId) (meth : Method) (c : Code) (b L : Nat) (xs : Nat → Int32) : Prop :=
  p.tables.exec = Jvm.exec ∧ c.code = code ∧ meth.sig.returnType = ret ∧ c.maxLocals = 7 ∧ s.vm.findClass R_law = some m.cls ∧ (∀ w ∈ lw_tbl, w.before #[Value.ref b] s = true) ∧ va_X b L xs s s.heap ∧ b < s.heap.size ∧ meth.locks = false ∧ (Jvm.Cond.and given_1 narrow_1).before #[Value.ref b] s = true
theorem k9_i {args : Array Value} {s : State} (h : (Cond.arrayClass .int).before args s = true) : ∃ cA : ClassId, ArrOfT s cA .int ∧ va_RA s cA .int := by
  obtain ⟨cA, kA, comp, h1, h2, h3⟩ := Cond.arrayClass_spec h
  exact ⟨cA, fun n z => ⟨fun k h => (by cases h), kA, h2, comp, h3⟩, h1⟩
theorem k9_c {args : Array Value} {s : State} (h : (Cond.arrayClass .char).before args s = true) : ∃ cA : ClassId, ArrOfT s cA .char ∧ va_RA s cA .char := by
  obtain ⟨cA, kA, comp, h1, h2, h3⟩ := Cond.arrayClass_spec h
  exact ⟨cA, fun n z => ⟨fun k h => (by cases h), kA, h2, comp, h3⟩, h1⟩
theorem k9_l {args : Array Value} {s : State} (h : (Cond.arrayClass .long).before args s = true) : ∃ cA : ClassId, ArrOfT s cA .long ∧ va_RA s cA .long := by
  obtain ⟨cA, kA, comp, h1, h2, h3⟩ := Cond.arrayClass_spec h
  exact ⟨cA, fun n z => ⟨fun k h => (by cases h), kA, h2, comp, h3⟩, h1⟩
theorem k9_o {args : Array Value} {s : State} {C : String} (h : (Cond.arrayOver (.object C)).before args s = true) : ∃ cA : ClassId, ArrOfT s cA (.object C) ∧ va_RA s cA (.object C) := by
  obtain ⟨comp, cA, kA, hcomp, hidx, hkA, hkindA, hnameA⟩ := Cond.arrayOver_spec h
  exact ⟨cA, fun N z => ⟨(fun k h => by cases h), kA, hkA, comp, hkindA⟩, kA, comp, hkA, hkindA, hcomp, hnameA⟩
set_option maxRecDepth 100000 in
theorem k9_in0 : ∀ w ∈ u_ws RJ6 TJ6 1, w ∈ lw_tbl := fun w h => (goodIn_r (big := lw_tbl) _ [2467] (by decide +kernel) (by decide +kernel) w h).1
set_option maxRecDepth 100000 in
theorem k9_in1 : ∀ w ∈ u_ws RJx35411 TJx35411 4, w ∈ lw_tbl := fun w h => (goodIn_r (big := lw_tbl) _ [2084, 2086, 2088, 2090] (by decide +kernel) (by decide +kernel) w h).1
set_option maxRecDepth 100000 in
theorem k9_in2 : ∀ w ∈ u_ws RJx4a65c TJx4a65c 3, w ∈ lw_tbl := fun w h => (goodIn_r (big := lw_tbl) _ [1630, 1626, 1628] (by decide +kernel) (by decide +kernel) w h).1
set_option maxRecDepth 100000 in
theorem k9_in3 : ∀ w ∈ u_ws RX0 TX0 17, w ∈ lw_tbl := fun w h => (goodIn_r (big := lw_tbl) _ [338, 340, 342, 344, 346, 348, 350, 352, 354, 356, 358, 360, 362, 364, 366, 368, 370] (by decide +kernel) (by decide +kernel) w h).1
set_option maxRecDepth 100000 in
theorem k9_in4 : ∀ w ∈ u_ws RX1 TX1 9, w ∈ lw_tbl := fun w h => (goodIn_r (big := lw_tbl) _ [464, 466, 468, 470, 472, 474, 476, 478, 480] (by decide +kernel) (by decide +kernel) w h).1
set_option maxRecDepth 100000 in
theorem k9_in5 : ∀ w ∈ u_ws RX2 TX2 2, w ∈ lw_tbl := fun w h => (goodIn_r (big := lw_tbl) _ [495, 497] (by decide +kernel) (by decide +kernel) w h).1
set_option maxRecDepth 100000 in
theorem k9_in6 : ∀ w ∈ u_ws RX3 TX3 8, w ∈ lw_tbl := fun w h => (goodIn_r (big := lw_tbl) _ [268, 270, 272, 274, 276, 278, 280, 282] (by decide +kernel) (by decide +kernel) w h).1
set_option maxRecDepth 100000 in
theorem k9_in7 : ∀ w ∈ u_ws RX4 TX4 4, w ∈ lw_tbl := fun w h => (goodIn_r (big := lw_tbl) _ [385, 387, 389, 391] (by decide +kernel) (by decide +kernel) w h).1
set_option maxRecDepth 100000 in
theorem k9_in8 : ∀ w ∈ u_ws RX5 TX5 7, w ∈ lw_tbl := fun w h => (goodIn_r (big := lw_tbl) _ [298, 300, 302, 304, 306, 308, 310] (by decide +kernel) (by decide +kernel) w h).1
set_option maxRecDepth 100000 in
theorem k9_in9 : ∀ w ∈ u_ws RX6 TX6 14, w ∈ lw_tbl := fun w h => (goodIn_r (big := lw_tbl) _ [417, 419, 421, 423, 425, 427, 429, 431, 433, 435, 437, 439, 441, 443] (by decide +kernel) (by decide +kernel) w h).1
set_option maxRecDepth 100000 in
theorem k9_in10 : ∀ w ∈ u_ws RX9 TX9 4, w ∈ lw_tbl := fun w h => (goodIn_r (big := lw_tbl) _ [221, 223, 225, 227] (by decide +kernel) (by decide +kernel) w h).1
set_option maxRecDepth 100000 in
theorem k9_in11 : ∀ w ∈ u_ws RX10 TX10 1, w ∈ lw_tbl := fun w h => (goodIn_r (big := lw_tbl) _ [233] (by decide +kernel) (by decide +kernel) w h).1
set_option maxRecDepth 100000 in
theorem k9_in12 : ∀ w ∈ u_ws RX11 TX11 17, w ∈ lw_tbl := fun w h => (goodIn_r (big := lw_tbl) _ [539, 541, 543, 545, 547, 549, 551, 553, 555, 557, 559, 561, 563, 565, 567, 569, 571] (by decide +kernel) (by decide +kernel) w h).1
set_option maxRecDepth 100000 in
theorem k9_in13 : ∀ w ∈ u_ws RX12 TX12 7, w ∈ lw_tbl := fun w h => (goodIn_r (big := lw_tbl) _ [2282, 2284, 2286, 2288, 2290, 2292, 2294] (by decide +kernel) (by decide +kernel) w h).1
set_option maxRecDepth 100000 in
theorem k9_in14 : ∀ w ∈ u_ws RX13 TX13 7, w ∈ lw_tbl := fun w h => (goodIn_r (big := lw_tbl) _ [1912, 1913, 1914, 1915, 1916, 1930, 1928] (by decide +kernel) (by decide +kernel) w h).1
set_option maxRecDepth 100000 in
theorem k9_in15 : ∀ w ∈ u_ws RX14 TX14 9, w ∈ lw_tbl := fun w h => (goodIn_r (big := lw_tbl) _ [1867, 1869, 1871, 1873, 1875, 1877, 1879, 1881, 1883] (by decide +kernel) (by decide +kernel) w h).1
set_option maxRecDepth 100000 in
theorem k9_in16 : ∀ w ∈ u_ws RX15 TX15 6, w ∈ lw_tbl := fun w h => (goodIn_r (big := lw_tbl) _ [1798, 1800, 1802, 1804, 1806, 1808] (by decide +kernel) (by decide +kernel) w h).1
set_option maxRecDepth 100000 in
theorem k9_in17 : ∀ w ∈ u_ws RX16 TX16 8, w ∈ lw_tbl := fun w h => (goodIn_r (big := lw_tbl) _ [1819, 1821, 1823, 1825, 1827, 1829, 1831, 1833] (by decide +kernel) (by decide +kernel) w h).1
set_option maxRecDepth 100000 in
theorem k9_in18 : ∀ w ∈ u_ws RX17 TX17 4, w ∈ lw_tbl := fun w h => (goodIn_r (big := lw_tbl) _ [2188, 2190, 2192, 2194] (by decide +kernel) (by decide +kernel) w h).1
set_option maxRecDepth 100000 in
theorem k9_in19 : ∀ w ∈ u_ws RX18 TX18 4, w ∈ lw_tbl := fun w h => (goodIn_r (big := lw_tbl) _ [2522, 2524, 2526, 2528] (by decide +kernel) (by decide +kernel) w h).1
set_option maxRecDepth 100000 in
theorem k9_in20 : ∀ w ∈ u_ws RX19 TX19 10, w ∈ lw_tbl := fun w h => (goodIn_r (big := lw_tbl) _ [2216, 2218, 2220, 2222, 2224, 2226, 2228, 2230, 2232, 2234] (by decide +kernel) (by decide +kernel) w h).1
set_option maxRecDepth 100000 in
theorem k9_in21 : ∀ w ∈ u_ws RX20 TX20 6, w ∈ lw_tbl := fun w h => (goodIn_r (big := lw_tbl) _ [2305, 2306, 2307, 2308, 2309, 2314] (by decide +kernel) (by decide +kernel) w h).1
set_option maxRecDepth 100000 in
theorem k9_in22 : ∀ w ∈ u_ws RX21 TX21 32, w ∈ lw_tbl := fun w h => (goodIn_r (big := lw_tbl) _ [1668, 1670, 1672, 1674, 1676, 1678, 1680, 1682, 1684, 1686, 1688, 1690, 1692, 1694, 1696, 1698, 1700, 1702, 1704, 1706, 1708, 1710, 1712, 1714, 1716, 1718, 1720, 1722, 1724, 1726, 1728, 1730] (by decide +kernel) (by decide +kernel) w h).1
set_option maxHeartbeats 4000000 in
set_option maxRecDepth 100000 in
theorem k9_K {p : Program} {s : State} {m : MethodId} {meth : Method} {c : Code} {b L : Nat} {xs : Nat → Int32} (C0 : lw_At p s m meth c b L xs) : ∃ (D : va_G) (dA : Nat → ClassId), va_K D vwCl (ty9 dA) s := by
  obtain ⟨hx, hb, hr, hml, hown, hts, hX, hbl, hlocks, hgv⟩ := C0
  obtain ⟨c0, i0, hc0⟩ := u_known (C := RJ6) (T := TJ6) (N := 1) (n := 1) hts k9_in0 (hts (.instantiable RJ6 1) (List.mem_of_getElem? (i := 2458) (by decide +kernel)))
  obtain ⟨c1, i1, hc1⟩ := u_known (C := RJx35411) (T := TJx35411) (N := 4) (n := 4) hts k9_in1 (hts (.instantiable RJx35411 4) (List.mem_of_getElem? (i := 2075) (by decide +kernel)))
  obtain ⟨c2, i2, hc2⟩ := u_known (C := RJx4a65c) (T := TJx4a65c) (N := 3) (n := 3) hts k9_in2 (hts (.instantiable RJx4a65c 3) (List.mem_of_getElem? (i := 1605) (by decide +kernel)))
  obtain ⟨c3, i3, hc3⟩ := u_known (C := RX0) (T := TX0) (N := 17) (n := 17) hts k9_in3 (hts (.instantiable RX0 17) (List.mem_of_getElem? (i := 314) (by decide +kernel)))
  obtain ⟨c4, i4, hc4⟩ := u_known (C := RX1) (T := TX1) (N := 9) (n := 9) hts k9_in4 (hts (.instantiable RX1 9) (List.mem_of_getElem? (i := 447) (by decide +kernel)))
  obtain ⟨c5, i5, hc5⟩ := u_known (C := RX2) (T := TX2) (N := 2) (n := 2) hts k9_in5 (hts (.instantiable RX2 2) (List.mem_of_getElem? (i := 486) (by decide +kernel)))
  obtain ⟨c6, i6, hc6⟩ := u_known (C := RX3) (T := TX3) (N := 8) (n := 8) hts k9_in6 (hts (.instantiable RX3 8) (List.mem_of_getElem? (i := 238) (by decide +kernel)))
  obtain ⟨c7, i7, hc7⟩ := u_known (C := RX4) (T := TX4) (N := 4) (n := 4) hts k9_in7 (hts (.instantiable RX4 4) (List.mem_of_getElem? (i := 374) (by decide +kernel)))
  obtain ⟨c8, i8, hc8⟩ := u_known (C := RX5) (T := TX5) (N := 7) (n := 7) hts k9_in8 (hts (.instantiable RX5 7) (List.mem_of_getElem? (i := 286) (by decide +kernel)))
  obtain ⟨c9, i9, hc9⟩ := u_known (C := RX6) (T := TX6) (N := 14) (n := 14) hts k9_in9 (hts (.instantiable RX6 14) (List.mem_of_getElem? (i := 395) (by decide +kernel)))
  obtain ⟨c10, i10, hc10⟩ := u_known (C := RX9) (T := TX9) (N := 4) (n := 4) hts k9_in10 (hts (.instantiable RX9 4) (List.mem_of_getElem? (i := 209) (by decide +kernel)))
  obtain ⟨c11, i11, hc11⟩ := u_known (C := RX10) (T := TX10) (N := 1) (n := 1) hts k9_in11 (hts (.instantiable RX10 1) (List.mem_of_getElem? (i := 203) (by decide +kernel)))
  obtain ⟨c12, i12, hc12⟩ := u_known (C := RX11) (T := TX11) (N := 17) (n := 17) hts k9_in12 (hts (.instantiable RX11 17) (List.mem_of_getElem? (i := 195) (by decide +kernel)))
  obtain ⟨c13, i13, hc13⟩ := u_known (C := RX12) (T := TX12) (N := 7) (n := 7) hts k9_in13 (hts (.instantiable RX12 7) (List.mem_of_getElem? (i := 2264) (by decide +kernel)))
  obtain ⟨c14, i14, hc14⟩ := u_known (C := RX13) (T := TX13) (N := 7) (n := 7) hts k9_in14 (hts (.instantiable RX13 7) (List.mem_of_getElem? (i := 1909) (by decide +kernel)))
  obtain ⟨c15, i15, hc15⟩ := u_known (C := RX14) (T := TX14) (N := 9) (n := 9) hts k9_in15 (hts (.instantiable RX14 9) (List.mem_of_getElem? (i := 1841) (by decide +kernel)))
  obtain ⟨c16, i16, hc16⟩ := u_known (C := RX15) (T := TX15) (N := 6) (n := 6) hts k9_in16 (hts (.instantiable RX15 6) (List.mem_of_getElem? (i := 1781) (by decide +kernel)))
  obtain ⟨c17, i17, hc17⟩ := u_known (C := RX16) (T := TX16) (N := 8) (n := 8) hts k9_in17 (hts (.instantiable RX16 8) (List.mem_of_getElem? (i := 1775) (by decide +kernel)))
  obtain ⟨c18, i18, hc18⟩ := u_known (C := RX17) (T := TX17) (N := 4) (n := 4) hts k9_in18 (hts (.instantiable RX17 4) (List.mem_of_getElem? (i := 2175) (by decide +kernel)))
  obtain ⟨c19, i19, hc19⟩ := u_known (C := RX18) (T := TX18) (N := 4) (n := 4) hts k9_in19 (hts (.instantiable RX18 4) (List.mem_of_getElem? (i := 2511) (by decide +kernel)))
  obtain ⟨c20, i20, hc20⟩ := u_known (C := RX19) (T := TX19) (N := 10) (n := 10) hts k9_in20 (hts (.instantiable RX19 10) (List.mem_of_getElem? (i := 2198) (by decide +kernel)))
  obtain ⟨c21, i21, hc21⟩ := u_known (C := RX20) (T := TX20) (N := 6) (n := 6) hts k9_in21 (hts (.instantiable RX20 6) (List.mem_of_getElem? (i := 2302) (by decide +kernel)))
  obtain ⟨c22, i22, hc22⟩ := u_known (C := RX21) (T := TX21) (N := 32) (n := 32) hts k9_in22 (hts (.instantiable RX21 32) (List.mem_of_getElem? (i := 1597) (by decide +kernel)))
  obtain ⟨a0, ha0⟩ := k9_i (hts (.arrayClass .int) (List.mem_of_getElem? (i := 231) (by decide +kernel)))
  obtain ⟨a1, ha1⟩ := k9_c (hts (.arrayClass .char) (List.mem_of_getElem? (i := 230) (by decide +kernel)))
  obtain ⟨a2, ha2⟩ := k9_l (hts (.arrayClass .long) (List.mem_of_getElem? (i := 1733) (by decide +kernel)))
  obtain ⟨a3, ha3⟩ := k9_o (C := "Regexloom$Pattern") (hts (.arrayOver (.object "Regexloom$Pattern")) (List.mem_of_getElem? (i := 237) (by decide +kernel)))
  obtain ⟨a4, ha4⟩ := k9_o (C := "RegexloomModel$Pattern") (hts (.arrayOver (.object "RegexloomModel$Pattern")) (List.mem_of_getElem? (i := 1603) (by decide +kernel)))
  obtain ⟨a5, ha5⟩ := k9_o (C := "RegexloomModel$Node") (hts (.arrayOver (.object "RegexloomModel$Node")) (List.mem_of_getElem? (i := 1787) (by decide +kernel)))
  obtain ⟨a6, ha6⟩ := k9_o (C := "java/lang/Object") (hts (.arrayOver (.object "java/lang/Object")) (List.mem_of_getElem? (i := 2056) (by decide +kernel)))
  refine ⟨(fun k => [c0, c1, c2, c3, c4, c5, c6, c7, c8, c9, c10, c11, c12, c13, c14, c15, c16, c17, c18, c19, c20, c21, c22].getD k 0, fun k => [i0, i1, i2, i3, i4, i5, i6, i7, i8, i9, i10, i11, i12, i13, i14, i15, i16, i17, i18, i19, i20, i21, i22].getD k (fun _ => 0)), fun k => [a0, a1, a2, a3, a4, a5, a6].getD k 0, ?_, ?_⟩
  · intro k q hq
    match k, hq with
    | 0, hq => cases hq; exact hc0
    | 1, hq => cases hq; exact hc1
    | 2, hq => cases hq; exact hc2
    | 3, hq => cases hq; exact hc3
    | 4, hq => cases hq; exact hc4
    | 5, hq => cases hq; exact hc5
    | 6, hq => cases hq; exact hc6
    | 7, hq => cases hq; exact hc7
    | 8, hq => cases hq; exact hc8
    | 9, hq => cases hq; exact hc9
    | 10, hq => cases hq; exact hc10
    | 11, hq => cases hq; exact hc11
    | 12, hq => cases hq; exact hc12
    | 13, hq => cases hq; exact hc13
    | 14, hq => cases hq; exact hc14
    | 15, hq => cases hq; exact hc15
    | 16, hq => cases hq; exact hc16
    | 17, hq => cases hq; exact hc17
    | 18, hq => cases hq; exact hc18
    | 19, hq => cases hq; exact hc19
    | 20, hq => cases hq; exact hc20
    | 21, hq => cases hq; exact hc21
    | 22, hq => cases hq; exact hc22
    | k + 23, hq => simp [vwCl] at hq
  · intro k q hq
    match k, hq with
    | 0, hq => cases hq; exact ha0
    | 1, hq => cases hq; exact ha1
    | 2, hq => cases hq; exact ha2
    | 3, hq => cases hq; exact ha3
    | 4, hq => cases hq; exact ha4
    | 5, hq => cases hq; exact ha5
    | 6, hq => cases hq; exact ha6
    | k + 7, hq => simp at hq
theorem str9x {args : Array Value} {s : State} {own tx : String} {k : Nat} (h : (Cond.stringRef own k tx).before args s = true) (hx : (Cond.exactly (.string own k) "java/lang/String").before args s = true) : ∃ sa : Nat, vk_R own k tx sa s := by
  obtain ⟨a, c, cA, kA, q1, q2, q3, q4, q5, q6, -⟩ := Cond.exactly_spec (args := args) (first := s) (o := none) (s := s) (idx := []) (t := .string own k) (cls := "java/lang/String") hx
  exact ⟨a, vk_R.of h q1⟩
set_option maxHeartbeats 8000000 in
set_option maxRecDepth 100000 in
theorem env9 {p : Program} {s : State} {m : MethodId} {meth : Method} {c : Code} {b L : Nat} {xs : Nat → Int32} (C0 : lw_At p s m meth c b L xs) : ∃ g : G9, EE g (fun q : Nat => s.heap.size ≤ q) s := by
  obtain ⟨D, dA, hK⟩ := k9_K C0
  obtain ⟨hx, hb, hr, hml, hown, hts, hX, hbl, hlocks, hgv⟩ := C0
  have hs := flat_of_before _ hgv
  have hA : ∀ a : Nat, a < s.heap.size → ¬ (fun q : Nat => s.heap.size ≤ q) a := fun a h h2 => absurd h (Nat.not_lt.mpr h2)
  obtain ⟨tD, e0, hT0⟩ := va_Tof (tm := .static "java/util/ArrayList" "DEFAULTCAPACITY_EMPTY_ELEMENTDATA" "[Ljava/lang/Object;") (ty := .object oN9) (N := 0) (f := fun _ => .null) (A := (fun q : Nat => s.heap.size ≤ q)) (by decide) (hs (.arrayOf (.static "java/util/ArrayList" "DEFAULTCAPACITY_EMPTY_ELEMENTDATA" "[Ljava/lang/Object;") (.object "java/lang/Object")) (List.mem_of_getElem? (i := 12) (by decide +kernel))) (va_eqt (hs (.eq (.length (.static "java/util/ArrayList" "DEFAULTCAPACITY_EMPTY_ELEMENTDATA" "[Ljava/lang/Object;")) (.int 0)) (List.mem_of_getElem? (i := 14) (by decide +kernel)))) (fun j hj => absurd hj (Nat.not_lt_zero j)) hA
  obtain ⟨adK, adV, hS1, hS2⟩ := vk_Sof (s := s) (args := #[Value.ref b]) (N := 1) (tm := fun _ => .string "Regexloom$Signs" 15) (len := [22]) (byt := [ob9]) (A := (fun q : Nat => s.heap.size ≤ q)) (by intro i hi; obtain rfl : i = 0 := (by omega); decide)
    (fun i hi => (hs (.exactly (.string "Regexloom$Signs" 15) "java/lang/String") (List.mem_of_getElem? (i := 250) (by decide +kernel)))) (fun i hi => (hs (.eq (.field (.string "Regexloom$Signs" 15) "java/lang/String" "coder" "B") (.int 0)) (List.mem_of_getElem? (i := 251) (by decide +kernel)))) (fun i hi => (hs (.arrayOf (.field (.string "Regexloom$Signs" 15) "java/lang/String" "value" "[B") .byte) (List.mem_of_getElem? (i := 252) (by decide +kernel))))
    (fun i hi => by obtain rfl : i = 0 := (by omega); exact (hs (.eq (.length (.field (.string "Regexloom$Signs" 15) "java/lang/String" "value" "[B")) (.int 22)) (List.mem_of_getElem? (i := 253) (by decide +kernel))))
    (fun i hi j hj => by
      have : i = 0 := by omega
      subst this
      have hj : j < 22 := hj
      match j, hj with
      | 0, hj => exact (hs (.eq (.elem (.field (.string "Regexloom$Signs" 15) "java/lang/String" "value" "[B") (.int 0)) (.int 46)) (List.mem_of_getElem? (i := 254) (by decide +kernel)))
      | 1, hj => exact (hs (.eq (.elem (.field (.string "Regexloom$Signs" 15) "java/lang/String" "value" "[B") (.int 1)) (.int 42)) (List.mem_of_getElem? (i := 255) (by decide +kernel)))
      | 2, hj => exact (hs (.eq (.elem (.field (.string "Regexloom$Signs" 15) "java/lang/String" "value" "[B") (.int 2)) (.int 43)) (List.mem_of_getElem? (i := 256) (by decide +kernel)))
      | 3, hj => exact (hs (.eq (.elem (.field (.string "Regexloom$Signs" 15) "java/lang/String" "value" "[B") (.int 3)) (.int 63)) (List.mem_of_getElem? (i := 257) (by decide +kernel)))
      | 4, hj => exact (hs (.eq (.elem (.field (.string "Regexloom$Signs" 15) "java/lang/String" "value" "[B") (.int 4)) (.int 123)) (List.mem_of_getElem? (i := 258) (by decide +kernel)))
      | 5, hj => exact (hs (.eq (.elem (.field (.string "Regexloom$Signs" 15) "java/lang/String" "value" "[B") (.int 5)) (.int 125)) (List.mem_of_getElem? (i := 259) (by decide +kernel)))
      | 6, hj => exact (hs (.eq (.elem (.field (.string "Regexloom$Signs" 15) "java/lang/String" "value" "[B") (.int 6)) (.int 40)) (List.mem_of_getElem? (i := 260) (by decide +kernel)))
      | 7, hj => exact (hs (.eq (.elem (.field (.string "Regexloom$Signs" 15) "java/lang/String" "value" "[B") (.int 7)) (.int 41)) (List.mem_of_getElem? (i := 261) (by decide +kernel)))
      | 8, hj => exact (hs (.eq (.elem (.field (.string "Regexloom$Signs" 15) "java/lang/String" "value" "[B") (.int 8)) (.int 91)) (List.mem_of_getElem? (i := 262) (by decide +kernel)))
      | 9, hj => exact (hs (.eq (.elem (.field (.string "Regexloom$Signs" 15) "java/lang/String" "value" "[B") (.int 9)) (.int 93)) (List.mem_of_getElem? (i := 263) (by decide +kernel)))
      | 10, hj => exact (hs (.eq (.elem (.field (.string "Regexloom$Signs" 15) "java/lang/String" "value" "[B") (.int 10)) (.int 124)) (List.mem_of_getElem? (i := 264) (by decide +kernel)))
      | 11, hj => exact (hs (.eq (.elem (.field (.string "Regexloom$Signs" 15) "java/lang/String" "value" "[B") (.int 11)) (.int 94)) (List.mem_of_getElem? (i := 265) (by decide +kernel)))
      | 12, hj => exact (hs (.eq (.elem (.field (.string "Regexloom$Signs" 15) "java/lang/String" "value" "[B") (.int 12)) (.int 36)) (List.mem_of_getElem? (i := 266) (by decide +kernel)))
      | 13, hj => exact (hs (.eq (.elem (.field (.string "Regexloom$Signs" 15) "java/lang/String" "value" "[B") (.int 13)) (.int 92)) (List.mem_of_getElem? (i := 267) (by decide +kernel)))
      | 14, hj => exact (hs (.eq (.elem (.field (.string "Regexloom$Signs" 15) "java/lang/String" "value" "[B") (.int 14)) (.int 44)) (List.mem_of_getElem? (i := 268) (by decide +kernel)))
      | 15, hj => exact (hs (.eq (.elem (.field (.string "Regexloom$Signs" 15) "java/lang/String" "value" "[B") (.int 15)) (.int 58)) (List.mem_of_getElem? (i := 269) (by decide +kernel)))
      | 16, hj => exact (hs (.eq (.elem (.field (.string "Regexloom$Signs" 15) "java/lang/String" "value" "[B") (.int 16)) (.int 61)) (List.mem_of_getElem? (i := 270) (by decide +kernel)))
      | 17, hj => exact (hs (.eq (.elem (.field (.string "Regexloom$Signs" 15) "java/lang/String" "value" "[B") (.int 17)) (.int 33)) (List.mem_of_getElem? (i := 271) (by decide +kernel)))
      | 18, hj => exact (hs (.eq (.elem (.field (.string "Regexloom$Signs" 15) "java/lang/String" "value" "[B") (.int 18)) (.int 60)) (List.mem_of_getElem? (i := 272) (by decide +kernel)))
      | 19, hj => exact (hs (.eq (.elem (.field (.string "Regexloom$Signs" 15) "java/lang/String" "value" "[B") (.int 19)) (.int 62)) (List.mem_of_getElem? (i := 273) (by decide +kernel)))
      | 20, hj => exact (hs (.eq (.elem (.field (.string "Regexloom$Signs" 15) "java/lang/String" "value" "[B") (.int 20)) (.int 45)) (List.mem_of_getElem? (i := 274) (by decide +kernel)))
      | 21, hj => exact (hs (.eq (.elem (.field (.string "Regexloom$Signs" 15) "java/lang/String" "value" "[B") (.int 21)) (.int 35)) (List.mem_of_getElem? (i := 275) (by decide +kernel)))
      | j + 22, hj => exact absurd hj (by omega))
    (fun i j hi hj h => absurd (show i = j by omega) h) hA
  have hS3 := hS2 0 (by decide)
  obtain ⟨aM, hM⟩ := str9x (own := "RegexloomModel") (k := 7) (tx := ot9) (hts (.stringRef "RegexloomModel" 7 ".*+?{}()[]|^$\\,:=!<>-#") (List.mem_of_getElem? (i := 1748) (by decide +kernel))) (hs (.exactly (.string "RegexloomModel" 7) "java/lang/String") (List.mem_of_getElem? (i := 810) (by decide +kernel)))
  have heq : aM = adK 0 := by
    have h1 := (hs (.eq (.string "Regexloom$Signs" 15) (.string "RegexloomModel" 7)) (List.mem_of_getElem? (i := 837) (by decide +kernel)))
    obtain ⟨v, h2, h3⟩ := Cond.eq_one (show (Cond.eq (.string "Regexloom$Signs" 15) (.string "RegexloomModel" 7)).holds #[Value.ref b] s none s [] = true from h1)
    have h4 : (Term.string "RegexloomModel" 7).eval #[Value.ref b] s none [] s = some (.ref aM) := hM.2
    have h5 : some (Value.ref aM) = some (Value.ref (adK 0)) := by rw [← h4, ← hS3, h3, h2]
    injection h5 with h5; injection h5
  have hS0 : vk_S 1 [22] [ob9] (fun _ => adK 0) (fun _ => adV 0) (fun q : Nat => s.heap.size ≤ q) s s.heap := by
    refine ⟨fun i hi => ?_, fun i j hi hj _ => by omega⟩
    have : i = 0 := by omega
    subst this
    exact hS1.1 0 (by decide)
  refine ⟨(D, dA, fun k => [tD, adK 0, adV 0].getD k 0), hK, ?_, ?_, ?_, ?_, ?_, ?_, hT0, ?_, ?_, ?_, ⟨?_, hS0⟩, ⟨?_, hS0⟩, ?_, ?_, ?_, ?_⟩
  · exact vx_Zqof (hts (.laysStatic "java/lang/Throwable" "UNASSIGNED_STACK" "[Ljava/lang/StackTraceElement;") (List.mem_of_getElem? (i := 887) (by decide +kernel))) (hts (.initialized "java/lang/Throwable") (List.mem_of_getElem? (i := 172) (by decide +kernel))) (hs (.isRef (.static "java/lang/Throwable" "UNASSIGNED_STACK" "[Ljava/lang/StackTraceElement;")) (List.mem_of_getElem? (i := 9) (by decide +kernel))) hA
  · exact vx_Zqof (hts (.laysStatic "java/lang/Throwable" "SUPPRESSED_SENTINEL" "Ljava/util/List;") (List.mem_of_getElem? (i := 889) (by decide +kernel))) (hts (.initialized "java/lang/Throwable") (List.mem_of_getElem? (i := 172) (by decide +kernel))) (hs (.isRef (.static "java/lang/Throwable" "SUPPRESSED_SENTINEL" "Ljava/util/List;")) (List.mem_of_getElem? (i := 10) (by decide +kernel))) hA
  · intro q hq
    simp only [str9, List.mem_cons, List.not_mem_nil, or_false] at hq
    rcases hq with rfl | rfl | rfl | rfl | rfl | rfl | rfl | rfl
    · exact str9x (hts (.stringRef "Regexloom" 111 "no draft has this sign") (List.mem_of_getElem? (i := 903) (by decide +kernel))) (hs (.exactly (.string "Regexloom" 111) "java/lang/String") (List.mem_of_getElem? (i := 277) (by decide +kernel)))
    · exact str9x (hts (.stringRef "Regexloom" 178 "no such budget") (List.mem_of_getElem? (i := 1059) (by decide +kernel))) (hs (.exactly (.string "Regexloom" 178) "java/lang/String") (List.mem_of_getElem? (i := 487) (by decide +kernel)))
    · exact str9x (hts (.stringRef "Regexloom" 222 "no such group") (List.mem_of_getElem? (i := 1413) (by decide +kernel))) (hs (.exactly (.string "Regexloom" 222) "java/lang/String") (List.mem_of_getElem? (i := 580) (by decide +kernel)))
    · exact str9x (hts (.stringRef "Regexloom" 245 "no such match") (List.mem_of_getElem? (i := 1533) (by decide +kernel))) (hs (.exactly (.string "Regexloom" 245) "java/lang/String") (List.mem_of_getElem? (i := 652) (by decide +kernel)))
    · exact str9x (hts (.stringRef "Regexloom" 263 "no such sign of the out") (List.mem_of_getElem? (i := 1590) (by decide +kernel))) (hs (.exactly (.string "Regexloom" 263) "java/lang/String") (List.mem_of_getElem? (i := 766) (by decide +kernel)))
    · exact str9x (hts (.stringRef "Regexloom" 268 "no such pattern") (List.mem_of_getElem? (i := 966) (by decide +kernel))) (hs (.exactly (.string "Regexloom" 268) "java/lang/String") (List.mem_of_getElem? (i := 329) (by decide +kernel)))
    · exact str9x (hts (.stringRef "Regexloom" 270 "no such place") (List.mem_of_getElem? (i := 1071) (by decide +kernel))) (hs (.exactly (.string "Regexloom" 270) "java/lang/String") (List.mem_of_getElem? (i := 514) (by decide +kernel)))
    · exact str9x (hts (.stringRef "Regexloom" 272 "the pattern is not told") (List.mem_of_getElem? (i := 1044) (by decide +kernel))) (hs (.exactly (.string "Regexloom" 272) "java/lang/String") (List.mem_of_getElem? (i := 452) (by decide +kernel)))
  · intro q hq
    simp only [cast9, List.mem_cons, List.not_mem_nil, or_false] at hq
    rcases hq with rfl | rfl | rfl | rfl | rfl | rfl
    · exact va_Nw.of rfl (hts (.castable "java/lang/IllegalArgumentException" "java/lang/IllegalArgumentException") (List.mem_of_getElem? (i := 862) (by decide +kernel)))
    · exact va_Nw.of rfl (hts (.castable "java/lang/IllegalStateException" "java/lang/IllegalStateException") (List.mem_of_getElem? (i := 931) (by decide +kernel)))
    · exact va_Nw.of rfl (hts (.castable "java/lang/IndexOutOfBoundsException" "java/lang/IndexOutOfBoundsException") (List.mem_of_getElem? (i := 959) (by decide +kernel)))
    · exact va_Nw.of rfl (hts (.castable "java/util/ArrayList" "java/lang/Object") (List.mem_of_getElem? (i := 2662) (by decide +kernel)))
    · exact va_Nw.of rfl (hts (.castable "RegexloomModel$Node" "java/lang/Object") (List.mem_of_getElem? (i := 2650) (by decide +kernel)))
    · exact va_Nw.of rfl (hts (.castable "java/util/ArrayList$Itr" "java/util/Iterator") (List.mem_of_getElem? (i := 2097) (by decide +kernel)))
  · intro q hq
    simp only [nc9, List.mem_cons, List.not_mem_nil, or_false] at hq
    rcases hq with rfl | rfl
    · exact va_Nc.of (hs (.not (.castable "java/lang/IllegalStateException" "java/lang/IllegalArgumentException")) (List.mem_of_getElem? (i := 37) (by decide +kernel)))
    · exact va_Nc.of (hs (.not (.castable "java/lang/IllegalStateException" "java/lang/IndexOutOfBoundsException")) (List.mem_of_getElem? (i := 88) (by decide +kernel)))
  · exact va_Zof (hts (.laysStatic "java/util/ArrayList" "DEFAULTCAPACITY_EMPTY_ELEMENTDATA" "[Ljava/lang/Object;") (List.mem_of_getElem? (i := 1617) (by decide +kernel))) (hts (.initialized "java/util/ArrayList") (List.mem_of_getElem? (i := 165) (by decide +kernel))) e0 hA
  · exact va_Zof (hts (.laysStatic "java/lang/String" "COMPACT_STRINGS" "Z") (List.mem_of_getElem? (i := 680) (by decide +kernel))) (hts (.initialized "java/lang/String") (List.mem_of_getElem? (i := 167) (by decide +kernel))) (va_eqt (hs (.eq (.static "java/lang/String" "COMPACT_STRINGS" "Z") (.int 1)) (List.mem_of_getElem? (i := 4) (by decide +kernel)))) hA
  · exact va_Fw.of (hts (.declares ⟨"java/util/Iterator", "hasNext", "()Z"⟩) (List.mem_of_getElem? (i := 2096) (by decide +kernel))) (hts (.interfaceMethod "java/util/Iterator" "java/util/Iterator" "hasNext" "()Z") (List.mem_of_getElem? (i := 2095) (by decide +kernel))) (hts (.publicMethod ⟨"java/util/ArrayList$Itr", "hasNext", "()Z"⟩) (List.mem_of_getElem? (i := 2101) (by decide +kernel))) (hts (.unhidden "java/util/ArrayList$Itr" "hasNext" "()Z") (List.mem_of_getElem? (i := 2099) (by decide +kernel))) (hts (.castable "java/util/ArrayList$Itr" "java/util/Iterator") (List.mem_of_getElem? (i := 2097) (by decide +kernel)))
  · exact va_Fw.of (hts (.declares ⟨"java/util/Iterator", "next", "()Ljava/lang/Object;"⟩) (List.mem_of_getElem? (i := 2106) (by decide +kernel))) (hts (.interfaceMethod "java/util/Iterator" "java/util/Iterator" "next" "()Ljava/lang/Object;") (List.mem_of_getElem? (i := 2105) (by decide +kernel))) (hts (.publicMethod ⟨"java/util/ArrayList$Itr", "next", "()Ljava/lang/Object;"⟩) (List.mem_of_getElem? (i := 2110) (by decide +kernel))) (hts (.unhidden "java/util/ArrayList$Itr" "next" "()Ljava/lang/Object;") (List.mem_of_getElem? (i := 2108) (by decide +kernel))) (hts (.castable "java/util/ArrayList$Itr" "java/util/Iterator") (List.mem_of_getElem? (i := 2097) (by decide +kernel)))
  · exact vk_R.of (hts (.stringRef "Regexloom$Signs" 15 ".*+?{}()[]|^$\\,:=!<>-#") (List.mem_of_getElem? (i := 858) (by decide +kernel))) hS3
  · rw [← heq]; exact hM
  · exact va_Nw.of rfl (hts (.methodLinkNest "RegexloomModel$Reader" 11 ⟨"RegexloomModel$Pattern", "<init>", "()V"⟩ "RegexloomModel") (List.mem_of_getElem? (i := 1782) (by decide +kernel)))
  · exact va_Nw.of rfl (hts (.fieldLinkNest "java/util/ArrayList$Itr" 28 "java/util/ArrayList" "size" "I" "java/util/ArrayList") (List.mem_of_getElem? (i := 1620) (by decide +kernel)))
  · intro q hq
    simp only [decl9, List.mem_cons, List.not_mem_nil, or_false] at hq
    rcases hq with rfl | rfl | rfl
    · exact va_Nw.of rfl (hts (.declares (Bundle.initS "java/lang/RuntimeException")) (List.mem_of_getElem? (i := 864) (by decide +kernel)))
    · exact va_Nw.of rfl (hts (.declares (Bundle.initS "java/lang/Exception")) (List.mem_of_getElem? (i := 866) (by decide +kernel)))
    · exact va_Nw.of rfl (hts (.declares (Bundle.initS "java/lang/Throwable")) (List.mem_of_getElem? (i := 868) (by decide +kernel)))
  · intro q hq
    simp only [ao9, List.mem_cons, List.not_mem_nil, or_false] at hq
    rcases hq with rfl | rfl | rfl | rfl
    · exact va_AO.of (hts (.arrayOver (.object "Regexloom$Pattern")) (List.mem_of_getElem? (i := 237) (by decide +kernel)))
    · exact va_AO.of (hts (.arrayOver (.object "RegexloomModel$Pattern")) (List.mem_of_getElem? (i := 1603) (by decide +kernel)))
    · exact va_AO.of (hts (.arrayOver (.object "RegexloomModel$Node")) (List.mem_of_getElem? (i := 1787) (by decide +kernel)))
    · exact va_AO.of (hts (.arrayOver (.object "java/lang/Object")) (List.mem_of_getElem? (i := 2056) (by decide +kernel)))

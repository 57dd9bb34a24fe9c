set_option maxHeartbeats 2000000 in
set_option maxRecDepth 100000 in
theorem pf_0 : (fJ7_fill_d0a16 1000 40 (fun _ => 0) 0).isSome = true := by decide +kernel
set_option maxHeartbeats 2000000 in
set_option maxRecDepth 100000 in
theorem pl_0 : ∀ i : Fin 8, (lp (u2 (fX7_row_s67 (Int32.ofNat i.1))) 1000 (0, fun _ _ => 0)).isSome = true := by decide +kernel
set_option maxHeartbeats 2000000 in
set_option maxRecDepth 100000 in
theorem pe_0 (p1 : Int32) (p2 : Int32) (p3 : Int32) : ∃ ox om, fX6_row 1000 N0_6 N0_2 p1 p2 p3 = some ox ∧ fX7_row 1000 N0_7 p1 p2 p3 = some om ∧ ox.1 = om.1 := by
  apply chB_ok (f := Prod.fst) (g := Prod.fst)
  rcases wj p1 0 7 8 (by decide) (by decide) with h0 | ⟨h0, l0, b0⟩
  · simp [fX6_row, fX7_row, fX2_has, h0, chB_some, chJ_some, Option.bind_some, N0_0, N0_1, N0_2, N0_3, N0_4, N0_5, N0_6, M0, zb0, zb1, rf6_2, rf6_4, rf6_5, rf7_2, rf7_4, rf7_5, wn, wn10, in_none, in_none', in_none'', inw_0_7, inw_0_4, inw_0_40, inw_0_11, inw_0_5, inw_0_2, inw_0_99, inw_1_30, inw_12_16, inw_1_20, inw_0_30, inw_0_9999, inw_1_7, inw_1_60, inw_1_999, inw_1_99, inw_1_5, inw_1_4, inw_0_6, inw_0_9, inw_10_9, inw_0_3, e2, e3, e4, e5, e6, e7, e8, e9, e10, e11, e12, e13, e14, e15, e16, e18, e24, e25, e26, e27, e28, e35]
  rcases wj p2 0 4 5 (by decide) (by decide) with h1 | ⟨h1, l1, b1⟩
  · simp [fX6_row, fX7_row, fX2_has, h0, h1, chB_some, chJ_some, Option.bind_some, N0_0, N0_1, N0_2, N0_3, N0_4, N0_5, N0_6, M0, zb0, zb1, rf6_2, rf6_4, rf6_5, rf7_2, rf7_4, rf7_5, wn, wn10, in_none, in_none', in_none'', inw_0_7, inw_0_4, inw_0_40, inw_0_11, inw_0_5, inw_0_2, inw_0_99, inw_1_30, inw_12_16, inw_1_20, inw_0_30, inw_0_9999, inw_1_7, inw_1_60, inw_1_999, inw_1_99, inw_1_5, inw_1_4, inw_0_6, inw_0_9, inw_10_9, inw_0_3, e2, e3, e4, e5, e6, e7, e8, e9, e10, e11, e12, e13, e14, e15, e16, e18, e24, e25, e26, e27, e28, e35]
  rcases wj p3 0 40 41 (by decide) (by decide) with h2 | ⟨h2, l2, b2⟩
  · simp [fX6_row, fX7_row, fX2_has, h0, h1, h2, chB_some, chJ_some, Option.bind_some, N0_0, N0_1, N0_2, N0_3, N0_4, N0_5, N0_6, M0, zb0, zb1, rf6_2, rf6_4, rf6_5, rf7_2, rf7_4, rf7_5, wn, wn10, in_none, in_none', in_none'', inw_0_7, inw_0_4, inw_0_40, inw_0_11, inw_0_5, inw_0_2, inw_0_99, inw_1_30, inw_12_16, inw_1_20, inw_0_30, inw_0_9999, inw_1_7, inw_1_60, inw_1_999, inw_1_99, inw_1_5, inw_1_4, inw_0_6, inw_0_9, inw_10_9, inw_0_3, e2, e3, e4, e5, e6, e7, e8, e9, e10, e11, e12, e13, e14, e15, e16, e18, e24, e25, e26, e27, e28, e35]
  have hi := inb_of l0 b0
  obtain ⟨g, hg⟩ := Option.isSome_iff_exists.mp pf_0
  obtain ⟨w, hw⟩ := Option.isSome_iff_exists.mp (en (P := fun p1 => (lp (u2 (fX7_row_s67 p1)) 1000 (0, fun _ _ => 0)).isSome = true) 8 pl_0 l0 b0)
  simp [fX6_row, fX7_row, fX2_has, fX2_putRow, h0, h1, h2, wr_c hi, ck_c hi, hg, hw, chB_some, chJ_some, Option.bind_some, N0_0, N0_1, N0_2, N0_3, N0_4, N0_5, N0_6, M0, zb0, zb1, rf6_2, rf6_4, rf6_5, rf7_2, rf7_4, rf7_5, wn, wn10, in_none, in_none', in_none'', inw_0_7, inw_0_4, inw_0_40, inw_0_11, inw_0_5, inw_0_2, inw_0_99, inw_1_30, inw_12_16, inw_1_20, inw_0_30, inw_0_9999, inw_1_7, inw_1_60, inw_1_999, inw_1_99, inw_1_5, inw_1_4, inw_0_6, inw_0_9, inw_10_9, inw_0_3, e2, e3, e4, e5, e6, e7, e8, e9, e10, e11, e12, e13, e14, e15, e16, e18, e24, e25, e26, e27, e28, e35]
set_option maxHeartbeats 2000000 in
set_option maxRecDepth 100000 in
theorem pe_7 (p1 : Int32) (p2 : Int32) (p3 : Int32) (p4 : Int32) (p5 : Int32) (p6 : Int32) : ∃ ox om, fX6_line N0_6 N0_1 p1 p2 p3 p4 p5 p6 = some ox ∧ fX7_line N0_7 p1 p2 p3 p4 p5 p6 = some om ∧ ox.1 = om.1 := by
  apply chB_ok (f := Prod.fst) (g := Prod.fst)
  rcases wj p1 0 11 12 (by decide) (by decide) with h0 | ⟨h0, l0, b0⟩
  · simp [fX6_line, fX7_line, fX7_line_j48, fX7_line_j49, fX6_isPlace, fX7_isPlace, h0, chB_some, chJ_some, Option.bind_some, N0_0, N0_1, N0_2, N0_3, N0_4, N0_5, N0_6, M0, zb0, zb1, rf6_2, rf6_4, rf6_5, rf7_2, rf7_4, rf7_5, wn, wn10, in_none, in_none', in_none'', inw_0_7, inw_0_4, inw_0_40, inw_0_11, inw_0_5, inw_0_2, inw_0_99, inw_1_30, inw_12_16, inw_1_20, inw_0_30, inw_0_9999, inw_1_7, inw_1_60, inw_1_999, inw_1_99, inw_1_5, inw_1_4, inw_0_6, inw_0_9, inw_10_9, inw_0_3, e2, e3, e4, e5, e6, e7, e8, e9, e10, e11, e12, e13, e14, e15, e16, e18, e24, e25, e26, e27, e28, e35]
  rcases wj p2 0 11 12 (by decide) (by decide) with h1 | ⟨h1, l1, b1⟩
  · simp [fX6_line, fX7_line, fX7_line_j48, fX7_line_j49, fX6_isPlace, fX7_isPlace, h0, h1, chB_some, chJ_some, Option.bind_some, N0_0, N0_1, N0_2, N0_3, N0_4, N0_5, N0_6, M0, zb0, zb1, rf6_2, rf6_4, rf6_5, rf7_2, rf7_4, rf7_5, wn, wn10, in_none, in_none', in_none'', inw_0_7, inw_0_4, inw_0_40, inw_0_11, inw_0_5, inw_0_2, inw_0_99, inw_1_30, inw_12_16, inw_1_20, inw_0_30, inw_0_9999, inw_1_7, inw_1_60, inw_1_999, inw_1_99, inw_1_5, inw_1_4, inw_0_6, inw_0_9, inw_10_9, inw_0_3, e2, e3, e4, e5, e6, e7, e8, e9, e10, e11, e12, e13, e14, e15, e16, e18, e24, e25, e26, e27, e28, e35]
  by_cases hne : p1 = p2
  · subst hne
    simp [fX6_line, fX7_line, fX7_line_j48, fX7_line_j49, fX6_isPlace, fX7_isPlace, h0, h1, chB_some, chJ_some, Option.bind_some, N0_0, N0_1, N0_2, N0_3, N0_4, N0_5, N0_6, M0, zb0, zb1, rf6_2, rf6_4, rf6_5, rf7_2, rf7_4, rf7_5, wn, wn10, in_none, in_none', in_none'', inw_0_7, inw_0_4, inw_0_40, inw_0_11, inw_0_5, inw_0_2, inw_0_99, inw_1_30, inw_12_16, inw_1_20, inw_0_30, inw_0_9999, inw_1_7, inw_1_60, inw_1_999, inw_1_99, inw_1_5, inw_1_4, inw_0_6, inw_0_9, inw_10_9, inw_0_3, e2, e3, e4, e5, e6, e7, e8, e9, e10, e11, e12, e13, e14, e15, e16, e18, e24, e25, e26, e27, e28, e35]
  rcases wj p3 1 7 8 (by decide) (by decide) with h2 | ⟨h2, l2, b2⟩
  · simp [fX6_line, fX7_line, fX7_line_j48, fX7_line_j49, fX6_isPlace, fX7_isPlace, hne, h0, h1, h2, chB_some, chJ_some, Option.bind_some, N0_0, N0_1, N0_2, N0_3, N0_4, N0_5, N0_6, M0, zb0, zb1, rf6_2, rf6_4, rf6_5, rf7_2, rf7_4, rf7_5, wn, wn10, in_none, in_none', in_none'', inw_0_7, inw_0_4, inw_0_40, inw_0_11, inw_0_5, inw_0_2, inw_0_99, inw_1_30, inw_12_16, inw_1_20, inw_0_30, inw_0_9999, inw_1_7, inw_1_60, inw_1_999, inw_1_99, inw_1_5, inw_1_4, inw_0_6, inw_0_9, inw_10_9, inw_0_3, e2, e3, e4, e5, e6, e7, e8, e9, e10, e11, e12, e13, e14, e15, e16, e18, e24, e25, e26, e27, e28, e35]
  rcases wj p4 1 60 61 (by decide) (by decide) with h3 | ⟨h3, l3, b3⟩
  · simp [fX6_line, fX7_line, fX7_line_j48, fX7_line_j49, fX6_isPlace, fX7_isPlace, hne, h0, h1, h2, h3, chB_some, chJ_some, Option.bind_some, N0_0, N0_1, N0_2, N0_3, N0_4, N0_5, N0_6, M0, zb0, zb1, rf6_2, rf6_4, rf6_5, rf7_2, rf7_4, rf7_5, wn, wn10, in_none, in_none', in_none'', inw_0_7, inw_0_4, inw_0_40, inw_0_11, inw_0_5, inw_0_2, inw_0_99, inw_1_30, inw_12_16, inw_1_20, inw_0_30, inw_0_9999, inw_1_7, inw_1_60, inw_1_999, inw_1_99, inw_1_5, inw_1_4, inw_0_6, inw_0_9, inw_10_9, inw_0_3, e2, e3, e4, e5, e6, e7, e8, e9, e10, e11, e12, e13, e14, e15, e16, e18, e24, e25, e26, e27, e28, e35]
  rcases wj p5 1 999 1000 (by decide) (by decide) with h4 | ⟨h4, l4, b4⟩
  · simp [fX6_line, fX7_line, fX7_line_j48, fX7_line_j49, fX6_isPlace, fX7_isPlace, hne, h0, h1, h2, h3, h4, chB_some, chJ_some, Option.bind_some, N0_0, N0_1, N0_2, N0_3, N0_4, N0_5, N0_6, M0, zb0, zb1, rf6_2, rf6_4, rf6_5, rf7_2, rf7_4, rf7_5, wn, wn10, in_none, in_none', in_none'', inw_0_7, inw_0_4, inw_0_40, inw_0_11, inw_0_5, inw_0_2, inw_0_99, inw_1_30, inw_12_16, inw_1_20, inw_0_30, inw_0_9999, inw_1_7, inw_1_60, inw_1_999, inw_1_99, inw_1_5, inw_1_4, inw_0_6, inw_0_9, inw_10_9, inw_0_3, e2, e3, e4, e5, e6, e7, e8, e9, e10, e11, e12, e13, e14, e15, e16, e18, e24, e25, e26, e27, e28, e35]
  rcases wj p6 0 5 6 (by decide) (by decide) with h5 | ⟨h5, l5, b5⟩
  · simp [fX6_line, fX7_line, fX7_line_j48, fX7_line_j49, fX6_isPlace, fX7_isPlace, hne, h0, h1, h2, h3, h4, h5, chB_some, chJ_some, Option.bind_some, N0_0, N0_1, N0_2, N0_3, N0_4, N0_5, N0_6, M0, zb0, zb1, rf6_2, rf6_4, rf6_5, rf7_2, rf7_4, rf7_5, wn, wn10, in_none, in_none', in_none'', inw_0_7, inw_0_4, inw_0_40, inw_0_11, inw_0_5, inw_0_2, inw_0_99, inw_1_30, inw_12_16, inw_1_20, inw_0_30, inw_0_9999, inw_1_7, inw_1_60, inw_1_999, inw_1_99, inw_1_5, inw_1_4, inw_0_6, inw_0_9, inw_10_9, inw_0_3, e2, e3, e4, e5, e6, e7, e8, e9, e10, e11, e12, e13, e14, e15, e16, e18, e24, e25, e26, e27, e28, e35]
  simp [fX6_line, fX7_line, fX7_line_j48, fX7_line_j49, fX6_isPlace, fX7_isPlace, hne, h0, h1, h2, h3, h4, h5, fX1_addLine, fX7_newLine, wr, ck, inb, chB_some, chJ_some, Option.bind_some, N0_0, N0_1, N0_2, N0_3, N0_4, N0_5, N0_6, M0, zb0, zb1, rf6_2, rf6_4, rf6_5, rf7_2, rf7_4, rf7_5, wn, wn10, in_none, in_none', in_none'', inw_0_7, inw_0_4, inw_0_40, inw_0_11, inw_0_5, inw_0_2, inw_0_99, inw_1_30, inw_12_16, inw_1_20, inw_0_30, inw_0_9999, inw_1_7, inw_1_60, inw_1_999, inw_1_99, inw_1_5, inw_1_4, inw_0_6, inw_0_9, inw_10_9, inw_0_3, e2, e3, e4, e5, e6, e7, e8, e9, e10, e11, e12, e13, e14, e15, e16, e18, e24, e25, e26, e27, e28, e35]
set_option maxHeartbeats 2000000 in
set_option maxRecDepth 100000 in
theorem pe_8 (p1 : Int32) (p2 : Int32) (p3 : Int32) : ∃ ox om, fX6_goods N0_6 N0_1 p1 p2 p3 = some ox ∧ fX7_goods N0_7 p1 p2 p3 = some om ∧ ox.1 = om.1 := by
  apply chB_ok (f := Prod.fst) (g := Prod.fst)
  rcases wj p1 0 11 12 (by decide) (by decide) with h0 | ⟨h0, l0, b0⟩
  · simp [fX6_goods, fX7_goods, fX6_isPlace, fX7_isPlace, h0, chB_some, chJ_some, Option.bind_some, N0_0, N0_1, N0_2, N0_3, N0_4, N0_5, N0_6, M0, zb0, zb1, rf6_2, rf6_4, rf6_5, rf7_2, rf7_4, rf7_5, wn, wn10, in_none, in_none', in_none'', inw_0_7, inw_0_4, inw_0_40, inw_0_11, inw_0_5, inw_0_2, inw_0_99, inw_1_30, inw_12_16, inw_1_20, inw_0_30, inw_0_9999, inw_1_7, inw_1_60, inw_1_999, inw_1_99, inw_1_5, inw_1_4, inw_0_6, inw_0_9, inw_10_9, inw_0_3, e2, e3, e4, e5, e6, e7, e8, e9, e10, e11, e12, e13, e14, e15, e16, e18, e24, e25, e26, e27, e28, e35]
  rcases wj p2 0 11 12 (by decide) (by decide) with h1 | ⟨h1, l1, b1⟩
  · simp [fX6_goods, fX7_goods, fX6_isPlace, fX7_isPlace, h0, h1, chB_some, chJ_some, Option.bind_some, N0_0, N0_1, N0_2, N0_3, N0_4, N0_5, N0_6, M0, zb0, zb1, rf6_2, rf6_4, rf6_5, rf7_2, rf7_4, rf7_5, wn, wn10, in_none, in_none', in_none'', inw_0_7, inw_0_4, inw_0_40, inw_0_11, inw_0_5, inw_0_2, inw_0_99, inw_1_30, inw_12_16, inw_1_20, inw_0_30, inw_0_9999, inw_1_7, inw_1_60, inw_1_999, inw_1_99, inw_1_5, inw_1_4, inw_0_6, inw_0_9, inw_10_9, inw_0_3, e2, e3, e4, e5, e6, e7, e8, e9, e10, e11, e12, e13, e14, e15, e16, e18, e24, e25, e26, e27, e28, e35]
  by_cases hne : p1 = p2
  · subst hne
    simp [fX6_goods, fX7_goods, fX6_isPlace, fX7_isPlace, h0, h1, chB_some, chJ_some, Option.bind_some, N0_0, N0_1, N0_2, N0_3, N0_4, N0_5, N0_6, M0, zb0, zb1, rf6_2, rf6_4, rf6_5, rf7_2, rf7_4, rf7_5, wn, wn10, in_none, in_none', in_none'', inw_0_7, inw_0_4, inw_0_40, inw_0_11, inw_0_5, inw_0_2, inw_0_99, inw_1_30, inw_12_16, inw_1_20, inw_0_30, inw_0_9999, inw_1_7, inw_1_60, inw_1_999, inw_1_99, inw_1_5, inw_1_4, inw_0_6, inw_0_9, inw_10_9, inw_0_3, e2, e3, e4, e5, e6, e7, e8, e9, e10, e11, e12, e13, e14, e15, e16, e18, e24, e25, e26, e27, e28, e35]
  rcases wj p3 1 99 100 (by decide) (by decide) with h2 | ⟨h2, l2, b2⟩
  · simp [fX6_goods, fX7_goods, fX6_isPlace, fX7_isPlace, hne, h0, h1, h2, chB_some, chJ_some, Option.bind_some, N0_0, N0_1, N0_2, N0_3, N0_4, N0_5, N0_6, M0, zb0, zb1, rf6_2, rf6_4, rf6_5, rf7_2, rf7_4, rf7_5, wn, wn10, in_none, in_none', in_none'', inw_0_7, inw_0_4, inw_0_40, inw_0_11, inw_0_5, inw_0_2, inw_0_99, inw_1_30, inw_12_16, inw_1_20, inw_0_30, inw_0_9999, inw_1_7, inw_1_60, inw_1_999, inw_1_99, inw_1_5, inw_1_4, inw_0_6, inw_0_9, inw_10_9, inw_0_3, e2, e3, e4, e5, e6, e7, e8, e9, e10, e11, e12, e13, e14, e15, e16, e18, e24, e25, e26, e27, e28, e35]
  simp [fX6_goods, fX7_goods, fX6_isPlace, fX7_isPlace, hne, h0, h1, h2, fX1_addGoods, wr, ck, inb, chB_some, chJ_some, Option.bind_some, N0_0, N0_1, N0_2, N0_3, N0_4, N0_5, N0_6, M0, zb0, zb1, rf6_2, rf6_4, rf6_5, rf7_2, rf7_4, rf7_5, wn, wn10, in_none, in_none', in_none'', inw_0_7, inw_0_4, inw_0_40, inw_0_11, inw_0_5, inw_0_2, inw_0_99, inw_1_30, inw_12_16, inw_1_20, inw_0_30, inw_0_9999, inw_1_7, inw_1_60, inw_1_999, inw_1_99, inw_1_5, inw_1_4, inw_0_6, inw_0_9, inw_10_9, inw_0_3, e2, e3, e4, e5, e6, e7, e8, e9, e10, e11, e12, e13, e14, e15, e16, e18, e24, e25, e26, e27, e28, e35]
set_option maxHeartbeats 2000000 in
set_option maxRecDepth 100000 in
theorem isu : ∀ i : Fin 6, ∃ v, fX6_isUnder 1000 (Int32.ofNat i.1) 4 = some v ∧ v = (if i.1 = 4 ∨ i.1 = 5 then 1 else 0) := by
  intro i
  have : ∀ i : Fin 6, fX6_isUnder 1000 (Int32.ofNat i.1) 4 = some (if i.1 = 4 ∨ i.1 = 5 then 1 else 0) := by decide +kernel
  exact ⟨_, this i, rfl⟩
set_option maxHeartbeats 2000000 in
set_option maxRecDepth 100000 in
theorem is1 : fX6_isUnder 1000 1 4 = some 0 := by decide +kernel
set_option maxHeartbeats 2000000 in
set_option maxRecDepth 100000 in
theorem wk1 : fX6_within 1 1 5 = some 1 := by decide
set_option maxHeartbeats 2000000 in
set_option maxRecDepth 100000 in
theorem wq1 : fX7_in 1 1 5 = some 1 := by decide
set_option maxHeartbeats 2000000 in
set_option maxRecDepth 100000 in
theorem is2 : fX6_isUnder 1000 2 4 = some 0 := by decide +kernel
set_option maxHeartbeats 2000000 in
set_option maxRecDepth 100000 in
theorem wk2 : fX6_within 2 1 5 = some 1 := by decide
set_option maxHeartbeats 2000000 in
set_option maxRecDepth 100000 in
theorem wq2 : fX7_in 2 1 5 = some 1 := by decide
set_option maxHeartbeats 2000000 in
set_option maxRecDepth 100000 in
theorem is3 : fX6_isUnder 1000 3 4 = some 0 := by decide +kernel
set_option maxHeartbeats 2000000 in
set_option maxRecDepth 100000 in
theorem wk3 : fX6_within 3 1 5 = some 1 := by decide
set_option maxHeartbeats 2000000 in
set_option maxRecDepth 100000 in
theorem wq3 : fX7_in 3 1 5 = some 1 := by decide
set_option maxHeartbeats 2000000 in
set_option maxRecDepth 100000 in
theorem is4 : fX6_isUnder 1000 4 4 = some 1 := by decide +kernel
set_option maxHeartbeats 2000000 in
set_option maxRecDepth 100000 in
theorem wk4 : fX6_within 4 1 5 = some 1 := by decide
set_option maxHeartbeats 2000000 in
set_option maxRecDepth 100000 in
theorem wq4 : fX7_in 4 1 5 = some 1 := by decide
set_option maxHeartbeats 2000000 in
set_option maxRecDepth 100000 in
theorem is5 : fX6_isUnder 1000 5 4 = some 1 := by decide +kernel
set_option maxHeartbeats 2000000 in
set_option maxRecDepth 100000 in
theorem wk5 : fX6_within 5 1 5 = some 1 := by decide
set_option maxHeartbeats 2000000 in
set_option maxRecDepth 100000 in
theorem wq5 : fX7_in 5 1 5 = some 1 := by decide
set_option maxHeartbeats 2000000 in
set_option maxRecDepth 100000 in
theorem pw_1 (p2 p3 p4 : Int32) : chB (fX6_work 1000 N0_6 N0_1 1 p2 p3 p4) (fX7_work N0_7 1 p2 p3 p4) Prod.fst Prod.fst = true := by
  simp [fX6_work, fX7_work, fX1_allowsWork, fX1_allowsWork_j24, fX1_greatestA, fX1_greatestB, fX7_mayBeFirst, fX7_mayBeSecond, fX7_mayBeSecond_j10, fX1_addWork, fX6_isPlace, fX7_isPlace, fX1_hasWork, fX1_hasLine, fX1_hasGoods, fX7_isWork, fX7_isLine, fX6_noChoice, wr, ck, inb, is1, wk1, wq1, chB_some, chJ_some, Option.bind_some, N0_0, N0_1, N0_2, N0_3, N0_4, N0_5, N0_6, M0, zb0, zb1, rf6_2, rf6_4, rf6_5, rf7_2, rf7_4, rf7_5, wn, wn10, in_none, in_none', in_none'', inw_0_7, inw_0_4, inw_0_40, inw_0_11, inw_0_5, inw_0_2, inw_0_99, inw_1_30, inw_12_16, inw_1_20, inw_0_30, inw_0_9999, inw_1_7, inw_1_60, inw_1_999, inw_1_99, inw_1_5, inw_1_4, inw_0_6, inw_0_9, inw_10_9, inw_0_3, e2, e3, e4, e5, e6, e7, e8, e9, e10, e11, e12, e13, e14, e15, e16, e18, e24, e25, e26, e27, e28, e35]
set_option maxHeartbeats 2000000 in
set_option maxRecDepth 100000 in
theorem pw_2 (p2 p3 p4 : Int32) : chB (fX6_work 1000 N0_6 N0_1 2 p2 p3 p4) (fX7_work N0_7 2 p2 p3 p4) Prod.fst Prod.fst = true := by
  simp [fX6_work, fX7_work, fX1_allowsWork, fX1_allowsWork_j24, fX1_greatestA, fX1_greatestB, fX7_mayBeFirst, fX7_mayBeSecond, fX7_mayBeSecond_j10, fX1_addWork, fX6_isPlace, fX7_isPlace, fX1_hasWork, fX1_hasLine, fX1_hasGoods, fX7_isWork, fX7_isLine, fX6_noChoice, wr, ck, inb, is2, wk2, wq2, chB_some, chJ_some, Option.bind_some, N0_0, N0_1, N0_2, N0_3, N0_4, N0_5, N0_6, M0, zb0, zb1, rf6_2, rf6_4, rf6_5, rf7_2, rf7_4, rf7_5, wn, wn10, in_none, in_none', in_none'', inw_0_7, inw_0_4, inw_0_40, inw_0_11, inw_0_5, inw_0_2, inw_0_99, inw_1_30, inw_12_16, inw_1_20, inw_0_30, inw_0_9999, inw_1_7, inw_1_60, inw_1_999, inw_1_99, inw_1_5, inw_1_4, inw_0_6, inw_0_9, inw_10_9, inw_0_3, e2, e3, e4, e5, e6, e7, e8, e9, e10, e11, e12, e13, e14, e15, e16, e18, e24, e25, e26, e27, e28, e35]
set_option maxHeartbeats 2000000 in
set_option maxRecDepth 100000 in
theorem pw_3 (p2 p3 p4 : Int32) : chB (fX6_work 1000 N0_6 N0_1 3 p2 p3 p4) (fX7_work N0_7 3 p2 p3 p4) Prod.fst Prod.fst = true := by
  rcases wi p2 0 11 with h1 | ⟨h1, _, _⟩
  · simp [fX6_work, fX7_work, fX1_allowsWork, fX1_allowsWork_j24, fX1_greatestA, fX1_greatestB, fX7_mayBeFirst, fX7_mayBeSecond, fX7_mayBeSecond_j10, fX1_addWork, fX6_isPlace, fX7_isPlace, fX1_hasWork, fX1_hasLine, fX1_hasGoods, fX7_isWork, fX7_isLine, fX6_noChoice, wr, ck, inb, is3, wk3, wq3, h1, chB_some, chJ_some, Option.bind_some, N0_0, N0_1, N0_2, N0_3, N0_4, N0_5, N0_6, M0, zb0, zb1, rf6_2, rf6_4, rf6_5, rf7_2, rf7_4, rf7_5, wn, wn10, in_none, in_none', in_none'', inw_0_7, inw_0_4, inw_0_40, inw_0_11, inw_0_5, inw_0_2, inw_0_99, inw_1_30, inw_12_16, inw_1_20, inw_0_30, inw_0_9999, inw_1_7, inw_1_60, inw_1_999, inw_1_99, inw_1_5, inw_1_4, inw_0_6, inw_0_9, inw_10_9, inw_0_3, e2, e3, e4, e5, e6, e7, e8, e9, e10, e11, e12, e13, e14, e15, e16, e18, e24, e25, e26, e27, e28, e35]
  rcases wi p3 0 99 with h2 | ⟨h2, _, _⟩
  · simp [fX6_work, fX7_work, fX1_allowsWork, fX1_allowsWork_j24, fX1_greatestA, fX1_greatestB, fX7_mayBeFirst, fX7_mayBeSecond, fX7_mayBeSecond_j10, fX1_addWork, fX6_isPlace, fX7_isPlace, fX1_hasWork, fX1_hasLine, fX1_hasGoods, fX7_isWork, fX7_isLine, fX6_noChoice, wr, ck, inb, is3, wk3, wq3, h1, h2, chB_some, chJ_some, Option.bind_some, N0_0, N0_1, N0_2, N0_3, N0_4, N0_5, N0_6, M0, zb0, zb1, rf6_2, rf6_4, rf6_5, rf7_2, rf7_4, rf7_5, wn, wn10, in_none, in_none', in_none'', inw_0_7, inw_0_4, inw_0_40, inw_0_11, inw_0_5, inw_0_2, inw_0_99, inw_1_30, inw_12_16, inw_1_20, inw_0_30, inw_0_9999, inw_1_7, inw_1_60, inw_1_999, inw_1_99, inw_1_5, inw_1_4, inw_0_6, inw_0_9, inw_10_9, inw_0_3, e2, e3, e4, e5, e6, e7, e8, e9, e10, e11, e12, e13, e14, e15, e16, e18, e24, e25, e26, e27, e28, e35]
  rcases wi p4 0 9999 with h3 | ⟨h3, _, _⟩
  · simp [fX6_work, fX7_work, fX1_allowsWork, fX1_allowsWork_j24, fX1_greatestA, fX1_greatestB, fX7_mayBeFirst, fX7_mayBeSecond, fX7_mayBeSecond_j10, fX1_addWork, fX6_isPlace, fX7_isPlace, fX1_hasWork, fX1_hasLine, fX1_hasGoods, fX7_isWork, fX7_isLine, fX6_noChoice, wr, ck, inb, is3, wk3, wq3, h1, h2, h3, chB_some, chJ_some, Option.bind_some, N0_0, N0_1, N0_2, N0_3, N0_4, N0_5, N0_6, M0, zb0, zb1, rf6_2, rf6_4, rf6_5, rf7_2, rf7_4, rf7_5, wn, wn10, in_none, in_none', in_none'', inw_0_7, inw_0_4, inw_0_40, inw_0_11, inw_0_5, inw_0_2, inw_0_99, inw_1_30, inw_12_16, inw_1_20, inw_0_30, inw_0_9999, inw_1_7, inw_1_60, inw_1_999, inw_1_99, inw_1_5, inw_1_4, inw_0_6, inw_0_9, inw_10_9, inw_0_3, e2, e3, e4, e5, e6, e7, e8, e9, e10, e11, e12, e13, e14, e15, e16, e18, e24, e25, e26, e27, e28, e35]
  simp [fX6_work, fX7_work, fX1_allowsWork, fX1_allowsWork_j24, fX1_greatestA, fX1_greatestB, fX7_mayBeFirst, fX7_mayBeSecond, fX7_mayBeSecond_j10, fX1_addWork, fX6_isPlace, fX7_isPlace, fX1_hasWork, fX1_hasLine, fX1_hasGoods, fX7_isWork, fX7_isLine, fX6_noChoice, wr, ck, inb, is3, wk3, wq3, h1, h2, h3, chB_some, chJ_some, Option.bind_some, N0_0, N0_1, N0_2, N0_3, N0_4, N0_5, N0_6, M0, zb0, zb1, rf6_2, rf6_4, rf6_5, rf7_2, rf7_4, rf7_5, wn, wn10, in_none, in_none', in_none'', inw_0_7, inw_0_4, inw_0_40, inw_0_11, inw_0_5, inw_0_2, inw_0_99, inw_1_30, inw_12_16, inw_1_20, inw_0_30, inw_0_9999, inw_1_7, inw_1_60, inw_1_999, inw_1_99, inw_1_5, inw_1_4, inw_0_6, inw_0_9, inw_10_9, inw_0_3, e2, e3, e4, e5, e6, e7, e8, e9, e10, e11, e12, e13, e14, e15, e16, e18, e24, e25, e26, e27, e28, e35]
set_option maxHeartbeats 2000000 in
set_option maxRecDepth 100000 in
theorem pw_4 (p2 p3 p4 : Int32) : chB (fX6_work 1000 N0_6 N0_1 4 p2 p3 p4) (fX7_work N0_7 4 p2 p3 p4) Prod.fst Prod.fst = true := by
  rcases wi p2 0 11 with h1 | ⟨h1, _, _⟩
  · by_cases hne : p2 = p3
    · subst hne
      simp [fX6_work, fX7_work, fX1_allowsWork, fX1_allowsWork_j24, fX1_greatestA, fX1_greatestB, fX7_mayBeFirst, fX7_mayBeSecond, fX7_mayBeSecond_j10, fX1_addWork, fX6_isPlace, fX7_isPlace, fX1_hasWork, fX1_hasLine, fX1_hasGoods, fX7_isWork, fX7_isLine, fX6_noChoice, wr, ck, inb, is4, wk4, wq4, h1, chB_some, chJ_some, Option.bind_some, N0_0, N0_1, N0_2, N0_3, N0_4, N0_5, N0_6, M0, zb0, zb1, rf6_2, rf6_4, rf6_5, rf7_2, rf7_4, rf7_5, wn, wn10, in_none, in_none', in_none'', inw_0_7, inw_0_4, inw_0_40, inw_0_11, inw_0_5, inw_0_2, inw_0_99, inw_1_30, inw_12_16, inw_1_20, inw_0_30, inw_0_9999, inw_1_7, inw_1_60, inw_1_999, inw_1_99, inw_1_5, inw_1_4, inw_0_6, inw_0_9, inw_10_9, inw_0_3, e2, e3, e4, e5, e6, e7, e8, e9, e10, e11, e12, e13, e14, e15, e16, e18, e24, e25, e26, e27, e28, e35]
    · simp [fX6_work, fX7_work, fX1_allowsWork, fX1_allowsWork_j24, fX1_greatestA, fX1_greatestB, fX7_mayBeFirst, fX7_mayBeSecond, fX7_mayBeSecond_j10, fX1_addWork, fX6_isPlace, fX7_isPlace, fX1_hasWork, fX1_hasLine, fX1_hasGoods, fX7_isWork, fX7_isLine, fX6_noChoice, wr, ck, inb, is4, wk4, wq4, h1, hne, Ne.symm hne, chB_some, chJ_some, Option.bind_some, N0_0, N0_1, N0_2, N0_3, N0_4, N0_5, N0_6, M0, zb0, zb1, rf6_2, rf6_4, rf6_5, rf7_2, rf7_4, rf7_5, wn, wn10, in_none, in_none', in_none'', inw_0_7, inw_0_4, inw_0_40, inw_0_11, inw_0_5, inw_0_2, inw_0_99, inw_1_30, inw_12_16, inw_1_20, inw_0_30, inw_0_9999, inw_1_7, inw_1_60, inw_1_999, inw_1_99, inw_1_5, inw_1_4, inw_0_6, inw_0_9, inw_10_9, inw_0_3, e2, e3, e4, e5, e6, e7, e8, e9, e10, e11, e12, e13, e14, e15, e16, e18, e24, e25, e26, e27, e28, e35]
  rcases wi p3 0 11 with h2 | ⟨h2, _, _⟩
  · by_cases hne : p2 = p3
    · subst hne
      simp [fX6_work, fX7_work, fX1_allowsWork, fX1_allowsWork_j24, fX1_greatestA, fX1_greatestB, fX7_mayBeFirst, fX7_mayBeSecond, fX7_mayBeSecond_j10, fX1_addWork, fX6_isPlace, fX7_isPlace, fX1_hasWork, fX1_hasLine, fX1_hasGoods, fX7_isWork, fX7_isLine, fX6_noChoice, wr, ck, inb, is4, wk4, wq4, h1, h2, chB_some, chJ_some, Option.bind_some, N0_0, N0_1, N0_2, N0_3, N0_4, N0_5, N0_6, M0, zb0, zb1, rf6_2, rf6_4, rf6_5, rf7_2, rf7_4, rf7_5, wn, wn10, in_none, in_none', in_none'', inw_0_7, inw_0_4, inw_0_40, inw_0_11, inw_0_5, inw_0_2, inw_0_99, inw_1_30, inw_12_16, inw_1_20, inw_0_30, inw_0_9999, inw_1_7, inw_1_60, inw_1_999, inw_1_99, inw_1_5, inw_1_4, inw_0_6, inw_0_9, inw_10_9, inw_0_3, e2, e3, e4, e5, e6, e7, e8, e9, e10, e11, e12, e13, e14, e15, e16, e18, e24, e25, e26, e27, e28, e35]
    · simp [fX6_work, fX7_work, fX1_allowsWork, fX1_allowsWork_j24, fX1_greatestA, fX1_greatestB, fX7_mayBeFirst, fX7_mayBeSecond, fX7_mayBeSecond_j10, fX1_addWork, fX6_isPlace, fX7_isPlace, fX1_hasWork, fX1_hasLine, fX1_hasGoods, fX7_isWork, fX7_isLine, fX6_noChoice, wr, ck, inb, is4, wk4, wq4, h1, h2, hne, Ne.symm hne, chB_some, chJ_some, Option.bind_some, N0_0, N0_1, N0_2, N0_3, N0_4, N0_5, N0_6, M0, zb0, zb1, rf6_2, rf6_4, rf6_5, rf7_2, rf7_4, rf7_5, wn, wn10, in_none, in_none', in_none'', inw_0_7, inw_0_4, inw_0_40, inw_0_11, inw_0_5, inw_0_2, inw_0_99, inw_1_30, inw_12_16, inw_1_20, inw_0_30, inw_0_9999, inw_1_7, inw_1_60, inw_1_999, inw_1_99, inw_1_5, inw_1_4, inw_0_6, inw_0_9, inw_10_9, inw_0_3, e2, e3, e4, e5, e6, e7, e8, e9, e10, e11, e12, e13, e14, e15, e16, e18, e24, e25, e26, e27, e28, e35]
  by_cases hne : p2 = p3
  · subst hne
    simp [fX6_work, fX7_work, fX1_allowsWork, fX1_allowsWork_j24, fX1_greatestA, fX1_greatestB, fX7_mayBeFirst, fX7_mayBeSecond, fX7_mayBeSecond_j10, fX1_addWork, fX6_isPlace, fX7_isPlace, fX1_hasWork, fX1_hasLine, fX1_hasGoods, fX7_isWork, fX7_isLine, fX6_noChoice, wr, ck, inb, is4, wk4, wq4, h1, h2, chB_some, chJ_some, Option.bind_some, N0_0, N0_1, N0_2, N0_3, N0_4, N0_5, N0_6, M0, zb0, zb1, rf6_2, rf6_4, rf6_5, rf7_2, rf7_4, rf7_5, wn, wn10, in_none, in_none', in_none'', inw_0_7, inw_0_4, inw_0_40, inw_0_11, inw_0_5, inw_0_2, inw_0_99, inw_1_30, inw_12_16, inw_1_20, inw_0_30, inw_0_9999, inw_1_7, inw_1_60, inw_1_999, inw_1_99, inw_1_5, inw_1_4, inw_0_6, inw_0_9, inw_10_9, inw_0_3, e2, e3, e4, e5, e6, e7, e8, e9, e10, e11, e12, e13, e14, e15, e16, e18, e24, e25, e26, e27, e28, e35]
  rcases wi p4 0 9999 with h3 | ⟨h3, _, _⟩
  · simp [fX6_work, fX7_work, fX1_allowsWork, fX1_allowsWork_j24, fX1_greatestA, fX1_greatestB, fX7_mayBeFirst, fX7_mayBeSecond, fX7_mayBeSecond_j10, fX1_addWork, fX6_isPlace, fX7_isPlace, fX1_hasWork, fX1_hasLine, fX1_hasGoods, fX7_isWork, fX7_isLine, fX6_noChoice, wr, ck, inb, is4, wk4, wq4, h1, h2, h3, hne, Ne.symm hne, chB_some, chJ_some, Option.bind_some, N0_0, N0_1, N0_2, N0_3, N0_4, N0_5, N0_6, M0, zb0, zb1, rf6_2, rf6_4, rf6_5, rf7_2, rf7_4, rf7_5, wn, wn10, in_none, in_none', in_none'', inw_0_7, inw_0_4, inw_0_40, inw_0_11, inw_0_5, inw_0_2, inw_0_99, inw_1_30, inw_12_16, inw_1_20, inw_0_30, inw_0_9999, inw_1_7, inw_1_60, inw_1_999, inw_1_99, inw_1_5, inw_1_4, inw_0_6, inw_0_9, inw_10_9, inw_0_3, e2, e3, e4, e5, e6, e7, e8, e9, e10, e11, e12, e13, e14, e15, e16, e18, e24, e25, e26, e27, e28, e35]
  simp [fX6_work, fX7_work, fX1_allowsWork, fX1_allowsWork_j24, fX1_greatestA, fX1_greatestB, fX7_mayBeFirst, fX7_mayBeSecond, fX7_mayBeSecond_j10, fX1_addWork, fX6_isPlace, fX7_isPlace, fX1_hasWork, fX1_hasLine, fX1_hasGoods, fX7_isWork, fX7_isLine, fX6_noChoice, wr, ck, inb, is4, wk4, wq4, h1, h2, h3, hne, Ne.symm hne, chB_some, chJ_some, Option.bind_some, N0_0, N0_1, N0_2, N0_3, N0_4, N0_5, N0_6, M0, zb0, zb1, rf6_2, rf6_4, rf6_5, rf7_2, rf7_4, rf7_5, wn, wn10, in_none, in_none', in_none'', inw_0_7, inw_0_4, inw_0_40, inw_0_11, inw_0_5, inw_0_2, inw_0_99, inw_1_30, inw_12_16, inw_1_20, inw_0_30, inw_0_9999, inw_1_7, inw_1_60, inw_1_999, inw_1_99, inw_1_5, inw_1_4, inw_0_6, inw_0_9, inw_10_9, inw_0_3, e2, e3, e4, e5, e6, e7, e8, e9, e10, e11, e12, e13, e14, e15, e16, e18, e24, e25, e26, e27, e28, e35]
set_option maxHeartbeats 2000000 in
set_option maxRecDepth 100000 in
theorem pw_5 (p2 p3 p4 : Int32) : chB (fX6_work 1000 N0_6 N0_1 5 p2 p3 p4) (fX7_work N0_7 5 p2 p3 p4) Prod.fst Prod.fst = true := by
  rcases wi p2 0 11 with h1 | ⟨h1, _, _⟩
  · by_cases hne : p2 = p3
    · subst hne
      simp [fX6_work, fX7_work, fX1_allowsWork, fX1_allowsWork_j24, fX1_greatestA, fX1_greatestB, fX7_mayBeFirst, fX7_mayBeSecond, fX7_mayBeSecond_j10, fX1_addWork, fX6_isPlace, fX7_isPlace, fX1_hasWork, fX1_hasLine, fX1_hasGoods, fX7_isWork, fX7_isLine, fX6_noChoice, wr, ck, inb, is5, wk5, wq5, h1, chB_some, chJ_some, Option.bind_some, N0_0, N0_1, N0_2, N0_3, N0_4, N0_5, N0_6, M0, zb0, zb1, rf6_2, rf6_4, rf6_5, rf7_2, rf7_4, rf7_5, wn, wn10, in_none, in_none', in_none'', inw_0_7, inw_0_4, inw_0_40, inw_0_11, inw_0_5, inw_0_2, inw_0_99, inw_1_30, inw_12_16, inw_1_20, inw_0_30, inw_0_9999, inw_1_7, inw_1_60, inw_1_999, inw_1_99, inw_1_5, inw_1_4, inw_0_6, inw_0_9, inw_10_9, inw_0_3, e2, e3, e4, e5, e6, e7, e8, e9, e10, e11, e12, e13, e14, e15, e16, e18, e24, e25, e26, e27, e28, e35]
    · simp [fX6_work, fX7_work, fX1_allowsWork, fX1_allowsWork_j24, fX1_greatestA, fX1_greatestB, fX7_mayBeFirst, fX7_mayBeSecond, fX7_mayBeSecond_j10, fX1_addWork, fX6_isPlace, fX7_isPlace, fX1_hasWork, fX1_hasLine, fX1_hasGoods, fX7_isWork, fX7_isLine, fX6_noChoice, wr, ck, inb, is5, wk5, wq5, h1, hne, Ne.symm hne, chB_some, chJ_some, Option.bind_some, N0_0, N0_1, N0_2, N0_3, N0_4, N0_5, N0_6, M0, zb0, zb1, rf6_2, rf6_4, rf6_5, rf7_2, rf7_4, rf7_5, wn, wn10, in_none, in_none', in_none'', inw_0_7, inw_0_4, inw_0_40, inw_0_11, inw_0_5, inw_0_2, inw_0_99, inw_1_30, inw_12_16, inw_1_20, inw_0_30, inw_0_9999, inw_1_7, inw_1_60, inw_1_999, inw_1_99, inw_1_5, inw_1_4, inw_0_6, inw_0_9, inw_10_9, inw_0_3, e2, e3, e4, e5, e6, e7, e8, e9, e10, e11, e12, e13, e14, e15, e16, e18, e24, e25, e26, e27, e28, e35]
  rcases wi p3 0 11 with h2 | ⟨h2, _, _⟩
  · by_cases hne : p2 = p3
    · subst hne
      simp [fX6_work, fX7_work, fX1_allowsWork, fX1_allowsWork_j24, fX1_greatestA, fX1_greatestB, fX7_mayBeFirst, fX7_mayBeSecond, fX7_mayBeSecond_j10, fX1_addWork, fX6_isPlace, fX7_isPlace, fX1_hasWork, fX1_hasLine, fX1_hasGoods, fX7_isWork, fX7_isLine, fX6_noChoice, wr, ck, inb, is5, wk5, wq5, h1, h2, chB_some, chJ_some, Option.bind_some, N0_0, N0_1, N0_2, N0_3, N0_4, N0_5, N0_6, M0, zb0, zb1, rf6_2, rf6_4, rf6_5, rf7_2, rf7_4, rf7_5, wn, wn10, in_none, in_none', in_none'', inw_0_7, inw_0_4, inw_0_40, inw_0_11, inw_0_5, inw_0_2, inw_0_99, inw_1_30, inw_12_16, inw_1_20, inw_0_30, inw_0_9999, inw_1_7, inw_1_60, inw_1_999, inw_1_99, inw_1_5, inw_1_4, inw_0_6, inw_0_9, inw_10_9, inw_0_3, e2, e3, e4, e5, e6, e7, e8, e9, e10, e11, e12, e13, e14, e15, e16, e18, e24, e25, e26, e27, e28, e35]
    · simp [fX6_work, fX7_work, fX1_allowsWork, fX1_allowsWork_j24, fX1_greatestA, fX1_greatestB, fX7_mayBeFirst, fX7_mayBeSecond, fX7_mayBeSecond_j10, fX1_addWork, fX6_isPlace, fX7_isPlace, fX1_hasWork, fX1_hasLine, fX1_hasGoods, fX7_isWork, fX7_isLine, fX6_noChoice, wr, ck, inb, is5, wk5, wq5, h1, h2, hne, Ne.symm hne, chB_some, chJ_some, Option.bind_some, N0_0, N0_1, N0_2, N0_3, N0_4, N0_5, N0_6, M0, zb0, zb1, rf6_2, rf6_4, rf6_5, rf7_2, rf7_4, rf7_5, wn, wn10, in_none, in_none', in_none'', inw_0_7, inw_0_4, inw_0_40, inw_0_11, inw_0_5, inw_0_2, inw_0_99, inw_1_30, inw_12_16, inw_1_20, inw_0_30, inw_0_9999, inw_1_7, inw_1_60, inw_1_999, inw_1_99, inw_1_5, inw_1_4, inw_0_6, inw_0_9, inw_10_9, inw_0_3, e2, e3, e4, e5, e6, e7, e8, e9, e10, e11, e12, e13, e14, e15, e16, e18, e24, e25, e26, e27, e28, e35]
  by_cases hne : p2 = p3
  · subst hne
    simp [fX6_work, fX7_work, fX1_allowsWork, fX1_allowsWork_j24, fX1_greatestA, fX1_greatestB, fX7_mayBeFirst, fX7_mayBeSecond, fX7_mayBeSecond_j10, fX1_addWork, fX6_isPlace, fX7_isPlace, fX1_hasWork, fX1_hasLine, fX1_hasGoods, fX7_isWork, fX7_isLine, fX6_noChoice, wr, ck, inb, is5, wk5, wq5, h1, h2, chB_some, chJ_some, Option.bind_some, N0_0, N0_1, N0_2, N0_3, N0_4, N0_5, N0_6, M0, zb0, zb1, rf6_2, rf6_4, rf6_5, rf7_2, rf7_4, rf7_5, wn, wn10, in_none, in_none', in_none'', inw_0_7, inw_0_4, inw_0_40, inw_0_11, inw_0_5, inw_0_2, inw_0_99, inw_1_30, inw_12_16, inw_1_20, inw_0_30, inw_0_9999, inw_1_7, inw_1_60, inw_1_999, inw_1_99, inw_1_5, inw_1_4, inw_0_6, inw_0_9, inw_10_9, inw_0_3, e2, e3, e4, e5, e6, e7, e8, e9, e10, e11, e12, e13, e14, e15, e16, e18, e24, e25, e26, e27, e28, e35]
  rcases wi p4 0 9999 with h3 | ⟨h3, _, _⟩
  · simp [fX6_work, fX7_work, fX1_allowsWork, fX1_allowsWork_j24, fX1_greatestA, fX1_greatestB, fX7_mayBeFirst, fX7_mayBeSecond, fX7_mayBeSecond_j10, fX1_addWork, fX6_isPlace, fX7_isPlace, fX1_hasWork, fX1_hasLine, fX1_hasGoods, fX7_isWork, fX7_isLine, fX6_noChoice, wr, ck, inb, is5, wk5, wq5, h1, h2, h3, hne, Ne.symm hne, chB_some, chJ_some, Option.bind_some, N0_0, N0_1, N0_2, N0_3, N0_4, N0_5, N0_6, M0, zb0, zb1, rf6_2, rf6_4, rf6_5, rf7_2, rf7_4, rf7_5, wn, wn10, in_none, in_none', in_none'', inw_0_7, inw_0_4, inw_0_40, inw_0_11, inw_0_5, inw_0_2, inw_0_99, inw_1_30, inw_12_16, inw_1_20, inw_0_30, inw_0_9999, inw_1_7, inw_1_60, inw_1_999, inw_1_99, inw_1_5, inw_1_4, inw_0_6, inw_0_9, inw_10_9, inw_0_3, e2, e3, e4, e5, e6, e7, e8, e9, e10, e11, e12, e13, e14, e15, e16, e18, e24, e25, e26, e27, e28, e35]
  simp [fX6_work, fX7_work, fX1_allowsWork, fX1_allowsWork_j24, fX1_greatestA, fX1_greatestB, fX7_mayBeFirst, fX7_mayBeSecond, fX7_mayBeSecond_j10, fX1_addWork, fX6_isPlace, fX7_isPlace, fX1_hasWork, fX1_hasLine, fX1_hasGoods, fX7_isWork, fX7_isLine, fX6_noChoice, wr, ck, inb, is5, wk5, wq5, h1, h2, h3, hne, Ne.symm hne, chB_some, chJ_some, Option.bind_some, N0_0, N0_1, N0_2, N0_3, N0_4, N0_5, N0_6, M0, zb0, zb1, rf6_2, rf6_4, rf6_5, rf7_2, rf7_4, rf7_5, wn, wn10, in_none, in_none', in_none'', inw_0_7, inw_0_4, inw_0_40, inw_0_11, inw_0_5, inw_0_2, inw_0_99, inw_1_30, inw_12_16, inw_1_20, inw_0_30, inw_0_9999, inw_1_7, inw_1_60, inw_1_999, inw_1_99, inw_1_5, inw_1_4, inw_0_6, inw_0_9, inw_10_9, inw_0_3, e2, e3, e4, e5, e6, e7, e8, e9, e10, e11, e12, e13, e14, e15, e16, e18, e24, e25, e26, e27, e28, e35]
set_option maxHeartbeats 2000000 in
set_option maxRecDepth 100000 in
theorem pe_9 (p1 : Int32) (p2 : Int32) (p3 : Int32) (p4 : Int32) : ∃ ox om, fX6_work 1000 N0_6 N0_1 p1 p2 p3 p4 = some ox ∧ fX7_work N0_7 p1 p2 p3 p4 = some om ∧ ox.1 = om.1 := by
  apply chB_ok (f := Prod.fst) (g := Prod.fst)
  rcases wi p1 1 5 with h0 | ⟨h0, l0, b0⟩
  · simp [fX6_work, fX7_work, h0, fX1_allowsWork, chB_some, chJ_some, Option.bind_some, N0_0, N0_1, N0_2, N0_3, N0_4, N0_5, N0_6, M0, zb0, zb1, rf6_2, rf6_4, rf6_5, rf7_2, rf7_4, rf7_5, wn, wn10, in_none, in_none', in_none'', inw_0_7, inw_0_4, inw_0_40, inw_0_11, inw_0_5, inw_0_2, inw_0_99, inw_1_30, inw_12_16, inw_1_20, inw_0_30, inw_0_9999, inw_1_7, inw_1_60, inw_1_999, inw_1_99, inw_1_5, inw_1_4, inw_0_6, inw_0_9, inw_10_9, inw_0_3, e2, e3, e4, e5, e6, e7, e8, e9, e10, e11, e12, e13, e14, e15, e16, e18, e24, e25, e26, e27, e28, e35]
  have h6 : ∀ i : Fin 6, 1 ≤ Int32.ofNat i.1 → chB (fX6_work 1000 N0_6 N0_1 (Int32.ofNat i.1) p2 p3 p4) (fX7_work N0_7 (Int32.ofNat i.1) p2 p3 p4) Prod.fst Prod.fst = true := by
    intro i hi
    match i, hi with
    | ⟨0, _⟩, hi => exact absurd hi (by show ¬ (1 : Int32) ≤ Int32.ofNat 0; decide)
    | ⟨1, _⟩, _ => exact pw_1 p2 p3 p4
    | ⟨2, _⟩, _ => exact pw_2 p2 p3 p4
    | ⟨3, _⟩, _ => exact pw_3 p2 p3 p4
    | ⟨4, _⟩, _ => exact pw_4 p2 p3 p4
    | ⟨5, _⟩, _ => exact pw_5 p2 p3 p4
  exact en (P := fun p1 => 1 ≤ p1 → chB (fX6_work 1000 N0_6 N0_1 p1 p2 p3 p4) (fX7_work N0_7 p1 p2 p3 p4) Prod.fst Prod.fst = true) 6 h6 (Int32.le_trans (by decide) l0) (Int.lt_of_le_of_lt (Int32.le_iff_toInt_le.mp b0) (by decide)) l0
set_option maxHeartbeats 2000000 in
set_option maxRecDepth 100000 in
theorem wf1 : fX6_within 1 1 4 = some 1 := by decide
set_option maxHeartbeats 2000000 in
set_option maxRecDepth 100000 in
theorem wg1 : fX7_in 1 1 4 = some 1 := by decide
set_option maxHeartbeats 2000000 in
set_option maxRecDepth 100000 in
theorem pk_1 (n : Nat) (p1 : Int32) : chB (fX6_feed (n + 5) N0_6 N0_3 p1 1) (fX7_feed (n + 5) N0_7 p1 1) Prod.fst Prod.fst = true := by
  simp [fX6_feed, fX7_feed, wf1, wg1, lp, fX6_feed_s42, fX7_feed_s42, fX3_put, wr, ck, inb, chB_some, chJ_some, Option.bind_some, N0_0, N0_1, N0_2, N0_3, N0_4, N0_5, N0_6, M0, zb0, zb1, rf6_2, rf6_4, rf6_5, rf7_2, rf7_4, rf7_5, wn, wn10, in_none, in_none', in_none'', inw_0_7, inw_0_4, inw_0_40, inw_0_11, inw_0_5, inw_0_2, inw_0_99, inw_1_30, inw_12_16, inw_1_20, inw_0_30, inw_0_9999, inw_1_7, inw_1_60, inw_1_999, inw_1_99, inw_1_5, inw_1_4, inw_0_6, inw_0_9, inw_10_9, inw_0_3, e2, e3, e4, e5, e6, e7, e8, e9, e10, e11, e12, e13, e14, e15, e16, e18, e24, e25, e26, e27, e28, e35]
set_option maxHeartbeats 2000000 in
set_option maxRecDepth 100000 in
theorem wf2 : fX6_within 2 1 4 = some 1 := by decide
set_option maxHeartbeats 2000000 in
set_option maxRecDepth 100000 in
theorem wg2 : fX7_in 2 1 4 = some 1 := by decide
set_option maxHeartbeats 2000000 in
set_option maxRecDepth 100000 in
theorem pk_2 (n : Nat) (p1 : Int32) : chB (fX6_feed (n + 5) N0_6 N0_3 p1 2) (fX7_feed (n + 5) N0_7 p1 2) Prod.fst Prod.fst = true := by
  simp [fX6_feed, fX7_feed, wf2, wg2, lp, fX6_feed_s42, fX7_feed_s42, fX3_put, wr, ck, inb, chB_some, chJ_some, Option.bind_some, N0_0, N0_1, N0_2, N0_3, N0_4, N0_5, N0_6, M0, zb0, zb1, rf6_2, rf6_4, rf6_5, rf7_2, rf7_4, rf7_5, wn, wn10, in_none, in_none', in_none'', inw_0_7, inw_0_4, inw_0_40, inw_0_11, inw_0_5, inw_0_2, inw_0_99, inw_1_30, inw_12_16, inw_1_20, inw_0_30, inw_0_9999, inw_1_7, inw_1_60, inw_1_999, inw_1_99, inw_1_5, inw_1_4, inw_0_6, inw_0_9, inw_10_9, inw_0_3, e2, e3, e4, e5, e6, e7, e8, e9, e10, e11, e12, e13, e14, e15, e16, e18, e24, e25, e26, e27, e28, e35]
set_option maxHeartbeats 2000000 in
set_option maxRecDepth 100000 in
theorem wf3 : fX6_within 3 1 4 = some 1 := by decide
set_option maxHeartbeats 2000000 in
set_option maxRecDepth 100000 in
theorem wg3 : fX7_in 3 1 4 = some 1 := by decide
set_option maxHeartbeats 2000000 in
set_option maxRecDepth 100000 in
theorem pk_3 (n : Nat) (p1 : Int32) : chB (fX6_feed (n + 5) N0_6 N0_3 p1 3) (fX7_feed (n + 5) N0_7 p1 3) Prod.fst Prod.fst = true := by
  simp [fX6_feed, fX7_feed, wf3, wg3, lp, fX6_feed_s42, fX7_feed_s42, fX3_put, wr, ck, inb, chB_some, chJ_some, Option.bind_some, N0_0, N0_1, N0_2, N0_3, N0_4, N0_5, N0_6, M0, zb0, zb1, rf6_2, rf6_4, rf6_5, rf7_2, rf7_4, rf7_5, wn, wn10, in_none, in_none', in_none'', inw_0_7, inw_0_4, inw_0_40, inw_0_11, inw_0_5, inw_0_2, inw_0_99, inw_1_30, inw_12_16, inw_1_20, inw_0_30, inw_0_9999, inw_1_7, inw_1_60, inw_1_999, inw_1_99, inw_1_5, inw_1_4, inw_0_6, inw_0_9, inw_10_9, inw_0_3, e2, e3, e4, e5, e6, e7, e8, e9, e10, e11, e12, e13, e14, e15, e16, e18, e24, e25, e26, e27, e28, e35]
set_option maxHeartbeats 2000000 in
set_option maxRecDepth 100000 in
theorem wf4 : fX6_within 4 1 4 = some 1 := by decide
set_option maxHeartbeats 2000000 in
set_option maxRecDepth 100000 in
theorem wg4 : fX7_in 4 1 4 = some 1 := by decide
set_option maxHeartbeats 2000000 in
set_option maxRecDepth 100000 in
theorem pk_4 (n : Nat) (p1 : Int32) : chB (fX6_feed (n + 5) N0_6 N0_3 p1 4) (fX7_feed (n + 5) N0_7 p1 4) Prod.fst Prod.fst = true := by
  simp [fX6_feed, fX7_feed, wf4, wg4, lp, fX6_feed_s42, fX7_feed_s42, fX3_put, wr, ck, inb, chB_some, chJ_some, Option.bind_some, N0_0, N0_1, N0_2, N0_3, N0_4, N0_5, N0_6, M0, zb0, zb1, rf6_2, rf6_4, rf6_5, rf7_2, rf7_4, rf7_5, wn, wn10, in_none, in_none', in_none'', inw_0_7, inw_0_4, inw_0_40, inw_0_11, inw_0_5, inw_0_2, inw_0_99, inw_1_30, inw_12_16, inw_1_20, inw_0_30, inw_0_9999, inw_1_7, inw_1_60, inw_1_999, inw_1_99, inw_1_5, inw_1_4, inw_0_6, inw_0_9, inw_10_9, inw_0_3, e2, e3, e4, e5, e6, e7, e8, e9, e10, e11, e12, e13, e14, e15, e16, e18, e24, e25, e26, e27, e28, e35]
set_option maxHeartbeats 2000000 in
set_option maxRecDepth 100000 in
theorem pe_14 (p1 : Int32) (p2 : Int32) : ∃ ox om, fX6_feed 1000 N0_6 N0_3 p1 p2 = some ox ∧ fX7_feed 1000 N0_7 p1 p2 = some om ∧ ox.1 = om.1 := by
  apply chB_ok (f := Prod.fst) (g := Prod.fst)
  rcases wi p2 1 4 with h0 | ⟨h0, l0, b0⟩
  · simp [fX6_feed, fX7_feed, h0, chB_some, chJ_some, Option.bind_some, N0_0, N0_1, N0_2, N0_3, N0_4, N0_5, N0_6, M0, zb0, zb1, rf6_2, rf6_4, rf6_5, rf7_2, rf7_4, rf7_5, wn, wn10, in_none, in_none', in_none'', inw_0_7, inw_0_4, inw_0_40, inw_0_11, inw_0_5, inw_0_2, inw_0_99, inw_1_30, inw_12_16, inw_1_20, inw_0_30, inw_0_9999, inw_1_7, inw_1_60, inw_1_999, inw_1_99, inw_1_5, inw_1_4, inw_0_6, inw_0_9, inw_10_9, inw_0_3, e2, e3, e4, e5, e6, e7, e8, e9, e10, e11, e12, e13, e14, e15, e16, e18, e24, e25, e26, e27, e28, e35]
  have h6 : ∀ i : Fin 5, 1 ≤ Int32.ofNat i.1 → chB (fX6_feed 1000 N0_6 N0_3 p1 (Int32.ofNat i.1)) (fX7_feed 1000 N0_7 p1 (Int32.ofNat i.1)) Prod.fst Prod.fst = true := by
    intro i hi
    match i, hi with
    | ⟨0, _⟩, hi => exact absurd hi (by show ¬ (1 : Int32) ≤ Int32.ofNat 0; decide)
    | ⟨1, _⟩, _ => exact pk_1 995 p1
    | ⟨2, _⟩, _ => exact pk_2 995 p1
    | ⟨3, _⟩, _ => exact pk_3 995 p1
    | ⟨4, _⟩, _ => exact pk_4 995 p1
  exact en (P := fun p2 => 1 ≤ p2 → chB (fX6_feed 1000 N0_6 N0_3 p1 p2) (fX7_feed 1000 N0_7 p1 p2) Prod.fst Prod.fst = true) 5 h6 (Int32.le_trans (by decide) l0) (Int.lt_of_le_of_lt (Int32.le_iff_toInt_le.mp b0) (by decide)) l0

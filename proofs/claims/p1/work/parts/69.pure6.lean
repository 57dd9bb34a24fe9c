set_option maxHeartbeats 2000000 in
set_option maxRecDepth 100000 in
theorem pc_10 : ∀ (i0 : Fin 12) (i1 : Fin 100), chB (fX6_change N0_6 N0_1 (Int32.ofNat i0.1) (Int32.ofNat i1.1)) (fX7_change N0_7 (Int32.ofNat i0.1) (Int32.ofNat i1.1)) Prod.fst Prod.fst = true := by decide +kernel
set_option maxHeartbeats 2000000 in
set_option maxRecDepth 100000 in
theorem pe_10 (p1 : Int32) (p2 : Int32) : ∃ ox om, fX6_change N0_6 N0_1 p1 p2 = some ox ∧ fX7_change N0_7 p1 p2 = some om ∧ ox.1 = om.1 := by
  apply chB_ok (f := Prod.fst) (g := Prod.fst)
  rcases wj p1 0 11 12 (by decide) (by decide) with h0 | ⟨h0, l0, b0⟩
  · simp [fX6_change, fX7_change, fX6_isPlace, fX7_isPlace, h0, chB_some, chJ_some, Option.bind_some, N0_0, N0_1, N0_2, N0_3, N0_4, N0_5, N0_6, M0, zb0, zb1, rf6_2, rf6_4, rf6_5, rf7_2, rf7_4, rf7_5, wn, wn10, in_none, in_none', in_none'', inw_0_7, inw_0_4, inw_0_40, inw_0_11, inw_0_5, inw_0_2, inw_0_99, inw_1_30, inw_12_16, inw_1_20, inw_0_30, inw_0_9999, inw_1_7, inw_1_60, inw_1_999, inw_1_99, inw_1_5, inw_1_4, inw_0_6, inw_0_9, inw_10_9, inw_0_3, e2, e3, e4, e5, e6, e7, e8, e9, e10, e11, e12, e13, e14, e15, e16, e18, e24, e25, e26, e27, e28, e35]
  rcases wj p2 0 99 100 (by decide) (by decide) with h1 | ⟨h1, l1, b1⟩
  · simp [fX6_change, fX7_change, fX6_isPlace, fX7_isPlace, h0, h1, chB_some, chJ_some, Option.bind_some, N0_0, N0_1, N0_2, N0_3, N0_4, N0_5, N0_6, M0, zb0, zb1, rf6_2, rf6_4, rf6_5, rf7_2, rf7_4, rf7_5, wn, wn10, in_none, in_none', in_none'', inw_0_7, inw_0_4, inw_0_40, inw_0_11, inw_0_5, inw_0_2, inw_0_99, inw_1_30, inw_12_16, inw_1_20, inw_0_30, inw_0_9999, inw_1_7, inw_1_60, inw_1_999, inw_1_99, inw_1_5, inw_1_4, inw_0_6, inw_0_9, inw_10_9, inw_0_3, e2, e3, e4, e5, e6, e7, e8, e9, e10, e11, e12, e13, e14, e15, e16, e18, e24, e25, e26, e27, e28, e35]
  exact en2 (P := fun p1 p2 => chB (fX6_change N0_6 N0_1 p1 p2) (fX7_change N0_7 p1 p2) Prod.fst Prod.fst = true) 12 100 pc_10 l0 b0 l1 b1
set_option maxHeartbeats 2000000 in
set_option maxRecDepth 100000 in
theorem pc_11 : ∀ (i0 : Fin 3) (i1 : Fin 10), chB (fX6_coin N0_6 N0_1 (Int32.ofNat i0.1) (Int32.ofNat i1.1)) (fX7_coin N0_7 (Int32.ofNat i0.1) (Int32.ofNat i1.1)) Prod.fst Prod.fst = true := by decide +kernel
set_option maxHeartbeats 2000000 in
set_option maxRecDepth 100000 in
theorem pe_11 (p1 : Int32) (p2 : Int32) : ∃ ox om, fX6_coin N0_6 N0_1 p1 p2 = some ox ∧ fX7_coin N0_7 p1 p2 = some om ∧ ox.1 = om.1 := by
  apply chB_ok (f := Prod.fst) (g := Prod.fst)
  rcases wj p1 0 2 3 (by decide) (by decide) with h0 | ⟨h0, l0, b0⟩
  · simp [fX6_coin, fX7_coin, h0, chB_some, chJ_some, Option.bind_some, N0_0, N0_1, N0_2, N0_3, N0_4, N0_5, N0_6, M0, zb0, zb1, rf6_2, rf6_4, rf6_5, rf7_2, rf7_4, rf7_5, wn, wn10, in_none, in_none', in_none'', inw_0_7, inw_0_4, inw_0_40, inw_0_11, inw_0_5, inw_0_2, inw_0_99, inw_1_30, inw_12_16, inw_1_20, inw_0_30, inw_0_9999, inw_1_7, inw_1_60, inw_1_999, inw_1_99, inw_1_5, inw_1_4, inw_0_6, inw_0_9, inw_10_9, inw_0_3, e2, e3, e4, e5, e6, e7, e8, e9, e10, e11, e12, e13, e14, e15, e16, e18, e24, e25, e26, e27, e28, e35]
  rcases wj p2 0 9 10 (by decide) (by decide) with h1 | ⟨h1, l1, b1⟩
  · simp [fX6_coin, fX7_coin, h0, h1, chB_some, chJ_some, Option.bind_some, N0_0, N0_1, N0_2, N0_3, N0_4, N0_5, N0_6, M0, zb0, zb1, rf6_2, rf6_4, rf6_5, rf7_2, rf7_4, rf7_5, wn, wn10, in_none, in_none', in_none'', inw_0_7, inw_0_4, inw_0_40, inw_0_11, inw_0_5, inw_0_2, inw_0_99, inw_1_30, inw_12_16, inw_1_20, inw_0_30, inw_0_9999, inw_1_7, inw_1_60, inw_1_999, inw_1_99, inw_1_5, inw_1_4, inw_0_6, inw_0_9, inw_10_9, inw_0_3, e2, e3, e4, e5, e6, e7, e8, e9, e10, e11, e12, e13, e14, e15, e16, e18, e24, e25, e26, e27, e28, e35]
  exact en2 (P := fun p1 p2 => chB (fX6_coin N0_6 N0_1 p1 p2) (fX7_coin N0_7 p1 p2) Prod.fst Prod.fst = true) 3 10 pc_11 l0 b0 l1 b1
set_option maxHeartbeats 2000000 in
set_option maxRecDepth 100000 in
theorem pc_12 : ∀ (i0 : Fin 31), chB (fX6_years N0_6 N0_1 (Int32.ofNat i0.1)) (fX7_years N0_7 (Int32.ofNat i0.1)) Prod.fst Prod.fst = true := by decide +kernel
set_option maxHeartbeats 2000000 in
set_option maxRecDepth 100000 in
theorem pe_12 (p1 : Int32) : ∃ ox om, fX6_years N0_6 N0_1 p1 = some ox ∧ fX7_years N0_7 p1 = some om ∧ ox.1 = om.1 := by
  apply chB_ok (f := Prod.fst) (g := Prod.fst)
  rcases wj p1 1 30 31 (by decide) (by decide) with h0 | ⟨h0, l0, b0⟩
  · simp [fX6_years, fX7_years, h0, chB_some, chJ_some, Option.bind_some, N0_0, N0_1, N0_2, N0_3, N0_4, N0_5, N0_6, M0, zb0, zb1, rf6_2, rf6_4, rf6_5, rf7_2, rf7_4, rf7_5, wn, wn10, in_none, in_none', in_none'', inw_0_7, inw_0_4, inw_0_40, inw_0_11, inw_0_5, inw_0_2, inw_0_99, inw_1_30, inw_12_16, inw_1_20, inw_0_30, inw_0_9999, inw_1_7, inw_1_60, inw_1_999, inw_1_99, inw_1_5, inw_1_4, inw_0_6, inw_0_9, inw_10_9, inw_0_3, e2, e3, e4, e5, e6, e7, e8, e9, e10, e11, e12, e13, e14, e15, e16, e18, e24, e25, e26, e27, e28, e35]
  exact en (P := fun p1 => chB (fX6_years N0_6 N0_1 p1) (fX7_years N0_7 p1) Prod.fst Prod.fst = true) 31 pc_12 l0 b0
set_option maxHeartbeats 2000000 in
set_option maxRecDepth 100000 in
theorem pc_20 : ∀ (i0 : Fin 12) (i1 : Fin 12), chB (fX6_cheapest 1000 N0_6 N0_1 N0_4 N0_5 (Int32.ofNat i0.1) (Int32.ofNat i1.1)) (fX7_cheapest 1000 N0_7 (Int32.ofNat i0.1) (Int32.ofNat i1.1)) Prod.fst Prod.fst = true := by decide +kernel
set_option maxHeartbeats 2000000 in
set_option maxRecDepth 100000 in
theorem pe_20 (p1 : Int32) (p2 : Int32) : ∃ ox om, fX6_cheapest 1000 N0_6 N0_1 N0_4 N0_5 p1 p2 = some ox ∧ fX7_cheapest 1000 N0_7 p1 p2 = some om ∧ ox.1 = om.1 := by
  apply chB_ok (f := Prod.fst) (g := Prod.fst)
  rcases wj p1 0 11 12 (by decide) (by decide) with h0 | ⟨h0, l0, b0⟩
  · simp [fX6_cheapest, fX7_cheapest, fX6_isPlace, fX7_isPlace, h0, chB_some, chJ_some, Option.bind_some, N0_0, N0_1, N0_2, N0_3, N0_4, N0_5, N0_6, M0, zb0, zb1, rf6_2, rf6_4, rf6_5, rf7_2, rf7_4, rf7_5, wn, wn10, in_none, in_none', in_none'', inw_0_7, inw_0_4, inw_0_40, inw_0_11, inw_0_5, inw_0_2, inw_0_99, inw_1_30, inw_12_16, inw_1_20, inw_0_30, inw_0_9999, inw_1_7, inw_1_60, inw_1_999, inw_1_99, inw_1_5, inw_1_4, inw_0_6, inw_0_9, inw_10_9, inw_0_3, e2, e3, e4, e5, e6, e7, e8, e9, e10, e11, e12, e13, e14, e15, e16, e18, e24, e25, e26, e27, e28, e35]
  rcases wj p2 0 11 12 (by decide) (by decide) with h1 | ⟨h1, l1, b1⟩
  · simp [fX6_cheapest, fX7_cheapest, fX6_isPlace, fX7_isPlace, h0, h1, chB_some, chJ_some, Option.bind_some, N0_0, N0_1, N0_2, N0_3, N0_4, N0_5, N0_6, M0, zb0, zb1, rf6_2, rf6_4, rf6_5, rf7_2, rf7_4, rf7_5, wn, wn10, in_none, in_none', in_none'', inw_0_7, inw_0_4, inw_0_40, inw_0_11, inw_0_5, inw_0_2, inw_0_99, inw_1_30, inw_12_16, inw_1_20, inw_0_30, inw_0_9999, inw_1_7, inw_1_60, inw_1_999, inw_1_99, inw_1_5, inw_1_4, inw_0_6, inw_0_9, inw_10_9, inw_0_3, e2, e3, e4, e5, e6, e7, e8, e9, e10, e11, e12, e13, e14, e15, e16, e18, e24, e25, e26, e27, e28, e35]
  exact en2 (P := fun p1 p2 => chB (fX6_cheapest 1000 N0_6 N0_1 N0_4 N0_5 p1 p2) (fX7_cheapest 1000 N0_7 p1 p2) Prod.fst Prod.fst = true) 12 12 pc_20 l0 b0 l1 b1
set_option maxHeartbeats 2000000 in
set_option maxRecDepth 100000 in
theorem pc_32 : ∀ (i0 : Fin 3) (i1 : Fin 100), chB (fX6_one 1000 N0_6 N0_0 N0_1 N0_1 N0_4 N0_5 (Int32.ofNat i0.1) (Int32.ofNat i1.1)) (fX7_one 1000 N0_7 N0_7 (Int32.ofNat i0.1) (Int32.ofNat i1.1)) Prod.fst Prod.fst = true := by decide +kernel
set_option maxHeartbeats 2000000 in
set_option maxRecDepth 100000 in
theorem pe_32 (p1 : Int32) (p2 : Int32) : ∃ ox om, fX6_one 1000 N0_6 N0_0 N0_1 N0_1 N0_4 N0_5 p1 p2 = some ox ∧ fX7_one 1000 N0_7 N0_7 p1 p2 = some om ∧ ox.1 = om.1 := by
  apply chB_ok (f := Prod.fst) (g := Prod.fst)
  rcases wj p1 0 2 3 (by decide) (by decide) with h0 | ⟨h0, l0, b0⟩
  · simp [fX6_one, fX7_one, h0, chB_some, chJ_some, Option.bind_some, N0_0, N0_1, N0_2, N0_3, N0_4, N0_5, N0_6, M0, zb0, zb1, rf6_2, rf6_4, rf6_5, rf7_2, rf7_4, rf7_5, wn, wn10, in_none, in_none', in_none'', inw_0_7, inw_0_4, inw_0_40, inw_0_11, inw_0_5, inw_0_2, inw_0_99, inw_1_30, inw_12_16, inw_1_20, inw_0_30, inw_0_9999, inw_1_7, inw_1_60, inw_1_999, inw_1_99, inw_1_5, inw_1_4, inw_0_6, inw_0_9, inw_10_9, inw_0_3, e2, e3, e4, e5, e6, e7, e8, e9, e10, e11, e12, e13, e14, e15, e16, e18, e24, e25, e26, e27, e28, e35]
  rcases wj p2 0 99 100 (by decide) (by decide) with h1 | ⟨h1, l1, b1⟩
  · simp [fX6_one, fX7_one, h0, h1, chB_some, chJ_some, Option.bind_some, N0_0, N0_1, N0_2, N0_3, N0_4, N0_5, N0_6, M0, zb0, zb1, rf6_2, rf6_4, rf6_5, rf7_2, rf7_4, rf7_5, wn, wn10, in_none, in_none', in_none'', inw_0_7, inw_0_4, inw_0_40, inw_0_11, inw_0_5, inw_0_2, inw_0_99, inw_1_30, inw_12_16, inw_1_20, inw_0_30, inw_0_9999, inw_1_7, inw_1_60, inw_1_999, inw_1_99, inw_1_5, inw_1_4, inw_0_6, inw_0_9, inw_10_9, inw_0_3, e2, e3, e4, e5, e6, e7, e8, e9, e10, e11, e12, e13, e14, e15, e16, e18, e24, e25, e26, e27, e28, e35]
  exact en2 (P := fun p1 p2 => chB (fX6_one 1000 N0_6 N0_0 N0_1 N0_1 N0_4 N0_5 p1 p2) (fX7_one 1000 N0_7 N0_7 p1 p2) Prod.fst Prod.fst = true) 3 100 pc_32 l0 b0 l1 b1
set_option maxHeartbeats 2000000 in
set_option maxRecDepth 100000 in
theorem pc_33 : ∀ (i0 : Fin 100), chB (fX6_which 1000 N0_6 N0_0 N0_1 N0_1 N0_4 N0_5 (Int32.ofNat i0.1)) (fX7_which 1000 N0_7 N0_7 (Int32.ofNat i0.1)) Prod.fst Prod.fst = true := by decide +kernel
set_option maxHeartbeats 2000000 in
set_option maxRecDepth 100000 in
theorem pe_33 (p1 : Int32) : ∃ ox om, fX6_which 1000 N0_6 N0_0 N0_1 N0_1 N0_4 N0_5 p1 = some ox ∧ fX7_which 1000 N0_7 N0_7 p1 = some om ∧ ox.1 = om.1 := by
  apply chB_ok (f := Prod.fst) (g := Prod.fst)
  rcases wj p1 0 99 100 (by decide) (by decide) with h0 | ⟨h0, l0, b0⟩
  · simp [fX6_which, fX7_which, h0, chB_some, chJ_some, Option.bind_some, N0_0, N0_1, N0_2, N0_3, N0_4, N0_5, N0_6, M0, zb0, zb1, rf6_2, rf6_4, rf6_5, rf7_2, rf7_4, rf7_5, wn, wn10, in_none, in_none', in_none'', inw_0_7, inw_0_4, inw_0_40, inw_0_11, inw_0_5, inw_0_2, inw_0_99, inw_1_30, inw_12_16, inw_1_20, inw_0_30, inw_0_9999, inw_1_7, inw_1_60, inw_1_999, inw_1_99, inw_1_5, inw_1_4, inw_0_6, inw_0_9, inw_10_9, inw_0_3, e2, e3, e4, e5, e6, e7, e8, e9, e10, e11, e12, e13, e14, e15, e16, e18, e24, e25, e26, e27, e28, e35]
  exact en (P := fun p1 => chB (fX6_which 1000 N0_6 N0_0 N0_1 N0_1 N0_4 N0_5 p1) (fX7_which 1000 N0_7 N0_7 p1) Prod.fst Prod.fst = true) 100 pc_33 l0 b0
set_option maxHeartbeats 2000000 in
set_option maxRecDepth 100000 in
theorem pc_34 : ∀ (i0 : Fin 6), chB (fX6_earns 1000 N0_6 N0_1 N0_4 N0_5 (Int32.ofNat i0.1)) (fX7_earns 1000 N0_7 (Int32.ofNat i0.1)) Prod.fst Prod.fst = true := by decide +kernel
set_option maxHeartbeats 2000000 in
set_option maxRecDepth 100000 in
theorem pe_34 (p1 : Int32) : ∃ ox om, fX6_earns 1000 N0_6 N0_1 N0_4 N0_5 p1 = some ox ∧ fX7_earns 1000 N0_7 p1 = some om ∧ ox.1 = om.1 := by
  apply chB_ok (f := Prod.fst) (g := Prod.fst)
  rcases wj p1 0 5 6 (by decide) (by decide) with h0 | ⟨h0, l0, b0⟩
  · simp [fX6_earns, fX7_earns, h0, chB_some, chJ_some, Option.bind_some, N0_0, N0_1, N0_2, N0_3, N0_4, N0_5, N0_6, M0, zb0, zb1, rf6_2, rf6_4, rf6_5, rf7_2, rf7_4, rf7_5, wn, wn10, in_none, in_none', in_none'', inw_0_7, inw_0_4, inw_0_40, inw_0_11, inw_0_5, inw_0_2, inw_0_99, inw_1_30, inw_12_16, inw_1_20, inw_0_30, inw_0_9999, inw_1_7, inw_1_60, inw_1_999, inw_1_99, inw_1_5, inw_1_4, inw_0_6, inw_0_9, inw_10_9, inw_0_3, e2, e3, e4, e5, e6, e7, e8, e9, e10, e11, e12, e13, e14, e15, e16, e18, e24, e25, e26, e27, e28, e35]
  exact en (P := fun p1 => chB (fX6_earns 1000 N0_6 N0_1 N0_4 N0_5 p1) (fX7_earns 1000 N0_7 p1) Prod.fst Prod.fst = true) 6 pc_34 l0 b0
set_option maxHeartbeats 2000000 in
set_option maxRecDepth 100000 in
theorem pc_42 : ∀ (i0 : Fin 21), chB (fX6_run 1000 N0_6 N0_0 N0_1 N0_1 N0_4 N0_5 (Int32.ofNat i0.1)) (fX7_runNt 1000 N0_7 N0_7 (Int32.ofNat i0.1)) Prod.fst Prod.fst = true := by decide +kernel
set_option maxHeartbeats 2000000 in
set_option maxRecDepth 100000 in
theorem pe_42 (p1 : Int32) : ∃ ox om, fX6_run 1000 N0_6 N0_0 N0_1 N0_1 N0_4 N0_5 p1 = some ox ∧ fX7_runNt 1000 N0_7 N0_7 p1 = some om ∧ ox.1 = om.1 := by
  apply chB_ok (f := Prod.fst) (g := Prod.fst)
  rcases wj p1 1 20 21 (by decide) (by decide) with h0 | ⟨h0, l0, b0⟩
  · simp [fX6_run, fX7_runNt, h0, chB_some, chJ_some, Option.bind_some, N0_0, N0_1, N0_2, N0_3, N0_4, N0_5, N0_6, M0, zb0, zb1, rf6_2, rf6_4, rf6_5, rf7_2, rf7_4, rf7_5, wn, wn10, in_none, in_none', in_none'', inw_0_7, inw_0_4, inw_0_40, inw_0_11, inw_0_5, inw_0_2, inw_0_99, inw_1_30, inw_12_16, inw_1_20, inw_0_30, inw_0_9999, inw_1_7, inw_1_60, inw_1_999, inw_1_99, inw_1_5, inw_1_4, inw_0_6, inw_0_9, inw_10_9, inw_0_3, e2, e3, e4, e5, e6, e7, e8, e9, e10, e11, e12, e13, e14, e15, e16, e18, e24, e25, e26, e27, e28, e35]
  exact en (P := fun p1 => chB (fX6_run 1000 N0_6 N0_0 N0_1 N0_1 N0_4 N0_5 p1) (fX7_runNt 1000 N0_7 N0_7 p1) Prod.fst Prod.fst = true) 21 pc_42 l0 b0

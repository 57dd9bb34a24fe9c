set_option maxHeartbeats 2000000 in
set_option maxRecDepth 100000 in
theorem pc_23 : ∀ i : Fin 2, chB (fX6_turn 1000 N0_6 N0_1 N0_4 N0_5 (Int32.ofNat i.1)) (fX7_turn 1000 N0_7 (Int32.ofNat i.1)) Prod.fst Prod.fst = true := by decide +kernel
set_option maxHeartbeats 2000000 in
set_option maxRecDepth 100000 in
theorem pe_23 (p1 : Int32) : ∃ ox om, fX6_turn 1000 N0_6 N0_1 N0_4 N0_5 p1 = some ox ∧ fX7_turn 1000 N0_7 p1 = some om ∧ ox.1 = om.1 := by
  apply chB_ok (f := Prod.fst) (g := Prod.fst)
  rcases wi p1 0 1 with h0 | ⟨h0, l0, b0⟩
  · have hn : p1 < 0 ∨ (¬ p1 < 0 ∧ ¬ p1 ≤ 1) := by
      unfold fX6_within at h0
      by_cases a : p1 < 0
      · exact Or.inl a
      · refine Or.inr ⟨a, fun b => ?_⟩
        rw [if_neg a, if_neg (Int32.not_lt.mpr b)] at h0
        exact absurd h0 (by decide)
    rcases hn with a | ⟨a, b⟩
    · simp [fX6_turn, fX7_turn, h0, a, chB_some, chJ_some, Option.bind_some, N0_0, N0_1, N0_2, N0_3, N0_4, N0_5, N0_6, M0, zb0, zb1, rf6_2, rf6_4, rf6_5, rf7_2, rf7_4, rf7_5, wn, wn10, in_none, in_none', in_none'', inw_0_7, inw_0_4, inw_0_40, inw_0_11, inw_0_5, inw_0_2, inw_0_99, inw_1_30, inw_12_16, inw_1_20, inw_0_30, inw_0_9999, inw_1_7, inw_1_60, inw_1_999, inw_1_99, inw_1_5, inw_1_4, inw_0_6, inw_0_9, inw_10_9, inw_0_3, e2, e3, e4, e5, e6, e7, e8, e9, e10, e11, e12, e13, e14, e15, e16, e18, e24, e25, e26, e27, e28, e35]
    · simp [fX6_turn, fX7_turn, h0, a, b, chB_some, chJ_some, Option.bind_some, N0_0, N0_1, N0_2, N0_3, N0_4, N0_5, N0_6, M0, zb0, zb1, rf6_2, rf6_4, rf6_5, rf7_2, rf7_4, rf7_5, wn, wn10, in_none, in_none', in_none'', inw_0_7, inw_0_4, inw_0_40, inw_0_11, inw_0_5, inw_0_2, inw_0_99, inw_1_30, inw_12_16, inw_1_20, inw_0_30, inw_0_9999, inw_1_7, inw_1_60, inw_1_999, inw_1_99, inw_1_5, inw_1_4, inw_0_6, inw_0_9, inw_10_9, inw_0_3, e2, e3, e4, e5, e6, e7, e8, e9, e10, e11, e12, e13, e14, e15, e16, e18, e24, e25, e26, e27, e28, e35]
  · exact en (P := fun p1 => chB (fX6_turn 1000 N0_6 N0_1 N0_4 N0_5 p1) (fX7_turn 1000 N0_7 p1) Prod.fst Prod.fst = true) 2 pc_23 l0 (Int.lt_of_le_of_lt (Int32.le_iff_toInt_le.mp b0) (by decide))
set_option maxHeartbeats 2000000 in
set_option maxRecDepth 100000 in
theorem s24 : ((1 : Int32) <<< ((0 : Int32) &&& 31)) - 1 = 0 := by decide
set_option maxHeartbeats 2000000 in
set_option maxRecDepth 100000 in
theorem inw_0_0 (p : Int32) : fX7_in p.toInt64 0 0 = fX6_within p 0 0 := inq p 0 0 (by decide) (by decide)
set_option maxHeartbeats 2000000 in
set_option maxRecDepth 100000 in
theorem inw_0_0' (p : Int32) : fX7_in p.toInt64 0 (Int32.toInt64 0) = fX6_within p 0 0 := inq p 0 0 (by decide) (by decide)
set_option maxHeartbeats 2000000 in
set_option maxRecDepth 100000 in
theorem pc_24 : ∀ i : Fin 1, chB (fX6_total 1000 N0_6 N0_0 N0_1 N0_1 N0_4 N0_5 (Int32.ofNat i.1)) (fX7_total 1000 N0_7 N0_7 (Int32.ofNat i.1)) Prod.fst Prod.fst = true := by decide +kernel
set_option maxHeartbeats 2000000 in
set_option maxRecDepth 100000 in
theorem pe_24 (p1 : Int32) : ∃ ox om, fX6_total 1000 N0_6 N0_0 N0_1 N0_1 N0_4 N0_5 p1 = some ox ∧ fX7_total 1000 N0_7 N0_7 p1 = some om ∧ ox.1 = om.1 := by
  apply chB_ok (f := Prod.fst) (g := Prod.fst)
  rcases wj p1 0 0 1 (by decide) (by decide) with h0 | ⟨h0, l0, b0⟩
  · simp [fX6_total, fX7_total, h0, s24, inw_0_0, inw_0_0', chB_some, chJ_some, Option.bind_some, N0_0, N0_1, N0_2, N0_3, N0_4, N0_5, N0_6, M0, zb0, zb1, rf6_2, rf6_4, rf6_5, rf7_2, rf7_4, rf7_5, wn, wn10, in_none, in_none', in_none'', inw_0_7, inw_0_4, inw_0_40, inw_0_11, inw_0_5, inw_0_2, inw_0_99, inw_1_30, inw_12_16, inw_1_20, inw_0_30, inw_0_9999, inw_1_7, inw_1_60, inw_1_999, inw_1_99, inw_1_5, inw_1_4, inw_0_6, inw_0_9, inw_10_9, inw_0_3, e2, e3, e4, e5, e6, e7, e8, e9, e10, e11, e12, e13, e14, e15, e16, e18, e24, e25, e26, e27, e28, e35]
  · exact en (P := fun p1 => chB (fX6_total 1000 N0_6 N0_0 N0_1 N0_1 N0_4 N0_5 p1) (fX7_total 1000 N0_7 N0_7 p1) Prod.fst Prod.fst = true) 1 pc_24 l0 b0
set_option maxHeartbeats 2000000 in
set_option maxRecDepth 100000 in
theorem pc_41 : chB (fX6_year 1000 N0_6 N0_0 N0_1 N0_1 N0_4 N0_5 (-1)) (fX7_year 1000 N0_7 (-1)) Prod.fst Prod.fst = true := by decide +kernel
set_option maxHeartbeats 2000000 in
set_option maxRecDepth 100000 in
theorem pe_41 (p1 : Int32) : ∃ ox om, fX6_year 1000 N0_6 N0_0 N0_1 N0_1 N0_4 N0_5 p1 = some ox ∧ fX7_year 1000 N0_7 p1 = some om ∧ ox.1 = om.1 := by
  apply chB_ok (f := Prod.fst) (g := Prod.fst)
  by_cases hp : p1 = -1
  · subst hp
    exact pc_41
  · simp [fX6_year, fX7_year, hp, fX6_year_j14, fX1_hasWork, fX1_hasLine, fX1_hasGoods, fX7_isWork, fX7_isLine, fX6_noChoice, chB_some, chJ_some, Option.bind_some, N0_0, N0_1, N0_2, N0_3, N0_4, N0_5, N0_6, M0, zb0, zb1, rf6_2, rf6_4, rf6_5, rf7_2, rf7_4, rf7_5, wn, wn10, in_none, in_none', in_none'', inw_0_7, inw_0_4, inw_0_40, inw_0_11, inw_0_5, inw_0_2, inw_0_99, inw_1_30, inw_12_16, inw_1_20, inw_0_30, inw_0_9999, inw_1_7, inw_1_60, inw_1_999, inw_1_99, inw_1_5, inw_1_4, inw_0_6, inw_0_9, inw_10_9, inw_0_3, e2, e3, e4, e5, e6, e7, e8, e9, e10, e11, e12, e13, e14, e15, e16, e18, e24, e25, e26, e27, e28, e35]
set_option maxHeartbeats 2000000 in
set_option maxRecDepth 100000 in
theorem pc_45 : ∀ i : Fin 17, chB (fX6_status 1000 N0_6 N0_2 N0_1 N0_3 (Int32.ofNat i.1)) (fX7_status 1000 N0_7 (Int32.ofNat i.1)) (fun (o : Int32) => o) (fun (o : Int32) => o) = true := by decide +kernel
set_option maxHeartbeats 2000000 in
set_option maxRecDepth 100000 in
theorem pe_45 (p1 : Int32) : ∃ ox om, fX6_status 1000 N0_6 N0_2 N0_1 N0_3 p1 = some ox ∧ fX7_status 1000 N0_7 p1 = some om ∧ ox = om := by
  apply chB_ok (f := (fun (o : Int32) => o)) (g := (fun (o : Int32) => o))
  by_cases hp : 0 ≤ p1 ∧ p1.toInt < 17
  · exact en (P := fun p1 => chB (fX6_status 1000 N0_6 N0_2 N0_1 N0_3 p1) (fX7_status 1000 N0_7 p1) (fun (o : Int32) => o) (fun (o : Int32) => o) = true) 17 pc_45 hp.1 hp.2
  · have al : ∀ i : Fin 17, 0 ≤ Int32.ofNat i.1 ∧ (Int32.ofNat i.1).toInt < 17 := by decide
    have hk : ∀ i : Fin 17, p1 ≠ Int32.ofNat i.1 := fun i e => hp (by rw [e]; exact al i)
    have n0 : p1 ≠ 0 := hk 0
    have n1 : p1 ≠ 1 := hk 1
    have n2 : p1 ≠ 2 := hk 2
    have n3 : p1 ≠ 3 := hk 3
    have n4 : p1 ≠ 4 := hk 4
    have n5 : p1 ≠ 5 := hk 5
    have n6 : p1 ≠ 6 := hk 6
    have n7 : p1 ≠ 7 := hk 7
    have n8 : p1 ≠ 8 := hk 8
    have hw : fX6_within p1 12 16 = some 0 := by
      rcases wi p1 12 16 with h | ⟨_, h1, h2⟩
      · exact h
      · exact absurd ⟨Int32.le_trans (by decide) h1, Int.lt_of_le_of_lt (Int32.le_iff_toInt_le.mp h2) (by decide)⟩ hp
    simp [fX6_status, fX7_status, hw, n0, n1, n2, n3, n4, n5, n6, n7, n8, chB_some, chJ_some, Option.bind_some, N0_0, N0_1, N0_2, N0_3, N0_4, N0_5, N0_6, M0, zb0, zb1, rf6_2, rf6_4, rf6_5, rf7_2, rf7_4, rf7_5, wn, wn10, in_none, in_none', in_none'', inw_0_7, inw_0_4, inw_0_40, inw_0_11, inw_0_5, inw_0_2, inw_0_99, inw_1_30, inw_12_16, inw_1_20, inw_0_30, inw_0_9999, inw_1_7, inw_1_60, inw_1_999, inw_1_99, inw_1_5, inw_1_4, inw_0_6, inw_0_9, inw_10_9, inw_0_3, e2, e3, e4, e5, e6, e7, e8, e9, e10, e11, e12, e13, e14, e15, e16, e18, e24, e25, e26, e27, e28, e35]
set_option maxHeartbeats 2000000 in
set_option maxRecDepth 100000 in
theorem pc_37 : ∀ (i : Fin 12) (j : Fin 2), chB (fX6_port 1000 N0_6 N0_1 N0_4 N0_5 (Int32.ofNat i.1) (Int32.ofNat j.1)) (fX7_port 1000 N0_7 (Int32.ofNat i.1) (Int32.ofNat j.1)) Prod.fst Prod.fst = true := by decide +kernel
set_option maxHeartbeats 2000000 in
set_option maxRecDepth 100000 in
theorem pe_37 (p1 : Int32) (p2 : Int32) (l1 : 0 ≤ p2) (b1 : p2.toInt < 2) : ∃ ox om, fX6_port 1000 N0_6 N0_1 N0_4 N0_5 p1 p2 = some ox ∧ fX7_port 1000 N0_7 p1 p2 = some om ∧ ox.1 = om.1 := by
  apply chB_ok (f := Prod.fst) (g := Prod.fst)
  rcases wj p1 0 11 12 (by decide) (by decide) with h0 | ⟨h0, l0, b0⟩
  · simp [fX6_port, fX7_port, h0, fX6_isPlace, fX7_isPlace, chB_some, chJ_some, Option.bind_some, N0_0, N0_1, N0_2, N0_3, N0_4, N0_5, N0_6, M0, zb0, zb1, rf6_2, rf6_4, rf6_5, rf7_2, rf7_4, rf7_5, wn, wn10, in_none, in_none', in_none'', inw_0_7, inw_0_4, inw_0_40, inw_0_11, inw_0_5, inw_0_2, inw_0_99, inw_1_30, inw_12_16, inw_1_20, inw_0_30, inw_0_9999, inw_1_7, inw_1_60, inw_1_999, inw_1_99, inw_1_5, inw_1_4, inw_0_6, inw_0_9, inw_10_9, inw_0_3, e2, e3, e4, e5, e6, e7, e8, e9, e10, e11, e12, e13, e14, e15, e16, e18, e24, e25, e26, e27, e28, e35]
  exact en2 (P := fun p1 p2 => chB (fX6_port 1000 N0_6 N0_1 N0_4 N0_5 p1 p2) (fX7_port 1000 N0_7 p1 p2) Prod.fst Prod.fst = true) 12 2 pc_37 l0 b0 l1 b1

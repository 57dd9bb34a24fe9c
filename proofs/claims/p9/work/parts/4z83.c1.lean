theorem TX0_costOfWidth_s14 {p2 p3 : Int32} {x3_knownFree : (Nat → Int32)} {x4_lineCount x4_goodsCount x4_workCount x4_years : Int32} {x4_lines x4_goods x4_works x4_change x4_coin x4_knownFree : (Nat → Int32)} {x4_isKnown g2 g3 g4 g5 : Int32} {g7 g8 g9 g10 : (Nat → Int32)} {z14 z15 : Int32} {z16 : (Nat → Int32)} {z17 : Int32}  (h_p2 : (0 ≤ p2 ∧ p2 ≤ 2)) (h_x4_lineCount : (0 ≤ x4_lineCount ∧ x4_lineCount ≤ 20)) (h_x4_goodsCount : (0 ≤ x4_goodsCount ∧ x4_goodsCount ≤ 8)) (h_x4_workCount : (0 ≤ x4_workCount ∧ x4_workCount ≤ 7)) (h_x4_years : (1 ≤ x4_years ∧ x4_years ≤ 30)) (h_x4_lines : (LnOk x4_lines)) (h_x4_goods : (GdOk x4_goods)) (h_x4_works : (WkOk x4_works)) (h_x4_change : (AI 0 99 x4_change)) (h_x4_coin : (AI 0 9 x4_coin)) (h_g2 : (0 ≤ g2 ∧ g2 ≤ 20)) (h_g3 : (0 ≤ g3 ∧ g3 ≤ 8)) (h_g4 : (0 ≤ g4 ∧ g4 ≤ 7)) (h_g5 : (1 ≤ g5 ∧ g5 ≤ 30)) (h_g7 : (GdOk g7)) (h_g8 : (WkOk g8)) (h_g9 : (AI 0 99 g9)) (h_g10 : (AI 0 9 g10)) (h_z15 : (0 ≤ z15)) (h_z16 : (LnOk z16)) : Sf (fX0_costOfWidth_s14 p2 p3 x3_knownFree x4_lineCount x4_goodsCount x4_workCount x4_years x4_lines x4_goods x4_works x4_change x4_coin x4_knownFree x4_isKnown g2 g3 g4 g5 g7 g8 g9 g10 z14 z15 z16 z17) (LQ (u4 (fun z14 z15 z16 z17 => (0 ≤ z15) ∧ (LnOk z16))) (u4 (fun z14 z15 z16 z17 => muUp z15)) (muUp z15) (fun e => (LnOk e.2.1))) := by
  unfold fX0_costOfWidth_s14
  refine Sf.ite (fun hc1 => ?_) (fun hc1 => ?_)
  · exact Sf.inr (show (LnOk z16) from h_z16)
  · refine Sf.bind (s_ofLine h_x4_lines (by grind) (by decide)) ?_
    intro v35 hr2
    obtain ⟨h_v35, e_v35⟩ : (0 ≤ v35 ∧ v35 ≤ 1) ∧ v35 = x4_lines (z15.toNatClampNeg * 7 + 6) := hr2
    clear e_v35
    refine Sf.ite (fun hc3 => ?_) (fun hc3 => ?_)
    · refine Sf.bind (s_ofLine h_x4_lines (by grind) (by decide)) ?_
      intro v37 hr4
      obtain ⟨h_v37, e_v37⟩ : (0 ≤ v37 ∧ v37 ≤ 7) ∧ v37 = x4_lines (z15.toNatClampNeg * 7 + 2) := hr4
      clear e_v37
      refine Sf.ite (fun hc5 => ?_) (fun hc5 => ?_)
      · refine Sf.bind (s_ofLine h_x4_lines (by grind) (by decide)) ?_
        intro v43 hr6
        obtain ⟨h_v43, e_v43⟩ : (0 ≤ v43 ∧ v43 ≤ 60) ∧ v43 = x4_lines (z15.toNatClampNeg * 7 + 3) := hr6
        clear e_v43
        unfold fX0_costOfWidth_j62
        refine Sf.bind (sX1_putWidths h_g2 h_z16 (sh_w (by grind))) ?_
        rintro ⟨g40, g41⟩ hr7
        have h_g40 : (LnOk g40) := hr7
        dsimp only [u2]
        exact Sf.inl (show (0 ≤ (z15 + 1)) ∧ (LnOk g40) from ⟨(by grind), h_g40⟩) (muUp_lt hc1)
      · unfold fX0_costOfWidth_j62
        refine Sf.bind (sX1_putWidths h_g2 h_z16 (sh_w (by grind))) ?_
        rintro ⟨g40, g41⟩ hr8
        have h_g40 : (LnOk g40) := hr8
        dsimp only [u2]
        exact Sf.inl (show (0 ≤ (z15 + 1)) ∧ (LnOk g40) from ⟨(by grind), h_g40⟩) (muUp_lt hc1)
    · exact Sf.inl (show (0 ≤ (z15 + 1)) ∧ (LnOk z16) from ⟨(by grind), h_z16⟩) (muUp_lt hc1)
theorem LX0_costOfWidth_s14 {n : Nat} {p2 p3 : Int32} {x3_knownFree : (Nat → Int32)} {x4_lineCount x4_goodsCount x4_workCount x4_years : Int32} {x4_lines x4_goods x4_works x4_change x4_coin x4_knownFree : (Nat → Int32)} {x4_isKnown g2 g3 g4 g5 : Int32} {g7 g8 g9 g10 : (Nat → Int32)} {z14 z15 : Int32} {z16 : (Nat → Int32)} {z17 : Int32} (hn : 1000000000000 ≤ n) (h_p2 : (0 ≤ p2 ∧ p2 ≤ 2)) (h_x4_lineCount : (0 ≤ x4_lineCount ∧ x4_lineCount ≤ 20)) (h_x4_goodsCount : (0 ≤ x4_goodsCount ∧ x4_goodsCount ≤ 8)) (h_x4_workCount : (0 ≤ x4_workCount ∧ x4_workCount ≤ 7)) (h_x4_years : (1 ≤ x4_years ∧ x4_years ≤ 30)) (h_x4_lines : (LnOk x4_lines)) (h_x4_goods : (GdOk x4_goods)) (h_x4_works : (WkOk x4_works)) (h_x4_change : (AI 0 99 x4_change)) (h_x4_coin : (AI 0 9 x4_coin)) (h_g2 : (0 ≤ g2 ∧ g2 ≤ 20)) (h_g3 : (0 ≤ g3 ∧ g3 ≤ 8)) (h_g4 : (0 ≤ g4 ∧ g4 ≤ 7)) (h_g5 : (1 ≤ g5 ∧ g5 ≤ 30)) (h_g7 : (GdOk g7)) (h_g8 : (WkOk g8)) (h_g9 : (AI 0 99 g9)) (h_g10 : (AI 0 9 g10)) (h_z15 : (0 ≤ z15)) (h_z16 : (LnOk z16)) : Sf (lp (u4 (fX0_costOfWidth_s14 p2 p3 x3_knownFree x4_lineCount x4_goodsCount x4_workCount x4_years x4_lines x4_goods x4_works x4_change x4_coin x4_knownFree x4_isKnown g2 g3 g4 g5 g7 g8 g9 g10)) n (z14, z15, z16, z17)) (fun e => (LnOk e.2.1)) :=
  Sf.loop4 (fun z14 z15 z16 z17 => (0 ≤ z15) ∧ (LnOk z16)) (fun z14 z15 z16 z17 => muUp z15) (fun z14 z15 z16 z17 h => TX0_costOfWidth_s14 h_p2 h_x4_lineCount h_x4_goodsCount h_x4_workCount h_x4_years h_x4_lines h_x4_goods h_x4_works h_x4_change h_x4_coin h_g2 h_g3 h_g4 h_g5 h_g7 h_g8 h_g9 h_g10 h.1 h.2) (show (0 ≤ z15) ∧ (LnOk z16) from ⟨h_z15, h_z16⟩) (muUp_n hn)
set_option maxHeartbeats 1000000 in
theorem sX0_costOfWidth {n : Nat} {x0_gained x1_left x1_earned : (Nat → Int32)} {x1_turnCost x1_turnWayless : Int32} {x2_edgeA x2_edgeB x2_edgeCost x2_edgeLine x2_change x2_away x2_steps x2_nodes : (Nat → Int32)} {x2_stepCount : Int32} {x2_open : (Nat → Int32)} {x2_openCount : Int32} {x2_seen : Int64} {x2_edgeCount x2_aim x3_lineCount x3_goodsCount x3_workCount x3_years : Int32} {x3_lines x3_goods x3_works x3_change x3_coin x3_knownFree : (Nat → Int32)} {x3_isKnown x4_lineCount x4_goodsCount x4_workCount x4_years : Int32} {x4_lines x4_goods x4_works x4_change x4_coin x4_knownFree : (Nat → Int32)} {x4_isKnown p2 p3 : Int32} (hn : 1000000000000 ≤ n) (h_x2_edgeA : (AI 0 35 x2_edgeA)) (h_x2_edgeB : (AI 0 35 x2_edgeB)) (h_x2_edgeLine : (AI 0 19 x2_edgeLine)) (h_x2_steps : (AI 0 22 x2_steps)) (h_x2_nodes : (AI 0 35 x2_nodes)) (h_x2_stepCount : (0 ≤ x2_stepCount ∧ x2_stepCount ≤ 36)) (h_x2_open : (AI 0 35 x2_open)) (h_x2_openCount : (0 ≤ x2_openCount ∧ x2_openCount ≤ 36)) (h_x2_edgeCount : (0 ≤ x2_edgeCount ∧ x2_edgeCount ≤ 60)) (h_x3_lineCount : (0 ≤ x3_lineCount ∧ x3_lineCount ≤ 20)) (h_x3_goodsCount : (0 ≤ x3_goodsCount ∧ x3_goodsCount ≤ 8)) (h_x3_workCount : (0 ≤ x3_workCount ∧ x3_workCount ≤ 7)) (h_x3_years : (1 ≤ x3_years ∧ x3_years ≤ 30)) (h_x3_lines : (LnOk x3_lines)) (h_x3_goods : (GdOk x3_goods)) (h_x3_works : (WkOk x3_works)) (h_x3_change : (AI 0 99 x3_change)) (h_x3_coin : (AI 0 9 x3_coin)) (h_x4_lineCount : (0 ≤ x4_lineCount ∧ x4_lineCount ≤ 20)) (h_x4_goodsCount : (0 ≤ x4_goodsCount ∧ x4_goodsCount ≤ 8)) (h_x4_workCount : (0 ≤ x4_workCount ∧ x4_workCount ≤ 7)) (h_x4_years : (1 ≤ x4_years ∧ x4_years ≤ 30)) (h_x4_lines : (LnOk x4_lines)) (h_x4_goods : (GdOk x4_goods)) (h_x4_works : (WkOk x4_works)) (h_x4_change : (AI 0 99 x4_change)) (h_x4_coin : (AI 0 9 x4_coin)) (h_p2 : (0 ≤ p2 ∧ p2 ≤ 2)) : Sf (fX0_costOfWidth n x0_gained (x1_left, x1_earned, x1_turnCost, x1_turnWayless) (x2_edgeA, x2_edgeB, x2_edgeCost, x2_edgeLine, x2_change, x2_away, x2_steps, x2_nodes, x2_stepCount, x2_open, x2_openCount, x2_seen, x2_edgeCount, x2_aim) (x3_lineCount, x3_goodsCount, x3_workCount, x3_years, x3_lines, x3_goods, x3_works, x3_change, x3_coin, x3_knownFree, x3_isKnown) (x4_lineCount, x4_goodsCount, x4_workCount, x4_years, x4_lines, x4_goods, x4_works, x4_change, x4_coin, x4_knownFree, x4_isKnown) p2 p3) (fun r => (AI 0 35 r.2.1.1) ∧ (AI 0 35 r.2.1.2.1) ∧ (AI 0 19 r.2.1.2.2.2.1) ∧ (0 ≤ r.2.1.2.2.2.2.2.2.1 ∧ r.2.1.2.2.2.2.2.2.1 ≤ 60) ∧ (0 ≤ r.2.2.1 ∧ r.2.2.1 ≤ 20) ∧ (0 ≤ r.2.2.2.1 ∧ r.2.2.2.1 ≤ 8) ∧ (0 ≤ r.2.2.2.2.1 ∧ r.2.2.2.2.1 ≤ 7) ∧ (1 ≤ r.2.2.2.2.2.1 ∧ r.2.2.2.2.2.1 ≤ 30) ∧ (LnOk r.2.2.2.2.2.2.1) ∧ (GdOk r.2.2.2.2.2.2.2.1) ∧ (WkOk r.2.2.2.2.2.2.2.2.1) ∧ (AI 0 99 r.2.2.2.2.2.2.2.2.2.1) ∧ (AI 0 9 r.2.2.2.2.2.2.2.2.2.2.1)) := by
  unfold fX0_costOfWidth
  dsimp only [u11, u14, u4]
  refine Sf.bind (sX1_take h_x3_lines h_x3_goods h_x3_works h_x3_change h_x3_coin h_x4_lineCount h_x4_goodsCount h_x4_workCount h_x4_years h_x4_lines h_x4_goods h_x4_works h_x4_change h_x4_coin) ?_
  rintro ⟨g2, g3, g4, g5, g6, g7, g8, g9, g10, g11⟩ hr1
  obtain ⟨h_g2, h_g3, h_g4, h_g5, h_g6, h_g7, h_g8, h_g9, h_g10⟩ : (0 ≤ g2 ∧ g2 ≤ 20) ∧ (0 ≤ g3 ∧ g3 ≤ 8) ∧ (0 ≤ g4 ∧ g4 ≤ 7) ∧ (1 ≤ g5 ∧ g5 ≤ 30) ∧ (LnOk g6) ∧ (GdOk g7) ∧ (WkOk g8) ∧ (AI 0 99 g9) ∧ (AI 0 9 g10) := hr1
  dsimp only [u10]
  refine Sf.bind (LX0_costOfWidth_s14 hn h_p2 h_x4_lineCount h_x4_goodsCount h_x4_workCount h_x4_years h_x4_lines h_x4_goods h_x4_works h_x4_change h_x4_coin h_g2 h_g3 h_g4 h_g5 h_g7 h_g8 h_g9 h_g10 (by decide) h_g6) ?_
  rintro ⟨w19, w20, w21⟩ hr2
  have h_w20 : (LnOk w20) := hr2
  dsimp only [u3]
  refine Sf.bind (sX1_linesThere hn h_g2 h_g3 h_g4 h_g5 h_w20 h_g7 h_g8 h_g9 h_g10) ?_
  intro v22 hr3
  refine Sf.bind (sX4_freeBy hn h_x2_edgeA h_x2_edgeB h_x2_edgeLine h_x2_steps h_x2_nodes h_x2_stepCount h_x2_open h_x2_openCount h_x2_edgeCount h_g2 h_g3 h_g4 h_g5 h_w20 h_g7 h_g8 h_g9 h_g10) ?_
  rintro ⟨v24, ⟨g26, g27, g28, g29, g30, g31, g32, g33⟩⟩ hr4
  obtain ⟨h_g26, h_g27, h_g29, h_g32⟩ : (AI 0 35 g26) ∧ (AI 0 35 g27) ∧ (AI 0 19 g29) ∧ (0 ≤ g32 ∧ g32 ≤ 60) := hr4
  dsimp only [u2, u8]
  exact Sf.ok (show (AI 0 35 g26) ∧ (AI 0 35 g27) ∧ (AI 0 19 g29) ∧ (0 ≤ g32 ∧ g32 ≤ 60) ∧ (0 ≤ g2 ∧ g2 ≤ 20) ∧ (0 ≤ g3 ∧ g3 ≤ 8) ∧ (0 ≤ g4 ∧ g4 ≤ 7) ∧ (1 ≤ g5 ∧ g5 ≤ 30) ∧ (LnOk w20) ∧ (GdOk g7) ∧ (WkOk g8) ∧ (AI 0 99 g9) ∧ (AI 0 9 g10) from ⟨h_g26, h_g27, h_g29, h_g32, h_g2, h_g3, h_g4, h_g5, h_w20, h_g7, h_g8, h_g9, h_g10⟩)
set_option maxHeartbeats 1000000 in
theorem sX5_note {x0_edgeA x0_edgeB x0_edgeCost x0_edgeLine x0_change x0_away x0_steps x0_nodes : (Nat → Int32)} {x0_stepCount : Int32} {x0_open : (Nat → Int32)} {x0_openCount : Int32} {x0_seen : Int64} {x0_edgeCount x0_aim p1 p2 : Int32}  (h_x0_edgeA : (AI 0 35 x0_edgeA)) (h_x0_edgeB : (AI 0 35 x0_edgeB)) (h_x0_edgeLine : (AI 0 19 x0_edgeLine)) (h_x0_steps : (AI 0 22 x0_steps)) (h_x0_nodes : (AI 0 35 x0_nodes)) (h_x0_stepCount : (0 ≤ x0_stepCount ∧ x0_stepCount ≤ 36)) (h_x0_open : (AI 0 35 x0_open)) (h_x0_openCount : (0 ≤ x0_openCount ∧ x0_openCount ≤ 36)) (h_x0_edgeCount : (0 ≤ x0_edgeCount ∧ x0_edgeCount ≤ 60)) (h_p1 : (0 ≤ p1 ∧ p1 ≤ 22)) (h_p2 : (0 ≤ p2 ∧ p2 ≤ 35)) : Sf (fX5_note (x0_edgeA, x0_edgeB, x0_edgeCost, x0_edgeLine, x0_change, x0_away, x0_steps, x0_nodes, x0_stepCount, x0_open, x0_openCount, x0_seen, x0_edgeCount, x0_aim) p1 p2) (fun r => (AI 0 22 r.1) ∧ (AI 0 35 r.2.1) ∧ (0 ≤ r.2.2 ∧ r.2.2 ≤ 36)) := by
  unfold fX5_note
  dsimp only [u14]
  refine Sf.ite (fun hc1 => ?_) (fun hc1 => ?_)
  · exact Sf.ok (show (AI 0 22 x0_steps) ∧ (AI 0 35 x0_nodes) ∧ (0 ≤ x0_stepCount ∧ x0_stepCount ≤ 36) from ⟨h_x0_steps, h_x0_nodes, h_x0_stepCount⟩)
  · refine Sf.wrI 36 rfl h_x0_steps (by grind) h_p1 (fun f1 h_f1 e_f1 => ?_)
    clear e_f1
    refine Sf.wrI 36 rfl h_x0_nodes (by grind) h_p2 (fun f2 h_f2 e_f2 => ?_)
    clear e_f2
    exact Sf.ok (show (AI 0 22 f1) ∧ (AI 0 35 f2) ∧ (0 ≤ (x0_stepCount + 1) ∧ (x0_stepCount + 1) ≤ 36) from ⟨h_f1, h_f2, (by grind)⟩)
set_option maxHeartbeats 1000000 in
theorem sX5_openIfCheapest {x0_edgeA x0_edgeB x0_edgeCost x0_edgeLine x0_change x0_away x0_steps x0_nodes : (Nat → Int32)} {x0_stepCount : Int32} {x0_open : (Nat → Int32)} {x0_openCount : Int32} {x0_seen : Int64} {x0_edgeCount x0_aim p1 p2 p3 : Int32}  (h_x0_edgeA : (AI 0 35 x0_edgeA)) (h_x0_edgeB : (AI 0 35 x0_edgeB)) (h_x0_edgeLine : (AI 0 19 x0_edgeLine)) (h_x0_steps : (AI 0 22 x0_steps)) (h_x0_nodes : (AI 0 35 x0_nodes)) (h_x0_stepCount : (0 ≤ x0_stepCount ∧ x0_stepCount ≤ 36)) (h_x0_open : (AI 0 35 x0_open)) (h_x0_openCount : (0 ≤ x0_openCount ∧ x0_openCount ≤ 36)) (h_x0_edgeCount : (0 ≤ x0_edgeCount ∧ x0_edgeCount ≤ 60)) (h_p1 : (0 ≤ p1 ∧ p1 ≤ 35)) (h_p2 : (0 ≤ p2 ∧ p2 ≤ 35)) : Sf (fX5_openIfCheapest (x0_edgeA, x0_edgeB, x0_edgeCost, x0_edgeLine, x0_change, x0_away, x0_steps, x0_nodes, x0_stepCount, x0_open, x0_openCount, x0_seen, x0_edgeCount, x0_aim) p1 p2 p3) (fun r => (AI 0 35 r.1) ∧ (0 ≤ r.2.1 ∧ r.2.1 ≤ 36)) := by
  unfold fX5_openIfCheapest
  dsimp only [u14]
  refine Sf.ite (fun hc1 => ?_) (fun hc1 => ?_)
  · refine Sf.ite (fun hc2 => ?_) (fun hc2 => ?_)
    · unfold fX5_openIfCheapest_j26
      unfold fX5_openIfCheapest_j27
      refine Sf.ite (fun hc3 => ?_) (fun hc3 => absurd (by decide) hc3)
      exact Sf.ok (show (AI 0 35 x0_open) ∧ (0 ≤ x0_openCount ∧ x0_openCount ≤ 36) from ⟨h_x0_open, h_x0_openCount⟩)
    · unfold fX5_openIfCheapest_j27
      refine Sf.ite (fun hc4 => absurd hc4 (by decide)) (fun hc4 => ?_)
      refine Sf.rdb 36 rfl (by grind) (fun v2 e_v2 => ?_)
      clear e_v2
      refine Sf.rdb 36 rfl (by grind) (fun v3 e_v3 => ?_)
      clear e_v3
      refine Sf.ite (fun hc5 => ?_) (fun hc5 => ?_)
      · refine Sf.someb (fun t4 e_t4 => ?_)
        refine Sf.wrI 36 rfl h_x0_open (by grind) h_p2 (fun f5 h_f5 e_f5 => ?_)
        clear e_f5
        exact Sf.ok (show (AI 0 35 f5) ∧ (0 ≤ (x0_openCount + 1) ∧ (x0_openCount + 1) ≤ 36) from ⟨h_f5, (by grind)⟩)
      · exact Sf.ok (show (AI 0 35 x0_open) ∧ (0 ≤ x0_openCount ∧ x0_openCount ≤ 36) from ⟨h_x0_open, h_x0_openCount⟩)
  · unfold fX5_openIfCheapest_j26
    unfold fX5_openIfCheapest_j27
    refine Sf.ite (fun hc6 => ?_) (fun hc6 => absurd (by decide) hc6)
    exact Sf.ok (show (AI 0 35 x0_open) ∧ (0 ≤ x0_openCount ∧ x0_openCount ≤ 36) from ⟨h_x0_open, h_x0_openCount⟩)
set_option maxHeartbeats 1000000 in
theorem sX5_otherEnd {x0_edgeA x0_edgeB x0_edgeCost x0_edgeLine x0_change x0_away x0_steps x0_nodes : (Nat → Int32)} {x0_stepCount : Int32} {x0_open : (Nat → Int32)} {x0_openCount : Int32} {x0_seen : Int64} {x0_edgeCount x0_aim p1 p2 : Int32}  (h_x0_edgeA : (AI 0 35 x0_edgeA)) (h_x0_edgeB : (AI 0 35 x0_edgeB)) (h_x0_edgeLine : (AI 0 19 x0_edgeLine)) (h_x0_steps : (AI 0 22 x0_steps)) (h_x0_nodes : (AI 0 35 x0_nodes)) (h_x0_stepCount : (0 ≤ x0_stepCount ∧ x0_stepCount ≤ 36)) (h_x0_open : (AI 0 35 x0_open)) (h_x0_openCount : (0 ≤ x0_openCount ∧ x0_openCount ≤ 36)) (h_x0_edgeCount : (0 ≤ x0_edgeCount ∧ x0_edgeCount ≤ 60)) (h_p1 : (0 ≤ p1 ∧ p1 ≤ 59)) : Sf (fX5_otherEnd (x0_edgeA, x0_edgeB, x0_edgeCost, x0_edgeLine, x0_change, x0_away, x0_steps, x0_nodes, x0_stepCount, x0_open, x0_openCount, x0_seen, x0_edgeCount, x0_aim) p1 p2) (fun r => ((-1) ≤ r ∧ r ≤ 35)) := by
  unfold fX5_otherEnd
  dsimp only [u14]
  refine Sf.rdI 60 rfl h_x0_edgeA (by grind) (fun v1 h_v1 e_v1 => ?_)
  refine Sf.ite (fun hc1 => ?_) (fun hc1 => ?_)
  · refine Sf.rdI 60 rfl h_x0_edgeB (by grind) (fun v4 h_v4 e_v4 => ?_)
    clear e_v4
    exact Sf.ok (show ((-1) ≤ v4 ∧ v4 ≤ 35) from (by grind))
  · refine Sf.rdI 60 rfl h_x0_edgeB (by grind) (fun v2 h_v2 e_v2 => ?_)
    clear e_v2
    refine Sf.ite (fun hc2 => ?_) (fun hc2 => ?_)
    · refine Sf.rdI 60 rfl h_x0_edgeA (by grind) (fun v3 h_v3 e_v3 => ?_)
      have hs3 : v3 = v1 := e_v3.trans e_v1.symm
      clear e_v3
      exact Sf.ok (show ((-1) ≤ v3 ∧ v3 ≤ 35) from (by grind))
    · exact Sf.ok (show ((-1) ≤ (-1) ∧ (-1) ≤ 35) from (by decide))
theorem TX5_arrives_s79 {x0_edgeA x0_edgeB x0_edgeCost x0_edgeLine x0_change x0_away x0_steps x0_nodes : (Nat → Int32)} {x0_stepCount x0_edgeCount x0_aim v15 z17 : Int32} {z18 : (Nat → Int32)} {z19 : Int32} {z20 : Int64}  (h_x0_edgeA : (AI 0 35 x0_edgeA)) (h_x0_edgeB : (AI 0 35 x0_edgeB)) (h_x0_edgeLine : (AI 0 19 x0_edgeLine)) (h_x0_steps : (AI 0 22 x0_steps)) (h_x0_nodes : (AI 0 35 x0_nodes)) (h_x0_stepCount : (0 ≤ x0_stepCount ∧ x0_stepCount ≤ 36)) (h_x0_edgeCount : (0 ≤ x0_edgeCount ∧ x0_edgeCount ≤ 60)) (h_v15 : (0 ≤ v15 ∧ v15 ≤ 35)) (h_z17 : (0 ≤ z17)) (h_z18 : (AI 0 35 z18)) (h_z19 : (0 ≤ z19 ∧ z19 ≤ 36)) : Sf (fX5_arrives_s79 x0_edgeA x0_edgeB x0_edgeCost x0_edgeLine x0_change x0_away x0_steps x0_nodes x0_stepCount x0_edgeCount x0_aim v15 z17 z18 z19 z20) (LQ (u4 (fun z17 z18 z19 z20 => (0 ≤ z17) ∧ (AI 0 35 z18) ∧ (0 ≤ z19 ∧ z19 ≤ 36))) (u4 (fun z17 z18 z19 z20 => muUp z17)) (muUp z17) (fun e => (AI 0 35 e.1) ∧ (0 ≤ e.2.1 ∧ e.2.1 ≤ 36))) := by
  unfold fX5_arrives_s79
  refine Sf.ite (fun hc1 => ?_) (fun hc1 => ?_)
  · exact Sf.inr (show (AI 0 35 z18) ∧ (0 ≤ z19 ∧ z19 ≤ 36) from ⟨h_z18, h_z19⟩)
  · have hd2 := dv3 (x := v15) (by grind)
    have hq3 : 0 ≤ (v15 / 3) ∧ (v15 / 3) < 12 := by grind
    refine Sf.rdb 12 rfl hq3 (fun v41 e_v41 => ?_)
    clear e_v41
    have hd4 := dv3 (x := v15) (by grind)
    refine Sf.bind (sX5_openIfCheapest h_x0_edgeA h_x0_edgeB h_x0_edgeLine h_x0_steps h_x0_nodes h_x0_stepCount h_z18 h_z19 h_x0_edgeCount h_v15 (by grind)) ?_
    rintro ⟨g42, g43, g44⟩ hr5
    obtain ⟨h_g42, h_g43⟩ : (AI 0 35 g42) ∧ (0 ≤ g43 ∧ g43 ≤ 36) := hr5
    dsimp only [u3]
    exact Sf.inl (show (0 ≤ (z17 + 1)) ∧ (AI 0 35 g42) ∧ (0 ≤ g43 ∧ g43 ≤ 36) from ⟨(by grind), h_g42, h_g43⟩) (muUp_lt hc1)
theorem LX5_arrives_s79 {n : Nat} {x0_edgeA x0_edgeB x0_edgeCost x0_edgeLine x0_change x0_away x0_steps x0_nodes : (Nat → Int32)} {x0_stepCount x0_edgeCount x0_aim v15 z17 : Int32} {z18 : (Nat → Int32)} {z19 : Int32} {z20 : Int64} (hn : 1000000000000 ≤ n) (h_x0_edgeA : (AI 0 35 x0_edgeA)) (h_x0_edgeB : (AI 0 35 x0_edgeB)) (h_x0_edgeLine : (AI 0 19 x0_edgeLine)) (h_x0_steps : (AI 0 22 x0_steps)) (h_x0_nodes : (AI 0 35 x0_nodes)) (h_x0_stepCount : (0 ≤ x0_stepCount ∧ x0_stepCount ≤ 36)) (h_x0_edgeCount : (0 ≤ x0_edgeCount ∧ x0_edgeCount ≤ 60)) (h_v15 : (0 ≤ v15 ∧ v15 ≤ 35)) (h_z17 : (0 ≤ z17)) (h_z18 : (AI 0 35 z18)) (h_z19 : (0 ≤ z19 ∧ z19 ≤ 36)) : Sf (lp (u4 (fX5_arrives_s79 x0_edgeA x0_edgeB x0_edgeCost x0_edgeLine x0_change x0_away x0_steps x0_nodes x0_stepCount x0_edgeCount x0_aim v15)) n (z17, z18, z19, z20)) (fun e => (AI 0 35 e.1) ∧ (0 ≤ e.2.1 ∧ e.2.1 ≤ 36)) :=
  Sf.loop4 (fun z17 z18 z19 z20 => (0 ≤ z17) ∧ (AI 0 35 z18) ∧ (0 ≤ z19 ∧ z19 ≤ 36)) (fun z17 z18 z19 z20 => muUp z17) (fun z17 z18 z19 z20 h => TX5_arrives_s79 h_x0_edgeA h_x0_edgeB h_x0_edgeLine h_x0_steps h_x0_nodes h_x0_stepCount h_x0_edgeCount h_v15 h.1 h.2.1 h.2.2) (show (0 ≤ z17) ∧ (AI 0 35 z18) ∧ (0 ≤ z19 ∧ z19 ≤ 36) from ⟨h_z17, h_z18, h_z19⟩) (muUp_n hn)
theorem TX5_arrives_s114 {x0_edgeA x0_edgeB x0_edgeCost x0_edgeLine x0_change x0_away x0_steps x0_nodes : (Nat → Int32)} {x0_stepCount x0_edgeCount x0_aim v15 z26 : Int32} {z27 : (Nat → Int32)} {z28 : Int32} {z29 : Int64}  (h_x0_edgeA : (AI 0 35 x0_edgeA)) (h_x0_edgeB : (AI 0 35 x0_edgeB)) (h_x0_edgeLine : (AI 0 19 x0_edgeLine)) (h_x0_steps : (AI 0 22 x0_steps)) (h_x0_nodes : (AI 0 35 x0_nodes)) (h_x0_stepCount : (0 ≤ x0_stepCount ∧ x0_stepCount ≤ 36)) (h_x0_edgeCount : (0 ≤ x0_edgeCount ∧ x0_edgeCount ≤ 60)) (h_v15 : (0 ≤ v15 ∧ v15 ≤ 35)) (h_z26 : (0 ≤ z26)) (h_z27 : (AI 0 35 z27)) (h_z28 : (0 ≤ z28 ∧ z28 ≤ 36)) : Sf (fX5_arrives_s114 x0_edgeA x0_edgeB x0_edgeCost x0_edgeLine x0_change x0_away x0_steps x0_nodes x0_stepCount x0_edgeCount x0_aim v15 z26 z27 z28 z29) (LQ (u4 (fun z26 z27 z28 z29 => (0 ≤ z26) ∧ (AI 0 35 z27) ∧ (0 ≤ z28 ∧ z28 ≤ 36))) (u4 (fun z26 z27 z28 z29 => muUp z26)) (muUp z26) (fun e => (AI 0 35 e.1) ∧ (0 ≤ e.2.1 ∧ e.2.1 ≤ 36))) := by
  unfold fX5_arrives_s114
  refine Sf.ite (fun hc1 => ?_) (fun hc1 => ?_)
  · exact Sf.inr (show (AI 0 35 z27) ∧ (0 ≤ z28 ∧ z28 ≤ 36) from ⟨h_z27, h_z28⟩)
  · refine Sf.bind (sX5_otherEnd h_x0_edgeA h_x0_edgeB h_x0_edgeLine h_x0_steps h_x0_nodes h_x0_stepCount h_z27 h_z28 h_x0_edgeCount (by grind)) ?_
    intro v34 hr2
    have h_v34 : ((-1) ≤ v34 ∧ v34 ≤ 35) := hr2
    refine Sf.ite (fun hc3 => ?_) (fun hc3 => ?_)
    · exact Sf.inl (show (0 ≤ (z26 + 1)) ∧ (AI 0 35 z27) ∧ (0 ≤ z28 ∧ z28 ≤ 36) from ⟨(by grind), h_z27, h_z28⟩) (muUp_lt hc1)
    · refine Sf.rdb 60 rfl (by grind) (fun v36 e_v36 => ?_)
      clear e_v36
      refine Sf.bind (sX5_openIfCheapest h_x0_edgeA h_x0_edgeB h_x0_edgeLine h_x0_steps h_x0_nodes h_x0_stepCount h_z27 h_z28 h_x0_edgeCount h_v15 (by grind)) ?_
      rintro ⟨g37, g38, g39⟩ hr4
      obtain ⟨h_g37, h_g38⟩ : (AI 0 35 g37) ∧ (0 ≤ g38 ∧ g38 ≤ 36) := hr4
      dsimp only [u3]
      exact Sf.inl (show (0 ≤ (z26 + 1)) ∧ (AI 0 35 g37) ∧ (0 ≤ g38 ∧ g38 ≤ 36) from ⟨(by grind), h_g37, h_g38⟩) (muUp_lt hc1)
theorem LX5_arrives_s114 {n : Nat} {x0_edgeA x0_edgeB x0_edgeCost x0_edgeLine x0_change x0_away x0_steps x0_nodes : (Nat → Int32)} {x0_stepCount x0_edgeCount x0_aim v15 z26 : Int32} {z27 : (Nat → Int32)} {z28 : Int32} {z29 : Int64} (hn : 1000000000000 ≤ n) (h_x0_edgeA : (AI 0 35 x0_edgeA)) (h_x0_edgeB : (AI 0 35 x0_edgeB)) (h_x0_edgeLine : (AI 0 19 x0_edgeLine)) (h_x0_steps : (AI 0 22 x0_steps)) (h_x0_nodes : (AI 0 35 x0_nodes)) (h_x0_stepCount : (0 ≤ x0_stepCount ∧ x0_stepCount ≤ 36)) (h_x0_edgeCount : (0 ≤ x0_edgeCount ∧ x0_edgeCount ≤ 60)) (h_v15 : (0 ≤ v15 ∧ v15 ≤ 35)) (h_z26 : (0 ≤ z26)) (h_z27 : (AI 0 35 z27)) (h_z28 : (0 ≤ z28 ∧ z28 ≤ 36)) : Sf (lp (u4 (fX5_arrives_s114 x0_edgeA x0_edgeB x0_edgeCost x0_edgeLine x0_change x0_away x0_steps x0_nodes x0_stepCount x0_edgeCount x0_aim v15)) n (z26, z27, z28, z29)) (fun e => (AI 0 35 e.1) ∧ (0 ≤ e.2.1 ∧ e.2.1 ≤ 36)) :=
  Sf.loop4 (fun z26 z27 z28 z29 => (0 ≤ z26) ∧ (AI 0 35 z27) ∧ (0 ≤ z28 ∧ z28 ≤ 36)) (fun z26 z27 z28 z29 => muUp z26) (fun z26 z27 z28 z29 h => TX5_arrives_s114 h_x0_edgeA h_x0_edgeB h_x0_edgeLine h_x0_steps h_x0_nodes h_x0_stepCount h_x0_edgeCount h_v15 h.1 h.2.1 h.2.2) (show (0 ≤ z26) ∧ (AI 0 35 z27) ∧ (0 ≤ z28 ∧ z28 ≤ 36) from ⟨h_z26, h_z27, h_z28⟩) (muUp_n hn)
theorem TX5_arrives_s24 {n : Nat} {x0_edgeA x0_edgeB x0_edgeCost x0_edgeLine x0_change x0_away x0_steps x0_nodes : (Nat → Int32)} {x0_stepCount x0_edgeCount x0_aim z4 : Int32} {z5 : (Nat → Int32)} {z6 : Int32} {z7 : Int64} (hn : 1000000000000 ≤ n) (h_x0_edgeA : (AI 0 35 x0_edgeA)) (h_x0_edgeB : (AI 0 35 x0_edgeB)) (h_x0_edgeLine : (AI 0 19 x0_edgeLine)) (h_x0_steps : (AI 0 22 x0_steps)) (h_x0_nodes : (AI 0 35 x0_nodes)) (h_x0_stepCount : (0 ≤ x0_stepCount ∧ x0_stepCount ≤ 36)) (h_x0_edgeCount : (0 ≤ x0_edgeCount ∧ x0_edgeCount ≤ 60)) (h_z4 : (0 ≤ z4)) (h_z5 : (AI 0 35 z5)) (h_z6 : (0 ≤ z6 ∧ z6 ≤ 36)) : Sf (fX5_arrives_s24 n x0_edgeA x0_edgeB x0_edgeCost x0_edgeLine x0_change x0_away x0_steps x0_nodes x0_stepCount x0_edgeCount x0_aim z4 z5 z6 z7) (LQ (u4 (fun z4 z5 z6 z7 => (0 ≤ z4) ∧ (AI 0 35 z5) ∧ (0 ≤ z6 ∧ z6 ≤ 36))) (u4 (fun z4 z5 z6 z7 => muUp z4)) (muUp z4) ((Sum.elim (fun a => (AI 0 35 a.1) ∧ (0 ≤ a.2.1 ∧ a.2.1 ≤ 36)) (fun a => (AI 0 35 a.1) ∧ (0 ≤ a.2.1 ∧ a.2.1 ≤ 36))))) := by
  unfold fX5_arrives_s24
  refine Sf.ite (fun hc1 => ?_) (fun hc1 => ?_)
  · exact Sf.inr (show (AI 0 35 z5) ∧ (0 ≤ z6 ∧ z6 ≤ 36) from ⟨h_z5, h_z6⟩)
  · refine Sf.ite (fun hc2 => ?_) (fun hc2 => ?_)
    · exact Sf.inr (show (AI 0 35 z5) ∧ (0 ≤ z6 ∧ z6 ≤ 36) from ⟨h_z5, h_z6⟩)
    · have hq3 : 0 ≤ (z6 - 1) ∧ (z6 - 1) < 36 := by grind
      refine Sf.rdI 36 rfl h_z5 hq3 (fun v15 h_v15 e_v15 => ?_)
      clear e_v15
      have hd5 := dv3 (x := v15) (by grind)
      refine Sf.ite (fun hc4 => ?_) (fun hc4 => ?_)
      · exact Sf.inr (show (AI 0 35 z5) ∧ (0 ≤ (z6 - 1) ∧ (z6 - 1) ≤ 36) from ⟨h_z5, (by grind)⟩)
      · refine Sf.bind (LX5_arrives_s79 hn h_x0_edgeA h_x0_edgeB h_x0_edgeLine h_x0_steps h_x0_nodes h_x0_stepCount h_x0_edgeCount h_v15 (by decide) h_z5 (by grind)) ?_
        rintro ⟨w22, w23, w24⟩ hr6
        obtain ⟨h_w22, h_w23⟩ : (AI 0 35 w22) ∧ (0 ≤ w23 ∧ w23 ≤ 36) := hr6
        dsimp only [u3]
        refine Sf.bind (LX5_arrives_s114 hn h_x0_edgeA h_x0_edgeB h_x0_edgeLine h_x0_steps h_x0_nodes h_x0_stepCount h_x0_edgeCount h_v15 (by decide) h_w22 h_w23) ?_
        rintro ⟨w31, w32, w33⟩ hr7
        obtain ⟨h_w31, h_w32⟩ : (AI 0 35 w31) ∧ (0 ≤ w32 ∧ w32 ≤ 36) := hr7
        dsimp only [u3]
        exact Sf.inl (show (0 ≤ (z4 + 1)) ∧ (AI 0 35 w31) ∧ (0 ≤ w32 ∧ w32 ≤ 36) from ⟨(by grind), h_w31, h_w32⟩) (muUp_lt hc1)
theorem LX5_arrives_s24 {n : Nat} {x0_edgeA x0_edgeB x0_edgeCost x0_edgeLine x0_change x0_away x0_steps x0_nodes : (Nat → Int32)} {x0_stepCount x0_edgeCount x0_aim z4 : Int32} {z5 : (Nat → Int32)} {z6 : Int32} {z7 : Int64} (hn : 1000000000000 ≤ n) (h_x0_edgeA : (AI 0 35 x0_edgeA)) (h_x0_edgeB : (AI 0 35 x0_edgeB)) (h_x0_edgeLine : (AI 0 19 x0_edgeLine)) (h_x0_steps : (AI 0 22 x0_steps)) (h_x0_nodes : (AI 0 35 x0_nodes)) (h_x0_stepCount : (0 ≤ x0_stepCount ∧ x0_stepCount ≤ 36)) (h_x0_edgeCount : (0 ≤ x0_edgeCount ∧ x0_edgeCount ≤ 60)) (h_z4 : (0 ≤ z4)) (h_z5 : (AI 0 35 z5)) (h_z6 : (0 ≤ z6 ∧ z6 ≤ 36)) : Sf (lp (u4 (fX5_arrives_s24 n x0_edgeA x0_edgeB x0_edgeCost x0_edgeLine x0_change x0_away x0_steps x0_nodes x0_stepCount x0_edgeCount x0_aim)) n (z4, z5, z6, z7)) ((Sum.elim (fun a => (AI 0 35 a.1) ∧ (0 ≤ a.2.1 ∧ a.2.1 ≤ 36)) (fun a => (AI 0 35 a.1) ∧ (0 ≤ a.2.1 ∧ a.2.1 ≤ 36)))) :=
  Sf.loop4 (fun z4 z5 z6 z7 => (0 ≤ z4) ∧ (AI 0 35 z5) ∧ (0 ≤ z6 ∧ z6 ≤ 36)) (fun z4 z5 z6 z7 => muUp z4) (fun z4 z5 z6 z7 h => TX5_arrives_s24 hn h_x0_edgeA h_x0_edgeB h_x0_edgeLine h_x0_steps h_x0_nodes h_x0_stepCount h_x0_edgeCount h.1 h.2.1 h.2.2) (show (0 ≤ z4) ∧ (AI 0 35 z5) ∧ (0 ≤ z6 ∧ z6 ≤ 36) from ⟨h_z4, h_z5, h_z6⟩) (muUp_n hn)
set_option maxHeartbeats 1000000 in
theorem sX5_arrives {n : Nat} {x0_edgeA x0_edgeB x0_edgeCost x0_edgeLine x0_change x0_away x0_steps x0_nodes : (Nat → Int32)} {x0_stepCount : Int32} {x0_open : (Nat → Int32)} {x0_openCount : Int32} {x0_seen : Int64} {x0_edgeCount x0_aim p1 : Int32} {p2 : Int64} (hn : 1000000000000 ≤ n) (h_x0_edgeA : (AI 0 35 x0_edgeA)) (h_x0_edgeB : (AI 0 35 x0_edgeB)) (h_x0_edgeLine : (AI 0 19 x0_edgeLine)) (h_x0_steps : (AI 0 22 x0_steps)) (h_x0_nodes : (AI 0 35 x0_nodes)) (h_x0_stepCount : (0 ≤ x0_stepCount ∧ x0_stepCount ≤ 36)) (h_x0_open : (AI 0 35 x0_open)) (h_x0_openCount : (0 ≤ x0_openCount ∧ x0_openCount ≤ 36)) (h_x0_edgeCount : (0 ≤ x0_edgeCount ∧ x0_edgeCount ≤ 60)) (h_p1 : (0 ≤ p1 ∧ p1 ≤ 35)) : Sf (fX5_arrives n (x0_edgeA, x0_edgeB, x0_edgeCost, x0_edgeLine, x0_change, x0_away, x0_steps, x0_nodes, x0_stepCount, x0_open, x0_openCount, x0_seen, x0_edgeCount, x0_aim) p1 p2) (fun r => (AI 0 35 r.2.1) ∧ (0 ≤ r.2.2.1 ∧ r.2.2.1 ≤ 36)) := by
  unfold fX5_arrives
  dsimp only [u14]
  refine Sf.someb (fun t1 e_t1 => ?_)
  refine Sf.wrI 36 rfl h_x0_open (by grind) h_p1 (fun f2 h_f2 e_f2 => ?_)
  clear e_f2
  refine Sf.bindS (LX5_arrives_s24 hn h_x0_edgeA h_x0_edgeB h_x0_edgeLine h_x0_steps h_x0_nodes h_x0_stepCount h_x0_edgeCount (by decide) h_f2 (by decide)) ?_ ?_
  · rintro ⟨w9, w10, w11⟩ hr1
    obtain ⟨h_w9, h_w10⟩ : (AI 0 35 w9) ∧ (0 ≤ w10 ∧ w10 ≤ 36) := hr1
    dsimp only [u3]
    exact Sf.ok (show (AI 0 35 w9) ∧ (0 ≤ w10 ∧ w10 ≤ 36) from ⟨h_w9, h_w10⟩)
  · rintro ⟨w12, w13, w14⟩ hr2
    obtain ⟨h_w12, h_w13⟩ : (AI 0 35 w12) ∧ (0 ≤ w13 ∧ w13 ≤ 36) := hr2
    dsimp only [u3]
    exact Sf.ok (show (AI 0 35 w12) ∧ (0 ≤ w13 ∧ w13 ≤ 36) from ⟨h_w12, h_w13⟩)
set_option maxHeartbeats 1000000 in
theorem sX5_leads {n : Nat} {x0_edgeA x0_edgeB x0_edgeCost x0_edgeLine x0_change x0_away x0_steps x0_nodes : (Nat → Int32)} {x0_stepCount : Int32} {x0_open : (Nat → Int32)} {x0_openCount : Int32} {x0_seen : Int64} {x0_edgeCount x0_aim p1 p2 p3 : Int32} {p4 : Int64} (hn : 1000000000000 ≤ n) (h_x0_edgeA : (AI 0 35 x0_edgeA)) (h_x0_edgeB : (AI 0 35 x0_edgeB)) (h_x0_edgeLine : (AI 0 19 x0_edgeLine)) (h_x0_steps : (AI 0 22 x0_steps)) (h_x0_nodes : (AI 0 35 x0_nodes)) (h_x0_stepCount : (0 ≤ x0_stepCount ∧ x0_stepCount ≤ 36)) (h_x0_open : (AI 0 35 x0_open)) (h_x0_openCount : (0 ≤ x0_openCount ∧ x0_openCount ≤ 36)) (h_x0_edgeCount : (0 ≤ x0_edgeCount ∧ x0_edgeCount ≤ 60)) (h_p1 : (0 ≤ p1 ∧ p1 ≤ 35)) (h_p2 : (0 ≤ p2 ∧ p2 ≤ 35)) : Sf (fX5_leads n (x0_edgeA, x0_edgeB, x0_edgeCost, x0_edgeLine, x0_change, x0_away, x0_steps, x0_nodes, x0_stepCount, x0_open, x0_openCount, x0_seen, x0_edgeCount, x0_aim) p1 p2 p3 p4) (fun r => (AI 0 35 r.2.1) ∧ (0 ≤ r.2.2.1 ∧ r.2.2.1 ≤ 36)) := by
  unfold fX5_leads
  dsimp only [u14]
  refine Sf.ite (fun hc1 => ?_) (fun hc1 => ?_)
  · refine Sf.rdb 36 rfl (by grind) (fun v1 e_v1 => ?_)
    clear e_v1
    refine Sf.rdb 36 rfl (by grind) (fun v2 e_v2 => ?_)
    clear e_v2
    refine Sf.ite (fun hc2 => ?_) (fun hc2 => ?_)
    · refine Sf.ite (fun hc3 => ?_) (fun hc3 => ?_)
      · exact Sf.ok (show (AI 0 35 x0_open) ∧ (0 ≤ x0_openCount ∧ x0_openCount ≤ 36) from ⟨h_x0_open, h_x0_openCount⟩)
      · refine Sf.bind (sX5_arrives hn h_x0_edgeA h_x0_edgeB h_x0_edgeLine h_x0_steps h_x0_nodes h_x0_stepCount h_x0_open h_x0_openCount h_x0_edgeCount h_p2) ?_
        rintro ⟨v3, g4, g5, g6⟩ hr4
        obtain ⟨h_g4, h_g5⟩ : (AI 0 35 g4) ∧ (0 ≤ g5 ∧ g5 ≤ 36) := hr4
        dsimp only [u4]
        refine Sf.ite (fun hc5 => ?_) (fun hc5 => ?_)
        · exact Sf.ok (show (AI 0 35 g4) ∧ (0 ≤ g5 ∧ g5 ≤ 36) from ⟨h_g4, h_g5⟩)
        · exact Sf.ok (show (AI 0 35 g4) ∧ (0 ≤ g5 ∧ g5 ≤ 36) from ⟨h_g4, h_g5⟩)
    · exact Sf.ok (show (AI 0 35 x0_open) ∧ (0 ≤ x0_openCount ∧ x0_openCount ≤ 36) from ⟨h_x0_open, h_x0_openCount⟩)
  · exact Sf.ok (show (AI 0 35 x0_open) ∧ (0 ≤ x0_openCount ∧ x0_openCount ≤ 36) from ⟨h_x0_open, h_x0_openCount⟩)
theorem TX5_stepOn_s8 {n : Nat} {p1 : Int32} {p2 : Int64} {x0_edgeA x0_edgeB x0_edgeCost x0_edgeLine x0_change x0_away x0_steps x0_nodes : (Nat → Int32)} {x0_stepCount x0_edgeCount x0_aim z2 : Int32} {z3 : (Nat → Int32)} {z4 : Int32} {z5 : Int64} (hn : 1000000000000 ≤ n) (h_p1 : (0 ≤ p1 ∧ p1 ≤ 35)) (h_x0_edgeA : (AI 0 35 x0_edgeA)) (h_x0_edgeB : (AI 0 35 x0_edgeB)) (h_x0_edgeLine : (AI 0 19 x0_edgeLine)) (h_x0_steps : (AI 0 22 x0_steps)) (h_x0_nodes : (AI 0 35 x0_nodes)) (h_x0_stepCount : (0 ≤ x0_stepCount ∧ x0_stepCount ≤ 36)) (h_x0_edgeCount : (0 ≤ x0_edgeCount ∧ x0_edgeCount ≤ 60)) (h_z2 : (0 ≤ z2)) (h_z3 : (AI 0 35 z3)) (h_z4 : (0 ≤ z4 ∧ z4 ≤ 36)) : Sf (fX5_stepOn_s8 n p1 p2 x0_edgeA x0_edgeB x0_edgeCost x0_edgeLine x0_change x0_away x0_steps x0_nodes x0_stepCount x0_edgeCount x0_aim z2 z3 z4 z5) (LQ (u4 (fun z2 z3 z4 z5 => (0 ≤ z2) ∧ (AI 0 35 z3) ∧ (0 ≤ z4 ∧ z4 ≤ 36))) (u4 (fun z2 z3 z4 z5 => muUp z2)) (muUp z2) ((Sum.elim (fun a => (0 ≤ a.1 ∧ a.1 ≤ 2) ∧ (0 ≤ a.2.1 ∧ a.2.1 ≤ 35) ∧ (AI 0 35 a.2.2.1) ∧ (0 ≤ a.2.2.2.1 ∧ a.2.2.2.1 ≤ 36)) (fun a => (AI 0 35 a.1) ∧ (0 ≤ a.2.1 ∧ a.2.1 ≤ 36))))) := by
  unfold fX5_stepOn_s8
  refine Sf.ite (fun hc1 => ?_) (fun hc1 => ?_)
  · exact Sf.inr (show (AI 0 35 z3) ∧ (0 ≤ z4 ∧ z4 ≤ 36) from ⟨h_z3, h_z4⟩)
  · have hd2 := dv3 (x := p1) (by grind)
    have hq3 : 0 ≤ (p1 / 3) ∧ (p1 / 3) < 12 := by grind
    refine Sf.rdb 12 rfl hq3 (fun v46 e_v46 => ?_)
    clear e_v46
    have hd4 := dv3 (x := p1) (by grind)
    refine Sf.bind (sX5_leads hn h_x0_edgeA h_x0_edgeB h_x0_edgeLine h_x0_steps h_x0_nodes h_x0_stepCount h_z3 h_z4 h_x0_edgeCount h_p1 (by grind)) ?_
    rintro ⟨v47, g48, g49, g50⟩ hr5
    obtain ⟨h_g48, h_g49⟩ : (AI 0 35 g48) ∧ (0 ≤ g49 ∧ g49 ≤ 36) := hr5
    dsimp only [u4]
    refine Sf.ite (fun hc6 => ?_) (fun hc6 => ?_)
    · exact Sf.inl (show (0 ≤ (z2 + 1)) ∧ (AI 0 35 g48) ∧ (0 ≤ g49 ∧ g49 ≤ 36) from ⟨(by grind), h_g48, h_g49⟩) (muUp_lt hc1)
    · have hd7 := dv3 (x := p1) (by grind)
      exact Sf.inr (show (0 ≤ z2 ∧ z2 ≤ 2) ∧ (0 ≤ (((p1 / 3) * 3) + z2) ∧ (((p1 / 3) * 3) + z2) ≤ 35) ∧ (AI 0 35 g48) ∧ (0 ≤ g49 ∧ g49 ≤ 36) from ⟨(by grind), (by grind), h_g48, h_g49⟩)
theorem LX5_stepOn_s8 {n : Nat} {p1 : Int32} {p2 : Int64} {x0_edgeA x0_edgeB x0_edgeCost x0_edgeLine x0_change x0_away x0_steps x0_nodes : (Nat → Int32)} {x0_stepCount x0_edgeCount x0_aim z2 : Int32} {z3 : (Nat → Int32)} {z4 : Int32} {z5 : Int64} (hn : 1000000000000 ≤ n) (h_p1 : (0 ≤ p1 ∧ p1 ≤ 35)) (h_x0_edgeA : (AI 0 35 x0_edgeA)) (h_x0_edgeB : (AI 0 35 x0_edgeB)) (h_x0_edgeLine : (AI 0 19 x0_edgeLine)) (h_x0_steps : (AI 0 22 x0_steps)) (h_x0_nodes : (AI 0 35 x0_nodes)) (h_x0_stepCount : (0 ≤ x0_stepCount ∧ x0_stepCount ≤ 36)) (h_x0_edgeCount : (0 ≤ x0_edgeCount ∧ x0_edgeCount ≤ 60)) (h_z2 : (0 ≤ z2)) (h_z3 : (AI 0 35 z3)) (h_z4 : (0 ≤ z4 ∧ z4 ≤ 36)) : Sf (lp (u4 (fX5_stepOn_s8 n p1 p2 x0_edgeA x0_edgeB x0_edgeCost x0_edgeLine x0_change x0_away x0_steps x0_nodes x0_stepCount x0_edgeCount x0_aim)) n (z2, z3, z4, z5)) ((Sum.elim (fun a => (0 ≤ a.1 ∧ a.1 ≤ 2) ∧ (0 ≤ a.2.1 ∧ a.2.1 ≤ 35) ∧ (AI 0 35 a.2.2.1) ∧ (0 ≤ a.2.2.2.1 ∧ a.2.2.2.1 ≤ 36)) (fun a => (AI 0 35 a.1) ∧ (0 ≤ a.2.1 ∧ a.2.1 ≤ 36)))) :=
  Sf.loop4 (fun z2 z3 z4 z5 => (0 ≤ z2) ∧ (AI 0 35 z3) ∧ (0 ≤ z4 ∧ z4 ≤ 36)) (fun z2 z3 z4 z5 => muUp z2) (fun z2 z3 z4 z5 h => TX5_stepOn_s8 hn h_p1 h_x0_edgeA h_x0_edgeB h_x0_edgeLine h_x0_steps h_x0_nodes h_x0_stepCount h_x0_edgeCount h.1 h.2.1 h.2.2) (show (0 ≤ z2) ∧ (AI 0 35 z3) ∧ (0 ≤ z4 ∧ z4 ≤ 36) from ⟨h_z2, h_z3, h_z4⟩) (muUp_n hn)
theorem TX5_stepOn_s61 {n : Nat} {p1 : Int32} {p2 : Int64} {x0_edgeA x0_edgeB x0_edgeCost x0_edgeLine x0_change x0_away x0_steps x0_nodes : (Nat → Int32)} {x0_stepCount x0_edgeCount x0_aim z20 : Int32} {z21 : (Nat → Int32)} {z22 : Int32} {z23 : Int64} (hn : 1000000000000 ≤ n) (h_p1 : (0 ≤ p1 ∧ p1 ≤ 35)) (h_x0_edgeA : (AI 0 35 x0_edgeA)) (h_x0_edgeB : (AI 0 35 x0_edgeB)) (h_x0_edgeLine : (AI 0 19 x0_edgeLine)) (h_x0_steps : (AI 0 22 x0_steps)) (h_x0_nodes : (AI 0 35 x0_nodes)) (h_x0_stepCount : (0 ≤ x0_stepCount ∧ x0_stepCount ≤ 36)) (h_x0_edgeCount : (0 ≤ x0_edgeCount ∧ x0_edgeCount ≤ 60)) (h_z20 : (0 ≤ z20)) (h_z21 : (AI 0 35 z21)) (h_z22 : (0 ≤ z22 ∧ z22 ≤ 36)) : Sf (fX5_stepOn_s61 n p1 p2 x0_edgeA x0_edgeB x0_edgeCost x0_edgeLine x0_change x0_away x0_steps x0_nodes x0_stepCount x0_edgeCount x0_aim z20 z21 z22 z23) (LQ (u4 (fun z20 z21 z22 z23 => (0 ≤ z20) ∧ (AI 0 35 z21) ∧ (0 ≤ z22 ∧ z22 ≤ 36))) (u4 (fun z20 z21 z22 z23 => muUp z20)) (muUp z20) ((Sum.elim (fun a => (0 ≤ a.1 ∧ a.1 ≤ 59) ∧ (0 ≤ a.2.1 ∧ a.2.1 ≤ 35) ∧ (AI 0 35 a.2.2.1) ∧ (0 ≤ a.2.2.2.1 ∧ a.2.2.2.1 ≤ 36)) (fun a => (AI 0 35 a.1) ∧ (0 ≤ a.2.1 ∧ a.2.1 ≤ 36))))) := by
  unfold fX5_stepOn_s61
  refine Sf.ite (fun hc1 => ?_) (fun hc1 => ?_)
  · exact Sf.inr (show (AI 0 35 z21) ∧ (0 ≤ z22 ∧ z22 ≤ 36) from ⟨h_z21, h_z22⟩)
  · refine Sf.bind (sX5_otherEnd h_x0_edgeA h_x0_edgeB h_x0_edgeLine h_x0_steps h_x0_nodes h_x0_stepCount h_z21 h_z22 h_x0_edgeCount (by grind)) ?_
    intro v38 hr2
    have h_v38 : ((-1) ≤ v38 ∧ v38 ≤ 35) := hr2
    refine Sf.ite (fun hc3 => ?_) (fun hc3 => ?_)
    · exact Sf.inl (show (0 ≤ (z20 + 1)) ∧ (AI 0 35 z21) ∧ (0 ≤ z22 ∧ z22 ≤ 36) from ⟨(by grind), h_z21, h_z22⟩) (muUp_lt hc1)
    · refine Sf.rdb 60 rfl (by grind) (fun v40 e_v40 => ?_)
      clear e_v40
      refine Sf.bind (sX5_leads hn h_x0_edgeA h_x0_edgeB h_x0_edgeLine h_x0_steps h_x0_nodes h_x0_stepCount h_z21 h_z22 h_x0_edgeCount h_p1 (by grind)) ?_
      rintro ⟨v41, g42, g43, g44⟩ hr4
      obtain ⟨h_g42, h_g43⟩ : (AI 0 35 g42) ∧ (0 ≤ g43 ∧ g43 ≤ 36) := hr4
      dsimp only [u4]
      refine Sf.ite (fun hc5 => ?_) (fun hc5 => ?_)
      · exact Sf.inl (show (0 ≤ (z20 + 1)) ∧ (AI 0 35 g42) ∧ (0 ≤ g43 ∧ g43 ≤ 36) from ⟨(by grind), h_g42, h_g43⟩) (muUp_lt hc1)
      · exact Sf.inr (show (0 ≤ z20 ∧ z20 ≤ 59) ∧ (0 ≤ v38 ∧ v38 ≤ 35) ∧ (AI 0 35 g42) ∧ (0 ≤ g43 ∧ g43 ≤ 36) from ⟨(by grind), (by grind), h_g42, h_g43⟩)
theorem LX5_stepOn_s61 {n : Nat} {p1 : Int32} {p2 : Int64} {x0_edgeA x0_edgeB x0_edgeCost x0_edgeLine x0_change x0_away x0_steps x0_nodes : (Nat → Int32)} {x0_stepCount x0_edgeCount x0_aim z20 : Int32} {z21 : (Nat → Int32)} {z22 : Int32} {z23 : Int64} (hn : 1000000000000 ≤ n) (h_p1 : (0 ≤ p1 ∧ p1 ≤ 35)) (h_x0_edgeA : (AI 0 35 x0_edgeA)) (h_x0_edgeB : (AI 0 35 x0_edgeB)) (h_x0_edgeLine : (AI 0 19 x0_edgeLine)) (h_x0_steps : (AI 0 22 x0_steps)) (h_x0_nodes : (AI 0 35 x0_nodes)) (h_x0_stepCount : (0 ≤ x0_stepCount ∧ x0_stepCount ≤ 36)) (h_x0_edgeCount : (0 ≤ x0_edgeCount ∧ x0_edgeCount ≤ 60)) (h_z20 : (0 ≤ z20)) (h_z21 : (AI 0 35 z21)) (h_z22 : (0 ≤ z22 ∧ z22 ≤ 36)) : Sf (lp (u4 (fX5_stepOn_s61 n p1 p2 x0_edgeA x0_edgeB x0_edgeCost x0_edgeLine x0_change x0_away x0_steps x0_nodes x0_stepCount x0_edgeCount x0_aim)) n (z20, z21, z22, z23)) ((Sum.elim (fun a => (0 ≤ a.1 ∧ a.1 ≤ 59) ∧ (0 ≤ a.2.1 ∧ a.2.1 ≤ 35) ∧ (AI 0 35 a.2.2.1) ∧ (0 ≤ a.2.2.2.1 ∧ a.2.2.2.1 ≤ 36)) (fun a => (AI 0 35 a.1) ∧ (0 ≤ a.2.1 ∧ a.2.1 ≤ 36)))) :=
  Sf.loop4 (fun z20 z21 z22 z23 => (0 ≤ z20) ∧ (AI 0 35 z21) ∧ (0 ≤ z22 ∧ z22 ≤ 36)) (fun z20 z21 z22 z23 => muUp z20) (fun z20 z21 z22 z23 h => TX5_stepOn_s61 hn h_p1 h_x0_edgeA h_x0_edgeB h_x0_edgeLine h_x0_steps h_x0_nodes h_x0_stepCount h_x0_edgeCount h.1 h.2.1 h.2.2) (show (0 ≤ z20) ∧ (AI 0 35 z21) ∧ (0 ≤ z22 ∧ z22 ≤ 36) from ⟨h_z20, h_z21, h_z22⟩) (muUp_n hn)
set_option maxHeartbeats 1000000 in
theorem sX5_stepOn {n : Nat} {x0_edgeA x0_edgeB x0_edgeCost x0_edgeLine x0_change x0_away x0_steps x0_nodes : (Nat → Int32)} {x0_stepCount : Int32} {x0_open : (Nat → Int32)} {x0_openCount : Int32} {x0_seen : Int64} {x0_edgeCount x0_aim p1 : Int32} {p2 : Int64} (hn : 1000000000000 ≤ n) (h_x0_edgeA : (AI 0 35 x0_edgeA)) (h_x0_edgeB : (AI 0 35 x0_edgeB)) (h_x0_edgeLine : (AI 0 19 x0_edgeLine)) (h_x0_steps : (AI 0 22 x0_steps)) (h_x0_nodes : (AI 0 35 x0_nodes)) (h_x0_stepCount : (0 ≤ x0_stepCount ∧ x0_stepCount ≤ 36)) (h_x0_open : (AI 0 35 x0_open)) (h_x0_openCount : (0 ≤ x0_openCount ∧ x0_openCount ≤ 36)) (h_x0_edgeCount : (0 ≤ x0_edgeCount ∧ x0_edgeCount ≤ 60)) (h_p1 : (0 ≤ p1 ∧ p1 ≤ 35)) : Sf (fX5_stepOn n (x0_edgeA, x0_edgeB, x0_edgeCost, x0_edgeLine, x0_change, x0_away, x0_steps, x0_nodes, x0_stepCount, x0_open, x0_openCount, x0_seen, x0_edgeCount, x0_aim) p1 p2) (fun r => ((-1) ≤ r.1 ∧ r.1 ≤ 35) ∧ (AI 0 22 r.2.1) ∧ (AI 0 35 r.2.2.1) ∧ (0 ≤ r.2.2.2.1 ∧ r.2.2.2.1 ≤ 36) ∧ (AI 0 35 r.2.2.2.2.1) ∧ (0 ≤ r.2.2.2.2.2.1 ∧ r.2.2.2.2.2.1 ≤ 36)) := by
  unfold fX5_stepOn
  dsimp only [u14]
  refine Sf.bindS (LX5_stepOn_s8 hn h_p1 h_x0_edgeA h_x0_edgeB h_x0_edgeLine h_x0_steps h_x0_nodes h_x0_stepCount h_x0_edgeCount (by decide) h_x0_open h_x0_openCount) ?_ ?_
  · rintro ⟨w7, w8, w9, w10, w11⟩ hr1
    obtain ⟨h_w7, h_w8, h_w9, h_w10⟩ : (0 ≤ w7 ∧ w7 ≤ 2) ∧ (0 ≤ w8 ∧ w8 ≤ 35) ∧ (AI 0 35 w9) ∧ (0 ≤ w10 ∧ w10 ≤ 36) := hr1
    dsimp only [u5]
    refine Sf.bind (sX5_note h_x0_edgeA h_x0_edgeB h_x0_edgeLine h_x0_steps h_x0_nodes h_x0_stepCount h_w9 h_w10 h_x0_edgeCount (by grind) h_w8) ?_
    rintro ⟨g12, g13, g14⟩ hr2
    obtain ⟨h_g12, h_g13, h_g14⟩ : (AI 0 22 g12) ∧ (AI 0 35 g13) ∧ (0 ≤ g14 ∧ g14 ≤ 36) := hr2
    dsimp only [u3]
    exact Sf.ok (show ((-1) ≤ w8 ∧ w8 ≤ 35) ∧ (AI 0 22 g12) ∧ (AI 0 35 g13) ∧ (0 ≤ g14 ∧ g14 ≤ 36) ∧ (AI 0 35 w9) ∧ (0 ≤ w10 ∧ w10 ≤ 36) from ⟨(by grind), h_g12, h_g13, h_g14, h_w9, h_w10⟩)
  · rintro ⟨w16, w17, w18⟩ hr3
    obtain ⟨h_w16, h_w17⟩ : (AI 0 35 w16) ∧ (0 ≤ w17 ∧ w17 ≤ 36) := hr3
    dsimp only [u3]
    refine Sf.bindS (LX5_stepOn_s61 hn h_p1 h_x0_edgeA h_x0_edgeB h_x0_edgeLine h_x0_steps h_x0_nodes h_x0_stepCount h_x0_edgeCount (by decide) h_w16 h_w17) ?_ ?_
    · rintro ⟨w25, w26, w27, w28, w29⟩ hr4
      obtain ⟨h_w25, h_w26, h_w27, h_w28⟩ : (0 ≤ w25 ∧ w25 ≤ 59) ∧ (0 ≤ w26 ∧ w26 ≤ 35) ∧ (AI 0 35 w27) ∧ (0 ≤ w28 ∧ w28 ≤ 36) := hr4
      dsimp only [u5]
      refine Sf.rdI 60 rfl h_x0_edgeLine (by grind) (fun v30 h_v30 e_v30 => ?_)
      clear e_v30
      refine Sf.bind (sX5_note h_x0_edgeA h_x0_edgeB h_x0_edgeLine h_x0_steps h_x0_nodes h_x0_stepCount h_w27 h_w28 h_x0_edgeCount (by grind) h_w26) ?_
      rintro ⟨g31, g32, g33⟩ hr5
      obtain ⟨h_g31, h_g32, h_g33⟩ : (AI 0 22 g31) ∧ (AI 0 35 g32) ∧ (0 ≤ g33 ∧ g33 ≤ 36) := hr5
      dsimp only [u3]
      exact Sf.ok (show ((-1) ≤ w26 ∧ w26 ≤ 35) ∧ (AI 0 22 g31) ∧ (AI 0 35 g32) ∧ (0 ≤ g33 ∧ g33 ≤ 36) ∧ (AI 0 35 w27) ∧ (0 ≤ w28 ∧ w28 ≤ 36) from ⟨(by grind), h_g31, h_g32, h_g33, h_w27, h_w28⟩)
    · rintro ⟨w35, w36, w37⟩ hr6
      obtain ⟨h_w35, h_w36⟩ : (AI 0 35 w35) ∧ (0 ≤ w36 ∧ w36 ≤ 36) := hr6
      dsimp only [u3]
      exact Sf.ok (show ((-1) ≤ (-1) ∧ (-1) ≤ 35) ∧ (AI 0 22 x0_steps) ∧ (AI 0 35 x0_nodes) ∧ (0 ≤ x0_stepCount ∧ x0_stepCount ≤ 36) ∧ (AI 0 35 w35) ∧ (0 ≤ w36 ∧ w36 ≤ 36) from ⟨(by decide), h_x0_steps, h_x0_nodes, h_x0_stepCount, h_w35, h_w36⟩)
theorem TX5_trace_s26 {p1 : Int32} {g1 : (Nat → Int32)} {v4 z7 : Int32}  (h_p1 : (0 ≤ p1 ∧ p1 ≤ 11)) (h_z7 : (0 ≤ z7 ∧ z7 ≤ 2)) : Sf (fX5_trace_s26 p1 g1 v4 z7) (LQ (fun (e : Int32) => (0 ≤ e ∧ e ≤ 2)) (fun (e : Int32) => muUp e) (muUp z7) (fun e => (0 ≤ e ∧ e ≤ 2))) := by
  unfold fX5_trace_s26
  refine Sf.ite (fun hc1 => ?_) (fun hc1 => ?_)
  · exact Sf.inr (show (0 ≤ z7 ∧ z7 ≤ 2) from h_z7)
  · have hq2 : 0 ≤ ((p1 * 3) + z7) ∧ ((p1 * 3) + z7) < 36 := by grind
    refine Sf.rdb 36 rfl hq2 (fun v49 e_v49 => ?_)
    clear e_v49
    refine Sf.ite (fun hc3 => ?_) (fun hc3 => ?_)
    · exact Sf.inr (show (0 ≤ z7 ∧ z7 ≤ 2) from h_z7)
    · exact Sf.inl (show (0 ≤ (z7 + 1) ∧ (z7 + 1) ≤ 2) from (by grind)) (muUp_lt hc1)
theorem LX5_trace_s26 {n : Nat} {p1 : Int32} {g1 : (Nat → Int32)} {v4 z7 : Int32} (hn : 1000000000000 ≤ n) (h_p1 : (0 ≤ p1 ∧ p1 ≤ 11)) (h_z7 : (0 ≤ z7 ∧ z7 ≤ 2)) : Sf (lp (fX5_trace_s26 p1 g1 v4) n z7) (fun e => (0 ≤ e ∧ e ≤ 2)) :=
  Sf.loop (fun e => (0 ≤ e ∧ e ≤ 2)) (fun e => muUp e) (fun e h => TX5_trace_s26 h_p1 h) n _ h_z7 (muUp_n hn)
theorem TX5_trace_s78 {n : Nat} {p2 : Int32} {x0_edgeA x0_edgeB x0_edgeCost x0_edgeLine x0_change : (Nat → Int32)} {x0_edgeCount : Int32} {g1 : (Nat → Int32)} {g2 z16 : Int32} {z17 : Int64} {z18 : Int32} {z19 z20 : (Nat → Int32)} {z21 : Int32} {z22 : (Nat → Int32)} {z23 : Int32} {z24 : Int64} (hn : 1000000000000 ≤ n) (h_p2 : (0 ≤ p2 ∧ p2 ≤ 11)) (h_x0_edgeA : (AI 0 35 x0_edgeA)) (h_x0_edgeB : (AI 0 35 x0_edgeB)) (h_x0_edgeLine : (AI 0 19 x0_edgeLine)) (h_x0_edgeCount : (0 ≤ x0_edgeCount ∧ x0_edgeCount ≤ 60)) (h_z16 : (0 ≤ z16 ∧ z16 ≤ 35)) (h_z18 : (0 ≤ z18)) (h_z19 : (AI 0 22 z19)) (h_z20 : (AI 0 35 z20)) (h_z21 : (0 ≤ z21 ∧ z21 ≤ 36)) (h_z22 : (AI 0 35 z22)) (h_z23 : (0 ≤ z23 ∧ z23 ≤ 36)) : Sf (fX5_trace_s78 n p2 x0_edgeA x0_edgeB x0_edgeCost x0_edgeLine x0_change x0_edgeCount g1 g2 z16 z17 z18 z19 z20 z21 z22 z23 z24) (LQ (u9 (fun z16 z17 z18 z19 z20 z21 z22 z23 z24 => (0 ≤ z16 ∧ z16 ≤ 35) ∧ (0 ≤ z18) ∧ (AI 0 22 z19) ∧ (AI 0 35 z20) ∧ (0 ≤ z21 ∧ z21 ≤ 36) ∧ (AI 0 35 z22) ∧ (0 ≤ z23 ∧ z23 ≤ 36))) (u9 (fun z16 z17 z18 z19 z20 z21 z22 z23 z24 => muUp z18)) (muUp z18) ((Sum.elim (fun a => (AI 0 22 a.1) ∧ (AI 0 35 a.2.1) ∧ (0 ≤ a.2.2.1 ∧ a.2.2.1 ≤ 36) ∧ (AI 0 35 a.2.2.2.1) ∧ (0 ≤ a.2.2.2.2.1 ∧ a.2.2.2.2.1 ≤ 36)) (fun a => (0 ≤ a.1 ∧ a.1 ≤ 35) ∧ (AI 0 22 a.2.1) ∧ (AI 0 35 a.2.2.1) ∧ (0 ≤ a.2.2.2.1 ∧ a.2.2.2.1 ≤ 36) ∧ (AI 0 35 a.2.2.2.2.1) ∧ (0 ≤ a.2.2.2.2.2.1 ∧ a.2.2.2.2.2.1 ≤ 36))))) := by
  unfold fX5_trace_s78
  refine Sf.ite (fun hc1 => ?_) (fun hc1 => ?_)
  · exact Sf.inr (show (0 ≤ z16 ∧ z16 ≤ 35) ∧ (AI 0 22 z19) ∧ (AI 0 35 z20) ∧ (0 ≤ z21 ∧ z21 ≤ 36) ∧ (AI 0 35 z22) ∧ (0 ≤ z23 ∧ z23 ≤ 36) from ⟨h_z16, h_z19, h_z20, h_z21, h_z22, h_z23⟩)
  · have hd3 := dv3 (x := z16) (by grind)
    refine Sf.ite (fun hc2 => ?_) (fun hc2 => ?_)
    · exact Sf.inr (show (0 ≤ z16 ∧ z16 ≤ 35) ∧ (AI 0 22 z19) ∧ (AI 0 35 z20) ∧ (0 ≤ z21 ∧ z21 ≤ 36) ∧ (AI 0 35 z22) ∧ (0 ≤ z23 ∧ z23 ≤ 36) from ⟨h_z16, h_z19, h_z20, h_z21, h_z22, h_z23⟩)
    · refine Sf.bind (sX5_stepOn hn h_x0_edgeA h_x0_edgeB h_x0_edgeLine h_z19 h_z20 h_z21 h_z22 h_z23 h_x0_edgeCount h_z16) ?_
      rintro ⟨v39, ⟨g41, g42, g43, g44, g45, g46⟩⟩ hr4
      obtain ⟨h_v39, h_g41, h_g42, h_g43, h_g44, h_g45⟩ : ((-1) ≤ v39 ∧ v39 ≤ 35) ∧ (AI 0 22 g41) ∧ (AI 0 35 g42) ∧ (0 ≤ g43 ∧ g43 ≤ 36) ∧ (AI 0 35 g44) ∧ (0 ≤ g45 ∧ g45 ≤ 36) := hr4
      dsimp only [u2, u6]
      refine Sf.ite (fun hc5 => ?_) (fun hc5 => ?_)
      · exact Sf.inr (show (AI 0 22 g41) ∧ (AI 0 35 g42) ∧ (0 ≤ g43 ∧ g43 ≤ 36) ∧ (AI 0 35 g44) ∧ (0 ≤ g45 ∧ g45 ≤ 36) from ⟨h_g41, h_g42, h_g43, h_g44, h_g45⟩)
      · refine Sf.someb (fun t48 e_t48 => ?_)
        exact Sf.inl (show (0 ≤ v39 ∧ v39 ≤ 35) ∧ (0 ≤ (z18 + 1)) ∧ (AI 0 22 g41) ∧ (AI 0 35 g42) ∧ (0 ≤ g43 ∧ g43 ≤ 36) ∧ (AI 0 35 g44) ∧ (0 ≤ g45 ∧ g45 ≤ 36) from ⟨(by grind), (by grind), h_g41, h_g42, h_g43, h_g44, h_g45⟩) (muUp_lt hc1)
theorem LX5_trace_s78 {n : Nat} {p2 : Int32} {x0_edgeA x0_edgeB x0_edgeCost x0_edgeLine x0_change : (Nat → Int32)} {x0_edgeCount : Int32} {g1 : (Nat → Int32)} {g2 z16 : Int32} {z17 : Int64} {z18 : Int32} {z19 z20 : (Nat → Int32)} {z21 : Int32} {z22 : (Nat → Int32)} {z23 : Int32} {z24 : Int64} (hn : 1000000000000 ≤ n) (h_p2 : (0 ≤ p2 ∧ p2 ≤ 11)) (h_x0_edgeA : (AI 0 35 x0_edgeA)) (h_x0_edgeB : (AI 0 35 x0_edgeB)) (h_x0_edgeLine : (AI 0 19 x0_edgeLine)) (h_x0_edgeCount : (0 ≤ x0_edgeCount ∧ x0_edgeCount ≤ 60)) (h_z16 : (0 ≤ z16 ∧ z16 ≤ 35)) (h_z18 : (0 ≤ z18)) (h_z19 : (AI 0 22 z19)) (h_z20 : (AI 0 35 z20)) (h_z21 : (0 ≤ z21 ∧ z21 ≤ 36)) (h_z22 : (AI 0 35 z22)) (h_z23 : (0 ≤ z23 ∧ z23 ≤ 36)) : Sf (lp (u9 (fX5_trace_s78 n p2 x0_edgeA x0_edgeB x0_edgeCost x0_edgeLine x0_change x0_edgeCount g1 g2)) n (z16, z17, z18, z19, z20, z21, z22, z23, z24)) ((Sum.elim (fun a => (AI 0 22 a.1) ∧ (AI 0 35 a.2.1) ∧ (0 ≤ a.2.2.1 ∧ a.2.2.1 ≤ 36) ∧ (AI 0 35 a.2.2.2.1) ∧ (0 ≤ a.2.2.2.2.1 ∧ a.2.2.2.2.1 ≤ 36)) (fun a => (0 ≤ a.1 ∧ a.1 ≤ 35) ∧ (AI 0 22 a.2.1) ∧ (AI 0 35 a.2.2.1) ∧ (0 ≤ a.2.2.2.1 ∧ a.2.2.2.1 ≤ 36) ∧ (AI 0 35 a.2.2.2.2.1) ∧ (0 ≤ a.2.2.2.2.2.1 ∧ a.2.2.2.2.2.1 ≤ 36)))) :=
  Sf.loop9 (fun z16 z17 z18 z19 z20 z21 z22 z23 z24 => (0 ≤ z16 ∧ z16 ≤ 35) ∧ (0 ≤ z18) ∧ (AI 0 22 z19) ∧ (AI 0 35 z20) ∧ (0 ≤ z21 ∧ z21 ≤ 36) ∧ (AI 0 35 z22) ∧ (0 ≤ z23 ∧ z23 ≤ 36)) (fun z16 z17 z18 z19 z20 z21 z22 z23 z24 => muUp z18) (fun z16 z17 z18 z19 z20 z21 z22 z23 z24 h => TX5_trace_s78 hn h_p2 h_x0_edgeA h_x0_edgeB h_x0_edgeLine h_x0_edgeCount h.1 h.2.1 h.2.2.1 h.2.2.2.1 h.2.2.2.2.1 h.2.2.2.2.2.1 h.2.2.2.2.2.2) (show (0 ≤ z16 ∧ z16 ≤ 35) ∧ (0 ≤ z18) ∧ (AI 0 22 z19) ∧ (AI 0 35 z20) ∧ (0 ≤ z21 ∧ z21 ≤ 36) ∧ (AI 0 35 z22) ∧ (0 ≤ z23 ∧ z23 ≤ 36) from ⟨h_z16, h_z18, h_z19, h_z20, h_z21, h_z22, h_z23⟩) (muUp_n hn)
set_option maxHeartbeats 1000000 in
theorem sX5_trace {n : Nat} {x0_edgeA x0_edgeB x0_edgeCost x0_edgeLine x0_change x0_away x0_steps x0_nodes : (Nat → Int32)} {x0_stepCount : Int32} {x0_open : (Nat → Int32)} {x0_openCount : Int32} {x0_seen : Int64} {x0_edgeCount x0_aim p1 p2 : Int32} (hn : 1000000000000 ≤ n) (h_x0_edgeA : (AI 0 35 x0_edgeA)) (h_x0_edgeB : (AI 0 35 x0_edgeB)) (h_x0_edgeLine : (AI 0 19 x0_edgeLine)) (h_x0_steps : (AI 0 22 x0_steps)) (h_x0_nodes : (AI 0 35 x0_nodes)) (h_x0_stepCount : (0 ≤ x0_stepCount ∧ x0_stepCount ≤ 36)) (h_x0_open : (AI 0 35 x0_open)) (h_x0_openCount : (0 ≤ x0_openCount ∧ x0_openCount ≤ 36)) (h_x0_edgeCount : (0 ≤ x0_edgeCount ∧ x0_edgeCount ≤ 60)) (h_p1 : (0 ≤ p1 ∧ p1 ≤ 11)) (h_p2 : (0 ≤ p2 ∧ p2 ≤ 11)) : Sf (fX5_trace n (x0_edgeA, x0_edgeB, x0_edgeCost, x0_edgeLine, x0_change, x0_away, x0_steps, x0_nodes, x0_stepCount, x0_open, x0_openCount, x0_seen, x0_edgeCount, x0_aim) p1 p2) (fun r => (AI 0 22 r.2.2.1) ∧ (AI 0 35 r.2.2.2.1) ∧ (0 ≤ r.2.2.2.2.1 ∧ r.2.2.2.2.1 ≤ 36) ∧ (AI 0 35 r.2.2.2.2.2.1) ∧ (0 ≤ r.2.2.2.2.2.2.1 ∧ r.2.2.2.2.2.2.1 ≤ 36)) := by
  unfold fX5_trace
  dsimp only [u14]
  refine Sf.bind (sX5_aimAt hn h_x0_edgeA h_x0_edgeB h_x0_edgeLine h_x0_steps h_x0_nodes (by decide) h_x0_open h_x0_openCount h_x0_edgeCount h_p2) ?_
  rintro ⟨g1, g2⟩ hr1
  dsimp only [u2]
  refine Sf.bind (sX5_costFrom hn h_x0_edgeA h_x0_edgeB h_x0_edgeLine h_x0_steps h_x0_nodes (by decide) h_x0_open h_x0_openCount h_x0_edgeCount h_p1) ?_
  intro v4 hr2
  refine Sf.ite (fun hc3 => ?_) (fun hc3 => ?_)
  · exact Sf.ok (show (AI 0 22 x0_steps) ∧ (AI 0 35 x0_nodes) ∧ (0 ≤ 0 ∧ 0 ≤ 36) ∧ (AI 0 35 x0_open) ∧ (0 ≤ x0_openCount ∧ x0_openCount ≤ 36) from ⟨h_x0_steps, h_x0_nodes, (by decide), h_x0_open, h_x0_openCount⟩)
  · refine Sf.bind (LX5_trace_s26 hn h_p1 (by decide)) ?_
    intro w9 hr4
    have h_w9 : (0 ≤ w9 ∧ w9 ≤ 2) := hr4
    refine Sf.bind (sX5_note h_x0_edgeA h_x0_edgeB h_x0_edgeLine h_x0_steps h_x0_nodes (by decide) h_x0_open h_x0_openCount h_x0_edgeCount (by grind) (by grind)) ?_
    rintro ⟨g10, g11, g12⟩ hr5
    obtain ⟨h_g10, h_g11, h_g12⟩ : (AI 0 22 g10) ∧ (AI 0 35 g11) ∧ (0 ≤ g12 ∧ g12 ≤ 36) := hr5
    dsimp only [u3]
    refine Sf.someb (fun t14 e_t14 => ?_)
    refine Sf.bindS (LX5_trace_s78 hn h_p2 h_x0_edgeA h_x0_edgeB h_x0_edgeLine h_x0_edgeCount (by grind) (by decide) h_g10 h_g11 h_g12 h_x0_open h_x0_openCount) ?_ ?_
    · rintro ⟨w26, w27, w28, w29, w30, w31⟩ hr6
      obtain ⟨h_w26, h_w27, h_w28, h_w29, h_w30⟩ : (AI 0 22 w26) ∧ (AI 0 35 w27) ∧ (0 ≤ w28 ∧ w28 ≤ 36) ∧ (AI 0 35 w29) ∧ (0 ≤ w30 ∧ w30 ≤ 36) := hr6
      dsimp only [u6]
      exact Sf.ok (show (AI 0 22 w26) ∧ (AI 0 35 w27) ∧ (0 ≤ w28 ∧ w28 ≤ 36) ∧ (AI 0 35 w29) ∧ (0 ≤ w30 ∧ w30 ≤ 36) from ⟨h_w26, h_w27, h_w28, h_w29, h_w30⟩)
    · rintro ⟨w32, w33, w34, w35, w36, w37, w38⟩ hr7
      obtain ⟨h_w32, h_w33, h_w34, h_w35, h_w36, h_w37⟩ : (0 ≤ w32 ∧ w32 ≤ 35) ∧ (AI 0 22 w33) ∧ (AI 0 35 w34) ∧ (0 ≤ w35 ∧ w35 ≤ 36) ∧ (AI 0 35 w36) ∧ (0 ≤ w37 ∧ w37 ≤ 36) := hr7
      dsimp only [u7]
      have hd9 := dv3 (x := w32) (by grind)
      refine Sf.ite (fun hc8 => ?_) (fun hc8 => ?_)
      · exact Sf.ok (show (AI 0 22 w33) ∧ (AI 0 35 w34) ∧ (0 ≤ w35 ∧ w35 ≤ 36) ∧ (AI 0 35 w36) ∧ (0 ≤ w37 ∧ w37 ≤ 36) from ⟨h_w33, h_w34, h_w35, h_w36, h_w37⟩)
      · exact Sf.ok (show (AI 0 22 w33) ∧ (AI 0 35 w34) ∧ (0 ≤ w35 ∧ w35 ≤ 36) ∧ (AI 0 35 w36) ∧ (0 ≤ w37 ∧ w37 ≤ 36) from ⟨h_w33, h_w34, h_w35, h_w36, h_w37⟩)
theorem sX5_lineOn {x0_edgeA x0_edgeB x0_edgeCost x0_edgeLine x0_change x0_away x0_steps x0_nodes : (Nat → Int32)} {x0_stepCount : Int32} {x0_open : (Nat → Int32)} {x0_openCount : Int32} {x0_seen : Int64} {x0_edgeCount x0_aim p1 : Int32}  (h_x0_edgeA : (AI 0 35 x0_edgeA)) (h_x0_edgeB : (AI 0 35 x0_edgeB)) (h_x0_edgeLine : (AI 0 19 x0_edgeLine)) (h_x0_steps : (AI 0 22 x0_steps)) (h_x0_nodes : (AI 0 35 x0_nodes)) (h_x0_stepCount : (0 ≤ x0_stepCount ∧ x0_stepCount ≤ 36)) (h_x0_open : (AI 0 35 x0_open)) (h_x0_openCount : (0 ≤ x0_openCount ∧ x0_openCount ≤ 36)) (h_x0_edgeCount : (0 ≤ x0_edgeCount ∧ x0_edgeCount ≤ 60)) : Sf (fX5_lineOn (x0_edgeA, x0_edgeB, x0_edgeCost, x0_edgeLine, x0_change, x0_away, x0_steps, x0_nodes, x0_stepCount, x0_open, x0_openCount, x0_seen, x0_edgeCount, x0_aim) p1) (fun r => ((-1) ≤ r ∧ r ≤ 19)) := by
  unfold fX5_lineOn
  dsimp only [u14]
  refine Sf.bind sX6_within ?_
  intro v1 hr
  refine Sf.ite (fun hc => Sf.ok (show ((-1) : Int32) ≤ (-1) ∧ ((-1) : Int32) ≤ 19 by decide)) (fun hc => ?_)
  have hi : 0 ≤ p1 ∧ p1 < 36 := by grind
  clear hr
  refine Sf.rdI 36 rfl h_x0_steps hi (fun v3 h3 e3 => ?_)
  refine Sf.ite (fun hc => Sf.ok (show ((-1) : Int32) ≤ (-1) ∧ ((-1) : Int32) ≤ 19 by decide)) (fun hc2 => ?_)
  refine Sf.rdI 36 rfl h_x0_steps hi (fun v4 h4 e4 => ?_)
  have e : v4 = v3 := e4.trans e3.symm
  subst e
  clear e3 e4 hi
  exact Sf.ok (show (-1) ≤ (v4 - 3) ∧ (v4 - 3) ≤ 19 by grind)
theorem TX4_payOwners_s3 {p2 : Int32} {x1_edgeA x1_edgeB x1_edgeCost x1_edgeLine x1_change x1_away x1_steps x1_nodes : (Nat → Int32)} {x1_stepCount : Int32} {x1_open : (Nat → Int32)} {x1_openCount : Int32} {x1_seen : Int64} {x1_edgeCount x1_aim x2_lineCount x2_goodsCount x2_workCount x2_years : Int32} {x2_lines x2_goods x2_works x2_change x2_coin x2_knownFree : (Nat → Int32)} {x2_isKnown z2 : Int32} {z3 : (Nat → Int32)}  (h_x1_edgeA : (AI 0 35 x1_edgeA)) (h_x1_edgeB : (AI 0 35 x1_edgeB)) (h_x1_edgeLine : (AI 0 19 x1_edgeLine)) (h_x1_steps : (AI 0 22 x1_steps)) (h_x1_nodes : (AI 0 35 x1_nodes)) (h_x1_stepCount : (0 ≤ x1_stepCount ∧ x1_stepCount ≤ 36)) (h_x1_open : (AI 0 35 x1_open)) (h_x1_openCount : (0 ≤ x1_openCount ∧ x1_openCount ≤ 36)) (h_x1_edgeCount : (0 ≤ x1_edgeCount ∧ x1_edgeCount ≤ 60)) (h_x2_lineCount : (0 ≤ x2_lineCount ∧ x2_lineCount ≤ 20)) (h_x2_goodsCount : (0 ≤ x2_goodsCount ∧ x2_goodsCount ≤ 8)) (h_x2_workCount : (0 ≤ x2_workCount ∧ x2_workCount ≤ 7)) (h_x2_years : (1 ≤ x2_years ∧ x2_years ≤ 30)) (h_x2_lines : (LnOk x2_lines)) (h_x2_goods : (GdOk x2_goods)) (h_x2_works : (WkOk x2_works)) (h_x2_change : (AI 0 99 x2_change)) (h_x2_coin : (AI 0 9 x2_coin)) (h_z2 : (0 ≤ z2)) : Sf (fX4_payOwners_s3 p2 6 x1_edgeA x1_edgeB x1_edgeCost x1_edgeLine x1_change x1_away x1_steps x1_nodes x1_stepCount x1_open x1_openCount x1_seen x1_edgeCount x1_aim x2_lineCount x2_goodsCount x2_workCount x2_years x2_lines x2_goods x2_works x2_change x2_coin x2_knownFree x2_isKnown z2 z3) (LQ (u2 (fun z2 z3 => (0 ≤ z2))) (u2 (fun z2 z3 => muUp z2)) (muUp z2) (fun e => True)) := by
  unfold fX4_payOwners_s3
  have h_nat : Int32.ofNat 6 = 6 := rfl
  refine Sf.ite (fun hc1 => ?_) (fun hc1 => ?_)
  · exact Sf.inr trivial
  · refine Sf.bind (sX5_lineOn h_x1_edgeA h_x1_edgeB h_x1_edgeLine h_x1_steps h_x1_nodes h_x1_stepCount h_x1_open h_x1_openCount h_x1_edgeCount) ?_
    intro v6 hr2
    have h_v6 : ((-1) ≤ v6 ∧ v6 ≤ 19) := hr2
    refine Sf.bind (sX1_hasLine h_x2_lineCount h_x2_goodsCount h_x2_workCount h_x2_years h_x2_lines h_x2_goods h_x2_works h_x2_change h_x2_coin) ?_
    intro v8 hr3
    have hx_v8 : ((v8 = 1 ∧ 0 ≤ v6 ∧ v6 < x2_lineCount) ∨ (v8 = 0 ∧ ¬ (0 ≤ v6 ∧ v6 < x2_lineCount))) := hr3
    refine Sf.ite (fun hc4 => ?_) (fun hc4 => ?_)
    · exact Sf.inl (show (0 ≤ (z2 + 1)) from (by grind)) (muUp_lt hc1)
    · refine Sf.bind (s_ofLine h_x2_lines (by grind) (by decide)) ?_
      intro v10 hr5
      obtain ⟨h_v10, e_v10⟩ : (0 ≤ v10 ∧ v10 ≤ 5) ∧ v10 = x2_lines (v6.toNatClampNeg * 7 + 5) := hr5
      clear e_v10
      refine Sf.rdb 6 rfl (by grind) (fun v12 e_v12 => ?_)
      clear e_v12
      refine Sf.bind (s_ofLine h_x2_lines (by grind) (by decide)) ?_
      intro v13 hr6
      obtain ⟨h_v13, e_v13⟩ : (0 ≤ v13 ∧ v13 ≤ 60) ∧ v13 = x2_lines (v6.toNatClampNeg * 7 + 3) := hr6
      clear e_v13
      refine Sf.wrb 6 rfl (by grind) (fun f15 e_f15 => ?_)
      clear e_f15
      exact Sf.inl (show (0 ≤ (z2 + 1)) from (by grind)) (muUp_lt hc1)
theorem LX4_payOwners_s3 {n : Nat} {p2 : Int32} {x1_edgeA x1_edgeB x1_edgeCost x1_edgeLine x1_change x1_away x1_steps x1_nodes : (Nat → Int32)} {x1_stepCount : Int32} {x1_open : (Nat → Int32)} {x1_openCount : Int32} {x1_seen : Int64} {x1_edgeCount x1_aim x2_lineCount x2_goodsCount x2_workCount x2_years : Int32} {x2_lines x2_goods x2_works x2_change x2_coin x2_knownFree : (Nat → Int32)} {x2_isKnown z2 : Int32} {z3 : (Nat → Int32)} (hn : 1000000000000 ≤ n) (h_x1_edgeA : (AI 0 35 x1_edgeA)) (h_x1_edgeB : (AI 0 35 x1_edgeB)) (h_x1_edgeLine : (AI 0 19 x1_edgeLine)) (h_x1_steps : (AI 0 22 x1_steps)) (h_x1_nodes : (AI 0 35 x1_nodes)) (h_x1_stepCount : (0 ≤ x1_stepCount ∧ x1_stepCount ≤ 36)) (h_x1_open : (AI 0 35 x1_open)) (h_x1_openCount : (0 ≤ x1_openCount ∧ x1_openCount ≤ 36)) (h_x1_edgeCount : (0 ≤ x1_edgeCount ∧ x1_edgeCount ≤ 60)) (h_x2_lineCount : (0 ≤ x2_lineCount ∧ x2_lineCount ≤ 20)) (h_x2_goodsCount : (0 ≤ x2_goodsCount ∧ x2_goodsCount ≤ 8)) (h_x2_workCount : (0 ≤ x2_workCount ∧ x2_workCount ≤ 7)) (h_x2_years : (1 ≤ x2_years ∧ x2_years ≤ 30)) (h_x2_lines : (LnOk x2_lines)) (h_x2_goods : (GdOk x2_goods)) (h_x2_works : (WkOk x2_works)) (h_x2_change : (AI 0 99 x2_change)) (h_x2_coin : (AI 0 9 x2_coin)) (h_z2 : (0 ≤ z2)) : Sf (lp (u2 (fX4_payOwners_s3 p2 6 x1_edgeA x1_edgeB x1_edgeCost x1_edgeLine x1_change x1_away x1_steps x1_nodes x1_stepCount x1_open x1_openCount x1_seen x1_edgeCount x1_aim x2_lineCount x2_goodsCount x2_workCount x2_years x2_lines x2_goods x2_works x2_change x2_coin x2_knownFree x2_isKnown)) n (z2, z3)) (fun e => True) :=
  Sf.loop2 (fun z2 z3 => (0 ≤ z2)) (fun z2 z3 => muUp z2) (fun z2 z3 h => TX4_payOwners_s3 h_x1_edgeA h_x1_edgeB h_x1_edgeLine h_x1_steps h_x1_nodes h_x1_stepCount h_x1_open h_x1_openCount h_x1_edgeCount h_x2_lineCount h_x2_goodsCount h_x2_workCount h_x2_years h_x2_lines h_x2_goods h_x2_works h_x2_change h_x2_coin h) h_z2 (muUp_n hn)
set_option maxHeartbeats 1000000 in
theorem sX4_payOwners {n : Nat} {x0_left x0_earned : (Nat → Int32)} {x0_turnCost x0_turnWayless : Int32} {x1_edgeA x1_edgeB x1_edgeCost x1_edgeLine x1_change x1_away x1_steps x1_nodes : (Nat → Int32)} {x1_stepCount : Int32} {x1_open : (Nat → Int32)} {x1_openCount : Int32} {x1_seen : Int64} {x1_edgeCount x1_aim x2_lineCount x2_goodsCount x2_workCount x2_years : Int32} {x2_lines x2_goods x2_works x2_change x2_coin x2_knownFree : (Nat → Int32)} {x2_isKnown p2 : Int32} {p3 : (Nat → Int32)} (hn : 1000000000000 ≤ n) (h_x1_edgeA : (AI 0 35 x1_edgeA)) (h_x1_edgeB : (AI 0 35 x1_edgeB)) (h_x1_edgeLine : (AI 0 19 x1_edgeLine)) (h_x1_steps : (AI 0 22 x1_steps)) (h_x1_nodes : (AI 0 35 x1_nodes)) (h_x1_stepCount : (0 ≤ x1_stepCount ∧ x1_stepCount ≤ 36)) (h_x1_open : (AI 0 35 x1_open)) (h_x1_openCount : (0 ≤ x1_openCount ∧ x1_openCount ≤ 36)) (h_x1_edgeCount : (0 ≤ x1_edgeCount ∧ x1_edgeCount ≤ 60)) (h_x2_lineCount : (0 ≤ x2_lineCount ∧ x2_lineCount ≤ 20)) (h_x2_goodsCount : (0 ≤ x2_goodsCount ∧ x2_goodsCount ≤ 8)) (h_x2_workCount : (0 ≤ x2_workCount ∧ x2_workCount ≤ 7)) (h_x2_years : (1 ≤ x2_years ∧ x2_years ≤ 30)) (h_x2_lines : (LnOk x2_lines)) (h_x2_goods : (GdOk x2_goods)) (h_x2_works : (WkOk x2_works)) (h_x2_change : (AI 0 99 x2_change)) (h_x2_coin : (AI 0 9 x2_coin)) : Sf (fX4_payOwners n (x0_left, x0_earned, x0_turnCost, x0_turnWayless) (x1_edgeA, x1_edgeB, x1_edgeCost, x1_edgeLine, x1_change, x1_away, x1_steps, x1_nodes, x1_stepCount, x1_open, x1_openCount, x1_seen, x1_edgeCount, x1_aim) (x2_lineCount, x2_goodsCount, x2_workCount, x2_years, x2_lines, x2_goods, x2_works, x2_change, x2_coin, x2_knownFree, x2_isKnown) p2 6 p3) (fun r => True) := by
  unfold fX4_payOwners
  dsimp only [u11, u14, u4]
  refine Sf.bind (LX4_payOwners_s3 hn h_x1_edgeA h_x1_edgeB h_x1_edgeLine h_x1_steps h_x1_nodes h_x1_stepCount h_x1_open h_x1_openCount h_x1_edgeCount h_x2_lineCount h_x2_goodsCount h_x2_workCount h_x2_years h_x2_lines h_x2_goods h_x2_works h_x2_change h_x2_coin (by decide)) ?_
  intro w5 hr1
  exact Sf.ok trivial
theorem TX4_earn_s19 {n : Nat} {x0_left x0_earned : (Nat → Int32)} {x0_turnCost x0_turnWayless x2_lineCount x2_goodsCount x2_workCount x2_years : Int32} {x2_lines x2_goods x2_works x2_change x2_coin x2_knownFree : (Nat → Int32)} {x2_isKnown : Int32} {g6 g7 g8 g9 g10 : (Nat → Int32)} {g11 z15 : Int32} {z16 z17 z18 : (Nat → Int32)} {z19 : Int32} {z20 : (Nat → Int32)} {z21 : Int32} {z22 : Int64} {z23 : Int32} {z24 : (Nat → Int32)} (hn : 1000000000000 ≤ n) (h_x2_lineCount : (0 ≤ x2_lineCount ∧ x2_lineCount ≤ 20)) (h_x2_goodsCount : (0 ≤ x2_goodsCount ∧ x2_goodsCount ≤ 8)) (h_x2_workCount : (0 ≤ x2_workCount ∧ x2_workCount ≤ 7)) (h_x2_years : (1 ≤ x2_years ∧ x2_years ≤ 30)) (h_x2_lines : (LnOk x2_lines)) (h_x2_goods : (GdOk x2_goods)) (h_x2_works : (WkOk x2_works)) (h_x2_change : (AI 0 99 x2_change)) (h_x2_coin : (AI 0 9 x2_coin)) (h_g6 : (AI 0 35 g6)) (h_g7 : (AI 0 35 g7)) (h_g9 : (AI 0 19 g9)) (h_g11 : (0 ≤ g11 ∧ g11 ≤ 60)) (h_z15 : (0 ≤ z15)) (h_z17 : (AI 0 22 z17)) (h_z18 : (AI 0 35 z18)) (h_z19 : (0 ≤ z19 ∧ z19 ≤ 36)) (h_z20 : (AI 0 35 z20)) (h_z21 : (0 ≤ z21 ∧ z21 ≤ 36)) : Sf (fX4_earn_s19 n 6 x0_left x0_earned x0_turnCost x0_turnWayless x2_lineCount x2_goodsCount x2_workCount x2_years x2_lines x2_goods x2_works x2_change x2_coin x2_knownFree x2_isKnown g6 g7 g8 g9 g10 g11 z15 z16 z17 z18 z19 z20 z21 z22 z23 z24) (LQ (u10 (fun z15 z16 z17 z18 z19 z20 z21 z22 z23 z24 => (0 ≤ z15) ∧ (AI 0 22 z17) ∧ (AI 0 35 z18) ∧ (0 ≤ z19 ∧ z19 ≤ 36) ∧ (AI 0 35 z20) ∧ (0 ≤ z21 ∧ z21 ≤ 36))) (u10 (fun z15 z16 z17 z18 z19 z20 z21 z22 z23 z24 => muUp z15)) (muUp z15) (fun e => (AI 0 22 e.2.1) ∧ (AI 0 35 e.2.2.1) ∧ (0 ≤ e.2.2.2.1 ∧ e.2.2.2.1 ≤ 36) ∧ (AI 0 35 e.2.2.2.2.1) ∧ (0 ≤ e.2.2.2.2.2.1 ∧ e.2.2.2.2.2.1 ≤ 36))) := by
  unfold fX4_earn_s19
  have h_nat : Int32.ofNat 6 = 6 := rfl
  refine Sf.ite (fun hc1 => ?_) (fun hc1 => ?_)
  · exact Sf.inr (show (AI 0 22 z17) ∧ (AI 0 35 z18) ∧ (0 ≤ z19 ∧ z19 ≤ 36) ∧ (AI 0 35 z20) ∧ (0 ≤ z21 ∧ z21 ≤ 36) from ⟨h_z17, h_z18, h_z19, h_z20, h_z21⟩)
  · refine Sf.bind (s_ofGoods h_x2_goods (by grind) (by decide)) ?_
    intro v35 hr2
    obtain ⟨h_v35, e_v35⟩ : (0 ≤ v35 ∧ v35 ≤ 11) ∧ v35 = x2_goods (z15.toNatClampNeg * 3 + 0) := hr2
    clear e_v35
    refine Sf.bind (s_ofGoods h_x2_goods (by grind) (by decide)) ?_
    intro v37 hr3
    obtain ⟨h_v37, e_v37⟩ : (0 ≤ v37 ∧ v37 ≤ 11) ∧ v37 = x2_goods (z15.toNatClampNeg * 3 + 1) := hr3
    clear e_v37
    refine Sf.bind (sX5_trace hn h_g6 h_g7 h_g9 h_z17 h_z18 h_z19 h_z20 h_z21 h_g11 h_v35 h_v37) ?_
    rintro ⟨v39, ⟨g41, g42, g43, g44, g45, g46, g47, g48⟩⟩ hr4
    obtain ⟨h_g42, h_g43, h_g44, h_g45, h_g46⟩ : (AI 0 22 g42) ∧ (AI 0 35 g43) ∧ (0 ≤ g44 ∧ g44 ≤ 36) ∧ (AI 0 35 g45) ∧ (0 ≤ g46 ∧ g46 ≤ 36) := hr4
    dsimp only [u2, u8]
    refine Sf.ite (fun hc5 => ?_) (fun hc5 => ?_)
    · exact Sf.inl (show (0 ≤ (z15 + 1)) ∧ (AI 0 22 g42) ∧ (AI 0 35 g43) ∧ (0 ≤ g44 ∧ g44 ≤ 36) ∧ (AI 0 35 g45) ∧ (0 ≤ g46 ∧ g46 ≤ 36) from ⟨(by grind), h_g42, h_g43, h_g44, h_g45, h_g46⟩) (muUp_lt hc1)
    · refine Sf.bind (s_ofGoods h_x2_goods (by grind) (by decide)) ?_
      intro v50 hr6
      obtain ⟨h_v50, e_v50⟩ : (0 ≤ v50 ∧ v50 ≤ 99) ∧ v50 = x2_goods (z15.toNatClampNeg * 3 + 2) := hr6
      clear e_v50
      refine Sf.bind (sX4_payOwners hn h_g6 h_g7 h_g9 h_g42 h_g43 h_g44 h_g45 h_g46 h_g11 h_x2_lineCount h_x2_goodsCount h_x2_workCount h_x2_years h_x2_lines h_x2_goods h_x2_works h_x2_change h_x2_coin) ?_
      intro g52 hr7
      exact Sf.inl (show (0 ≤ (z15 + 1)) ∧ (AI 0 22 g42) ∧ (AI 0 35 g43) ∧ (0 ≤ g44 ∧ g44 ≤ 36) ∧ (AI 0 35 g45) ∧ (0 ≤ g46 ∧ g46 ≤ 36) from ⟨(by grind), h_g42, h_g43, h_g44, h_g45, h_g46⟩) (muUp_lt hc1)
theorem LX4_earn_s19 {n : Nat} {x0_left x0_earned : (Nat → Int32)} {x0_turnCost x0_turnWayless x2_lineCount x2_goodsCount x2_workCount x2_years : Int32} {x2_lines x2_goods x2_works x2_change x2_coin x2_knownFree : (Nat → Int32)} {x2_isKnown : Int32} {g6 g7 g8 g9 g10 : (Nat → Int32)} {g11 z15 : Int32} {z16 z17 z18 : (Nat → Int32)} {z19 : Int32} {z20 : (Nat → Int32)} {z21 : Int32} {z22 : Int64} {z23 : Int32} {z24 : (Nat → Int32)} (hn : 1000000000000 ≤ n) (h_x2_lineCount : (0 ≤ x2_lineCount ∧ x2_lineCount ≤ 20)) (h_x2_goodsCount : (0 ≤ x2_goodsCount ∧ x2_goodsCount ≤ 8)) (h_x2_workCount : (0 ≤ x2_workCount ∧ x2_workCount ≤ 7)) (h_x2_years : (1 ≤ x2_years ∧ x2_years ≤ 30)) (h_x2_lines : (LnOk x2_lines)) (h_x2_goods : (GdOk x2_goods)) (h_x2_works : (WkOk x2_works)) (h_x2_change : (AI 0 99 x2_change)) (h_x2_coin : (AI 0 9 x2_coin)) (h_g6 : (AI 0 35 g6)) (h_g7 : (AI 0 35 g7)) (h_g9 : (AI 0 19 g9)) (h_g11 : (0 ≤ g11 ∧ g11 ≤ 60)) (h_z15 : (0 ≤ z15)) (h_z17 : (AI 0 22 z17)) (h_z18 : (AI 0 35 z18)) (h_z19 : (0 ≤ z19 ∧ z19 ≤ 36)) (h_z20 : (AI 0 35 z20)) (h_z21 : (0 ≤ z21 ∧ z21 ≤ 36)) : Sf (lp (u10 (fX4_earn_s19 n 6 x0_left x0_earned x0_turnCost x0_turnWayless x2_lineCount x2_goodsCount x2_workCount x2_years x2_lines x2_goods x2_works x2_change x2_coin x2_knownFree x2_isKnown g6 g7 g8 g9 g10 g11)) n (z15, z16, z17, z18, z19, z20, z21, z22, z23, z24)) (fun e => (AI 0 22 e.2.1) ∧ (AI 0 35 e.2.2.1) ∧ (0 ≤ e.2.2.2.1 ∧ e.2.2.2.1 ≤ 36) ∧ (AI 0 35 e.2.2.2.2.1) ∧ (0 ≤ e.2.2.2.2.2.1 ∧ e.2.2.2.2.2.1 ≤ 36)) :=
  Sf.loop10 (fun z15 z16 z17 z18 z19 z20 z21 z22 z23 z24 => (0 ≤ z15) ∧ (AI 0 22 z17) ∧ (AI 0 35 z18) ∧ (0 ≤ z19 ∧ z19 ≤ 36) ∧ (AI 0 35 z20) ∧ (0 ≤ z21 ∧ z21 ≤ 36)) (fun z15 z16 z17 z18 z19 z20 z21 z22 z23 z24 => muUp z15) (fun z15 z16 z17 z18 z19 z20 z21 z22 z23 z24 h => TX4_earn_s19 hn h_x2_lineCount h_x2_goodsCount h_x2_workCount h_x2_years h_x2_lines h_x2_goods h_x2_works h_x2_change h_x2_coin h_g6 h_g7 h_g9 h_g11 h.1 h.2.1 h.2.2.1 h.2.2.2.1 h.2.2.2.2.1 h.2.2.2.2.2) (show (0 ≤ z15) ∧ (AI 0 22 z17) ∧ (AI 0 35 z18) ∧ (0 ≤ z19 ∧ z19 ≤ 36) ∧ (AI 0 35 z20) ∧ (0 ≤ z21 ∧ z21 ≤ 36) from ⟨h_z15, h_z17, h_z18, h_z19, h_z20, h_z21⟩) (muUp_n hn)
set_option maxHeartbeats 1000000 in
theorem sX4_earn {n : Nat} {x0_left x0_earned : (Nat → Int32)} {x0_turnCost x0_turnWayless : Int32} {x1_edgeA x1_edgeB x1_edgeCost x1_edgeLine x1_change x1_away x1_steps x1_nodes : (Nat → Int32)} {x1_stepCount : Int32} {x1_open : (Nat → Int32)} {x1_openCount : Int32} {x1_seen : Int64} {x1_edgeCount x1_aim x2_lineCount x2_goodsCount x2_workCount x2_years : Int32} {x2_lines x2_goods x2_works x2_change x2_coin x2_knownFree : (Nat → Int32)} {x2_isKnown : Int32} {p2 : (Nat → Int32)} (hn : 1000000000000 ≤ n) (h_x1_edgeA : (AI 0 35 x1_edgeA)) (h_x1_edgeB : (AI 0 35 x1_edgeB)) (h_x1_edgeLine : (AI 0 19 x1_edgeLine)) (h_x1_steps : (AI 0 22 x1_steps)) (h_x1_nodes : (AI 0 35 x1_nodes)) (h_x1_stepCount : (0 ≤ x1_stepCount ∧ x1_stepCount ≤ 36)) (h_x1_open : (AI 0 35 x1_open)) (h_x1_openCount : (0 ≤ x1_openCount ∧ x1_openCount ≤ 36)) (h_x1_edgeCount : (0 ≤ x1_edgeCount ∧ x1_edgeCount ≤ 60)) (h_x2_lineCount : (0 ≤ x2_lineCount ∧ x2_lineCount ≤ 20)) (h_x2_goodsCount : (0 ≤ x2_goodsCount ∧ x2_goodsCount ≤ 8)) (h_x2_workCount : (0 ≤ x2_workCount ∧ x2_workCount ≤ 7)) (h_x2_years : (1 ≤ x2_years ∧ x2_years ≤ 30)) (h_x2_lines : (LnOk x2_lines)) (h_x2_goods : (GdOk x2_goods)) (h_x2_works : (WkOk x2_works)) (h_x2_change : (AI 0 99 x2_change)) (h_x2_coin : (AI 0 9 x2_coin)) : Sf (fX4_earn n (x0_left, x0_earned, x0_turnCost, x0_turnWayless) (x1_edgeA, x1_edgeB, x1_edgeCost, x1_edgeLine, x1_change, x1_away, x1_steps, x1_nodes, x1_stepCount, x1_open, x1_openCount, x1_seen, x1_edgeCount, x1_aim) (x2_lineCount, x2_goodsCount, x2_workCount, x2_years, x2_lines, x2_goods, x2_works, x2_change, x2_coin, x2_knownFree, x2_isKnown) 6 p2) (fun r => (AI 0 35 r.1.1) ∧ (AI 0 35 r.1.2.1) ∧ (AI 0 19 r.1.2.2.2.1) ∧ (AI 0 22 r.1.2.2.2.2.2.2.1) ∧ (AI 0 35 r.1.2.2.2.2.2.2.2.1) ∧ (0 ≤ r.1.2.2.2.2.2.2.2.2.1 ∧ r.1.2.2.2.2.2.2.2.2.1 ≤ 36) ∧ (AI 0 35 r.1.2.2.2.2.2.2.2.2.2.1) ∧ (0 ≤ r.1.2.2.2.2.2.2.2.2.2.2.1 ∧ r.1.2.2.2.2.2.2.2.2.2.2.1 ≤ 36) ∧ (0 ≤ r.1.2.2.2.2.2.2.2.2.2.2.2.2.1 ∧ r.1.2.2.2.2.2.2.2.2.2.2.2.2.1 ≤ 60)) := by
  unfold fX4_earn
  dsimp only [u11, u14, u4]
  refine Sf.bind (sJ7_fill hn (by decide)) ?_
  intro g1 e_g1
  refine Sf.bind (sX1_linesThere hn h_x2_lineCount h_x2_goodsCount h_x2_workCount h_x2_years h_x2_lines h_x2_goods h_x2_works h_x2_change h_x2_coin) ?_
  intro v3 hr1
  refine Sf.bind (sX5_prepare hn h_x1_edgeA h_x1_edgeB h_x1_edgeLine h_x1_steps h_x1_nodes h_x1_stepCount h_x1_open h_x1_openCount h_x1_edgeCount h_x2_lineCount h_x2_goodsCount h_x2_workCount h_x2_years h_x2_lines h_x2_goods h_x2_works h_x2_change h_x2_coin) ?_
  rintro ⟨g6, g7, g8, g9, g10, g11, g12⟩ hr2
  obtain ⟨h_g6, h_g7, h_g9, h_g11⟩ : (AI 0 35 g6) ∧ (AI 0 35 g7) ∧ (AI 0 19 g9) ∧ (0 ≤ g11 ∧ g11 ≤ 60) := hr2
  dsimp only [u7]
  refine Sf.bind (LX4_earn_s19 hn h_x2_lineCount h_x2_goodsCount h_x2_workCount h_x2_years h_x2_lines h_x2_goods h_x2_works h_x2_change h_x2_coin h_g6 h_g7 h_g9 h_g11 (by decide) h_x1_steps h_x1_nodes h_x1_stepCount h_x1_open h_x1_openCount) ?_
  rintro ⟨w26, w27, w28, w29, w30, w31, w32, w33, w34⟩ hr3
  obtain ⟨h_w27, h_w28, h_w29, h_w30, h_w31⟩ : (AI 0 22 w27) ∧ (AI 0 35 w28) ∧ (0 ≤ w29 ∧ w29 ≤ 36) ∧ (AI 0 35 w30) ∧ (0 ≤ w31 ∧ w31 ≤ 36) := hr3
  dsimp only [u9]
  exact Sf.ok (show (AI 0 35 g6) ∧ (AI 0 35 g7) ∧ (AI 0 19 g9) ∧ (AI 0 22 w27) ∧ (AI 0 35 w28) ∧ (0 ≤ w29 ∧ w29 ≤ 36) ∧ (AI 0 35 w30) ∧ (0 ≤ w31 ∧ w31 ≤ 36) ∧ (0 ≤ g11 ∧ g11 ≤ 60) from ⟨h_g6, h_g7, h_g9, h_w27, h_w28, h_w29, h_w30, h_w31, h_g11⟩)
theorem TX4_payOwnersB_s3 {p2 : Int32} {x1_edgeA x1_edgeB x1_edgeCost x1_edgeLine x1_change x1_away x1_steps x1_nodes : (Nat → Int32)} {x1_stepCount : Int32} {x1_open : (Nat → Int32)} {x1_openCount : Int32} {x1_seen : Int64} {x1_edgeCount x1_aim x2_lineCount x2_goodsCount x2_workCount x2_years : Int32} {x2_lines x2_goods x2_works x2_change x2_coin x2_knownFree : (Nat → Int32)} {x2_isKnown z2 : Int32} {z3 : (Nat → Int32)}  (h_x1_edgeA : (AI 0 35 x1_edgeA)) (h_x1_edgeB : (AI 0 35 x1_edgeB)) (h_x1_edgeLine : (AI 0 19 x1_edgeLine)) (h_x1_steps : (AI 0 22 x1_steps)) (h_x1_nodes : (AI 0 35 x1_nodes)) (h_x1_stepCount : (0 ≤ x1_stepCount ∧ x1_stepCount ≤ 36)) (h_x1_open : (AI 0 35 x1_open)) (h_x1_openCount : (0 ≤ x1_openCount ∧ x1_openCount ≤ 36)) (h_x1_edgeCount : (0 ≤ x1_edgeCount ∧ x1_edgeCount ≤ 60)) (h_x2_lineCount : (0 ≤ x2_lineCount ∧ x2_lineCount ≤ 20)) (h_x2_goodsCount : (0 ≤ x2_goodsCount ∧ x2_goodsCount ≤ 8)) (h_x2_workCount : (0 ≤ x2_workCount ∧ x2_workCount ≤ 7)) (h_x2_years : (1 ≤ x2_years ∧ x2_years ≤ 30)) (h_x2_lines : (LnOk x2_lines)) (h_x2_goods : (GdOk x2_goods)) (h_x2_works : (WkOk x2_works)) (h_x2_change : (AI 0 99 x2_change)) (h_x2_coin : (AI 0 9 x2_coin)) (h_z2 : (0 ≤ z2)) : Sf (fX4_payOwnersB_s3 p2 x1_edgeA x1_edgeB x1_edgeCost x1_edgeLine x1_change x1_away x1_steps x1_nodes x1_stepCount x1_open x1_openCount x1_seen x1_edgeCount x1_aim x2_lineCount x2_goodsCount x2_workCount x2_years x2_lines x2_goods x2_works x2_change x2_coin x2_knownFree x2_isKnown z2 z3) (LQ (u2 (fun z2 z3 => (0 ≤ z2))) (u2 (fun z2 z3 => muUp z2)) (muUp z2) (fun e => True)) := by
  unfold fX4_payOwnersB_s3
  refine Sf.ite (fun hc1 => ?_) (fun hc1 => ?_)
  · exact Sf.inr trivial
  · refine Sf.bind (sX5_lineOn h_x1_edgeA h_x1_edgeB h_x1_edgeLine h_x1_steps h_x1_nodes h_x1_stepCount h_x1_open h_x1_openCount h_x1_edgeCount) ?_
    intro v6 hr2
    have h_v6 : ((-1) ≤ v6 ∧ v6 ≤ 19) := hr2
    refine Sf.bind (sX1_hasLine h_x2_lineCount h_x2_goodsCount h_x2_workCount h_x2_years h_x2_lines h_x2_goods h_x2_works h_x2_change h_x2_coin) ?_
    intro v8 hr3
    have hx_v8 : ((v8 = 1 ∧ 0 ≤ v6 ∧ v6 < x2_lineCount) ∨ (v8 = 0 ∧ ¬ (0 ≤ v6 ∧ v6 < x2_lineCount))) := hr3
    refine Sf.ite (fun hc4 => ?_) (fun hc4 => ?_)
    · exact Sf.inl (show (0 ≤ (z2 + 1)) from (by grind)) (muUp_lt hc1)
    · refine Sf.bind (s_ofLine h_x2_lines (by grind) (by decide)) ?_
      intro v10 hr5
      obtain ⟨h_v10, e_v10⟩ : (0 ≤ v10 ∧ v10 ≤ 5) ∧ v10 = x2_lines (v6.toNatClampNeg * 7 + 5) := hr5
      clear e_v10
      refine Sf.rdb 6 rfl (by grind) (fun v12 e_v12 => ?_)
      clear e_v12
      refine Sf.bind (s_ofLine h_x2_lines (by grind) (by decide)) ?_
      intro v13 hr6
      obtain ⟨h_v13, e_v13⟩ : (0 ≤ v13 ∧ v13 ≤ 60) ∧ v13 = x2_lines (v6.toNatClampNeg * 7 + 3) := hr6
      clear e_v13
      refine Sf.wrb 6 rfl (by grind) (fun f15 e_f15 => ?_)
      clear e_f15
      exact Sf.inl (show (0 ≤ (z2 + 1)) from (by grind)) (muUp_lt hc1)
theorem LX4_payOwnersB_s3 {n : Nat} {p2 : Int32} {x1_edgeA x1_edgeB x1_edgeCost x1_edgeLine x1_change x1_away x1_steps x1_nodes : (Nat → Int32)} {x1_stepCount : Int32} {x1_open : (Nat → Int32)} {x1_openCount : Int32} {x1_seen : Int64} {x1_edgeCount x1_aim x2_lineCount x2_goodsCount x2_workCount x2_years : Int32} {x2_lines x2_goods x2_works x2_change x2_coin x2_knownFree : (Nat → Int32)} {x2_isKnown z2 : Int32} {z3 : (Nat → Int32)} (hn : 1000000000000 ≤ n) (h_x1_edgeA : (AI 0 35 x1_edgeA)) (h_x1_edgeB : (AI 0 35 x1_edgeB)) (h_x1_edgeLine : (AI 0 19 x1_edgeLine)) (h_x1_steps : (AI 0 22 x1_steps)) (h_x1_nodes : (AI 0 35 x1_nodes)) (h_x1_stepCount : (0 ≤ x1_stepCount ∧ x1_stepCount ≤ 36)) (h_x1_open : (AI 0 35 x1_open)) (h_x1_openCount : (0 ≤ x1_openCount ∧ x1_openCount ≤ 36)) (h_x1_edgeCount : (0 ≤ x1_edgeCount ∧ x1_edgeCount ≤ 60)) (h_x2_lineCount : (0 ≤ x2_lineCount ∧ x2_lineCount ≤ 20)) (h_x2_goodsCount : (0 ≤ x2_goodsCount ∧ x2_goodsCount ≤ 8)) (h_x2_workCount : (0 ≤ x2_workCount ∧ x2_workCount ≤ 7)) (h_x2_years : (1 ≤ x2_years ∧ x2_years ≤ 30)) (h_x2_lines : (LnOk x2_lines)) (h_x2_goods : (GdOk x2_goods)) (h_x2_works : (WkOk x2_works)) (h_x2_change : (AI 0 99 x2_change)) (h_x2_coin : (AI 0 9 x2_coin)) (h_z2 : (0 ≤ z2)) : Sf (lp (u2 (fX4_payOwnersB_s3 p2 x1_edgeA x1_edgeB x1_edgeCost x1_edgeLine x1_change x1_away x1_steps x1_nodes x1_stepCount x1_open x1_openCount x1_seen x1_edgeCount x1_aim x2_lineCount x2_goodsCount x2_workCount x2_years x2_lines x2_goods x2_works x2_change x2_coin x2_knownFree x2_isKnown)) n (z2, z3)) (fun e => True) :=
  Sf.loop2 (fun z2 z3 => (0 ≤ z2)) (fun z2 z3 => muUp z2) (fun z2 z3 h => TX4_payOwnersB_s3 h_x1_edgeA h_x1_edgeB h_x1_edgeLine h_x1_steps h_x1_nodes h_x1_stepCount h_x1_open h_x1_openCount h_x1_edgeCount h_x2_lineCount h_x2_goodsCount h_x2_workCount h_x2_years h_x2_lines h_x2_goods h_x2_works h_x2_change h_x2_coin h) h_z2 (muUp_n hn)
set_option maxHeartbeats 1000000 in
theorem sX4_payOwnersB {n : Nat} {x0_left x0_earned : (Nat → Int32)} {x0_turnCost x0_turnWayless : Int32} {x1_edgeA x1_edgeB x1_edgeCost x1_edgeLine x1_change x1_away x1_steps x1_nodes : (Nat → Int32)} {x1_stepCount : Int32} {x1_open : (Nat → Int32)} {x1_openCount : Int32} {x1_seen : Int64} {x1_edgeCount x1_aim x2_lineCount x2_goodsCount x2_workCount x2_years : Int32} {x2_lines x2_goods x2_works x2_change x2_coin x2_knownFree : (Nat → Int32)} {x2_isKnown p2 : Int32} (hn : 1000000000000 ≤ n) (h_x1_edgeA : (AI 0 35 x1_edgeA)) (h_x1_edgeB : (AI 0 35 x1_edgeB)) (h_x1_edgeLine : (AI 0 19 x1_edgeLine)) (h_x1_steps : (AI 0 22 x1_steps)) (h_x1_nodes : (AI 0 35 x1_nodes)) (h_x1_stepCount : (0 ≤ x1_stepCount ∧ x1_stepCount ≤ 36)) (h_x1_open : (AI 0 35 x1_open)) (h_x1_openCount : (0 ≤ x1_openCount ∧ x1_openCount ≤ 36)) (h_x1_edgeCount : (0 ≤ x1_edgeCount ∧ x1_edgeCount ≤ 60)) (h_x2_lineCount : (0 ≤ x2_lineCount ∧ x2_lineCount ≤ 20)) (h_x2_goodsCount : (0 ≤ x2_goodsCount ∧ x2_goodsCount ≤ 8)) (h_x2_workCount : (0 ≤ x2_workCount ∧ x2_workCount ≤ 7)) (h_x2_years : (1 ≤ x2_years ∧ x2_years ≤ 30)) (h_x2_lines : (LnOk x2_lines)) (h_x2_goods : (GdOk x2_goods)) (h_x2_works : (WkOk x2_works)) (h_x2_change : (AI 0 99 x2_change)) (h_x2_coin : (AI 0 9 x2_coin)) : Sf (fX4_payOwnersB n (x0_left, x0_earned, x0_turnCost, x0_turnWayless) (x1_edgeA, x1_edgeB, x1_edgeCost, x1_edgeLine, x1_change, x1_away, x1_steps, x1_nodes, x1_stepCount, x1_open, x1_openCount, x1_seen, x1_edgeCount, x1_aim) (x2_lineCount, x2_goodsCount, x2_workCount, x2_years, x2_lines, x2_goods, x2_works, x2_change, x2_coin, x2_knownFree, x2_isKnown) p2) (fun r => True) := by
  unfold fX4_payOwnersB
  dsimp only [u11, u14, u4]
  refine Sf.bind (LX4_payOwnersB_s3 hn h_x1_edgeA h_x1_edgeB h_x1_edgeLine h_x1_steps h_x1_nodes h_x1_stepCount h_x1_open h_x1_openCount h_x1_edgeCount h_x2_lineCount h_x2_goodsCount h_x2_workCount h_x2_years h_x2_lines h_x2_goods h_x2_works h_x2_change h_x2_coin (by decide)) ?_
  intro w5 hr1
  exact Sf.ok trivial
theorem TX4_earnB_s19 {n : Nat} {x0_left : (Nat → Int32)} {x0_turnCost x0_turnWayless x2_lineCount x2_goodsCount x2_workCount x2_years : Int32} {x2_lines x2_goods x2_works x2_change x2_coin x2_knownFree : (Nat → Int32)} {x2_isKnown : Int32} {g6 g7 g8 g9 g10 : (Nat → Int32)} {g11 z15 : Int32} {z16 z17 z18 z19 : (Nat → Int32)} {z20 : Int32} {z21 : (Nat → Int32)} {z22 : Int32} {z23 : Int64} {z24 : Int32} (hn : 1000000000000 ≤ n) (h_x2_lineCount : (0 ≤ x2_lineCount ∧ x2_lineCount ≤ 20)) (h_x2_goodsCount : (0 ≤ x2_goodsCount ∧ x2_goodsCount ≤ 8)) (h_x2_workCount : (0 ≤ x2_workCount ∧ x2_workCount ≤ 7)) (h_x2_years : (1 ≤ x2_years ∧ x2_years ≤ 30)) (h_x2_lines : (LnOk x2_lines)) (h_x2_goods : (GdOk x2_goods)) (h_x2_works : (WkOk x2_works)) (h_x2_change : (AI 0 99 x2_change)) (h_x2_coin : (AI 0 9 x2_coin)) (h_g6 : (AI 0 35 g6)) (h_g7 : (AI 0 35 g7)) (h_g9 : (AI 0 19 g9)) (h_g11 : (0 ≤ g11 ∧ g11 ≤ 60)) (h_z15 : (0 ≤ z15)) (h_z18 : (AI 0 22 z18)) (h_z19 : (AI 0 35 z19)) (h_z20 : (0 ≤ z20 ∧ z20 ≤ 36)) (h_z21 : (AI 0 35 z21)) (h_z22 : (0 ≤ z22 ∧ z22 ≤ 36)) : Sf (fX4_earnB_s19 n x0_left x0_turnCost x0_turnWayless x2_lineCount x2_goodsCount x2_workCount x2_years x2_lines x2_goods x2_works x2_change x2_coin x2_knownFree x2_isKnown g6 g7 g8 g9 g10 g11 z15 z16 z17 z18 z19 z20 z21 z22 z23 z24) (LQ (u10 (fun z15 z16 z17 z18 z19 z20 z21 z22 z23 z24 => (0 ≤ z15) ∧ (AI 0 22 z18) ∧ (AI 0 35 z19) ∧ (0 ≤ z20 ∧ z20 ≤ 36) ∧ (AI 0 35 z21) ∧ (0 ≤ z22 ∧ z22 ≤ 36))) (u10 (fun z15 z16 z17 z18 z19 z20 z21 z22 z23 z24 => muUp z15)) (muUp z15) (fun e => (AI 0 22 e.2.2.1) ∧ (AI 0 35 e.2.2.2.1) ∧ (0 ≤ e.2.2.2.2.1 ∧ e.2.2.2.2.1 ≤ 36) ∧ (AI 0 35 e.2.2.2.2.2.1) ∧ (0 ≤ e.2.2.2.2.2.2.1 ∧ e.2.2.2.2.2.2.1 ≤ 36))) := by
  unfold fX4_earnB_s19
  refine Sf.ite (fun hc1 => ?_) (fun hc1 => ?_)
  · exact Sf.inr (show (AI 0 22 z18) ∧ (AI 0 35 z19) ∧ (0 ≤ z20 ∧ z20 ≤ 36) ∧ (AI 0 35 z21) ∧ (0 ≤ z22 ∧ z22 ≤ 36) from ⟨h_z18, h_z19, h_z20, h_z21, h_z22⟩)
  · refine Sf.bind (s_ofGoods h_x2_goods (by grind) (by decide)) ?_
    intro v35 hr2
    obtain ⟨h_v35, e_v35⟩ : (0 ≤ v35 ∧ v35 ≤ 11) ∧ v35 = x2_goods (z15.toNatClampNeg * 3 + 0) := hr2
    clear e_v35
    refine Sf.bind (s_ofGoods h_x2_goods (by grind) (by decide)) ?_
    intro v37 hr3
    obtain ⟨h_v37, e_v37⟩ : (0 ≤ v37 ∧ v37 ≤ 11) ∧ v37 = x2_goods (z15.toNatClampNeg * 3 + 1) := hr3
    clear e_v37
    refine Sf.bind (sX5_trace hn h_g6 h_g7 h_g9 h_z18 h_z19 h_z20 h_z21 h_z22 h_g11 h_v35 h_v37) ?_
    rintro ⟨v39, ⟨g41, g42, g43, g44, g45, g46, g47, g48⟩⟩ hr4
    obtain ⟨h_g42, h_g43, h_g44, h_g45, h_g46⟩ : (AI 0 22 g42) ∧ (AI 0 35 g43) ∧ (0 ≤ g44 ∧ g44 ≤ 36) ∧ (AI 0 35 g45) ∧ (0 ≤ g46 ∧ g46 ≤ 36) := hr4
    dsimp only [u2, u8]
    refine Sf.ite (fun hc5 => ?_) (fun hc5 => ?_)
    · exact Sf.inl (show (0 ≤ (z15 + 1)) ∧ (AI 0 22 g42) ∧ (AI 0 35 g43) ∧ (0 ≤ g44 ∧ g44 ≤ 36) ∧ (AI 0 35 g45) ∧ (0 ≤ g46 ∧ g46 ≤ 36) from ⟨(by grind), h_g42, h_g43, h_g44, h_g45, h_g46⟩) (muUp_lt hc1)
    · refine Sf.bind (s_ofGoods h_x2_goods (by grind) (by decide)) ?_
      intro v50 hr6
      obtain ⟨h_v50, e_v50⟩ : (0 ≤ v50 ∧ v50 ≤ 99) ∧ v50 = x2_goods (z15.toNatClampNeg * 3 + 2) := hr6
      clear e_v50
      refine Sf.bind (sX4_payOwnersB hn h_g6 h_g7 h_g9 h_g42 h_g43 h_g44 h_g45 h_g46 h_g11 h_x2_lineCount h_x2_goodsCount h_x2_workCount h_x2_years h_x2_lines h_x2_goods h_x2_works h_x2_change h_x2_coin) ?_
      intro g52 hr7
      exact Sf.inl (show (0 ≤ (z15 + 1)) ∧ (AI 0 22 g42) ∧ (AI 0 35 g43) ∧ (0 ≤ g44 ∧ g44 ≤ 36) ∧ (AI 0 35 g45) ∧ (0 ≤ g46 ∧ g46 ≤ 36) from ⟨(by grind), h_g42, h_g43, h_g44, h_g45, h_g46⟩) (muUp_lt hc1)
theorem LX4_earnB_s19 {n : Nat} {x0_left : (Nat → Int32)} {x0_turnCost x0_turnWayless x2_lineCount x2_goodsCount x2_workCount x2_years : Int32} {x2_lines x2_goods x2_works x2_change x2_coin x2_knownFree : (Nat → Int32)} {x2_isKnown : Int32} {g6 g7 g8 g9 g10 : (Nat → Int32)} {g11 z15 : Int32} {z16 z17 z18 z19 : (Nat → Int32)} {z20 : Int32} {z21 : (Nat → Int32)} {z22 : Int32} {z23 : Int64} {z24 : Int32} (hn : 1000000000000 ≤ n) (h_x2_lineCount : (0 ≤ x2_lineCount ∧ x2_lineCount ≤ 20)) (h_x2_goodsCount : (0 ≤ x2_goodsCount ∧ x2_goodsCount ≤ 8)) (h_x2_workCount : (0 ≤ x2_workCount ∧ x2_workCount ≤ 7)) (h_x2_years : (1 ≤ x2_years ∧ x2_years ≤ 30)) (h_x2_lines : (LnOk x2_lines)) (h_x2_goods : (GdOk x2_goods)) (h_x2_works : (WkOk x2_works)) (h_x2_change : (AI 0 99 x2_change)) (h_x2_coin : (AI 0 9 x2_coin)) (h_g6 : (AI 0 35 g6)) (h_g7 : (AI 0 35 g7)) (h_g9 : (AI 0 19 g9)) (h_g11 : (0 ≤ g11 ∧ g11 ≤ 60)) (h_z15 : (0 ≤ z15)) (h_z18 : (AI 0 22 z18)) (h_z19 : (AI 0 35 z19)) (h_z20 : (0 ≤ z20 ∧ z20 ≤ 36)) (h_z21 : (AI 0 35 z21)) (h_z22 : (0 ≤ z22 ∧ z22 ≤ 36)) : Sf (lp (u10 (fX4_earnB_s19 n x0_left x0_turnCost x0_turnWayless x2_lineCount x2_goodsCount x2_workCount x2_years x2_lines x2_goods x2_works x2_change x2_coin x2_knownFree x2_isKnown g6 g7 g8 g9 g10 g11)) n (z15, z16, z17, z18, z19, z20, z21, z22, z23, z24)) (fun e => (AI 0 22 e.2.2.1) ∧ (AI 0 35 e.2.2.2.1) ∧ (0 ≤ e.2.2.2.2.1 ∧ e.2.2.2.2.1 ≤ 36) ∧ (AI 0 35 e.2.2.2.2.2.1) ∧ (0 ≤ e.2.2.2.2.2.2.1 ∧ e.2.2.2.2.2.2.1 ≤ 36)) :=
  Sf.loop10 (fun z15 z16 z17 z18 z19 z20 z21 z22 z23 z24 => (0 ≤ z15) ∧ (AI 0 22 z18) ∧ (AI 0 35 z19) ∧ (0 ≤ z20 ∧ z20 ≤ 36) ∧ (AI 0 35 z21) ∧ (0 ≤ z22 ∧ z22 ≤ 36)) (fun z15 z16 z17 z18 z19 z20 z21 z22 z23 z24 => muUp z15) (fun z15 z16 z17 z18 z19 z20 z21 z22 z23 z24 h => TX4_earnB_s19 hn h_x2_lineCount h_x2_goodsCount h_x2_workCount h_x2_years h_x2_lines h_x2_goods h_x2_works h_x2_change h_x2_coin h_g6 h_g7 h_g9 h_g11 h.1 h.2.1 h.2.2.1 h.2.2.2.1 h.2.2.2.2.1 h.2.2.2.2.2) (show (0 ≤ z15) ∧ (AI 0 22 z18) ∧ (AI 0 35 z19) ∧ (0 ≤ z20 ∧ z20 ≤ 36) ∧ (AI 0 35 z21) ∧ (0 ≤ z22 ∧ z22 ≤ 36) from ⟨h_z15, h_z18, h_z19, h_z20, h_z21, h_z22⟩) (muUp_n hn)
set_option maxHeartbeats 1000000 in
theorem sX4_earnB {n : Nat} {x0_left x0_earned : (Nat → Int32)} {x0_turnCost x0_turnWayless : Int32} {x1_edgeA x1_edgeB x1_edgeCost x1_edgeLine x1_change x1_away x1_steps x1_nodes : (Nat → Int32)} {x1_stepCount : Int32} {x1_open : (Nat → Int32)} {x1_openCount : Int32} {x1_seen : Int64} {x1_edgeCount x1_aim x2_lineCount x2_goodsCount x2_workCount x2_years : Int32} {x2_lines x2_goods x2_works x2_change x2_coin x2_knownFree : (Nat → Int32)} {x2_isKnown : Int32} (hn : 1000000000000 ≤ n) (h_x1_edgeA : (AI 0 35 x1_edgeA)) (h_x1_edgeB : (AI 0 35 x1_edgeB)) (h_x1_edgeLine : (AI 0 19 x1_edgeLine)) (h_x1_steps : (AI 0 22 x1_steps)) (h_x1_nodes : (AI 0 35 x1_nodes)) (h_x1_stepCount : (0 ≤ x1_stepCount ∧ x1_stepCount ≤ 36)) (h_x1_open : (AI 0 35 x1_open)) (h_x1_openCount : (0 ≤ x1_openCount ∧ x1_openCount ≤ 36)) (h_x1_edgeCount : (0 ≤ x1_edgeCount ∧ x1_edgeCount ≤ 60)) (h_x2_lineCount : (0 ≤ x2_lineCount ∧ x2_lineCount ≤ 20)) (h_x2_goodsCount : (0 ≤ x2_goodsCount ∧ x2_goodsCount ≤ 8)) (h_x2_workCount : (0 ≤ x2_workCount ∧ x2_workCount ≤ 7)) (h_x2_years : (1 ≤ x2_years ∧ x2_years ≤ 30)) (h_x2_lines : (LnOk x2_lines)) (h_x2_goods : (GdOk x2_goods)) (h_x2_works : (WkOk x2_works)) (h_x2_change : (AI 0 99 x2_change)) (h_x2_coin : (AI 0 9 x2_coin)) : Sf (fX4_earnB n (x0_left, x0_earned, x0_turnCost, x0_turnWayless) (x1_edgeA, x1_edgeB, x1_edgeCost, x1_edgeLine, x1_change, x1_away, x1_steps, x1_nodes, x1_stepCount, x1_open, x1_openCount, x1_seen, x1_edgeCount, x1_aim) (x2_lineCount, x2_goodsCount, x2_workCount, x2_years, x2_lines, x2_goods, x2_works, x2_change, x2_coin, x2_knownFree, x2_isKnown)) (fun r => (AI 0 35 r.2.1) ∧ (AI 0 35 r.2.2.1) ∧ (AI 0 19 r.2.2.2.2.1) ∧ (AI 0 22 r.2.2.2.2.2.2.2.1) ∧ (AI 0 35 r.2.2.2.2.2.2.2.2.1) ∧ (0 ≤ r.2.2.2.2.2.2.2.2.2.1 ∧ r.2.2.2.2.2.2.2.2.2.1 ≤ 36) ∧ (AI 0 35 r.2.2.2.2.2.2.2.2.2.2.1) ∧ (0 ≤ r.2.2.2.2.2.2.2.2.2.2.2.1 ∧ r.2.2.2.2.2.2.2.2.2.2.2.1 ≤ 36) ∧ (0 ≤ r.2.2.2.2.2.2.2.2.2.2.2.2.2.1 ∧ r.2.2.2.2.2.2.2.2.2.2.2.2.2.1 ≤ 60)) := by
  unfold fX4_earnB
  dsimp only [u11, u14, u4]
  refine Sf.bind (sJ7_fill hn (by decide)) ?_
  intro g1 e_g1
  refine Sf.bind (sX1_linesThere hn h_x2_lineCount h_x2_goodsCount h_x2_workCount h_x2_years h_x2_lines h_x2_goods h_x2_works h_x2_change h_x2_coin) ?_
  intro v3 hr1
  refine Sf.bind (sX5_prepare hn h_x1_edgeA h_x1_edgeB h_x1_edgeLine h_x1_steps h_x1_nodes h_x1_stepCount h_x1_open h_x1_openCount h_x1_edgeCount h_x2_lineCount h_x2_goodsCount h_x2_workCount h_x2_years h_x2_lines h_x2_goods h_x2_works h_x2_change h_x2_coin) ?_
  rintro ⟨g6, g7, g8, g9, g10, g11, g12⟩ hr2
  obtain ⟨h_g6, h_g7, h_g9, h_g11⟩ : (AI 0 35 g6) ∧ (AI 0 35 g7) ∧ (AI 0 19 g9) ∧ (0 ≤ g11 ∧ g11 ≤ 60) := hr2
  dsimp only [u7]
  refine Sf.bind (LX4_earnB_s19 hn h_x2_lineCount h_x2_goodsCount h_x2_workCount h_x2_years h_x2_lines h_x2_goods h_x2_works h_x2_change h_x2_coin h_g6 h_g7 h_g9 h_g11 (by decide) h_x1_steps h_x1_nodes h_x1_stepCount h_x1_open h_x1_openCount) ?_
  rintro ⟨w26, w27, w28, w29, w30, w31, w32, w33, w34⟩ hr3
  obtain ⟨h_w28, h_w29, h_w30, h_w31, h_w32⟩ : (AI 0 22 w28) ∧ (AI 0 35 w29) ∧ (0 ≤ w30 ∧ w30 ≤ 36) ∧ (AI 0 35 w31) ∧ (0 ≤ w32 ∧ w32 ≤ 36) := hr3
  dsimp only [u9]
  exact Sf.ok (show (AI 0 35 g6) ∧ (AI 0 35 g7) ∧ (AI 0 19 g9) ∧ (AI 0 22 w28) ∧ (AI 0 35 w29) ∧ (0 ≤ w30 ∧ w30 ≤ 36) ∧ (AI 0 35 w31) ∧ (0 ≤ w32 ∧ w32 ≤ 36) ∧ (0 ≤ g11 ∧ g11 ≤ 60) from ⟨h_g6, h_g7, h_g9, h_w28, h_w29, h_w30, h_w31, h_w32, h_g11⟩)
theorem TX0_gainBy_s48 {g35 : (Nat → Int32)} {z53 : Int32} {z54 : (Nat → Int32)}  (h_z53 : (0 ≤ z53)) : Sf (fX0_gainBy_s48 g35 z53 z54) (LQ (u2 (fun z53 z54 => (0 ≤ z53))) (u2 (fun z53 z54 => muUp z53)) (muUp z53) (fun e => True)) := by
  unfold fX0_gainBy_s48
  refine Sf.ite (fun hc1 => ?_) (fun hc1 => ?_)
  · exact Sf.inr trivial
  · refine Sf.rdb 6 rfl (by grind) (fun v57 e_v57 => ?_)
    clear e_v57
    refine Sf.rdb 6 rfl (by grind) (fun v58 e_v58 => ?_)
    clear e_v58
    refine Sf.wrb 6 rfl (by grind) (fun f59 e_f59 => ?_)
    clear e_f59
    exact Sf.inl (show (0 ≤ (z53 + 1)) from (by grind)) (muUp_lt hc1)
theorem LX0_gainBy_s48 {n : Nat} {g35 : (Nat → Int32)} {z53 : Int32} {z54 : (Nat → Int32)} (hn : 1000000000000 ≤ n) (h_z53 : (0 ≤ z53)) : Sf (lp (u2 (fX0_gainBy_s48 g35)) n (z53, z54)) (fun e => True) :=
  Sf.loop2 (fun z53 z54 => (0 ≤ z53)) (fun z53 z54 => muUp z53) (fun z53 z54 h => TX0_gainBy_s48 h) h_z53 (muUp_n hn)
set_option maxHeartbeats 1000000 in
theorem sX0_gainBy {n : Nat} {x0_gained x1_left x1_earned : (Nat → Int32)} {x1_turnCost x1_turnWayless : Int32} {x2_edgeA x2_edgeB x2_edgeCost x2_edgeLine x2_change x2_away x2_steps x2_nodes : (Nat → Int32)} {x2_stepCount : Int32} {x2_open : (Nat → Int32)} {x2_openCount : Int32} {x2_seen : Int64} {x2_edgeCount x2_aim x3_lineCount x3_goodsCount x3_workCount x3_years : Int32} {x3_lines x3_goods x3_works x3_change x3_coin x3_knownFree : (Nat → Int32)} {x3_isKnown x4_lineCount x4_goodsCount x4_workCount x4_years : Int32} {x4_lines x4_goods x4_works x4_change x4_coin x4_knownFree : (Nat → Int32)} {x4_isKnown p2 : Int32} (hn : 1000000000000 ≤ n) (h_x2_edgeA : (AI 0 35 x2_edgeA)) (h_x2_edgeB : (AI 0 35 x2_edgeB)) (h_x2_edgeLine : (AI 0 19 x2_edgeLine)) (h_x2_steps : (AI 0 22 x2_steps)) (h_x2_nodes : (AI 0 35 x2_nodes)) (h_x2_stepCount : (0 ≤ x2_stepCount ∧ x2_stepCount ≤ 36)) (h_x2_open : (AI 0 35 x2_open)) (h_x2_openCount : (0 ≤ x2_openCount ∧ x2_openCount ≤ 36)) (h_x2_edgeCount : (0 ≤ x2_edgeCount ∧ x2_edgeCount ≤ 60)) (h_x3_lineCount : (0 ≤ x3_lineCount ∧ x3_lineCount ≤ 20)) (h_x3_goodsCount : (0 ≤ x3_goodsCount ∧ x3_goodsCount ≤ 8)) (h_x3_workCount : (0 ≤ x3_workCount ∧ x3_workCount ≤ 7)) (h_x3_years : (1 ≤ x3_years ∧ x3_years ≤ 30)) (h_x3_lines : (LnOk x3_lines)) (h_x3_goods : (GdOk x3_goods)) (h_x3_works : (WkOk x3_works)) (h_x3_change : (AI 0 99 x3_change)) (h_x3_coin : (AI 0 9 x3_coin)) (h_x4_lineCount : (0 ≤ x4_lineCount ∧ x4_lineCount ≤ 20)) (h_x4_goodsCount : (0 ≤ x4_goodsCount ∧ x4_goodsCount ≤ 8)) (h_x4_workCount : (0 ≤ x4_workCount ∧ x4_workCount ≤ 7)) (h_x4_years : (1 ≤ x4_years ∧ x4_years ≤ 30)) (h_x4_lines : (LnOk x4_lines)) (h_x4_goods : (GdOk x4_goods)) (h_x4_works : (WkOk x4_works)) (h_x4_change : (AI 0 99 x4_change)) (h_x4_coin : (AI 0 9 x4_coin)) : Sf (fX0_gainBy n x0_gained (x1_left, x1_earned, x1_turnCost, x1_turnWayless) (x2_edgeA, x2_edgeB, x2_edgeCost, x2_edgeLine, x2_change, x2_away, x2_steps, x2_nodes, x2_stepCount, x2_open, x2_openCount, x2_seen, x2_edgeCount, x2_aim) (x3_lineCount, x3_goodsCount, x3_workCount, x3_years, x3_lines, x3_goods, x3_works, x3_change, x3_coin, x3_knownFree, x3_isKnown) (x4_lineCount, x4_goodsCount, x4_workCount, x4_years, x4_lines, x4_goods, x4_works, x4_change, x4_coin, x4_knownFree, x4_isKnown) p2) (fun r => (AI 0 35 r.2.2.1.1) ∧ (AI 0 35 r.2.2.1.2.1) ∧ (AI 0 19 r.2.2.1.2.2.2.1) ∧ (AI 0 22 r.2.2.1.2.2.2.2.2.2.1) ∧ (AI 0 35 r.2.2.1.2.2.2.2.2.2.2.1) ∧ (0 ≤ r.2.2.1.2.2.2.2.2.2.2.2.1 ∧ r.2.2.1.2.2.2.2.2.2.2.2.1 ≤ 36) ∧ (AI 0 35 r.2.2.1.2.2.2.2.2.2.2.2.2.1) ∧ (0 ≤ r.2.2.1.2.2.2.2.2.2.2.2.2.2.1 ∧ r.2.2.1.2.2.2.2.2.2.2.2.2.2.1 ≤ 36) ∧ (0 ≤ r.2.2.1.2.2.2.2.2.2.2.2.2.2.2.2.1 ∧ r.2.2.1.2.2.2.2.2.2.2.2.2.2.2.2.1 ≤ 60) ∧ (0 ≤ r.2.2.2.1 ∧ r.2.2.2.1 ≤ 20) ∧ (0 ≤ r.2.2.2.2.1 ∧ r.2.2.2.2.1 ≤ 8) ∧ (0 ≤ r.2.2.2.2.2.1 ∧ r.2.2.2.2.2.1 ≤ 7) ∧ (1 ≤ r.2.2.2.2.2.2.1 ∧ r.2.2.2.2.2.2.1 ≤ 30) ∧ (LnOk r.2.2.2.2.2.2.2.1) ∧ (GdOk r.2.2.2.2.2.2.2.2.1) ∧ (WkOk r.2.2.2.2.2.2.2.2.2.1) ∧ (AI 0 99 r.2.2.2.2.2.2.2.2.2.2.1) ∧ (AI 0 9 r.2.2.2.2.2.2.2.2.2.2.2.1)) := by
  unfold fX0_gainBy
  dsimp only [u11, u14, u4]
  refine Sf.bind (sX1_take h_x3_lines h_x3_goods h_x3_works h_x3_change h_x3_coin h_x4_lineCount h_x4_goodsCount h_x4_workCount h_x4_years h_x4_lines h_x4_goods h_x4_works h_x4_change h_x4_coin) ?_
  rintro ⟨g2, g3, g4, g5, g6, g7, g8, g9, g10, g11⟩ hr1
  obtain ⟨h_g2, h_g3, h_g4, h_g5, h_g6, h_g7, h_g8, h_g9, h_g10⟩ : (0 ≤ g2 ∧ g2 ≤ 20) ∧ (0 ≤ g3 ∧ g3 ≤ 8) ∧ (0 ≤ g4 ∧ g4 ≤ 7) ∧ (1 ≤ g5 ∧ g5 ≤ 30) ∧ (LnOk g6) ∧ (GdOk g7) ∧ (WkOk g8) ∧ (AI 0 99 g9) ∧ (AI 0 9 g10) := hr1
  dsimp only [u10]
  refine Sf.bind (sX1_perform h_g2 h_g4 h_g6 h_g8 h_g9) ?_
  rintro ⟨g13, g14, g15, g16⟩ hr2
  obtain ⟨h_g13, h_g14, h_g15⟩ : (0 ≤ g13 ∧ g13 ≤ 20) ∧ (LnOk g14) ∧ (AI 0 99 g15) := hr2
  dsimp only [u4]
  refine Sf.bind (sX4_earn hn h_x2_edgeA h_x2_edgeB h_x2_edgeLine h_x2_steps h_x2_nodes h_x2_stepCount h_x2_open h_x2_openCount h_x2_edgeCount h_g13 h_g3 h_g4 h_g5 h_g14 h_g7 h_g8 h_g15 h_g10) ?_
  rintro ⟨⟨g19, g20, g21, g22, g23, g24, g25, g26, g27, g28, g29, g30, g31, g32⟩, g33⟩ hr3
  obtain ⟨h_g19, h_g20, h_g22, h_g25, h_g26, h_g27, h_g28, h_g29, h_g31⟩ : (AI 0 35 g19) ∧ (AI 0 35 g20) ∧ (AI 0 19 g22) ∧ (AI 0 22 g25) ∧ (AI 0 35 g26) ∧ (0 ≤ g27 ∧ g27 ≤ 36) ∧ (AI 0 35 g28) ∧ (0 ≤ g29 ∧ g29 ≤ 36) ∧ (0 ≤ g31 ∧ g31 ≤ 60) := hr3
  dsimp only [u14, u2]
  refine Sf.bind (sX4_earnB hn h_g19 h_g20 h_g22 h_g25 h_g26 h_g27 h_g28 h_g29 h_g31 h_x4_lineCount h_x4_goodsCount h_x4_workCount h_x4_years h_x4_lines h_x4_goods h_x4_works h_x4_change h_x4_coin) ?_
  rintro ⟨g35, ⟨g37, g38, g39, g40, g41, g42, g43, g44, g45, g46, g47, g48, g49, g50⟩⟩ hr4
  obtain ⟨h_g37, h_g38, h_g40, h_g43, h_g44, h_g45, h_g46, h_g47, h_g49⟩ : (AI 0 35 g37) ∧ (AI 0 35 g38) ∧ (AI 0 19 g40) ∧ (AI 0 22 g43) ∧ (AI 0 35 g44) ∧ (0 ≤ g45 ∧ g45 ≤ 36) ∧ (AI 0 35 g46) ∧ (0 ≤ g47 ∧ g47 ≤ 36) ∧ (0 ≤ g49 ∧ g49 ≤ 60) := hr4
  dsimp only [u14, u2]
  refine Sf.bind (LX0_gainBy_s48 hn (by decide)) ?_
  intro w56 hr5
  exact Sf.ok (show (AI 0 35 g37) ∧ (AI 0 35 g38) ∧ (AI 0 19 g40) ∧ (AI 0 22 g43) ∧ (AI 0 35 g44) ∧ (0 ≤ g45 ∧ g45 ≤ 36) ∧ (AI 0 35 g46) ∧ (0 ≤ g47 ∧ g47 ≤ 36) ∧ (0 ≤ g49 ∧ g49 ≤ 60) ∧ (0 ≤ g13 ∧ g13 ≤ 20) ∧ (0 ≤ g3 ∧ g3 ≤ 8) ∧ (0 ≤ g4 ∧ g4 ≤ 7) ∧ (1 ≤ g5 ∧ g5 ≤ 30) ∧ (LnOk g14) ∧ (GdOk g7) ∧ (WkOk g8) ∧ (AI 0 99 g15) ∧ (AI 0 9 g10) from ⟨h_g37, h_g38, h_g40, h_g43, h_g44, h_g45, h_g46, h_g47, h_g49, h_g13, h_g3, h_g4, h_g5, h_g14, h_g7, h_g8, h_g15, h_g10⟩)

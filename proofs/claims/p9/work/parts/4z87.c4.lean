set_option maxHeartbeats 1000000 in
theorem sX4_costBetween {n : Nat} {x0_left x0_earned : (Nat → Int32)} {x0_turnCost x0_turnWayless : Int32} {x1_edgeA x1_edgeB x1_edgeCost x1_edgeLine x1_change x1_away x1_steps x1_nodes : (Nat → Int32)} {x1_stepCount : Int32} {x1_open : (Nat → Int32)} {x1_openCount : Int32} {x1_seen : Int64} {x1_edgeCount x1_aim x2_lineCount x2_goodsCount x2_workCount x2_years : Int32} {x2_lines x2_goods x2_works x2_change x2_coin x2_knownFree : (Nat → Int32)} {x2_isKnown p2 p3 : Int32} (hn : 1000000000000 ≤ n) (h_x1_edgeA : (AI 0 35 x1_edgeA)) (h_x1_edgeB : (AI 0 35 x1_edgeB)) (h_x1_edgeLine : (AI 0 19 x1_edgeLine)) (h_x1_steps : (AI 0 22 x1_steps)) (h_x1_nodes : (AI 0 35 x1_nodes)) (h_x1_stepCount : (0 ≤ x1_stepCount ∧ x1_stepCount ≤ 36)) (h_x1_open : (AI 0 35 x1_open)) (h_x1_openCount : (0 ≤ x1_openCount ∧ x1_openCount ≤ 36)) (h_x1_edgeCount : (0 ≤ x1_edgeCount ∧ x1_edgeCount ≤ 60)) (h_x2_lineCount : (0 ≤ x2_lineCount ∧ x2_lineCount ≤ 20)) (h_x2_goodsCount : (0 ≤ x2_goodsCount ∧ x2_goodsCount ≤ 8)) (h_x2_workCount : (0 ≤ x2_workCount ∧ x2_workCount ≤ 7)) (h_x2_years : (1 ≤ x2_years ∧ x2_years ≤ 30)) (h_x2_lines : (LnOk x2_lines)) (h_x2_goods : (GdOk x2_goods)) (h_x2_works : (WkOk x2_works)) (h_x2_change : (AI 0 99 x2_change)) (h_x2_coin : (AI 0 9 x2_coin)) (h_p2 : (0 ≤ p2 ∧ p2 ≤ 11)) (h_p3 : (0 ≤ p3 ∧ p3 ≤ 11)) : Sf (fX4_costBetween n (x0_left, x0_earned, x0_turnCost, x0_turnWayless) (x1_edgeA, x1_edgeB, x1_edgeCost, x1_edgeLine, x1_change, x1_away, x1_steps, x1_nodes, x1_stepCount, x1_open, x1_openCount, x1_seen, x1_edgeCount, x1_aim) (x2_lineCount, x2_goodsCount, x2_workCount, x2_years, x2_lines, x2_goods, x2_works, x2_change, x2_coin, x2_knownFree, x2_isKnown) p2 p3) (fun r => (AI 0 35 r.2.1) ∧ (AI 0 35 r.2.2.1) ∧ (AI 0 19 r.2.2.2.2.1) ∧ (0 ≤ r.2.2.2.2.2.2.2.1 ∧ r.2.2.2.2.2.2.2.1 ≤ 60)) := by
  unfold fX4_costBetween
  dsimp only [u11, u14, u4]
  refine Sf.bind (sX1_linesThere hn h_x2_lineCount h_x2_goodsCount h_x2_workCount h_x2_years h_x2_lines h_x2_goods h_x2_works h_x2_change h_x2_coin) ?_
  intro v1 hr1
  refine Sf.bind (sX5_prepare hn h_x1_edgeA h_x1_edgeB h_x1_edgeLine h_x1_steps h_x1_nodes h_x1_stepCount h_x1_open h_x1_openCount h_x1_edgeCount h_x2_lineCount h_x2_goodsCount h_x2_workCount h_x2_years h_x2_lines h_x2_goods h_x2_works h_x2_change h_x2_coin) ?_
  rintro ⟨g4, g5, g6, g7, g8, g9, g10⟩ hr2
  obtain ⟨h_g4, h_g5, h_g7, h_g9⟩ : (AI 0 35 g4) ∧ (AI 0 35 g5) ∧ (AI 0 19 g7) ∧ (0 ≤ g9 ∧ g9 ≤ 60) := hr2
  dsimp only [u7]
  refine Sf.bind (sX5_aimAt hn h_g4 h_g5 h_g7 h_x1_steps h_x1_nodes h_x1_stepCount h_x1_open h_x1_openCount h_g9 h_p3) ?_
  rintro ⟨g12, g13⟩ hr3
  dsimp only [u2]
  refine Sf.bind (sX5_costFrom hn h_g4 h_g5 h_g7 h_x1_steps h_x1_nodes h_x1_stepCount h_x1_open h_x1_openCount h_g9 h_p2) ?_
  intro v15 hr4
  exact Sf.ok (show (AI 0 35 g4) ∧ (AI 0 35 g5) ∧ (AI 0 19 g7) ∧ (0 ≤ g9 ∧ g9 ≤ 60) from ⟨h_g4, h_g5, h_g7, h_g9⟩)
theorem TX4_linesBearing_s8 {p2 : Int32} {x0_left : (Nat → Int32)} {x1_lineCount z4 z5 : Int32}  (h_x1_lineCount : (0 ≤ x1_lineCount ∧ x1_lineCount ≤ 20)) (h_z5 : (0 ≤ z5)) : Sf (fX4_linesBearing_s8 p2 x0_left x1_lineCount z4 z5) (LQ (u2 (fun z4 z5 => (0 ≤ z5))) (u2 (fun z4 z5 => muUp z5)) (muUp z5) (fun e => True)) := by
  unfold fX4_linesBearing_s8
  refine Sf.ite (fun hc1 => ?_) (fun hc1 => ?_)
  · exact Sf.inr trivial
  · refine Sf.rdb 20 rfl (by grind) (fun v8 e_v8 => ?_)
    clear e_v8
    refine Sf.ite (fun hc2 => ?_) (fun hc2 => ?_)
    · exact Sf.inl (show (0 ≤ (z5 + 1)) from (by grind)) (muUp_lt hc1)
    · refine Sf.someb (fun t9 e_t9 => ?_)
      exact Sf.inl (show (0 ≤ (z5 + 1)) from (by grind)) (muUp_lt hc1)
theorem LX4_linesBearing_s8 {n : Nat} {p2 : Int32} {x0_left : (Nat → Int32)} {x1_lineCount z4 z5 : Int32} (hn : 1000000000000 ≤ n) (h_x1_lineCount : (0 ≤ x1_lineCount ∧ x1_lineCount ≤ 20)) (h_z5 : (0 ≤ z5)) : Sf (lp (u2 (fX4_linesBearing_s8 p2 x0_left x1_lineCount)) n (z4, z5)) (fun e => True) :=
  Sf.loop2 (fun z4 z5 => (0 ≤ z5)) (fun z4 z5 => muUp z5) (fun z4 z5 h => TX4_linesBearing_s8 h_x1_lineCount h) h_z5 (muUp_n hn)
set_option maxHeartbeats 1000000 in
theorem sX4_linesBearing {n : Nat} {x0_left x0_earned : (Nat → Int32)} {x0_turnCost x0_turnWayless x1_lineCount x1_goodsCount x1_workCount x1_years : Int32} {x1_lines x1_goods x1_works x1_change x1_coin x1_knownFree : (Nat → Int32)} {x1_isKnown p2 : Int32} (hn : 1000000000000 ≤ n) (h_x1_lineCount : (0 ≤ x1_lineCount ∧ x1_lineCount ≤ 20)) (h_x1_goodsCount : (0 ≤ x1_goodsCount ∧ x1_goodsCount ≤ 8)) (h_x1_workCount : (0 ≤ x1_workCount ∧ x1_workCount ≤ 7)) (h_x1_years : (1 ≤ x1_years ∧ x1_years ≤ 30)) (h_x1_lines : (LnOk x1_lines)) (h_x1_goods : (GdOk x1_goods)) (h_x1_works : (WkOk x1_works)) (h_x1_change : (AI 0 99 x1_change)) (h_x1_coin : (AI 0 9 x1_coin)) : Sf (fX4_linesBearing n (x0_left, x0_earned, x0_turnCost, x0_turnWayless) (x1_lineCount, x1_goodsCount, x1_workCount, x1_years, x1_lines, x1_goods, x1_works, x1_change, x1_coin, x1_knownFree, x1_isKnown) p2) (fun r => True) := by
  unfold fX4_linesBearing
  dsimp only [u11, u4]
  refine Sf.bind (sX1_linesThere hn h_x1_lineCount h_x1_goodsCount h_x1_workCount h_x1_years h_x1_lines h_x1_goods h_x1_works h_x1_change h_x1_coin) ?_
  intro v1 hr1
  refine Sf.bind (LX4_linesBearing_s8 hn h_x1_lineCount (by decide)) ?_
  intro w7 hr2
  exact Sf.ok trivial
theorem TX4_load_s2 {p1 : Int32} {x1_edgeA x1_edgeB x1_edgeCost x1_edgeLine x1_change x1_away x1_steps x1_nodes : (Nat → Int32)} {x1_stepCount : Int32} {x1_open : (Nat → Int32)} {x1_openCount : Int32} {x1_seen : Int64} {x1_edgeCount x1_aim z2 : Int32} {z3 : (Nat → Int32)}  (h_x1_edgeA : (AI 0 35 x1_edgeA)) (h_x1_edgeB : (AI 0 35 x1_edgeB)) (h_x1_edgeLine : (AI 0 19 x1_edgeLine)) (h_x1_steps : (AI 0 22 x1_steps)) (h_x1_nodes : (AI 0 35 x1_nodes)) (h_x1_stepCount : (0 ≤ x1_stepCount ∧ x1_stepCount ≤ 36)) (h_x1_open : (AI 0 35 x1_open)) (h_x1_openCount : (0 ≤ x1_openCount ∧ x1_openCount ≤ 36)) (h_x1_edgeCount : (0 ≤ x1_edgeCount ∧ x1_edgeCount ≤ 60)) (h_z2 : (0 ≤ z2)) : Sf (fX4_load_s2 p1 x1_edgeA x1_edgeB x1_edgeCost x1_edgeLine x1_change x1_away x1_steps x1_nodes x1_stepCount x1_open x1_openCount x1_seen x1_edgeCount x1_aim z2 z3) (LQ (u2 (fun z2 z3 => (0 ≤ z2))) (u2 (fun z2 z3 => muUp z2)) (muUp z2) (fun e => True)) := by
  unfold fX4_load_s2
  refine Sf.ite (fun hc1 => ?_) (fun hc1 => ?_)
  · exact Sf.inr trivial
  · refine Sf.bind (sX5_lineOn h_x1_edgeA h_x1_edgeB h_x1_edgeLine h_x1_steps h_x1_nodes h_x1_stepCount h_x1_open h_x1_openCount h_x1_edgeCount) ?_
    intro v6 hr2
    have h_v6 : ((-1) ≤ v6 ∧ v6 ≤ 19) := hr2
    refine Sf.ite (fun hc3 => ?_) (fun hc3 => ?_)
    · exact Sf.inl (show (0 ≤ (z2 + 1)) from (by grind)) (muUp_lt hc1)
    · refine Sf.rdb 20 rfl (by grind) (fun v8 e_v8 => ?_)
      clear e_v8
      refine Sf.wrb 20 rfl (by grind) (fun f9 e_f9 => ?_)
      clear e_f9
      exact Sf.inl (show (0 ≤ (z2 + 1)) from (by grind)) (muUp_lt hc1)
theorem LX4_load_s2 {n : Nat} {p1 : Int32} {x1_edgeA x1_edgeB x1_edgeCost x1_edgeLine x1_change x1_away x1_steps x1_nodes : (Nat → Int32)} {x1_stepCount : Int32} {x1_open : (Nat → Int32)} {x1_openCount : Int32} {x1_seen : Int64} {x1_edgeCount x1_aim z2 : Int32} {z3 : (Nat → Int32)} (hn : 1000000000000 ≤ n) (h_x1_edgeA : (AI 0 35 x1_edgeA)) (h_x1_edgeB : (AI 0 35 x1_edgeB)) (h_x1_edgeLine : (AI 0 19 x1_edgeLine)) (h_x1_steps : (AI 0 22 x1_steps)) (h_x1_nodes : (AI 0 35 x1_nodes)) (h_x1_stepCount : (0 ≤ x1_stepCount ∧ x1_stepCount ≤ 36)) (h_x1_open : (AI 0 35 x1_open)) (h_x1_openCount : (0 ≤ x1_openCount ∧ x1_openCount ≤ 36)) (h_x1_edgeCount : (0 ≤ x1_edgeCount ∧ x1_edgeCount ≤ 60)) (h_z2 : (0 ≤ z2)) : Sf (lp (u2 (fX4_load_s2 p1 x1_edgeA x1_edgeB x1_edgeCost x1_edgeLine x1_change x1_away x1_steps x1_nodes x1_stepCount x1_open x1_openCount x1_seen x1_edgeCount x1_aim)) n (z2, z3)) (fun e => True) :=
  Sf.loop2 (fun z2 z3 => (0 ≤ z2)) (fun z2 z3 => muUp z2) (fun z2 z3 h => TX4_load_s2 h_x1_edgeA h_x1_edgeB h_x1_edgeLine h_x1_steps h_x1_nodes h_x1_stepCount h_x1_open h_x1_openCount h_x1_edgeCount h) h_z2 (muUp_n hn)
set_option maxHeartbeats 1000000 in
theorem sX4_load {n : Nat} {x0_left x0_earned : (Nat → Int32)} {x0_turnCost x0_turnWayless : Int32} {x1_edgeA x1_edgeB x1_edgeCost x1_edgeLine x1_change x1_away x1_steps x1_nodes : (Nat → Int32)} {x1_stepCount : Int32} {x1_open : (Nat → Int32)} {x1_openCount : Int32} {x1_seen : Int64} {x1_edgeCount x1_aim p1 : Int32} (hn : 1000000000000 ≤ n) (h_x1_edgeA : (AI 0 35 x1_edgeA)) (h_x1_edgeB : (AI 0 35 x1_edgeB)) (h_x1_edgeLine : (AI 0 19 x1_edgeLine)) (h_x1_steps : (AI 0 22 x1_steps)) (h_x1_nodes : (AI 0 35 x1_nodes)) (h_x1_stepCount : (0 ≤ x1_stepCount ∧ x1_stepCount ≤ 36)) (h_x1_open : (AI 0 35 x1_open)) (h_x1_openCount : (0 ≤ x1_openCount ∧ x1_openCount ≤ 36)) (h_x1_edgeCount : (0 ≤ x1_edgeCount ∧ x1_edgeCount ≤ 60)) : Sf (fX4_load n (x0_left, x0_earned, x0_turnCost, x0_turnWayless) (x1_edgeA, x1_edgeB, x1_edgeCost, x1_edgeLine, x1_change, x1_away, x1_steps, x1_nodes, x1_stepCount, x1_open, x1_openCount, x1_seen, x1_edgeCount, x1_aim) p1) (fun r => True) := by
  unfold fX4_load
  dsimp only [u14, u4]
  refine Sf.bind (LX4_load_s2 hn h_x1_edgeA h_x1_edgeB h_x1_edgeLine h_x1_steps h_x1_nodes h_x1_stepCount h_x1_open h_x1_openCount h_x1_edgeCount (by decide)) ?_
  intro w5 hr1
  exact Sf.ok trivial
theorem TX4_sendInTurn_s12 {x2_lineCount x2_goodsCount x2_workCount x2_years : Int32} {x2_lines x2_goods x2_works x2_change x2_coin x2_knownFree : (Nat → Int32)} {x2_isKnown z2 : Int32} {z3 : (Nat → Int32)}  (h_x2_lineCount : (0 ≤ x2_lineCount ∧ x2_lineCount ≤ 20)) (h_x2_goodsCount : (0 ≤ x2_goodsCount ∧ x2_goodsCount ≤ 8)) (h_x2_workCount : (0 ≤ x2_workCount ∧ x2_workCount ≤ 7)) (h_x2_years : (1 ≤ x2_years ∧ x2_years ≤ 30)) (h_x2_lines : (LnOk x2_lines)) (h_x2_goods : (GdOk x2_goods)) (h_x2_works : (WkOk x2_works)) (h_x2_change : (AI 0 99 x2_change)) (h_x2_coin : (AI 0 9 x2_coin)) (h_z2 : (0 ≤ z2)) : Sf (fX4_sendInTurn_s12 x2_lineCount x2_goodsCount x2_workCount x2_years x2_lines x2_goods x2_works x2_change x2_coin x2_knownFree x2_isKnown z2 z3) (LQ (u2 (fun z2 z3 => (0 ≤ z2))) (u2 (fun z2 z3 => muUp z2)) (muUp z2) (fun e => True)) := by
  unfold fX4_sendInTurn_s12
  refine Sf.ite (fun hc1 => ?_) (fun hc1 => ?_)
  · exact Sf.inr trivial
  · refine Sf.bind (s_ofLine h_x2_lines (by grind) (by decide)) ?_
    intro v75 hr2
    obtain ⟨h_v75, e_v75⟩ : (0 ≤ v75 ∧ v75 ≤ 999) ∧ v75 = x2_lines (z2.toNatClampNeg * 7 + 4) := hr2
    clear e_v75
    refine Sf.wrb 20 rfl (by grind) (fun f77 e_f77 => ?_)
    clear e_f77
    exact Sf.inl (show (0 ≤ (z2 + 1)) from (by grind)) (muUp_lt hc1)
theorem LX4_sendInTurn_s12 {n : Nat} {x2_lineCount x2_goodsCount x2_workCount x2_years : Int32} {x2_lines x2_goods x2_works x2_change x2_coin x2_knownFree : (Nat → Int32)} {x2_isKnown z2 : Int32} {z3 : (Nat → Int32)} (hn : 1000000000000 ≤ n) (h_x2_lineCount : (0 ≤ x2_lineCount ∧ x2_lineCount ≤ 20)) (h_x2_goodsCount : (0 ≤ x2_goodsCount ∧ x2_goodsCount ≤ 8)) (h_x2_workCount : (0 ≤ x2_workCount ∧ x2_workCount ≤ 7)) (h_x2_years : (1 ≤ x2_years ∧ x2_years ≤ 30)) (h_x2_lines : (LnOk x2_lines)) (h_x2_goods : (GdOk x2_goods)) (h_x2_works : (WkOk x2_works)) (h_x2_change : (AI 0 99 x2_change)) (h_x2_coin : (AI 0 9 x2_coin)) (h_z2 : (0 ≤ z2)) : Sf (lp (u2 (fX4_sendInTurn_s12 x2_lineCount x2_goodsCount x2_workCount x2_years x2_lines x2_goods x2_works x2_change x2_coin x2_knownFree x2_isKnown)) n (z2, z3)) (fun e => True) :=
  Sf.loop2 (fun z2 z3 => (0 ≤ z2)) (fun z2 z3 => muUp z2) (fun z2 z3 h => TX4_sendInTurn_s12 h_x2_lineCount h_x2_goodsCount h_x2_workCount h_x2_years h_x2_lines h_x2_goods h_x2_works h_x2_change h_x2_coin h) h_z2 (muUp_n hn)
theorem TX4_sendInTurn_s40 {n : Nat} {x0_earned : (Nat → Int32)} {x2_lineCount x2_goodsCount x2_workCount x2_years : Int32} {x2_lines x2_goods x2_works x2_change x2_coin x2_knownFree : (Nat → Int32)} {x2_isKnown z7 : Int32} {z8 : (Nat → Int32)} {z9 z10 : Int32} {z11 z12 z13 z14 z15 z16 z17 z18 : (Nat → Int32)} {z19 : Int32} {z20 : (Nat → Int32)} {z21 : Int32} {z22 : Int64} {z23 z24 : Int32} (hn : 1000000000000 ≤ n) (h_x2_lineCount : (0 ≤ x2_lineCount ∧ x2_lineCount ≤ 20)) (h_x2_goodsCount : (0 ≤ x2_goodsCount ∧ x2_goodsCount ≤ 8)) (h_x2_workCount : (0 ≤ x2_workCount ∧ x2_workCount ≤ 7)) (h_x2_years : (1 ≤ x2_years ∧ x2_years ≤ 30)) (h_x2_lines : (LnOk x2_lines)) (h_x2_goods : (GdOk x2_goods)) (h_x2_works : (WkOk x2_works)) (h_x2_change : (AI 0 99 x2_change)) (h_x2_coin : (AI 0 9 x2_coin)) (h_z7 : (0 ≤ z7)) (h_z11 : (AI 0 35 z11)) (h_z12 : (AI 0 35 z12)) (h_z14 : (AI 0 19 z14)) (h_z17 : (AI 0 22 z17)) (h_z18 : (AI 0 35 z18)) (h_z19 : (0 ≤ z19 ∧ z19 ≤ 36)) (h_z20 : (AI 0 35 z20)) (h_z21 : (0 ≤ z21 ∧ z21 ≤ 36)) (h_z23 : (0 ≤ z23 ∧ z23 ≤ 60)) : Sf (fX4_sendInTurn_s40 n x0_earned x2_lineCount x2_goodsCount x2_workCount x2_years x2_lines x2_goods x2_works x2_change x2_coin x2_knownFree x2_isKnown z7 z8 z9 z10 z11 z12 z13 z14 z15 z16 z17 z18 z19 z20 z21 z22 z23 z24) (LQ (u18 (fun z7 z8 z9 z10 z11 z12 z13 z14 z15 z16 z17 z18 z19 z20 z21 z22 z23 z24 => (0 ≤ z7) ∧ (AI 0 35 z11) ∧ (AI 0 35 z12) ∧ (AI 0 19 z14) ∧ (AI 0 22 z17) ∧ (AI 0 35 z18) ∧ (0 ≤ z19 ∧ z19 ≤ 36) ∧ (AI 0 35 z20) ∧ (0 ≤ z21 ∧ z21 ≤ 36) ∧ (0 ≤ z23 ∧ z23 ≤ 60))) (u18 (fun z7 z8 z9 z10 z11 z12 z13 z14 z15 z16 z17 z18 z19 z20 z21 z22 z23 z24 => muUp z7)) (muUp z7) (fun e => (AI 0 35 e.2.2.2.1) ∧ (AI 0 35 e.2.2.2.2.1) ∧ (AI 0 19 e.2.2.2.2.2.2.1) ∧ (AI 0 22 e.2.2.2.2.2.2.2.2.2.1) ∧ (AI 0 35 e.2.2.2.2.2.2.2.2.2.2.1) ∧ (0 ≤ e.2.2.2.2.2.2.2.2.2.2.2.1 ∧ e.2.2.2.2.2.2.2.2.2.2.2.1 ≤ 36) ∧ (AI 0 35 e.2.2.2.2.2.2.2.2.2.2.2.2.1) ∧ (0 ≤ e.2.2.2.2.2.2.2.2.2.2.2.2.2.1 ∧ e.2.2.2.2.2.2.2.2.2.2.2.2.2.1 ≤ 36) ∧ (0 ≤ e.2.2.2.2.2.2.2.2.2.2.2.2.2.2.2.1 ∧ e.2.2.2.2.2.2.2.2.2.2.2.2.2.2.2.1 ≤ 60))) := by
  unfold fX4_sendInTurn_s40
  refine Sf.ite (fun hc1 => ?_) (fun hc1 => ?_)
  · exact Sf.inr (show (AI 0 35 z11) ∧ (AI 0 35 z12) ∧ (AI 0 19 z14) ∧ (AI 0 22 z17) ∧ (AI 0 35 z18) ∧ (0 ≤ z19 ∧ z19 ≤ 36) ∧ (AI 0 35 z20) ∧ (0 ≤ z21 ∧ z21 ≤ 36) ∧ (0 ≤ z23 ∧ z23 ≤ 60) from ⟨h_z11, h_z12, h_z14, h_z17, h_z18, h_z19, h_z20, h_z21, h_z23⟩)
  · refine Sf.bind (s_ofGoods h_x2_goods (by grind) (by decide)) ?_
    intro v43 hr2
    obtain ⟨h_v43, e_v43⟩ : (0 ≤ v43 ∧ v43 ≤ 99) ∧ v43 = x2_goods (z7.toNatClampNeg * 3 + 2) := hr2
    clear e_v43
    refine Sf.bind (s_ofGoods h_x2_goods (by grind) (by decide)) ?_
    intro v45 hr3
    obtain ⟨h_v45, e_v45⟩ : (0 ≤ v45 ∧ v45 ≤ 11) ∧ v45 = x2_goods (z7.toNatClampNeg * 3 + 0) := hr3
    clear e_v45
    refine Sf.bind (s_ofGoods h_x2_goods (by grind) (by decide)) ?_
    intro v47 hr4
    obtain ⟨h_v47, e_v47⟩ : (0 ≤ v47 ∧ v47 ≤ 11) ∧ v47 = x2_goods (z7.toNatClampNeg * 3 + 1) := hr4
    clear e_v47
    refine Sf.bind (sX4_linesBearing hn h_x2_lineCount h_x2_goodsCount h_x2_workCount h_x2_years h_x2_lines h_x2_goods h_x2_works h_x2_change h_x2_coin) ?_
    intro v49 hr5
    refine Sf.bind (sX5_prepare hn h_z11 h_z12 h_z14 h_z17 h_z18 h_z19 h_z20 h_z21 h_z23 h_x2_lineCount h_x2_goodsCount h_x2_workCount h_x2_years h_x2_lines h_x2_goods h_x2_works h_x2_change h_x2_coin) ?_
    rintro ⟨g52, g53, g54, g55, g56, g57, g58⟩ hr6
    obtain ⟨h_g52, h_g53, h_g55, h_g57⟩ : (AI 0 35 g52) ∧ (AI 0 35 g53) ∧ (AI 0 19 g55) ∧ (0 ≤ g57 ∧ g57 ≤ 60) := hr6
    dsimp only [u7]
    refine Sf.bind (sX5_trace hn h_g52 h_g53 h_g55 h_z17 h_z18 h_z19 h_z20 h_z21 h_g57 h_v45 h_v47) ?_
    rintro ⟨v60, ⟨g62, g63, g64, g65, g66, g67, g68, g69⟩⟩ hr7
    obtain ⟨h_g63, h_g64, h_g65, h_g66, h_g67⟩ : (AI 0 22 g63) ∧ (AI 0 35 g64) ∧ (0 ≤ g65 ∧ g65 ≤ 36) ∧ (AI 0 35 g66) ∧ (0 ≤ g67 ∧ g67 ≤ 36) := hr7
    dsimp only [u2, u8]
    refine Sf.ite (fun hc8 => ?_) (fun hc8 => ?_)
    · exact Sf.inl (show (0 ≤ (z7 + 1)) ∧ (AI 0 35 g52) ∧ (AI 0 35 g53) ∧ (AI 0 19 g55) ∧ (AI 0 22 g63) ∧ (AI 0 35 g64) ∧ (0 ≤ g65 ∧ g65 ≤ 36) ∧ (AI 0 35 g66) ∧ (0 ≤ g67 ∧ g67 ≤ 36) ∧ (0 ≤ g57 ∧ g57 ≤ 60) from ⟨(by grind), h_g52, h_g53, h_g55, h_g63, h_g64, h_g65, h_g66, h_g67, h_g57⟩) (muUp_lt hc1)
    · refine Sf.bind (sX5_costFrom hn h_g52 h_g53 h_g55 h_g63 h_g64 h_g65 h_g66 h_g67 h_g57 h_v45) ?_
      intro v71 hr9
      refine Sf.bind (sX4_load hn h_g52 h_g53 h_g55 h_g63 h_g64 h_g65 h_g66 h_g67 h_g57) ?_
      intro g73 hr10
      exact Sf.inl (show (0 ≤ (z7 + 1)) ∧ (AI 0 35 g52) ∧ (AI 0 35 g53) ∧ (AI 0 19 g55) ∧ (AI 0 22 g63) ∧ (AI 0 35 g64) ∧ (0 ≤ g65 ∧ g65 ≤ 36) ∧ (AI 0 35 g66) ∧ (0 ≤ g67 ∧ g67 ≤ 36) ∧ (0 ≤ g57 ∧ g57 ≤ 60) from ⟨(by grind), h_g52, h_g53, h_g55, h_g63, h_g64, h_g65, h_g66, h_g67, h_g57⟩) (muUp_lt hc1)
theorem LX4_sendInTurn_s40 {n : Nat} {x0_earned : (Nat → Int32)} {x2_lineCount x2_goodsCount x2_workCount x2_years : Int32} {x2_lines x2_goods x2_works x2_change x2_coin x2_knownFree : (Nat → Int32)} {x2_isKnown z7 : Int32} {z8 : (Nat → Int32)} {z9 z10 : Int32} {z11 z12 z13 z14 z15 z16 z17 z18 : (Nat → Int32)} {z19 : Int32} {z20 : (Nat → Int32)} {z21 : Int32} {z22 : Int64} {z23 z24 : Int32} (hn : 1000000000000 ≤ n) (h_x2_lineCount : (0 ≤ x2_lineCount ∧ x2_lineCount ≤ 20)) (h_x2_goodsCount : (0 ≤ x2_goodsCount ∧ x2_goodsCount ≤ 8)) (h_x2_workCount : (0 ≤ x2_workCount ∧ x2_workCount ≤ 7)) (h_x2_years : (1 ≤ x2_years ∧ x2_years ≤ 30)) (h_x2_lines : (LnOk x2_lines)) (h_x2_goods : (GdOk x2_goods)) (h_x2_works : (WkOk x2_works)) (h_x2_change : (AI 0 99 x2_change)) (h_x2_coin : (AI 0 9 x2_coin)) (h_z7 : (0 ≤ z7)) (h_z11 : (AI 0 35 z11)) (h_z12 : (AI 0 35 z12)) (h_z14 : (AI 0 19 z14)) (h_z17 : (AI 0 22 z17)) (h_z18 : (AI 0 35 z18)) (h_z19 : (0 ≤ z19 ∧ z19 ≤ 36)) (h_z20 : (AI 0 35 z20)) (h_z21 : (0 ≤ z21 ∧ z21 ≤ 36)) (h_z23 : (0 ≤ z23 ∧ z23 ≤ 60)) : Sf (lp (u18 (fX4_sendInTurn_s40 n x0_earned x2_lineCount x2_goodsCount x2_workCount x2_years x2_lines x2_goods x2_works x2_change x2_coin x2_knownFree x2_isKnown)) n (z7, z8, z9, z10, z11, z12, z13, z14, z15, z16, z17, z18, z19, z20, z21, z22, z23, z24)) (fun e => (AI 0 35 e.2.2.2.1) ∧ (AI 0 35 e.2.2.2.2.1) ∧ (AI 0 19 e.2.2.2.2.2.2.1) ∧ (AI 0 22 e.2.2.2.2.2.2.2.2.2.1) ∧ (AI 0 35 e.2.2.2.2.2.2.2.2.2.2.1) ∧ (0 ≤ e.2.2.2.2.2.2.2.2.2.2.2.1 ∧ e.2.2.2.2.2.2.2.2.2.2.2.1 ≤ 36) ∧ (AI 0 35 e.2.2.2.2.2.2.2.2.2.2.2.2.1) ∧ (0 ≤ e.2.2.2.2.2.2.2.2.2.2.2.2.2.1 ∧ e.2.2.2.2.2.2.2.2.2.2.2.2.2.1 ≤ 36) ∧ (0 ≤ e.2.2.2.2.2.2.2.2.2.2.2.2.2.2.2.1 ∧ e.2.2.2.2.2.2.2.2.2.2.2.2.2.2.2.1 ≤ 60)) :=
  Sf.loop18 (fun z7 z8 z9 z10 z11 z12 z13 z14 z15 z16 z17 z18 z19 z20 z21 z22 z23 z24 => (0 ≤ z7) ∧ (AI 0 35 z11) ∧ (AI 0 35 z12) ∧ (AI 0 19 z14) ∧ (AI 0 22 z17) ∧ (AI 0 35 z18) ∧ (0 ≤ z19 ∧ z19 ≤ 36) ∧ (AI 0 35 z20) ∧ (0 ≤ z21 ∧ z21 ≤ 36) ∧ (0 ≤ z23 ∧ z23 ≤ 60)) (fun z7 z8 z9 z10 z11 z12 z13 z14 z15 z16 z17 z18 z19 z20 z21 z22 z23 z24 => muUp z7) (fun z7 z8 z9 z10 z11 z12 z13 z14 z15 z16 z17 z18 z19 z20 z21 z22 z23 z24 h => TX4_sendInTurn_s40 hn h_x2_lineCount h_x2_goodsCount h_x2_workCount h_x2_years h_x2_lines h_x2_goods h_x2_works h_x2_change h_x2_coin h.1 h.2.1 h.2.2.1 h.2.2.2.1 h.2.2.2.2.1 h.2.2.2.2.2.1 h.2.2.2.2.2.2.1 h.2.2.2.2.2.2.2.1 h.2.2.2.2.2.2.2.2.1 h.2.2.2.2.2.2.2.2.2) (show (0 ≤ z7) ∧ (AI 0 35 z11) ∧ (AI 0 35 z12) ∧ (AI 0 19 z14) ∧ (AI 0 22 z17) ∧ (AI 0 35 z18) ∧ (0 ≤ z19 ∧ z19 ≤ 36) ∧ (AI 0 35 z20) ∧ (0 ≤ z21 ∧ z21 ≤ 36) ∧ (0 ≤ z23 ∧ z23 ≤ 60) from ⟨h_z7, h_z11, h_z12, h_z14, h_z17, h_z18, h_z19, h_z20, h_z21, h_z23⟩) (muUp_n hn)
set_option maxHeartbeats 1000000 in
theorem sX4_sendInTurn {n : Nat} {x0_left x0_earned : (Nat → Int32)} {x0_turnCost x0_turnWayless : Int32} {x1_edgeA x1_edgeB x1_edgeCost x1_edgeLine x1_change x1_away x1_steps x1_nodes : (Nat → Int32)} {x1_stepCount : Int32} {x1_open : (Nat → Int32)} {x1_openCount : Int32} {x1_seen : Int64} {x1_edgeCount x1_aim x2_lineCount x2_goodsCount x2_workCount x2_years : Int32} {x2_lines x2_goods x2_works x2_change x2_coin x2_knownFree : (Nat → Int32)} {x2_isKnown : Int32} (hn : 1000000000000 ≤ n) (h_x1_edgeA : (AI 0 35 x1_edgeA)) (h_x1_edgeB : (AI 0 35 x1_edgeB)) (h_x1_edgeLine : (AI 0 19 x1_edgeLine)) (h_x1_steps : (AI 0 22 x1_steps)) (h_x1_nodes : (AI 0 35 x1_nodes)) (h_x1_stepCount : (0 ≤ x1_stepCount ∧ x1_stepCount ≤ 36)) (h_x1_open : (AI 0 35 x1_open)) (h_x1_openCount : (0 ≤ x1_openCount ∧ x1_openCount ≤ 36)) (h_x1_edgeCount : (0 ≤ x1_edgeCount ∧ x1_edgeCount ≤ 60)) (h_x2_lineCount : (0 ≤ x2_lineCount ∧ x2_lineCount ≤ 20)) (h_x2_goodsCount : (0 ≤ x2_goodsCount ∧ x2_goodsCount ≤ 8)) (h_x2_workCount : (0 ≤ x2_workCount ∧ x2_workCount ≤ 7)) (h_x2_years : (1 ≤ x2_years ∧ x2_years ≤ 30)) (h_x2_lines : (LnOk x2_lines)) (h_x2_goods : (GdOk x2_goods)) (h_x2_works : (WkOk x2_works)) (h_x2_change : (AI 0 99 x2_change)) (h_x2_coin : (AI 0 9 x2_coin)) : Sf (fX4_sendInTurn n (x0_left, x0_earned, x0_turnCost, x0_turnWayless) (x1_edgeA, x1_edgeB, x1_edgeCost, x1_edgeLine, x1_change, x1_away, x1_steps, x1_nodes, x1_stepCount, x1_open, x1_openCount, x1_seen, x1_edgeCount, x1_aim) (x2_lineCount, x2_goodsCount, x2_workCount, x2_years, x2_lines, x2_goods, x2_works, x2_change, x2_coin, x2_knownFree, x2_isKnown)) (fun r => (AI 0 35 r.2.2.2.1) ∧ (AI 0 35 r.2.2.2.2.1) ∧ (AI 0 19 r.2.2.2.2.2.2.1) ∧ (AI 0 22 r.2.2.2.2.2.2.2.2.2.1) ∧ (AI 0 35 r.2.2.2.2.2.2.2.2.2.2.1) ∧ (0 ≤ r.2.2.2.2.2.2.2.2.2.2.2.1 ∧ r.2.2.2.2.2.2.2.2.2.2.2.1 ≤ 36) ∧ (AI 0 35 r.2.2.2.2.2.2.2.2.2.2.2.2.1) ∧ (0 ≤ r.2.2.2.2.2.2.2.2.2.2.2.2.2.1 ∧ r.2.2.2.2.2.2.2.2.2.2.2.2.2.1 ≤ 36) ∧ (0 ≤ r.2.2.2.2.2.2.2.2.2.2.2.2.2.2.2.1 ∧ r.2.2.2.2.2.2.2.2.2.2.2.2.2.2.2.1 ≤ 60)) := by
  unfold fX4_sendInTurn
  dsimp only [u11, u14, u4]
  refine Sf.bind (LX4_sendInTurn_s12 hn h_x2_lineCount h_x2_goodsCount h_x2_workCount h_x2_years h_x2_lines h_x2_goods h_x2_works h_x2_change h_x2_coin (by decide)) ?_
  intro w5 hr1
  refine Sf.bind (LX4_sendInTurn_s40 hn h_x2_lineCount h_x2_goodsCount h_x2_workCount h_x2_years h_x2_lines h_x2_goods h_x2_works h_x2_change h_x2_coin (by decide) h_x1_edgeA h_x1_edgeB h_x1_edgeLine h_x1_steps h_x1_nodes h_x1_stepCount h_x1_open h_x1_openCount h_x1_edgeCount) ?_
  rintro ⟨w26, w27, w28, w29, w30, w31, w32, w33, w34, w35, w36, w37, w38, w39, w40, w41, w42⟩ hr2
  obtain ⟨h_w29, h_w30, h_w32, h_w35, h_w36, h_w37, h_w38, h_w39, h_w41⟩ : (AI 0 35 w29) ∧ (AI 0 35 w30) ∧ (AI 0 19 w32) ∧ (AI 0 22 w35) ∧ (AI 0 35 w36) ∧ (0 ≤ w37 ∧ w37 ≤ 36) ∧ (AI 0 35 w38) ∧ (0 ≤ w39 ∧ w39 ≤ 36) ∧ (0 ≤ w41 ∧ w41 ≤ 60) := hr2
  dsimp only [u17]
  exact Sf.ok (show (AI 0 35 w29) ∧ (AI 0 35 w30) ∧ (AI 0 19 w32) ∧ (AI 0 22 w35) ∧ (AI 0 35 w36) ∧ (0 ≤ w37 ∧ w37 ≤ 36) ∧ (AI 0 35 w38) ∧ (0 ≤ w39 ∧ w39 ≤ 36) ∧ (0 ≤ w41 ∧ w41 ≤ 60) from ⟨h_w29, h_w30, h_w32, h_w35, h_w36, h_w37, h_w38, h_w39, h_w41⟩)
set_option maxHeartbeats 1000000 in
theorem sX5_isChange {x0_edgeA x0_edgeB x0_edgeCost x0_edgeLine x0_change x0_away x0_steps x0_nodes : (Nat → Int32)} {x0_stepCount : Int32} {x0_open : (Nat → Int32)} {x0_openCount : Int32} {x0_seen : Int64} {x0_edgeCount x0_aim p1 : Int32}  (h_x0_edgeA : (AI 0 35 x0_edgeA)) (h_x0_edgeB : (AI 0 35 x0_edgeB)) (h_x0_edgeLine : (AI 0 19 x0_edgeLine)) (h_x0_steps : (AI 0 22 x0_steps)) (h_x0_nodes : (AI 0 35 x0_nodes)) (h_x0_stepCount : (0 ≤ x0_stepCount ∧ x0_stepCount ≤ 36)) (h_x0_open : (AI 0 35 x0_open)) (h_x0_openCount : (0 ≤ x0_openCount ∧ x0_openCount ≤ 36)) (h_x0_edgeCount : (0 ≤ x0_edgeCount ∧ x0_edgeCount ≤ 60)) : Sf (fX5_isChange (x0_edgeA, x0_edgeB, x0_edgeCost, x0_edgeLine, x0_change, x0_away, x0_steps, x0_nodes, x0_stepCount, x0_open, x0_openCount, x0_seen, x0_edgeCount, x0_aim) p1) (fun r => True) := by
  unfold fX5_isChange
  dsimp only [u14]
  refine Sf.bind (sX6_within ) ?_
  intro v1 hr1
  have hx_v1 : ((v1 = 1 ∧ 1 ≤ p1 ∧ p1 ≤ (x0_stepCount - 1)) ∨ (v1 = 0 ∧ (p1 < 1 ∨ (x0_stepCount - 1) < p1))) := hr1
  refine Sf.ite (fun hc2 => ?_) (fun hc2 => ?_)
  · exact Sf.ok trivial
  · refine Sf.rdI 36 rfl h_x0_steps (by grind) (fun v3 h_v3 e_v3 => ?_)
    clear e_v3
    refine Sf.ite (fun hc3 => ?_) (fun hc3 => ?_)
    · exact Sf.ok trivial
    · exact Sf.ok trivial
set_option maxHeartbeats 1000000 in
theorem sX5_placeAfter {x0_edgeA x0_edgeB x0_edgeCost x0_edgeLine x0_change x0_away x0_steps x0_nodes : (Nat → Int32)} {x0_stepCount : Int32} {x0_open : (Nat → Int32)} {x0_openCount : Int32} {x0_seen : Int64} {x0_edgeCount x0_aim p1 : Int32}  (h_x0_edgeA : (AI 0 35 x0_edgeA)) (h_x0_edgeB : (AI 0 35 x0_edgeB)) (h_x0_edgeLine : (AI 0 19 x0_edgeLine)) (h_x0_steps : (AI 0 22 x0_steps)) (h_x0_nodes : (AI 0 35 x0_nodes)) (h_x0_stepCount : (0 ≤ x0_stepCount ∧ x0_stepCount ≤ 36)) (h_x0_open : (AI 0 35 x0_open)) (h_x0_openCount : (0 ≤ x0_openCount ∧ x0_openCount ≤ 36)) (h_x0_edgeCount : (0 ≤ x0_edgeCount ∧ x0_edgeCount ≤ 60)) : Sf (fX5_placeAfter (x0_edgeA, x0_edgeB, x0_edgeCost, x0_edgeLine, x0_change, x0_away, x0_steps, x0_nodes, x0_stepCount, x0_open, x0_openCount, x0_seen, x0_edgeCount, x0_aim) p1) (fun r => True) := by
  unfold fX5_placeAfter
  dsimp only [u14]
  refine Sf.bind (sX6_within ) ?_
  intro v1 hr1
  have hx_v1 : ((v1 = 1 ∧ 0 ≤ p1 ∧ p1 ≤ (x0_stepCount - 1)) ∨ (v1 = 0 ∧ (p1 < 0 ∨ (x0_stepCount - 1) < p1))) := hr1
  refine Sf.ite (fun hc2 => ?_) (fun hc2 => ?_)
  · exact Sf.ok trivial
  · refine Sf.rdI 36 rfl h_x0_nodes (by grind) (fun v3 h_v3 e_v3 => ?_)
    clear e_v3
    exact Sf.ok trivial
theorem TX4_changesAt_s4 {p1 : Int32} {x1_edgeA x1_edgeB x1_edgeCost x1_edgeLine x1_change x1_away x1_steps x1_nodes : (Nat → Int32)} {x1_stepCount : Int32} {x1_open : (Nat → Int32)} {x1_openCount : Int32} {x1_seen : Int64} {x1_edgeCount x1_aim z2 z3 : Int32}  (h_x1_edgeA : (AI 0 35 x1_edgeA)) (h_x1_edgeB : (AI 0 35 x1_edgeB)) (h_x1_edgeLine : (AI 0 19 x1_edgeLine)) (h_x1_steps : (AI 0 22 x1_steps)) (h_x1_nodes : (AI 0 35 x1_nodes)) (h_x1_stepCount : (0 ≤ x1_stepCount ∧ x1_stepCount ≤ 36)) (h_x1_open : (AI 0 35 x1_open)) (h_x1_openCount : (0 ≤ x1_openCount ∧ x1_openCount ≤ 36)) (h_x1_edgeCount : (0 ≤ x1_edgeCount ∧ x1_edgeCount ≤ 60)) (h_z3 : (0 ≤ z3)) : Sf (fX4_changesAt_s4 p1 x1_edgeA x1_edgeB x1_edgeCost x1_edgeLine x1_change x1_away x1_steps x1_nodes x1_stepCount x1_open x1_openCount x1_seen x1_edgeCount x1_aim z2 z3) (LQ (u2 (fun z2 z3 => (0 ≤ z3))) (u2 (fun z2 z3 => muUp z3)) (muUp z3) (fun e => True)) := by
  unfold fX4_changesAt_s4
  refine Sf.ite (fun hc1 => ?_) (fun hc1 => ?_)
  · exact Sf.inr trivial
  · refine Sf.bind (sX5_isChange h_x1_edgeA h_x1_edgeB h_x1_edgeLine h_x1_steps h_x1_nodes h_x1_stepCount h_x1_open h_x1_openCount h_x1_edgeCount) ?_
    intro v6 hr2
    refine Sf.ite (fun hc3 => ?_) (fun hc3 => ?_)
    · exact Sf.inl (show (0 ≤ (z3 + 1)) from (by grind)) (muUp_lt hc1)
    · refine Sf.bind (sX5_placeAfter h_x1_edgeA h_x1_edgeB h_x1_edgeLine h_x1_steps h_x1_nodes h_x1_stepCount h_x1_open h_x1_openCount h_x1_edgeCount) ?_
      intro v8 hr4
      refine Sf.ite (fun hc5 => ?_) (fun hc5 => ?_)
      · exact Sf.inl (show (0 ≤ (z3 + 1)) from (by grind)) (muUp_lt hc1)
      · exact Sf.inl (show (0 ≤ (z3 + 1)) from (by grind)) (muUp_lt hc1)
theorem LX4_changesAt_s4 {n : Nat} {p1 : Int32} {x1_edgeA x1_edgeB x1_edgeCost x1_edgeLine x1_change x1_away x1_steps x1_nodes : (Nat → Int32)} {x1_stepCount : Int32} {x1_open : (Nat → Int32)} {x1_openCount : Int32} {x1_seen : Int64} {x1_edgeCount x1_aim z2 z3 : Int32} (hn : 1000000000000 ≤ n) (h_x1_edgeA : (AI 0 35 x1_edgeA)) (h_x1_edgeB : (AI 0 35 x1_edgeB)) (h_x1_edgeLine : (AI 0 19 x1_edgeLine)) (h_x1_steps : (AI 0 22 x1_steps)) (h_x1_nodes : (AI 0 35 x1_nodes)) (h_x1_stepCount : (0 ≤ x1_stepCount ∧ x1_stepCount ≤ 36)) (h_x1_open : (AI 0 35 x1_open)) (h_x1_openCount : (0 ≤ x1_openCount ∧ x1_openCount ≤ 36)) (h_x1_edgeCount : (0 ≤ x1_edgeCount ∧ x1_edgeCount ≤ 60)) (h_z3 : (0 ≤ z3)) : Sf (lp (u2 (fX4_changesAt_s4 p1 x1_edgeA x1_edgeB x1_edgeCost x1_edgeLine x1_change x1_away x1_steps x1_nodes x1_stepCount x1_open x1_openCount x1_seen x1_edgeCount x1_aim)) n (z2, z3)) (fun e => True) :=
  Sf.loop2 (fun z2 z3 => (0 ≤ z3)) (fun z2 z3 => muUp z3) (fun z2 z3 h => TX4_changesAt_s4 h_x1_edgeA h_x1_edgeB h_x1_edgeLine h_x1_steps h_x1_nodes h_x1_stepCount h_x1_open h_x1_openCount h_x1_edgeCount h) h_z3 (muUp_n hn)
set_option maxHeartbeats 1000000 in
theorem sX4_changesAt {n : Nat} {x0_left x0_earned : (Nat → Int32)} {x0_turnCost x0_turnWayless : Int32} {x1_edgeA x1_edgeB x1_edgeCost x1_edgeLine x1_change x1_away x1_steps x1_nodes : (Nat → Int32)} {x1_stepCount : Int32} {x1_open : (Nat → Int32)} {x1_openCount : Int32} {x1_seen : Int64} {x1_edgeCount x1_aim p1 : Int32} (hn : 1000000000000 ≤ n) (h_x1_edgeA : (AI 0 35 x1_edgeA)) (h_x1_edgeB : (AI 0 35 x1_edgeB)) (h_x1_edgeLine : (AI 0 19 x1_edgeLine)) (h_x1_steps : (AI 0 22 x1_steps)) (h_x1_nodes : (AI 0 35 x1_nodes)) (h_x1_stepCount : (0 ≤ x1_stepCount ∧ x1_stepCount ≤ 36)) (h_x1_open : (AI 0 35 x1_open)) (h_x1_openCount : (0 ≤ x1_openCount ∧ x1_openCount ≤ 36)) (h_x1_edgeCount : (0 ≤ x1_edgeCount ∧ x1_edgeCount ≤ 60)) : Sf (fX4_changesAt n (x0_left, x0_earned, x0_turnCost, x0_turnWayless) (x1_edgeA, x1_edgeB, x1_edgeCost, x1_edgeLine, x1_change, x1_away, x1_steps, x1_nodes, x1_stepCount, x1_open, x1_openCount, x1_seen, x1_edgeCount, x1_aim) p1) (fun r => True) := by
  unfold fX4_changesAt
  dsimp only [u14, u4]
  refine Sf.bind (LX4_changesAt_s4 hn h_x1_edgeA h_x1_edgeB h_x1_edgeLine h_x1_steps h_x1_nodes h_x1_stepCount h_x1_open h_x1_openCount h_x1_edgeCount (by decide)) ?_
  intro w5 hr1
  exact Sf.ok trivial
theorem TX4_stepsTo_s4 {p1 : Int32} {x1_edgeA x1_edgeB x1_edgeCost x1_edgeLine x1_change x1_away x1_steps x1_nodes : (Nat → Int32)} {x1_stepCount : Int32} {x1_open : (Nat → Int32)} {x1_openCount : Int32} {x1_seen : Int64} {x1_edgeCount x1_aim z2 z3 : Int32}  (h_x1_edgeA : (AI 0 35 x1_edgeA)) (h_x1_edgeB : (AI 0 35 x1_edgeB)) (h_x1_edgeLine : (AI 0 19 x1_edgeLine)) (h_x1_steps : (AI 0 22 x1_steps)) (h_x1_nodes : (AI 0 35 x1_nodes)) (h_x1_stepCount : (0 ≤ x1_stepCount ∧ x1_stepCount ≤ 36)) (h_x1_open : (AI 0 35 x1_open)) (h_x1_openCount : (0 ≤ x1_openCount ∧ x1_openCount ≤ 36)) (h_x1_edgeCount : (0 ≤ x1_edgeCount ∧ x1_edgeCount ≤ 60)) (h_z3 : (0 ≤ z3)) : Sf (fX4_stepsTo_s4 p1 x1_edgeA x1_edgeB x1_edgeCost x1_edgeLine x1_change x1_away x1_steps x1_nodes x1_stepCount x1_open x1_openCount x1_seen x1_edgeCount x1_aim z2 z3) (LQ (u2 (fun z2 z3 => (0 ≤ z3))) (u2 (fun z2 z3 => muUp z3)) (muUp z3) (fun e => True)) := by
  unfold fX4_stepsTo_s4
  refine Sf.ite (fun hc1 => ?_) (fun hc1 => ?_)
  · exact Sf.inr trivial
  · refine Sf.bind (sX5_placeAfter h_x1_edgeA h_x1_edgeB h_x1_edgeLine h_x1_steps h_x1_nodes h_x1_stepCount h_x1_open h_x1_openCount h_x1_edgeCount) ?_
    intro v6 hr2
    refine Sf.ite (fun hc3 => ?_) (fun hc3 => ?_)
    · exact Sf.inl (show (0 ≤ (z3 + 1)) from (by grind)) (muUp_lt hc1)
    · exact Sf.inl (show (0 ≤ (z3 + 1)) from (by grind)) (muUp_lt hc1)
theorem LX4_stepsTo_s4 {n : Nat} {p1 : Int32} {x1_edgeA x1_edgeB x1_edgeCost x1_edgeLine x1_change x1_away x1_steps x1_nodes : (Nat → Int32)} {x1_stepCount : Int32} {x1_open : (Nat → Int32)} {x1_openCount : Int32} {x1_seen : Int64} {x1_edgeCount x1_aim z2 z3 : Int32} (hn : 1000000000000 ≤ n) (h_x1_edgeA : (AI 0 35 x1_edgeA)) (h_x1_edgeB : (AI 0 35 x1_edgeB)) (h_x1_edgeLine : (AI 0 19 x1_edgeLine)) (h_x1_steps : (AI 0 22 x1_steps)) (h_x1_nodes : (AI 0 35 x1_nodes)) (h_x1_stepCount : (0 ≤ x1_stepCount ∧ x1_stepCount ≤ 36)) (h_x1_open : (AI 0 35 x1_open)) (h_x1_openCount : (0 ≤ x1_openCount ∧ x1_openCount ≤ 36)) (h_x1_edgeCount : (0 ≤ x1_edgeCount ∧ x1_edgeCount ≤ 60)) (h_z3 : (0 ≤ z3)) : Sf (lp (u2 (fX4_stepsTo_s4 p1 x1_edgeA x1_edgeB x1_edgeCost x1_edgeLine x1_change x1_away x1_steps x1_nodes x1_stepCount x1_open x1_openCount x1_seen x1_edgeCount x1_aim)) n (z2, z3)) (fun e => True) :=
  Sf.loop2 (fun z2 z3 => (0 ≤ z3)) (fun z2 z3 => muUp z3) (fun z2 z3 h => TX4_stepsTo_s4 h_x1_edgeA h_x1_edgeB h_x1_edgeLine h_x1_steps h_x1_nodes h_x1_stepCount h_x1_open h_x1_openCount h_x1_edgeCount h) h_z3 (muUp_n hn)
set_option maxHeartbeats 1000000 in
theorem sX4_stepsTo {n : Nat} {x0_left x0_earned : (Nat → Int32)} {x0_turnCost x0_turnWayless : Int32} {x1_edgeA x1_edgeB x1_edgeCost x1_edgeLine x1_change x1_away x1_steps x1_nodes : (Nat → Int32)} {x1_stepCount : Int32} {x1_open : (Nat → Int32)} {x1_openCount : Int32} {x1_seen : Int64} {x1_edgeCount x1_aim p1 : Int32} (hn : 1000000000000 ≤ n) (h_x1_edgeA : (AI 0 35 x1_edgeA)) (h_x1_edgeB : (AI 0 35 x1_edgeB)) (h_x1_edgeLine : (AI 0 19 x1_edgeLine)) (h_x1_steps : (AI 0 22 x1_steps)) (h_x1_nodes : (AI 0 35 x1_nodes)) (h_x1_stepCount : (0 ≤ x1_stepCount ∧ x1_stepCount ≤ 36)) (h_x1_open : (AI 0 35 x1_open)) (h_x1_openCount : (0 ≤ x1_openCount ∧ x1_openCount ≤ 36)) (h_x1_edgeCount : (0 ≤ x1_edgeCount ∧ x1_edgeCount ≤ 60)) : Sf (fX4_stepsTo n (x0_left, x0_earned, x0_turnCost, x0_turnWayless) (x1_edgeA, x1_edgeB, x1_edgeCost, x1_edgeLine, x1_change, x1_away, x1_steps, x1_nodes, x1_stepCount, x1_open, x1_openCount, x1_seen, x1_edgeCount, x1_aim) p1) (fun r => True) := by
  unfold fX4_stepsTo
  dsimp only [u14, u4]
  refine Sf.bind (LX4_stepsTo_s4 hn h_x1_edgeA h_x1_edgeB h_x1_edgeLine h_x1_steps h_x1_nodes h_x1_stepCount h_x1_open h_x1_openCount h_x1_edgeCount (by decide)) ?_
  intro w5 hr1
  exact Sf.ok trivial
theorem TX4_tonsAt_s18 {n : Nat} {p2 p3 : Int32} {x0_left x0_earned : (Nat → Int32)} {x0_turnCost x0_turnWayless x2_lineCount x2_goodsCount x2_workCount x2_years : Int32} {x2_lines x2_goods x2_works x2_change x2_coin x2_knownFree : (Nat → Int32)} {x2_isKnown : Int32} {g4 g5 g6 g7 g8 : (Nat → Int32)} {g9 z13 z14 : Int32} {z15 z16 z17 : (Nat → Int32)} {z18 : Int32} {z19 : (Nat → Int32)} {z20 : Int32} {z21 : Int64} {z22 : Int32} (hn : 1000000000000 ≤ n) (h_x2_lineCount : (0 ≤ x2_lineCount ∧ x2_lineCount ≤ 20)) (h_x2_goodsCount : (0 ≤ x2_goodsCount ∧ x2_goodsCount ≤ 8)) (h_x2_workCount : (0 ≤ x2_workCount ∧ x2_workCount ≤ 7)) (h_x2_years : (1 ≤ x2_years ∧ x2_years ≤ 30)) (h_x2_lines : (LnOk x2_lines)) (h_x2_goods : (GdOk x2_goods)) (h_x2_works : (WkOk x2_works)) (h_x2_change : (AI 0 99 x2_change)) (h_x2_coin : (AI 0 9 x2_coin)) (h_g4 : (AI 0 35 g4)) (h_g5 : (AI 0 35 g5)) (h_g7 : (AI 0 19 g7)) (h_g9 : (0 ≤ g9 ∧ g9 ≤ 60)) (h_z14 : (0 ≤ z14)) (h_z16 : (AI 0 22 z16)) (h_z17 : (AI 0 35 z17)) (h_z18 : (0 ≤ z18 ∧ z18 ≤ 36)) (h_z19 : (AI 0 35 z19)) (h_z20 : (0 ≤ z20 ∧ z20 ≤ 36)) : Sf (fX4_tonsAt_s18 n p2 p3 x0_left x0_earned x0_turnCost x0_turnWayless x2_lineCount x2_goodsCount x2_workCount x2_years x2_lines x2_goods x2_works x2_change x2_coin x2_knownFree x2_isKnown g4 g5 g6 g7 g8 g9 z13 z14 z15 z16 z17 z18 z19 z20 z21 z22) (LQ (u10 (fun z13 z14 z15 z16 z17 z18 z19 z20 z21 z22 => (0 ≤ z14) ∧ (AI 0 22 z16) ∧ (AI 0 35 z17) ∧ (0 ≤ z18 ∧ z18 ≤ 36) ∧ (AI 0 35 z19) ∧ (0 ≤ z20 ∧ z20 ≤ 36))) (u10 (fun z13 z14 z15 z16 z17 z18 z19 z20 z21 z22 => muUp z14)) (muUp z14) (fun e => (AI 0 22 e.2.2.1) ∧ (AI 0 35 e.2.2.2.1) ∧ (0 ≤ e.2.2.2.2.1 ∧ e.2.2.2.2.1 ≤ 36) ∧ (AI 0 35 e.2.2.2.2.2.1) ∧ (0 ≤ e.2.2.2.2.2.2.1 ∧ e.2.2.2.2.2.2.1 ≤ 36))) := by
  unfold fX4_tonsAt_s18
  refine Sf.ite (fun hc1 => ?_) (fun hc1 => ?_)
  · exact Sf.inr (show (AI 0 22 z16) ∧ (AI 0 35 z17) ∧ (0 ≤ z18 ∧ z18 ≤ 36) ∧ (AI 0 35 z19) ∧ (0 ≤ z20 ∧ z20 ≤ 36) from ⟨h_z16, h_z17, h_z18, h_z19, h_z20⟩)
  · refine Sf.bind (s_ofGoods h_x2_goods (by grind) (by decide)) ?_
    intro v33 hr2
    obtain ⟨h_v33, e_v33⟩ : (0 ≤ v33 ∧ v33 ≤ 11) ∧ v33 = x2_goods (z14.toNatClampNeg * 3 + 0) := hr2
    clear e_v33
    refine Sf.bind (s_ofGoods h_x2_goods (by grind) (by decide)) ?_
    intro v35 hr3
    obtain ⟨h_v35, e_v35⟩ : (0 ≤ v35 ∧ v35 ≤ 11) ∧ v35 = x2_goods (z14.toNatClampNeg * 3 + 1) := hr3
    clear e_v35
    refine Sf.bind (sX5_trace hn h_g4 h_g5 h_g7 h_z16 h_z17 h_z18 h_z19 h_z20 h_g9 h_v33 h_v35) ?_
    rintro ⟨v37, ⟨g39, g40, g41, g42, g43, g44, g45, g46⟩⟩ hr4
    obtain ⟨h_g40, h_g41, h_g42, h_g43, h_g44⟩ : (AI 0 22 g40) ∧ (AI 0 35 g41) ∧ (0 ≤ g42 ∧ g42 ≤ 36) ∧ (AI 0 35 g43) ∧ (0 ≤ g44 ∧ g44 ≤ 36) := hr4
    dsimp only [u2, u8]
    refine Sf.ite (fun hc5 => ?_) (fun hc5 => ?_)
    · exact Sf.inl (show (0 ≤ (z14 + 1)) ∧ (AI 0 22 g40) ∧ (AI 0 35 g41) ∧ (0 ≤ g42 ∧ g42 ≤ 36) ∧ (AI 0 35 g43) ∧ (0 ≤ g44 ∧ g44 ≤ 36) from ⟨(by grind), h_g40, h_g41, h_g42, h_g43, h_g44⟩) (muUp_lt hc1)
    · refine Sf.ite (fun hc6 => ?_) (fun hc6 => ?_)
      · refine Sf.bind (sX4_stepsTo hn h_g4 h_g5 h_g7 h_g40 h_g41 h_g42 h_g43 h_g44 h_g9) ?_
        intro v51 hr7
        unfold fX4_tonsAt_j72
        refine Sf.bind (s_ofGoods h_x2_goods (by grind) (by decide)) ?_
        intro v49 hr8
        obtain ⟨h_v49, e_v49⟩ : (0 ≤ v49 ∧ v49 ≤ 99) ∧ v49 = x2_goods (z14.toNatClampNeg * 3 + 2) := hr8
        clear e_v49
        exact Sf.inl (show (0 ≤ (z14 + 1)) ∧ (AI 0 22 g40) ∧ (AI 0 35 g41) ∧ (0 ≤ g42 ∧ g42 ≤ 36) ∧ (AI 0 35 g43) ∧ (0 ≤ g44 ∧ g44 ≤ 36) from ⟨(by grind), h_g40, h_g41, h_g42, h_g43, h_g44⟩) (muUp_lt hc1)
      · refine Sf.bind (sX4_changesAt hn h_g4 h_g5 h_g7 h_g40 h_g41 h_g42 h_g43 h_g44 h_g9) ?_
        intro v53 hr9
        unfold fX4_tonsAt_j72
        refine Sf.bind (s_ofGoods h_x2_goods (by grind) (by decide)) ?_
        intro v49 hr10
        obtain ⟨h_v49, e_v49⟩ : (0 ≤ v49 ∧ v49 ≤ 99) ∧ v49 = x2_goods (z14.toNatClampNeg * 3 + 2) := hr10
        clear e_v49
        exact Sf.inl (show (0 ≤ (z14 + 1)) ∧ (AI 0 22 g40) ∧ (AI 0 35 g41) ∧ (0 ≤ g42 ∧ g42 ≤ 36) ∧ (AI 0 35 g43) ∧ (0 ≤ g44 ∧ g44 ≤ 36) from ⟨(by grind), h_g40, h_g41, h_g42, h_g43, h_g44⟩) (muUp_lt hc1)
theorem LX4_tonsAt_s18 {n : Nat} {p2 p3 : Int32} {x0_left x0_earned : (Nat → Int32)} {x0_turnCost x0_turnWayless x2_lineCount x2_goodsCount x2_workCount x2_years : Int32} {x2_lines x2_goods x2_works x2_change x2_coin x2_knownFree : (Nat → Int32)} {x2_isKnown : Int32} {g4 g5 g6 g7 g8 : (Nat → Int32)} {g9 z13 z14 : Int32} {z15 z16 z17 : (Nat → Int32)} {z18 : Int32} {z19 : (Nat → Int32)} {z20 : Int32} {z21 : Int64} {z22 : Int32} (hn : 1000000000000 ≤ n) (h_x2_lineCount : (0 ≤ x2_lineCount ∧ x2_lineCount ≤ 20)) (h_x2_goodsCount : (0 ≤ x2_goodsCount ∧ x2_goodsCount ≤ 8)) (h_x2_workCount : (0 ≤ x2_workCount ∧ x2_workCount ≤ 7)) (h_x2_years : (1 ≤ x2_years ∧ x2_years ≤ 30)) (h_x2_lines : (LnOk x2_lines)) (h_x2_goods : (GdOk x2_goods)) (h_x2_works : (WkOk x2_works)) (h_x2_change : (AI 0 99 x2_change)) (h_x2_coin : (AI 0 9 x2_coin)) (h_g4 : (AI 0 35 g4)) (h_g5 : (AI 0 35 g5)) (h_g7 : (AI 0 19 g7)) (h_g9 : (0 ≤ g9 ∧ g9 ≤ 60)) (h_z14 : (0 ≤ z14)) (h_z16 : (AI 0 22 z16)) (h_z17 : (AI 0 35 z17)) (h_z18 : (0 ≤ z18 ∧ z18 ≤ 36)) (h_z19 : (AI 0 35 z19)) (h_z20 : (0 ≤ z20 ∧ z20 ≤ 36)) : Sf (lp (u10 (fX4_tonsAt_s18 n p2 p3 x0_left x0_earned x0_turnCost x0_turnWayless x2_lineCount x2_goodsCount x2_workCount x2_years x2_lines x2_goods x2_works x2_change x2_coin x2_knownFree x2_isKnown g4 g5 g6 g7 g8 g9)) n (z13, z14, z15, z16, z17, z18, z19, z20, z21, z22)) (fun e => (AI 0 22 e.2.2.1) ∧ (AI 0 35 e.2.2.2.1) ∧ (0 ≤ e.2.2.2.2.1 ∧ e.2.2.2.2.1 ≤ 36) ∧ (AI 0 35 e.2.2.2.2.2.1) ∧ (0 ≤ e.2.2.2.2.2.2.1 ∧ e.2.2.2.2.2.2.1 ≤ 36)) :=
  Sf.loop10 (fun z13 z14 z15 z16 z17 z18 z19 z20 z21 z22 => (0 ≤ z14) ∧ (AI 0 22 z16) ∧ (AI 0 35 z17) ∧ (0 ≤ z18 ∧ z18 ≤ 36) ∧ (AI 0 35 z19) ∧ (0 ≤ z20 ∧ z20 ≤ 36)) (fun z13 z14 z15 z16 z17 z18 z19 z20 z21 z22 => muUp z14) (fun z13 z14 z15 z16 z17 z18 z19 z20 z21 z22 h => TX4_tonsAt_s18 hn h_x2_lineCount h_x2_goodsCount h_x2_workCount h_x2_years h_x2_lines h_x2_goods h_x2_works h_x2_change h_x2_coin h_g4 h_g5 h_g7 h_g9 h.1 h.2.1 h.2.2.1 h.2.2.2.1 h.2.2.2.2.1 h.2.2.2.2.2) (show (0 ≤ z14) ∧ (AI 0 22 z16) ∧ (AI 0 35 z17) ∧ (0 ≤ z18 ∧ z18 ≤ 36) ∧ (AI 0 35 z19) ∧ (0 ≤ z20 ∧ z20 ≤ 36) from ⟨h_z14, h_z16, h_z17, h_z18, h_z19, h_z20⟩) (muUp_n hn)
set_option maxHeartbeats 1000000 in
theorem sX4_tonsAt {n : Nat} {x0_left x0_earned : (Nat → Int32)} {x0_turnCost x0_turnWayless : Int32} {x1_edgeA x1_edgeB x1_edgeCost x1_edgeLine x1_change x1_away x1_steps x1_nodes : (Nat → Int32)} {x1_stepCount : Int32} {x1_open : (Nat → Int32)} {x1_openCount : Int32} {x1_seen : Int64} {x1_edgeCount x1_aim x2_lineCount x2_goodsCount x2_workCount x2_years : Int32} {x2_lines x2_goods x2_works x2_change x2_coin x2_knownFree : (Nat → Int32)} {x2_isKnown p2 p3 : Int32} (hn : 1000000000000 ≤ n) (h_x1_edgeA : (AI 0 35 x1_edgeA)) (h_x1_edgeB : (AI 0 35 x1_edgeB)) (h_x1_edgeLine : (AI 0 19 x1_edgeLine)) (h_x1_steps : (AI 0 22 x1_steps)) (h_x1_nodes : (AI 0 35 x1_nodes)) (h_x1_stepCount : (0 ≤ x1_stepCount ∧ x1_stepCount ≤ 36)) (h_x1_open : (AI 0 35 x1_open)) (h_x1_openCount : (0 ≤ x1_openCount ∧ x1_openCount ≤ 36)) (h_x1_edgeCount : (0 ≤ x1_edgeCount ∧ x1_edgeCount ≤ 60)) (h_x2_lineCount : (0 ≤ x2_lineCount ∧ x2_lineCount ≤ 20)) (h_x2_goodsCount : (0 ≤ x2_goodsCount ∧ x2_goodsCount ≤ 8)) (h_x2_workCount : (0 ≤ x2_workCount ∧ x2_workCount ≤ 7)) (h_x2_years : (1 ≤ x2_years ∧ x2_years ≤ 30)) (h_x2_lines : (LnOk x2_lines)) (h_x2_goods : (GdOk x2_goods)) (h_x2_works : (WkOk x2_works)) (h_x2_change : (AI 0 99 x2_change)) (h_x2_coin : (AI 0 9 x2_coin)) : Sf (fX4_tonsAt n (x0_left, x0_earned, x0_turnCost, x0_turnWayless) (x1_edgeA, x1_edgeB, x1_edgeCost, x1_edgeLine, x1_change, x1_away, x1_steps, x1_nodes, x1_stepCount, x1_open, x1_openCount, x1_seen, x1_edgeCount, x1_aim) (x2_lineCount, x2_goodsCount, x2_workCount, x2_years, x2_lines, x2_goods, x2_works, x2_change, x2_coin, x2_knownFree, x2_isKnown) p2 p3) (fun r => (AI 0 35 r.2.1) ∧ (AI 0 35 r.2.2.1) ∧ (AI 0 19 r.2.2.2.2.1) ∧ (AI 0 22 r.2.2.2.2.2.2.2.1) ∧ (AI 0 35 r.2.2.2.2.2.2.2.2.1) ∧ (0 ≤ r.2.2.2.2.2.2.2.2.2.1 ∧ r.2.2.2.2.2.2.2.2.2.1 ≤ 36) ∧ (AI 0 35 r.2.2.2.2.2.2.2.2.2.2.1) ∧ (0 ≤ r.2.2.2.2.2.2.2.2.2.2.2.1 ∧ r.2.2.2.2.2.2.2.2.2.2.2.1 ≤ 36) ∧ (0 ≤ r.2.2.2.2.2.2.2.2.2.2.2.2.2.1 ∧ r.2.2.2.2.2.2.2.2.2.2.2.2.2.1 ≤ 60)) := by
  unfold fX4_tonsAt
  dsimp only [u11, u14, u4]
  refine Sf.bind (sX1_linesThere hn h_x2_lineCount h_x2_goodsCount h_x2_workCount h_x2_years h_x2_lines h_x2_goods h_x2_works h_x2_change h_x2_coin) ?_
  intro v1 hr1
  refine Sf.bind (sX5_prepare hn h_x1_edgeA h_x1_edgeB h_x1_edgeLine h_x1_steps h_x1_nodes h_x1_stepCount h_x1_open h_x1_openCount h_x1_edgeCount h_x2_lineCount h_x2_goodsCount h_x2_workCount h_x2_years h_x2_lines h_x2_goods h_x2_works h_x2_change h_x2_coin) ?_
  rintro ⟨g4, g5, g6, g7, g8, g9, g10⟩ hr2
  obtain ⟨h_g4, h_g5, h_g7, h_g9⟩ : (AI 0 35 g4) ∧ (AI 0 35 g5) ∧ (AI 0 19 g7) ∧ (0 ≤ g9 ∧ g9 ≤ 60) := hr2
  dsimp only [u7]
  refine Sf.bind (LX4_tonsAt_s18 hn h_x2_lineCount h_x2_goodsCount h_x2_workCount h_x2_years h_x2_lines h_x2_goods h_x2_works h_x2_change h_x2_coin h_g4 h_g5 h_g7 h_g9 (by decide) h_x1_steps h_x1_nodes h_x1_stepCount h_x1_open h_x1_openCount) ?_
  rintro ⟨w24, w25, w26, w27, w28, w29, w30, w31, w32⟩ hr3
  obtain ⟨h_w26, h_w27, h_w28, h_w29, h_w30⟩ : (AI 0 22 w26) ∧ (AI 0 35 w27) ∧ (0 ≤ w28 ∧ w28 ≤ 36) ∧ (AI 0 35 w29) ∧ (0 ≤ w30 ∧ w30 ≤ 36) := hr3
  dsimp only [u9]
  exact Sf.ok (show (AI 0 35 g4) ∧ (AI 0 35 g5) ∧ (AI 0 19 g7) ∧ (AI 0 22 w26) ∧ (AI 0 35 w27) ∧ (0 ≤ w28 ∧ w28 ≤ 36) ∧ (AI 0 35 w29) ∧ (0 ≤ w30 ∧ w30 ≤ 36) ∧ (0 ≤ g9 ∧ g9 ≤ 60) from ⟨h_g4, h_g5, h_g7, h_w26, h_w27, h_w28, h_w29, h_w30, h_g9⟩)
theorem TX4_dearestLoss_s13 {n : Nat} {x0_left x0_earned : (Nat → Int32)} {x0_turnCost x0_turnWayless : Int32} {x1_steps x1_nodes : (Nat → Int32)} {x1_stepCount : Int32} {x1_open : (Nat → Int32)} {x1_openCount : Int32} {x1_seen : Int64} {x2_lineCount x2_goodsCount x2_workCount x2_years : Int32} {x2_lines x2_goods x2_works x2_change x2_coin x2_knownFree : (Nat → Int32)} {x2_isKnown v1 z4 z5 z6 : Int32} {z7 z8 z9 z10 z11 z12 : (Nat → Int32)} {z13 z14 : Int32} (hn : 1000000000000 ≤ n) (h_x1_steps : (AI 0 22 x1_steps)) (h_x1_nodes : (AI 0 35 x1_nodes)) (h_x1_stepCount : (0 ≤ x1_stepCount ∧ x1_stepCount ≤ 36)) (h_x1_open : (AI 0 35 x1_open)) (h_x1_openCount : (0 ≤ x1_openCount ∧ x1_openCount ≤ 36)) (h_x2_lineCount : (0 ≤ x2_lineCount ∧ x2_lineCount ≤ 20)) (h_x2_goodsCount : (0 ≤ x2_goodsCount ∧ x2_goodsCount ≤ 8)) (h_x2_workCount : (0 ≤ x2_workCount ∧ x2_workCount ≤ 7)) (h_x2_years : (1 ≤ x2_years ∧ x2_years ≤ 30)) (h_x2_lines : (LnOk x2_lines)) (h_x2_goods : (GdOk x2_goods)) (h_x2_works : (WkOk x2_works)) (h_x2_change : (AI 0 99 x2_change)) (h_x2_coin : (AI 0 9 x2_coin)) (h_z6 : (0 ≤ z6)) (h_z7 : (AI 0 35 z7)) (h_z8 : (AI 0 35 z8)) (h_z10 : (AI 0 19 z10)) (h_z13 : (0 ≤ z13 ∧ z13 ≤ 60)) : Sf (fX4_dearestLoss_s13 n x0_left x0_earned x0_turnCost x0_turnWayless x1_steps x1_nodes x1_stepCount x1_open x1_openCount x1_seen x2_lineCount x2_goodsCount x2_workCount x2_years x2_lines x2_goods x2_works x2_change x2_coin x2_knownFree x2_isKnown v1 z4 z5 z6 z7 z8 z9 z10 z11 z12 z13 z14) (LQ (u11 (fun z4 z5 z6 z7 z8 z9 z10 z11 z12 z13 z14 => (0 ≤ z6) ∧ (AI 0 35 z7) ∧ (AI 0 35 z8) ∧ (AI 0 19 z10) ∧ (0 ≤ z13 ∧ z13 ≤ 60))) (u11 (fun z4 z5 z6 z7 z8 z9 z10 z11 z12 z13 z14 => muUp z6)) (muUp z6) (fun e => (AI 0 35 e.2.1) ∧ (AI 0 35 e.2.2.1) ∧ (AI 0 19 e.2.2.2.2.1) ∧ (0 ≤ e.2.2.2.2.2.2.2.1 ∧ e.2.2.2.2.2.2.2.1 ≤ 60))) := by
  unfold fX4_dearestLoss_s13
  refine Sf.ite (fun hc1 => ?_) (fun hc1 => ?_)
  · exact Sf.inr (show (AI 0 35 z7) ∧ (AI 0 35 z8) ∧ (AI 0 19 z10) ∧ (0 ≤ z13 ∧ z13 ≤ 60) from ⟨h_z7, h_z8, h_z10, h_z13⟩)
  · refine Sf.ite (fun hc2 => ?_) (fun hc2 => ?_)
    · exact Sf.inl (show (0 ≤ (z6 + 1)) ∧ (AI 0 35 z7) ∧ (AI 0 35 z8) ∧ (AI 0 19 z10) ∧ (0 ≤ z13 ∧ z13 ≤ 60) from ⟨(by grind), h_z7, h_z8, h_z10, h_z13⟩) (muUp_lt hc1)
    · refine Sf.bind (sX4_freeBy hn h_z7 h_z8 h_z10 h_x1_steps h_x1_nodes h_x1_stepCount h_x1_open h_x1_openCount h_z13 h_x2_lineCount h_x2_goodsCount h_x2_workCount h_x2_years h_x2_lines h_x2_goods h_x2_works h_x2_change h_x2_coin) ?_
      rintro ⟨v25, ⟨g27, g28, g29, g30, g31, g32, g33, g34⟩⟩ hr3
      obtain ⟨h_g27, h_g28, h_g30, h_g33⟩ : (AI 0 35 g27) ∧ (AI 0 35 g28) ∧ (AI 0 19 g30) ∧ (0 ≤ g33 ∧ g33 ≤ 60) := hr3
      dsimp only [u2, u8]
      refine Sf.ite (fun hc4 => ?_) (fun hc4 => ?_)
      · exact Sf.inl (show (0 ≤ (z6 + 1)) ∧ (AI 0 35 g27) ∧ (AI 0 35 g28) ∧ (AI 0 19 g30) ∧ (0 ≤ g33 ∧ g33 ≤ 60) from ⟨(by grind), h_g27, h_g28, h_g30, h_g33⟩) (muUp_lt hc1)
      · exact Sf.inl (show (0 ≤ (z6 + 1)) ∧ (AI 0 35 g27) ∧ (AI 0 35 g28) ∧ (AI 0 19 g30) ∧ (0 ≤ g33 ∧ g33 ≤ 60) from ⟨(by grind), h_g27, h_g28, h_g30, h_g33⟩) (muUp_lt hc1)
theorem LX4_dearestLoss_s13 {n : Nat} {x0_left x0_earned : (Nat → Int32)} {x0_turnCost x0_turnWayless : Int32} {x1_steps x1_nodes : (Nat → Int32)} {x1_stepCount : Int32} {x1_open : (Nat → Int32)} {x1_openCount : Int32} {x1_seen : Int64} {x2_lineCount x2_goodsCount x2_workCount x2_years : Int32} {x2_lines x2_goods x2_works x2_change x2_coin x2_knownFree : (Nat → Int32)} {x2_isKnown v1 z4 z5 z6 : Int32} {z7 z8 z9 z10 z11 z12 : (Nat → Int32)} {z13 z14 : Int32} (hn : 1000000000000 ≤ n) (h_x1_steps : (AI 0 22 x1_steps)) (h_x1_nodes : (AI 0 35 x1_nodes)) (h_x1_stepCount : (0 ≤ x1_stepCount ∧ x1_stepCount ≤ 36)) (h_x1_open : (AI 0 35 x1_open)) (h_x1_openCount : (0 ≤ x1_openCount ∧ x1_openCount ≤ 36)) (h_x2_lineCount : (0 ≤ x2_lineCount ∧ x2_lineCount ≤ 20)) (h_x2_goodsCount : (0 ≤ x2_goodsCount ∧ x2_goodsCount ≤ 8)) (h_x2_workCount : (0 ≤ x2_workCount ∧ x2_workCount ≤ 7)) (h_x2_years : (1 ≤ x2_years ∧ x2_years ≤ 30)) (h_x2_lines : (LnOk x2_lines)) (h_x2_goods : (GdOk x2_goods)) (h_x2_works : (WkOk x2_works)) (h_x2_change : (AI 0 99 x2_change)) (h_x2_coin : (AI 0 9 x2_coin)) (h_z6 : (0 ≤ z6)) (h_z7 : (AI 0 35 z7)) (h_z8 : (AI 0 35 z8)) (h_z10 : (AI 0 19 z10)) (h_z13 : (0 ≤ z13 ∧ z13 ≤ 60)) : Sf (lp (u11 (fX4_dearestLoss_s13 n x0_left x0_earned x0_turnCost x0_turnWayless x1_steps x1_nodes x1_stepCount x1_open x1_openCount x1_seen x2_lineCount x2_goodsCount x2_workCount x2_years x2_lines x2_goods x2_works x2_change x2_coin x2_knownFree x2_isKnown v1)) n (z4, z5, z6, z7, z8, z9, z10, z11, z12, z13, z14)) (fun e => (AI 0 35 e.2.1) ∧ (AI 0 35 e.2.2.1) ∧ (AI 0 19 e.2.2.2.2.1) ∧ (0 ≤ e.2.2.2.2.2.2.2.1 ∧ e.2.2.2.2.2.2.2.1 ≤ 60)) :=
  Sf.loop11 (fun z4 z5 z6 z7 z8 z9 z10 z11 z12 z13 z14 => (0 ≤ z6) ∧ (AI 0 35 z7) ∧ (AI 0 35 z8) ∧ (AI 0 19 z10) ∧ (0 ≤ z13 ∧ z13 ≤ 60)) (fun z4 z5 z6 z7 z8 z9 z10 z11 z12 z13 z14 => muUp z6) (fun z4 z5 z6 z7 z8 z9 z10 z11 z12 z13 z14 h => TX4_dearestLoss_s13 hn h_x1_steps h_x1_nodes h_x1_stepCount h_x1_open h_x1_openCount h_x2_lineCount h_x2_goodsCount h_x2_workCount h_x2_years h_x2_lines h_x2_goods h_x2_works h_x2_change h_x2_coin h.1 h.2.1 h.2.2.1 h.2.2.2.1 h.2.2.2.2) (show (0 ≤ z6) ∧ (AI 0 35 z7) ∧ (AI 0 35 z8) ∧ (AI 0 19 z10) ∧ (0 ≤ z13 ∧ z13 ≤ 60) from ⟨h_z6, h_z7, h_z8, h_z10, h_z13⟩) (muUp_n hn)
set_option maxHeartbeats 1000000 in
theorem sX4_dearestLoss {n : Nat} {x0_left x0_earned : (Nat → Int32)} {x0_turnCost x0_turnWayless : Int32} {x1_edgeA x1_edgeB x1_edgeCost x1_edgeLine x1_change x1_away x1_steps x1_nodes : (Nat → Int32)} {x1_stepCount : Int32} {x1_open : (Nat → Int32)} {x1_openCount : Int32} {x1_seen : Int64} {x1_edgeCount x1_aim x2_lineCount x2_goodsCount x2_workCount x2_years : Int32} {x2_lines x2_goods x2_works x2_change x2_coin x2_knownFree : (Nat → Int32)} {x2_isKnown : Int32} (hn : 1000000000000 ≤ n) (h_x1_edgeA : (AI 0 35 x1_edgeA)) (h_x1_edgeB : (AI 0 35 x1_edgeB)) (h_x1_edgeLine : (AI 0 19 x1_edgeLine)) (h_x1_steps : (AI 0 22 x1_steps)) (h_x1_nodes : (AI 0 35 x1_nodes)) (h_x1_stepCount : (0 ≤ x1_stepCount ∧ x1_stepCount ≤ 36)) (h_x1_open : (AI 0 35 x1_open)) (h_x1_openCount : (0 ≤ x1_openCount ∧ x1_openCount ≤ 36)) (h_x1_edgeCount : (0 ≤ x1_edgeCount ∧ x1_edgeCount ≤ 60)) (h_x2_lineCount : (0 ≤ x2_lineCount ∧ x2_lineCount ≤ 20)) (h_x2_goodsCount : (0 ≤ x2_goodsCount ∧ x2_goodsCount ≤ 8)) (h_x2_workCount : (0 ≤ x2_workCount ∧ x2_workCount ≤ 7)) (h_x2_years : (1 ≤ x2_years ∧ x2_years ≤ 30)) (h_x2_lines : (LnOk x2_lines)) (h_x2_goods : (GdOk x2_goods)) (h_x2_works : (WkOk x2_works)) (h_x2_change : (AI 0 99 x2_change)) (h_x2_coin : (AI 0 9 x2_coin)) : Sf (fX4_dearestLoss n (x0_left, x0_earned, x0_turnCost, x0_turnWayless) (x1_edgeA, x1_edgeB, x1_edgeCost, x1_edgeLine, x1_change, x1_away, x1_steps, x1_nodes, x1_stepCount, x1_open, x1_openCount, x1_seen, x1_edgeCount, x1_aim) (x2_lineCount, x2_goodsCount, x2_workCount, x2_years, x2_lines, x2_goods, x2_works, x2_change, x2_coin, x2_knownFree, x2_isKnown)) (fun r => (AI 0 35 r.2.1) ∧ (AI 0 35 r.2.2.1) ∧ (AI 0 19 r.2.2.2.2.1) ∧ (0 ≤ r.2.2.2.2.2.2.2.1 ∧ r.2.2.2.2.2.2.2.1 ≤ 60)) := by
  unfold fX4_dearestLoss
  dsimp only [u11, u14, u4]
  refine Sf.bind (sX1_linesThere hn h_x2_lineCount h_x2_goodsCount h_x2_workCount h_x2_years h_x2_lines h_x2_goods h_x2_works h_x2_change h_x2_coin) ?_
  intro v1 hr1
  refine Sf.bind (LX4_dearestLoss_s13 hn h_x1_steps h_x1_nodes h_x1_stepCount h_x1_open h_x1_openCount h_x2_lineCount h_x2_goodsCount h_x2_workCount h_x2_years h_x2_lines h_x2_goods h_x2_works h_x2_change h_x2_coin (by decide) h_x1_edgeA h_x1_edgeB h_x1_edgeLine h_x1_edgeCount) ?_
  rintro ⟨w16, w17, w18, w19, w20, w21, w22, w23, w24⟩ hr2
  obtain ⟨h_w17, h_w18, h_w20, h_w23⟩ : (AI 0 35 w17) ∧ (AI 0 35 w18) ∧ (AI 0 19 w20) ∧ (0 ≤ w23 ∧ w23 ≤ 60) := hr2
  dsimp only [u9]
  exact Sf.ok (show (AI 0 35 w17) ∧ (AI 0 35 w18) ∧ (AI 0 19 w20) ∧ (0 ≤ w23 ∧ w23 ≤ 60) from ⟨h_w17, h_w18, h_w20, h_w23⟩)
set_option maxHeartbeats 1000000 in
theorem sX5_widthAfter {x0_edgeA x0_edgeB x0_edgeCost x0_edgeLine x0_change x0_away x0_steps x0_nodes : (Nat → Int32)} {x0_stepCount : Int32} {x0_open : (Nat → Int32)} {x0_openCount : Int32} {x0_seen : Int64} {x0_edgeCount x0_aim p1 : Int32}  (h_x0_edgeA : (AI 0 35 x0_edgeA)) (h_x0_edgeB : (AI 0 35 x0_edgeB)) (h_x0_edgeLine : (AI 0 19 x0_edgeLine)) (h_x0_steps : (AI 0 22 x0_steps)) (h_x0_nodes : (AI 0 35 x0_nodes)) (h_x0_stepCount : (0 ≤ x0_stepCount ∧ x0_stepCount ≤ 36)) (h_x0_open : (AI 0 35 x0_open)) (h_x0_openCount : (0 ≤ x0_openCount ∧ x0_openCount ≤ 36)) (h_x0_edgeCount : (0 ≤ x0_edgeCount ∧ x0_edgeCount ≤ 60)) : Sf (fX5_widthAfter (x0_edgeA, x0_edgeB, x0_edgeCost, x0_edgeLine, x0_change, x0_away, x0_steps, x0_nodes, x0_stepCount, x0_open, x0_openCount, x0_seen, x0_edgeCount, x0_aim) p1) (fun r => True) := by
  unfold fX5_widthAfter
  dsimp only [u14]
  refine Sf.bind (sX6_within ) ?_
  intro v1 hr1
  have hx_v1 : ((v1 = 1 ∧ 0 ≤ p1 ∧ p1 ≤ (x0_stepCount - 1)) ∨ (v1 = 0 ∧ (p1 < 0 ∨ (x0_stepCount - 1) < p1))) := hr1
  refine Sf.ite (fun hc2 => ?_) (fun hc2 => ?_)
  · exact Sf.ok trivial
  · refine Sf.rdI 36 rfl h_x0_nodes (by grind) (fun v3 h_v3 e_v3 => ?_)
    clear e_v3
    exact Sf.ok trivial
theorem TX5_changesOnWay_s4 {x0_edgeA x0_edgeB x0_edgeCost x0_edgeLine x0_change x0_away x0_steps x0_nodes : (Nat → Int32)} {x0_stepCount : Int32} {x0_open : (Nat → Int32)} {x0_openCount : Int32} {x0_seen : Int64} {x0_edgeCount x0_aim z2 z3 : Int32}  (h_x0_edgeA : (AI 0 35 x0_edgeA)) (h_x0_edgeB : (AI 0 35 x0_edgeB)) (h_x0_edgeLine : (AI 0 19 x0_edgeLine)) (h_x0_steps : (AI 0 22 x0_steps)) (h_x0_nodes : (AI 0 35 x0_nodes)) (h_x0_stepCount : (0 ≤ x0_stepCount ∧ x0_stepCount ≤ 36)) (h_x0_open : (AI 0 35 x0_open)) (h_x0_openCount : (0 ≤ x0_openCount ∧ x0_openCount ≤ 36)) (h_x0_edgeCount : (0 ≤ x0_edgeCount ∧ x0_edgeCount ≤ 60)) (h_z3 : (0 ≤ z3)) : Sf (fX5_changesOnWay_s4 x0_edgeA x0_edgeB x0_edgeCost x0_edgeLine x0_change x0_away x0_steps x0_nodes x0_stepCount x0_open x0_openCount x0_seen x0_edgeCount x0_aim z2 z3) (LQ (u2 (fun z2 z3 => (0 ≤ z3))) (u2 (fun z2 z3 => muUp z3)) (muUp z3) (fun e => True)) := by
  unfold fX5_changesOnWay_s4
  refine Sf.ite (fun hc1 => ?_) (fun hc1 => ?_)
  · exact Sf.inr trivial
  · refine Sf.bind (sX5_isChange h_x0_edgeA h_x0_edgeB h_x0_edgeLine h_x0_steps h_x0_nodes h_x0_stepCount h_x0_open h_x0_openCount h_x0_edgeCount) ?_
    intro v6 hr2
    refine Sf.ite (fun hc3 => ?_) (fun hc3 => ?_)
    · exact Sf.inl (show (0 ≤ (z3 + 1)) from (by grind)) (muUp_lt hc1)
    · exact Sf.inl (show (0 ≤ (z3 + 1)) from (by grind)) (muUp_lt hc1)
theorem LX5_changesOnWay_s4 {n : Nat} {x0_edgeA x0_edgeB x0_edgeCost x0_edgeLine x0_change x0_away x0_steps x0_nodes : (Nat → Int32)} {x0_stepCount : Int32} {x0_open : (Nat → Int32)} {x0_openCount : Int32} {x0_seen : Int64} {x0_edgeCount x0_aim z2 z3 : Int32} (hn : 1000000000000 ≤ n) (h_x0_edgeA : (AI 0 35 x0_edgeA)) (h_x0_edgeB : (AI 0 35 x0_edgeB)) (h_x0_edgeLine : (AI 0 19 x0_edgeLine)) (h_x0_steps : (AI 0 22 x0_steps)) (h_x0_nodes : (AI 0 35 x0_nodes)) (h_x0_stepCount : (0 ≤ x0_stepCount ∧ x0_stepCount ≤ 36)) (h_x0_open : (AI 0 35 x0_open)) (h_x0_openCount : (0 ≤ x0_openCount ∧ x0_openCount ≤ 36)) (h_x0_edgeCount : (0 ≤ x0_edgeCount ∧ x0_edgeCount ≤ 60)) (h_z3 : (0 ≤ z3)) : Sf (lp (u2 (fX5_changesOnWay_s4 x0_edgeA x0_edgeB x0_edgeCost x0_edgeLine x0_change x0_away x0_steps x0_nodes x0_stepCount x0_open x0_openCount x0_seen x0_edgeCount x0_aim)) n (z2, z3)) (fun e => True) :=
  Sf.loop2 (fun z2 z3 => (0 ≤ z3)) (fun z2 z3 => muUp z3) (fun z2 z3 h => TX5_changesOnWay_s4 h_x0_edgeA h_x0_edgeB h_x0_edgeLine h_x0_steps h_x0_nodes h_x0_stepCount h_x0_open h_x0_openCount h_x0_edgeCount h) h_z3 (muUp_n hn)
set_option maxHeartbeats 1000000 in
theorem sX5_changesOnWay {n : Nat} {x0_edgeA x0_edgeB x0_edgeCost x0_edgeLine x0_change x0_away x0_steps x0_nodes : (Nat → Int32)} {x0_stepCount : Int32} {x0_open : (Nat → Int32)} {x0_openCount : Int32} {x0_seen : Int64} {x0_edgeCount x0_aim : Int32} (hn : 1000000000000 ≤ n) (h_x0_edgeA : (AI 0 35 x0_edgeA)) (h_x0_edgeB : (AI 0 35 x0_edgeB)) (h_x0_edgeLine : (AI 0 19 x0_edgeLine)) (h_x0_steps : (AI 0 22 x0_steps)) (h_x0_nodes : (AI 0 35 x0_nodes)) (h_x0_stepCount : (0 ≤ x0_stepCount ∧ x0_stepCount ≤ 36)) (h_x0_open : (AI 0 35 x0_open)) (h_x0_openCount : (0 ≤ x0_openCount ∧ x0_openCount ≤ 36)) (h_x0_edgeCount : (0 ≤ x0_edgeCount ∧ x0_edgeCount ≤ 60)) : Sf (fX5_changesOnWay n (x0_edgeA, x0_edgeB, x0_edgeCost, x0_edgeLine, x0_change, x0_away, x0_steps, x0_nodes, x0_stepCount, x0_open, x0_openCount, x0_seen, x0_edgeCount, x0_aim)) (fun r => True) := by
  unfold fX5_changesOnWay
  dsimp only [u14]
  refine Sf.bind (LX5_changesOnWay_s4 hn h_x0_edgeA h_x0_edgeB h_x0_edgeLine h_x0_steps h_x0_nodes h_x0_stepCount h_x0_open h_x0_openCount h_x0_edgeCount (by decide)) ?_
  intro w5 hr1
  exact Sf.ok trivial
set_option maxHeartbeats 1000000 in
theorem sX5_linesOnWay {n : Nat} {x0_edgeA x0_edgeB x0_edgeCost x0_edgeLine x0_change x0_away x0_steps x0_nodes : (Nat → Int32)} {x0_stepCount : Int32} {x0_open : (Nat → Int32)} {x0_openCount : Int32} {x0_seen : Int64} {x0_edgeCount x0_aim : Int32} (hn : 1000000000000 ≤ n) (h_x0_edgeA : (AI 0 35 x0_edgeA)) (h_x0_edgeB : (AI 0 35 x0_edgeB)) (h_x0_edgeLine : (AI 0 19 x0_edgeLine)) (h_x0_steps : (AI 0 22 x0_steps)) (h_x0_nodes : (AI 0 35 x0_nodes)) (h_x0_stepCount : (0 ≤ x0_stepCount ∧ x0_stepCount ≤ 36)) (h_x0_open : (AI 0 35 x0_open)) (h_x0_openCount : (0 ≤ x0_openCount ∧ x0_openCount ≤ 36)) (h_x0_edgeCount : (0 ≤ x0_edgeCount ∧ x0_edgeCount ≤ 60)) : Sf (fX5_linesOnWay n (x0_edgeA, x0_edgeB, x0_edgeCost, x0_edgeLine, x0_change, x0_away, x0_steps, x0_nodes, x0_stepCount, x0_open, x0_openCount, x0_seen, x0_edgeCount, x0_aim)) (fun r => True) := by
  unfold fX5_linesOnWay
  dsimp only [u14]
  refine Sf.bind (sX5_changesOnWay hn h_x0_edgeA h_x0_edgeB h_x0_edgeLine h_x0_steps h_x0_nodes h_x0_stepCount h_x0_open h_x0_openCount h_x0_edgeCount) ?_
  intro v1 hr1
  exact Sf.ok trivial
theorem TX5_lineAt_s4 {p1 : Int32} {x0_edgeA x0_edgeB x0_edgeCost x0_edgeLine x0_change x0_away x0_steps x0_nodes : (Nat → Int32)} {x0_stepCount : Int32} {x0_open : (Nat → Int32)} {x0_openCount : Int32} {x0_seen : Int64} {x0_edgeCount x0_aim z2 z3 : Int32}  (h_x0_edgeA : (AI 0 35 x0_edgeA)) (h_x0_edgeB : (AI 0 35 x0_edgeB)) (h_x0_edgeLine : (AI 0 19 x0_edgeLine)) (h_x0_steps : (AI 0 22 x0_steps)) (h_x0_nodes : (AI 0 35 x0_nodes)) (h_x0_stepCount : (0 ≤ x0_stepCount ∧ x0_stepCount ≤ 36)) (h_x0_open : (AI 0 35 x0_open)) (h_x0_openCount : (0 ≤ x0_openCount ∧ x0_openCount ≤ 36)) (h_x0_edgeCount : (0 ≤ x0_edgeCount ∧ x0_edgeCount ≤ 60)) (h_z3 : (0 ≤ z3)) : Sf (fX5_lineAt_s4 p1 x0_edgeA x0_edgeB x0_edgeCost x0_edgeLine x0_change x0_away x0_steps x0_nodes x0_stepCount x0_open x0_openCount x0_seen x0_edgeCount x0_aim z2 z3) (LQ (u2 (fun z2 z3 => (0 ≤ z3))) (u2 (fun z2 z3 => muUp z3)) (muUp z3) ((Sum.elim (fun a => ((-1) ≤ a ∧ a ≤ 19)) (fun a => True)))) := by
  unfold fX5_lineAt_s4
  refine Sf.ite (fun hc1 => ?_) (fun hc1 => ?_)
  · exact Sf.inr trivial
  · refine Sf.bind (sX5_lineOn h_x0_edgeA h_x0_edgeB h_x0_edgeLine h_x0_steps h_x0_nodes h_x0_stepCount h_x0_open h_x0_openCount h_x0_edgeCount) ?_
    intro v6 hr2
    have h_v6 : ((-1) ≤ v6 ∧ v6 ≤ 19) := hr2
    refine Sf.ite (fun hc3 => ?_) (fun hc3 => ?_)
    · exact Sf.inl (show (0 ≤ (z3 + 1)) from (by grind)) (muUp_lt hc1)
    · refine Sf.ite (fun hc4 => ?_) (fun hc4 => ?_)
      · exact Sf.inr (show ((-1) ≤ v6 ∧ v6 ≤ 19) from h_v6)
      · exact Sf.inl (show (0 ≤ (z3 + 1)) from (by grind)) (muUp_lt hc1)
theorem LX5_lineAt_s4 {n : Nat} {p1 : Int32} {x0_edgeA x0_edgeB x0_edgeCost x0_edgeLine x0_change x0_away x0_steps x0_nodes : (Nat → Int32)} {x0_stepCount : Int32} {x0_open : (Nat → Int32)} {x0_openCount : Int32} {x0_seen : Int64} {x0_edgeCount x0_aim z2 z3 : Int32} (hn : 1000000000000 ≤ n) (h_x0_edgeA : (AI 0 35 x0_edgeA)) (h_x0_edgeB : (AI 0 35 x0_edgeB)) (h_x0_edgeLine : (AI 0 19 x0_edgeLine)) (h_x0_steps : (AI 0 22 x0_steps)) (h_x0_nodes : (AI 0 35 x0_nodes)) (h_x0_stepCount : (0 ≤ x0_stepCount ∧ x0_stepCount ≤ 36)) (h_x0_open : (AI 0 35 x0_open)) (h_x0_openCount : (0 ≤ x0_openCount ∧ x0_openCount ≤ 36)) (h_x0_edgeCount : (0 ≤ x0_edgeCount ∧ x0_edgeCount ≤ 60)) (h_z3 : (0 ≤ z3)) : Sf (lp (u2 (fX5_lineAt_s4 p1 x0_edgeA x0_edgeB x0_edgeCost x0_edgeLine x0_change x0_away x0_steps x0_nodes x0_stepCount x0_open x0_openCount x0_seen x0_edgeCount x0_aim)) n (z2, z3)) ((Sum.elim (fun a => ((-1) ≤ a ∧ a ≤ 19)) (fun a => True))) :=
  Sf.loop2 (fun z2 z3 => (0 ≤ z3)) (fun z2 z3 => muUp z3) (fun z2 z3 h => TX5_lineAt_s4 h_x0_edgeA h_x0_edgeB h_x0_edgeLine h_x0_steps h_x0_nodes h_x0_stepCount h_x0_open h_x0_openCount h_x0_edgeCount h) h_z3 (muUp_n hn)
set_option maxHeartbeats 1000000 in
theorem sX5_lineAt {n : Nat} {x0_edgeA x0_edgeB x0_edgeCost x0_edgeLine x0_change x0_away x0_steps x0_nodes : (Nat → Int32)} {x0_stepCount : Int32} {x0_open : (Nat → Int32)} {x0_openCount : Int32} {x0_seen : Int64} {x0_edgeCount x0_aim p1 : Int32} (hn : 1000000000000 ≤ n) (h_x0_edgeA : (AI 0 35 x0_edgeA)) (h_x0_edgeB : (AI 0 35 x0_edgeB)) (h_x0_edgeLine : (AI 0 19 x0_edgeLine)) (h_x0_steps : (AI 0 22 x0_steps)) (h_x0_nodes : (AI 0 35 x0_nodes)) (h_x0_stepCount : (0 ≤ x0_stepCount ∧ x0_stepCount ≤ 36)) (h_x0_open : (AI 0 35 x0_open)) (h_x0_openCount : (0 ≤ x0_openCount ∧ x0_openCount ≤ 36)) (h_x0_edgeCount : (0 ≤ x0_edgeCount ∧ x0_edgeCount ≤ 60)) : Sf (fX5_lineAt n (x0_edgeA, x0_edgeB, x0_edgeCost, x0_edgeLine, x0_change, x0_away, x0_steps, x0_nodes, x0_stepCount, x0_open, x0_openCount, x0_seen, x0_edgeCount, x0_aim) p1) (fun r => True) := by
  unfold fX5_lineAt
  dsimp only [u14]
  refine Sf.bindS (LX5_lineAt_s4 hn h_x0_edgeA h_x0_edgeB h_x0_edgeLine h_x0_steps h_x0_nodes h_x0_stepCount h_x0_open h_x0_openCount h_x0_edgeCount (by decide)) ?_ ?_
  · intro w5 hr1
    have h_w5 : ((-1) ≤ w5 ∧ w5 ≤ 19) := hr1
    exact Sf.ok trivial
  · intro _ _
    exact Sf.ok trivial
